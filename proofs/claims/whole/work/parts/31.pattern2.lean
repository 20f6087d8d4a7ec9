/-! periods -/
def gdR (w p R C : Nat) (dp : Nat → Int) (r n : Nat) : Prop := r + (if w = 1 then p else 0) < R → n + (if w = 0 then p else 0) < C → dp (12 * r + n) = dp (12 * (r + (if w = 1 then p else 0)) + (n + (if w = 0 then p else 0)))
theorem rp_in (Rf Cf : Nat → Nat) (nc : Nat) {σ : fx_M} {g w p R C : Nat} {dp : Nat → Int} (hRf : Rf g = R ∧ Cf g = C) (hR : R ≤ 12) (hC : C ≤ 12) (hw : w < 2) (hp : p ≤ 12) (hD : DC g R C dp σ) (r : Nat) (hr : r + (if w = 1 then p else 0) < R) (v1 v2 : Option fx_V) :
    ∀ (d n : Nat), n + d = C → ((∃ n', n' < C ∧ ¬ gdR w p R C dp r n') ∧ fx_E (fx_S Rf Cf nc) 23 39 [some (.inr (some (12, g))), v1, v2, some (.inl ((if w = 1 then p else 0 : Nat) : Int)), some (.inl ((if w = 0 then p else 0 : Nat) : Int)), some (.inl (r : Int)), some (.inl (n : Int))] [] σ = some (some (.inl 0), σ)) ∨ ((∀ n', n ≤ n' → n' < C → gdR w p R C dp r n') ∧ ∃ u : Option fx_V, fx_E (fx_S Rf Cf nc) 23 39 [some (.inr (some (12, g))), v1, v2, some (.inl ((if w = 1 then p else 0 : Nat) : Int)), some (.inl ((if w = 0 then p else 0 : Nat) : Int)), some (.inl (r : Int)), some (.inl (n : Int))] [] σ = fx_E (fx_S Rf Cf nc) 23 25 [some (.inr (some (12, g))), v1, v2, some (.inl ((if w = 1 then p else 0 : Nat) : Int)), some (.inl ((if w = 0 then p else 0 : Nat) : Int)), some (.inl ((r + 1 : Nat) : Int)), u] [] σ) := by
  obtain ⟨⟨h0, h1, h2⟩, hd, hb⟩ := id hD
  unfold gdR
  have hdn : (if w = 1 then p else 0) ≤ 12 := by split <;> omega
  have hal : (if w = 0 then p else 0) ≤ 12 := by split <;> omega
  generalize (if w = 1 then p else 0) = dn at *
  generalize (if w = 0 then p else 0) = al at *
  intro d
  induction d with
  | zero =>
    intro n hn
    obtain rfl : n = C := by omega
    right
    refine ⟨fun n' h1 h2 => by omega, some (.inl (n : Int)), ?_⟩
    rw [eX1_repeats_39]
    simp (disch := omega) only [eX1_repeats_0, eX1_repeats_1, eX1_repeats_2, eX1_repeats_5, eX1_repeats_6, eX1_repeats_9, eX1_repeats_10, eX1_repeats_11, eX1_repeats_12, eX1_repeats_15, eX1_repeats_16, eX1_repeats_19, eX1_repeats_20, eX1_repeats_22, eX1_repeats_23, eX1_repeats_27, eX1_repeats_28, eX1_repeats_29, eX1_repeats_30, eX1_repeats_33, eX1_repeats_36, eX1_repeats_37, eX1_repeats_41, eX1_repeats_43, eX1_repeats_44, eX1_repeats_45, eX1_repeats_48, eX1_repeats_51, eX1_repeats_52, eX1_repeats_55, eX1_repeats_57, eX1_repeats_58, eX1_repeats_61, eX1_repeats_62, eX1_repeats_64, eX1_repeats_65, eX1_repeats_66, eX1_repeats_67, eX1_repeats_70, eX1_repeats_72, eX1_repeats_73, eX1_repeats_74, eX1_repeats_75, eX1_repeats_78, eX1_repeats_79, eX1_repeats_81, eX1_repeats_82, eX1_repeats_84, eX1_repeats_85, eX1_repeats_86, eX1_repeats_89, eX1_repeats_90, eX1_repeats_91, eX1_repeats_94, eX1_repeats_97, eX1_repeats_100, eX1_repeats_103, eX1_repeats_104, fx_bd_some, Option.toList_some, Option.toList_none, List.nil_append, List.cons_append, fx_uo, fx_ui, Int.toNat_natCast, ↓reduceIte, Int.reduceEq, Int.reduceLT, Int.reduceLE, Int.reduceNeg, h1]
    rw [if_neg (by omega), show (r : Int) + 1 = ((r + 1 : Nat) : Int) by omega]
  | succ d ih =>
    intro n hn
    by_cases hq : n + al < C
    · have hlt := mul_add_lt (r := r) (R := R) (C := C) (n := n) (by omega) (by omega)
      have hlt2 := mul_add_lt (r := r + dn) (R := R) (C := C) (n := n + al) hr hq
      have i0 : (r : Int) * (C : Int) + (n : Int) = ((r * C + n : Nat) : Int) := by simp
      have i1 : ((r : Int) + (dn : Int)) * (C : Int) + (n : Int) + (al : Int) = (((r + dn) * C + (n + al) : Nat) : Int) := by simp; omega
      have hn1 : ((n : Int) + (al : Int) < (C : Int)) = True := by simp; omega
      have f1 := hd r n (by omega) (by omega)
      have f2 := hd (r + dn) (n + al) hr hq
      have w1 := hb r n (by omega) (by omega)
      have w2 := hb (r + dn) (n + al) hr hq
      have hl : Rf g * Cf g = R * C := by rw [hRf.1, hRf.2]
      rw [eX1_repeats_39]
      simp (disch := omega) only [eX1_repeats_0, eX1_repeats_1, eX1_repeats_2, eX1_repeats_5, eX1_repeats_6, eX1_repeats_9, eX1_repeats_10, eX1_repeats_11, eX1_repeats_12, eX1_repeats_15, eX1_repeats_16, eX1_repeats_19, eX1_repeats_20, eX1_repeats_22, eX1_repeats_23, eX1_repeats_27, eX1_repeats_28, eX1_repeats_29, eX1_repeats_30, eX1_repeats_33, eX1_repeats_36, eX1_repeats_37, eX1_repeats_41, eX1_repeats_43, eX1_repeats_44, eX1_repeats_45, eX1_repeats_48, eX1_repeats_51, eX1_repeats_52, eX1_repeats_55, eX1_repeats_57, eX1_repeats_58, eX1_repeats_61, eX1_repeats_62, eX1_repeats_64, eX1_repeats_65, eX1_repeats_66, eX1_repeats_67, eX1_repeats_70, eX1_repeats_72, eX1_repeats_73, eX1_repeats_74, eX1_repeats_75, eX1_repeats_78, eX1_repeats_79, eX1_repeats_81, eX1_repeats_82, eX1_repeats_84, eX1_repeats_85, eX1_repeats_86, eX1_repeats_89, eX1_repeats_90, eX1_repeats_91, eX1_repeats_94, eX1_repeats_97, eX1_repeats_100, eX1_repeats_103, eX1_repeats_104, fx_bd_some, Option.toList_some, Option.toList_none, List.nil_append, List.cons_append, fx_uo, fx_ui, Int.toNat_natCast, ↓reduceIte, Int.reduceEq, Int.reduceLT, Int.reduceLE, Int.reduceNeg, h1, i0, i1, hn1, f1, f2]
      by_cases ha : dp (12 * r + n) = dp (12 * (r + dn) + (n + al))
      · rw [if_pos ha, show (n : Int) + 1 = ((n + 1 : Nat) : Int) by omega]
        rcases ih (n + 1) (by omega) with q1 | ⟨q1, q2⟩
        · exact Or.inl q1
        · right
          refine ⟨fun n' h1 h2 => ?_, q2⟩
          by_cases hq2 : n' = n
          · subst hq2; exact fun _ _ => ha
          · exact q1 n' (by omega) h2
      · rw [if_neg ha]
        exact Or.inl ⟨⟨n, by omega, fun q => ha (q hr hq)⟩, rfl⟩
    · right
      refine ⟨fun n' h1 h2 _ h4 => by omega, some (.inl (n : Int)), ?_⟩
      rw [eX1_repeats_39]
      simp (disch := omega) only [eX1_repeats_0, eX1_repeats_1, eX1_repeats_2, eX1_repeats_5, eX1_repeats_6, eX1_repeats_9, eX1_repeats_10, eX1_repeats_11, eX1_repeats_12, eX1_repeats_15, eX1_repeats_16, eX1_repeats_19, eX1_repeats_20, eX1_repeats_22, eX1_repeats_23, eX1_repeats_27, eX1_repeats_28, eX1_repeats_29, eX1_repeats_30, eX1_repeats_33, eX1_repeats_36, eX1_repeats_37, eX1_repeats_41, eX1_repeats_43, eX1_repeats_44, eX1_repeats_45, eX1_repeats_48, eX1_repeats_51, eX1_repeats_52, eX1_repeats_55, eX1_repeats_57, eX1_repeats_58, eX1_repeats_61, eX1_repeats_62, eX1_repeats_64, eX1_repeats_65, eX1_repeats_66, eX1_repeats_67, eX1_repeats_70, eX1_repeats_72, eX1_repeats_73, eX1_repeats_74, eX1_repeats_75, eX1_repeats_78, eX1_repeats_79, eX1_repeats_81, eX1_repeats_82, eX1_repeats_84, eX1_repeats_85, eX1_repeats_86, eX1_repeats_89, eX1_repeats_90, eX1_repeats_91, eX1_repeats_94, eX1_repeats_97, eX1_repeats_100, eX1_repeats_103, eX1_repeats_104, fx_bd_some, Option.toList_some, Option.toList_none, List.nil_append, List.cons_append, fx_uo, fx_ui, Int.toNat_natCast, ↓reduceIte, Int.reduceEq, Int.reduceLT, Int.reduceLE, Int.reduceNeg, h1]
      rw [if_neg (by omega), show (r : Int) + 1 = ((r + 1 : Nat) : Int) by omega]
theorem rp_lp (Rf Cf : Nat → Nat) (nc : Nat) {σ : fx_M} {g w p R C : Nat} {dp : Nat → Int} (hRf : Rf g = R ∧ Cf g = C) (hR : R ≤ 12) (hC : C ≤ 12) (hw : w < 2) (hp : p ≤ 12) (hD : DC g R C dp σ) (v1 v2 : Option fx_V) :
    ∀ (d r : Nat) (u : Option fx_V), r + d = R → ∃ v : Int, fx_E (fx_S Rf Cf nc) 23 25 [some (.inr (some (12, g))), v1, v2, some (.inl ((if w = 1 then p else 0 : Nat) : Int)), some (.inl ((if w = 0 then p else 0 : Nat) : Int)), some (.inl (r : Int)), u] [] σ = some (some (.inl v), σ) ∧ ((v = 0 ∧ ∃ r' n', r' < R ∧ n' < C ∧ ¬ gdR w p R C dp r' n') ∨ (v = 1 ∧ ∀ r' n', r ≤ r' → r' < R → n' < C → gdR w p R C dp r' n')) := by
  obtain ⟨⟨h0, h1, h2⟩, hd, hb⟩ := id hD
  have hdn : (if w = 1 then p else 0) ≤ 12 := by split <;> omega
  have key : ∀ r, R ≤ r + (if w = 1 then p else 0) → r ≤ 12 → ∀ u : Option fx_V, ∃ v : Int, fx_E (fx_S Rf Cf nc) 23 25 [some (.inr (some (12, g))), v1, v2, some (.inl ((if w = 1 then p else 0 : Nat) : Int)), some (.inl ((if w = 0 then p else 0 : Nat) : Int)), some (.inl (r : Int)), u] [] σ = some (some (.inl v), σ) ∧ ((v = 0 ∧ ∃ r' n', r' < R ∧ n' < C ∧ ¬ gdR w p R C dp r' n') ∨ (v = 1 ∧ ∀ r' n', r ≤ r' → r' < R → n' < C → gdR w p R C dp r' n')) := by
    intro r h h12 u
    have hg : ∀ r' n', r ≤ r' → r' < R → n' < C → gdR w p R C dp r' n' := fun r' n' h1 h2 h3 h4 h5 => by omega
    generalize (if w = 1 then p else 0) = dn at *
    rw [eX1_repeats_25]
    simp (disch := omega) only [eX1_repeats_0, eX1_repeats_1, eX1_repeats_2, eX1_repeats_5, eX1_repeats_6, eX1_repeats_9, eX1_repeats_10, eX1_repeats_11, eX1_repeats_12, eX1_repeats_15, eX1_repeats_16, eX1_repeats_19, eX1_repeats_20, eX1_repeats_22, eX1_repeats_23, eX1_repeats_27, eX1_repeats_28, eX1_repeats_29, eX1_repeats_30, eX1_repeats_33, eX1_repeats_36, eX1_repeats_37, eX1_repeats_41, eX1_repeats_43, eX1_repeats_44, eX1_repeats_45, eX1_repeats_48, eX1_repeats_51, eX1_repeats_52, eX1_repeats_55, eX1_repeats_57, eX1_repeats_58, eX1_repeats_61, eX1_repeats_62, eX1_repeats_64, eX1_repeats_65, eX1_repeats_66, eX1_repeats_67, eX1_repeats_70, eX1_repeats_72, eX1_repeats_73, eX1_repeats_74, eX1_repeats_75, eX1_repeats_78, eX1_repeats_79, eX1_repeats_81, eX1_repeats_82, eX1_repeats_84, eX1_repeats_85, eX1_repeats_86, eX1_repeats_89, eX1_repeats_90, eX1_repeats_91, eX1_repeats_94, eX1_repeats_97, eX1_repeats_100, eX1_repeats_103, eX1_repeats_104, fx_bd_some, Option.toList_some, Option.toList_none, List.nil_append, List.cons_append, fx_uo, fx_ui, Int.toNat_natCast, ↓reduceIte, Int.reduceEq, Int.reduceLT, Int.reduceLE, Int.reduceNeg, h0]
    rw [if_neg (by omega)]
    exact ⟨1, rfl, Or.inr ⟨rfl, hg⟩⟩
  intro d
  induction d with
  | zero =>
    intro r u hr
    exact key r (by omega) (by omega) u
  | succ d ih =>
    intro r u hr
    by_cases hq : r + (if w = 1 then p else 0) < R
    · have hcmp : ((r : Int) + ((if w = 1 then p else 0 : Nat) : Int) < (R : Int)) = True := by
        generalize (if w = 1 then p else 0) = dn at *
        simp; omega
      have hb1 : -2147483648 ≤ (r : Int) + ((if w = 1 then p else 0 : Nat) : Int) ∧ (r : Int) + ((if w = 1 then p else 0 : Nat) : Int) ≤ 2147483647 := by
        generalize (if w = 1 then p else 0) = dn at *
        omega
      rw [eX1_repeats_25]
      simp (disch := first | exact hb1.1 | exact hb1.2 | omega) only [eX1_repeats_0, eX1_repeats_1, eX1_repeats_2, eX1_repeats_5, eX1_repeats_6, eX1_repeats_9, eX1_repeats_10, eX1_repeats_11, eX1_repeats_12, eX1_repeats_15, eX1_repeats_16, eX1_repeats_19, eX1_repeats_20, eX1_repeats_22, eX1_repeats_23, eX1_repeats_27, eX1_repeats_28, eX1_repeats_29, eX1_repeats_30, eX1_repeats_33, eX1_repeats_36, eX1_repeats_37, eX1_repeats_41, eX1_repeats_43, eX1_repeats_44, eX1_repeats_45, eX1_repeats_48, eX1_repeats_51, eX1_repeats_52, eX1_repeats_55, eX1_repeats_57, eX1_repeats_58, eX1_repeats_61, eX1_repeats_62, eX1_repeats_64, eX1_repeats_65, eX1_repeats_66, eX1_repeats_67, eX1_repeats_70, eX1_repeats_72, eX1_repeats_73, eX1_repeats_74, eX1_repeats_75, eX1_repeats_78, eX1_repeats_79, eX1_repeats_81, eX1_repeats_82, eX1_repeats_84, eX1_repeats_85, eX1_repeats_86, eX1_repeats_89, eX1_repeats_90, eX1_repeats_91, eX1_repeats_94, eX1_repeats_97, eX1_repeats_100, eX1_repeats_103, eX1_repeats_104, fx_bd_some, Option.toList_some, Option.toList_none, List.nil_append, List.cons_append, fx_uo, fx_ui, Int.toNat_natCast, ↓reduceIte, Int.reduceEq, Int.reduceLT, Int.reduceLE, Int.reduceNeg, h0, hcmp]
      rcases rp_in Rf Cf nc hRf hR hC hw hp hD r hq v1 v2 C 0 (by omega) with ⟨⟨n', k1, k2⟩, k3⟩ | ⟨q1, u', q2⟩
      · exact ⟨0, k3, Or.inl ⟨rfl, r, n', by omega, k1, k2⟩⟩
      · obtain ⟨v, v3, v4⟩ := ih (r + 1) u' (by omega)
        refine ⟨v, q2.trans v3, ?_⟩
        rcases v4 with v4 | ⟨v4, v5⟩
        · exact Or.inl v4
        · right
          refine ⟨v4, fun r' n' h1 h2 h3 => ?_⟩
          by_cases q3 : r' = r
          · subst q3; exact q1 n' (by omega) h3
          · exact v5 r' n' (by omega) h2 h3
    · exact key r (by omega) (by omega) u
theorem sp_repeats (Rf Cf : Nat → Nat) (nc : Nat) {σ : fx_M} {g w p R C : Nat} {dp : Nat → Int} (hRf : Rf g = R ∧ Cf g = C) (hR : R ≤ 12) (hC : C ≤ 12) (hw : w < 2) (hp : p ≤ 12) (hD : DC g R C dp σ) : ∃ v : Int, fx_Ca (fx_S Rf Cf nc) 23 [.inr (some (12, g)), .inl (w : Int), .inl (p : Int)] σ = some (some (.inl v), σ) ∧ ((v = 0 ∧ ∃ r' n', r' < R ∧ n' < C ∧ ¬ gdR w p R C dp r' n') ∨ (v = 1 ∧ ∀ r' n', r' < R → n' < C → gdR w p R C dp r' n')) := by
  obtain ⟨v, v1, v2⟩ := rp_lp Rf Cf nc hRf hR hC hw hp hD (some (.inl (w : Int))) (some (.inl (p : Int))) R 0 none (by omega)
  refine ⟨v, ?_, ?_⟩
  · rw [entX1_repeats, ← v1]
    rcases (show w = 0 ∨ w = 1 by omega) with rfl | rfl
    · simp (disch := omega) only [eX1_repeats_0, eX1_repeats_1, eX1_repeats_2, eX1_repeats_5, eX1_repeats_6, eX1_repeats_9, eX1_repeats_10, eX1_repeats_11, eX1_repeats_12, eX1_repeats_15, eX1_repeats_16, eX1_repeats_19, eX1_repeats_20, eX1_repeats_22, eX1_repeats_23, eX1_repeats_27, eX1_repeats_28, eX1_repeats_29, eX1_repeats_30, eX1_repeats_33, eX1_repeats_36, eX1_repeats_37, eX1_repeats_41, eX1_repeats_43, eX1_repeats_44, eX1_repeats_45, eX1_repeats_48, eX1_repeats_51, eX1_repeats_52, eX1_repeats_55, eX1_repeats_57, eX1_repeats_58, eX1_repeats_61, eX1_repeats_62, eX1_repeats_64, eX1_repeats_65, eX1_repeats_66, eX1_repeats_67, eX1_repeats_70, eX1_repeats_72, eX1_repeats_73, eX1_repeats_74, eX1_repeats_75, eX1_repeats_78, eX1_repeats_79, eX1_repeats_81, eX1_repeats_82, eX1_repeats_84, eX1_repeats_85, eX1_repeats_86, eX1_repeats_89, eX1_repeats_90, eX1_repeats_91, eX1_repeats_94, eX1_repeats_97, eX1_repeats_100, eX1_repeats_103, eX1_repeats_104, fx_bd_some, Option.toList_some, Option.toList_none, List.nil_append, List.cons_append, fx_uo, fx_ui, Int.toNat_natCast, ↓reduceIte, Int.reduceEq, Int.reduceLT, Int.reduceLE, Int.reduceNeg, ic0]
      simp
    · simp (disch := omega) only [eX1_repeats_0, eX1_repeats_1, eX1_repeats_2, eX1_repeats_5, eX1_repeats_6, eX1_repeats_9, eX1_repeats_10, eX1_repeats_11, eX1_repeats_12, eX1_repeats_15, eX1_repeats_16, eX1_repeats_19, eX1_repeats_20, eX1_repeats_22, eX1_repeats_23, eX1_repeats_27, eX1_repeats_28, eX1_repeats_29, eX1_repeats_30, eX1_repeats_33, eX1_repeats_36, eX1_repeats_37, eX1_repeats_41, eX1_repeats_43, eX1_repeats_44, eX1_repeats_45, eX1_repeats_48, eX1_repeats_51, eX1_repeats_52, eX1_repeats_55, eX1_repeats_57, eX1_repeats_58, eX1_repeats_61, eX1_repeats_62, eX1_repeats_64, eX1_repeats_65, eX1_repeats_66, eX1_repeats_67, eX1_repeats_70, eX1_repeats_72, eX1_repeats_73, eX1_repeats_74, eX1_repeats_75, eX1_repeats_78, eX1_repeats_79, eX1_repeats_81, eX1_repeats_82, eX1_repeats_84, eX1_repeats_85, eX1_repeats_86, eX1_repeats_89, eX1_repeats_90, eX1_repeats_91, eX1_repeats_94, eX1_repeats_97, eX1_repeats_100, eX1_repeats_103, eX1_repeats_104, fx_bd_some, Option.toList_some, Option.toList_none, List.nil_append, List.cons_append, fx_uo, fx_ui, Int.toNat_natCast, ↓reduceIte, Int.reduceEq, Int.reduceLT, Int.reduceLE, Int.reduceNeg, ic1]
      simp
  · rcases v2 with v2 | ⟨v2, v3⟩
    · exact Or.inl v2
    · exact Or.inr ⟨v2, fun r' n' => v3 r' n' (by omega)⟩
/-! the reference's periods -/
theorem gn_in (Rf Cf : Nat → Nat) (nc : Nat) {σ : fx_M} {c w p R C : Nat} {dp : Nat → Int} (hc : c < 7) (hR : R ≤ 12) (hC : C ≤ 12) (hw : w < 2) (hp : p ≤ 12) (hD : DM c R C dp σ) (r : Nat) (hr : r < R) :
    ∀ (d n : Nat) (u6 u7 : Option fx_V), n + d = C → ((∃ n', n' < C ∧ ¬ gdR w p R C dp r n') ∧ fx_E (fx_S Rf Cf nc) 109 17 [some (.inr (some (20, 0))), some (.inl (c : Int)), some (.inl (w : Int)), some (.inl (p : Int)), some (.inl (r : Int)), some (.inl (n : Int)), u6, u7] [] σ = some (some (.inl 0), σ)) ∨ ((∀ n', n ≤ n' → n' < C → gdR w p R C dp r n') ∧ ∃ w6 w7 : Option fx_V, fx_E (fx_S Rf Cf nc) 109 17 [some (.inr (some (20, 0))), some (.inl (c : Int)), some (.inl (w : Int)), some (.inl (p : Int)), some (.inl (r : Int)), some (.inl (n : Int)), u6, u7] [] σ = fx_E (fx_S Rf Cf nc) 109 3 [some (.inr (some (20, 0))), some (.inl (c : Int)), some (.inl (w : Int)), some (.inl (p : Int)), some (.inl ((r + 1 : Nat) : Int)), some (.inl (C : Int)), w6, w7] [] σ) := by
  obtain ⟨⟨h0, h1⟩, hd, hb⟩ := id hD
  intro d
  induction d with
  | zero =>
    intro n u6 u7 hn
    obtain rfl : n = C := by omega
    right
    refine ⟨fun n' h1 h2 => by omega, u6, u7, ?_⟩
    have hn1 : ((n : Int) < (n : Int)) = False := by simp
    rw [eX7_goesOn_17]
    simp (disch := omega) only [eX7_goesOn_0, eX7_goesOn_1, eX7_goesOn_5, eX7_goesOn_6, eX7_goesOn_9, eX7_goesOn_10, eX7_goesOn_11, eX7_goesOn_14, eX7_goesOn_15, eX7_goesOn_19, eX7_goesOn_20, eX7_goesOn_23, eX7_goesOn_24, eX7_goesOn_25, eX7_goesOn_28, eX7_goesOn_29, eX7_goesOn_30, eX7_goesOn_33, eX7_goesOn_35, eX7_goesOn_36, eX7_goesOn_37, eX7_goesOn_40, eX7_goesOn_42, eX7_goesOn_44, eX7_goesOn_45, eX7_goesOn_48, eX7_goesOn_50, eX7_goesOn_51, eX7_goesOn_52, eX7_goesOn_55, eX7_goesOn_57, eX7_goesOn_59, eX7_goesOn_61, eX7_goesOn_62, eX7_goesOn_65, eX7_goesOn_66, eX7_goesOn_67, eX7_goesOn_70, eX7_goesOn_72, eX7_goesOn_73, eX7_goesOn_76, eX7_goesOn_77, eX7_goesOn_78, eX7_goesOn_81, eX7_goesOn_82, eX7_goesOn_83, eX7_goesOn_85, eX7_goesOn_87, eX7_goesOn_90, eX7_goesOn_91, eX7_goesOn_92, eX7_goesOn_94, eX7_goesOn_96, eX7_goesOn_99, eX7_goesOn_102, eX7_goesOn_103, eX7_goesOn_104, eX7_goesOn_107, eX7_goesOn_110, eX7_goesOn_113, eX7_goesOn_116, eX7_goesOn_117, fx_bd_some, Option.toList_some, Option.toList_none, List.nil_append, List.cons_append, fx_uo, fx_ui, Int.toNat_natCast, ↓reduceIte, Int.reduceEq, Int.reduceLT, Int.reduceLE, Int.reduceNeg, h1, hn1]
    rw [show (r : Int) + 1 = ((r + 1 : Nat) : Int) by omega]
  | succ d ih =>
    intro n u6 u7 hn
    have hn1 : ((n : Int) < (C : Int)) = True := by simp; omega
    have e1 := sp_at Rf Cf nc σ c r n hc (by omega) (by omega)
    rw [hd r n hr (by omega)] at e1
    have w1 := hb r n hr (by omega)
    have step : ∃ w6 w7 : Option fx_V, (¬ gdR w p R C dp r n ∧ fx_E (fx_S Rf Cf nc) 109 17 [some (.inr (some (20, 0))), some (.inl (c : Int)), some (.inl (w : Int)), some (.inl (p : Int)), some (.inl (r : Int)), some (.inl (n : Int)), u6, u7] [] σ = some (some (.inl 0), σ)) ∨ (gdR w p R C dp r n ∧ fx_E (fx_S Rf Cf nc) 109 17 [some (.inr (some (20, 0))), some (.inl (c : Int)), some (.inl (w : Int)), some (.inl (p : Int)), some (.inl (r : Int)), some (.inl (n : Int)), u6, u7] [] σ = fx_E (fx_S Rf Cf nc) 109 17 [some (.inr (some (20, 0))), some (.inl (c : Int)), some (.inl (w : Int)), some (.inl (p : Int)), some (.inl (r : Int)), some (.inl ((n + 1 : Nat) : Int)), w6, w7] [] σ) := by
      rw [eX7_goesOn_17]
      unfold gdR
      rcases (show w = 0 ∨ w = 1 by omega) with rfl | rfl
      · refine ⟨some (.inl (r : Int)), some (.inl ((n : Int) + (p : Int))), ?_⟩
        have hr1 : ((r : Int) < (R : Int)) = True := by simp; omega
        by_cases hq : n + p < C
        · have e2 := sp_at Rf Cf nc σ c r (n + p) hc (by omega) (by omega)
          rw [hd r (n + p) hr hq] at e2
          have w2 := hb r (n + p) hr hq
          rw [Int.natCast_add] at e2
          have hq1 : ((n : Int) + (p : Int) < (C : Int)) = True := by simp; omega
          simp (disch := omega) only [eX7_goesOn_0, eX7_goesOn_1, eX7_goesOn_5, eX7_goesOn_6, eX7_goesOn_9, eX7_goesOn_10, eX7_goesOn_11, eX7_goesOn_14, eX7_goesOn_15, eX7_goesOn_19, eX7_goesOn_20, eX7_goesOn_23, eX7_goesOn_24, eX7_goesOn_25, eX7_goesOn_28, eX7_goesOn_29, eX7_goesOn_30, eX7_goesOn_33, eX7_goesOn_35, eX7_goesOn_36, eX7_goesOn_37, eX7_goesOn_40, eX7_goesOn_42, eX7_goesOn_44, eX7_goesOn_45, eX7_goesOn_48, eX7_goesOn_50, eX7_goesOn_51, eX7_goesOn_52, eX7_goesOn_55, eX7_goesOn_57, eX7_goesOn_59, eX7_goesOn_61, eX7_goesOn_62, eX7_goesOn_65, eX7_goesOn_66, eX7_goesOn_67, eX7_goesOn_70, eX7_goesOn_72, eX7_goesOn_73, eX7_goesOn_76, eX7_goesOn_77, eX7_goesOn_78, eX7_goesOn_81, eX7_goesOn_82, eX7_goesOn_83, eX7_goesOn_85, eX7_goesOn_87, eX7_goesOn_90, eX7_goesOn_91, eX7_goesOn_92, eX7_goesOn_94, eX7_goesOn_96, eX7_goesOn_99, eX7_goesOn_102, eX7_goesOn_103, eX7_goesOn_104, eX7_goesOn_107, eX7_goesOn_110, eX7_goesOn_113, eX7_goesOn_116, eX7_goesOn_117, fx_bd_some, Option.toList_some, Option.toList_none, List.nil_append, List.cons_append, fx_uo, fx_ui, Int.toNat_natCast, ↓reduceIte, Int.reduceEq, Int.reduceLT, Int.reduceLE, Int.reduceNeg, h0, h1, hn1, hr1, hq1, e1, e2, ic0]
          by_cases ha : dp (12 * r + n) = dp (12 * r + (n + p))
          · rw [if_pos ha]
            right
            refine ⟨by simp; intro _ _; exact ha, by simp⟩
          · rw [if_neg ha]
            left
            refine ⟨by simp; exact ⟨hr, hq, ha⟩, rfl⟩
        · have hq1 : ((n : Int) + (p : Int) < (C : Int)) = False := by simp; omega
          simp (disch := omega) only [eX7_goesOn_0, eX7_goesOn_1, eX7_goesOn_5, eX7_goesOn_6, eX7_goesOn_9, eX7_goesOn_10, eX7_goesOn_11, eX7_goesOn_14, eX7_goesOn_15, eX7_goesOn_19, eX7_goesOn_20, eX7_goesOn_23, eX7_goesOn_24, eX7_goesOn_25, eX7_goesOn_28, eX7_goesOn_29, eX7_goesOn_30, eX7_goesOn_33, eX7_goesOn_35, eX7_goesOn_36, eX7_goesOn_37, eX7_goesOn_40, eX7_goesOn_42, eX7_goesOn_44, eX7_goesOn_45, eX7_goesOn_48, eX7_goesOn_50, eX7_goesOn_51, eX7_goesOn_52, eX7_goesOn_55, eX7_goesOn_57, eX7_goesOn_59, eX7_goesOn_61, eX7_goesOn_62, eX7_goesOn_65, eX7_goesOn_66, eX7_goesOn_67, eX7_goesOn_70, eX7_goesOn_72, eX7_goesOn_73, eX7_goesOn_76, eX7_goesOn_77, eX7_goesOn_78, eX7_goesOn_81, eX7_goesOn_82, eX7_goesOn_83, eX7_goesOn_85, eX7_goesOn_87, eX7_goesOn_90, eX7_goesOn_91, eX7_goesOn_92, eX7_goesOn_94, eX7_goesOn_96, eX7_goesOn_99, eX7_goesOn_102, eX7_goesOn_103, eX7_goesOn_104, eX7_goesOn_107, eX7_goesOn_110, eX7_goesOn_113, eX7_goesOn_116, eX7_goesOn_117, fx_bd_some, Option.toList_some, Option.toList_none, List.nil_append, List.cons_append, fx_uo, fx_ui, Int.toNat_natCast, ↓reduceIte, Int.reduceEq, Int.reduceLT, Int.reduceLE, Int.reduceNeg, h0, h1, hn1, hr1, hq1, ic0]
          right
          refine ⟨by simp; omega, by simp⟩
      · refine ⟨some (.inl ((r : Int) + (p : Int))), some (.inl (n : Int)), ?_⟩
        by_cases hq : r + p < R
        · have e2 := sp_at Rf Cf nc σ c (r + p) n hc (by omega) (by omega)
          rw [hd (r + p) n hq (by omega)] at e2
          have w2 := hb (r + p) n hq (by omega)
          rw [Int.natCast_add] at e2
          have hq1 : ((r : Int) + (p : Int) < (R : Int)) = True := by simp; omega
          simp (disch := omega) only [eX7_goesOn_0, eX7_goesOn_1, eX7_goesOn_5, eX7_goesOn_6, eX7_goesOn_9, eX7_goesOn_10, eX7_goesOn_11, eX7_goesOn_14, eX7_goesOn_15, eX7_goesOn_19, eX7_goesOn_20, eX7_goesOn_23, eX7_goesOn_24, eX7_goesOn_25, eX7_goesOn_28, eX7_goesOn_29, eX7_goesOn_30, eX7_goesOn_33, eX7_goesOn_35, eX7_goesOn_36, eX7_goesOn_37, eX7_goesOn_40, eX7_goesOn_42, eX7_goesOn_44, eX7_goesOn_45, eX7_goesOn_48, eX7_goesOn_50, eX7_goesOn_51, eX7_goesOn_52, eX7_goesOn_55, eX7_goesOn_57, eX7_goesOn_59, eX7_goesOn_61, eX7_goesOn_62, eX7_goesOn_65, eX7_goesOn_66, eX7_goesOn_67, eX7_goesOn_70, eX7_goesOn_72, eX7_goesOn_73, eX7_goesOn_76, eX7_goesOn_77, eX7_goesOn_78, eX7_goesOn_81, eX7_goesOn_82, eX7_goesOn_83, eX7_goesOn_85, eX7_goesOn_87, eX7_goesOn_90, eX7_goesOn_91, eX7_goesOn_92, eX7_goesOn_94, eX7_goesOn_96, eX7_goesOn_99, eX7_goesOn_102, eX7_goesOn_103, eX7_goesOn_104, eX7_goesOn_107, eX7_goesOn_110, eX7_goesOn_113, eX7_goesOn_116, eX7_goesOn_117, fx_bd_some, Option.toList_some, Option.toList_none, List.nil_append, List.cons_append, fx_uo, fx_ui, Int.toNat_natCast, ↓reduceIte, Int.reduceEq, Int.reduceLT, Int.reduceLE, Int.reduceNeg, h0, h1, hn1, hq1, e1, e2, ic1]
          by_cases ha : dp (12 * r + n) = dp (12 * (r + p) + n)
          · rw [if_pos ha]
            right
            refine ⟨by simp; intro _ _; exact ha, by simp⟩
          · rw [if_neg ha]
            left
            refine ⟨by simp; exact ⟨hq, by omega, ha⟩, rfl⟩
        · have hq1 : ((r : Int) + (p : Int) < (R : Int)) = False := by simp; omega
          simp (disch := omega) only [eX7_goesOn_0, eX7_goesOn_1, eX7_goesOn_5, eX7_goesOn_6, eX7_goesOn_9, eX7_goesOn_10, eX7_goesOn_11, eX7_goesOn_14, eX7_goesOn_15, eX7_goesOn_19, eX7_goesOn_20, eX7_goesOn_23, eX7_goesOn_24, eX7_goesOn_25, eX7_goesOn_28, eX7_goesOn_29, eX7_goesOn_30, eX7_goesOn_33, eX7_goesOn_35, eX7_goesOn_36, eX7_goesOn_37, eX7_goesOn_40, eX7_goesOn_42, eX7_goesOn_44, eX7_goesOn_45, eX7_goesOn_48, eX7_goesOn_50, eX7_goesOn_51, eX7_goesOn_52, eX7_goesOn_55, eX7_goesOn_57, eX7_goesOn_59, eX7_goesOn_61, eX7_goesOn_62, eX7_goesOn_65, eX7_goesOn_66, eX7_goesOn_67, eX7_goesOn_70, eX7_goesOn_72, eX7_goesOn_73, eX7_goesOn_76, eX7_goesOn_77, eX7_goesOn_78, eX7_goesOn_81, eX7_goesOn_82, eX7_goesOn_83, eX7_goesOn_85, eX7_goesOn_87, eX7_goesOn_90, eX7_goesOn_91, eX7_goesOn_92, eX7_goesOn_94, eX7_goesOn_96, eX7_goesOn_99, eX7_goesOn_102, eX7_goesOn_103, eX7_goesOn_104, eX7_goesOn_107, eX7_goesOn_110, eX7_goesOn_113, eX7_goesOn_116, eX7_goesOn_117, fx_bd_some, Option.toList_some, Option.toList_none, List.nil_append, List.cons_append, fx_uo, fx_ui, Int.toNat_natCast, ↓reduceIte, Int.reduceEq, Int.reduceLT, Int.reduceLE, Int.reduceNeg, h0, h1, hn1, hq1, ic1]
          right
          refine ⟨by simp; omega, by simp⟩
    obtain ⟨w6, w7, ⟨s1, s2⟩ | ⟨s1, s2⟩⟩ := step
    · exact Or.inl ⟨⟨n, by omega, s1⟩, s2⟩
    · rw [s2]
      rcases ih (n + 1) w6 w7 (by omega) with q1 | ⟨q1, q2⟩
      · exact Or.inl q1
      · right
        refine ⟨fun n' h1 h2 => ?_, q2⟩
        by_cases hq2 : n' = n
        · subst hq2; exact s1
        · exact q1 n' (by omega) h2
theorem gn_lp (Rf Cf : Nat → Nat) (nc : Nat) {σ : fx_M} {c w p R C : Nat} {dp : Nat → Int} (hc : c < 7) (hR : R ≤ 12) (hC : C ≤ 12) (hw : w < 2) (hp : p ≤ 12) (hD : DM c R C dp σ) :
    ∀ (d r : Nat) (u5 u6 u7 : Option fx_V), r + d = R → ∃ v : Int, fx_E (fx_S Rf Cf nc) 109 3 [some (.inr (some (20, 0))), some (.inl (c : Int)), some (.inl (w : Int)), some (.inl (p : Int)), some (.inl (r : Int)), u5, u6, u7] [] σ = some (some (.inl v), σ) ∧ ((v = 0 ∧ ∃ r' n', r' < R ∧ n' < C ∧ ¬ gdR w p R C dp r' n') ∨ (v = 1 ∧ ∀ r' n', r ≤ r' → r' < R → n' < C → gdR w p R C dp r' n')) := by
  obtain ⟨⟨h0, h1⟩, hd, hb⟩ := id hD
  intro d
  induction d with
  | zero =>
    intro r u5 u6 u7 hr
    obtain rfl : r = R := by omega
    have hr1 : ((r : Int) < (r : Int)) = False := by simp
    rw [eX7_goesOn_3]
    simp (disch := omega) only [eX7_goesOn_0, eX7_goesOn_1, eX7_goesOn_5, eX7_goesOn_6, eX7_goesOn_9, eX7_goesOn_10, eX7_goesOn_11, eX7_goesOn_14, eX7_goesOn_15, eX7_goesOn_19, eX7_goesOn_20, eX7_goesOn_23, eX7_goesOn_24, eX7_goesOn_25, eX7_goesOn_28, eX7_goesOn_29, eX7_goesOn_30, eX7_goesOn_33, eX7_goesOn_35, eX7_goesOn_36, eX7_goesOn_37, eX7_goesOn_40, eX7_goesOn_42, eX7_goesOn_44, eX7_goesOn_45, eX7_goesOn_48, eX7_goesOn_50, eX7_goesOn_51, eX7_goesOn_52, eX7_goesOn_55, eX7_goesOn_57, eX7_goesOn_59, eX7_goesOn_61, eX7_goesOn_62, eX7_goesOn_65, eX7_goesOn_66, eX7_goesOn_67, eX7_goesOn_70, eX7_goesOn_72, eX7_goesOn_73, eX7_goesOn_76, eX7_goesOn_77, eX7_goesOn_78, eX7_goesOn_81, eX7_goesOn_82, eX7_goesOn_83, eX7_goesOn_85, eX7_goesOn_87, eX7_goesOn_90, eX7_goesOn_91, eX7_goesOn_92, eX7_goesOn_94, eX7_goesOn_96, eX7_goesOn_99, eX7_goesOn_102, eX7_goesOn_103, eX7_goesOn_104, eX7_goesOn_107, eX7_goesOn_110, eX7_goesOn_113, eX7_goesOn_116, eX7_goesOn_117, fx_bd_some, Option.toList_some, Option.toList_none, List.nil_append, List.cons_append, fx_uo, fx_ui, Int.toNat_natCast, ↓reduceIte, Int.reduceEq, Int.reduceLT, Int.reduceLE, Int.reduceNeg, h0, hr1]
    exact ⟨1, rfl, Or.inr ⟨rfl, fun r' n' h1 h2 => by omega⟩⟩
  | succ d ih =>
    intro r u5 u6 u7 hr
    have hr1 : ((r : Int) < (R : Int)) = True := by simp; omega
    rw [eX7_goesOn_3]
    simp (disch := omega) only [eX7_goesOn_0, eX7_goesOn_1, eX7_goesOn_5, eX7_goesOn_6, eX7_goesOn_9, eX7_goesOn_10, eX7_goesOn_11, eX7_goesOn_14, eX7_goesOn_15, eX7_goesOn_19, eX7_goesOn_20, eX7_goesOn_23, eX7_goesOn_24, eX7_goesOn_25, eX7_goesOn_28, eX7_goesOn_29, eX7_goesOn_30, eX7_goesOn_33, eX7_goesOn_35, eX7_goesOn_36, eX7_goesOn_37, eX7_goesOn_40, eX7_goesOn_42, eX7_goesOn_44, eX7_goesOn_45, eX7_goesOn_48, eX7_goesOn_50, eX7_goesOn_51, eX7_goesOn_52, eX7_goesOn_55, eX7_goesOn_57, eX7_goesOn_59, eX7_goesOn_61, eX7_goesOn_62, eX7_goesOn_65, eX7_goesOn_66, eX7_goesOn_67, eX7_goesOn_70, eX7_goesOn_72, eX7_goesOn_73, eX7_goesOn_76, eX7_goesOn_77, eX7_goesOn_78, eX7_goesOn_81, eX7_goesOn_82, eX7_goesOn_83, eX7_goesOn_85, eX7_goesOn_87, eX7_goesOn_90, eX7_goesOn_91, eX7_goesOn_92, eX7_goesOn_94, eX7_goesOn_96, eX7_goesOn_99, eX7_goesOn_102, eX7_goesOn_103, eX7_goesOn_104, eX7_goesOn_107, eX7_goesOn_110, eX7_goesOn_113, eX7_goesOn_116, eX7_goesOn_117, fx_bd_some, Option.toList_some, Option.toList_none, List.nil_append, List.cons_append, fx_uo, fx_ui, Int.toNat_natCast, ↓reduceIte, Int.reduceEq, Int.reduceLT, Int.reduceLE, Int.reduceNeg, h0, hr1]
    rcases gn_in Rf Cf nc hc hR hC hw hp hD r (by omega) C 0 u6 u7 (by omega) with ⟨⟨n', k1, k2⟩, k3⟩ | ⟨q1, w7, w8, q2⟩
    · exact ⟨0, k3, Or.inl ⟨rfl, r, n', by omega, k1, k2⟩⟩
    · obtain ⟨v, v1, v2⟩ := ih (r + 1) (some (.inl (C : Int))) w7 w8 (by omega)
      refine ⟨v, q2.trans v1, ?_⟩
      rcases v2 with v2 | ⟨v2, v3⟩
      · exact Or.inl v2
      · right
        refine ⟨v2, fun r' n' h1 h2 h3 => ?_⟩
        by_cases q3 : r' = r
        · subst q3; exact q1 n' (by omega) h3
        · exact v3 r' n' (by omega) h2 h3
theorem sp_goesOn (Rf Cf : Nat → Nat) (nc : Nat) {σ : fx_M} {c w p R C : Nat} {dp : Nat → Int} (hc : c < 7) (hR : R ≤ 12) (hC : C ≤ 12) (hw : w < 2) (hp : p ≤ 12) (hD : DM c R C dp σ) : ∃ v : Int, fx_Ca (fx_S Rf Cf nc) 109 [.inr (some (20, 0)), .inl (c : Int), .inl (w : Int), .inl (p : Int)] σ = some (some (.inl v), σ) ∧ ((v = 0 ∧ ∃ r' n', r' < R ∧ n' < C ∧ ¬ gdR w p R C dp r' n') ∨ (v = 1 ∧ ∀ r' n', r' < R → n' < C → gdR w p R C dp r' n')) := by
  obtain ⟨v, v1, v2⟩ := gn_lp Rf Cf nc hc hR hC hw hp hD R 0 none none none (by omega)
  refine ⟨v, ?_, ?_⟩
  · rw [entX7_goesOn]
    simp only [eX7_goesOn_0, eX7_goesOn_1, eX7_goesOn_5, eX7_goesOn_6, eX7_goesOn_9, eX7_goesOn_10, eX7_goesOn_11, eX7_goesOn_14, eX7_goesOn_15, eX7_goesOn_19, eX7_goesOn_20, eX7_goesOn_23, eX7_goesOn_24, eX7_goesOn_25, eX7_goesOn_28, eX7_goesOn_29, eX7_goesOn_30, eX7_goesOn_33, eX7_goesOn_35, eX7_goesOn_36, eX7_goesOn_37, eX7_goesOn_40, eX7_goesOn_42, eX7_goesOn_44, eX7_goesOn_45, eX7_goesOn_48, eX7_goesOn_50, eX7_goesOn_51, eX7_goesOn_52, eX7_goesOn_55, eX7_goesOn_57, eX7_goesOn_59, eX7_goesOn_61, eX7_goesOn_62, eX7_goesOn_65, eX7_goesOn_66, eX7_goesOn_67, eX7_goesOn_70, eX7_goesOn_72, eX7_goesOn_73, eX7_goesOn_76, eX7_goesOn_77, eX7_goesOn_78, eX7_goesOn_81, eX7_goesOn_82, eX7_goesOn_83, eX7_goesOn_85, eX7_goesOn_87, eX7_goesOn_90, eX7_goesOn_91, eX7_goesOn_92, eX7_goesOn_94, eX7_goesOn_96, eX7_goesOn_99, eX7_goesOn_102, eX7_goesOn_103, eX7_goesOn_104, eX7_goesOn_107, eX7_goesOn_110, eX7_goesOn_113, eX7_goesOn_116, eX7_goesOn_117]
    exact v1
  · rcases v2 with v2 | ⟨v2, v3⟩
    · exact Or.inl v2
    · exact Or.inr ⟨v2, fun r' n' => v3 r' n' (by omega)⟩
