/-! patterns: mirrors and periods -/
theorem ic0 : ((0 : Nat) : Int) = 0 := rfl
theorem ic1 : ((1 : Nat) : Int) = 1 := rfl
theorem ic2 : ((2 : Nat) : Int) = 2 := rfl
theorem ic3 : ((3 : Nat) : Int) = 3 := rfl
def tR (t R r n : Nat) : Nat := if t = 1 ∨ t = 3 then R - 1 - r else if t = 2 then n else r
def tC (t C r n : Nat) : Nat := if t = 0 ∨ t = 3 then C - 1 - n else if t = 2 then r else n
theorem tRC_lt {t R C r n : Nat} (ht : t < 4) (h2 : t = 2 → R = C) (hr : r < R) (hn : n < C) : tR t R r n < R ∧ tC t C r n < C := by
  unfold tR tC
  rcases (show t = 0 ∨ t = 1 ∨ t = 2 ∨ t = 3 by omega) with rfl | rfl | rfl | rfl <;> simp <;> omega
def DC (g R C : Nat) (dp : Nat → Int) (σ : fx_M) : Prop := (σ 12 g 0 = R ∧ σ 12 g 1 = C ∧ σ 12 g 2 = ((R * C : Nat) : Int)) ∧ (∀ r n, r < R → n < C → σ 13 g (r * C + n) = dp (12 * r + n)) ∧ ∀ r n, r < R → n < C → 0 ≤ dp (12 * r + n) ∧ dp (12 * r + n) ≤ 15
def DM (c R C : Nat) (dp : Nat → Int) (σ : fx_M) : Prop := (σ 30 0 c = R ∧ σ 31 0 c = C) ∧ (∀ r n, r < R → n < C → σ 33 0 (144 * c + 12 * r + n) = dp (12 * r + n)) ∧ ∀ r n, r < R → n < C → 0 ≤ dp (12 * r + n) ∧ dp (12 * r + n) ≤ 15
theorem ix_rn {C r n : Nat} (hn : n < 12) : ix C (12 * r + n) = r * C + n := by
  unfold ix
  rw [show (12 * r + n) / 12 = r by omega, show (12 * r + n) % 12 = n by omega]
theorem KC.dc {Rf Cf : Nat → Nat} {g : Nat} {R C br bc f b so : Nat} {pr pc ph : Nat → Nat} {sh : Nat → Nat → Bool} {to : Int} {dp : Nat → Int} {σ : fx_M} (hP : KP R C br bc f b so pr pc ph sh to dp) (h : KC Rf Cf g R C br bc f b so pr pc ph sh to dp σ) : DC g R C dp σ := by
  have b2 := hP.1.1.2
  have b4 := hP.1.2.1.2
  refine ⟨h.2.2.1, fun r n hr hn => ?_, fun r n hr hn => hP.2.2.2.2 (12 * r + n) (by omega) ⟨by omega, by omega⟩⟩
  rw [← ix_rn (C := C) (r := r) (n := n) (by omega)]
  exact h.2.2.2.2.2 (12 * r + n) (by omega) ⟨by omega, by omega⟩
theorem KM.dm {g : Nat} {R C br bc f b so : Nat} {pr pc ph : Nat → Nat} {sh : Nat → Nat → Bool} {to : Int} {dp : Nat → Int} {σ : fx_M} (hP : KP R C br bc f b so pr pc ph sh to dp) (h : KM g R C br bc f b so pr pc ph sh to dp σ) : DM g R C dp σ := by
  have b2 := hP.1.1.2
  have b4 := hP.1.2.1.2
  refine ⟨⟨h.1.1, h.1.2.1⟩, fun r n hr hn => ?_, fun r n hr hn => hP.2.2.2.2 (12 * r + n) (by omega) ⟨by omega, by omega⟩⟩
  rw [Nat.add_assoc, h.2.2.2.2.2.2 (12 * r + n) (by omega), if_pos ⟨by omega, by omega⟩]
theorem mulsub (R C r n : Nat) (hr : r < R) (hn : n < C) : ((R * C : Nat) : Int) - 1 - ((r : Int) * (C : Int) + (n : Int)) = (((R - 1 - r) * C + (C - 1 - n) : Nat) : Int) := by
  obtain ⟨a, rfl⟩ : ∃ a, R = r + 1 + a := ⟨R - r - 1, by omega⟩
  obtain ⟨e, rfl⟩ : ∃ e, C = n + 1 + e := ⟨C - n - 1, by omega⟩
  rw [show r + 1 + a - 1 - r = a by omega, show n + 1 + e - 1 - n = e by omega]
  simp only [Int.natCast_add, Int.natCast_mul]
  grind
theorem sp_turnedIndex (Rf Cf : Nat → Nat) (nc : Nat) (σ : fx_M) (g t R C r n : Nat) (ht : t < 4) (hR : R ≤ 12) (hC : C ≤ 12) (hr : r < R) (hn : n < C) (h0 : σ 12 g 0 = R) (h1 : σ 12 g 1 = C) (h2 : σ 12 g 2 = ((R * C : Nat) : Int)) : fx_Ca (fx_S Rf Cf nc) 22 [.inr (some (12, g)), .inl (t : Int), .inl (r : Int), .inl (n : Int)] σ = some (some (.inl ((tR t R r n * C + tC t C r n : Nat) : Int)), σ) := by
  rw [entX1_turnedIndex]
  rcases (show t = 0 ∨ t = 1 ∨ t = 2 ∨ t = 3 by omega) with rfl | rfl | rfl | rfl
  · simp (disch := omega) only [eX1_turnedIndex_0, eX1_turnedIndex_1, eX1_turnedIndex_28, eX1_turnedIndex_29, eX1_turnedIndex_30, eX1_turnedIndex_33, eX1_turnedIndex_34, eX1_turnedIndex_35, eX1_turnedIndex_38, eX1_turnedIndex_39, eX1_turnedIndex_40, eX1_turnedIndex_41, eX1_turnedIndex_42, eX1_turnedIndex_43, eX1_turnedIndex_44, eX1_turnedIndex_45, eX1_turnedIndex_48, eX1_turnedIndex_49, eX1_turnedIndex_50, eX1_turnedIndex_51, eX1_turnedIndex_52, eX1_turnedIndex_53, eX1_turnedIndex_56, eX1_turnedIndex_57, eX1_turnedIndex_58, eX1_turnedIndex_59, eX1_turnedIndex_60, eX1_turnedIndex_61, eX1_turnedIndex_62, eX1_turnedIndex_65, eX1_turnedIndex_66, eX1_turnedIndex_67, eX1_turnedIndex_68, eX1_turnedIndex_69, eX1_turnedIndex_70, eX1_turnedIndex_73, eX1_turnedIndex_74, eX1_turnedIndex_75, eX1_turnedIndex_76, eX1_turnedIndex_77, eX1_turnedIndex_80, eX1_turnedIndex_81, eX1_turnedIndex_82, eX1_turnedIndex_83, eX1_turnedIndex_84, fx_bd_some, Option.toList_some, Option.toList_none, List.nil_append, List.cons_append, fx_uo, fx_ui, Int.toNat_natCast, ↓reduceIte, Int.reduceEq, Int.reduceLT, Int.reduceLE, Int.reduceNeg, h0, h1, h2]
    unfold tR tC
    simp
    omega
  · simp (disch := omega) only [eX1_turnedIndex_0, eX1_turnedIndex_1, eX1_turnedIndex_28, eX1_turnedIndex_29, eX1_turnedIndex_30, eX1_turnedIndex_33, eX1_turnedIndex_34, eX1_turnedIndex_35, eX1_turnedIndex_38, eX1_turnedIndex_39, eX1_turnedIndex_40, eX1_turnedIndex_41, eX1_turnedIndex_42, eX1_turnedIndex_43, eX1_turnedIndex_44, eX1_turnedIndex_45, eX1_turnedIndex_48, eX1_turnedIndex_49, eX1_turnedIndex_50, eX1_turnedIndex_51, eX1_turnedIndex_52, eX1_turnedIndex_53, eX1_turnedIndex_56, eX1_turnedIndex_57, eX1_turnedIndex_58, eX1_turnedIndex_59, eX1_turnedIndex_60, eX1_turnedIndex_61, eX1_turnedIndex_62, eX1_turnedIndex_65, eX1_turnedIndex_66, eX1_turnedIndex_67, eX1_turnedIndex_68, eX1_turnedIndex_69, eX1_turnedIndex_70, eX1_turnedIndex_73, eX1_turnedIndex_74, eX1_turnedIndex_75, eX1_turnedIndex_76, eX1_turnedIndex_77, eX1_turnedIndex_80, eX1_turnedIndex_81, eX1_turnedIndex_82, eX1_turnedIndex_83, eX1_turnedIndex_84, fx_bd_some, Option.toList_some, Option.toList_none, List.nil_append, List.cons_append, fx_uo, fx_ui, Int.toNat_natCast, ↓reduceIte, Int.reduceEq, Int.reduceLT, Int.reduceLE, Int.reduceNeg, h0, h1, h2]
    unfold tR tC
    simp
    rw [show (R : Int) - 1 - r = ((R - 1 - r : Nat) : Int) by omega]
    try simp
  · simp (disch := omega) only [eX1_turnedIndex_0, eX1_turnedIndex_1, eX1_turnedIndex_28, eX1_turnedIndex_29, eX1_turnedIndex_30, eX1_turnedIndex_33, eX1_turnedIndex_34, eX1_turnedIndex_35, eX1_turnedIndex_38, eX1_turnedIndex_39, eX1_turnedIndex_40, eX1_turnedIndex_41, eX1_turnedIndex_42, eX1_turnedIndex_43, eX1_turnedIndex_44, eX1_turnedIndex_45, eX1_turnedIndex_48, eX1_turnedIndex_49, eX1_turnedIndex_50, eX1_turnedIndex_51, eX1_turnedIndex_52, eX1_turnedIndex_53, eX1_turnedIndex_56, eX1_turnedIndex_57, eX1_turnedIndex_58, eX1_turnedIndex_59, eX1_turnedIndex_60, eX1_turnedIndex_61, eX1_turnedIndex_62, eX1_turnedIndex_65, eX1_turnedIndex_66, eX1_turnedIndex_67, eX1_turnedIndex_68, eX1_turnedIndex_69, eX1_turnedIndex_70, eX1_turnedIndex_73, eX1_turnedIndex_74, eX1_turnedIndex_75, eX1_turnedIndex_76, eX1_turnedIndex_77, eX1_turnedIndex_80, eX1_turnedIndex_81, eX1_turnedIndex_82, eX1_turnedIndex_83, eX1_turnedIndex_84, fx_bd_some, Option.toList_some, Option.toList_none, List.nil_append, List.cons_append, fx_uo, fx_ui, Int.toNat_natCast, ↓reduceIte, Int.reduceEq, Int.reduceLT, Int.reduceLE, Int.reduceNeg, h0, h1, h2]
    unfold tR tC
    try simp
  · simp (disch := omega) only [eX1_turnedIndex_0, eX1_turnedIndex_1, eX1_turnedIndex_28, eX1_turnedIndex_29, eX1_turnedIndex_30, eX1_turnedIndex_33, eX1_turnedIndex_34, eX1_turnedIndex_35, eX1_turnedIndex_38, eX1_turnedIndex_39, eX1_turnedIndex_40, eX1_turnedIndex_41, eX1_turnedIndex_42, eX1_turnedIndex_43, eX1_turnedIndex_44, eX1_turnedIndex_45, eX1_turnedIndex_48, eX1_turnedIndex_49, eX1_turnedIndex_50, eX1_turnedIndex_51, eX1_turnedIndex_52, eX1_turnedIndex_53, eX1_turnedIndex_56, eX1_turnedIndex_57, eX1_turnedIndex_58, eX1_turnedIndex_59, eX1_turnedIndex_60, eX1_turnedIndex_61, eX1_turnedIndex_62, eX1_turnedIndex_65, eX1_turnedIndex_66, eX1_turnedIndex_67, eX1_turnedIndex_68, eX1_turnedIndex_69, eX1_turnedIndex_70, eX1_turnedIndex_73, eX1_turnedIndex_74, eX1_turnedIndex_75, eX1_turnedIndex_76, eX1_turnedIndex_77, eX1_turnedIndex_80, eX1_turnedIndex_81, eX1_turnedIndex_82, eX1_turnedIndex_83, eX1_turnedIndex_84, fx_bd_some, Option.toList_some, Option.toList_none, List.nil_append, List.cons_append, fx_uo, fx_ui, Int.toNat_natCast, ↓reduceIte, Int.reduceEq, Int.reduceLT, Int.reduceLE, Int.reduceNeg, h0, h1, h2]
    rw [mulsub R C r n hr hn]
    unfold tR tC
    try simp
theorem st_in (Rf Cf : Nat → Nat) (nc : Nat) {σ : fx_M} {g t R C : Nat} {dp : Nat → Int} (ht : t < 4) (hRf : Rf g = R ∧ Cf g = C) (hR : R ≤ 12) (hC : C ≤ 12) (h22 : t = 2 → R = C) (hD : DC g R C dp σ) (r : Nat) (hr : r < R) :
    ∀ (d n : Nat), n + d = C → ((∃ n', n' < C ∧ dp (12 * r + n') ≠ dp (12 * tR t R r n' + tC t C r n')) ∧ fx_E (fx_S Rf Cf nc) 21 12 [some (.inr (some (12, g))), some (.inl (t : Int)), some (.inl (r : Int)), some (.inl (n : Int))] [] σ = some (some (.inl 0), σ)) ∨ ((∀ n', n ≤ n' → n' < C → dp (12 * r + n') = dp (12 * tR t R r n' + tC t C r n')) ∧ fx_E (fx_S Rf Cf nc) 21 12 [some (.inr (some (12, g))), some (.inl (t : Int)), some (.inl (r : Int)), some (.inl (n : Int))] [] σ = fx_E (fx_S Rf Cf nc) 21 2 [some (.inr (some (12, g))), some (.inl (t : Int)), some (.inl ((r + 1 : Nat) : Int)), some (.inl (C : Int))] [] σ) := by
  obtain ⟨⟨h0, h1, h2⟩, hd, hb⟩ := id hD
  intro d
  induction d with
  | zero =>
    intro n hn
    obtain rfl : n = C := by omega
    right
    refine ⟨fun n' h1 h2 => by omega, ?_⟩
    rw [eX1_isSameTurned_12]
    simp (disch := omega) only [eX1_isSameTurned_0, eX1_isSameTurned_1, eX1_isSameTurned_3, eX1_isSameTurned_4, eX1_isSameTurned_7, eX1_isSameTurned_10, eX1_isSameTurned_11, eX1_isSameTurned_13, eX1_isSameTurned_14, eX1_isSameTurned_17, eX1_isSameTurned_20, eX1_isSameTurned_21, eX1_isSameTurned_24, eX1_isSameTurned_25, eX1_isSameTurned_26, eX1_isSameTurned_29, eX1_isSameTurned_30, eX1_isSameTurned_31, eX1_isSameTurned_32, eX1_isSameTurned_33, eX1_isSameTurned_34, eX1_isSameTurned_37, eX1_isSameTurned_38, eX1_isSameTurned_39, eX1_isSameTurned_40, eX1_isSameTurned_41, eX1_isSameTurned_44, eX1_isSameTurned_45, eX1_isSameTurned_48, eX1_isSameTurned_49, eX1_isSameTurned_50, eX1_isSameTurned_53, eX1_isSameTurned_56, eX1_isSameTurned_59, eX1_isSameTurned_62, eX1_isSameTurned_63, fx_bd_some, Option.toList_some, Option.toList_none, List.nil_append, List.cons_append, fx_uo, fx_ui, Int.toNat_natCast, ↓reduceIte, Int.reduceEq, Int.reduceLT, Int.reduceLE, Int.reduceNeg, h1]
    rw [if_neg (by omega), show (r : Int) + 1 = ((r + 1 : Nat) : Int) by omega]
  | succ d ih =>
    intro n hn
    have hlt := mul_add_lt (r := r) (R := R) (C := C) (n := n) hr (by omega)
    obtain ⟨t1, t2⟩ := tRC_lt ht h22 hr (show n < C by omega)
    have hlt2 := mul_add_lt (r := tR t R r n) (R := R) (C := C) (n := tC t C r n) t1 t2
    have i0 : (r : Int) * (C : Int) + (n : Int) = ((r * C + n : Nat) : Int) := by simp
    have e1 := sp_turnedIndex Rf Cf nc σ g t R C r n ht hR hC hr (by omega) h0 h1 h2
    have hn1 : ((n : Int) < (C : Int)) = True := by simp; omega
    have f1 := hd r n hr (by omega)
    have f2 := hd (tR t R r n) (tC t C r n) t1 t2
    have w1 := hb r n hr (by omega)
    have w2 := hb (tR t R r n) (tC t C r n) t1 t2
    have hl : Rf g * Cf g = R * C := by rw [hRf.1, hRf.2]
    rw [eX1_isSameTurned_12]
    simp (disch := omega) only [eX1_isSameTurned_0, eX1_isSameTurned_1, eX1_isSameTurned_3, eX1_isSameTurned_4, eX1_isSameTurned_7, eX1_isSameTurned_10, eX1_isSameTurned_11, eX1_isSameTurned_13, eX1_isSameTurned_14, eX1_isSameTurned_17, eX1_isSameTurned_20, eX1_isSameTurned_21, eX1_isSameTurned_24, eX1_isSameTurned_25, eX1_isSameTurned_26, eX1_isSameTurned_29, eX1_isSameTurned_30, eX1_isSameTurned_31, eX1_isSameTurned_32, eX1_isSameTurned_33, eX1_isSameTurned_34, eX1_isSameTurned_37, eX1_isSameTurned_38, eX1_isSameTurned_39, eX1_isSameTurned_40, eX1_isSameTurned_41, eX1_isSameTurned_44, eX1_isSameTurned_45, eX1_isSameTurned_48, eX1_isSameTurned_49, eX1_isSameTurned_50, eX1_isSameTurned_53, eX1_isSameTurned_56, eX1_isSameTurned_59, eX1_isSameTurned_62, eX1_isSameTurned_63, fx_bd_some, Option.toList_some, Option.toList_none, List.nil_append, List.cons_append, fx_uo, fx_ui, Int.toNat_natCast, ↓reduceIte, Int.reduceEq, Int.reduceLT, Int.reduceLE, Int.reduceNeg, h1, i0, e1, hn1, f1, f2]
    by_cases ha : dp (12 * r + n) = dp (12 * tR t R r n + tC t C r n)
    · rw [if_pos ha, show (n : Int) + 1 = ((n + 1 : Nat) : Int) by omega]
      rcases ih (n + 1) (by omega) with q1 | ⟨q1, q2⟩
      · exact Or.inl q1
      · right
        refine ⟨fun n' h1 h2 => ?_, q2⟩
        by_cases hq2 : n' = n
        · subst hq2; exact ha
        · exact q1 n' (by omega) h2
    · rw [if_neg ha]
      exact Or.inl ⟨⟨n, by omega, ha⟩, rfl⟩
theorem st_lp (Rf Cf : Nat → Nat) (nc : Nat) {σ : fx_M} {g t R C : Nat} {dp : Nat → Int} (ht : t < 4) (hRf : Rf g = R ∧ Cf g = C) (hR : R ≤ 12) (hC : C ≤ 12) (h22 : t = 2 → R = C) (hD : DC g R C dp σ) :
    ∀ (d r : Nat) (u : Option fx_V), r + d = R → ∃ v : Int, fx_E (fx_S Rf Cf nc) 21 2 [some (.inr (some (12, g))), some (.inl (t : Int)), some (.inl (r : Int)), u] [] σ = some (some (.inl v), σ) ∧ ((v = 0 ∧ ∃ r' n', r' < R ∧ n' < C ∧ dp (12 * r' + n') ≠ dp (12 * tR t R r' n' + tC t C r' n')) ∨ (v = 1 ∧ ∀ r' n', r ≤ r' → r' < R → n' < C → dp (12 * r' + n') = dp (12 * tR t R r' n' + tC t C r' n'))) := by
  obtain ⟨⟨h0, h1, h2⟩, hd, hb⟩ := id hD
  intro d
  induction d with
  | zero =>
    intro r u hr
    obtain rfl : r = R := by omega
    rw [eX1_isSameTurned_2]
    simp (disch := omega) only [eX1_isSameTurned_0, eX1_isSameTurned_1, eX1_isSameTurned_3, eX1_isSameTurned_4, eX1_isSameTurned_7, eX1_isSameTurned_10, eX1_isSameTurned_11, eX1_isSameTurned_13, eX1_isSameTurned_14, eX1_isSameTurned_17, eX1_isSameTurned_20, eX1_isSameTurned_21, eX1_isSameTurned_24, eX1_isSameTurned_25, eX1_isSameTurned_26, eX1_isSameTurned_29, eX1_isSameTurned_30, eX1_isSameTurned_31, eX1_isSameTurned_32, eX1_isSameTurned_33, eX1_isSameTurned_34, eX1_isSameTurned_37, eX1_isSameTurned_38, eX1_isSameTurned_39, eX1_isSameTurned_40, eX1_isSameTurned_41, eX1_isSameTurned_44, eX1_isSameTurned_45, eX1_isSameTurned_48, eX1_isSameTurned_49, eX1_isSameTurned_50, eX1_isSameTurned_53, eX1_isSameTurned_56, eX1_isSameTurned_59, eX1_isSameTurned_62, eX1_isSameTurned_63, fx_bd_some, Option.toList_some, Option.toList_none, List.nil_append, List.cons_append, fx_uo, fx_ui, Int.toNat_natCast, ↓reduceIte, Int.reduceEq, Int.reduceLT, Int.reduceLE, Int.reduceNeg, h0]
    rw [if_neg (by omega)]
    exact ⟨1, rfl, Or.inr ⟨rfl, fun r' n' h1 h2 => by omega⟩⟩
  | succ d ih =>
    intro r u hr
    rw [eX1_isSameTurned_2]
    simp (disch := omega) only [eX1_isSameTurned_0, eX1_isSameTurned_1, eX1_isSameTurned_3, eX1_isSameTurned_4, eX1_isSameTurned_7, eX1_isSameTurned_10, eX1_isSameTurned_11, eX1_isSameTurned_13, eX1_isSameTurned_14, eX1_isSameTurned_17, eX1_isSameTurned_20, eX1_isSameTurned_21, eX1_isSameTurned_24, eX1_isSameTurned_25, eX1_isSameTurned_26, eX1_isSameTurned_29, eX1_isSameTurned_30, eX1_isSameTurned_31, eX1_isSameTurned_32, eX1_isSameTurned_33, eX1_isSameTurned_34, eX1_isSameTurned_37, eX1_isSameTurned_38, eX1_isSameTurned_39, eX1_isSameTurned_40, eX1_isSameTurned_41, eX1_isSameTurned_44, eX1_isSameTurned_45, eX1_isSameTurned_48, eX1_isSameTurned_49, eX1_isSameTurned_50, eX1_isSameTurned_53, eX1_isSameTurned_56, eX1_isSameTurned_59, eX1_isSameTurned_62, eX1_isSameTurned_63, fx_bd_some, Option.toList_some, Option.toList_none, List.nil_append, List.cons_append, fx_uo, fx_ui, Int.toNat_natCast, ↓reduceIte, Int.reduceEq, Int.reduceLT, Int.reduceLE, Int.reduceNeg, h0]
    rw [if_pos (by omega)]
    rcases st_in Rf Cf nc ht hRf hR hC h22 hD r (by omega) C 0 (by omega) with ⟨⟨n', k1, k2⟩, k3⟩ | ⟨q1, q2⟩
    · exact ⟨0, k3, Or.inl ⟨rfl, r, n', by omega, k1, k2⟩⟩
    · obtain ⟨v, v1, v2⟩ := ih (r + 1) (some (.inl (C : Int))) (by omega)
      refine ⟨v, q2.trans v1, ?_⟩
      rcases v2 with v2 | ⟨v2, v3⟩
      · exact Or.inl v2
      · right
        refine ⟨v2, fun r' n' h1 h2 h3 => ?_⟩
        by_cases q3 : r' = r
        · subst q3; exact q1 n' (by omega) h3
        · exact v3 r' n' (by omega) h2 h3
theorem sp_isSameTurned (Rf Cf : Nat → Nat) (nc : Nat) {σ : fx_M} {g t R C : Nat} {dp : Nat → Int} (ht : t < 4) (hRf : Rf g = R ∧ Cf g = C) (hR : R ≤ 12) (hC : C ≤ 12) (h22 : t = 2 → R = C) (hD : DC g R C dp σ) : ∃ v : Int, fx_Ca (fx_S Rf Cf nc) 21 [.inr (some (12, g)), .inl (t : Int)] σ = some (some (.inl v), σ) ∧ ((v = 0 ∧ ∃ r' n', r' < R ∧ n' < C ∧ dp (12 * r' + n') ≠ dp (12 * tR t R r' n' + tC t C r' n')) ∨ (v = 1 ∧ ∀ r' n', r' < R → n' < C → dp (12 * r' + n') = dp (12 * tR t R r' n' + tC t C r' n'))) := by
  obtain ⟨v, v1, v2⟩ := st_lp Rf Cf nc ht hRf hR hC h22 hD R 0 none (by omega)
  refine ⟨v, ?_, ?_⟩
  · rw [entX1_isSameTurned]
    simp only [eX1_isSameTurned_0, eX1_isSameTurned_1, eX1_isSameTurned_3, eX1_isSameTurned_4, eX1_isSameTurned_7, eX1_isSameTurned_10, eX1_isSameTurned_11, eX1_isSameTurned_13, eX1_isSameTurned_14, eX1_isSameTurned_17, eX1_isSameTurned_20, eX1_isSameTurned_21, eX1_isSameTurned_24, eX1_isSameTurned_25, eX1_isSameTurned_26, eX1_isSameTurned_29, eX1_isSameTurned_30, eX1_isSameTurned_31, eX1_isSameTurned_32, eX1_isSameTurned_33, eX1_isSameTurned_34, eX1_isSameTurned_37, eX1_isSameTurned_38, eX1_isSameTurned_39, eX1_isSameTurned_40, eX1_isSameTurned_41, eX1_isSameTurned_44, eX1_isSameTurned_45, eX1_isSameTurned_48, eX1_isSameTurned_49, eX1_isSameTurned_50, eX1_isSameTurned_53, eX1_isSameTurned_56, eX1_isSameTurned_59, eX1_isSameTurned_62, eX1_isSameTurned_63]
    exact v1
  · rcases v2 with v2 | ⟨v2, v3⟩
    · exact Or.inl v2
    · exact Or.inr ⟨v2, fun r' n' => v3 r' n' (by omega)⟩
/-! the reference's mirrors -/
theorem mi_in (Rf Cf : Nat → Nat) (nc : Nat) {σ : fx_M} {c t R C : Nat} {dp : Nat → Int} (hc : c < 7) (ht : t < 4) (hR : R ≤ 12) (hC : C ≤ 12) (h22 : t = 2 → R = C) (hD : DM c R C dp σ) (r : Nat) (hr : r < R) :
    ∀ (d n : Nat) (u7 u8 : Option fx_V), n + d = C → ((∃ n', n' < C ∧ dp (12 * r + n') ≠ dp (12 * tR t R r n' + tC t C r n')) ∧ fx_E (fx_S Rf Cf nc) 108 60 [some (.inr (some (20, 0))), some (.inl (c : Int)), some (.inl (t : Int)), some (.inl (R : Int)), some (.inl (C : Int)), some (.inl (r : Int)), some (.inl (n : Int)), u7, u8] [] σ = some (some (.inl 0), σ)) ∨ ((∀ n', n ≤ n' → n' < C → dp (12 * r + n') = dp (12 * tR t R r n' + tC t C r n')) ∧ ∃ w7 w8 : Option fx_V, fx_E (fx_S Rf Cf nc) 108 60 [some (.inr (some (20, 0))), some (.inl (c : Int)), some (.inl (t : Int)), some (.inl (R : Int)), some (.inl (C : Int)), some (.inl (r : Int)), some (.inl (n : Int)), u7, u8] [] σ = fx_E (fx_S Rf Cf nc) 108 51 [some (.inr (some (20, 0))), some (.inl (c : Int)), some (.inl (t : Int)), some (.inl (R : Int)), some (.inl (C : Int)), some (.inl ((r + 1 : Nat) : Int)), some (.inl (C : Int)), w7, w8] [] σ) := by
  obtain ⟨⟨h0, h1⟩, hd, hb⟩ := id hD
  intro d
  induction d with
  | zero =>
    intro n u7 u8 hn
    obtain rfl : n = C := by omega
    right
    refine ⟨fun n' h1 h2 => by omega, u7, u8, ?_⟩
    have hn1 : ((n : Int) < (n : Int)) = False := by simp
    rw [eX7_mirrored_60]
    simp (disch := omega) only [eX7_mirrored_0, eX7_mirrored_1, eX7_mirrored_2, eX7_mirrored_5, eX7_mirrored_8, eX7_mirrored_9, eX7_mirrored_10, eX7_mirrored_11, eX7_mirrored_14, eX7_mirrored_17, eX7_mirrored_18, eX7_mirrored_19, eX7_mirrored_20, eX7_mirrored_23, eX7_mirrored_24, eX7_mirrored_25, eX7_mirrored_26, eX7_mirrored_27, eX7_mirrored_30, eX7_mirrored_31, eX7_mirrored_32, eX7_mirrored_34, eX7_mirrored_35, eX7_mirrored_36, eX7_mirrored_39, eX7_mirrored_40, eX7_mirrored_42, eX7_mirrored_45, eX7_mirrored_47, eX7_mirrored_48, eX7_mirrored_49, eX7_mirrored_53, eX7_mirrored_54, eX7_mirrored_57, eX7_mirrored_58, eX7_mirrored_62, eX7_mirrored_64, eX7_mirrored_67, eX7_mirrored_68, eX7_mirrored_69, eX7_mirrored_72, eX7_mirrored_73, eX7_mirrored_74, eX7_mirrored_77, eX7_mirrored_78, eX7_mirrored_79, eX7_mirrored_80, eX7_mirrored_82, eX7_mirrored_83, eX7_mirrored_86, eX7_mirrored_87, eX7_mirrored_88, eX7_mirrored_91, eX7_mirrored_93, eX7_mirrored_96, eX7_mirrored_98, eX7_mirrored_100, eX7_mirrored_101, eX7_mirrored_104, eX7_mirrored_105, eX7_mirrored_106, eX7_mirrored_109, eX7_mirrored_111, eX7_mirrored_112, eX7_mirrored_113, eX7_mirrored_115, eX7_mirrored_116, eX7_mirrored_119, eX7_mirrored_120, eX7_mirrored_121, eX7_mirrored_124, eX7_mirrored_126, eX7_mirrored_129, eX7_mirrored_131, eX7_mirrored_133, eX7_mirrored_134, eX7_mirrored_135, eX7_mirrored_137, eX7_mirrored_139, eX7_mirrored_142, eX7_mirrored_143, eX7_mirrored_144, eX7_mirrored_146, eX7_mirrored_148, eX7_mirrored_151, eX7_mirrored_154, eX7_mirrored_155, eX7_mirrored_156, eX7_mirrored_159, eX7_mirrored_162, eX7_mirrored_165, eX7_mirrored_168, eX7_mirrored_169, fx_bd_some, Option.toList_some, Option.toList_none, List.nil_append, List.cons_append, fx_uo, fx_ui, Int.toNat_natCast, ↓reduceIte, Int.reduceEq, Int.reduceLT, Int.reduceLE, Int.reduceNeg, hn1]
    rw [show (r : Int) + 1 = ((r + 1 : Nat) : Int) by omega]
  | succ d ih =>
    intro n u7 u8 hn
    obtain ⟨t1, t2⟩ := tRC_lt ht h22 hr (show n < C by omega)
    have f1 := hd r n hr (by omega)
    have f2 := hd (tR t R r n) (tC t C r n) t1 t2
    have w1 := hb r n hr (by omega)
    have w2 := hb (tR t R r n) (tC t C r n) t1 t2
    have e1 := sp_at Rf Cf nc σ c r n hc (by omega) (by omega)
    have e2 := sp_at Rf Cf nc σ c (tR t R r n) (tC t C r n) hc (by omega) (by omega)
    rw [f1] at e1
    rw [f2] at e2
    have hn1 : ((n : Int) < (C : Int)) = True := by simp; omega
    have step : ∃ w7 w8 : Option fx_V, fx_E (fx_S Rf Cf nc) 108 60 [some (.inr (some (20, 0))), some (.inl (c : Int)), some (.inl (t : Int)), some (.inl (R : Int)), some (.inl (C : Int)), some (.inl (r : Int)), some (.inl (n : Int)), u7, u8] [] σ = if dp (12 * r + n) = dp (12 * tR t R r n + tC t C r n) then fx_E (fx_S Rf Cf nc) 108 60 [some (.inr (some (20, 0))), some (.inl (c : Int)), some (.inl (t : Int)), some (.inl (R : Int)), some (.inl (C : Int)), some (.inl (r : Int)), some (.inl ((n + 1 : Nat) : Int)), w7, w8] [] σ else some (some (.inl 0), σ) := by
      refine ⟨some (.inl (tR t R r n : Int)), some (.inl (tC t C r n : Int)), ?_⟩
      rw [eX7_mirrored_60]
      rcases (show t = 0 ∨ t = 1 ∨ t = 2 ∨ t = 3 by omega) with rfl | rfl | rfl | rfl
      · have a1 : tR 0 R r n = r := rfl
        have a2 : ((tC 0 C r n : Nat) : Int) = (C : Int) - 1 - n := by unfold tC; simp; omega
        rw [a1, a2] at e2
        try rw [a1] at w2
        try rw [a2] at w2
        simp (disch := omega) only [eX7_mirrored_0, eX7_mirrored_1, eX7_mirrored_2, eX7_mirrored_5, eX7_mirrored_8, eX7_mirrored_9, eX7_mirrored_10, eX7_mirrored_11, eX7_mirrored_14, eX7_mirrored_17, eX7_mirrored_18, eX7_mirrored_19, eX7_mirrored_20, eX7_mirrored_23, eX7_mirrored_24, eX7_mirrored_25, eX7_mirrored_26, eX7_mirrored_27, eX7_mirrored_30, eX7_mirrored_31, eX7_mirrored_32, eX7_mirrored_34, eX7_mirrored_35, eX7_mirrored_36, eX7_mirrored_39, eX7_mirrored_40, eX7_mirrored_42, eX7_mirrored_45, eX7_mirrored_47, eX7_mirrored_48, eX7_mirrored_49, eX7_mirrored_53, eX7_mirrored_54, eX7_mirrored_57, eX7_mirrored_58, eX7_mirrored_62, eX7_mirrored_64, eX7_mirrored_67, eX7_mirrored_68, eX7_mirrored_69, eX7_mirrored_72, eX7_mirrored_73, eX7_mirrored_74, eX7_mirrored_77, eX7_mirrored_78, eX7_mirrored_79, eX7_mirrored_80, eX7_mirrored_82, eX7_mirrored_83, eX7_mirrored_86, eX7_mirrored_87, eX7_mirrored_88, eX7_mirrored_91, eX7_mirrored_93, eX7_mirrored_96, eX7_mirrored_98, eX7_mirrored_100, eX7_mirrored_101, eX7_mirrored_104, eX7_mirrored_105, eX7_mirrored_106, eX7_mirrored_109, eX7_mirrored_111, eX7_mirrored_112, eX7_mirrored_113, eX7_mirrored_115, eX7_mirrored_116, eX7_mirrored_119, eX7_mirrored_120, eX7_mirrored_121, eX7_mirrored_124, eX7_mirrored_126, eX7_mirrored_129, eX7_mirrored_131, eX7_mirrored_133, eX7_mirrored_134, eX7_mirrored_135, eX7_mirrored_137, eX7_mirrored_139, eX7_mirrored_142, eX7_mirrored_143, eX7_mirrored_144, eX7_mirrored_146, eX7_mirrored_148, eX7_mirrored_151, eX7_mirrored_154, eX7_mirrored_155, eX7_mirrored_156, eX7_mirrored_159, eX7_mirrored_162, eX7_mirrored_165, eX7_mirrored_168, eX7_mirrored_169, fx_bd_some, Option.toList_some, Option.toList_none, List.nil_append, List.cons_append, fx_uo, fx_ui, Int.toNat_natCast, ↓reduceIte, Int.reduceEq, Int.reduceLT, Int.reduceLE, Int.reduceNeg, hn1, e1, e2, Int.natCast_add, ic0, ic1, ic2, ic3, a1, a2]
        try simp
      · have a1 : ((tR 1 R r n : Nat) : Int) = (R : Int) - 1 - r := by unfold tR; simp; omega
        have a2 : tC 1 C r n = n := rfl
        rw [a1, a2] at e2
        try rw [a1] at w2
        try rw [a2] at w2
        simp (disch := omega) only [eX7_mirrored_0, eX7_mirrored_1, eX7_mirrored_2, eX7_mirrored_5, eX7_mirrored_8, eX7_mirrored_9, eX7_mirrored_10, eX7_mirrored_11, eX7_mirrored_14, eX7_mirrored_17, eX7_mirrored_18, eX7_mirrored_19, eX7_mirrored_20, eX7_mirrored_23, eX7_mirrored_24, eX7_mirrored_25, eX7_mirrored_26, eX7_mirrored_27, eX7_mirrored_30, eX7_mirrored_31, eX7_mirrored_32, eX7_mirrored_34, eX7_mirrored_35, eX7_mirrored_36, eX7_mirrored_39, eX7_mirrored_40, eX7_mirrored_42, eX7_mirrored_45, eX7_mirrored_47, eX7_mirrored_48, eX7_mirrored_49, eX7_mirrored_53, eX7_mirrored_54, eX7_mirrored_57, eX7_mirrored_58, eX7_mirrored_62, eX7_mirrored_64, eX7_mirrored_67, eX7_mirrored_68, eX7_mirrored_69, eX7_mirrored_72, eX7_mirrored_73, eX7_mirrored_74, eX7_mirrored_77, eX7_mirrored_78, eX7_mirrored_79, eX7_mirrored_80, eX7_mirrored_82, eX7_mirrored_83, eX7_mirrored_86, eX7_mirrored_87, eX7_mirrored_88, eX7_mirrored_91, eX7_mirrored_93, eX7_mirrored_96, eX7_mirrored_98, eX7_mirrored_100, eX7_mirrored_101, eX7_mirrored_104, eX7_mirrored_105, eX7_mirrored_106, eX7_mirrored_109, eX7_mirrored_111, eX7_mirrored_112, eX7_mirrored_113, eX7_mirrored_115, eX7_mirrored_116, eX7_mirrored_119, eX7_mirrored_120, eX7_mirrored_121, eX7_mirrored_124, eX7_mirrored_126, eX7_mirrored_129, eX7_mirrored_131, eX7_mirrored_133, eX7_mirrored_134, eX7_mirrored_135, eX7_mirrored_137, eX7_mirrored_139, eX7_mirrored_142, eX7_mirrored_143, eX7_mirrored_144, eX7_mirrored_146, eX7_mirrored_148, eX7_mirrored_151, eX7_mirrored_154, eX7_mirrored_155, eX7_mirrored_156, eX7_mirrored_159, eX7_mirrored_162, eX7_mirrored_165, eX7_mirrored_168, eX7_mirrored_169, fx_bd_some, Option.toList_some, Option.toList_none, List.nil_append, List.cons_append, fx_uo, fx_ui, Int.toNat_natCast, ↓reduceIte, Int.reduceEq, Int.reduceLT, Int.reduceLE, Int.reduceNeg, hn1, e1, e2, Int.natCast_add, ic0, ic1, ic2, ic3, a1, a2]
        try simp
      · have a1 : tR 2 R r n = n := rfl
        have a2 : tC 2 C r n = r := rfl
        rw [a1, a2] at e2
        try rw [a1] at w2
        try rw [a2] at w2
        simp (disch := omega) only [eX7_mirrored_0, eX7_mirrored_1, eX7_mirrored_2, eX7_mirrored_5, eX7_mirrored_8, eX7_mirrored_9, eX7_mirrored_10, eX7_mirrored_11, eX7_mirrored_14, eX7_mirrored_17, eX7_mirrored_18, eX7_mirrored_19, eX7_mirrored_20, eX7_mirrored_23, eX7_mirrored_24, eX7_mirrored_25, eX7_mirrored_26, eX7_mirrored_27, eX7_mirrored_30, eX7_mirrored_31, eX7_mirrored_32, eX7_mirrored_34, eX7_mirrored_35, eX7_mirrored_36, eX7_mirrored_39, eX7_mirrored_40, eX7_mirrored_42, eX7_mirrored_45, eX7_mirrored_47, eX7_mirrored_48, eX7_mirrored_49, eX7_mirrored_53, eX7_mirrored_54, eX7_mirrored_57, eX7_mirrored_58, eX7_mirrored_62, eX7_mirrored_64, eX7_mirrored_67, eX7_mirrored_68, eX7_mirrored_69, eX7_mirrored_72, eX7_mirrored_73, eX7_mirrored_74, eX7_mirrored_77, eX7_mirrored_78, eX7_mirrored_79, eX7_mirrored_80, eX7_mirrored_82, eX7_mirrored_83, eX7_mirrored_86, eX7_mirrored_87, eX7_mirrored_88, eX7_mirrored_91, eX7_mirrored_93, eX7_mirrored_96, eX7_mirrored_98, eX7_mirrored_100, eX7_mirrored_101, eX7_mirrored_104, eX7_mirrored_105, eX7_mirrored_106, eX7_mirrored_109, eX7_mirrored_111, eX7_mirrored_112, eX7_mirrored_113, eX7_mirrored_115, eX7_mirrored_116, eX7_mirrored_119, eX7_mirrored_120, eX7_mirrored_121, eX7_mirrored_124, eX7_mirrored_126, eX7_mirrored_129, eX7_mirrored_131, eX7_mirrored_133, eX7_mirrored_134, eX7_mirrored_135, eX7_mirrored_137, eX7_mirrored_139, eX7_mirrored_142, eX7_mirrored_143, eX7_mirrored_144, eX7_mirrored_146, eX7_mirrored_148, eX7_mirrored_151, eX7_mirrored_154, eX7_mirrored_155, eX7_mirrored_156, eX7_mirrored_159, eX7_mirrored_162, eX7_mirrored_165, eX7_mirrored_168, eX7_mirrored_169, fx_bd_some, Option.toList_some, Option.toList_none, List.nil_append, List.cons_append, fx_uo, fx_ui, Int.toNat_natCast, ↓reduceIte, Int.reduceEq, Int.reduceLT, Int.reduceLE, Int.reduceNeg, hn1, e1, e2, Int.natCast_add, ic0, ic1, ic2, ic3, a1, a2]
        try simp
      · have a1 : ((tR 3 R r n : Nat) : Int) = (R : Int) - 1 - r := by unfold tR; simp; omega
        have a2 : ((tC 3 C r n : Nat) : Int) = (C : Int) - 1 - n := by unfold tC; simp; omega
        rw [a1, a2] at e2
        try rw [a1] at w2
        try rw [a2] at w2
        simp (disch := omega) only [eX7_mirrored_0, eX7_mirrored_1, eX7_mirrored_2, eX7_mirrored_5, eX7_mirrored_8, eX7_mirrored_9, eX7_mirrored_10, eX7_mirrored_11, eX7_mirrored_14, eX7_mirrored_17, eX7_mirrored_18, eX7_mirrored_19, eX7_mirrored_20, eX7_mirrored_23, eX7_mirrored_24, eX7_mirrored_25, eX7_mirrored_26, eX7_mirrored_27, eX7_mirrored_30, eX7_mirrored_31, eX7_mirrored_32, eX7_mirrored_34, eX7_mirrored_35, eX7_mirrored_36, eX7_mirrored_39, eX7_mirrored_40, eX7_mirrored_42, eX7_mirrored_45, eX7_mirrored_47, eX7_mirrored_48, eX7_mirrored_49, eX7_mirrored_53, eX7_mirrored_54, eX7_mirrored_57, eX7_mirrored_58, eX7_mirrored_62, eX7_mirrored_64, eX7_mirrored_67, eX7_mirrored_68, eX7_mirrored_69, eX7_mirrored_72, eX7_mirrored_73, eX7_mirrored_74, eX7_mirrored_77, eX7_mirrored_78, eX7_mirrored_79, eX7_mirrored_80, eX7_mirrored_82, eX7_mirrored_83, eX7_mirrored_86, eX7_mirrored_87, eX7_mirrored_88, eX7_mirrored_91, eX7_mirrored_93, eX7_mirrored_96, eX7_mirrored_98, eX7_mirrored_100, eX7_mirrored_101, eX7_mirrored_104, eX7_mirrored_105, eX7_mirrored_106, eX7_mirrored_109, eX7_mirrored_111, eX7_mirrored_112, eX7_mirrored_113, eX7_mirrored_115, eX7_mirrored_116, eX7_mirrored_119, eX7_mirrored_120, eX7_mirrored_121, eX7_mirrored_124, eX7_mirrored_126, eX7_mirrored_129, eX7_mirrored_131, eX7_mirrored_133, eX7_mirrored_134, eX7_mirrored_135, eX7_mirrored_137, eX7_mirrored_139, eX7_mirrored_142, eX7_mirrored_143, eX7_mirrored_144, eX7_mirrored_146, eX7_mirrored_148, eX7_mirrored_151, eX7_mirrored_154, eX7_mirrored_155, eX7_mirrored_156, eX7_mirrored_159, eX7_mirrored_162, eX7_mirrored_165, eX7_mirrored_168, eX7_mirrored_169, fx_bd_some, Option.toList_some, Option.toList_none, List.nil_append, List.cons_append, fx_uo, fx_ui, Int.toNat_natCast, ↓reduceIte, Int.reduceEq, Int.reduceLT, Int.reduceLE, Int.reduceNeg, hn1, e1, e2, Int.natCast_add, ic0, ic1, ic2, ic3, a1, a2]
        try simp
    obtain ⟨w7, w8, st⟩ := step
    rw [st]
    by_cases ha : dp (12 * r + n) = dp (12 * tR t R r n + tC t C r n)
    · rw [if_pos ha]
      rcases ih (n + 1) w7 w8 (by omega) with q1 | ⟨q1, q2⟩
      · exact Or.inl q1
      · right
        refine ⟨fun n' h1 h2 => ?_, q2⟩
        by_cases hq2 : n' = n
        · subst hq2; exact ha
        · exact q1 n' (by omega) h2
    · rw [if_neg ha]
      exact Or.inl ⟨⟨n, by omega, ha⟩, rfl⟩
theorem mi_lp (Rf Cf : Nat → Nat) (nc : Nat) {σ : fx_M} {c t R C : Nat} {dp : Nat → Int} (hc : c < 7) (ht : t < 4) (hR : R ≤ 12) (hC : C ≤ 12) (h22 : t = 2 → R = C) (hD : DM c R C dp σ) :
    ∀ (d r : Nat) (u6 u7 u8 : Option fx_V), r + d = R → ∃ v : Int, fx_E (fx_S Rf Cf nc) 108 51 [some (.inr (some (20, 0))), some (.inl (c : Int)), some (.inl (t : Int)), some (.inl (R : Int)), some (.inl (C : Int)), some (.inl (r : Int)), u6, u7, u8] [] σ = some (some (.inl v), σ) ∧ ((v = 0 ∧ ∃ r' n', r' < R ∧ n' < C ∧ dp (12 * r' + n') ≠ dp (12 * tR t R r' n' + tC t C r' n')) ∨ (v = 1 ∧ ∀ r' n', r ≤ r' → r' < R → n' < C → dp (12 * r' + n') = dp (12 * tR t R r' n' + tC t C r' n'))) := by
  intro d
  induction d with
  | zero =>
    intro r u6 u7 u8 hr
    obtain rfl : r = R := by omega
    rw [eX7_mirrored_51]
    simp (disch := omega) only [eX7_mirrored_0, eX7_mirrored_1, eX7_mirrored_2, eX7_mirrored_5, eX7_mirrored_8, eX7_mirrored_9, eX7_mirrored_10, eX7_mirrored_11, eX7_mirrored_14, eX7_mirrored_17, eX7_mirrored_18, eX7_mirrored_19, eX7_mirrored_20, eX7_mirrored_23, eX7_mirrored_24, eX7_mirrored_25, eX7_mirrored_26, eX7_mirrored_27, eX7_mirrored_30, eX7_mirrored_31, eX7_mirrored_32, eX7_mirrored_34, eX7_mirrored_35, eX7_mirrored_36, eX7_mirrored_39, eX7_mirrored_40, eX7_mirrored_42, eX7_mirrored_45, eX7_mirrored_47, eX7_mirrored_48, eX7_mirrored_49, eX7_mirrored_53, eX7_mirrored_54, eX7_mirrored_57, eX7_mirrored_58, eX7_mirrored_62, eX7_mirrored_64, eX7_mirrored_67, eX7_mirrored_68, eX7_mirrored_69, eX7_mirrored_72, eX7_mirrored_73, eX7_mirrored_74, eX7_mirrored_77, eX7_mirrored_78, eX7_mirrored_79, eX7_mirrored_80, eX7_mirrored_82, eX7_mirrored_83, eX7_mirrored_86, eX7_mirrored_87, eX7_mirrored_88, eX7_mirrored_91, eX7_mirrored_93, eX7_mirrored_96, eX7_mirrored_98, eX7_mirrored_100, eX7_mirrored_101, eX7_mirrored_104, eX7_mirrored_105, eX7_mirrored_106, eX7_mirrored_109, eX7_mirrored_111, eX7_mirrored_112, eX7_mirrored_113, eX7_mirrored_115, eX7_mirrored_116, eX7_mirrored_119, eX7_mirrored_120, eX7_mirrored_121, eX7_mirrored_124, eX7_mirrored_126, eX7_mirrored_129, eX7_mirrored_131, eX7_mirrored_133, eX7_mirrored_134, eX7_mirrored_135, eX7_mirrored_137, eX7_mirrored_139, eX7_mirrored_142, eX7_mirrored_143, eX7_mirrored_144, eX7_mirrored_146, eX7_mirrored_148, eX7_mirrored_151, eX7_mirrored_154, eX7_mirrored_155, eX7_mirrored_156, eX7_mirrored_159, eX7_mirrored_162, eX7_mirrored_165, eX7_mirrored_168, eX7_mirrored_169, fx_bd_some, Option.toList_some, Option.toList_none, List.nil_append, List.cons_append, fx_uo, fx_ui, Int.toNat_natCast, ↓reduceIte, Int.reduceEq, Int.reduceLT, Int.reduceLE, Int.reduceNeg]
    rw [if_neg (by omega)]
    exact ⟨1, rfl, Or.inr ⟨rfl, fun r' n' h1 h2 => by omega⟩⟩
  | succ d ih =>
    intro r u6 u7 u8 hr
    rw [eX7_mirrored_51]
    simp (disch := omega) only [eX7_mirrored_0, eX7_mirrored_1, eX7_mirrored_2, eX7_mirrored_5, eX7_mirrored_8, eX7_mirrored_9, eX7_mirrored_10, eX7_mirrored_11, eX7_mirrored_14, eX7_mirrored_17, eX7_mirrored_18, eX7_mirrored_19, eX7_mirrored_20, eX7_mirrored_23, eX7_mirrored_24, eX7_mirrored_25, eX7_mirrored_26, eX7_mirrored_27, eX7_mirrored_30, eX7_mirrored_31, eX7_mirrored_32, eX7_mirrored_34, eX7_mirrored_35, eX7_mirrored_36, eX7_mirrored_39, eX7_mirrored_40, eX7_mirrored_42, eX7_mirrored_45, eX7_mirrored_47, eX7_mirrored_48, eX7_mirrored_49, eX7_mirrored_53, eX7_mirrored_54, eX7_mirrored_57, eX7_mirrored_58, eX7_mirrored_62, eX7_mirrored_64, eX7_mirrored_67, eX7_mirrored_68, eX7_mirrored_69, eX7_mirrored_72, eX7_mirrored_73, eX7_mirrored_74, eX7_mirrored_77, eX7_mirrored_78, eX7_mirrored_79, eX7_mirrored_80, eX7_mirrored_82, eX7_mirrored_83, eX7_mirrored_86, eX7_mirrored_87, eX7_mirrored_88, eX7_mirrored_91, eX7_mirrored_93, eX7_mirrored_96, eX7_mirrored_98, eX7_mirrored_100, eX7_mirrored_101, eX7_mirrored_104, eX7_mirrored_105, eX7_mirrored_106, eX7_mirrored_109, eX7_mirrored_111, eX7_mirrored_112, eX7_mirrored_113, eX7_mirrored_115, eX7_mirrored_116, eX7_mirrored_119, eX7_mirrored_120, eX7_mirrored_121, eX7_mirrored_124, eX7_mirrored_126, eX7_mirrored_129, eX7_mirrored_131, eX7_mirrored_133, eX7_mirrored_134, eX7_mirrored_135, eX7_mirrored_137, eX7_mirrored_139, eX7_mirrored_142, eX7_mirrored_143, eX7_mirrored_144, eX7_mirrored_146, eX7_mirrored_148, eX7_mirrored_151, eX7_mirrored_154, eX7_mirrored_155, eX7_mirrored_156, eX7_mirrored_159, eX7_mirrored_162, eX7_mirrored_165, eX7_mirrored_168, eX7_mirrored_169, fx_bd_some, Option.toList_some, Option.toList_none, List.nil_append, List.cons_append, fx_uo, fx_ui, Int.toNat_natCast, ↓reduceIte, Int.reduceEq, Int.reduceLT, Int.reduceLE, Int.reduceNeg]
    rw [if_pos (by omega)]
    rcases mi_in Rf Cf nc hc ht hR hC h22 hD r (by omega) C 0 u7 u8 (by omega) with ⟨⟨n', k1, k2⟩, k3⟩ | ⟨q1, w7, w8, q2⟩
    · exact ⟨0, k3, Or.inl ⟨rfl, r, n', by omega, k1, k2⟩⟩
    · obtain ⟨v, v1, v2⟩ := ih (r + 1) (some (.inl (C : Int))) w7 w8 (by omega)
      refine ⟨v, q2.trans v1, ?_⟩
      rcases v2 with v2 | ⟨v2, v3⟩
      · exact Or.inl v2
      · right
        refine ⟨v2, fun r' n' h1 h2 h3 => ?_⟩
        by_cases q3 : r' = r
        · subst q3; exact q1 n' (by omega) h3
        · exact v3 r' n' (by omega) h2 h3
