/-! counting -/
def cntP : Nat → (Nat → Bool) → Nat
  | 0, _ => 0
  | n + 1, P => cntP n P + (if P n then 1 else 0)
theorem cntP_le (n : Nat) (P : Nat → Bool) : cntP n P ≤ n := by
  induction n with
  | zero => exact Nat.le_refl 0
  | succ n ih => simp only [cntP]; split <;> omega
theorem cntP_congr {n : Nat} {P Q : Nat → Bool} (h : ∀ k, k < n → P k = Q k) : cntP n P = cntP n Q := by
  induction n with
  | zero => rfl
  | succ n ih => simp only [cntP]; rw [ih (fun k hk => h k (by omega)), h n (by omega)]
abbrev isC (R C k : Nat) : Prop := k / 12 < R ∧ k % 12 < C
/-! the reference: opening a cloth -/
def m_unf (c a : Nat) (σ : fx_M) : fx_M := fun o g i =>
  if g = 0 ∧ o = 34 ∧ 144 * c + a ≤ i ∧ i < 144 * c + 144 then (((i - 144 * c) / 12 : Nat) : Int)
  else if g = 0 ∧ o = 35 ∧ 144 * c + a ≤ i ∧ i < 144 * c + 144 then (((i - 144 * c) % 12 : Nat) : Int)
  else if g = 0 ∧ o = 36 ∧ 144 * c + a ≤ i ∧ i < 144 * c + 144 then 0
  else if g = 0 ∧ o = 37 ∧ i = c then σ 30 0 c
  else if g = 0 ∧ o = 38 ∧ i = c then σ 31 0 c
  else if g = 0 ∧ (o = 39 ∨ o = 42) ∧ i = c then 0
  else σ o g i
theorem sp_unfold_lp (Rf Cf : Nat → Nat) (nc : Nat) (c : Nat) (hc : c < 7) : ∀ (d k : Nat) (σ : fx_M), k + d = 144 → fx_E (fx_S Rf Cf nc) 76 2 [some (.inr (some (20, 0))), some (.inl (c : Int)), some (.inl (k : Int))] [] σ = some (none, m_unf c k σ)
  | 0, k, σ, h => by
    obtain rfl : k = 144 := by omega
    rw [eX7_unfold_2]
    simp (disch := omega) only [eX7_unfold_0, eX7_unfold_1, eX7_unfold_3, eX7_unfold_6, eX7_unfold_9, eX7_unfold_10, eX7_unfold_13, eX7_unfold_16, eX7_unfold_17, eX7_unfold_18, eX7_unfold_19, eX7_unfold_20, eX7_unfold_21, eX7_unfold_23, eX7_unfold_24, eX7_unfold_25, eX7_unfold_26, eX7_unfold_29, eX7_unfold_32, eX7_unfold_33, eX7_unfold_34, eX7_unfold_35, eX7_unfold_36, eX7_unfold_37, eX7_unfold_39, eX7_unfold_40, eX7_unfold_41, eX7_unfold_42, eX7_unfold_45, eX7_unfold_48, eX7_unfold_49, eX7_unfold_50, eX7_unfold_51, eX7_unfold_52, eX7_unfold_53, eX7_unfold_54, eX7_unfold_57, eX7_unfold_60, eX7_unfold_61, eX7_unfold_64, eX7_unfold_65, eX7_unfold_66, eX7_unfold_69, eX7_unfold_70, eX7_unfold_71, eX7_unfold_72, eX7_unfold_73, eX7_unfold_76, eX7_unfold_77, eX7_unfold_78, eX7_unfold_81, eX7_unfold_82, eX7_unfold_83, eX7_unfold_84, eX7_unfold_85, eX7_unfold_88, eX7_unfold_89, eX7_unfold_90, eX7_unfold_91, eX7_unfold_92, eX7_unfold_95, eX7_unfold_96, eX7_unfold_97, eX7_unfold_98, fx_bd_some, Option.toList_some, Option.toList_none, List.nil_append, List.cons_append, fx_uo, fx_ui, Int.toNat_natCast, ↓reduceIte, Int.reduceEq, Int.reduceLT, Int.reduceLE, Int.reduceNeg]
    rw [if_neg (by omega)]
    congr 2
    funext o g i
    grind (splits := 40) [m_unf, fx_up]
  | d + 1, k, σ, h => by
    rw [eX7_unfold_2]
    simp (disch := omega) only [eX7_unfold_0, eX7_unfold_1, eX7_unfold_3, eX7_unfold_6, eX7_unfold_9, eX7_unfold_10, eX7_unfold_13, eX7_unfold_16, eX7_unfold_17, eX7_unfold_18, eX7_unfold_19, eX7_unfold_20, eX7_unfold_21, eX7_unfold_23, eX7_unfold_24, eX7_unfold_25, eX7_unfold_26, eX7_unfold_29, eX7_unfold_32, eX7_unfold_33, eX7_unfold_34, eX7_unfold_35, eX7_unfold_36, eX7_unfold_37, eX7_unfold_39, eX7_unfold_40, eX7_unfold_41, eX7_unfold_42, eX7_unfold_45, eX7_unfold_48, eX7_unfold_49, eX7_unfold_50, eX7_unfold_51, eX7_unfold_52, eX7_unfold_53, eX7_unfold_54, eX7_unfold_57, eX7_unfold_60, eX7_unfold_61, eX7_unfold_64, eX7_unfold_65, eX7_unfold_66, eX7_unfold_69, eX7_unfold_70, eX7_unfold_71, eX7_unfold_72, eX7_unfold_73, eX7_unfold_76, eX7_unfold_77, eX7_unfold_78, eX7_unfold_81, eX7_unfold_82, eX7_unfold_83, eX7_unfold_84, eX7_unfold_85, eX7_unfold_88, eX7_unfold_89, eX7_unfold_90, eX7_unfold_91, eX7_unfold_92, eX7_unfold_95, eX7_unfold_96, eX7_unfold_97, eX7_unfold_98, fx_bd_some, Option.toList_some, Option.toList_none, List.nil_append, List.cons_append, fx_uo, fx_ui, Int.toNat_natCast, ↓reduceIte, Int.reduceEq, Int.reduceLT, Int.reduceLE, Int.reduceNeg]
    rw [if_pos (by omega), show (k : Int) + 1 = ((k + 1 : Nat) : Int) by omega, show (144 * (c : Int) + (k : Int)).toNat = 144 * c + k by omega, sp_unfold_lp Rf Cf nc c hc d (k + 1) _ (by omega)]
    congr 2
    funext o g i
    grind (splits := 40) [m_unf, fx_up]
theorem sp_unfold (Rf Cf : Nat → Nat) (nc : Nat) (c : Nat) (hc : c < 7) (σ : fx_M) : fx_Ca (fx_S Rf Cf nc) 76 [.inr (some (20, 0)), .inl (c : Int)] σ = some (none, m_unf c 0 σ) := by
  rw [entX7_unfold]
  simp only [eX7_unfold_0, eX7_unfold_1, eX7_unfold_3, eX7_unfold_6, eX7_unfold_9, eX7_unfold_10, eX7_unfold_13, eX7_unfold_16, eX7_unfold_17, eX7_unfold_18, eX7_unfold_19, eX7_unfold_20, eX7_unfold_21, eX7_unfold_23, eX7_unfold_24, eX7_unfold_25, eX7_unfold_26, eX7_unfold_29, eX7_unfold_32, eX7_unfold_33, eX7_unfold_34, eX7_unfold_35, eX7_unfold_36, eX7_unfold_37, eX7_unfold_39, eX7_unfold_40, eX7_unfold_41, eX7_unfold_42, eX7_unfold_45, eX7_unfold_48, eX7_unfold_49, eX7_unfold_50, eX7_unfold_51, eX7_unfold_52, eX7_unfold_53, eX7_unfold_54, eX7_unfold_57, eX7_unfold_60, eX7_unfold_61, eX7_unfold_64, eX7_unfold_65, eX7_unfold_66, eX7_unfold_69, eX7_unfold_70, eX7_unfold_71, eX7_unfold_72, eX7_unfold_73, eX7_unfold_76, eX7_unfold_77, eX7_unfold_78, eX7_unfold_81, eX7_unfold_82, eX7_unfold_83, eX7_unfold_84, eX7_unfold_85, eX7_unfold_88, eX7_unfold_89, eX7_unfold_90, eX7_unfold_91, eX7_unfold_92, eX7_unfold_95, eX7_unfold_96, eX7_unfold_97, eX7_unfold_98]
  exact sp_unfold_lp Rf Cf nc c hc 144 0 σ (by omega)
/-! the reference: stacks -/
theorem sp_stacks_lp1 (Rf Cf : Nat → Nat) (nc : Nat) (c : Nat) (σ0 : fx_M) (r : Option fx_R) (hr : fx_E (fx_S Rf Cf nc) 79 24 [some (.inr (some (20, 0))), some (.inl (c : Int)), some (.inl 0), none] [] (fx_fr σ0 51 0 0 144 (fun _ => 0)) = r) : ∀ (d k : Nat) (σ : fx_M), k + d = 144 → fx_fr σ 51 0 k 144 (fun _ => 0) = fx_fr σ0 51 0 0 144 (fun _ => 0) → fx_E (fx_S Rf Cf nc) 79 2 [some (.inr (some (20, 0))), some (.inl (c : Int)), some (.inl (k : Int)), none] [] σ = r
  | 0, k, σ, h, hq => by
    obtain rfl : k = 144 := by omega
    rw [eX7_findStacks_2]
    simp (disch := omega) only [eX7_findStacks_0, eX7_findStacks_1, eX7_findStacks_3, eX7_findStacks_6, eX7_findStacks_9, eX7_findStacks_10, eX7_findStacks_13, eX7_findStacks_14, eX7_findStacks_15, eX7_findStacks_16, eX7_findStacks_19, eX7_findStacks_22, eX7_findStacks_23, eX7_findStacks_25, eX7_findStacks_26, eX7_findStacks_27, eX7_findStacks_30, eX7_findStacks_33, eX7_findStacks_34, eX7_findStacks_35, eX7_findStacks_36, eX7_findStacks_39, eX7_findStacks_42, eX7_findStacks_44, eX7_findStacks_45, eX7_findStacks_48, eX7_findStacks_51, eX7_findStacks_52, eX7_findStacks_53, eX7_findStacks_54, eX7_findStacks_55, eX7_findStacks_56, eX7_findStacks_57, eX7_findStacks_58, eX7_findStacks_61, eX7_findStacks_64, eX7_findStacks_65, eX7_findStacks_66, eX7_findStacks_67, eX7_findStacks_68, eX7_findStacks_69, eX7_findStacks_70, eX7_findStacks_71, eX7_findStacks_72, eX7_findStacks_75, eX7_findStacks_76, eX7_findStacks_77, eX7_findStacks_78, eX7_findStacks_79, eX7_findStacks_80, eX7_findStacks_81, eX7_findStacks_82, eX7_findStacks_85, eX7_findStacks_87, eX7_findStacks_88, eX7_findStacks_89, eX7_findStacks_90, eX7_findStacks_93, eX7_findStacks_96, eX7_findStacks_97, eX7_findStacks_98, eX7_findStacks_99, eX7_findStacks_100, eX7_findStacks_101, eX7_findStacks_102, eX7_findStacks_103, eX7_findStacks_104, eX7_findStacks_107, eX7_findStacks_110, fx_bd_some, Option.toList_some, Option.toList_none, List.nil_append, List.cons_append, fx_uo, fx_ui, Int.toNat_natCast, ↓reduceIte, Int.reduceEq, Int.reduceLT, Int.reduceLE, Int.reduceNeg]
    rw [fx_fr_nil] at hq
    rw [if_neg (by omega), hq]
    exact hr
  | d + 1, k, σ, h, hq => by
    rw [eX7_findStacks_2]
    simp (disch := omega) only [eX7_findStacks_0, eX7_findStacks_1, eX7_findStacks_3, eX7_findStacks_6, eX7_findStacks_9, eX7_findStacks_10, eX7_findStacks_13, eX7_findStacks_14, eX7_findStacks_15, eX7_findStacks_16, eX7_findStacks_19, eX7_findStacks_22, eX7_findStacks_23, eX7_findStacks_25, eX7_findStacks_26, eX7_findStacks_27, eX7_findStacks_30, eX7_findStacks_33, eX7_findStacks_34, eX7_findStacks_35, eX7_findStacks_36, eX7_findStacks_39, eX7_findStacks_42, eX7_findStacks_44, eX7_findStacks_45, eX7_findStacks_48, eX7_findStacks_51, eX7_findStacks_52, eX7_findStacks_53, eX7_findStacks_54, eX7_findStacks_55, eX7_findStacks_56, eX7_findStacks_57, eX7_findStacks_58, eX7_findStacks_61, eX7_findStacks_64, eX7_findStacks_65, eX7_findStacks_66, eX7_findStacks_67, eX7_findStacks_68, eX7_findStacks_69, eX7_findStacks_70, eX7_findStacks_71, eX7_findStacks_72, eX7_findStacks_75, eX7_findStacks_76, eX7_findStacks_77, eX7_findStacks_78, eX7_findStacks_79, eX7_findStacks_80, eX7_findStacks_81, eX7_findStacks_82, eX7_findStacks_85, eX7_findStacks_87, eX7_findStacks_88, eX7_findStacks_89, eX7_findStacks_90, eX7_findStacks_93, eX7_findStacks_96, eX7_findStacks_97, eX7_findStacks_98, eX7_findStacks_99, eX7_findStacks_100, eX7_findStacks_101, eX7_findStacks_102, eX7_findStacks_103, eX7_findStacks_104, eX7_findStacks_107, eX7_findStacks_110, fx_bd_some, Option.toList_some, Option.toList_none, List.nil_append, List.cons_append, fx_uo, fx_ui, Int.toNat_natCast, ↓reduceIte, Int.reduceEq, Int.reduceLT, Int.reduceLE, Int.reduceNeg]
    rw [if_pos (by omega), show (k : Int) + 1 = ((k + 1 : Nat) : Int) by omega]
    refine sp_stacks_lp1 Rf Cf nc c σ0 r hr d (k + 1) _ (by omega) ?_
    rw [← hq]
    exact fx_fr_up σ 51 0 k 144 (fun _ => 0) (by omega)
/-! a folded cloth: R rows, C columns; its bundle's rows, columns; where each cell k (12 times its row, and its column) lies, and how high -/
def siz (R C : Nat) (pr pc : Nat → Nat) (p : Nat) : Nat := cntP 144 (fun k => decide (isC R C k ∧ 12 * pr k + pc k = p))
def BW (R C br bc : Nat) (pr pc ph : Nat → Nat) : Prop := (1 ≤ R ∧ R ≤ 12) ∧ (1 ≤ C ∧ C ≤ 12) ∧ (1 ≤ br ∧ br ≤ R) ∧ (1 ≤ bc ∧ bc ≤ C) ∧ (∀ k, k < 144 → isC R C k → pr k < br ∧ pc k < bc ∧ ph k < siz R C pr pc (12 * pr k + pc k)) ∧ (∀ p, siz R C pr pc p ≤ 24) ∧ ∀ k j, k < 144 → j < 144 → isC R C k → isC R C j → pr k = pr j → pc k = pc j → ph k = ph j → k = j
def MB (c R C br bc : Nat) (pr pc ph : Nat → Nat) (σ : fx_M) : Prop := σ 30 0 c = R ∧ σ 31 0 c = C ∧ σ 37 0 c = br ∧ σ 38 0 c = bc ∧ ∀ k, k < 144 → isC R C k → σ 34 0 (144 * c + k) = pr k ∧ σ 35 0 (144 * c + k) = pc k ∧ σ 36 0 (144 * c + k) = ph k
theorem MB.of {c R C br bc : Nat} {pr pc ph : Nat → Nat} {σ σ' : fx_M} (h : MB c R C br bc pr pc ph σ) (hs : ∀ o i, o = 30 ∨ o = 31 ∨ o = 34 ∨ o = 35 ∨ o = 36 ∨ o = 37 ∨ o = 38 → σ' o 0 i = σ o 0 i) : MB c R C br bc pr pc ph σ' := by
  obtain ⟨h1, h2, h3, h4, h5⟩ := h
  refine ⟨by rw [hs _ _ (by omega)]; exact h1, by rw [hs _ _ (by omega)]; exact h2, by rw [hs _ _ (by omega)]; exact h3, by rw [hs _ _ (by omega)]; exact h4, fun k hk hc => ?_⟩
  rw [hs _ _ (by omega), hs _ _ (by omega), hs _ _ (by omega)]
  exact h5 k hk hc
theorem sp_isCellY (Rf Cf : Nat → Nat) (nc : Nat) {σ : fx_M} {c R C k : Nat} (h1 : c < 7) (hR : σ 30 0 c = R) (hC : σ 31 0 c = C) (hR2 : R ≤ 12) (hC2 : C ≤ 12) (hk : k < 1000) (h : isC R C k) : fx_Ca (fx_S Rf Cf nc) 74 [.inr (some (20, 0)), .inl (c : Int), .inl (k : Int)] σ = some (some (.inl 1), σ) := by
  rw [sp_isCell Rf Cf nc σ c k h1 (by omega) (by omega) (by omega), if_pos (by have := h.1; have := h.2; omega)]
theorem sp_isCellN (Rf Cf : Nat → Nat) (nc : Nat) {σ : fx_M} {c R C k : Nat} (h1 : c < 7) (hR : σ 30 0 c = R) (hC : σ 31 0 c = C) (hR2 : R ≤ 12) (hC2 : C ≤ 12) (hk : k < 1000) (h : ¬ isC R C k) : fx_Ca (fx_S Rf Cf nc) 74 [.inr (some (20, 0)), .inl (c : Int), .inl (k : Int)] σ = some (some (.inl 0), σ) := by
  rw [sp_isCell Rf Cf nc σ c k h1 (by omega) (by omega) (by omega), if_neg (by intro q; exact h ⟨by omega, by omega⟩)]
theorem isC_lt {R C k : Nat} (h : isC R C k) : k < 12 * R := by have := h.1; omega
theorem cntP_cut {a b : Nat} {P : Nat → Bool} (h : a ≤ b) (hP : ∀ k, a ≤ k → k < b → P k = false) : cntP b P = cntP a P := by
  induction b with
  | zero => rw [show a = 0 by omega]
  | succ b ih =>
    by_cases hb : a = b + 1
    · rw [hb]
    · simp only [cntP]
      rw [ih (by omega) (fun k h1 h2 => hP k h1 (by omega)), hP b (by omega) (by omega)]
      simp
/-- the reference's stacks, as far as cell k -/
def MS (R C : Nat) (pr pc ph : Nat → Nat) (k : Nat) (σ : fx_M) : Prop := (∀ p, p < 144 → σ 51 0 p = cntP k (fun j => decide (isC R C j ∧ 12 * pr j + pc j = p))) ∧ ∀ j, j < k → isC R C j → σ 50 0 (25 * (12 * pr j + pc j) + ph j) = j
theorem sp_stacks_lp2 (Rf Cf : Nat → Nat) (nc : Nat) {c R C br bc : Nat} {pr pc ph : Nat → Nat} (hc : c < 7) (hB : BW R C br bc pr pc ph) : ∀ (d k : Nat) (σ : fx_M) (u : Option fx_V), k + d = 12 * R → MB c R C br bc pr pc ph σ → MS R C pr pc ph k σ → ∃ σ', fx_E (fx_S Rf Cf nc) 79 24 [some (.inr (some (20, 0))), some (.inl (c : Int)), some (.inl (k : Int)), u] [] σ = some (none, σ') ∧ (∀ o g i, ¬ (g = 0 ∧ (o = 50 ∨ o = 51)) → σ' o g i = σ o g i) ∧ MS R C pr pc ph (12 * R) σ'
  | 0, k, σ, u, h, hM, hS => by
    obtain rfl : k = 12 * R := by omega
    obtain ⟨⟨b1, b2⟩, ⟨b3, b4⟩, -⟩ := id hB
    rw [eX7_findStacks_24]
    simp (disch := omega) only [eX7_findStacks_0, eX7_findStacks_1, eX7_findStacks_3, eX7_findStacks_6, eX7_findStacks_9, eX7_findStacks_10, eX7_findStacks_13, eX7_findStacks_14, eX7_findStacks_15, eX7_findStacks_16, eX7_findStacks_19, eX7_findStacks_22, eX7_findStacks_23, eX7_findStacks_25, eX7_findStacks_26, eX7_findStacks_27, eX7_findStacks_30, eX7_findStacks_33, eX7_findStacks_34, eX7_findStacks_35, eX7_findStacks_36, eX7_findStacks_39, eX7_findStacks_42, eX7_findStacks_44, eX7_findStacks_45, eX7_findStacks_48, eX7_findStacks_51, eX7_findStacks_52, eX7_findStacks_53, eX7_findStacks_54, eX7_findStacks_55, eX7_findStacks_56, eX7_findStacks_57, eX7_findStacks_58, eX7_findStacks_61, eX7_findStacks_64, eX7_findStacks_65, eX7_findStacks_66, eX7_findStacks_67, eX7_findStacks_68, eX7_findStacks_69, eX7_findStacks_70, eX7_findStacks_71, eX7_findStacks_72, eX7_findStacks_75, eX7_findStacks_76, eX7_findStacks_77, eX7_findStacks_78, eX7_findStacks_79, eX7_findStacks_80, eX7_findStacks_81, eX7_findStacks_82, eX7_findStacks_85, eX7_findStacks_87, eX7_findStacks_88, eX7_findStacks_89, eX7_findStacks_90, eX7_findStacks_93, eX7_findStacks_96, eX7_findStacks_97, eX7_findStacks_98, eX7_findStacks_99, eX7_findStacks_100, eX7_findStacks_101, eX7_findStacks_102, eX7_findStacks_103, eX7_findStacks_104, eX7_findStacks_107, eX7_findStacks_110, fx_bd_some, Option.toList_some, Option.toList_none, List.nil_append, List.cons_append, fx_uo, fx_ui, Int.toNat_natCast, ↓reduceIte, Int.reduceEq, Int.reduceLT, Int.reduceLE, Int.reduceNeg, sp_cellEnd Rf Cf nc _ c hc, hM.1]
    rw [if_neg (by omega)]
    exact ⟨σ, rfl, fun _ _ _ _ => rfl, hS⟩
  | d + 1, k, σ, u, h, hM, hS => by
    obtain ⟨⟨b1, b2⟩, ⟨b3, b4⟩, ⟨b5, b6⟩, ⟨b7, b8⟩, b9, b10, b11⟩ := id hB
    obtain ⟨m1, m2, m3, m4, m5⟩ := id hM
    rw [eX7_findStacks_24]
    by_cases hcell : isC R C k
    · have e1 := sp_isCellY Rf Cf nc hc m1 m2 b2 b4 (show k < 1000 by omega) hcell
      have hk : k < 144 := by omega
      obtain ⟨f1, f2, f3⟩ := m5 k hk hcell
      obtain ⟨g1, g2, g3⟩ := b9 k hk hcell
      have g4 := b10 (12 * pr k + pc k)
      have i1 : (144 * (c : Int) + (k : Int)).toNat = 144 * c + k := by omega
      simp (disch := omega) only [eX7_findStacks_0, eX7_findStacks_1, eX7_findStacks_3, eX7_findStacks_6, eX7_findStacks_9, eX7_findStacks_10, eX7_findStacks_13, eX7_findStacks_14, eX7_findStacks_15, eX7_findStacks_16, eX7_findStacks_19, eX7_findStacks_22, eX7_findStacks_23, eX7_findStacks_25, eX7_findStacks_26, eX7_findStacks_27, eX7_findStacks_30, eX7_findStacks_33, eX7_findStacks_34, eX7_findStacks_35, eX7_findStacks_36, eX7_findStacks_39, eX7_findStacks_42, eX7_findStacks_44, eX7_findStacks_45, eX7_findStacks_48, eX7_findStacks_51, eX7_findStacks_52, eX7_findStacks_53, eX7_findStacks_54, eX7_findStacks_55, eX7_findStacks_56, eX7_findStacks_57, eX7_findStacks_58, eX7_findStacks_61, eX7_findStacks_64, eX7_findStacks_65, eX7_findStacks_66, eX7_findStacks_67, eX7_findStacks_68, eX7_findStacks_69, eX7_findStacks_70, eX7_findStacks_71, eX7_findStacks_72, eX7_findStacks_75, eX7_findStacks_76, eX7_findStacks_77, eX7_findStacks_78, eX7_findStacks_79, eX7_findStacks_80, eX7_findStacks_81, eX7_findStacks_82, eX7_findStacks_85, eX7_findStacks_87, eX7_findStacks_88, eX7_findStacks_89, eX7_findStacks_90, eX7_findStacks_93, eX7_findStacks_96, eX7_findStacks_97, eX7_findStacks_98, eX7_findStacks_99, eX7_findStacks_100, eX7_findStacks_101, eX7_findStacks_102, eX7_findStacks_103, eX7_findStacks_104, eX7_findStacks_107, eX7_findStacks_110, fx_bd_some, Option.toList_some, Option.toList_none, List.nil_append, List.cons_append, fx_uo, fx_ui, Int.toNat_natCast, ↓reduceIte, Int.reduceEq, Int.reduceLT, Int.reduceLE, Int.reduceNeg, sp_cellEnd Rf Cf nc _ c hc, m1, e1, i1, f1, f2, f3]
      have i2 : (12 * (pr k : Int) + (pc k : Int)).toNat = 12 * pr k + pc k := by omega
      have i3 : (25 * (12 * (pr k : Int) + (pc k : Int)) + (ph k : Int)).toNat = 25 * (12 * pr k + pc k) + ph k := by omega
      rw [if_pos (by omega), show (k : Int) + 1 = ((k + 1 : Nat) : Int) by omega, i2, i3]
      obtain ⟨σ', q1, q2, q3⟩ := sp_stacks_lp2 Rf Cf nc hc hB d (k + 1) (fx_up (fx_up σ 51 0 (12 * pr k + pc k) (σ 51 0 (12 * pr k + pc k) + 1)) 50 0 (25 * (12 * pr k + pc k) + ph k) k) (some (.inl (12 * (pr k : Int) + (pc k : Int)))) (by omega) (hM.of (fun o i ho => by rw [fx_uo (by omega), fx_uo (by omega)])) (by
        refine ⟨fun p hp => ?_, fun j hj hjc => ?_⟩
        · rw [fx_uo (by omega), fx_ui]
          simp only [cntP]
          by_cases hpp : p = 12 * pr k + pc k
          · rw [if_pos hpp, if_pos (by simp [hcell, hpp]), ← hpp, hS.1 p hp]
            omega
          · rw [if_neg hpp, if_neg (by simp [hcell]; omega), hS.1 p hp]
            omega
        · rw [fx_ui]
          by_cases hjk : j = k
          · subst hjk
            rw [if_pos rfl]
          · have hj2 : j < 144 := by omega
            obtain ⟨u1, u2, u3⟩ := b9 j hj2 hjc
            have u4 := b10 (12 * pr j + pc j)
            rw [if_neg, fx_uo (by omega)]
            · exact hS.2 j (by omega) hjc
            · intro hq
              exact hjk (b11 j k hj2 hk hjc hcell (by omega) (by omega) (by omega)))
      exact ⟨σ', q1, fun o g i ho => by rw [q2 o g i ho]; unfold fx_up; rw [if_neg (by omega), if_neg (by omega)], q3⟩
    · have e1 := sp_isCellN Rf Cf nc hc m1 m2 b2 b4 (show k < 1000 by omega) hcell
      simp (disch := omega) only [eX7_findStacks_0, eX7_findStacks_1, eX7_findStacks_3, eX7_findStacks_6, eX7_findStacks_9, eX7_findStacks_10, eX7_findStacks_13, eX7_findStacks_14, eX7_findStacks_15, eX7_findStacks_16, eX7_findStacks_19, eX7_findStacks_22, eX7_findStacks_23, eX7_findStacks_25, eX7_findStacks_26, eX7_findStacks_27, eX7_findStacks_30, eX7_findStacks_33, eX7_findStacks_34, eX7_findStacks_35, eX7_findStacks_36, eX7_findStacks_39, eX7_findStacks_42, eX7_findStacks_44, eX7_findStacks_45, eX7_findStacks_48, eX7_findStacks_51, eX7_findStacks_52, eX7_findStacks_53, eX7_findStacks_54, eX7_findStacks_55, eX7_findStacks_56, eX7_findStacks_57, eX7_findStacks_58, eX7_findStacks_61, eX7_findStacks_64, eX7_findStacks_65, eX7_findStacks_66, eX7_findStacks_67, eX7_findStacks_68, eX7_findStacks_69, eX7_findStacks_70, eX7_findStacks_71, eX7_findStacks_72, eX7_findStacks_75, eX7_findStacks_76, eX7_findStacks_77, eX7_findStacks_78, eX7_findStacks_79, eX7_findStacks_80, eX7_findStacks_81, eX7_findStacks_82, eX7_findStacks_85, eX7_findStacks_87, eX7_findStacks_88, eX7_findStacks_89, eX7_findStacks_90, eX7_findStacks_93, eX7_findStacks_96, eX7_findStacks_97, eX7_findStacks_98, eX7_findStacks_99, eX7_findStacks_100, eX7_findStacks_101, eX7_findStacks_102, eX7_findStacks_103, eX7_findStacks_104, eX7_findStacks_107, eX7_findStacks_110, fx_bd_some, Option.toList_some, Option.toList_none, List.nil_append, List.cons_append, fx_uo, fx_ui, Int.toNat_natCast, ↓reduceIte, Int.reduceEq, Int.reduceLT, Int.reduceLE, Int.reduceNeg, sp_cellEnd Rf Cf nc _ c hc, m1, e1, if_true]
      rw [if_pos (by omega), show (k : Int) + 1 = ((k + 1 : Nat) : Int) by omega]
      refine sp_stacks_lp2 Rf Cf nc hc hB d (k + 1) σ _ (by omega) hM ⟨fun p hp => ?_, fun j hj hjc => ?_⟩
      · rw [hS.1 p hp]
        simp only [cntP]
        rw [if_neg (by simp [hcell])]
        simp
      · exact hS.2 j (by by_cases q : j = k; · subst q; exact absurd hjc hcell
                         · omega) hjc
theorem sp_stacks (Rf Cf : Nat → Nat) (nc : Nat) {c R C br bc : Nat} {pr pc ph : Nat → Nat} (hc : c < 7) (hB : BW R C br bc pr pc ph) {σ : fx_M} (hM : MB c R C br bc pr pc ph σ) : ∃ σ', fx_Ca (fx_S Rf Cf nc) 79 [.inr (some (20, 0)), .inl (c : Int)] σ = some (none, σ') ∧ (∀ o g i, ¬ (g = 0 ∧ (o = 50 ∨ o = 51)) → σ' o g i = σ o g i) ∧ (∀ p, p < 144 → σ' 51 0 p = siz R C pr pc p) ∧ ∀ k, k < 144 → isC R C k → σ' 50 0 (25 * (12 * pr k + pc k) + ph k) = k := by
  have hR : R ≤ 12 := hB.1.2
  obtain ⟨σ', h1, h2, h3⟩ := sp_stacks_lp2 Rf Cf nc hc hB (12 * R) 0 (fx_fr σ 51 0 0 144 (fun _ => 0)) none (by omega) (hM.of (fun o i ho => by unfold fx_fr; rw [if_neg (by omega)])) ⟨fun p hp => by unfold fx_fr; rw [if_pos (by omega)]; rfl, fun j hj => by omega⟩
  refine ⟨σ', ?_, fun o g i ho => ?_, fun p hp => ?_, fun k hk hkc => h3.2 k (isC_lt hkc) hkc⟩
  · rw [entX7_findStacks]
    simp only [eX7_findStacks_0, eX7_findStacks_1, eX7_findStacks_3, eX7_findStacks_6, eX7_findStacks_9, eX7_findStacks_10, eX7_findStacks_13, eX7_findStacks_14, eX7_findStacks_15, eX7_findStacks_16, eX7_findStacks_19, eX7_findStacks_22, eX7_findStacks_23, eX7_findStacks_25, eX7_findStacks_26, eX7_findStacks_27, eX7_findStacks_30, eX7_findStacks_33, eX7_findStacks_34, eX7_findStacks_35, eX7_findStacks_36, eX7_findStacks_39, eX7_findStacks_42, eX7_findStacks_44, eX7_findStacks_45, eX7_findStacks_48, eX7_findStacks_51, eX7_findStacks_52, eX7_findStacks_53, eX7_findStacks_54, eX7_findStacks_55, eX7_findStacks_56, eX7_findStacks_57, eX7_findStacks_58, eX7_findStacks_61, eX7_findStacks_64, eX7_findStacks_65, eX7_findStacks_66, eX7_findStacks_67, eX7_findStacks_68, eX7_findStacks_69, eX7_findStacks_70, eX7_findStacks_71, eX7_findStacks_72, eX7_findStacks_75, eX7_findStacks_76, eX7_findStacks_77, eX7_findStacks_78, eX7_findStacks_79, eX7_findStacks_80, eX7_findStacks_81, eX7_findStacks_82, eX7_findStacks_85, eX7_findStacks_87, eX7_findStacks_88, eX7_findStacks_89, eX7_findStacks_90, eX7_findStacks_93, eX7_findStacks_96, eX7_findStacks_97, eX7_findStacks_98, eX7_findStacks_99, eX7_findStacks_100, eX7_findStacks_101, eX7_findStacks_102, eX7_findStacks_103, eX7_findStacks_104, eX7_findStacks_107, eX7_findStacks_110]
    exact sp_stacks_lp1 Rf Cf nc c σ _ h1 144 0 σ (by omega) rfl
  · rw [h2 o g i ho]
    unfold fx_fr
    rw [if_neg (by omega)]
  · rw [h3.1 p hp]
    unfold siz
    rw [cntP_cut (a := 12 * R) (b := 144) (by omega)]
    intro k h4 h5
    rw [decide_eq_false_iff_not]
    rintro ⟨h6, -⟩
    have := isC_lt h6
    omega
