/-! one cloth: what it is, what the class holds of it, what the reference holds of it -/
def KP (R C br bc f b so : Nat) (pr pc ph : Nat → Nat) (sh : Nat → Nat → Bool) (to : Int) (dp : Nat → Int) : Prop := BW R C br bc pr pc ph ∧ f ≤ 12 ∧ b ≤ 6 ∧ so ≤ 1 ∧ ∀ k, k < 144 → isC R C k → 0 ≤ dp k ∧ dp k ≤ 15
def KC (Rf Cf : Nat → Nat) (g : Nat) (R C br bc f b so : Nat) (pr pc ph : Nat → Nat) (sh : Nat → Nat → Bool) (to : Int) (dp : Nat → Int) (σ : fx_M) : Prop := (Rf g = R ∧ Cf g = C) ∧ CB Rf Cf g R C br bc pr pc ph σ ∧ (σ 12 g 0 = R ∧ σ 12 g 1 = C ∧ σ 12 g 2 = ((R * C : Nat) : Int)) ∧ (σ 12 g 6 = f ∧ σ 12 g 7 = b ∧ σ 12 g 8 = to ∧ σ 12 g 9 = so) ∧ (∀ r n, r < R → n < 12 → σ 14 g (12 * r + n) = if sh r n then 1 else 0) ∧ ∀ k, k < 144 → isC R C k → σ 13 g (ix C k) = dp k
def KM (g : Nat) (R C br bc f b so : Nat) (pr pc ph : Nat → Nat) (sh : Nat → Nat → Bool) (to : Int) (dp : Nat → Int) (σ : fx_M) : Prop := MB g R C br bc pr pc ph σ ∧ σ 39 0 g = f ∧ MBo g b σ ∧ (∀ r n, shB g b σ r n = sh r n) ∧ σ 41 0 g = to ∧ σ 40 0 g = so ∧ ∀ k, k < 144 → σ 33 0 (144 * g + k) = if isC R C k then dp k else 0
theorem KC.of {Rf Cf : Nat → Nat} {g : Nat} {R C br bc f b so : Nat} {pr pc ph : Nat → Nat} {sh : Nat → Nat → Bool} {to : Int} {dp : Nat → Int} {σ σ' : fx_M} (h : KC Rf Cf g R C br bc f b so pr pc ph sh to dp σ) (hs : ∀ o i, 12 ≤ o → o ≤ 19 → σ' o g i = σ o g i) : KC Rf Cf g R C br bc f b so pr pc ph sh to dp σ' := by
  obtain ⟨h1, h2, ⟨h3, h4, h5⟩, ⟨h6, h7, h8, h9⟩, h10, h11⟩ := h
  refine ⟨h1, h2.of (fun o i h1 h2 => hs o i (by omega) (by omega)), ⟨?_, ?_, ?_⟩, ⟨?_, ?_, ?_, ?_⟩, fun r n hr hn => ?_, fun k hk hkc => ?_⟩
  all_goals rw [hs _ _ (by omega) (by omega)]
  all_goals first | assumption | exact h10 r n hr hn | exact h11 k hk hkc
def inB (g o i : Nat) : Prop := (33 ≤ o ∧ o ≤ 36 ∧ 144 * g ≤ i ∧ i < 144 * g + 144) ∨ ((o = 30 ∨ o = 31 ∨ (37 ≤ o ∧ o ≤ 42)) ∧ i = g) ∨ (43 ≤ o ∧ o ≤ 46 ∧ 6 * g ≤ i ∧ i < 6 * g + 6)
theorem shB_in {g b : Nat} {σ σ' : fx_M} (hb : b ≤ 6) (hs : ∀ o i, inB g o i → σ' o 0 i = σ o 0 i) (r n : Nat) : shB g b σ' r n = shB g b σ r n := by
  unfold shB
  have key : ∀ m, m ≤ b → anyP m (fun j => decide (σ' 43 0 (6 * g + j) ≤ r ∧ (r : Int) ≤ σ' 44 0 (6 * g + j) ∧ σ' 45 0 (6 * g + j) ≤ n ∧ (n : Int) ≤ σ' 46 0 (6 * g + j))) = anyP m (fun j => decide (σ 43 0 (6 * g + j) ≤ r ∧ (r : Int) ≤ σ 44 0 (6 * g + j) ∧ σ 45 0 (6 * g + j) ≤ n ∧ (n : Int) ≤ σ 46 0 (6 * g + j))) := by
    intro m
    induction m with
    | zero => intro _; rfl
    | succ m ih =>
      intro h
      simp only [anyP]
      rw [ih (by omega), hs 43 (6 * g + m) (by unfold inB; omega), hs 44 (6 * g + m) (by unfold inB; omega), hs 45 (6 * g + m) (by unfold inB; omega), hs 46 (6 * g + m) (by unfold inB; omega)]
  exact key b (Nat.le_refl _)
theorem KM.of {g : Nat} {R C br bc f b so : Nat} {pr pc ph : Nat → Nat} {sh : Nat → Nat → Bool} {to : Int} {dp : Nat → Int} {σ σ' : fx_M} (h : KM g R C br bc f b so pr pc ph sh to dp σ) (hs : ∀ o i, inB g o i → σ' o 0 i = σ o 0 i) : KM g R C br bc f b so pr pc ph sh to dp σ' := by
  obtain ⟨⟨m1, m2, m3, m4, m5⟩, h2, ⟨h3, h4, h5⟩, h6, h7, h8, h9⟩ := h
  have z : ∀ o, (o = 30 ∨ o = 31 ∨ (37 ≤ o ∧ o ≤ 42)) → σ' o 0 g = σ o 0 g := fun o ho => hs o g (Or.inr (Or.inl ⟨ho, rfl⟩))
  have y : ∀ o k, 33 ≤ o → o ≤ 36 → k < 144 → σ' o 0 (144 * g + k) = σ o 0 (144 * g + k) := fun o k h1 h2 h3 => hs o _ (Or.inl ⟨h1, h2, by omega, by omega⟩)
  have x : ∀ o k, 43 ≤ o → o ≤ 46 → k < 6 → σ' o 0 (6 * g + k) = σ o 0 (6 * g + k) := fun o k h1 h2 h3 => hs o _ (Or.inr (Or.inr ⟨h1, h2, by omega, by omega⟩))
  refine ⟨⟨by rw [z _ (by omega)]; exact m1, by rw [z _ (by omega)]; exact m2, by rw [z _ (by omega)]; exact m3, by rw [z _ (by omega)]; exact m4, fun k hk hkc => ?_⟩, by rw [z _ (by omega)]; exact h2, ⟨h3, by rw [z _ (by omega)]; exact h4, fun j hj => ?_⟩, fun r n => by rw [shB_in h3 hs]; exact h6 r n, by rw [z _ (by omega)]; exact h7, by rw [z _ (by omega)]; exact h8, fun k hk => by rw [y _ _ (by omega) (by omega) hk]; exact h9 k hk⟩
  · rw [y _ _ (by omega) (by omega) hk, y _ _ (by omega) (by omega) hk, y _ _ (by omega) (by omega) hk]
    exact m5 k hk hkc
  · rw [x _ _ (by omega) (by omega) (by omega), x _ _ (by omega) (by omega) (by omega), x _ _ (by omega) (by omega) (by omega), x _ _ (by omega) (by omega) (by omega)]
    exact h5 j hj
/-! the class's small methods -/
theorem sp_clothOf (Rf Cf : Nat → Nat) (nc : Nat) (σ : fx_M) (c : Int) (hc : fx_in c) (hn : nc ≤ 6) (hw : σ 0 0 2 = nc) : fx_Ca (fx_S Rf Cf nc) 64 [.inr (some (0, 0)), .inl c] σ = some (some (.inr (if 0 ≤ c ∧ c < nc then some (12, c.toNat) else none)), σ) := by
  rw [entX6_clothOf]
  by_cases q : 0 ≤ c ∧ c < nc
  · rw [if_pos q]
    simp (disch := omega) only [eX6_clothOf_0, eX6_clothOf_1, eX6_clothOf_4, eX6_clothOf_5, eX6_clothOf_6, eX6_clothOf_9, eX6_clothOf_12, eX6_clothOf_13, eX6_clothOf_16, eX6_clothOf_17, eX6_clothOf_20, eX6_clothOf_21, eX6_clothOf_22, fx_bd_some, Option.toList_some, Option.toList_none, List.nil_append, List.cons_append, fx_uo, fx_ui, Int.toNat_natCast, ↓reduceIte, Int.reduceEq, Int.reduceLT, Int.reduceLE, Int.reduceNeg, hw]
    rw [if_neg (by omega), if_pos (by omega), if_pos (by omega)]
  · rw [if_neg q]
    simp (disch := omega) only [eX6_clothOf_0, eX6_clothOf_1, eX6_clothOf_4, eX6_clothOf_5, eX6_clothOf_6, eX6_clothOf_9, eX6_clothOf_12, eX6_clothOf_13, eX6_clothOf_17, eX6_clothOf_20, eX6_clothOf_21, eX6_clothOf_22, fx_bd_some, Option.toList_some, Option.toList_none, List.nil_append, List.cons_append, fx_uo, fx_ui, Int.toNat_natCast, ↓reduceIte, Int.reduceEq, Int.reduceLT, Int.reduceLE, Int.reduceNeg, hw]
    by_cases q1 : c < 0
    · rw [if_pos q1]
    · rw [if_neg q1, if_neg (by omega)]
theorem ix_cast (C k : Nat) : ((k / 12 : Nat) : Int) * (C : Int) + ((k % 12 : Nat) : Int) = ((ix C k : Nat) : Int) := by unfold ix; simp
theorem sp_indexOf (Rf Cf : Nat → Nat) (nc : Nat) (σ : fx_M) (k : Int) (R C : Nat) (hk : fx_in k) (hR : R ≤ 12) (hC : C ≤ 12) : fx_Ca (fx_S Rf Cf nc) 66 [.inl k, .inl (R : Int), .inl (C : Int)] σ = some (some (.inl (if 0 ≤ k ∧ k / 12 < R ∧ k % 12 < C then (ix C k.toNat : Int) else -1)), σ) := by
  rw [entX6_indexOf]
  by_cases q : 0 ≤ k
  · simp (disch := omega) only [eX6_indexOf_0, eX6_indexOf_1, eX6_indexOf_3, eX6_indexOf_4, eX6_indexOf_5, eX6_indexOf_6, eX6_indexOf_8, eX6_indexOf_9, eX6_indexOf_11, eX6_indexOf_12, eX6_indexOf_15, eX6_indexOf_16, eX6_indexOf_17, eX6_indexOf_20, eX6_indexOf_22, eX6_indexOf_23, eX6_indexOf_26, eX6_indexOf_27, eX6_indexOf_28, eX6_indexOf_29, eX6_indexOf_30, eX6_indexOf_31, eX6_indexOf_33, eX6_indexOf_34, fx_bd_some, Option.toList_some, Option.toList_none, List.nil_append, List.cons_append, fx_uo, fx_ui, Int.toNat_natCast, ↓reduceIte, Int.reduceEq, Int.reduceLT, Int.reduceLE, Int.reduceNeg]
    by_cases q1 : k / 12 < R
    · by_cases q2 : k % 12 < C
      · rw [if_neg (by omega), if_pos q1, if_pos q2, if_pos ⟨q, q1, q2⟩, ← ix_cast]
        rw [show ((k.toNat / 12 : Nat) : Int) = k / 12 by omega, show ((k.toNat % 12 : Nat) : Int) = k % 12 by omega]
      · rw [if_neg (by omega), if_pos q1, if_neg q2, if_neg (by omega)]
    · rw [if_neg (by omega), if_neg q1, if_neg (by omega)]
  · simp (disch := omega) only [eX6_indexOf_0, eX6_indexOf_1, eX6_indexOf_3_t, eX6_indexOf_4, eX6_indexOf_5, eX6_indexOf_6, eX6_indexOf_8_t, eX6_indexOf_9, eX6_indexOf_11, eX6_indexOf_12, eX6_indexOf_15, eX6_indexOf_16, eX6_indexOf_17, eX6_indexOf_20, eX6_indexOf_22, eX6_indexOf_23, eX6_indexOf_26, eX6_indexOf_27, eX6_indexOf_28, eX6_indexOf_29, eX6_indexOf_30, eX6_indexOf_31, eX6_indexOf_33, eX6_indexOf_34, fx_bd_some, Option.toList_some, Option.toList_none, List.nil_append, List.cons_append, fx_uo, fx_ui, Int.toNat_natCast, ↓reduceIte, Int.reduceEq, Int.reduceLT, Int.reduceLE, Int.reduceNeg]
    rw [if_pos (by omega), if_neg (by omega)]
theorem sp_indexInN (Rf Cf : Nat → Nat) (nc : Nat) (σ : fx_M) (k : Int) : fx_Ca (fx_S Rf Cf nc) 65 [.inr none, .inl k] σ = some (some (.inl (-1)), σ) := by
  rw [entX6_indexIn]
  simp (disch := omega) only [eX6_indexIn_0, eX6_indexIn_1_n, eX6_indexIn_1_s, eX6_indexIn_4, eX6_indexIn_5, eX6_indexIn_8, eX6_indexIn_9, eX6_indexIn_10, eX6_indexIn_13, eX6_indexIn_14, eX6_indexIn_17, eX6_indexIn_20, fx_bd_some, Option.toList_some, Option.toList_none, List.nil_append, List.cons_append, fx_uo, fx_ui, Int.toNat_natCast, ↓reduceIte, Int.reduceEq, Int.reduceLT, Int.reduceLE, Int.reduceNeg]
theorem sp_indexIn (Rf Cf : Nat → Nat) (nc : Nat) (σ : fx_M) (g : Nat) (k : Int) (R C : Nat) (hk : fx_in k) (hR : R ≤ 12) (hC : C ≤ 12) (h1 : σ 12 g 0 = R) (h2 : σ 12 g 1 = C) : fx_Ca (fx_S Rf Cf nc) 65 [.inr (some (12, g)), .inl k] σ = some (some (.inl (if 0 ≤ k ∧ k / 12 < R ∧ k % 12 < C then (ix C k.toNat : Int) else -1)), σ) := by
  have e := sp_indexOf Rf Cf nc σ k R C hk hR hC
  rw [entX6_indexIn]
  simp (disch := omega) only [eX6_indexIn_0, eX6_indexIn_1_n, eX6_indexIn_1_s, eX6_indexIn_4, eX6_indexIn_5, eX6_indexIn_8, eX6_indexIn_9, eX6_indexIn_10, eX6_indexIn_13, eX6_indexIn_14, eX6_indexIn_17, eX6_indexIn_20, fx_bd_some, Option.toList_some, Option.toList_none, List.nil_append, List.cons_append, fx_uo, fx_ui, Int.toNat_natCast, ↓reduceIte, Int.reduceEq, Int.reduceLT, Int.reduceLE, Int.reduceNeg, h1, h2, e]
theorem sp_isSpan (Rf Cf : Nat → Nat) (nc : Nat) (σ : fx_M) (s : Int) (m : Nat) (hs : fx_in s) (hm : m ≤ 12) : fx_Ca (fx_S Rf Cf nc) 67 [.inl s, .inl (m : Int)] σ = some (some (.inl (if 0 ≤ s ∧ s / 24 ≤ s % 24 ∧ s % 24 < m then 1 else 0)), σ) := by
  rw [entX6_isSpan]
  by_cases q : 0 ≤ s
  · simp (disch := omega) only [eX6_isSpan_0, eX6_isSpan_1, eX6_isSpan_4, eX6_isSpan_5, eX6_isSpan_7, eX6_isSpan_8, eX6_isSpan_9, eX6_isSpan_11, eX6_isSpan_12, eX6_isSpan_15, eX6_isSpan_16, eX6_isSpan_18, eX6_isSpan_19, eX6_isSpan_20, eX6_isSpan_23, eX6_isSpan_24, eX6_isSpan_27, eX6_isSpan_28, fx_bd_some, Option.toList_some, Option.toList_none, List.nil_append, List.cons_append, fx_uo, fx_ui, Int.toNat_natCast, ↓reduceIte, Int.reduceEq, Int.reduceLT, Int.reduceLE, Int.reduceNeg]
    grind
  · simp (disch := omega) only [eX6_isSpan_0, eX6_isSpan_1, eX6_isSpan_5, eX6_isSpan_7_t, eX6_isSpan_8, eX6_isSpan_9, eX6_isSpan_11_t, eX6_isSpan_12, eX6_isSpan_15, eX6_isSpan_16, eX6_isSpan_18_t, eX6_isSpan_19, eX6_isSpan_20, eX6_isSpan_23, eX6_isSpan_24, eX6_isSpan_27, eX6_isSpan_28, fx_bd_some, Option.toList_some, Option.toList_none, List.nil_append, List.cons_append, fx_uo, fx_ui, Int.toNat_natCast, ↓reduceIte, Int.reduceEq, Int.reduceLT, Int.reduceLE, Int.reduceNeg]
    rw [if_pos (by omega), if_neg (by omega)]
theorem sp_isBathC (Rf Cf : Nat → Nat) (nc : Nat) (σ : fx_M) (m s : Int) (hm : fx_in m) (hs : fx_in s) : fx_Ca (fx_S Rf Cf nc) 68 [.inl m, .inl s] σ = some (some (.inl (if (1 ≤ m ∧ m ≤ 99) ∧ 1 ≤ s ∧ s ≤ 15 then 1 else 0)), σ) := by
  rw [entX6_isBath]
  simp (disch := omega) only [eX6_isBath_0, eX6_isBath_1, eX6_isBath_2, eX6_isBath_5, eX6_isBath_6, eX6_isBath_8, eX6_isBath_11, eX6_isBath_12, eX6_isBath_13, eX6_isBath_16, eX6_isBath_17, eX6_isBath_19, eX6_isBath_22, eX6_isBath_23, eX6_isBath_26, eX6_isBath_27, fx_bd_some, Option.toList_some, Option.toList_none, List.nil_append, List.cons_append, fx_uo, fx_ui, Int.toNat_natCast, ↓reduceIte, Int.reduceEq, Int.reduceLT, Int.reduceLE, Int.reduceNeg]
  grind
theorem sp_dyeAfter (Rf Cf : Nat → Nat) (nc : Nat) (σ : fx_M) (r m st : Int) (h1 : r = -7 ∨ (1 ≤ r ∧ r ≤ 1000000)) (h3 : fx_in m) (h4 : 0 ≤ st) (h5 : st ≤ 100) (h6 : 0 < σ 1 0 2) (h7 : σ 1 0 2 ≤ 100) : fx_Ca (fx_S Rf Cf nc) 70 [.inr (some (0, 0)), .inl r, .inl m, .inl st] σ = some (some (.inl (if r ≠ -7 ∧ r ≤ m ∧ (r - 1) / σ 1 0 2 < st then st - (r - 1) / σ 1 0 2 else 0)), σ) := by
  rw [entX6_dyeAfter]
  rcases h1 with rfl | h1
  · simp (disch := omega) only [eX6_dyeAfter_0, eX6_dyeAfter_1, eX6_dyeAfter_3, eX6_dyeAfter_6, eX6_dyeAfter_7, eX6_dyeAfter_8, eX6_dyeAfter_11, eX6_dyeAfter_12, eX6_dyeAfter_14, eX6_dyeAfter_15, eX6_dyeAfter_16, eX6_dyeAfter_17, eX6_dyeAfter_18, eX6_dyeAfter_19, eX6_dyeAfter_22, eX6_dyeAfter_23, eX6_dyeAfter_24, eX6_dyeAfter_25, eX6_dyeAfter_26, eX6_dyeAfter_29, fx_bd_some, Option.toList_some, Option.toList_none, List.nil_append, List.cons_append, fx_uo, fx_ui, Int.toNat_natCast, ↓reduceIte, Int.reduceEq, Int.reduceLT, Int.reduceLE, Int.reduceNeg]
    simp
  · have hq0 : 0 ≤ (r - 1) / σ 1 0 2 := Int.ediv_nonneg (by omega) (by omega)
    have hq1 : (r - 1) / σ 1 0 2 ≤ r - 1 := Int.ediv_le_self _ (by omega)
    simp (disch := omega) only [eX6_dyeAfter_0, eX6_dyeAfter_1, eX6_dyeAfter_3, eX6_dyeAfter_6, eX6_dyeAfter_7, eX6_dyeAfter_8, eX6_dyeAfter_11, eX6_dyeAfter_12, eX6_dyeAfter_13, eX6_dyeAfter_14, eX6_dyeAfter_15, eX6_dyeAfter_16, eX6_dyeAfter_17, eX6_dyeAfter_18, eX6_dyeAfter_19, eX6_dyeAfter_22, eX6_dyeAfter_23, eX6_dyeAfter_24, eX6_dyeAfter_25, eX6_dyeAfter_26, eX6_dyeAfter_29, fx_bd_some, Option.toList_some, Option.toList_none, List.nil_append, List.cons_append, fx_uo, fx_ui, Int.toNat_natCast, ↓reduceIte, Int.reduceEq, Int.reduceLT, Int.reduceLE, Int.reduceNeg, Int.reduceToNat]
    rw [if_neg (by omega)]
    by_cases q : r ≤ m
    · rw [if_neg (by omega)]
      by_cases q2 : (r - 1) / σ 1 0 2 < st
      · rw [if_pos ⟨by omega, q, q2⟩, show max 0 (st - (r - 1) / σ 1 0 2) = st - (r - 1) / σ 1 0 2 by omega]
      · rw [if_neg (by omega), show max 0 (st - (r - 1) / σ 1 0 2) = 0 by omega]
    · rw [if_pos (by omega), if_neg (by omega)]
theorem sp_reachOf (Rf Cf : Nat → Nat) (nc : Nat) {g R C br bc : Nat} {pr pc ph : Nat → Nat} {L S : Int} {σ : fx_M} (hB : BW R C br bc pr pc ph) (hC : CB Rf Cf g R C br bc pr pc ph σ) (hX : SX Rf g R C br bc pr pc L S σ) (D : Nat → Int) (hD : ∀ j, j < 144 → isC R C j → σ 5 0 (sl R C pr pc ph j) = D j ∧ 1 ≤ D j ∧ D j ≤ 1000000) (so : Nat) (hso : so ≤ 1) (h9 : σ 12 g 9 = so) (k : Nat) (hk : k < 144) (hkc : isC R C k) : fx_Ca (fx_S Rf Cf nc) 71 [.inr (some (0, 0)), .inr (some (12, g)), .inl (ix C k : Int)] σ = some (some (.inl (if D k < 1000000 then (if so = 1 then (D k + 1) / 2 else D k) else -7)), σ) := by
  obtain ⟨⟨b1, b2⟩, ⟨b3, b4⟩, ⟨b5, b6⟩, ⟨b7, b8⟩, b9, b10, b11⟩ := id hB
  obtain ⟨⟨a1, a2, a3⟩, c1, c2, c3, c4, c5⟩ := id hC
  have hi := ix_lt hkc
  obtain ⟨e1, e2, e3⟩ := c4 (ix C k) hi
  rw [ki_ix hkc] at e1 e2 e3
  obtain ⟨g1, g2, g3⟩ := b9 k hk hkc
  have g4 := b10 (12 * pr k + pc k)
  have e4 := sp_minutesAt Rf Cf nc hB hX (pr k) (pc k) (ph k) (by omega) (by omega) (by omega)
  have e5 : vl R C br bc pr pc σ (pr k) (pc k) (ph k) = D k := by rw [vl_at hB σ (j := k) ⟨hk, hkc, rfl, rfl, rfl⟩]; exact (hD k hk hkc).1
  rw [e5] at e4
  obtain ⟨-, d1, d2⟩ := hD k hk hkc
  rw [entX6_reachOf]
  rcases (show so = 0 ∨ so = 1 by omega) with rfl | rfl
  · simp (disch := omega) only [eX6_reachOf_0, eX6_reachOf_1, eX6_reachOf_4, eX6_reachOf_5, eX6_reachOf_6, eX6_reachOf_9, eX6_reachOf_10, eX6_reachOf_11, eX6_reachOf_14, eX6_reachOf_15, eX6_reachOf_16, eX6_reachOf_17, eX6_reachOf_20, eX6_reachOf_21, eX6_reachOf_22, eX6_reachOf_23, eX6_reachOf_26, eX6_reachOf_27, eX6_reachOf_28, eX6_reachOf_31, eX6_reachOf_33, eX6_reachOf_35, eX6_reachOf_37, eX6_reachOf_40, eX6_reachOf_42, eX6_reachOf_43, eX6_reachOf_44, eX6_reachOf_47, eX6_reachOf_50, eX6_reachOf_52, eX6_reachOf_53, eX6_reachOf_54, eX6_reachOf_55, eX6_reachOf_56, eX6_reachOf_59, eX6_reachOf_61, fx_bd_some, Option.toList_some, Option.toList_none, List.nil_append, List.cons_append, fx_uo, fx_ui, Int.toNat_natCast, ↓reduceIte, Int.reduceEq, Int.reduceLT, Int.reduceLE, Int.reduceNeg, e1, e2, e3, e4, h9]
    simp
    split <;> rfl
  · simp (disch := omega) only [eX6_reachOf_0, eX6_reachOf_1, eX6_reachOf_4, eX6_reachOf_5, eX6_reachOf_6, eX6_reachOf_9, eX6_reachOf_10, eX6_reachOf_11, eX6_reachOf_14, eX6_reachOf_15, eX6_reachOf_16, eX6_reachOf_17, eX6_reachOf_20, eX6_reachOf_21, eX6_reachOf_22, eX6_reachOf_23, eX6_reachOf_26, eX6_reachOf_27, eX6_reachOf_28, eX6_reachOf_31, eX6_reachOf_33, eX6_reachOf_35, eX6_reachOf_37, eX6_reachOf_40, eX6_reachOf_42, eX6_reachOf_43, eX6_reachOf_44, eX6_reachOf_47, eX6_reachOf_50, eX6_reachOf_52, eX6_reachOf_53, eX6_reachOf_54, eX6_reachOf_55, eX6_reachOf_56, eX6_reachOf_59, eX6_reachOf_61, fx_bd_some, Option.toList_some, Option.toList_none, List.nil_append, List.cons_append, fx_uo, fx_ui, Int.toNat_natCast, ↓reduceIte, Int.reduceEq, Int.reduceLT, Int.reduceLE, Int.reduceNeg, e1, e2, e3, e4, h9]
    simp
    split <;> rfl
/-! the class's cloths -/
theorem tb_lp (Rf Cf : Nat → Nat) (nc : Nat) (g : Nat) (hR : Rf g ≤ 12) : ∀ (d k : Nat) (σ : fx_M), k + d = 12 * Rf g → fx_E (fx_S Rf Cf nc) 17 7 [some (.inr (some (12, g))), some (.inl (k : Int))] [] σ = some (none, fx_fr σ 14 g k (12 * Rf g) (fun _ => 0)) := by
  intro d
  induction d with
  | zero =>
    intro k σ h
    obtain rfl : k = 12 * Rf g := by omega
    rw [eX1_takeBoardsOff_7]
    simp (disch := omega) only [eX1_takeBoardsOff_0, eX1_takeBoardsOff_1, eX1_takeBoardsOff_2, eX1_takeBoardsOff_5, eX1_takeBoardsOff_6, eX1_takeBoardsOff_8, eX1_takeBoardsOff_9, eX1_takeBoardsOff_12, eX1_takeBoardsOff_13, eX1_takeBoardsOff_16, eX1_takeBoardsOff_17, eX1_takeBoardsOff_20, eX1_takeBoardsOff_21, eX1_takeBoardsOff_22, eX1_takeBoardsOff_23, eX1_takeBoardsOff_26, eX1_takeBoardsOff_29, fx_bd_some, Option.toList_some, Option.toList_none, List.nil_append, List.cons_append, fx_uo, fx_ui, Int.toNat_natCast, ↓reduceIte, Int.reduceEq, Int.reduceLT, Int.reduceLE, Int.reduceNeg]
    rw [if_neg (by omega), fx_fr_nil]
  | succ d ih =>
    intro k σ h
    rw [eX1_takeBoardsOff_7]
    simp (disch := omega) only [eX1_takeBoardsOff_0, eX1_takeBoardsOff_1, eX1_takeBoardsOff_2, eX1_takeBoardsOff_5, eX1_takeBoardsOff_6, eX1_takeBoardsOff_8, eX1_takeBoardsOff_9, eX1_takeBoardsOff_12, eX1_takeBoardsOff_13, eX1_takeBoardsOff_16, eX1_takeBoardsOff_17, eX1_takeBoardsOff_20, eX1_takeBoardsOff_21, eX1_takeBoardsOff_22, eX1_takeBoardsOff_23, eX1_takeBoardsOff_26, eX1_takeBoardsOff_29, fx_bd_some, Option.toList_some, Option.toList_none, List.nil_append, List.cons_append, fx_uo, fx_ui, Int.toNat_natCast, ↓reduceIte, Int.reduceEq, Int.reduceLT, Int.reduceLE, Int.reduceNeg]
    rw [if_pos (by omega), show (k : Int) + 1 = ((k + 1 : Nat) : Int) by omega, ih (k + 1) _ (by omega), fx_fr_up σ 14 g k (12 * Rf g) (fun _ => 0) (by omega)]
theorem sp_takeBoardsOff (Rf Cf : Nat → Nat) (nc : Nat) (g : Nat) (hR : Rf g ≤ 12) (σ : fx_M) : fx_Ca (fx_S Rf Cf nc) 17 [.inr (some (12, g))] σ = some (none, fx_fr (fx_up σ 12 g 7 0) 14 g 0 (12 * Rf g) (fun _ => 0)) := by
  rw [entX1_takeBoardsOff]
  simp only [eX1_takeBoardsOff_0, eX1_takeBoardsOff_1, eX1_takeBoardsOff_2, eX1_takeBoardsOff_5, eX1_takeBoardsOff_6, eX1_takeBoardsOff_8, eX1_takeBoardsOff_9, eX1_takeBoardsOff_12, eX1_takeBoardsOff_13, eX1_takeBoardsOff_16, eX1_takeBoardsOff_17, eX1_takeBoardsOff_20, eX1_takeBoardsOff_21, eX1_takeBoardsOff_22, eX1_takeBoardsOff_23, eX1_takeBoardsOff_26, eX1_takeBoardsOff_29]
  exact tb_lp Rf Cf nc g hR (12 * Rf g) 0 _ (by omega)
theorem ki_rn {C r n : Nat} (hn : n < C) : ki C (r * C + n) = 12 * r + n := by
  unfold ki
  rw [Nat.mul_comm r C, Nat.mul_add_div (by omega), Nat.mul_add_mod, Nat.div_eq_of_lt hn, Nat.mod_eq_of_lt hn]
  omega
theorem ca_in (Rf Cf : Nat → Nat) (nc : Nat) {g R C br bc : Nat} {pr pc ph : Nat → Nat} {σ : fx_M} (hB : BW R C br bc pr pc ph) (hC : CB Rf Cf g R C br bc pr pc ph σ) (h1 : σ 12 g 1 = C) (p q h : Int) (hp : fx_in p) (hq : fx_in q) (hh : fx_in h) (r : Nat) (hr : r < R) :
    ∀ (d n : Nat), n + d = C → (∃ k, k < 144 ∧ isC R C k ∧ atC R C pr pc ph p q h k ∧ fx_E (fx_S Rf Cf nc) 18 15 [some (.inr (some (12, g))), some (.inl p), some (.inl q), some (.inl h), some (.inl (r : Int)), some (.inl (n : Int))] [] σ = some (some (.inl (k : Int)), σ)) ∨ ((∀ n', n ≤ n' → n' < C → ¬ atC R C pr pc ph p q h (12 * r + n')) ∧ fx_E (fx_S Rf Cf nc) 18 15 [some (.inr (some (12, g))), some (.inl p), some (.inl q), some (.inl h), some (.inl (r : Int)), some (.inl (n : Int))] [] σ = fx_E (fx_S Rf Cf nc) 18 3 [some (.inr (some (12, g))), some (.inl p), some (.inl q), some (.inl h), some (.inl ((r + 1 : Nat) : Int)), some (.inl (C : Int))] [] σ) := by
  obtain ⟨⟨b1, b2⟩, ⟨b3, b4⟩, ⟨b5, b6⟩, ⟨b7, b8⟩, b9, b10, b11⟩ := id hB
  intro d
  induction d with
  | zero =>
    intro n hn
    obtain rfl : n = C := by omega
    right
    refine ⟨fun n' h1 h2 => by omega, ?_⟩
    rw [eX1_cellAt_15]
    simp (disch := omega) only [eX1_cellAt_0, eX1_cellAt_1, eX1_cellAt_5, eX1_cellAt_6, eX1_cellAt_9, eX1_cellAt_12, eX1_cellAt_13, eX1_cellAt_17, eX1_cellAt_18, eX1_cellAt_21, eX1_cellAt_24, eX1_cellAt_25, eX1_cellAt_28, eX1_cellAt_30, eX1_cellAt_31, eX1_cellAt_34, eX1_cellAt_35, eX1_cellAt_37, eX1_cellAt_38, eX1_cellAt_39, eX1_cellAt_40, eX1_cellAt_41, eX1_cellAt_44, eX1_cellAt_47, eX1_cellAt_49, eX1_cellAt_51, eX1_cellAt_52, eX1_cellAt_54, eX1_cellAt_55, eX1_cellAt_56, eX1_cellAt_59, eX1_cellAt_62, eX1_cellAt_65, eX1_cellAt_68, eX1_cellAt_70, fx_bd_some, Option.toList_some, Option.toList_none, List.nil_append, List.cons_append, fx_uo, fx_ui, Int.toNat_natCast, ↓reduceIte, Int.reduceEq, Int.reduceLT, Int.reduceLE, Int.reduceNeg, h1]
    rw [if_neg (by omega), show (r : Int) + 1 = ((r + 1 : Nat) : Int) by omega]
  | succ d ih =>
    intro n hn
    have hlt := mul_add_lt (r := r) (R := R) (C := C) (n := n) hr (by omega)
    have hkc : isC R C (12 * r + n) := ⟨by omega, by omega⟩
    have i0 : (r : Int) * (C : Int) + (n : Int) = ((r * C + n : Nat) : Int) := by simp
    have e1 := sp_isAt Rf Cf nc hB hC (r * C + n) hlt p q h hp hq hh
    rw [ki_rn (by omega)] at e1
    have hn1 : ((n : Int) < (C : Int)) = True := by simp; omega
    rw [eX1_cellAt_15]
    by_cases ha : (pr (12 * r + n) : Int) = p ∧ (pc (12 * r + n) : Int) = q ∧ (ph (12 * r + n) : Int) = h
    · left
      refine ⟨12 * r + n, by omega, hkc, ⟨by omega, hkc, ha.1, ha.2.1, ha.2.2⟩, ?_⟩
      rw [if_pos ha] at e1
      simp (disch := omega) only [eX1_cellAt_0, eX1_cellAt_1, eX1_cellAt_5, eX1_cellAt_6, eX1_cellAt_9, eX1_cellAt_12, eX1_cellAt_13, eX1_cellAt_17, eX1_cellAt_18, eX1_cellAt_21, eX1_cellAt_24, eX1_cellAt_25, eX1_cellAt_28, eX1_cellAt_30, eX1_cellAt_31, eX1_cellAt_34, eX1_cellAt_35, eX1_cellAt_37, eX1_cellAt_38, eX1_cellAt_39, eX1_cellAt_40, eX1_cellAt_41, eX1_cellAt_44, eX1_cellAt_47, eX1_cellAt_49, eX1_cellAt_51, eX1_cellAt_52, eX1_cellAt_54, eX1_cellAt_55, eX1_cellAt_56, eX1_cellAt_59, eX1_cellAt_62, eX1_cellAt_65, eX1_cellAt_68, eX1_cellAt_70, fx_bd_some, Option.toList_some, Option.toList_none, List.nil_append, List.cons_append, fx_uo, fx_ui, Int.toNat_natCast, ↓reduceIte, Int.reduceEq, Int.reduceLT, Int.reduceLE, Int.reduceNeg, h1, i0, e1, hn1]
      rw [show (r : Int) * 12 + (n : Int) = ((12 * r + n : Nat) : Int) by omega]
    · rw [if_neg ha] at e1
      simp (disch := omega) only [eX1_cellAt_0, eX1_cellAt_1, eX1_cellAt_5, eX1_cellAt_6, eX1_cellAt_9, eX1_cellAt_12, eX1_cellAt_13, eX1_cellAt_17, eX1_cellAt_18, eX1_cellAt_21, eX1_cellAt_24, eX1_cellAt_25, eX1_cellAt_28, eX1_cellAt_30, eX1_cellAt_31, eX1_cellAt_34, eX1_cellAt_35, eX1_cellAt_37, eX1_cellAt_38, eX1_cellAt_39, eX1_cellAt_40, eX1_cellAt_41, eX1_cellAt_44, eX1_cellAt_47, eX1_cellAt_49, eX1_cellAt_51, eX1_cellAt_52, eX1_cellAt_54, eX1_cellAt_55, eX1_cellAt_56, eX1_cellAt_59, eX1_cellAt_62, eX1_cellAt_65, eX1_cellAt_68, eX1_cellAt_70, fx_bd_some, Option.toList_some, Option.toList_none, List.nil_append, List.cons_append, fx_uo, fx_ui, Int.toNat_natCast, ↓reduceIte, Int.reduceEq, Int.reduceLT, Int.reduceLE, Int.reduceNeg, h1, i0, e1, hn1]
      rw [show (n : Int) + 1 = ((n + 1 : Nat) : Int) by omega]
      rcases ih (n + 1) (by omega) with q1 | ⟨q1, q2⟩
      · exact Or.inl q1
      · right
        refine ⟨fun n' h1 h2 => ?_, q2⟩
        by_cases hq2 : n' = n
        · subst hq2
          rintro ⟨-, -, a1, a2, a3⟩
          exact ha ⟨a1, a2, a3⟩
        · exact q1 n' (by omega) h2
theorem ca_lp (Rf Cf : Nat → Nat) (nc : Nat) {g R C br bc : Nat} {pr pc ph : Nat → Nat} {σ : fx_M} (hB : BW R C br bc pr pc ph) (hC : CB Rf Cf g R C br bc pr pc ph σ) (h0 : σ 12 g 0 = R) (h1 : σ 12 g 1 = C) (p q h : Int) (hp : fx_in p) (hq : fx_in q) (hh : fx_in h) :
    ∀ (d r : Nat) (u : Option fx_V), r + d = R → ∃ v : Int, fx_E (fx_S Rf Cf nc) 18 3 [some (.inr (some (12, g))), some (.inl p), some (.inl q), some (.inl h), some (.inl (r : Int)), u] [] σ = some (some (.inl v), σ) ∧ ((∃ k : Nat, atC R C pr pc ph p q h k ∧ v = k) ∨ (v = -8 ∧ ∀ k, 12 * r ≤ k → ¬ atC R C pr pc ph p q h k)) := by
  obtain ⟨⟨b1, b2⟩, ⟨b3, b4⟩, ⟨b5, b6⟩, ⟨b7, b8⟩, b9, b10, b11⟩ := id hB
  intro d
  induction d with
  | zero =>
    intro r u hr
    obtain rfl : r = R := by omega
    rw [eX1_cellAt_3]
    simp (disch := omega) only [eX1_cellAt_0, eX1_cellAt_1, eX1_cellAt_5, eX1_cellAt_6, eX1_cellAt_9, eX1_cellAt_12, eX1_cellAt_13, eX1_cellAt_17, eX1_cellAt_18, eX1_cellAt_21, eX1_cellAt_24, eX1_cellAt_25, eX1_cellAt_28, eX1_cellAt_30, eX1_cellAt_31, eX1_cellAt_34, eX1_cellAt_35, eX1_cellAt_37, eX1_cellAt_38, eX1_cellAt_39, eX1_cellAt_40, eX1_cellAt_41, eX1_cellAt_44, eX1_cellAt_47, eX1_cellAt_49, eX1_cellAt_51, eX1_cellAt_52, eX1_cellAt_54, eX1_cellAt_55, eX1_cellAt_56, eX1_cellAt_59, eX1_cellAt_62, eX1_cellAt_65, eX1_cellAt_68, eX1_cellAt_70, fx_bd_some, Option.toList_some, Option.toList_none, List.nil_append, List.cons_append, fx_uo, fx_ui, Int.toNat_natCast, ↓reduceIte, Int.reduceEq, Int.reduceLT, Int.reduceLE, Int.reduceNeg, h0]
    rw [if_neg (by omega)]
    refine ⟨-8, rfl, Or.inr ⟨rfl, fun k hk ha => ?_⟩⟩
    have := isC_lt ha.2.1
    omega
  | succ d ih =>
    intro r u hr
    rw [eX1_cellAt_3]
    simp (disch := omega) only [eX1_cellAt_0, eX1_cellAt_1, eX1_cellAt_5, eX1_cellAt_6, eX1_cellAt_9, eX1_cellAt_12, eX1_cellAt_13, eX1_cellAt_17, eX1_cellAt_18, eX1_cellAt_21, eX1_cellAt_24, eX1_cellAt_25, eX1_cellAt_28, eX1_cellAt_30, eX1_cellAt_31, eX1_cellAt_34, eX1_cellAt_35, eX1_cellAt_37, eX1_cellAt_38, eX1_cellAt_39, eX1_cellAt_40, eX1_cellAt_41, eX1_cellAt_44, eX1_cellAt_47, eX1_cellAt_49, eX1_cellAt_51, eX1_cellAt_52, eX1_cellAt_54, eX1_cellAt_55, eX1_cellAt_56, eX1_cellAt_59, eX1_cellAt_62, eX1_cellAt_65, eX1_cellAt_68, eX1_cellAt_70, fx_bd_some, Option.toList_some, Option.toList_none, List.nil_append, List.cons_append, fx_uo, fx_ui, Int.toNat_natCast, ↓reduceIte, Int.reduceEq, Int.reduceLT, Int.reduceLE, Int.reduceNeg, h0]
    rw [if_pos (by omega)]
    rcases ca_in Rf Cf nc hB hC h1 p q h hp hq hh r (by omega) C 0 (by omega) with ⟨k, k1, k2, k3, k4⟩ | ⟨q1, q2⟩
    · exact ⟨k, k4, Or.inl ⟨k, k3, rfl⟩⟩
    · obtain ⟨v, v1, v2⟩ := ih (r + 1) (some (.inl (C : Int))) (by omega)
      refine ⟨v, q2.trans v1, ?_⟩
      rcases v2 with v2 | ⟨v2, v3⟩
      · exact Or.inl v2
      · right
        refine ⟨v2, fun k hk ha => ?_⟩
        by_cases q3 : 12 * (r + 1) ≤ k
        · exact v3 k q3 ha
        · have hkc := ha.2.1
          have := q1 (k - 12 * r) (by omega) (by have := hkc.2; omega)
          rw [show 12 * r + (k - 12 * r) = k by omega] at this
          exact this ha
theorem sp_cellAt (Rf Cf : Nat → Nat) (nc : Nat) {g R C br bc : Nat} {pr pc ph : Nat → Nat} {σ : fx_M} (hB : BW R C br bc pr pc ph) (hC : CB Rf Cf g R C br bc pr pc ph σ) (h0 : σ 12 g 0 = R) (h1 : σ 12 g 1 = C) (p q h : Int) (hp : fx_in p) (hq : fx_in q) (hh : fx_in h) :
    ∃ v : Int, fx_Ca (fx_S Rf Cf nc) 18 [.inr (some (12, g)), .inl p, .inl q, .inl h] σ = some (some (.inl v), σ) ∧ ((∃ k : Nat, atC R C pr pc ph p q h k ∧ v = k) ∨ (v = -8 ∧ ∀ k, ¬ atC R C pr pc ph p q h k)) := by
  obtain ⟨v, v1, v2⟩ := ca_lp Rf Cf nc hB hC h0 h1 p q h hp hq hh R 0 none (by omega)
  refine ⟨v, ?_, ?_⟩
  · rw [entX1_cellAt]
    simp only [eX1_cellAt_0, eX1_cellAt_1, eX1_cellAt_5, eX1_cellAt_6, eX1_cellAt_9, eX1_cellAt_12, eX1_cellAt_13, eX1_cellAt_17, eX1_cellAt_18, eX1_cellAt_21, eX1_cellAt_24, eX1_cellAt_25, eX1_cellAt_28, eX1_cellAt_30, eX1_cellAt_31, eX1_cellAt_34, eX1_cellAt_35, eX1_cellAt_37, eX1_cellAt_38, eX1_cellAt_39, eX1_cellAt_40, eX1_cellAt_41, eX1_cellAt_44, eX1_cellAt_47, eX1_cellAt_49, eX1_cellAt_51, eX1_cellAt_52, eX1_cellAt_54, eX1_cellAt_55, eX1_cellAt_56, eX1_cellAt_59, eX1_cellAt_62, eX1_cellAt_65, eX1_cellAt_68, eX1_cellAt_70]
    exact v1
  · rcases v2 with v2 | ⟨v2, v3⟩
    · exact Or.inl v2
    · exact Or.inr ⟨v2, fun k => v3 k (by omega)⟩
