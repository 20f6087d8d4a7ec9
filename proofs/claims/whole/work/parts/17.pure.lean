/-! ranges of the memory -/
theorem fx_uo {σ : fx_M} {o g i o' g' i' : Nat} {v : Int} (h : ¬ o' = o) : fx_up σ o g i v o' g' i' = σ o' g' i' := by
  unfold fx_up
  rw [if_neg (fun q => h q.1)]
theorem fx_ui {σ : fx_M} {o g i j : Nat} {v : Int} : fx_up σ o g i v o g j = if j = i then v else σ o g j := by
  unfold fx_up
  simp only [true_and]
def fx_fr (σ : fx_M) (o g a b : Nat) (f : Nat → Int) : fx_M := fun o' g' j => if o' = o ∧ g' = g ∧ a ≤ j ∧ j < b then f j else σ o' g' j
theorem fx_fr_nil (σ : fx_M) (o g a : Nat) (f : Nat → Int) : fx_fr σ o g a a f = σ := by
  funext o' g' j
  unfold fx_fr
  rw [if_neg (by omega)]
theorem fx_fr_up (σ : fx_M) (o g a b : Nat) (f : Nat → Int) (h : a < b) : fx_fr (fx_up σ o g a (f a)) o g (a + 1) b f = fx_fr σ o g a b f := by
  funext o' g' j
  grind [fx_fr, fx_up]
theorem sp_fill_lp (Rf Cf : Nat → Nat) (nc : Nat) (o g n : Nat) (ho : fx_ak o = 1) (hn : fx_ln Rf Cf o g = n) (hn2 : n ≤ 4000) (v : Int) : ∀ (d k : Nat) (σ : fx_M), k + d = n → fx_E (fx_S Rf Cf nc) 131 5 [some (.inr (some (o, g))), some (.inl v), some (.inl (k : Int)), some (.inl (n : Int))] [] σ = some (none, fx_fr σ o g k n (fun _ => v))
  | 0, k, σ, h => by
    obtain rfl : k = n := by omega
    rw [eJ7_fill_53178_5]
    simp (disch := first | assumption | omega) only [eJ7_fill_53178_0, eJ7_fill_53178_1, eJ7_fill_53178_2, eJ7_fill_53178_3, eJ7_fill_53178_4, eJ7_fill_53178_6, eJ7_fill_53178_7, eJ7_fill_53178_10, eJ7_fill_53178_11, eJ7_fill_53178_12, eJ7_fill_53178_13, eJ7_fill_53178_14, eJ7_fill_53178_17, eJ7_fill_53178_20, fx_bd_some, Option.toList_some, Option.toList_none, List.nil_append, List.cons_append, fx_uo, fx_ui, Int.toNat_natCast, ↓reduceIte, Int.reduceEq, Int.reduceLT, Int.reduceLE, Int.reduceNeg]
    rw [if_neg (by omega), fx_fr_nil]
  | d + 1, k, σ, h => by
    rw [eJ7_fill_53178_5]
    simp (disch := first | assumption | omega) only [eJ7_fill_53178_0, eJ7_fill_53178_1, eJ7_fill_53178_2, eJ7_fill_53178_3, eJ7_fill_53178_4, eJ7_fill_53178_6, eJ7_fill_53178_7, eJ7_fill_53178_10, eJ7_fill_53178_11, eJ7_fill_53178_12, eJ7_fill_53178_13, eJ7_fill_53178_14, eJ7_fill_53178_17, eJ7_fill_53178_20, fx_bd_some, Option.toList_some, Option.toList_none, List.nil_append, List.cons_append, fx_uo, fx_ui, Int.toNat_natCast, ↓reduceIte, Int.reduceEq, Int.reduceLT, Int.reduceLE, Int.reduceNeg]
    rw [if_pos (by omega), show (k : Int) + 1 = ((k + 1 : Nat) : Int) by omega, sp_fill_lp Rf Cf nc o g n ho hn hn2 v d (k + 1) _ (by omega)]
    rw [fx_fr_up σ o g k n (fun _ => v) (by omega)]
theorem sp_fill (Rf Cf : Nat → Nat) (nc : Nat) (o g n : Nat) (ho : fx_ak o = 1) (hn : fx_ln Rf Cf o g = n) (hn2 : n ≤ 4000) (v : Int) (σ : fx_M) : fx_Ca (fx_S Rf Cf nc) 131 [.inr (some (o, g)), .inl v] σ = some (none, fx_fr σ o g 0 n (fun _ => v)) := by
  rw [entJ7_fill_53178]
  simp only [eJ7_fill_53178_0, eJ7_fill_53178_1, eJ7_fill_53178_2, eJ7_fill_53178_4, eJ7_fill_53178_6, eJ7_fill_53178_7, eJ7_fill_53178_10, eJ7_fill_53178_11, eJ7_fill_53178_12, eJ7_fill_53178_13, eJ7_fill_53178_14, eJ7_fill_53178_17, eJ7_fill_53178_20]
  rw [eJ7_fill_53178_3 (n := n) (ho := ho) (hn := hn)]
  simp only [eJ7_fill_53178_0, eJ7_fill_53178_1, eJ7_fill_53178_2, eJ7_fill_53178_4, eJ7_fill_53178_6, eJ7_fill_53178_7, eJ7_fill_53178_10, eJ7_fill_53178_11, eJ7_fill_53178_12, eJ7_fill_53178_13, eJ7_fill_53178_14, eJ7_fill_53178_17, eJ7_fill_53178_20]
  exact sp_fill_lp Rf Cf nc o g n ho hn hn2 v n 0 σ (by omega)
/-! the reference's small methods -/
theorem sp_within (Rf Cf : Nat → Nat) (nc : Nat) (σ : fx_M) (v a b : Int) (h1 : fx_in v) (h2 : fx_in a) (h3 : fx_in b) : fx_Ca (fx_S Rf Cf nc) 72 [.inl v, .inl a, .inl b] σ = some (some (.inl (if a ≤ v ∧ v ≤ b then 1 else 0)), σ) := by
  rw [entX7_within]
  simp (disch := omega) only [eX7_within_0, eX7_within_1, eX7_within_2, eX7_within_5, eX7_within_6, eX7_within_7, eX7_within_10, eX7_within_11, eX7_within_14, eX7_within_15, fx_bd_some, Option.toList_some, Option.toList_none, List.nil_append, List.cons_append, fx_uo, fx_ui, Int.toNat_natCast, ↓reduceIte, Int.reduceEq, Int.reduceLT, Int.reduceLE, Int.reduceNeg]
  grind
theorem sp_isCloth (Rf Cf : Nat → Nat) (nc : Nat) (σ : fx_M) (c : Int) (h1 : fx_in c) (h2 : fx_in (σ 20 0 2)) : fx_Ca (fx_S Rf Cf nc) 73 [.inr (some (20, 0)), .inl c] σ = some (some (.inl (if 0 ≤ c ∧ c < σ 20 0 2 then 1 else 0)), σ) := by
  rw [entX7_isCloth]
  simp (disch := omega) only [eX7_isCloth_0, eX7_isCloth_1, eX7_isCloth_4, eX7_isCloth_5, eX7_isCloth_6, eX7_isCloth_9, eX7_isCloth_12, eX7_isCloth_13, eX7_isCloth_16, eX7_isCloth_17, fx_bd_some, Option.toList_some, Option.toList_none, List.nil_append, List.cons_append, fx_uo, fx_ui, Int.toNat_natCast, ↓reduceIte, Int.reduceEq, Int.reduceLT, Int.reduceLE, Int.reduceNeg]
  grind
theorem sp_isCell (Rf Cf : Nat → Nat) (nc : Nat) (σ : fx_M) (c : Nat) (k : Int) (h1 : c < 7) (hk : fx_in k) (h2 : fx_in (σ 30 0 c)) (h3 : fx_in (σ 31 0 c)) : fx_Ca (fx_S Rf Cf nc) 74 [.inr (some (20, 0)), .inl (c : Int), .inl k] σ = some (some (.inl (if 0 ≤ k ∧ k / 12 < σ 30 0 c ∧ k % 12 < σ 31 0 c then 1 else 0)), σ) := by
  rw [entX7_isCell]
  simp (disch := (first | omega | (simp only [Int.toNat_natCast]; omega))) only [eX7_isCell_0, eX7_isCell_1, eX7_isCell_4, eX7_isCell_5, eX7_isCell_7, eX7_isCell_8, eX7_isCell_9, eX7_isCell_12, eX7_isCell_13, eX7_isCell_14, eX7_isCell_17, eX7_isCell_18, eX7_isCell_20, eX7_isCell_21, eX7_isCell_22, eX7_isCell_25, eX7_isCell_26, eX7_isCell_27, eX7_isCell_30, eX7_isCell_31, eX7_isCell_34, eX7_isCell_35, fx_bd_some, Option.toList_some, Option.toList_none, List.nil_append, List.cons_append, fx_uo, fx_ui, Int.toNat_natCast, ↓reduceIte, Int.reduceEq, Int.reduceLT, Int.reduceLE, Int.reduceNeg]
  grind
theorem sp_cellEnd (Rf Cf : Nat → Nat) (nc : Nat) (σ : fx_M) (c : Nat) (h1 : c < 7) : fx_Ca (fx_S Rf Cf nc) 75 [.inr (some (20, 0)), .inl (c : Int)] σ = some (some (.inl (12 * σ 30 0 c)), σ) := by
  rw [entX7_cellEnd]
  simp (disch := omega) only [eX7_cellEnd_0, eX7_cellEnd_2, eX7_cellEnd_3, eX7_cellEnd_6, eX7_cellEnd_7, eX7_cellEnd_8, eX7_cellEnd_9, fx_bd_some, Option.toList_some, Option.toList_none, List.nil_append, List.cons_append, fx_uo, fx_ui, Int.toNat_natCast, ↓reduceIte, Int.reduceEq, Int.reduceLT, Int.reduceLE, Int.reduceNeg]
theorem sp_at (Rf Cf : Nat → Nat) (nc : Nat) (σ : fx_M) (c r n : Nat) (h1 : c < 7) (h2 : r < 12) (h3 : n < 12) : fx_Ca (fx_S Rf Cf nc) 107 [.inr (some (20, 0)), .inl (c : Int), .inl (r : Int), .inl (n : Int)] σ = some (some (.inl (σ 33 0 (144 * c + 12 * r + n))), σ) := by
  rw [entX7_at]
  simp (disch := omega) only [eX7_at_0, eX7_at_1, eX7_at_4, eX7_at_7, eX7_at_8, eX7_at_9, eX7_at_11, eX7_at_12, eX7_at_13, eX7_at_14, eX7_at_15, eX7_at_16, eX7_at_17, fx_bd_some, Option.toList_some, Option.toList_none, List.nil_append, List.cons_append, fx_uo, fx_ui, Int.toNat_natCast, ↓reduceIte, Int.reduceEq, Int.reduceLT, Int.reduceLE, Int.reduceNeg]
  rw [show (144 * (c : Int) + 12 * r + n).toNat = 144 * c + 12 * r + n by omega]
theorem sp_dyed (Rf Cf : Nat → Nat) (nc : Nat) (σ : fx_M) (r m st : Int) (h1 : 1 ≤ r) (h2 : r ≤ 1000000) (h3 : fx_in m) (h4 : 0 ≤ st) (h5 : st ≤ 100) (h6 : 0 < σ 20 0 19) (h7 : σ 20 0 19 ≤ 100) : fx_Ca (fx_S Rf Cf nc) 101 [.inr (some (20, 0)), .inl r, .inl m, .inl st] σ = some (some (.inl (if r ≤ m ∧ (r - 1) / σ 20 0 19 < st then st - (r - 1) / σ 20 0 19 else 0)), σ) := by
  have hq0 : 0 ≤ (r - 1) / σ 20 0 19 := Int.ediv_nonneg (by omega) (by omega)
  have hq1 : (r - 1) / σ 20 0 19 ≤ r - 1 := Int.ediv_le_self _ (by omega)
  rw [entX7_dyed]
  simp (disch := omega) only [eX7_dyed_0, eX7_dyed_1, eX7_dyed_2, eX7_dyed_5, eX7_dyed_6, eX7_dyed_7, eX7_dyed_8, eX7_dyed_9, eX7_dyed_10, eX7_dyed_13, eX7_dyed_14, eX7_dyed_15, eX7_dyed_18, eX7_dyed_19, eX7_dyed_21, eX7_dyed_23, eX7_dyed_26, eX7_dyed_27, eX7_dyed_30, eX7_dyed_32, fx_bd_some, Option.toList_some, Option.toList_none, List.nil_append, List.cons_append, fx_uo, fx_ui, Int.toNat_natCast, ↓reduceIte, Int.reduceEq, Int.reduceLT, Int.reduceLE, Int.reduceNeg]

  grind
theorem sp_moves (Rf Cf : Nat → Nat) (nc : Nat) (σ : fx_M) (kd ln r n : Int) (h1 : fx_in kd) (h2 : fx_in ln) (h3 : fx_in r) (h4 : fx_in n) : fx_Ca (fx_S Rf Cf nc) 80 [.inr (some (20, 0)), .inl kd, .inl ln, .inl r, .inl n] σ = some (some (.inl (if (if kd = 0 then ln ≤ n else if kd = 1 then ln ≤ r else r < n) then 1 else 0)), σ) := by
  rw [entX7_moves]
  simp (disch := omega) only [eX7_moves_0, eX7_moves_1, eX7_moves_4, eX7_moves_6, eX7_moves_7, eX7_moves_10, eX7_moves_11, eX7_moves_14, eX7_moves_15, eX7_moves_18, eX7_moves_19, eX7_moves_20, eX7_moves_23, eX7_moves_24, eX7_moves_25, eX7_moves_28, eX7_moves_29, eX7_moves_32, eX7_moves_33, eX7_moves_36, eX7_moves_38, eX7_moves_39, eX7_moves_42, eX7_moves_43, eX7_moves_46, eX7_moves_47, fx_bd_some, Option.toList_some, Option.toList_none, List.nil_append, List.cons_append, fx_uo, fx_ui, Int.toNat_natCast, ↓reduceIte, Int.reduceEq, Int.reduceLT, Int.reduceLE, Int.reduceNeg]

  grind
