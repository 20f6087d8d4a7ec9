/-! the reference: folds -/
def mvB (kd ln r n : Nat) : Bool := if kd = 0 then decide (ln ≤ n) else if kd = 1 then decide (ln ≤ r) else decide (r < n)
def fRo (kd ln r n : Nat) : Int := if mvB kd ln r n = true ∧ kd = 1 then 2 * (ln : Int) - 1 - r else if mvB kd ln r n = true ∧ kd = 2 then n else r
def fCo (kd ln r n : Nat) : Int := if mvB kd ln r n = true ∧ kd = 0 then 2 * (ln : Int) - 1 - n else if mvB kd ln r n = true ∧ kd = 2 then r else n
theorem sp_movesN (Rf Cf : Nat → Nat) (nc : Nat) (σ : fx_M) (kd ln r n : Nat) (h1 : kd < 3) (h2 : ln < 100) (h3 : r < 100) (h4 : n < 100) : fx_Ca (fx_S Rf Cf nc) 80 [.inr (some (20, 0)), .inl (kd : Int), .inl (ln : Int), .inl (r : Int), .inl (n : Int)] σ = some (some (.inl (if mvB kd ln r n = true then 1 else 0)), σ) := by
  rw [sp_moves Rf Cf nc σ kd ln r n (by omega) (by omega) (by omega) (by omega)]
  have : (if (kd : Int) = 0 then (ln : Int) ≤ n else if (kd : Int) = 1 then (ln : Int) ≤ r else (r : Int) < n) ↔ mvB kd ln r n = true := by
    unfold mvB
    rcases (show kd = 0 ∨ kd = 1 ∨ kd = 2 by omega) with rfl | rfl | rfl <;> simp <;> omega
  simp only [this]
theorem sp_target (Rf Cf : Nat → Nat) (nc : Nat) (σ : fx_M) (kd ln k r n : Nat) (h1 : kd < 3) (h2 : ln < 100) (h3 : r < 100) (h4 : n < 100) (hk : k < 144) : fx_Ca (fx_S Rf Cf nc) 81 [.inr (some (20, 0)), .inl (kd : Int), .inl (ln : Int), .inl (k : Int), .inl (r : Int), .inl (n : Int)] σ = some (none, fx_up (fx_up σ 53 0 k (fRo kd ln r n)) 54 0 k (fCo kd ln r n)) := by
  rw [entX7_target]
  have e := sp_movesN Rf Cf nc σ kd ln r n h1 h2 h3 h4
  unfold fRo fCo
  cases hm : mvB kd ln r n with
  | true =>
    rw [hm, if_pos rfl] at e
    rcases (show kd = 0 ∨ kd = 1 ∨ kd = 2 by omega) with rfl | rfl | rfl
    all_goals (simp (disch := omega) only [eX7_target_0, eX7_target_1, eX7_target_2, eX7_target_3, eX7_target_5, eX7_target_7, eX7_target_10, eX7_target_12, eX7_target_13, eX7_target_16, eX7_target_17, eX7_target_19, eX7_target_22, eX7_target_23, eX7_target_24, eX7_target_27, eX7_target_28, eX7_target_29, eX7_target_30, eX7_target_31, eX7_target_32, eX7_target_34, eX7_target_35, eX7_target_38, eX7_target_40, eX7_target_43, eX7_target_44, eX7_target_45, eX7_target_48, eX7_target_50, eX7_target_53, eX7_target_55, eX7_target_56, eX7_target_57, eX7_target_60, eX7_target_61, eX7_target_63, eX7_target_66, eX7_target_67, eX7_target_70, eX7_target_71, eX7_target_72, eX7_target_73, eX7_target_74, eX7_target_75, eX7_target_77, eX7_target_78, eX7_target_81, eX7_target_83, eX7_target_86, eX7_target_87, eX7_target_88, eX7_target_91, eX7_target_93, eX7_target_96, eX7_target_98, eX7_target_99, fx_bd_some, Option.toList_some, Option.toList_none, List.nil_append, List.cons_append, fx_uo, fx_ui, Int.toNat_natCast, ↓reduceIte, Int.reduceEq, Int.reduceLT, Int.reduceLE, Int.reduceNeg, e]; simp)
  | false =>
    rw [hm, if_neg (by simp)] at e
    rcases (show kd = 0 ∨ kd = 1 ∨ kd = 2 by omega) with rfl | rfl | rfl
    all_goals (simp (disch := omega) only [eX7_target_0, eX7_target_1, eX7_target_2, eX7_target_3, eX7_target_5, eX7_target_7, eX7_target_10, eX7_target_12, eX7_target_13, eX7_target_16, eX7_target_17, eX7_target_19, eX7_target_22, eX7_target_23, eX7_target_24, eX7_target_27, eX7_target_28, eX7_target_29, eX7_target_30, eX7_target_31, eX7_target_32, eX7_target_34, eX7_target_35, eX7_target_38, eX7_target_40, eX7_target_43, eX7_target_44, eX7_target_45, eX7_target_48, eX7_target_50, eX7_target_53, eX7_target_55, eX7_target_56, eX7_target_57, eX7_target_60, eX7_target_61, eX7_target_63, eX7_target_66, eX7_target_67, eX7_target_70, eX7_target_71, eX7_target_72, eX7_target_73, eX7_target_74, eX7_target_75, eX7_target_77, eX7_target_78, eX7_target_81, eX7_target_83, eX7_target_86, eX7_target_87, eX7_target_88, eX7_target_91, eX7_target_93, eX7_target_96, eX7_target_98, eX7_target_99, fx_bd_some, Option.toList_some, Option.toList_none, List.nil_append, List.cons_append, fx_uo, fx_ui, Int.toNat_natCast, ↓reduceIte, Int.reduceEq, Int.reduceLT, Int.reduceLE, Int.reduceNeg, e]; simp)
theorem sp_count_lp (Rf Cf : Nat → Nat) (nc : Nat) {c R C br bc : Nat} {pr pc ph : Nat → Nat} (hc : c < 7) (hB : BW R C br bc pr pc ph) {σ : fx_M} (hM : MB c R C br bc pr pc ph σ) (kd ln : Nat) (h1 : kd < 3) (h2 : ln < 100) (nr nn : Nat → Int) (hn : ∀ k, k < 144 → isC R C k → σ 53 0 k = nr k ∧ σ 54 0 k = nn k ∧ -1000 ≤ nr k ∧ nr k ≤ 1000 ∧ -1000 ≤ nn k ∧ nn k ≤ 1000) (r n : Int) (hr : -1000 ≤ r ∧ r ≤ 1000) (hnn : -1000 ≤ n ∧ n ≤ 1000) (b : Bool) : ∀ (d k : Nat) (a : Nat), k + d = 144 → a ≤ k → a = cntP k (fun j => decide (isC R C j ∧ nr j = r ∧ nn j = n) && (mvB kd ln (pr j) (pc j) == b)) → fx_E (fx_S Rf Cf nc) 82 6 [some (.inr (some (20, 0))), some (.inl (c : Int)), some (.inl (kd : Int)), some (.inl (ln : Int)), some (.inl r), some (.inl n), some (.inl (if b then 1 else 0)), some (.inl (a : Int)), some (.inl (k : Int))] [] σ = some (some (.inl (cntP 144 (fun j => decide (isC R C j ∧ nr j = r ∧ nn j = n) && (mvB kd ln (pr j) (pc j) == b)) : Nat)), σ)
  | 0, k, a, h, ha, hq => by
    obtain rfl : k = 144 := by omega
    rw [eX7_countNew_6]
    simp (disch := omega) only [eX7_countNew_0, eX7_countNew_1, eX7_countNew_3, eX7_countNew_4, eX7_countNew_8, eX7_countNew_11, eX7_countNew_14, eX7_countNew_15, eX7_countNew_16, eX7_countNew_18, eX7_countNew_21, eX7_countNew_24, eX7_countNew_25, eX7_countNew_28, eX7_countNew_30, eX7_countNew_31, eX7_countNew_33, eX7_countNew_36, eX7_countNew_37, eX7_countNew_40, eX7_countNew_42, eX7_countNew_43, eX7_countNew_45, eX7_countNew_48, eX7_countNew_50, eX7_countNew_51, eX7_countNew_52, eX7_countNew_53, eX7_countNew_54, eX7_countNew_57, eX7_countNew_60, eX7_countNew_61, eX7_countNew_62, eX7_countNew_64, eX7_countNew_65, eX7_countNew_66, eX7_countNew_67, eX7_countNew_70, eX7_countNew_73, eX7_countNew_74, eX7_countNew_75, eX7_countNew_77, eX7_countNew_78, eX7_countNew_79, eX7_countNew_82, eX7_countNew_84, eX7_countNew_87, eX7_countNew_88, eX7_countNew_91, eX7_countNew_92, eX7_countNew_93, eX7_countNew_95, eX7_countNew_98, eX7_countNew_101, eX7_countNew_103, fx_bd_some, Option.toList_some, Option.toList_none, List.nil_append, List.cons_append, fx_uo, fx_ui, Int.toNat_natCast, ↓reduceIte, Int.reduceEq, Int.reduceLT, Int.reduceLE, Int.reduceNeg]
    rw [hq]
    simp
  | d + 1, k, a, h, ha, hq => by
    obtain ⟨⟨b1, b2⟩, ⟨b3, b4⟩, ⟨b5, b6⟩, ⟨b7, b8⟩, b9, b10, b11⟩ := id hB
    obtain ⟨m1, m2, m3, m4, m5⟩ := id hM
    have hk : k < 144 := by omega
    have hk1 : ((k : Int) < 144) = True := by simp; omega
    have step : ∀ x : Nat, x ≤ 1 → cntP (k + 1) (fun j => decide (isC R C j ∧ nr j = r ∧ nn j = n) && (mvB kd ln (pr j) (pc j) == b)) = a + x → fx_E (fx_S Rf Cf nc) 82 6 [some (.inr (some (20, 0))), some (.inl (c : Int)), some (.inl (kd : Int)), some (.inl (ln : Int)), some (.inl r), some (.inl n), some (.inl (if b then 1 else 0)), some (.inl ((a + x : Nat) : Int)), some (.inl ((k : Int) + 1))] [] σ = some (some (.inl (cntP 144 (fun j => decide (isC R C j ∧ nr j = r ∧ nn j = n) && (mvB kd ln (pr j) (pc j) == b)) : Nat)), σ) := by
      intro x hx he
      rw [show (k : Int) + 1 = ((k + 1 : Nat) : Int) by omega]
      exact sp_count_lp Rf Cf nc hc hB hM kd ln h1 h2 nr nn hn r n hr hnn b d (k + 1) (a + x) (by omega) (by omega) he.symm
    rw [eX7_countNew_6]
    by_cases hcell : isC R C k
    · have e1 := sp_isCellY Rf Cf nc hc m1 m2 b2 b4 (show k < 1000 by omega) hcell
      obtain ⟨f1, f2, f3⟩ := m5 k hk hcell
      obtain ⟨g1, g2, g3⟩ := b9 k hk hcell
      obtain ⟨n1, n2, n3, n4, n5, n6⟩ := hn k hk hcell
      have i1 : (144 * (c : Int) + (k : Int)).toNat = 144 * c + k := by omega
      have e2 := sp_movesN Rf Cf nc σ kd ln (pr k) (pc k) h1 h2 (by omega) (by omega)
      simp (disch := omega) only [eX7_countNew_0, eX7_countNew_1, eX7_countNew_3, eX7_countNew_4, eX7_countNew_8, eX7_countNew_11, eX7_countNew_14, eX7_countNew_15, eX7_countNew_16, eX7_countNew_18, eX7_countNew_21, eX7_countNew_24, eX7_countNew_25, eX7_countNew_28, eX7_countNew_30, eX7_countNew_31, eX7_countNew_33, eX7_countNew_36, eX7_countNew_37, eX7_countNew_40, eX7_countNew_42, eX7_countNew_43, eX7_countNew_45, eX7_countNew_48, eX7_countNew_50, eX7_countNew_51, eX7_countNew_52, eX7_countNew_53, eX7_countNew_54, eX7_countNew_57, eX7_countNew_60, eX7_countNew_61, eX7_countNew_62, eX7_countNew_64, eX7_countNew_65, eX7_countNew_66, eX7_countNew_67, eX7_countNew_70, eX7_countNew_73, eX7_countNew_74, eX7_countNew_75, eX7_countNew_77, eX7_countNew_78, eX7_countNew_79, eX7_countNew_82, eX7_countNew_84, eX7_countNew_87, eX7_countNew_88, eX7_countNew_91, eX7_countNew_92, eX7_countNew_93, eX7_countNew_95, eX7_countNew_98, eX7_countNew_101, eX7_countNew_103, fx_bd_some, Option.toList_some, Option.toList_none, List.nil_append, List.cons_append, fx_uo, fx_ui, Int.toNat_natCast, ↓reduceIte, Int.reduceEq, Int.reduceLT, Int.reduceLE, Int.reduceNeg, e1, i1, f1, f2, n1, n2, hk1, e2]
      by_cases q1 : nr k = r
      · by_cases q2 : nn k = n
        · simp only [q1, q2, if_true]
          by_cases q3 : mvB kd ln (pr k) (pc k) = b
          · rw [if_pos (by rw [q3])]
            have := step 1 (by omega) (by simp only [cntP]; rw [hq]; simp [hcell, q1, q2, q3])
            simpa using this
          · rw [if_neg (by cases b <;> simp_all)]
            have := step 0 (by omega) (by simp only [cntP]; rw [hq]; simp [hcell, q1, q2, q3])
            simpa using this
        · simp only [q1, q2, if_true, if_false]
          have := step 0 (by omega) (by simp only [cntP]; rw [hq]; simp [hcell, q1, q2])
          simpa using this
      · simp only [q1, if_false]
        have := step 0 (by omega) (by simp only [cntP]; rw [hq]; simp [hcell, q1])
        simpa using this
    · have e1 := sp_isCellN Rf Cf nc hc m1 m2 b2 b4 (show k < 1000 by omega) hcell
      simp (disch := omega) only [eX7_countNew_0, eX7_countNew_1, eX7_countNew_3, eX7_countNew_4, eX7_countNew_8, eX7_countNew_11, eX7_countNew_14, eX7_countNew_15, eX7_countNew_16, eX7_countNew_18, eX7_countNew_21, eX7_countNew_24, eX7_countNew_25, eX7_countNew_28, eX7_countNew_30, eX7_countNew_31, eX7_countNew_33, eX7_countNew_36, eX7_countNew_37, eX7_countNew_40, eX7_countNew_42, eX7_countNew_43, eX7_countNew_45, eX7_countNew_48, eX7_countNew_50, eX7_countNew_51, eX7_countNew_52, eX7_countNew_53, eX7_countNew_54, eX7_countNew_57, eX7_countNew_60, eX7_countNew_61, eX7_countNew_62, eX7_countNew_64, eX7_countNew_65, eX7_countNew_66, eX7_countNew_67, eX7_countNew_70, eX7_countNew_73, eX7_countNew_74, eX7_countNew_75, eX7_countNew_77, eX7_countNew_78, eX7_countNew_79, eX7_countNew_82, eX7_countNew_84, eX7_countNew_87, eX7_countNew_88, eX7_countNew_91, eX7_countNew_92, eX7_countNew_93, eX7_countNew_95, eX7_countNew_98, eX7_countNew_101, eX7_countNew_103, fx_bd_some, Option.toList_some, Option.toList_none, List.nil_append, List.cons_append, fx_uo, fx_ui, Int.toNat_natCast, ↓reduceIte, Int.reduceEq, Int.reduceLT, Int.reduceLE, Int.reduceNeg, e1, hk1]
      have := step 0 (by omega) (by simp only [cntP]; rw [hq]; simp [hcell])
      simpa using this
theorem sp_countNew (Rf Cf : Nat → Nat) (nc : Nat) {c R C br bc : Nat} {pr pc ph : Nat → Nat} (hc : c < 7) (hB : BW R C br bc pr pc ph) {σ : fx_M} (hM : MB c R C br bc pr pc ph σ) (kd ln : Nat) (h1 : kd < 3) (h2 : ln < 100) (nr nn : Nat → Int) (hn : ∀ k, k < 144 → isC R C k → σ 53 0 k = nr k ∧ σ 54 0 k = nn k ∧ -1000 ≤ nr k ∧ nr k ≤ 1000 ∧ -1000 ≤ nn k ∧ nn k ≤ 1000) (r n : Int) (hr : -1000 ≤ r ∧ r ≤ 1000) (hnn : -1000 ≤ n ∧ n ≤ 1000) (b : Bool) (bi : Int) (hbi : bi = if b then 1 else 0) : fx_Ca (fx_S Rf Cf nc) 82 [.inr (some (20, 0)), .inl (c : Int), .inl (kd : Int), .inl (ln : Int), .inl r, .inl n, .inl bi] σ = some (some (.inl (cntP 144 (fun j => decide (isC R C j ∧ nr j = r ∧ nn j = n) && (mvB kd ln (pr j) (pc j) == b)) : Nat)), σ) := by
  rw [entX7_countNew, hbi]
  simp only [eX7_countNew_0, eX7_countNew_1, eX7_countNew_3, eX7_countNew_4, eX7_countNew_8, eX7_countNew_11, eX7_countNew_14, eX7_countNew_15, eX7_countNew_16, eX7_countNew_18, eX7_countNew_21, eX7_countNew_24, eX7_countNew_25, eX7_countNew_28, eX7_countNew_30, eX7_countNew_31, eX7_countNew_33, eX7_countNew_36, eX7_countNew_37, eX7_countNew_40, eX7_countNew_42, eX7_countNew_43, eX7_countNew_45, eX7_countNew_48, eX7_countNew_50, eX7_countNew_51, eX7_countNew_52, eX7_countNew_53, eX7_countNew_54, eX7_countNew_57, eX7_countNew_60, eX7_countNew_61, eX7_countNew_62, eX7_countNew_64, eX7_countNew_65, eX7_countNew_66, eX7_countNew_67, eX7_countNew_70, eX7_countNew_73, eX7_countNew_74, eX7_countNew_75, eX7_countNew_77, eX7_countNew_78, eX7_countNew_79, eX7_countNew_82, eX7_countNew_84, eX7_countNew_87, eX7_countNew_88, eX7_countNew_91, eX7_countNew_92, eX7_countNew_93, eX7_countNew_95, eX7_countNew_98, eX7_countNew_101, eX7_countNew_103]
  exact sp_count_lp Rf Cf nc hc hB hM kd ln h1 h2 nr nn hn r n hr hnn b 144 0 0 (by omega) (by omega) rfl
/-! trying a fold -/
def nR (kd ln : Nat) (pr pc : Nat → Nat) (k : Nat) : Int := fRo kd ln (pr k) (pc k)
def nC (kd ln : Nat) (pr pc : Nat → Nat) (k : Nat) : Int := fCo kd ln (pr k) (pc k)
def cmeB (R C kd ln : Nat) (pr pc : Nat → Nat) (b : Bool) (k : Nat) : Nat := cntP 144 (fun j => decide (isC R C j ∧ nR kd ln pr pc j = nR kd ln pr pc k ∧ nC kd ln pr pc j = nC kd ln pr pc k) && (mvB kd ln (pr j) (pc j) == b))
def nH (R C kd ln how : Nat) (pr pc ph : Nat → Nat) (k : Nat) : Int := if mvB kd ln (pr k) (pc k) = true then (if how = 0 then (cmeB R C kd ln pr pc false k : Int) else 0) + cmeB R C kd ln pr pc true k - 1 - ph k else if how = 0 then ph k else cmeB R C kd ln pr pc true k + ph k
def mxP : Nat → (Nat → Bool) → (Nat → Nat) → Nat
  | 0, _, _ => 0
  | n + 1, P, f => if P n then max (mxP n P f) (f n) else mxP n P f
def thk (R C kd ln : Nat) (pr pc : Nat → Nat) (n : Nat) : Nat := mxP n (fun k => decide (isC R C k)) (fun k => cmeB R C kd ln pr pc true k + cmeB R C kd ln pr pc false k)
theorem nR_bd {kd ln : Nat} {pr pc : Nat → Nat} {k : Nat} (h1 : ln < 100) (h2 : pr k < 100) (h3 : pc k < 100) : -1000 ≤ nR kd ln pr pc k ∧ nR kd ln pr pc k ≤ 1000 := by
  unfold nR fRo
  split
  · omega
  · split <;> omega
theorem nC_bd {kd ln : Nat} {pr pc : Nat → Nat} {k : Nat} (h1 : ln < 100) (h2 : pr k < 100) (h3 : pc k < 100) : -1000 ≤ nC kd ln pr pc k ∧ nC kd ln pr pc k ≤ 1000 := by
  unfold nC fCo
  split
  · omega
  · split <;> omega
theorem sp_try_lp1 (Rf Cf : Nat → Nat) (nc : Nat) {c R C br bc : Nat} {pr pc ph : Nat → Nat} (hc : c < 7) (hB : BW R C br bc pr pc ph) (kd ln how : Nat) (h1 : kd < 3) (h2 : ln < 100) (σ0 : fx_M) (u6 u7 u8 u9 : Option fx_V) (hM0 : MB c R C br bc pr pc ph σ0) (P : Option fx_R → Prop)
    (hP : ∀ σ, (∀ o g i, ¬ (g = 0 ∧ (o = 53 ∨ o = 54)) → σ o g i = σ0 o g i) → (∀ k, k < 144 → isC R C k → σ 53 0 k = nR kd ln pr pc k ∧ σ 54 0 k = nC kd ln pr pc k) → P (fx_E (fx_S Rf Cf nc) 83 69 [some (.inr (some (20, 0))), some (.inl (c : Int)), some (.inl (kd : Int)), some (.inl (ln : Int)), some (.inl (how : Int)), some (.inl 0), some (.inl 0), u7, u8, u9] [] σ)) :
    ∀ (d k : Nat) (σ : fx_M), k + d = 12 * R → (∀ o g i, ¬ (g = 0 ∧ (o = 53 ∨ o = 54)) → σ o g i = σ0 o g i) → (∀ j, j < k → isC R C j → σ 53 0 j = nR kd ln pr pc j ∧ σ 54 0 j = nC kd ln pr pc j) → P (fx_E (fx_S Rf Cf nc) 83 3 [some (.inr (some (20, 0))), some (.inl (c : Int)), some (.inl (kd : Int)), some (.inl (ln : Int)), some (.inl (how : Int)), some (.inl (k : Int)), u6, u7, u8, u9] [] σ)
  | 0, k, σ, h, hF, hN => by
    obtain rfl : k = 12 * R := by omega
    obtain ⟨⟨b1, b2⟩, ⟨b3, b4⟩, -⟩ := id hB
    have m1 : σ 30 0 c = R := by rw [hF _ _ _ (by omega)]; exact hM0.1
    rw [eX7_tryFold_3]
    simp (disch := omega) only [eX7_tryFold_0, eX7_tryFold_1, eX7_tryFold_5, eX7_tryFold_6, eX7_tryFold_7, eX7_tryFold_10, eX7_tryFold_13, eX7_tryFold_14, eX7_tryFold_15, eX7_tryFold_17, eX7_tryFold_20, eX7_tryFold_23, eX7_tryFold_24, eX7_tryFold_25, eX7_tryFold_26, eX7_tryFold_28, eX7_tryFold_29, eX7_tryFold_32, eX7_tryFold_35, eX7_tryFold_36, eX7_tryFold_37, eX7_tryFold_39, eX7_tryFold_40, eX7_tryFold_41, eX7_tryFold_42, eX7_tryFold_45, eX7_tryFold_48, eX7_tryFold_49, eX7_tryFold_50, eX7_tryFold_52, eX7_tryFold_53, eX7_tryFold_54, eX7_tryFold_57, eX7_tryFold_60, eX7_tryFold_63, eX7_tryFold_64, eX7_tryFold_66, eX7_tryFold_67, eX7_tryFold_71, eX7_tryFold_72, eX7_tryFold_73, eX7_tryFold_76, eX7_tryFold_79, eX7_tryFold_80, eX7_tryFold_81, eX7_tryFold_83, eX7_tryFold_86, eX7_tryFold_89, eX7_tryFold_90, eX7_tryFold_91, eX7_tryFold_92, eX7_tryFold_93, eX7_tryFold_94, eX7_tryFold_97, eX7_tryFold_99, eX7_tryFold_100, eX7_tryFold_101, eX7_tryFold_104, eX7_tryFold_106, eX7_tryFold_107, eX7_tryFold_108, eX7_tryFold_111, eX7_tryFold_113, eX7_tryFold_114, eX7_tryFold_115, eX7_tryFold_116, eX7_tryFold_117, eX7_tryFold_118, eX7_tryFold_121, eX7_tryFold_123, eX7_tryFold_124, eX7_tryFold_125, eX7_tryFold_128, eX7_tryFold_130, eX7_tryFold_131, eX7_tryFold_132, eX7_tryFold_135, eX7_tryFold_137, eX7_tryFold_138, eX7_tryFold_141, eX7_tryFold_144, eX7_tryFold_145, eX7_tryFold_146, eX7_tryFold_148, eX7_tryFold_149, eX7_tryFold_150, eX7_tryFold_152, eX7_tryFold_153, eX7_tryFold_154, eX7_tryFold_155, eX7_tryFold_156, eX7_tryFold_159, eX7_tryFold_162, eX7_tryFold_163, eX7_tryFold_164, eX7_tryFold_166, eX7_tryFold_167, eX7_tryFold_168, eX7_tryFold_169, eX7_tryFold_172, eX7_tryFold_175, eX7_tryFold_176, eX7_tryFold_177, eX7_tryFold_179, eX7_tryFold_180, eX7_tryFold_181, eX7_tryFold_184, eX7_tryFold_187, eX7_tryFold_188, eX7_tryFold_191, eX7_tryFold_193, eX7_tryFold_195, eX7_tryFold_198, eX7_tryFold_200, eX7_tryFold_203, eX7_tryFold_204, eX7_tryFold_206, eX7_tryFold_207, eX7_tryFold_208, eX7_tryFold_209, eX7_tryFold_211, eX7_tryFold_212, eX7_tryFold_213, eX7_tryFold_216, eX7_tryFold_217, eX7_tryFold_220, eX7_tryFold_222, eX7_tryFold_224, eX7_tryFold_227, eX7_tryFold_229, eX7_tryFold_232, eX7_tryFold_234, eX7_tryFold_236, eX7_tryFold_237, eX7_tryFold_238, eX7_tryFold_240, eX7_tryFold_242, eX7_tryFold_243, eX7_tryFold_245, eX7_tryFold_248, eX7_tryFold_250, eX7_tryFold_252, eX7_tryFold_253, eX7_tryFold_256, eX7_tryFold_258, eX7_tryFold_260, eX7_tryFold_263, eX7_tryFold_266, eX7_tryFold_268, fx_bd_some, Option.toList_some, Option.toList_none, List.nil_append, List.cons_append, fx_uo, fx_ui, Int.toNat_natCast, ↓reduceIte, Int.reduceEq, Int.reduceLT, Int.reduceLE, Int.reduceNeg, sp_cellEnd Rf Cf nc _ c hc, m1]
    rw [if_neg (by omega)]
    exact hP σ hF (fun k hk hkc => hN k (isC_lt hkc) hkc)
  | d + 1, k, σ, h, hF, hN => by
    obtain ⟨⟨b1, b2⟩, ⟨b3, b4⟩, ⟨b5, b6⟩, ⟨b7, b8⟩, b9, b10, b11⟩ := id hB
    have hM : MB c R C br bc pr pc ph σ := hM0.of (fun o i ho => hF o 0 i (by omega))
    obtain ⟨m1, m2, m3, m4, m5⟩ := id hM
    have hk : k < 144 := by omega
    have hk1 : ((k : Int) < 12 * (R : Int)) = True := by simp; omega
    rw [eX7_tryFold_3]
    by_cases hcell : isC R C k
    · have e1 := sp_isCellY Rf Cf nc hc m1 m2 b2 b4 (show k < 1000 by omega) hcell
      obtain ⟨f1, f2, f3⟩ := m5 k hk hcell
      obtain ⟨g1, g2, g3⟩ := b9 k hk hcell
      have i1 : (144 * (c : Int) + (k : Int)).toNat = 144 * c + k := by omega
      have e2 := sp_target Rf Cf nc σ kd ln k (pr k) (pc k) h1 h2 (by omega) (by omega) hk
      simp (disch := omega) only [eX7_tryFold_0, eX7_tryFold_1, eX7_tryFold_5, eX7_tryFold_6, eX7_tryFold_7, eX7_tryFold_10, eX7_tryFold_13, eX7_tryFold_14, eX7_tryFold_15, eX7_tryFold_17, eX7_tryFold_20, eX7_tryFold_23, eX7_tryFold_24, eX7_tryFold_25, eX7_tryFold_26, eX7_tryFold_28, eX7_tryFold_29, eX7_tryFold_32, eX7_tryFold_35, eX7_tryFold_36, eX7_tryFold_37, eX7_tryFold_39, eX7_tryFold_40, eX7_tryFold_41, eX7_tryFold_42, eX7_tryFold_45, eX7_tryFold_48, eX7_tryFold_49, eX7_tryFold_50, eX7_tryFold_52, eX7_tryFold_53, eX7_tryFold_54, eX7_tryFold_57, eX7_tryFold_60, eX7_tryFold_63, eX7_tryFold_64, eX7_tryFold_66, eX7_tryFold_67, eX7_tryFold_71, eX7_tryFold_72, eX7_tryFold_73, eX7_tryFold_76, eX7_tryFold_79, eX7_tryFold_80, eX7_tryFold_81, eX7_tryFold_83, eX7_tryFold_86, eX7_tryFold_89, eX7_tryFold_90, eX7_tryFold_91, eX7_tryFold_92, eX7_tryFold_93, eX7_tryFold_94, eX7_tryFold_97, eX7_tryFold_99, eX7_tryFold_100, eX7_tryFold_101, eX7_tryFold_104, eX7_tryFold_106, eX7_tryFold_107, eX7_tryFold_108, eX7_tryFold_111, eX7_tryFold_113, eX7_tryFold_114, eX7_tryFold_115, eX7_tryFold_116, eX7_tryFold_117, eX7_tryFold_118, eX7_tryFold_121, eX7_tryFold_123, eX7_tryFold_124, eX7_tryFold_125, eX7_tryFold_128, eX7_tryFold_130, eX7_tryFold_131, eX7_tryFold_132, eX7_tryFold_135, eX7_tryFold_137, eX7_tryFold_138, eX7_tryFold_141, eX7_tryFold_144, eX7_tryFold_145, eX7_tryFold_146, eX7_tryFold_148, eX7_tryFold_149, eX7_tryFold_150, eX7_tryFold_152, eX7_tryFold_153, eX7_tryFold_154, eX7_tryFold_155, eX7_tryFold_156, eX7_tryFold_159, eX7_tryFold_162, eX7_tryFold_163, eX7_tryFold_164, eX7_tryFold_166, eX7_tryFold_167, eX7_tryFold_168, eX7_tryFold_169, eX7_tryFold_172, eX7_tryFold_175, eX7_tryFold_176, eX7_tryFold_177, eX7_tryFold_179, eX7_tryFold_180, eX7_tryFold_181, eX7_tryFold_184, eX7_tryFold_187, eX7_tryFold_188, eX7_tryFold_191, eX7_tryFold_193, eX7_tryFold_195, eX7_tryFold_198, eX7_tryFold_200, eX7_tryFold_203, eX7_tryFold_204, eX7_tryFold_206, eX7_tryFold_207, eX7_tryFold_208, eX7_tryFold_209, eX7_tryFold_211, eX7_tryFold_212, eX7_tryFold_213, eX7_tryFold_216, eX7_tryFold_217, eX7_tryFold_220, eX7_tryFold_222, eX7_tryFold_224, eX7_tryFold_227, eX7_tryFold_229, eX7_tryFold_232, eX7_tryFold_234, eX7_tryFold_236, eX7_tryFold_237, eX7_tryFold_238, eX7_tryFold_240, eX7_tryFold_242, eX7_tryFold_243, eX7_tryFold_245, eX7_tryFold_248, eX7_tryFold_250, eX7_tryFold_252, eX7_tryFold_253, eX7_tryFold_256, eX7_tryFold_258, eX7_tryFold_260, eX7_tryFold_263, eX7_tryFold_266, eX7_tryFold_268, fx_bd_some, Option.toList_some, Option.toList_none, List.nil_append, List.cons_append, fx_uo, fx_ui, Int.toNat_natCast, ↓reduceIte, Int.reduceEq, Int.reduceLT, Int.reduceLE, Int.reduceNeg, sp_cellEnd Rf Cf nc _ c hc, m1, e1, i1, f1, f2, hk1, e2]
      rw [show (k : Int) + 1 = ((k + 1 : Nat) : Int) by omega]
      refine sp_try_lp1 Rf Cf nc hc hB kd ln how h1 h2 σ0 u6 u7 u8 u9 hM0 P hP d (k + 1) _ (by omega) (fun o g i ho => ?_) (fun j hj hjc => ?_)
      · unfold fx_up
        rw [if_neg (by omega), if_neg (by omega)]
        exact hF o g i ho
      · rw [fx_uo (by omega), fx_ui, fx_ui, fx_uo (by omega)]
        by_cases hjk : j = k
        · subst hjk
          rw [if_pos rfl, if_pos rfl]
          exact ⟨rfl, rfl⟩
        · rw [if_neg hjk, if_neg hjk]
          exact hN j (by omega) hjc
    · have e1 := sp_isCellN Rf Cf nc hc m1 m2 b2 b4 (show k < 1000 by omega) hcell
      simp (disch := omega) only [eX7_tryFold_0, eX7_tryFold_1, eX7_tryFold_5, eX7_tryFold_6, eX7_tryFold_7, eX7_tryFold_10, eX7_tryFold_13, eX7_tryFold_14, eX7_tryFold_15, eX7_tryFold_17, eX7_tryFold_20, eX7_tryFold_23, eX7_tryFold_24, eX7_tryFold_25, eX7_tryFold_26, eX7_tryFold_28, eX7_tryFold_29, eX7_tryFold_32, eX7_tryFold_35, eX7_tryFold_36, eX7_tryFold_37, eX7_tryFold_39, eX7_tryFold_40, eX7_tryFold_41, eX7_tryFold_42, eX7_tryFold_45, eX7_tryFold_48, eX7_tryFold_49, eX7_tryFold_50, eX7_tryFold_52, eX7_tryFold_53, eX7_tryFold_54, eX7_tryFold_57, eX7_tryFold_60, eX7_tryFold_63, eX7_tryFold_64, eX7_tryFold_66, eX7_tryFold_67, eX7_tryFold_71, eX7_tryFold_72, eX7_tryFold_73, eX7_tryFold_76, eX7_tryFold_79, eX7_tryFold_80, eX7_tryFold_81, eX7_tryFold_83, eX7_tryFold_86, eX7_tryFold_89, eX7_tryFold_90, eX7_tryFold_91, eX7_tryFold_92, eX7_tryFold_93, eX7_tryFold_94, eX7_tryFold_97, eX7_tryFold_99, eX7_tryFold_100, eX7_tryFold_101, eX7_tryFold_104, eX7_tryFold_106, eX7_tryFold_107, eX7_tryFold_108, eX7_tryFold_111, eX7_tryFold_113, eX7_tryFold_114, eX7_tryFold_115, eX7_tryFold_116, eX7_tryFold_117, eX7_tryFold_118, eX7_tryFold_121, eX7_tryFold_123, eX7_tryFold_124, eX7_tryFold_125, eX7_tryFold_128, eX7_tryFold_130, eX7_tryFold_131, eX7_tryFold_132, eX7_tryFold_135, eX7_tryFold_137, eX7_tryFold_138, eX7_tryFold_141, eX7_tryFold_144, eX7_tryFold_145, eX7_tryFold_146, eX7_tryFold_148, eX7_tryFold_149, eX7_tryFold_150, eX7_tryFold_152, eX7_tryFold_153, eX7_tryFold_154, eX7_tryFold_155, eX7_tryFold_156, eX7_tryFold_159, eX7_tryFold_162, eX7_tryFold_163, eX7_tryFold_164, eX7_tryFold_166, eX7_tryFold_167, eX7_tryFold_168, eX7_tryFold_169, eX7_tryFold_172, eX7_tryFold_175, eX7_tryFold_176, eX7_tryFold_177, eX7_tryFold_179, eX7_tryFold_180, eX7_tryFold_181, eX7_tryFold_184, eX7_tryFold_187, eX7_tryFold_188, eX7_tryFold_191, eX7_tryFold_193, eX7_tryFold_195, eX7_tryFold_198, eX7_tryFold_200, eX7_tryFold_203, eX7_tryFold_204, eX7_tryFold_206, eX7_tryFold_207, eX7_tryFold_208, eX7_tryFold_209, eX7_tryFold_211, eX7_tryFold_212, eX7_tryFold_213, eX7_tryFold_216, eX7_tryFold_217, eX7_tryFold_220, eX7_tryFold_222, eX7_tryFold_224, eX7_tryFold_227, eX7_tryFold_229, eX7_tryFold_232, eX7_tryFold_234, eX7_tryFold_236, eX7_tryFold_237, eX7_tryFold_238, eX7_tryFold_240, eX7_tryFold_242, eX7_tryFold_243, eX7_tryFold_245, eX7_tryFold_248, eX7_tryFold_250, eX7_tryFold_252, eX7_tryFold_253, eX7_tryFold_256, eX7_tryFold_258, eX7_tryFold_260, eX7_tryFold_263, eX7_tryFold_266, eX7_tryFold_268, fx_bd_some, Option.toList_some, Option.toList_none, List.nil_append, List.cons_append, fx_uo, fx_ui, Int.toNat_natCast, ↓reduceIte, Int.reduceEq, Int.reduceLT, Int.reduceLE, Int.reduceNeg, sp_cellEnd Rf Cf nc _ c hc, m1, e1, hk1]
      rw [show (k : Int) + 1 = ((k + 1 : Nat) : Int) by omega]
      refine sp_try_lp1 Rf Cf nc hc hB kd ln how h1 h2 σ0 u6 u7 u8 u9 hM0 P hP d (k + 1) _ (by omega) hF (fun j hj hjc => hN j ?_ hjc)
      by_cases q : j = k
      · subst q; exact absurd hjc hcell
      · omega
theorem sp_try_lp2 (Rf Cf : Nat → Nat) (nc : Nat) {c R C br bc : Nat} {pr pc ph : Nat → Nat} (hc : c < 7) (hB : BW R C br bc pr pc ph) (kd ln how : Nat) (h1 : kd < 3) (h2 : ln < 100) (h3 : how < 2) : ∀ (d k : Nat) (mo : Nat) (σ : fx_M) (u7 u8 u9 : Option fx_V), k + d = 12 * R → MB c R C br bc pr pc ph σ → (∀ k, k < 144 → isC R C k → σ 53 0 k = nR kd ln pr pc k ∧ σ 54 0 k = nC kd ln pr pc k) → (∀ j, j < k → isC R C j → σ 55 0 j = nH R C kd ln how pr pc ph j) → mo = thk R C kd ln pr pc k → mo ≤ 1000 →
    ∃ σ', fx_E (fx_S Rf Cf nc) 83 69 [some (.inr (some (20, 0))), some (.inl (c : Int)), some (.inl (kd : Int)), some (.inl (ln : Int)), some (.inl (how : Int)), some (.inl (mo : Int)), some (.inl (k : Int)), u7, u8, u9] [] σ = some (some (.inl (thk R C kd ln pr pc (12 * R) : Nat)), σ') ∧ (∀ o g i, ¬ (g = 0 ∧ o = 55) → σ' o g i = σ o g i) ∧ ∀ j, j < 144 → isC R C j → σ' 55 0 j = nH R C kd ln how pr pc ph j
  | 0, k, mo, σ, u7, u8, u9, h, hM, hN, hH, hq, hmo => by
    obtain rfl : k = 12 * R := by omega
    obtain ⟨⟨b1, b2⟩, ⟨b3, b4⟩, -⟩ := id hB
    rw [eX7_tryFold_69]
    simp (disch := omega) only [eX7_tryFold_0, eX7_tryFold_1, eX7_tryFold_5, eX7_tryFold_6, eX7_tryFold_7, eX7_tryFold_10, eX7_tryFold_13, eX7_tryFold_14, eX7_tryFold_15, eX7_tryFold_17, eX7_tryFold_20, eX7_tryFold_23, eX7_tryFold_24, eX7_tryFold_25, eX7_tryFold_26, eX7_tryFold_28, eX7_tryFold_29, eX7_tryFold_32, eX7_tryFold_35, eX7_tryFold_36, eX7_tryFold_37, eX7_tryFold_39, eX7_tryFold_40, eX7_tryFold_41, eX7_tryFold_42, eX7_tryFold_45, eX7_tryFold_48, eX7_tryFold_49, eX7_tryFold_50, eX7_tryFold_52, eX7_tryFold_53, eX7_tryFold_54, eX7_tryFold_57, eX7_tryFold_60, eX7_tryFold_63, eX7_tryFold_64, eX7_tryFold_66, eX7_tryFold_67, eX7_tryFold_71, eX7_tryFold_72, eX7_tryFold_73, eX7_tryFold_76, eX7_tryFold_79, eX7_tryFold_80, eX7_tryFold_81, eX7_tryFold_83, eX7_tryFold_86, eX7_tryFold_89, eX7_tryFold_90, eX7_tryFold_91, eX7_tryFold_92, eX7_tryFold_93, eX7_tryFold_94, eX7_tryFold_97, eX7_tryFold_99, eX7_tryFold_100, eX7_tryFold_101, eX7_tryFold_104, eX7_tryFold_106, eX7_tryFold_107, eX7_tryFold_108, eX7_tryFold_111, eX7_tryFold_113, eX7_tryFold_114, eX7_tryFold_115, eX7_tryFold_116, eX7_tryFold_117, eX7_tryFold_118, eX7_tryFold_121, eX7_tryFold_123, eX7_tryFold_124, eX7_tryFold_125, eX7_tryFold_128, eX7_tryFold_130, eX7_tryFold_131, eX7_tryFold_132, eX7_tryFold_135, eX7_tryFold_137, eX7_tryFold_138, eX7_tryFold_141, eX7_tryFold_144, eX7_tryFold_145, eX7_tryFold_146, eX7_tryFold_148, eX7_tryFold_149, eX7_tryFold_150, eX7_tryFold_152, eX7_tryFold_153, eX7_tryFold_154, eX7_tryFold_155, eX7_tryFold_156, eX7_tryFold_159, eX7_tryFold_162, eX7_tryFold_163, eX7_tryFold_164, eX7_tryFold_166, eX7_tryFold_167, eX7_tryFold_168, eX7_tryFold_169, eX7_tryFold_172, eX7_tryFold_175, eX7_tryFold_176, eX7_tryFold_177, eX7_tryFold_179, eX7_tryFold_180, eX7_tryFold_181, eX7_tryFold_184, eX7_tryFold_187, eX7_tryFold_188, eX7_tryFold_191, eX7_tryFold_193, eX7_tryFold_195, eX7_tryFold_198, eX7_tryFold_200, eX7_tryFold_203, eX7_tryFold_204, eX7_tryFold_206, eX7_tryFold_207, eX7_tryFold_208, eX7_tryFold_209, eX7_tryFold_211, eX7_tryFold_212, eX7_tryFold_213, eX7_tryFold_216, eX7_tryFold_217, eX7_tryFold_220, eX7_tryFold_222, eX7_tryFold_224, eX7_tryFold_227, eX7_tryFold_229, eX7_tryFold_232, eX7_tryFold_234, eX7_tryFold_236, eX7_tryFold_237, eX7_tryFold_238, eX7_tryFold_240, eX7_tryFold_242, eX7_tryFold_243, eX7_tryFold_245, eX7_tryFold_248, eX7_tryFold_250, eX7_tryFold_252, eX7_tryFold_253, eX7_tryFold_256, eX7_tryFold_258, eX7_tryFold_260, eX7_tryFold_263, eX7_tryFold_266, eX7_tryFold_268, fx_bd_some, Option.toList_some, Option.toList_none, List.nil_append, List.cons_append, fx_uo, fx_ui, Int.toNat_natCast, ↓reduceIte, Int.reduceEq, Int.reduceLT, Int.reduceLE, Int.reduceNeg, sp_cellEnd Rf Cf nc _ c hc, hM.1]
    rw [if_neg (by omega), hq]
    exact ⟨σ, rfl, fun _ _ _ _ => rfl, fun j hj hjc => hH j (isC_lt hjc) hjc⟩
  | d + 1, k, mo, σ, u7, u8, u9, h, hM, hN, hH, hq, hmo => by
    obtain ⟨⟨b1, b2⟩, ⟨b3, b4⟩, ⟨b5, b6⟩, ⟨b7, b8⟩, b9, b10, b11⟩ := id hB
    obtain ⟨m1, m2, m3, m4, m5⟩ := id hM
    have hk : k < 144 := by omega
    have hk1 : ((k : Int) < 12 * (R : Int)) = True := by simp; omega
    rw [eX7_tryFold_69]
    by_cases hcell : isC R C k
    · have e1 := sp_isCellY Rf Cf nc hc m1 m2 b2 b4 (show k < 1000 by omega) hcell
      obtain ⟨f1, f2, f3⟩ := m5 k hk hcell
      obtain ⟨g1, g2, g3⟩ := b9 k hk hcell
      have g4 := b10 (12 * pr k + pc k)
      obtain ⟨n1, n2⟩ := hN k hk hcell
      have hn : ∀ k, k < 144 → isC R C k → σ 53 0 k = nR kd ln pr pc k ∧ σ 54 0 k = nC kd ln pr pc k ∧ -1000 ≤ nR kd ln pr pc k ∧ nR kd ln pr pc k ≤ 1000 ∧ -1000 ≤ nC kd ln pr pc k ∧ nC kd ln pr pc k ≤ 1000 := fun k hk hkc => by
        have q1 := nR_bd (kd := kd) (pr := pr) (pc := pc) (k := k) h2 (by have := (b9 k hk hkc).1; omega) (by have := (b9 k hk hkc).2.1; omega)
        have q2 := nC_bd (kd := kd) (pr := pr) (pc := pc) (k := k) h2 (by have := (b9 k hk hkc).1; omega) (by have := (b9 k hk hkc).2.1; omega)
        exact ⟨(hN k hk hkc).1, (hN k hk hkc).2, q1.1, q1.2, q2.1, q2.2⟩
      have w1 := nR_bd (kd := kd) (pr := pr) (pc := pc) (k := k) h2 (by omega) (by omega)
      have w2 := nC_bd (kd := kd) (pr := pr) (pc := pc) (k := k) h2 (by omega) (by omega)
      have i1 : (144 * (c : Int) + (k : Int)).toNat = 144 * c + k := by omega
      have e2 := sp_movesN Rf Cf nc σ kd ln (pr k) (pc k) h1 h2 (by omega) (by omega)
      have e3 := sp_countNew Rf Cf nc hc hB hM kd ln h1 h2 _ _ hn _ _ w1 w2 true 1 rfl
      have e4 := sp_countNew Rf Cf nc hc hB hM kd ln h1 h2 _ _ hn _ _ w1 w2 false 0 rfl
      rw [show cntP 144 (fun j => decide (isC R C j ∧ nR kd ln pr pc j = nR kd ln pr pc k ∧ nC kd ln pr pc j = nC kd ln pr pc k) && (mvB kd ln (pr j) (pc j) == true)) = cmeB R C kd ln pr pc true k from rfl] at e3
      rw [show cntP 144 (fun j => decide (isC R C j ∧ nR kd ln pr pc j = nR kd ln pr pc k ∧ nC kd ln pr pc j = nC kd ln pr pc k) && (mvB kd ln (pr j) (pc j) == false)) = cmeB R C kd ln pr pc false k from rfl] at e4
      have c1 : cmeB R C kd ln pr pc true k ≤ 144 := cntP_le _ _
      have c2 : cmeB R C kd ln pr pc false k ≤ 144 := cntP_le _ _
      have hth : thk R C kd ln pr pc (k + 1) = max mo (cmeB R C kd ln pr pc true k + cmeB R C kd ln pr pc false k) := by
        rw [hq]
        simp only [thk, mxP]
        rw [if_pos (by simp [hcell])]
      have fin : ∀ (v : Int) (mo' : Int) (u7 u8 u9 : Option fx_V), v = nH R C kd ln how pr pc ph k → mo' = (thk R C kd ln pr pc (k + 1) : Int) → ∃ σ', fx_E (fx_S Rf Cf nc) 83 69 [some (.inr (some (20, 0))), some (.inl (c : Int)), some (.inl (kd : Int)), some (.inl (ln : Int)), some (.inl (how : Int)), some (.inl mo'), some (.inl ((k : Int) + 1)), u7, u8, u9] [] (fx_up σ 55 0 k v) = some (some (.inl (thk R C kd ln pr pc (12 * R) : Nat)), σ') ∧ (∀ o g i, ¬ (g = 0 ∧ o = 55) → σ' o g i = σ o g i) ∧ ∀ j, j < 144 → isC R C j → σ' 55 0 j = nH R C kd ln how pr pc ph j := by
        intro v mo' u7 u8 u9 hv hmo'
        rw [show (k : Int) + 1 = ((k + 1 : Nat) : Int) by omega, hmo']
        obtain ⟨σ', q1, q2, q3⟩ := sp_try_lp2 Rf Cf nc hc hB kd ln how h1 h2 h3 d (k + 1) (thk R C kd ln pr pc (k + 1)) (fx_up σ 55 0 k v) u7 u8 u9 (by omega) (hM.of (fun o i ho => fx_uo (by omega))) (fun k hk hkc => by rw [fx_uo (by omega), fx_uo (by omega)]; exact hN k hk hkc) (fun j hj hjc => by
          rw [fx_ui]
          by_cases hjk : j = k
          · rw [if_pos hjk, hv, hjk]
          · rw [if_neg hjk]; exact hH j (by omega) hjc) rfl (by rw [hth]; omega)
        exact ⟨σ', q1, fun o g i ho => by rw [q2 o g i ho]; unfold fx_up; rw [if_neg (by omega)], q3⟩
      cases hm : mvB kd ln (pr k) (pc k) with
      | true =>
        rw [hm, if_pos rfl] at e2
        simp (disch := omega) only [eX7_tryFold_0, eX7_tryFold_1, eX7_tryFold_5, eX7_tryFold_6, eX7_tryFold_7, eX7_tryFold_10, eX7_tryFold_13, eX7_tryFold_14, eX7_tryFold_15, eX7_tryFold_17, eX7_tryFold_20, eX7_tryFold_23, eX7_tryFold_24, eX7_tryFold_25, eX7_tryFold_26, eX7_tryFold_28, eX7_tryFold_29, eX7_tryFold_32, eX7_tryFold_35, eX7_tryFold_36, eX7_tryFold_37, eX7_tryFold_39, eX7_tryFold_40, eX7_tryFold_41, eX7_tryFold_42, eX7_tryFold_45, eX7_tryFold_48, eX7_tryFold_49, eX7_tryFold_50, eX7_tryFold_52, eX7_tryFold_53, eX7_tryFold_54, eX7_tryFold_57, eX7_tryFold_60, eX7_tryFold_63, eX7_tryFold_64, eX7_tryFold_66, eX7_tryFold_67, eX7_tryFold_71, eX7_tryFold_72, eX7_tryFold_73, eX7_tryFold_76, eX7_tryFold_79, eX7_tryFold_80, eX7_tryFold_81, eX7_tryFold_83, eX7_tryFold_86, eX7_tryFold_89, eX7_tryFold_90, eX7_tryFold_91, eX7_tryFold_92, eX7_tryFold_93, eX7_tryFold_94, eX7_tryFold_97, eX7_tryFold_99, eX7_tryFold_100, eX7_tryFold_101, eX7_tryFold_104, eX7_tryFold_106, eX7_tryFold_107, eX7_tryFold_108, eX7_tryFold_111, eX7_tryFold_113, eX7_tryFold_114, eX7_tryFold_115, eX7_tryFold_116, eX7_tryFold_117, eX7_tryFold_118, eX7_tryFold_121, eX7_tryFold_123, eX7_tryFold_124, eX7_tryFold_125, eX7_tryFold_128, eX7_tryFold_130, eX7_tryFold_131, eX7_tryFold_132, eX7_tryFold_135, eX7_tryFold_137, eX7_tryFold_138, eX7_tryFold_141, eX7_tryFold_144, eX7_tryFold_145, eX7_tryFold_146, eX7_tryFold_148, eX7_tryFold_149, eX7_tryFold_150, eX7_tryFold_152, eX7_tryFold_153, eX7_tryFold_154, eX7_tryFold_155, eX7_tryFold_156, eX7_tryFold_159, eX7_tryFold_162, eX7_tryFold_163, eX7_tryFold_164, eX7_tryFold_166, eX7_tryFold_167, eX7_tryFold_168, eX7_tryFold_169, eX7_tryFold_172, eX7_tryFold_175, eX7_tryFold_176, eX7_tryFold_177, eX7_tryFold_179, eX7_tryFold_180, eX7_tryFold_181, eX7_tryFold_184, eX7_tryFold_187, eX7_tryFold_188, eX7_tryFold_191, eX7_tryFold_193, eX7_tryFold_195, eX7_tryFold_198, eX7_tryFold_200, eX7_tryFold_203, eX7_tryFold_204, eX7_tryFold_206, eX7_tryFold_207, eX7_tryFold_208, eX7_tryFold_209, eX7_tryFold_211, eX7_tryFold_212, eX7_tryFold_213, eX7_tryFold_216, eX7_tryFold_217, eX7_tryFold_220, eX7_tryFold_222, eX7_tryFold_224, eX7_tryFold_227, eX7_tryFold_229, eX7_tryFold_232, eX7_tryFold_234, eX7_tryFold_236, eX7_tryFold_237, eX7_tryFold_238, eX7_tryFold_240, eX7_tryFold_242, eX7_tryFold_243, eX7_tryFold_245, eX7_tryFold_248, eX7_tryFold_250, eX7_tryFold_252, eX7_tryFold_253, eX7_tryFold_256, eX7_tryFold_258, eX7_tryFold_260, eX7_tryFold_263, eX7_tryFold_266, eX7_tryFold_268, fx_bd_some, Option.toList_some, Option.toList_none, List.nil_append, List.cons_append, fx_uo, fx_ui, Int.toNat_natCast, ↓reduceIte, Int.reduceEq, Int.reduceLT, Int.reduceLE, Int.reduceNeg, sp_cellEnd Rf Cf nc _ c hc, m1, e1, i1, f1, f2, f3, hk1, e2, n1, n2, e3, e4]
        (repeat' split)
        all_goals refine fin _ _ _ _ _ ?_ ?_
        all_goals first
          | (rw [hth]; omega)
          | (unfold nH; rw [hm]; simp; omega)
          | (unfold nH; rw [hm]; simp only [show how = 0 by omega, if_true]; simp; done)
          | (unfold nH; rw [hm]; simp only [show ¬ how = 0 by omega, if_true, if_false]; simp; done)
      | false =>
        rw [hm, if_neg (by simp)] at e2
        simp (disch := omega) only [eX7_tryFold_0, eX7_tryFold_1, eX7_tryFold_5, eX7_tryFold_6, eX7_tryFold_7, eX7_tryFold_10, eX7_tryFold_13, eX7_tryFold_14, eX7_tryFold_15, eX7_tryFold_17, eX7_tryFold_20, eX7_tryFold_23, eX7_tryFold_24, eX7_tryFold_25, eX7_tryFold_26, eX7_tryFold_28, eX7_tryFold_29, eX7_tryFold_32, eX7_tryFold_35, eX7_tryFold_36, eX7_tryFold_37, eX7_tryFold_39, eX7_tryFold_40, eX7_tryFold_41, eX7_tryFold_42, eX7_tryFold_45, eX7_tryFold_48, eX7_tryFold_49, eX7_tryFold_50, eX7_tryFold_52, eX7_tryFold_53, eX7_tryFold_54, eX7_tryFold_57, eX7_tryFold_60, eX7_tryFold_63, eX7_tryFold_64, eX7_tryFold_66, eX7_tryFold_67, eX7_tryFold_71, eX7_tryFold_72, eX7_tryFold_73, eX7_tryFold_76, eX7_tryFold_79, eX7_tryFold_80, eX7_tryFold_81, eX7_tryFold_83, eX7_tryFold_86, eX7_tryFold_89, eX7_tryFold_90, eX7_tryFold_91, eX7_tryFold_92, eX7_tryFold_93, eX7_tryFold_94, eX7_tryFold_97, eX7_tryFold_99, eX7_tryFold_100, eX7_tryFold_101, eX7_tryFold_104, eX7_tryFold_106, eX7_tryFold_107, eX7_tryFold_108, eX7_tryFold_111, eX7_tryFold_113, eX7_tryFold_114, eX7_tryFold_115, eX7_tryFold_116, eX7_tryFold_117, eX7_tryFold_118, eX7_tryFold_121, eX7_tryFold_123, eX7_tryFold_124, eX7_tryFold_125, eX7_tryFold_128, eX7_tryFold_130, eX7_tryFold_131, eX7_tryFold_132, eX7_tryFold_135, eX7_tryFold_137, eX7_tryFold_138, eX7_tryFold_141, eX7_tryFold_144, eX7_tryFold_145, eX7_tryFold_146, eX7_tryFold_148, eX7_tryFold_149, eX7_tryFold_150, eX7_tryFold_152, eX7_tryFold_153, eX7_tryFold_154, eX7_tryFold_155, eX7_tryFold_156, eX7_tryFold_159, eX7_tryFold_162, eX7_tryFold_163, eX7_tryFold_164, eX7_tryFold_166, eX7_tryFold_167, eX7_tryFold_168, eX7_tryFold_169, eX7_tryFold_172, eX7_tryFold_175, eX7_tryFold_176, eX7_tryFold_177, eX7_tryFold_179, eX7_tryFold_180, eX7_tryFold_181, eX7_tryFold_184, eX7_tryFold_187, eX7_tryFold_188, eX7_tryFold_191, eX7_tryFold_193, eX7_tryFold_195, eX7_tryFold_198, eX7_tryFold_200, eX7_tryFold_203, eX7_tryFold_204, eX7_tryFold_206, eX7_tryFold_207, eX7_tryFold_208, eX7_tryFold_209, eX7_tryFold_211, eX7_tryFold_212, eX7_tryFold_213, eX7_tryFold_216, eX7_tryFold_217, eX7_tryFold_220, eX7_tryFold_222, eX7_tryFold_224, eX7_tryFold_227, eX7_tryFold_229, eX7_tryFold_232, eX7_tryFold_234, eX7_tryFold_236, eX7_tryFold_237, eX7_tryFold_238, eX7_tryFold_240, eX7_tryFold_242, eX7_tryFold_243, eX7_tryFold_245, eX7_tryFold_248, eX7_tryFold_250, eX7_tryFold_252, eX7_tryFold_253, eX7_tryFold_256, eX7_tryFold_258, eX7_tryFold_260, eX7_tryFold_263, eX7_tryFold_266, eX7_tryFold_268, fx_bd_some, Option.toList_some, Option.toList_none, List.nil_append, List.cons_append, fx_uo, fx_ui, Int.toNat_natCast, ↓reduceIte, Int.reduceEq, Int.reduceLT, Int.reduceLE, Int.reduceNeg, sp_cellEnd Rf Cf nc _ c hc, m1, e1, i1, f1, f2, f3, hk1, e2, n1, n2, e3, e4]
        (repeat' split)
        all_goals refine fin _ _ _ _ _ ?_ ?_
        all_goals first
          | (rw [hth]; omega)
          | (unfold nH; rw [hm]; simp; omega)
          | (unfold nH; rw [hm]; simp only [show how = 0 by omega, if_true]; simp; done)
          | (unfold nH; rw [hm]; simp only [show ¬ how = 0 by omega, if_true, if_false]; simp; done)
    · have e1 := sp_isCellN Rf Cf nc hc m1 m2 b2 b4 (show k < 1000 by omega) hcell
      simp (disch := omega) only [eX7_tryFold_0, eX7_tryFold_1, eX7_tryFold_5, eX7_tryFold_6, eX7_tryFold_7, eX7_tryFold_10, eX7_tryFold_13, eX7_tryFold_14, eX7_tryFold_15, eX7_tryFold_17, eX7_tryFold_20, eX7_tryFold_23, eX7_tryFold_24, eX7_tryFold_25, eX7_tryFold_26, eX7_tryFold_28, eX7_tryFold_29, eX7_tryFold_32, eX7_tryFold_35, eX7_tryFold_36, eX7_tryFold_37, eX7_tryFold_39, eX7_tryFold_40, eX7_tryFold_41, eX7_tryFold_42, eX7_tryFold_45, eX7_tryFold_48, eX7_tryFold_49, eX7_tryFold_50, eX7_tryFold_52, eX7_tryFold_53, eX7_tryFold_54, eX7_tryFold_57, eX7_tryFold_60, eX7_tryFold_63, eX7_tryFold_64, eX7_tryFold_66, eX7_tryFold_67, eX7_tryFold_71, eX7_tryFold_72, eX7_tryFold_73, eX7_tryFold_76, eX7_tryFold_79, eX7_tryFold_80, eX7_tryFold_81, eX7_tryFold_83, eX7_tryFold_86, eX7_tryFold_89, eX7_tryFold_90, eX7_tryFold_91, eX7_tryFold_92, eX7_tryFold_93, eX7_tryFold_94, eX7_tryFold_97, eX7_tryFold_99, eX7_tryFold_100, eX7_tryFold_101, eX7_tryFold_104, eX7_tryFold_106, eX7_tryFold_107, eX7_tryFold_108, eX7_tryFold_111, eX7_tryFold_113, eX7_tryFold_114, eX7_tryFold_115, eX7_tryFold_116, eX7_tryFold_117, eX7_tryFold_118, eX7_tryFold_121, eX7_tryFold_123, eX7_tryFold_124, eX7_tryFold_125, eX7_tryFold_128, eX7_tryFold_130, eX7_tryFold_131, eX7_tryFold_132, eX7_tryFold_135, eX7_tryFold_137, eX7_tryFold_138, eX7_tryFold_141, eX7_tryFold_144, eX7_tryFold_145, eX7_tryFold_146, eX7_tryFold_148, eX7_tryFold_149, eX7_tryFold_150, eX7_tryFold_152, eX7_tryFold_153, eX7_tryFold_154, eX7_tryFold_155, eX7_tryFold_156, eX7_tryFold_159, eX7_tryFold_162, eX7_tryFold_163, eX7_tryFold_164, eX7_tryFold_166, eX7_tryFold_167, eX7_tryFold_168, eX7_tryFold_169, eX7_tryFold_172, eX7_tryFold_175, eX7_tryFold_176, eX7_tryFold_177, eX7_tryFold_179, eX7_tryFold_180, eX7_tryFold_181, eX7_tryFold_184, eX7_tryFold_187, eX7_tryFold_188, eX7_tryFold_191, eX7_tryFold_193, eX7_tryFold_195, eX7_tryFold_198, eX7_tryFold_200, eX7_tryFold_203, eX7_tryFold_204, eX7_tryFold_206, eX7_tryFold_207, eX7_tryFold_208, eX7_tryFold_209, eX7_tryFold_211, eX7_tryFold_212, eX7_tryFold_213, eX7_tryFold_216, eX7_tryFold_217, eX7_tryFold_220, eX7_tryFold_222, eX7_tryFold_224, eX7_tryFold_227, eX7_tryFold_229, eX7_tryFold_232, eX7_tryFold_234, eX7_tryFold_236, eX7_tryFold_237, eX7_tryFold_238, eX7_tryFold_240, eX7_tryFold_242, eX7_tryFold_243, eX7_tryFold_245, eX7_tryFold_248, eX7_tryFold_250, eX7_tryFold_252, eX7_tryFold_253, eX7_tryFold_256, eX7_tryFold_258, eX7_tryFold_260, eX7_tryFold_263, eX7_tryFold_266, eX7_tryFold_268, fx_bd_some, Option.toList_some, Option.toList_none, List.nil_append, List.cons_append, fx_uo, fx_ui, Int.toNat_natCast, ↓reduceIte, Int.reduceEq, Int.reduceLT, Int.reduceLE, Int.reduceNeg, sp_cellEnd Rf Cf nc _ c hc, m1, e1, hk1]
      rw [show (k : Int) + 1 = ((k + 1 : Nat) : Int) by omega]
      refine sp_try_lp2 Rf Cf nc hc hB kd ln how h1 h2 h3 d (k + 1) mo σ _ _ _ (by omega) hM hN (fun j hj hjc => hH j ?_ hjc) ?_ hmo
      · by_cases q : j = k
        · subst q; exact absurd hjc hcell
        · omega
      · rw [hq]
        simp only [thk, mxP]
        rw [if_neg (by simp [hcell])]
