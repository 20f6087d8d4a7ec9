/-! the class's bundles: a whole fold -/
theorem nH_nn {R C br bc : Nat} {pr pc ph : Nat → Nat} {kd ln how : Nat} (hB : BW R C br bc pr pc ph) (hl : fLn br bc kd ln) {k : Nat} (hk : k < 144) (hkc : isC R C k) : 0 ≤ nH R C kd ln how pr pc ph k := by
  have g := (hB.2.2.2.2.1 k hk hkc).2.2
  unfold nH
  cases hm : mvB kd ln (pr k) (pc k) with
  | true =>
    have := cme_tt hB hl hk hkc hm
    rw [if_pos rfl]
    split <;> omega
  | false =>
    rw [if_neg (by simp)]
    split <;> omega
theorem fLn_lt {br bc kd ln : Nat} (h : fLn br bc kd ln) (h1 : br ≤ 12) (h2 : bc ≤ 12) : kd < 3 ∧ ln < 100 := by
  unfold fLn at h
  omega
theorem siz_cells {R C : Nat} (hR : R ≤ 12) (hC : 1 ≤ C) (hC2 : C ≤ 12) (pr pc : Nat → Nat) (p : Nat) : cntP (R * C) (fun i => decide (12 * pr (ki C i) + pc (ki C i) = p)) = siz R C pr pc p := by
  rw [cnt_cells hR hC hC2 (fun k => decide (12 * pr k + pc k = p))]
  unfold siz
  apply cntP_congr
  intro k hk
  simp
theorem sp_crease (Rf Cf : Nat → Nat) (nc : Nat) {g R C br bc : Nat} {pr pc ph : Nat → Nat} {σ : fx_M} (hB : BW R C br bc pr pc ph) (hC : CB Rf Cf g R C br bc pr pc ph σ) (kd ln how : Nat) (hl : fLn br bc kd ln) (hh : how < 2) :
    ∃ σ', fx_Ca (fx_S Rf Cf nc) 10 [.inr (some (15, g)), .inl (kd : Int), .inl (ln : Int), .inl (how : Int)] σ = some (none, σ') ∧ (∀ o h x, ¬ (h = g ∧ 15 ≤ o ∧ o ≤ 19) → σ' o h x = σ o h x) ∧ CB Rf Cf g R C (fBr R C kd ln pr pc) (fBc R C kd ln pr pc) (fPr R C kd ln pr pc) (fPc R C kd ln pr pc) (fPh R C kd ln how pr pc ph) σ' := by
  obtain ⟨⟨b1, b2⟩, ⟨b3, b4⟩, ⟨b5, b6⟩, ⟨b7, b8⟩, b9, b10, b11⟩ := id hB
  obtain ⟨⟨a1, a2, a3⟩, c1, c2, c3, c4, c5⟩ := id hC
  obtain ⟨h1, h2, h3, h4, h5⟩ := f_bds hB hl
  obtain ⟨hkd, hln⟩ := fLn_lt hl (by omega) (by omega)
  have hN : R * C ≤ 144 := Nat.mul_le_mul b2 b4
  obtain ⟨σ1, v5, v6, v7, v8, q1, q2, q3⟩ := sp_crease_lp1 Rf Cf nc hB σ hC kd ln how hkd hln hh (R * C) 0 σ none none none none (by omega) (fun _ _ _ _ => rfl) (fun j hj => by omega)
  have d4 : σ1 15 g 4 = ((R * C : Nat) : Int) := by rw [q2 _ _ _ (by omega)]; exact c1
  obtain ⟨σ2, r1, r2, r3, r4, r5⟩ := sp_trim Rf Cf nc (g := g) (N := R * C) (σ := σ1) (fun i => nR kd ln pr pc (ki C i)) (fun i => nC kd ln pr pc (ki C i)) a3 hN d4 (fun j hj => by
    obtain ⟨e1, e2, -⟩ := q3 j hj
    have w := b9 (ki C j) (ki_lt b2 b3 b4 hj) (ki_C b3 b4 hj)
    have w1 := nR_bd (kd := kd) (pr := pr) (pc := pc) (k := ki C j) hln (by omega) (by omega)
    have w2 := nC_bd (kd := kd) (pr := pr) (pc := pc) (k := ki C j) hln (by omega) (by omega)
    exact ⟨e1, e2, w1.1, w1.2, w2.1, w2.2⟩)
  rw [mnI_cells b2 b3 b4, mxI_cells b2 b3 b4] at r4 r5
  rw [mnI_cells b2 b3 b4, mnI_cells b2 b3 b4] at r3
  have r6 : ∀ j, j < R * C → σ2 16 g j = fPr R C kd ln pr pc (ki C j) ∧ σ2 17 g j = fPc R C kd ln pr pc (ki C j) := fun j hj => by
    obtain ⟨e1, e2⟩ := r3 j hj
    have w := h1 (ki C j) (ki_lt b2 b3 b4 hj) (ki_C b3 b4 hj)
    unfold fPr fPc
    unfold mR mC at *
    rw [e1, e2]
    constructor <;> omega
  have d5 : σ2 15 g 4 = ((R * C : Nat) : Int) := by rw [r2 _ _ _ (by omega) (by omega)]; exact d4
  obtain ⟨σ3, s1, s2, s3⟩ := sp_countSizes Rf Cf nc (g := g) (N := R * C) (σ := σ2) (fun i => fPr R C kd ln pr pc (ki C i)) (fun i => fPc R C kd ln pr pc (ki C i)) a2 a3 hN d5 (fun j hj => by
    obtain ⟨e1, e2⟩ := r6 j hj
    have w := h1 (ki C j) (ki_lt b2 b3 b4 hj) (ki_C b3 b4 hj)
    refine ⟨e1, e2, ?_⟩
    show 12 * fPr R C kd ln pr pc (ki C j) + fPc R C kd ln pr pc (ki C j) < _
    unfold fPr fPc
    omega)
  refine ⟨σ3, ?_, fun o h x ho => ?_, ⟨a1, a2, a3⟩, ?_, ?_, ?_, fun i hi => ?_, fun p hp => ?_⟩
  · rw [entX0_crease]
    simp only [eX0_crease_0, eX0_crease_1, eX0_crease_5, eX0_crease_6, eX0_crease_9, eX0_crease_12, eX0_crease_13, eX0_crease_16, eX0_crease_18, eX0_crease_19, eX0_crease_21, eX0_crease_22, eX0_crease_25, eX0_crease_27, eX0_crease_28, eX0_crease_30, eX0_crease_31, eX0_crease_32, eX0_crease_33, eX0_crease_35, eX0_crease_37, eX0_crease_40, eX0_crease_42, eX0_crease_43, eX0_crease_44, eX0_crease_46, eX0_crease_48, eX0_crease_51, eX0_crease_54, eX0_crease_55, eX0_crease_57, eX0_crease_59, eX0_crease_62, eX0_crease_63, eX0_crease_64, eX0_crease_65, eX0_crease_68, eX0_crease_70, eX0_crease_71, eX0_crease_72, eX0_crease_74, eX0_crease_75, eX0_crease_78, eX0_crease_80, eX0_crease_81, eX0_crease_84, eX0_crease_86, eX0_crease_88, eX0_crease_89, eX0_crease_92, eX0_crease_94, eX0_crease_95, eX0_crease_96, eX0_crease_99, eX0_crease_101, eX0_crease_102, eX0_crease_103, eX0_crease_105, eX0_crease_107, eX0_crease_110, eX0_crease_111, eX0_crease_112, eX0_crease_115, eX0_crease_117, eX0_crease_118, eX0_crease_119, eX0_crease_121, eX0_crease_123, eX0_crease_126, eX0_crease_127, eX0_crease_130, eX0_crease_131, eX0_crease_132, eX0_crease_135, eX0_crease_136, eX0_crease_139, eX0_crease_141, eX0_crease_142, eX0_crease_143, eX0_crease_145, eX0_crease_146, eX0_crease_147, eX0_crease_150, eX0_crease_154, eX0_crease_157, eX0_crease_158, eX0_crease_161]
    refine q1.trans ?_
    simp only [eX0_crease_0, eX0_crease_1, eX0_crease_5, eX0_crease_6, eX0_crease_9, eX0_crease_12, eX0_crease_13, eX0_crease_16, eX0_crease_18, eX0_crease_19, eX0_crease_21, eX0_crease_22, eX0_crease_25, eX0_crease_27, eX0_crease_28, eX0_crease_30, eX0_crease_31, eX0_crease_32, eX0_crease_33, eX0_crease_35, eX0_crease_37, eX0_crease_40, eX0_crease_42, eX0_crease_43, eX0_crease_44, eX0_crease_46, eX0_crease_48, eX0_crease_51, eX0_crease_54, eX0_crease_55, eX0_crease_57, eX0_crease_59, eX0_crease_62, eX0_crease_63, eX0_crease_64, eX0_crease_65, eX0_crease_68, eX0_crease_70, eX0_crease_71, eX0_crease_72, eX0_crease_74, eX0_crease_75, eX0_crease_78, eX0_crease_80, eX0_crease_81, eX0_crease_84, eX0_crease_86, eX0_crease_88, eX0_crease_89, eX0_crease_92, eX0_crease_94, eX0_crease_95, eX0_crease_96, eX0_crease_99, eX0_crease_101, eX0_crease_102, eX0_crease_103, eX0_crease_105, eX0_crease_107, eX0_crease_110, eX0_crease_111, eX0_crease_112, eX0_crease_115, eX0_crease_117, eX0_crease_118, eX0_crease_119, eX0_crease_121, eX0_crease_123, eX0_crease_126, eX0_crease_127, eX0_crease_130, eX0_crease_131, eX0_crease_132, eX0_crease_135, eX0_crease_136, eX0_crease_139, eX0_crease_141, eX0_crease_142, eX0_crease_143, eX0_crease_145, eX0_crease_146, eX0_crease_147, eX0_crease_150, eX0_crease_153, eX0_crease_154, eX0_crease_157, eX0_crease_158, eX0_crease_161, fx_bd_some, Option.toList_some, Option.toList_none, List.nil_append, List.cons_append, fx_uo, fx_ui, Int.toNat_natCast, ↓reduceIte, Int.reduceEq, Int.reduceLT, Int.reduceLE, Int.reduceNeg, r1, s1]
  · rw [s2 o h x (by omega), r2 o h x (by omega) (by omega), q2 o h x (by omega)]
  · rw [s2 _ _ _ (by omega)]; exact d5
  · rw [s2 _ _ _ (by omega), r4]
    show xR R C kd ln pr pc - mR R C kd ln pr pc + 1 = _
    unfold fBr
    omega
  · rw [s2 _ _ _ (by omega), r5]
    show xC R C kd ln pr pc - mC R C kd ln pr pc + 1 = _
    unfold fBc
    omega
  · rw [s2 _ _ _ (by omega), s2 _ _ _ (by omega), s2 _ _ _ (by omega)]
    refine ⟨(r6 i hi).1, (r6 i hi).2, ?_⟩
    rw [r2 _ _ _ (by omega) (by omega), (q3 i hi).2.2, cHt_nH hB hl hh (ki_lt b2 b3 b4 hi) (ki_C b3 b4 hi)]
    have := nH_nn (how := how) hB hl (ki_lt b2 b3 b4 hi) (ki_C b3 b4 hi)
    unfold fPh
    omega
  · rw [s3 p hp, siz_cells b2 b3 b4]
/-! how thick a fold would be -/
theorem v_le_thk {R C br bc : Nat} {pr pc ph : Nat → Nat} {kd ln : Nat} (hB : BW R C br bc pr pc ph) (hl : fLn br bc kd ln) (r n : Nat) (hr : r < br) (hn : n < bc) : szA R C br bc pr pc r n + mts R C br bc pr pc kd ln r n ≤ thk R C kd ln pr pc (12 * R) := by
  obtain ⟨⟨b1, b2⟩, ⟨b3, b4⟩, ⟨b5, b6⟩, ⟨b7, b8⟩, b9, b10, b11⟩ := id hB
  have cell : ∀ k, k < 144 → isC R C k → szA R C br bc pr pc (pr k) (pc k) + mts R C br bc pr pc kd ln (pr k) (pc k) ≤ thk R C kd ln pr pc (12 * R) := fun k hk hkc => by
    rw [szA_at hB hk hkc, ← cme_sum hB hl hk hkc]
    exact mxP_ge (P := fun k => decide (isC R C k)) (f := fun k => cmeB R C kd ln pr pc true k + cmeB R C kd ln pr pc false k) (isC_lt hkc) (by simpa using hkc)
  have ex : ∀ r n : Int, 0 < szA R C br bc pr pc r n → ∃ k, k < 144 ∧ isC R C k ∧ (pr k : Int) = r ∧ (pc k : Int) = n := fun r n h => by
    rw [szA_cnt hB] at h
    obtain ⟨k, k1, k2⟩ := cntP_ex h
    rw [decide_eq_true_eq] at k2
    exact ⟨k, k1, k2.1, k2.2.1, k2.2.2⟩
  by_cases h0 : 0 < szA R C br bc pr pc r n
  · obtain ⟨k, k1, k2, k3, k4⟩ := ex _ _ h0
    have := cell k k1 k2
    rw [k3, k4] at this
    exact this
  · by_cases h1 : 0 < mts R C br bc pr pc kd ln r n
    · have h1' := h1
      unfold mts at h1
      split at h1
      · omega
      · rename_i hq
        obtain ⟨k, k1, k2, k3, k4⟩ := ex _ _ h1
        have q := cell k k1 k2
        have e : szA R C br bc pr pc (pr k) (pc k) = mts R C br bc pr pc kd ln r n := by
          unfold mts
          rw [if_neg hq, k3, k4]
        omega
    · omega
theorem thk_le {R C br bc : Nat} {pr pc ph : Nat → Nat} {kd ln : Nat} (hB : BW R C br bc pr pc ph) (hl : fLn br bc kd ln) (m : Nat) (h : ∀ r n : Nat, r < br → n < bc → szA R C br bc pr pc r n + mts R C br bc pr pc kd ln r n ≤ m) : thk R C kd ln pr pc (12 * R) ≤ m := by
  apply mxP_le
  intro k hk hkc
  rw [decide_eq_true_eq] at hkc
  have hk2 : k < 144 := by have := hB.1.2; omega
  obtain ⟨g1, g2, -⟩ := hB.2.2.2.2.1 k hk2 hkc
  show cmeB R C kd ln pr pc true k + cmeB R C kd ln pr pc false k ≤ m
  rw [cme_sum hB hl hk2 hkc, ← szA_at hB hk2 hkc]
  exact h _ _ g1 g2
theorem cmax3 (a b c : Nat) : max (a : Int) ((b : Int) + c) = ((max a (b + c) : Nat) : Int) := by omega
theorem sp_ta_in (Rf Cf : Nat → Nat) (nc : Nat) {g R C br bc : Nat} {pr pc ph : Nat → Nat} {σ : fx_M} (hB : BW R C br bc pr pc ph) (hC : CS Rf g R C br bc pr pc σ) (kd ln : Nat) (hkd : kd < 3) (hln : ln < 100) (r : Nat) (hr : r < br) :
    ∀ (d n m : Nat), n + d = bc → m ≤ 300 → ∃ m', fx_E (fx_S Rf Cf nc) 9 17 [some (.inr (some (15, g))), some (.inl (kd : Int)), some (.inl (ln : Int)), some (.inl (m : Int)), some (.inl (r : Int)), some (.inl (n : Int))] [] σ = fx_E (fx_S Rf Cf nc) 9 5 [some (.inr (some (15, g))), some (.inl (kd : Int)), some (.inl (ln : Int)), some (.inl ((m' : Nat) : Int)), some (.inl ((r + 1 : Nat) : Int)), some (.inl (bc : Int))] [] σ ∧ m ≤ m' ∧ m' ≤ 300 ∧ (∀ n', n ≤ n' → n' < bc → szA R C br bc pr pc r n' + mts R C br bc pr pc kd ln r n' ≤ m') ∧ (m' = m ∨ ∃ n', n' < bc ∧ m' = szA R C br bc pr pc r n' + mts R C br bc pr pc kd ln r n') := by
  obtain ⟨⟨b1, b2⟩, ⟨b3, b4⟩, ⟨b5, b6⟩, ⟨b7, b8⟩, b9, b10, b11⟩ := id hB
  obtain ⟨⟨a1, a2⟩, c2, c3, c5⟩ := id hC
  intro d
  induction d with
  | zero =>
    intro n m h hm
    obtain rfl : n = bc := by omega
    rw [eX0_thicknessAfter_17]
    simp (disch := omega) only [eX0_thicknessAfter_0, eX0_thicknessAfter_1, eX0_thicknessAfter_2, eX0_thicknessAfter_3, eX0_thicknessAfter_7, eX0_thicknessAfter_8, eX0_thicknessAfter_11, eX0_thicknessAfter_14, eX0_thicknessAfter_15, eX0_thicknessAfter_19, eX0_thicknessAfter_20, eX0_thicknessAfter_23, eX0_thicknessAfter_26, eX0_thicknessAfter_27, eX0_thicknessAfter_28, eX0_thicknessAfter_30, eX0_thicknessAfter_32, eX0_thicknessAfter_35, eX0_thicknessAfter_36, eX0_thicknessAfter_37, eX0_thicknessAfter_38, eX0_thicknessAfter_40, eX0_thicknessAfter_42, eX0_thicknessAfter_45, eX0_thicknessAfter_46, eX0_thicknessAfter_49, eX0_thicknessAfter_50, eX0_thicknessAfter_53, eX0_thicknessAfter_56, eX0_thicknessAfter_59, eX0_thicknessAfter_62, eX0_thicknessAfter_63, fx_bd_some, Option.toList_some, Option.toList_none, List.nil_append, List.cons_append, fx_uo, fx_ui, Int.toNat_natCast, ↓reduceIte, Int.reduceEq, Int.reduceLT, Int.reduceLE, Int.reduceNeg, c3]
    rw [if_neg (by omega), show (r : Int) + 1 = ((r + 1 : Nat) : Int) by omega]
    exact ⟨m, rfl, by omega, by omega, fun n' h1 h2 => by omega, Or.inl rfl⟩
  | succ d ih =>
    intro n m h hm
    have e1 := sp_sizeAt Rf Cf nc hB hC r n (by omega) (by omega)
    have e2 := sp_matesOf Rf Cf nc hB hC kd ln r n hkd hln (by omega) (by omega)
    have l1 := szA_le R C br bc pr pc r n
    have l2 := mts_le R C br bc pr pc kd ln r n
    rw [eX0_thicknessAfter_17]
    simp (disch := omega) only [eX0_thicknessAfter_0, eX0_thicknessAfter_1, eX0_thicknessAfter_2, eX0_thicknessAfter_3, eX0_thicknessAfter_7, eX0_thicknessAfter_8, eX0_thicknessAfter_11, eX0_thicknessAfter_14, eX0_thicknessAfter_15, eX0_thicknessAfter_19, eX0_thicknessAfter_20, eX0_thicknessAfter_23, eX0_thicknessAfter_26, eX0_thicknessAfter_27, eX0_thicknessAfter_28, eX0_thicknessAfter_30, eX0_thicknessAfter_32, eX0_thicknessAfter_35, eX0_thicknessAfter_36, eX0_thicknessAfter_37, eX0_thicknessAfter_38, eX0_thicknessAfter_40, eX0_thicknessAfter_42, eX0_thicknessAfter_45, eX0_thicknessAfter_46, eX0_thicknessAfter_49, eX0_thicknessAfter_50, eX0_thicknessAfter_53, eX0_thicknessAfter_56, eX0_thicknessAfter_59, eX0_thicknessAfter_62, eX0_thicknessAfter_63, fx_bd_some, Option.toList_some, Option.toList_none, List.nil_append, List.cons_append, fx_uo, fx_ui, Int.toNat_natCast, ↓reduceIte, Int.reduceEq, Int.reduceLT, Int.reduceLE, Int.reduceNeg, c3, e1, e2]
    rw [if_pos (by omega), show (n : Int) + 1 = ((n + 1 : Nat) : Int) by omega]
    obtain ⟨m', q1, q2, q3, q4, q5⟩ := ih (n + 1) (max m (szA R C br bc pr pc r n + mts R C br bc pr pc kd ln r n)) (by omega) (by omega)
    refine ⟨m', ?_, by omega, q3, fun n' h1 h2 => ?_, ?_⟩
    · rw [← q1]
      rw [cmax3]
    · by_cases hq : n' = n
      · subst hq; omega
      · exact q4 n' (by omega) h2
    · rcases q5 with q5 | q5
      · by_cases hq : m ≤ szA R C br bc pr pc r n + mts R C br bc pr pc kd ln r n
        · exact Or.inr ⟨n, by omega, by omega⟩
        · exact Or.inl (by omega)
      · exact Or.inr q5
theorem sp_ta_lp (Rf Cf : Nat → Nat) (nc : Nat) {g R C br bc : Nat} {pr pc ph : Nat → Nat} {σ : fx_M} (hB : BW R C br bc pr pc ph) (hC : CS Rf g R C br bc pr pc σ) (kd ln : Nat) (hkd : kd < 3) (hln : ln < 100) :
    ∀ (d r m : Nat) (u : Option fx_V), r + d = br → m ≤ 300 → ∃ m', fx_E (fx_S Rf Cf nc) 9 5 [some (.inr (some (15, g))), some (.inl (kd : Int)), some (.inl (ln : Int)), some (.inl (m : Int)), some (.inl (r : Int)), u] [] σ = some (some (.inl ((m' : Nat) : Int)), σ) ∧ m ≤ m' ∧ (∀ r' n' : Nat, r ≤ r' → r' < br → n' < bc → szA R C br bc pr pc r' n' + mts R C br bc pr pc kd ln r' n' ≤ m') ∧ (m' = m ∨ ∃ r' n' : Nat, r' < br ∧ n' < bc ∧ m' = szA R C br bc pr pc r' n' + mts R C br bc pr pc kd ln r' n') := by
  obtain ⟨⟨b1, b2⟩, ⟨b3, b4⟩, ⟨b5, b6⟩, ⟨b7, b8⟩, b9, b10, b11⟩ := id hB
  obtain ⟨⟨a1, a2⟩, c2, c3, c5⟩ := id hC
  intro d
  induction d with
  | zero =>
    intro r m u h hm
    obtain rfl : r = br := by omega
    rw [eX0_thicknessAfter_5]
    simp (disch := omega) only [eX0_thicknessAfter_0, eX0_thicknessAfter_1, eX0_thicknessAfter_2, eX0_thicknessAfter_3, eX0_thicknessAfter_7, eX0_thicknessAfter_8, eX0_thicknessAfter_11, eX0_thicknessAfter_14, eX0_thicknessAfter_15, eX0_thicknessAfter_19, eX0_thicknessAfter_20, eX0_thicknessAfter_23, eX0_thicknessAfter_26, eX0_thicknessAfter_27, eX0_thicknessAfter_28, eX0_thicknessAfter_30, eX0_thicknessAfter_32, eX0_thicknessAfter_35, eX0_thicknessAfter_36, eX0_thicknessAfter_37, eX0_thicknessAfter_38, eX0_thicknessAfter_40, eX0_thicknessAfter_42, eX0_thicknessAfter_45, eX0_thicknessAfter_46, eX0_thicknessAfter_49, eX0_thicknessAfter_50, eX0_thicknessAfter_53, eX0_thicknessAfter_56, eX0_thicknessAfter_59, eX0_thicknessAfter_62, eX0_thicknessAfter_63, fx_bd_some, Option.toList_some, Option.toList_none, List.nil_append, List.cons_append, fx_uo, fx_ui, Int.toNat_natCast, ↓reduceIte, Int.reduceEq, Int.reduceLT, Int.reduceLE, Int.reduceNeg, c2]
    rw [if_neg (by omega)]
    exact ⟨m, rfl, by omega, fun r' n' h1 h2 => by omega, Or.inl rfl⟩
  | succ d ih =>
    intro r m u h hm
    obtain ⟨m1, q1, q2, q3, q4, q5⟩ := sp_ta_in Rf Cf nc hB hC kd ln hkd hln r (by omega) bc 0 m (by omega) hm
    obtain ⟨m2, p1, p2, p4, p5⟩ := ih (r + 1) m1 (some (.inl (bc : Int))) (by omega) q3
    rw [eX0_thicknessAfter_5]
    simp (disch := omega) only [eX0_thicknessAfter_0, eX0_thicknessAfter_1, eX0_thicknessAfter_2, eX0_thicknessAfter_3, eX0_thicknessAfter_7, eX0_thicknessAfter_8, eX0_thicknessAfter_11, eX0_thicknessAfter_14, eX0_thicknessAfter_15, eX0_thicknessAfter_19, eX0_thicknessAfter_20, eX0_thicknessAfter_23, eX0_thicknessAfter_26, eX0_thicknessAfter_27, eX0_thicknessAfter_28, eX0_thicknessAfter_30, eX0_thicknessAfter_32, eX0_thicknessAfter_35, eX0_thicknessAfter_36, eX0_thicknessAfter_37, eX0_thicknessAfter_38, eX0_thicknessAfter_40, eX0_thicknessAfter_42, eX0_thicknessAfter_45, eX0_thicknessAfter_46, eX0_thicknessAfter_49, eX0_thicknessAfter_50, eX0_thicknessAfter_53, eX0_thicknessAfter_56, eX0_thicknessAfter_59, eX0_thicknessAfter_62, eX0_thicknessAfter_63, fx_bd_some, Option.toList_some, Option.toList_none, List.nil_append, List.cons_append, fx_uo, fx_ui, Int.toNat_natCast, ↓reduceIte, Int.reduceEq, Int.reduceLT, Int.reduceLE, Int.reduceNeg, c2]
    rw [if_pos (by omega)]
    refine ⟨m2, q1.trans p1, by omega, fun r' n' h1 h2 h3 => ?_, ?_⟩
    · by_cases hq : r' = r
      · subst hq; exact Nat.le_trans (q4 n' (by omega) h3) p2
      · exact p4 r' n' (by omega) h2 h3
    · rcases p5 with p5 | p5
      · rcases q5 with q5 | ⟨n', w1, w2⟩
        · exact Or.inl (by omega)
        · exact Or.inr ⟨r, n', by omega, w1, by omega⟩
      · exact Or.inr p5
theorem sp_thicknessAfter (Rf Cf : Nat → Nat) (nc : Nat) {g R C br bc : Nat} {pr pc ph : Nat → Nat} {σ : fx_M} (hB : BW R C br bc pr pc ph) (hC : CS Rf g R C br bc pr pc σ) (kd ln : Nat) (hl : fLn br bc kd ln) : fx_Ca (fx_S Rf Cf nc) 9 [.inr (some (15, g)), .inl (kd : Int), .inl (ln : Int)] σ = some (some (.inl (thk R C kd ln pr pc (12 * R) : Nat)), σ) := by
  obtain ⟨⟨b1, b2⟩, ⟨b3, b4⟩, ⟨b5, b6⟩, ⟨b7, b8⟩, -⟩ := id hB
  obtain ⟨hkd, hln⟩ := fLn_lt hl (by omega) (by omega)
  obtain ⟨m, p1, p2, p3, p4⟩ := sp_ta_lp Rf Cf nc hB hC kd ln hkd hln br 0 0 none (by omega) (by omega)
  have e : thk R C kd ln pr pc (12 * R) = m := by
    apply Nat.le_antisymm
    · exact thk_le hB hl m (fun r n h1 h2 => p3 r n (by omega) h1 h2)
    · rcases p4 with p4 | ⟨r, n, h1, h2, h3⟩
      · omega
      · rw [h3]; exact v_le_thk hB hl r n h1 h2
  rw [entX0_thicknessAfter, e]
  simp only [eX0_thicknessAfter_0, eX0_thicknessAfter_1, eX0_thicknessAfter_2, eX0_thicknessAfter_3, eX0_thicknessAfter_7, eX0_thicknessAfter_8, eX0_thicknessAfter_11, eX0_thicknessAfter_14, eX0_thicknessAfter_15, eX0_thicknessAfter_19, eX0_thicknessAfter_20, eX0_thicknessAfter_23, eX0_thicknessAfter_26, eX0_thicknessAfter_27, eX0_thicknessAfter_28, eX0_thicknessAfter_30, eX0_thicknessAfter_32, eX0_thicknessAfter_35, eX0_thicknessAfter_36, eX0_thicknessAfter_37, eX0_thicknessAfter_38, eX0_thicknessAfter_40, eX0_thicknessAfter_42, eX0_thicknessAfter_45, eX0_thicknessAfter_46, eX0_thicknessAfter_49, eX0_thicknessAfter_50, eX0_thicknessAfter_53, eX0_thicknessAfter_56, eX0_thicknessAfter_59, eX0_thicknessAfter_62, eX0_thicknessAfter_63]
  exact p1
/-! thickness, places with cells -/
theorem sp_thickness_lp (Rf Cf : Nat → Nat) (nc : Nat) {g : Nat} {σ : fx_M} (f : Nat → Nat) (hR : Rf g ≤ 12) (hf : ∀ p, p < 12 * Rf g → σ 19 g p = f p ∧ f p ≤ 1000) : ∀ (d i m : Nat), i + d = 12 * Rf g → m = mxP i (fun _ => true) f → m ≤ 1000 → fx_E (fx_S Rf Cf nc) 5 4 [some (.inr (some (15, g))), some (.inl (m : Int)), some (.inl (i : Int))] [] σ = some (some (.inl (mxP (12 * Rf g) (fun _ => true) f : Nat)), σ) := by
  intro d
  induction d with
  | zero =>
    intro i m h e hm
    obtain rfl : i = 12 * Rf g := by omega
    rw [eX0_thickness_4]
    simp (disch := omega) only [eX0_thickness_0, eX0_thickness_1, eX0_thickness_2, eX0_thickness_3, eX0_thickness_5, eX0_thickness_6, eX0_thickness_9, eX0_thickness_10, eX0_thickness_13, eX0_thickness_14, eX0_thickness_15, eX0_thickness_18, eX0_thickness_19, eX0_thickness_20, eX0_thickness_23, eX0_thickness_24, eX0_thickness_27, eX0_thickness_30, eX0_thickness_31, fx_bd_some, Option.toList_some, Option.toList_none, List.nil_append, List.cons_append, fx_uo, fx_ui, Int.toNat_natCast, ↓reduceIte, Int.reduceEq, Int.reduceLT, Int.reduceLE, Int.reduceNeg]
    rw [if_neg (by omega), e]
  | succ d ih =>
    intro i m h e hm
    obtain ⟨f1, f2⟩ := hf i (by omega)
    rw [eX0_thickness_4]
    simp (disch := omega) only [eX0_thickness_0, eX0_thickness_1, eX0_thickness_2, eX0_thickness_3, eX0_thickness_5, eX0_thickness_6, eX0_thickness_9, eX0_thickness_10, eX0_thickness_13, eX0_thickness_14, eX0_thickness_15, eX0_thickness_18, eX0_thickness_19, eX0_thickness_20, eX0_thickness_23, eX0_thickness_24, eX0_thickness_27, eX0_thickness_30, eX0_thickness_31, fx_bd_some, Option.toList_some, Option.toList_none, List.nil_append, List.cons_append, fx_uo, fx_ui, Int.toNat_natCast, ↓reduceIte, Int.reduceEq, Int.reduceLT, Int.reduceLE, Int.reduceNeg, f1]
    rw [if_pos (by omega), show (i : Int) + 1 = ((i + 1 : Nat) : Int) by omega, show max (m : Int) (f i : Int) = ((max m (f i) : Nat) : Int) by omega]
    exact ih (i + 1) _ (by omega) (by simp only [mxP, if_true]; rw [e]) (by omega)
theorem mxP_cut {a b : Nat} {P : Nat → Bool} {f : Nat → Nat} (h : a ≤ b) (hf : ∀ k, a ≤ k → k < b → f k = 0) : mxP b P f = mxP a P f := by
  induction b with
  | zero => rw [show a = 0 by omega]
  | succ b ih =>
    by_cases hb : a = b + 1
    · rw [hb]
    · simp only [mxP]
      rw [ih (by omega) (fun k h1 h2 => hf k h1 (by omega)), hf b (by omega) (by omega)]
      split <;> omega
theorem siz_out {R C br bc : Nat} {pr pc ph : Nat → Nat} (hB : BW R C br bc pr pc ph) {p : Nat} (hp : 12 * br ≤ p) : siz R C pr pc p = 0 := by
  obtain ⟨⟨b1, b2⟩, ⟨b3, b4⟩, ⟨b5, b6⟩, ⟨b7, b8⟩, b9, b10, b11⟩ := id hB
  unfold siz
  rw [cntP_zero]
  intro k hk
  rw [decide_eq_false_iff_not]
  rintro ⟨h1, h2⟩
  obtain ⟨g1, g2, -⟩ := b9 k hk h1
  omega
theorem sp_thickness (Rf Cf : Nat → Nat) (nc : Nat) {g R C br bc : Nat} {pr pc ph : Nat → Nat} {σ : fx_M} (hB : BW R C br bc pr pc ph) (hC : CS Rf g R C br bc pr pc σ) : fx_Ca (fx_S Rf Cf nc) 5 [.inr (some (15, g))] σ = some (some (.inl (mxP 144 (fun _ => true) (siz R C pr pc) : Nat)), σ) := by
  obtain ⟨⟨b1, b2⟩, ⟨b3, b4⟩, ⟨b5, b6⟩, ⟨b7, b8⟩, b9, b10, b11⟩ := id hB
  obtain ⟨⟨a1, a2⟩, c2, c3, c5⟩ := id hC
  rw [entX0_thickness, mxP_cut (a := 12 * Rf g) (b := 144) (by omega) (fun k h1 h2 => siz_out hB (by omega))]
  simp only [eX0_thickness_0, eX0_thickness_1, eX0_thickness_2, eX0_thickness_3, eX0_thickness_5, eX0_thickness_6, eX0_thickness_9, eX0_thickness_10, eX0_thickness_13, eX0_thickness_14, eX0_thickness_15, eX0_thickness_18, eX0_thickness_19, eX0_thickness_20, eX0_thickness_23, eX0_thickness_24, eX0_thickness_27, eX0_thickness_30, eX0_thickness_31]
  exact sp_thickness_lp Rf Cf nc (siz R C pr pc) a2 (fun p hp => ⟨c5 p hp, by have := siz_le R C pr pc p; omega⟩) (12 * Rf g) 0 0 (by omega) rfl (by omega)
theorem sp_places_lp (Rf Cf : Nat → Nat) (nc : Nat) {g : Nat} {σ : fx_M} (f : Nat → Nat) (hR : Rf g ≤ 12) (hf : ∀ p, p < 12 * Rf g → σ 19 g p = f p ∧ f p ≤ 1000) : ∀ (d i m : Nat), i + d = 12 * Rf g → m = cntP i (fun p => decide (0 < f p)) → fx_E (fx_S Rf Cf nc) 6 4 [some (.inr (some (15, g))), some (.inl (m : Int)), some (.inl (i : Int))] [] σ = some (some (.inl (cntP (12 * Rf g) (fun p => decide (0 < f p)) : Nat)), σ) := by
  intro d
  induction d with
  | zero =>
    intro i m h e
    obtain rfl : i = 12 * Rf g := by omega
    rw [eX0_placesWithCells_4]
    simp (disch := omega) only [eX0_placesWithCells_0, eX0_placesWithCells_1, eX0_placesWithCells_2, eX0_placesWithCells_3, eX0_placesWithCells_5, eX0_placesWithCells_6, eX0_placesWithCells_9, eX0_placesWithCells_10, eX0_placesWithCells_13, eX0_placesWithCells_14, eX0_placesWithCells_17, eX0_placesWithCells_18, eX0_placesWithCells_19, eX0_placesWithCells_22, eX0_placesWithCells_25, eX0_placesWithCells_28, eX0_placesWithCells_31, eX0_placesWithCells_32, fx_bd_some, Option.toList_some, Option.toList_none, List.nil_append, List.cons_append, fx_uo, fx_ui, Int.toNat_natCast, ↓reduceIte, Int.reduceEq, Int.reduceLT, Int.reduceLE, Int.reduceNeg]
    rw [if_neg (by omega), e]
  | succ d ih =>
    intro i m h e
    obtain ⟨f1, f2⟩ := hf i (by omega)
    have := cntP_le i (fun p => decide (0 < f p))
    have hi : ((i : Int) < ((12 * Rf g : Nat) : Int)) = True := by simp; omega
    rw [eX0_placesWithCells_4]
    simp (disch := omega) only [eX0_placesWithCells_0, eX0_placesWithCells_1, eX0_placesWithCells_2, eX0_placesWithCells_3, eX0_placesWithCells_5, eX0_placesWithCells_6, eX0_placesWithCells_9, eX0_placesWithCells_10, eX0_placesWithCells_13, eX0_placesWithCells_14, eX0_placesWithCells_17, eX0_placesWithCells_18, eX0_placesWithCells_19, eX0_placesWithCells_22, eX0_placesWithCells_25, eX0_placesWithCells_28, eX0_placesWithCells_31, eX0_placesWithCells_32, fx_bd_some, Option.toList_some, Option.toList_none, List.nil_append, List.cons_append, fx_uo, fx_ui, Int.toNat_natCast, ↓reduceIte, Int.reduceEq, Int.reduceLT, Int.reduceLE, Int.reduceNeg, f1, hi]
    rw [show (i : Int) + 1 = ((i + 1 : Nat) : Int) by omega]
    by_cases hq : 0 < f i
    · rw [if_pos (by omega), show (m : Int) + 1 = ((m + 1 : Nat) : Int) by omega]
      exact ih (i + 1) _ (by omega) (by simp only [cntP]; rw [if_pos (by simpa using hq), e])
    · rw [if_neg (by omega)]
      exact ih (i + 1) _ (by omega) (by simp only [cntP]; rw [if_neg (by simpa using hq), e]; rfl)
theorem sp_places (Rf Cf : Nat → Nat) (nc : Nat) {g R C br bc : Nat} {pr pc ph : Nat → Nat} {σ : fx_M} (hB : BW R C br bc pr pc ph) (hC : CS Rf g R C br bc pr pc σ) : fx_Ca (fx_S Rf Cf nc) 6 [.inr (some (15, g))] σ = some (some (.inl (cntP 144 (fun p => decide (0 < siz R C pr pc p)) : Nat)), σ) := by
  obtain ⟨⟨b1, b2⟩, ⟨b3, b4⟩, ⟨b5, b6⟩, ⟨b7, b8⟩, b9, b10, b11⟩ := id hB
  obtain ⟨⟨a1, a2⟩, c2, c3, c5⟩ := id hC
  rw [entX0_placesWithCells, cntP_cut (a := 12 * Rf g) (b := 144) (by omega) (fun k h1 h2 => by rw [siz_out hB (by omega)]; simp)]
  simp only [eX0_placesWithCells_0, eX0_placesWithCells_1, eX0_placesWithCells_2, eX0_placesWithCells_3, eX0_placesWithCells_5, eX0_placesWithCells_6, eX0_placesWithCells_9, eX0_placesWithCells_10, eX0_placesWithCells_13, eX0_placesWithCells_14, eX0_placesWithCells_17, eX0_placesWithCells_18, eX0_placesWithCells_19, eX0_placesWithCells_22, eX0_placesWithCells_25, eX0_placesWithCells_28, eX0_placesWithCells_31, eX0_placesWithCells_32]
  exact sp_places_lp Rf Cf nc (siz R C pr pc) a2 (fun p hp => ⟨c5 p hp, by have := siz_le R C pr pc p; omega⟩) (12 * Rf g) 0 0 (by omega) rfl
/-! spreading a bundle -/
def SP (g C : Nat) (σ0 : fx_M) (t : Nat) (σ : fx_M) : Prop := (∀ o h x, ¬ (h = g ∧ (o = 16 ∨ o = 17 ∨ o = 18)) → σ o h x = σ0 o h x) ∧ ∀ j, j < t → σ 16 g j = ((j / C : Nat) : Int) ∧ σ 17 g j = ((j % C : Nat) : Int) ∧ σ 18 g j = 0
theorem mul_add_lt {r R C n : Nat} (h1 : r < R) (h2 : n < C) : r * C + n < R * C := by
  calc r * C + n < r * C + C := by omega
    _ = (r + 1) * C := by rw [Nat.add_mul, Nat.one_mul]
    _ ≤ R * C := Nat.mul_le_mul_right C h1
theorem sp_spread_in (Rf Cf : Nat → Nat) (nc : Nat) {g R C : Nat} (hR : R ≤ 12) (hC : 1 ≤ C) (hC2 : C ≤ 12) (hN : R * C ≤ Rf g * Cf g) (σ0 : fx_M) (h6 : σ0 15 g 6 = C) (r : Nat) (hr : r < R) (v1 v2 : Option fx_V) :
    ∀ (d n : Nat) (σ : fx_M), n + d = C → SP g C σ0 (r * C + n) σ → ∃ σ', fx_E (fx_S Rf Cf nc) 0 36 [some (.inr (some (15, g))), v1, v2, some (.inl (r : Int)), some (.inl (n : Int))] [] σ = fx_E (fx_S Rf Cf nc) 0 25 [some (.inr (some (15, g))), v1, v2, some (.inl ((r + 1 : Nat) : Int)), some (.inl (C : Int))] [] σ' ∧ SP g C σ0 ((r + 1) * C) σ' := by
  intro d
  induction d with
  | zero =>
    intro n σ h hS
    obtain rfl : n = C := by omega
    have c6 : σ 15 g 6 = n := by rw [hS.1 _ _ _ (by omega)]; exact h6
    rw [eX0_spread_36]
    simp (disch := omega) only [eX0_spread_0, eX0_spread_1, eX0_spread_2, eX0_spread_5, eX0_spread_6, eX0_spread_7, eX0_spread_10, eX0_spread_11, eX0_spread_12, eX0_spread_15, eX0_spread_16, eX0_spread_19, eX0_spread_20, eX0_spread_23, eX0_spread_24, eX0_spread_26, eX0_spread_27, eX0_spread_30, eX0_spread_33, eX0_spread_34, eX0_spread_38, eX0_spread_39, eX0_spread_42, eX0_spread_45, eX0_spread_46, eX0_spread_49, eX0_spread_50, eX0_spread_51, eX0_spread_54, eX0_spread_55, eX0_spread_57, eX0_spread_58, eX0_spread_59, eX0_spread_60, eX0_spread_61, eX0_spread_64, eX0_spread_65, eX0_spread_66, eX0_spread_69, eX0_spread_70, eX0_spread_72, eX0_spread_73, eX0_spread_75, eX0_spread_76, eX0_spread_77, eX0_spread_80, eX0_spread_81, eX0_spread_82, eX0_spread_85, eX0_spread_86, eX0_spread_88, eX0_spread_89, eX0_spread_90, eX0_spread_91, eX0_spread_94, eX0_spread_97, eX0_spread_100, eX0_spread_103, eX0_spread_104, eX0_spread_107, fx_bd_some, Option.toList_some, Option.toList_none, List.nil_append, List.cons_append, fx_uo, fx_ui, Int.toNat_natCast, ↓reduceIte, Int.reduceEq, Int.reduceLT, Int.reduceLE, Int.reduceNeg, c6]
    rw [if_neg (by omega), show (r : Int) + 1 = ((r + 1 : Nat) : Int) by omega]
    exact ⟨σ, rfl, by rw [Nat.add_mul, Nat.one_mul]; exact hS⟩
  | succ d ih =>
    intro n σ h hS
    have c6 : σ 15 g 6 = C := by rw [hS.1 _ _ _ (by omega)]; exact h6
    have hlt := mul_add_lt (r := r) (R := R) (C := C) (n := n) hr (by omega)
    have i0 : (r : Int) * (C : Int) + (n : Int) = ((r * C + n : Nat) : Int) := by simp
    have hn : ((n : Int) < (C : Int)) = True := by simp; omega
    have i1 : (r * C + n) / C = r := by rw [Nat.mul_comm, Nat.mul_add_div (by omega), Nat.div_eq_of_lt (by omega)]; omega
    have i2 : (r * C + n) % C = n := by rw [Nat.mul_comm, Nat.mul_add_mod, Nat.mod_eq_of_lt (by omega)]
    rw [eX0_spread_36]
    simp (disch := omega) only [eX0_spread_0, eX0_spread_1, eX0_spread_2, eX0_spread_5, eX0_spread_6, eX0_spread_7, eX0_spread_10, eX0_spread_11, eX0_spread_12, eX0_spread_15, eX0_spread_16, eX0_spread_19, eX0_spread_20, eX0_spread_23, eX0_spread_24, eX0_spread_26, eX0_spread_27, eX0_spread_30, eX0_spread_33, eX0_spread_34, eX0_spread_38, eX0_spread_39, eX0_spread_42, eX0_spread_45, eX0_spread_46, eX0_spread_49, eX0_spread_50, eX0_spread_51, eX0_spread_54, eX0_spread_55, eX0_spread_57, eX0_spread_58, eX0_spread_59, eX0_spread_60, eX0_spread_61, eX0_spread_64, eX0_spread_65, eX0_spread_66, eX0_spread_69, eX0_spread_70, eX0_spread_72, eX0_spread_73, eX0_spread_75, eX0_spread_76, eX0_spread_77, eX0_spread_80, eX0_spread_81, eX0_spread_82, eX0_spread_85, eX0_spread_86, eX0_spread_88, eX0_spread_89, eX0_spread_90, eX0_spread_91, eX0_spread_94, eX0_spread_97, eX0_spread_100, eX0_spread_103, eX0_spread_104, eX0_spread_107, fx_bd_some, Option.toList_some, Option.toList_none, List.nil_append, List.cons_append, fx_uo, fx_ui, Int.toNat_natCast, ↓reduceIte, Int.reduceEq, Int.reduceLT, Int.reduceLE, Int.reduceNeg, c6, hn, i0]
    rw [show (n : Int) + 1 = ((n + 1 : Nat) : Int) by omega]
    refine ih (n + 1) _ (by omega) ⟨fun o h x ho => ?_, fun j hj => ?_⟩
    · unfold fx_up
      rw [if_neg (by omega), if_neg (by omega), if_neg (by omega)]
      exact hS.1 o h x ho
    · rw [fx_uo (by omega), fx_uo (by omega), fx_ui, fx_uo (by omega), fx_ui, fx_uo (by omega), fx_ui, fx_uo (by omega), fx_uo (by omega)]
      by_cases hq : j = r * C + n
      · subst hq
        rw [if_pos rfl, if_pos rfl, if_pos rfl, i1, i2]
        exact ⟨rfl, rfl, rfl⟩
      · rw [if_neg hq, if_neg hq, if_neg hq]
        exact hS.2 j (by omega)
theorem sp_spread_lp (Rf Cf : Nat → Nat) (nc : Nat) {g R C : Nat} (hR : R ≤ 12) (hC : 1 ≤ C) (hC2 : C ≤ 12) (hN : R * C ≤ Rf g * Cf g) (σ0 : fx_M) (h5 : σ0 15 g 5 = R) (h6 : σ0 15 g 6 = C) (v1 v2 : Option fx_V) :
    ∀ (d r : Nat) (σ : fx_M) (u : Option fx_V), r + d = R → SP g C σ0 (r * C) σ → ∃ σ' u', fx_E (fx_S Rf Cf nc) 0 25 [some (.inr (some (15, g))), v1, v2, some (.inl (r : Int)), u] [] σ = fx_E (fx_S Rf Cf nc) 0 103 [some (.inr (some (15, g))), v1, v2, some (.inl (R : Int)), u'] [] σ' ∧ SP g C σ0 (R * C) σ' := by
  intro d
  induction d with
  | zero =>
    intro r σ u h hS
    obtain rfl : r = R := by omega
    have c5 : σ 15 g 5 = r := by rw [hS.1 _ _ _ (by omega)]; exact h5
    rw [eX0_spread_25]
    simp (disch := omega) only [eX0_spread_0, eX0_spread_1, eX0_spread_2, eX0_spread_5, eX0_spread_6, eX0_spread_7, eX0_spread_10, eX0_spread_11, eX0_spread_12, eX0_spread_15, eX0_spread_16, eX0_spread_19, eX0_spread_20, eX0_spread_23, eX0_spread_24, eX0_spread_26, eX0_spread_27, eX0_spread_30, eX0_spread_33, eX0_spread_34, eX0_spread_38, eX0_spread_39, eX0_spread_42, eX0_spread_45, eX0_spread_46, eX0_spread_49, eX0_spread_50, eX0_spread_51, eX0_spread_54, eX0_spread_55, eX0_spread_57, eX0_spread_58, eX0_spread_59, eX0_spread_60, eX0_spread_61, eX0_spread_64, eX0_spread_65, eX0_spread_66, eX0_spread_69, eX0_spread_70, eX0_spread_72, eX0_spread_73, eX0_spread_75, eX0_spread_76, eX0_spread_77, eX0_spread_80, eX0_spread_81, eX0_spread_82, eX0_spread_85, eX0_spread_86, eX0_spread_88, eX0_spread_89, eX0_spread_90, eX0_spread_91, eX0_spread_94, eX0_spread_97, eX0_spread_100, eX0_spread_104, eX0_spread_107, fx_bd_some, Option.toList_some, Option.toList_none, List.nil_append, List.cons_append, fx_uo, fx_ui, Int.toNat_natCast, ↓reduceIte, Int.reduceEq, Int.reduceLT, Int.reduceLE, Int.reduceNeg, c5]
    rw [if_neg (by omega)]
    exact ⟨σ, u, rfl, hS⟩
  | succ d ih =>
    intro r σ u h hS
    have c5 : σ 15 g 5 = R := by rw [hS.1 _ _ _ (by omega)]; exact h5
    obtain ⟨σ1, q1, q2⟩ := sp_spread_in Rf Cf nc hR hC hC2 hN σ0 h6 r (by omega) v1 v2 C 0 σ (by omega) hS
    obtain ⟨σ2, u2, p1, p2⟩ := ih (r + 1) σ1 _ (by omega) q2
    rw [eX0_spread_25]
    simp (disch := omega) only [eX0_spread_0, eX0_spread_1, eX0_spread_2, eX0_spread_5, eX0_spread_6, eX0_spread_7, eX0_spread_10, eX0_spread_11, eX0_spread_12, eX0_spread_15, eX0_spread_16, eX0_spread_19, eX0_spread_20, eX0_spread_23, eX0_spread_24, eX0_spread_26, eX0_spread_27, eX0_spread_30, eX0_spread_33, eX0_spread_34, eX0_spread_38, eX0_spread_39, eX0_spread_42, eX0_spread_45, eX0_spread_46, eX0_spread_49, eX0_spread_50, eX0_spread_51, eX0_spread_54, eX0_spread_55, eX0_spread_57, eX0_spread_58, eX0_spread_59, eX0_spread_60, eX0_spread_61, eX0_spread_64, eX0_spread_65, eX0_spread_66, eX0_spread_69, eX0_spread_70, eX0_spread_72, eX0_spread_73, eX0_spread_75, eX0_spread_76, eX0_spread_77, eX0_spread_80, eX0_spread_81, eX0_spread_82, eX0_spread_85, eX0_spread_86, eX0_spread_88, eX0_spread_89, eX0_spread_90, eX0_spread_91, eX0_spread_94, eX0_spread_97, eX0_spread_100, eX0_spread_104, eX0_spread_107, fx_bd_some, Option.toList_some, Option.toList_none, List.nil_append, List.cons_append, fx_uo, fx_ui, Int.toNat_natCast, ↓reduceIte, Int.reduceEq, Int.reduceLT, Int.reduceLE, Int.reduceNeg, c5]
    rw [if_pos (by omega)]
    exact ⟨σ2, u2, q1.trans p1, p2⟩
def oR (k : Nat) : Nat := k / 12
def oC (k : Nat) : Nat := k % 12
def oH (_ : Nat) : Nat := 0
theorem sp_spread (Rf Cf : Nat → Nat) (nc : Nat) {g R C : Nat} (σ : fx_M) (h1 : 1 ≤ R) (h2 : R ≤ Rf g) (h3 : Rf g ≤ 12) (hC : 1 ≤ C) (hC2 : C ≤ 12) (hN : R * C ≤ Rf g * Cf g) :
    ∃ σ', fx_Ca (fx_S Rf Cf nc) 0 [.inr (some (15, g)), .inl (R : Int), .inl (C : Int)] σ = some (none, σ') ∧ (∀ o h x, ¬ (h = g ∧ 15 ≤ o ∧ o ≤ 19) → σ' o h x = σ o h x) ∧ CB Rf Cf g R C R C oR oC oH σ' := by
  have hN2 : R * C ≤ 144 := Nat.mul_le_mul (show R ≤ 12 by omega) hC2
  obtain ⟨σ1, u1, q1, q2⟩ := sp_spread_lp Rf Cf nc (g := g) (R := R) (C := C) (by omega) hC hC2 hN (fx_up (fx_up (fx_up σ 15 g 5 R) 15 g 6 C) 15 g 4 ((R : Int) * C)) (by rw [fx_ui, if_neg (by omega), fx_ui, if_neg (by omega), fx_ui, if_pos rfl]) (by rw [fx_ui, if_neg (by omega), fx_ui, if_pos rfl]) (some (.inl (R : Int))) (some (.inl (C : Int))) R 0 _ none (by omega) ⟨fun _ _ _ _ => rfl, fun j hj => by omega⟩
  have d4 : σ1 15 g 4 = ((R * C : Nat) : Int) := by rw [q2.1 _ _ _ (by omega), fx_ui, if_pos rfl]; simp
  have hki : ∀ i, i < R * C → oR (ki C i) = i / C ∧ oC (ki C i) = i % C := fun i hi => by
    have := Nat.mod_lt i (show C > 0 by omega)
    unfold oR oC ki
    constructor <;> omega
  have hdv : ∀ i, i < R * C → i / C < R := fun i hi => Nat.div_lt_of_lt_mul (by rw [Nat.mul_comm]; exact hi)
  obtain ⟨σ2, s1, s2, s3⟩ := sp_countSizes Rf Cf nc (g := g) (N := R * C) (σ := σ1) (fun i => oR (ki C i)) (fun i => oC (ki C i)) h3 hN hN2 d4 (fun j hj => by
    obtain ⟨e1, e2, e3⟩ := q2.2 j hj
    obtain ⟨e4, e5⟩ := hki j hj
    have := Nat.mod_lt j (show C > 0 by omega)
    have := hdv j hj
    refine ⟨by rw [e1]; show _ = ((oR (ki C j) : Nat) : Int); rw [e4], by rw [e2]; show _ = ((oC (ki C j) : Nat) : Int); rw [e5], ?_⟩
    show 12 * oR (ki C j) + oC (ki C j) < _
    rw [e4, e5]
    omega)
  refine ⟨σ2, ?_, fun o h x ho => ?_, ⟨h2, h3, hN⟩, ?_, ?_, ?_, fun i hi => ?_, fun p hp => ?_⟩
  · rw [entX0_spread]
    simp only [eX0_spread_0, eX0_spread_1, eX0_spread_2, eX0_spread_5, eX0_spread_6, eX0_spread_7, eX0_spread_10, eX0_spread_11, eX0_spread_12, eX0_spread_15, eX0_spread_16, eX0_spread_19, eX0_spread_20, eX0_spread_23, eX0_spread_24, eX0_spread_26, eX0_spread_27, eX0_spread_30, eX0_spread_33, eX0_spread_34, eX0_spread_38, eX0_spread_39, eX0_spread_42, eX0_spread_45, eX0_spread_46, eX0_spread_49, eX0_spread_50, eX0_spread_51, eX0_spread_54, eX0_spread_55, eX0_spread_57, eX0_spread_58, eX0_spread_59, eX0_spread_60, eX0_spread_61, eX0_spread_64, eX0_spread_65, eX0_spread_66, eX0_spread_69, eX0_spread_70, eX0_spread_72, eX0_spread_73, eX0_spread_75, eX0_spread_76, eX0_spread_77, eX0_spread_80, eX0_spread_81, eX0_spread_82, eX0_spread_85, eX0_spread_86, eX0_spread_88, eX0_spread_89, eX0_spread_90, eX0_spread_91, eX0_spread_94, eX0_spread_97, eX0_spread_100, eX0_spread_103, eX0_spread_104, eX0_spread_107, fx_bd_some, Option.toList_some, Option.toList_none, List.nil_append, List.cons_append, fx_uo, fx_ui, Int.toNat_natCast, ↓reduceIte, Int.reduceEq, Int.reduceLT, Int.reduceLE, Int.reduceNeg]
    rw [if_neg (by omega)]
    refine q1.trans ?_
    simp only [eX0_spread_0, eX0_spread_1, eX0_spread_2, eX0_spread_5, eX0_spread_6, eX0_spread_7, eX0_spread_10, eX0_spread_11, eX0_spread_12, eX0_spread_15, eX0_spread_16, eX0_spread_19, eX0_spread_20, eX0_spread_23, eX0_spread_24, eX0_spread_26, eX0_spread_27, eX0_spread_30, eX0_spread_33, eX0_spread_34, eX0_spread_38, eX0_spread_39, eX0_spread_42, eX0_spread_45, eX0_spread_46, eX0_spread_49, eX0_spread_50, eX0_spread_51, eX0_spread_54, eX0_spread_55, eX0_spread_57, eX0_spread_58, eX0_spread_59, eX0_spread_60, eX0_spread_61, eX0_spread_64, eX0_spread_65, eX0_spread_66, eX0_spread_69, eX0_spread_70, eX0_spread_72, eX0_spread_73, eX0_spread_75, eX0_spread_76, eX0_spread_77, eX0_spread_80, eX0_spread_81, eX0_spread_82, eX0_spread_85, eX0_spread_86, eX0_spread_88, eX0_spread_89, eX0_spread_90, eX0_spread_91, eX0_spread_94, eX0_spread_97, eX0_spread_100, eX0_spread_103, eX0_spread_104, eX0_spread_107, fx_bd_some, Option.toList_some, Option.toList_none, List.nil_append, List.cons_append, fx_uo, fx_ui, Int.toNat_natCast, ↓reduceIte, Int.reduceEq, Int.reduceLT, Int.reduceLE, Int.reduceNeg, s1]
  · rw [s2 o h x (by omega), q2.1 o h x (by omega)]
    unfold fx_up
    rw [if_neg (by omega), if_neg (by omega), if_neg (by omega)]
  · rw [s2 _ _ _ (by omega)]; exact d4
  · rw [s2 _ _ _ (by omega), q2.1 _ _ _ (by omega), fx_ui, if_neg (by omega), fx_ui, if_neg (by omega), fx_ui, if_pos rfl]
  · rw [s2 _ _ _ (by omega), q2.1 _ _ _ (by omega), fx_ui, if_neg (by omega), fx_ui, if_pos rfl]
  · rw [s2 _ _ _ (by omega), s2 _ _ _ (by omega), s2 _ _ _ (by omega)]
    obtain ⟨e1, e2, e3⟩ := q2.2 i hi
    obtain ⟨e4, e5⟩ := hki i hi
    rw [e4, e5]
    exact ⟨e1, e2, e3⟩
  · rw [s3 p hp, siz_cells (by omega) hC hC2]
theorem siz_open {R C : Nat} (hR : R ≤ 12) (hC : C ≤ 12) {k : Nat} (hk : isC R C k) : siz R C oR oC k = 1 := by
  unfold siz
  have hkl : k < 144 := by have := isC_lt hk; omega
  rw [cntP_rm hkl (by simp only [decide_eq_true_eq]; exact ⟨hk, by unfold oR oC; omega⟩), cntP_zero]
  intro j hj
  simp only [rmP, Bool.and_eq_false_iff, decide_eq_false_iff_not]
  by_cases h : j = k
  · right; simp [h]
  · left
    rintro ⟨h1, h2⟩
    unfold oR oC at h2
    omega
theorem siz_open_le (R C p : Nat) : siz R C oR oC p ≤ 1 := by
  by_cases h : 0 < siz R C oR oC p
  · obtain ⟨k, h1, h2⟩ := cntP_ex h
    rw [decide_eq_true_eq] at h2
    unfold siz
    rw [cntP_rm h1 (by simpa using h2), cntP_zero]
    · exact Nat.le_refl _
    intro j hj
    simp only [rmP, Bool.and_eq_false_iff, decide_eq_false_iff_not]
    by_cases h : j = k
    · right; simp [h]
    · left
      rintro ⟨h3, h4⟩
      unfold oR oC at h4 h2
      omega
  · omega
theorem BW_open {R C : Nat} (h1 : 1 ≤ R) (h2 : R ≤ 12) (h3 : 1 ≤ C) (h4 : C ≤ 12) : BW R C R C oR oC oH := by
  refine ⟨⟨h1, h2⟩, ⟨h3, h4⟩, ⟨h1, Nat.le_refl _⟩, ⟨h3, Nat.le_refl _⟩, fun k hk hkc => ⟨hkc.1, hkc.2, ?_⟩, fun p => ?_, fun k j hk hj hkc hjc e1 e2 e3 => ?_⟩
  · rw [show 12 * oR k + oC k = k by unfold oR oC; omega, siz_open h2 h4 hkc]
    unfold oH; omega
  · have := siz_open_le R C p
    omega
  · unfold oR at e1
    unfold oC at e2
    omega
/-! becoming another bundle -/
theorem fx_co {σ : fx_M} {o0 g0 o1 g1 o g k : Nat} {sp dp n : Int} (h : ¬ o = o1) : fx_cp σ o0 g0 sp o1 g1 dp n o g k = σ o g k := by
  unfold fx_cp
  rw [if_neg (fun q => h q.1)]
theorem sp_become (Rf Cf : Nat → Nat) (nc : Nat) {g h R C br bc : Nat} {pr pc ph : Nat → Nat} {σ : fx_M} (hgh : g ≠ h) (hR : Rf g = Rf h) (hCf : Cf g = Cf h) (hC : CB Rf Cf h R C br bc pr pc ph σ) :
    ∃ σ', fx_Ca (fx_S Rf Cf nc) 1 [.inr (some (15, g)), .inr (some (15, h))] σ = some (none, σ') ∧ (∀ o k x, ¬ (k = g ∧ 15 ≤ o ∧ o ≤ 19) → σ' o k x = σ o k x) ∧ CB Rf Cf g R C br bc pr pc ph σ' := by
  obtain ⟨⟨a1, a2, a3⟩, c1, c2, c3, c4, c5⟩ := id hC
  have u : ∀ (τ : fx_M) (o x : Nat) (v : Int) (o' x' : Nat), fx_up τ o g x v o' h x' = τ o' h x' := fun τ o x v o' x' => by unfold fx_up; rw [if_neg (by omega)]
  have hl : Rf g * Cf g = Rf h * Cf h := by rw [hR, hCf]
  rw [entX0_become]
  simp (disch := omega) only [eX0_become_0, eX0_become_1, eX0_become_2, eX0_become_5, eX0_become_8, eX0_become_9, eX0_become_10, eX0_become_13, eX0_become_16, eX0_become_17, eX0_become_18, eX0_become_21, eX0_become_24, eX0_become_25, eX0_become_28, eX0_become_29, eX0_become_30, eX0_become_33, eX0_become_34, eX0_become_35, eX0_become_38, eX0_become_41, eX0_become_42, eX0_become_45, eX0_become_46, eX0_become_47, eX0_become_50, eX0_become_51, eX0_become_52, eX0_become_55, eX0_become_58, eX0_become_59, eX0_become_62, eX0_become_63, eX0_become_64, eX0_become_67, eX0_become_68, eX0_become_69, eX0_become_72, eX0_become_75, eX0_become_76, eX0_become_79, eX0_become_80, eX0_become_81, eX0_become_84, eX0_become_85, eX0_become_86, eX0_become_89, eX0_become_90, eX0_become_93, fx_bd_some, Option.toList_some, Option.toList_none, List.nil_append, List.cons_append, fx_uo, fx_ui, Int.toNat_natCast, ↓reduceIte, Int.reduceEq, Int.reduceLT, Int.reduceLE, Int.reduceNeg, fx_co, u, c1, c2, c3, hl]
  refine ⟨_, rfl, fun o k x ho => ?_, ⟨by omega, by omega, by omega⟩, ?_, ?_, ?_, fun i hi => ?_, fun p hp => ?_⟩
  · simp only [fx_cp, fx_up]
    repeat rw [if_neg (by omega)]
  · simp only [fx_cp, fx_up]; simp
  · simp only [fx_cp, fx_up]; simp
  · simp only [fx_cp, fx_up]; simp
  · simp only [fx_cp, fx_up]
    simp
    grind
  · simp only [fx_cp, fx_up]
    simp
    grind
theorem sp_isAt (Rf Cf : Nat → Nat) (nc : Nat) {g R C br bc : Nat} {pr pc ph : Nat → Nat} {σ : fx_M} (hB : BW R C br bc pr pc ph) (hC : CB Rf Cf g R C br bc pr pc ph σ) (i : Nat) (hi : i < R * C) (r n h : Int) (hr : fx_in r) (hn : fx_in n) (hh : fx_in h) : fx_Ca (fx_S Rf Cf nc) 2 [.inr (some (15, g)), .inl (i : Int), .inl r, .inl n, .inl h] σ = some (some (.inl (if (pr (ki C i) : Int) = r ∧ (pc (ki C i) : Int) = n ∧ (ph (ki C i) : Int) = h then 1 else 0)), σ) := by
  obtain ⟨⟨b1, b2⟩, ⟨b3, b4⟩, ⟨b5, b6⟩, ⟨b7, b8⟩, b9, b10, b11⟩ := id hB
  obtain ⟨⟨a1, a2, a3⟩, c1, c2, c3, c4, c5⟩ := id hC
  obtain ⟨e1, e2, e3⟩ := c4 i hi
  obtain ⟨g1, g2, g3⟩ := b9 (ki C i) (ki_lt b2 b3 b4 hi) (ki_C b3 b4 hi)
  have g4 := b10 (12 * pr (ki C i) + pc (ki C i))
  rw [entX0_isAt]
  simp (disch := omega) only [eX0_isAt_0, eX0_isAt_1, eX0_isAt_4, eX0_isAt_5, eX0_isAt_6, eX0_isAt_7, eX0_isAt_10, eX0_isAt_11, eX0_isAt_14, eX0_isAt_15, eX0_isAt_16, eX0_isAt_17, eX0_isAt_20, eX0_isAt_21, eX0_isAt_24, eX0_isAt_25, eX0_isAt_26, eX0_isAt_28, eX0_isAt_31, eX0_isAt_32, eX0_isAt_35, eX0_isAt_36, fx_bd_some, Option.toList_some, Option.toList_none, List.nil_append, List.cons_append, fx_uo, fx_ui, Int.toNat_natCast, ↓reduceIte, Int.reduceEq, Int.reduceLT, Int.reduceLE, Int.reduceNeg, e1, e2, e3]
  grind
