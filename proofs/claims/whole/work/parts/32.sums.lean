/-! sums -/
def smZ : Nat → (Nat → Int) → Int
  | 0, _ => 0
  | n + 1, f => smZ n f + f n
theorem smZ_congr {n : Nat} {f g : Nat → Int} (h : ∀ k, k < n → f k = g k) : smZ n f = smZ n g := by
  induction n with
  | zero => rfl
  | succ n ih => simp only [smZ]; rw [ih (fun k hk => h k (by omega)), h n (by omega)]
theorem smZ_add (a b : Nat) (f : Nat → Int) : smZ (a + b) f = smZ a f + smZ b (fun k => f (a + k)) := by
  induction b with
  | zero => simp [smZ]
  | succ b ih => rw [← Nat.add_assoc]; simp only [smZ]; rw [ih]; omega
theorem smZ_cut {a b : Nat} {f : Nat → Int} (h : a ≤ b) (hf : ∀ k, a ≤ k → k < b → f k = 0) : smZ b f = smZ a f := by
  induction b with
  | zero => rw [show a = 0 by omega]
  | succ b ih =>
    by_cases hb : a = b + 1
    · rw [hb]
    · simp only [smZ]
      rw [ih (by omega) (fun k h1 h2 => hf k h1 (by omega)), hf b (by omega) (by omega)]
      omega
theorem smZ_bd {n : Nat} {f : Nat → Int} {m : Int} (h : ∀ k, k < n → 0 ≤ f k ∧ f k ≤ m) : 0 ≤ smZ n f ∧ smZ n f ≤ n * m := by
  induction n with
  | zero => simp [smZ]
  | succ n ih =>
    have := ih (fun k hk => h k (by omega))
    have := h n (by omega)
    simp only [smZ]
    rw [show ((n + 1 : Nat) : Int) * m = n * m + m by rw [Int.natCast_add, Int.add_mul]; simp]
    omega
theorem smZ_ki {C : Nat} (hC : 1 ≤ C) (hC2 : C ≤ 12) (f : Nat → Int) : ∀ R : Nat, smZ (R * C) (fun i => f (ki C i)) = smZ (12 * R) (fun k => if k % 12 < C then f k else 0)
  | 0 => by simp [smZ]
  | R + 1 => by
    rw [Nat.add_mul, Nat.one_mul, Nat.mul_add, Nat.mul_one, smZ_add, smZ_add, smZ_ki hC hC2 f R]
    congr 1
    rw [smZ_cut (a := C) (b := 12) (by omega)]
    · apply smZ_congr
      intro k hk
      have e1 : (R * C + k) / C = R := by rw [Nat.mul_comm, Nat.mul_add_div (by omega), Nat.div_eq_of_lt hk]; omega
      have e2 : (R * C + k) % C = k := by rw [Nat.mul_comm, Nat.mul_add_mod, Nat.mod_eq_of_lt hk]
      have e3 : (12 * R + k) % 12 = k := by omega
      unfold ki
      rw [e1, e2, e3, if_pos hk]
    · intro k h1 h2
      have e3 : (12 * R + k) % 12 = k := by omega
      rw [e3, if_neg (by omega)]
theorem smZ_cells {R C : Nat} (hR : R ≤ 12) (hC : 1 ≤ C) (hC2 : C ≤ 12) (f : Nat → Int) : smZ (R * C) (fun i => f (ki C i)) = smZ 144 (fun k => if isC R C k then f k else 0) := by
  rw [smZ_ki hC hC2, smZ_cut (a := 12 * R) (b := 144) (by omega)]
  · apply smZ_congr
    intro k hk
    have : (k % 12 < C) ↔ isC R C k := ⟨fun h => ⟨by omega, h⟩, fun h => h.2⟩
    simp only [this]
  · intro k h1 h2
    have : ¬ isC R C k := fun h => by have := isC_lt h; omega
    rw [if_neg this]
theorem DC.at {g R C : Nat} {dp : Nat → Int} {σ : fx_M} (hD : DC g R C dp σ) (hC : 1 ≤ C) (hC2 : C ≤ 12) {i : Nat} (hi : i < R * C) : σ 13 g i = dp (ki C i) ∧ 0 ≤ dp (ki C i) ∧ dp (ki C i) ≤ 15 := by
  have h1 : i / C < R := Nat.div_lt_of_lt_mul (by rw [Nat.mul_comm]; exact hi)
  have h2 : i % C < C := Nat.mod_lt _ (by omega)
  have h3 : i / C * C + i % C = i := by rw [Nat.mul_comm]; exact Nat.div_add_mod i C
  have := hD.2.1 (i / C) (i % C) h1 h2
  rw [h3] at this
  exact ⟨this, hD.2.2 (i / C) (i % C) h1 h2⟩
theorem sp_depth_lp (Rf Cf : Nat → Nat) (nc : Nat) {σ : fx_M} {g R C : Nat} {dp : Nat → Int} (hRf : Rf g = R ∧ Cf g = C) (hR : R ≤ 12) (hC1 : 1 ≤ C) (hC : C ≤ 12) (hD : DC g R C dp σ) : ∀ (d i : Nat) (s : Int), i + d = R * C → s = smZ i (fun i => dp (ki C i)) → fx_E (fx_S Rf Cf nc) 20 4 [some (.inr (some (12, g))), some (.inl s), some (.inl (i : Int))] [] σ = some (some (.inl (smZ (R * C) (fun i => dp (ki C i)))), σ) := by
  have hN : R * C ≤ 144 := Nat.mul_le_mul hR hC
  have hl : Rf g * Cf g = R * C := by rw [hRf.1, hRf.2]
  have h2 := hD.1.2.2
  intro d
  induction d with
  | zero =>
    intro i s h hs
    obtain rfl : i = R * C := by omega
    rw [eX1_depthInAll_4]
    simp (disch := omega) only [eX1_depthInAll_0, eX1_depthInAll_1, eX1_depthInAll_2, eX1_depthInAll_3, eX1_depthInAll_5, eX1_depthInAll_6, eX1_depthInAll_9, eX1_depthInAll_12, eX1_depthInAll_13, eX1_depthInAll_14, eX1_depthInAll_17, eX1_depthInAll_18, eX1_depthInAll_19, eX1_depthInAll_20, eX1_depthInAll_21, eX1_depthInAll_24, eX1_depthInAll_27, eX1_depthInAll_28, fx_bd_some, Option.toList_some, Option.toList_none, List.nil_append, List.cons_append, fx_uo, fx_ui, Int.toNat_natCast, ↓reduceIte, Int.reduceEq, Int.reduceLT, Int.reduceLE, Int.reduceNeg, h2]
    rw [if_neg (by omega), hs]
  | succ d ih =>
    intro i s h hs
    have f1 := (hD.at hC1 hC (show i < R * C by omega)).1
    have hi1 : ((i : Int) < ((R * C : Nat) : Int)) = True := eq_true (by omega)
    rw [eX1_depthInAll_4]
    simp (disch := omega) only [eX1_depthInAll_0, eX1_depthInAll_1, eX1_depthInAll_2, eX1_depthInAll_3, eX1_depthInAll_5, eX1_depthInAll_6, eX1_depthInAll_9, eX1_depthInAll_12, eX1_depthInAll_13, eX1_depthInAll_14, eX1_depthInAll_17, eX1_depthInAll_18, eX1_depthInAll_19, eX1_depthInAll_20, eX1_depthInAll_21, eX1_depthInAll_24, eX1_depthInAll_27, eX1_depthInAll_28, fx_bd_some, Option.toList_some, Option.toList_none, List.nil_append, List.cons_append, fx_uo, fx_ui, Int.toNat_natCast, ↓reduceIte, Int.reduceEq, Int.reduceLT, Int.reduceLE, Int.reduceNeg, h2, f1, hi1]
    rw [show (i : Int) + 1 = ((i + 1 : Nat) : Int) by omega]
    exact ih (i + 1) _ (by omega) (by simp only [smZ]; rw [hs])
theorem sp_depthInAll (Rf Cf : Nat → Nat) (nc : Nat) {σ : fx_M} {g R C : Nat} {dp : Nat → Int} (hRf : Rf g = R ∧ Cf g = C) (hR : R ≤ 12) (hC1 : 1 ≤ C) (hC : C ≤ 12) (hD : DC g R C dp σ) : fx_Ca (fx_S Rf Cf nc) 20 [.inr (some (12, g))] σ = some (some (.inl (smZ 144 (fun k => if isC R C k then dp k else 0))), σ) := by
  rw [entX1_depthInAll, ← smZ_cells hR hC1 hC dp]
  simp only [eX1_depthInAll_0, eX1_depthInAll_1, eX1_depthInAll_2, eX1_depthInAll_3, eX1_depthInAll_5, eX1_depthInAll_6, eX1_depthInAll_9, eX1_depthInAll_12, eX1_depthInAll_13, eX1_depthInAll_14, eX1_depthInAll_17, eX1_depthInAll_18, eX1_depthInAll_19, eX1_depthInAll_20, eX1_depthInAll_21, eX1_depthInAll_24, eX1_depthInAll_27, eX1_depthInAll_28]
  exact sp_depth_lp Rf Cf nc hRf hR hC1 hC hD (R * C) 0 0 (by omega) rfl
theorem sp_shareOf (Rf Cf : Nat → Nat) (nc : Nat) {σ : fx_M} {g R C : Nat} {dp : Nat → Int} (hRf : Rf g = R ∧ Cf g = C) (hR : R ≤ 12) (hC1 : 1 ≤ C) (hC : C ≤ 12) (hD : DC g R C dp σ) (w : Int) (hw : 0 ≤ w ∧ w ≤ 3) : fx_Ca (fx_S Rf Cf nc) 19 [.inr (some (12, g)), .inl w] σ = some (some (.inl (if w = 0 then 1 else if w = 1 then ((R * C : Nat) : Int) else if w = 2 then smZ 144 (fun k => if isC R C k then dp k else 0) else σ 12 g 8)), σ) := by
  have e1 := sp_depthInAll Rf Cf nc hRf hR hC1 hC hD
  have h2 := hD.1.2.2
  rw [entX1_shareOf]
  rcases (show w = 0 ∨ w = 1 ∨ w = 2 ∨ w = 3 by omega) with rfl | rfl | rfl | rfl
  all_goals
    simp (disch := omega) only [eX1_shareOf_0, eX1_shareOf_1, eX1_shareOf_28, eX1_shareOf_29, eX1_shareOf_30, eX1_shareOf_31, eX1_shareOf_34, eX1_shareOf_35, eX1_shareOf_36, eX1_shareOf_39, eX1_shareOf_40, eX1_shareOf_41, eX1_shareOf_44, fx_bd_some, Option.toList_some, Option.toList_none, List.nil_append, List.cons_append, fx_uo, fx_ui, Int.toNat_natCast, ↓reduceIte, Int.reduceEq, Int.reduceLT, Int.reduceLE, Int.reduceNeg, h2, e1]
/-! steps -/
def abZ (a b : Int) : Int := if a - b < 0 then -(a - b) else a - b
theorem stp_lp (Rf Cf : Nat → Nat) (nc : Nat) {σ : fx_M} {g h R C : Nat} {dp dq : Nat → Int} (hRf : Rf g = R ∧ Cf g = C) (hRh : Rf h = R ∧ Cf h = C) (hR : R ≤ 12) (hC1 : 1 ≤ C) (hC : C ≤ 12) (hD : DC g R C dp σ) (hQ : DC h R C dq σ) (u0 u1 u2 : Option fx_V) : ∀ (d i : Nat) (s : Int), i + d = R * C → s = smZ i (fun i => abZ (dp (ki C i)) (dq (ki C i))) → fx_E (fx_S Rf Cf nc) 56 57 [u0, u1, u2, some (.inr (some (12, g))), some (.inr (some (12, h))), some (.inl s), some (.inl (i : Int))] [] σ = some (some (.inl (smZ (R * C) (fun i => abZ (dp (ki C i)) (dq (ki C i))))), σ) := by
  have hN : R * C ≤ 144 := Nat.mul_le_mul hR hC
  have hl : Rf g * Cf g = R * C := by rw [hRf.1, hRf.2]
  have hl2 : Rf h * Cf h = R * C := by rw [hRh.1, hRh.2]
  have h2 := hD.1.2.2
  intro d
  induction d with
  | zero =>
    intro i s h hs
    obtain rfl : i = R * C := by omega
    rw [eX6_steps_57]
    simp (disch := omega) only [eX6_steps_0, eX6_steps_1, eX6_steps_2, eX6_steps_5, eX6_steps_6, eX6_steps_7, eX6_steps_8, eX6_steps_11, eX6_steps_13, eX6_steps_14_n, eX6_steps_14_s, eX6_steps_17, eX6_steps_19_n, eX6_steps_19_s, eX6_steps_22, eX6_steps_23, eX6_steps_24, eX6_steps_25, eX6_steps_28, eX6_steps_30, eX6_steps_33, eX6_steps_36, eX6_steps_37, eX6_steps_40, eX6_steps_42, eX6_steps_45, eX6_steps_48, eX6_steps_50, eX6_steps_51, eX6_steps_52, eX6_steps_54, eX6_steps_55, eX6_steps_59, eX6_steps_60, eX6_steps_63, eX6_steps_66, eX6_steps_68, eX6_steps_69, eX6_steps_72, eX6_steps_74, eX6_steps_75, eX6_steps_77, eX6_steps_80, eX6_steps_82, eX6_steps_83, eX6_steps_84, eX6_steps_87, eX6_steps_88, eX6_steps_90, eX6_steps_93, eX6_steps_96, eX6_steps_98, fx_bd_some, Option.toList_some, Option.toList_none, List.nil_append, List.cons_append, fx_uo, fx_ui, Int.toNat_natCast, ↓reduceIte, Int.reduceEq, Int.reduceLT, Int.reduceLE, Int.reduceNeg, h2]
    rw [if_neg (by omega), hs]
  | succ d ih =>
    intro i s h hs
    obtain ⟨f1, f2, f3⟩ := hD.at hC1 hC (show i < R * C by omega)
    obtain ⟨g1, g2, g3⟩ := hQ.at hC1 hC (show i < R * C by omega)
    have hi1 : ((i : Int) < ((R * C : Nat) : Int)) = True := eq_true (by omega)
    rw [eX6_steps_57]
    simp (disch := omega) only [eX6_steps_0, eX6_steps_1, eX6_steps_2, eX6_steps_5, eX6_steps_6, eX6_steps_7, eX6_steps_8, eX6_steps_11, eX6_steps_13, eX6_steps_14_n, eX6_steps_14_s, eX6_steps_17, eX6_steps_19_n, eX6_steps_19_s, eX6_steps_22, eX6_steps_23, eX6_steps_24, eX6_steps_25, eX6_steps_28, eX6_steps_30, eX6_steps_33, eX6_steps_36, eX6_steps_37, eX6_steps_40, eX6_steps_42, eX6_steps_45, eX6_steps_48, eX6_steps_50, eX6_steps_51, eX6_steps_52, eX6_steps_54, eX6_steps_55, eX6_steps_59, eX6_steps_60, eX6_steps_63, eX6_steps_66, eX6_steps_68, eX6_steps_69, eX6_steps_72, eX6_steps_74, eX6_steps_75, eX6_steps_77, eX6_steps_80, eX6_steps_82, eX6_steps_83, eX6_steps_84, eX6_steps_87, eX6_steps_88, eX6_steps_90, eX6_steps_93, eX6_steps_96, eX6_steps_98, fx_bd_some, Option.toList_some, Option.toList_none, List.nil_append, List.cons_append, fx_uo, fx_ui, Int.toNat_natCast, ↓reduceIte, Int.reduceEq, Int.reduceLT, Int.reduceLE, Int.reduceNeg, h2, f1, g1, hi1]
    rw [show (i : Int) + 1 = ((i + 1 : Nat) : Int) by omega]
    refine ih (i + 1) _ (by omega) ?_
    simp only [smZ]
    rw [hs]
    unfold abZ
    first | rfl | omega | grind
theorem stm_in (Rf Cf : Nat → Nat) (nc : Nat) {σ : fx_M} {c o R C : Nat} {dp dq : Nat → Int} (hc : c < 7) (ho : o < 7) (hR : R ≤ 12) (hC : C ≤ 12) (hD : DM c R C dp σ) (hQ : DM o R C dq σ) (r : Nat) (hr : r < R) :
    ∀ (d n : Nat) (s : Int) (u6 : Option fx_V), n + d = C → s = smZ (r * C + n) (fun i => abZ (dp (ki C i)) (dq (ki C i))) → ∃ w6 : Option fx_V, fx_E (fx_S Rf Cf nc) 111 70 [some (.inr (some (20, 0))), some (.inl (c : Int)), some (.inl (o : Int)), some (.inl s), some (.inl (r : Int)), some (.inl (n : Int)), u6] [] σ = fx_E (fx_S Rf Cf nc) 111 56 [some (.inr (some (20, 0))), some (.inl (c : Int)), some (.inl (o : Int)), some (.inl (smZ ((r + 1) * C) (fun i => abZ (dp (ki C i)) (dq (ki C i))))), some (.inl ((r + 1 : Nat) : Int)), some (.inl (C : Int)), w6] [] σ := by
  obtain ⟨⟨h0, h1⟩, hd, hb⟩ := id hD
  obtain ⟨-, hd2, hb2⟩ := id hQ
  intro d
  induction d with
  | zero =>
    intro n s u6 hn hs
    obtain rfl : n = C := by omega
    refine ⟨u6, ?_⟩
    have hn1 : ((n : Int) < (n : Int)) = False := by simp
    rw [eX7_steps_70]
    simp (disch := omega) only [eX7_steps_0, eX7_steps_1, eX7_steps_2, eX7_steps_5, eX7_steps_8, eX7_steps_9, eX7_steps_10, eX7_steps_13, eX7_steps_16, eX7_steps_17, eX7_steps_18, eX7_steps_19, eX7_steps_22, eX7_steps_23, eX7_steps_24, eX7_steps_25, eX7_steps_28, eX7_steps_29, eX7_steps_30, eX7_steps_33, eX7_steps_34, eX7_steps_37, eX7_steps_38, eX7_steps_39, eX7_steps_40, eX7_steps_43, eX7_steps_44, eX7_steps_45, eX7_steps_48, eX7_steps_50, eX7_steps_51, eX7_steps_52, eX7_steps_53, eX7_steps_54, eX7_steps_58, eX7_steps_59, eX7_steps_62, eX7_steps_63, eX7_steps_64, eX7_steps_67, eX7_steps_68, eX7_steps_72, eX7_steps_73, eX7_steps_76, eX7_steps_77, eX7_steps_78, eX7_steps_81, eX7_steps_82, eX7_steps_83, eX7_steps_85, eX7_steps_87, eX7_steps_90, eX7_steps_91, eX7_steps_92, eX7_steps_94, eX7_steps_96, eX7_steps_99, eX7_steps_100, eX7_steps_102, eX7_steps_103, eX7_steps_105, eX7_steps_108, eX7_steps_110, eX7_steps_111, eX7_steps_114, eX7_steps_116, eX7_steps_117, eX7_steps_118, eX7_steps_121, eX7_steps_124, eX7_steps_127, eX7_steps_130, eX7_steps_131, fx_bd_some, Option.toList_some, Option.toList_none, List.nil_append, List.cons_append, fx_uo, fx_ui, Int.toNat_natCast, ↓reduceIte, Int.reduceEq, Int.reduceLT, Int.reduceLE, Int.reduceNeg, h1, hn1]
    rw [show (r : Int) + 1 = ((r + 1 : Nat) : Int) by omega, hs, Nat.add_mul, Nat.one_mul]
  | succ d ih =>
    intro n s u6 hn hs
    have hn1 : ((n : Int) < (C : Int)) = True := by simp; omega
    have e1 := sp_at Rf Cf nc σ c r n hc (by omega) (by omega)
    rw [hd r n hr (by omega)] at e1
    have e2 := sp_at Rf Cf nc σ o r n ho (by omega) (by omega)
    rw [hd2 r n hr (by omega)] at e2
    have w1 := hb r n hr (by omega)
    have w2 := hb2 r n hr (by omega)
    rw [eX7_steps_70]
    simp (disch := omega) only [eX7_steps_0, eX7_steps_1, eX7_steps_2, eX7_steps_5, eX7_steps_8, eX7_steps_9, eX7_steps_10, eX7_steps_13, eX7_steps_16, eX7_steps_17, eX7_steps_18, eX7_steps_19, eX7_steps_22, eX7_steps_23, eX7_steps_24, eX7_steps_25, eX7_steps_28, eX7_steps_29, eX7_steps_30, eX7_steps_33, eX7_steps_34, eX7_steps_37, eX7_steps_38, eX7_steps_39, eX7_steps_40, eX7_steps_43, eX7_steps_44, eX7_steps_45, eX7_steps_48, eX7_steps_50, eX7_steps_51, eX7_steps_52, eX7_steps_53, eX7_steps_54, eX7_steps_58, eX7_steps_59, eX7_steps_62, eX7_steps_63, eX7_steps_64, eX7_steps_67, eX7_steps_68, eX7_steps_72, eX7_steps_73, eX7_steps_76, eX7_steps_77, eX7_steps_78, eX7_steps_81, eX7_steps_82, eX7_steps_83, eX7_steps_85, eX7_steps_87, eX7_steps_90, eX7_steps_91, eX7_steps_92, eX7_steps_94, eX7_steps_96, eX7_steps_99, eX7_steps_100, eX7_steps_102, eX7_steps_103, eX7_steps_105, eX7_steps_108, eX7_steps_110, eX7_steps_111, eX7_steps_114, eX7_steps_116, eX7_steps_117, eX7_steps_118, eX7_steps_121, eX7_steps_124, eX7_steps_127, eX7_steps_130, eX7_steps_131, fx_bd_some, Option.toList_some, Option.toList_none, List.nil_append, List.cons_append, fx_uo, fx_ui, Int.toNat_natCast, ↓reduceIte, Int.reduceEq, Int.reduceLT, Int.reduceLE, Int.reduceNeg, h1, hn1, e1, e2]
    rw [show (n : Int) + 1 = ((n + 1 : Nat) : Int) by omega]
    have hs2 : smZ (r * C + (n + 1)) (fun i => abZ (dp (ki C i)) (dq (ki C i))) = s + abZ (dp (12 * r + n)) (dq (12 * r + n)) := by
      rw [← Nat.add_assoc]
      simp only [smZ]
      rw [hs, ki_rn (by omega)]
    by_cases q : dp (12 * r + n) - dq (12 * r + n) < 0
    · first
        | (rw [if_pos q]; exact ih (n + 1) _ _ (by omega) (by rw [hs2]; unfold abZ; rw [if_pos q]))
        | (rw [if_neg (by omega)]; exact ih (n + 1) _ _ (by omega) (by rw [hs2]; unfold abZ; rw [if_pos q]))
    · first
        | (rw [if_neg q]; exact ih (n + 1) _ _ (by omega) (by rw [hs2]; unfold abZ; rw [if_neg q]))
        | (rw [if_pos (by omega)]; exact ih (n + 1) _ _ (by omega) (by rw [hs2]; unfold abZ; rw [if_neg q]))
theorem stm_lp (Rf Cf : Nat → Nat) (nc : Nat) {σ : fx_M} {c o R C : Nat} {dp dq : Nat → Int} (hc : c < 7) (ho : o < 7) (hR : R ≤ 12) (hC : C ≤ 12) (hD : DM c R C dp σ) (hQ : DM o R C dq σ) :
    ∀ (d r : Nat) (s : Int) (u5 u6 : Option fx_V), r + d = R → s = smZ (r * C) (fun i => abZ (dp (ki C i)) (dq (ki C i))) → fx_E (fx_S Rf Cf nc) 111 56 [some (.inr (some (20, 0))), some (.inl (c : Int)), some (.inl (o : Int)), some (.inl s), some (.inl (r : Int)), u5, u6] [] σ = some (some (.inl (smZ (R * C) (fun i => abZ (dp (ki C i)) (dq (ki C i))))), σ) := by
  obtain ⟨⟨h0, h1⟩, hd, hb⟩ := id hD
  intro d
  induction d with
  | zero =>
    intro r s u5 u6 hr hs
    obtain rfl : r = R := by omega
    have hr1 : ((r : Int) < (r : Int)) = False := by simp
    rw [eX7_steps_56]
    simp (disch := omega) only [eX7_steps_0, eX7_steps_1, eX7_steps_2, eX7_steps_5, eX7_steps_8, eX7_steps_9, eX7_steps_10, eX7_steps_13, eX7_steps_16, eX7_steps_17, eX7_steps_18, eX7_steps_19, eX7_steps_22, eX7_steps_23, eX7_steps_24, eX7_steps_25, eX7_steps_28, eX7_steps_29, eX7_steps_30, eX7_steps_33, eX7_steps_34, eX7_steps_37, eX7_steps_38, eX7_steps_39, eX7_steps_40, eX7_steps_43, eX7_steps_44, eX7_steps_45, eX7_steps_48, eX7_steps_50, eX7_steps_51, eX7_steps_52, eX7_steps_53, eX7_steps_54, eX7_steps_58, eX7_steps_59, eX7_steps_62, eX7_steps_63, eX7_steps_64, eX7_steps_67, eX7_steps_68, eX7_steps_72, eX7_steps_73, eX7_steps_76, eX7_steps_77, eX7_steps_78, eX7_steps_81, eX7_steps_82, eX7_steps_83, eX7_steps_85, eX7_steps_87, eX7_steps_90, eX7_steps_91, eX7_steps_92, eX7_steps_94, eX7_steps_96, eX7_steps_99, eX7_steps_100, eX7_steps_102, eX7_steps_103, eX7_steps_105, eX7_steps_108, eX7_steps_110, eX7_steps_111, eX7_steps_114, eX7_steps_116, eX7_steps_117, eX7_steps_118, eX7_steps_121, eX7_steps_124, eX7_steps_127, eX7_steps_130, eX7_steps_131, fx_bd_some, Option.toList_some, Option.toList_none, List.nil_append, List.cons_append, fx_uo, fx_ui, Int.toNat_natCast, ↓reduceIte, Int.reduceEq, Int.reduceLT, Int.reduceLE, Int.reduceNeg, h0, hr1]
    rw [hs]
  | succ d ih =>
    intro r s u5 u6 hr hs
    have hr1 : ((r : Int) < (R : Int)) = True := by simp; omega
    rw [eX7_steps_56]
    simp (disch := omega) only [eX7_steps_0, eX7_steps_1, eX7_steps_2, eX7_steps_5, eX7_steps_8, eX7_steps_9, eX7_steps_10, eX7_steps_13, eX7_steps_16, eX7_steps_17, eX7_steps_18, eX7_steps_19, eX7_steps_22, eX7_steps_23, eX7_steps_24, eX7_steps_25, eX7_steps_28, eX7_steps_29, eX7_steps_30, eX7_steps_33, eX7_steps_34, eX7_steps_37, eX7_steps_38, eX7_steps_39, eX7_steps_40, eX7_steps_43, eX7_steps_44, eX7_steps_45, eX7_steps_48, eX7_steps_50, eX7_steps_51, eX7_steps_52, eX7_steps_53, eX7_steps_54, eX7_steps_58, eX7_steps_59, eX7_steps_62, eX7_steps_63, eX7_steps_64, eX7_steps_67, eX7_steps_68, eX7_steps_72, eX7_steps_73, eX7_steps_76, eX7_steps_77, eX7_steps_78, eX7_steps_81, eX7_steps_82, eX7_steps_83, eX7_steps_85, eX7_steps_87, eX7_steps_90, eX7_steps_91, eX7_steps_92, eX7_steps_94, eX7_steps_96, eX7_steps_99, eX7_steps_100, eX7_steps_102, eX7_steps_103, eX7_steps_105, eX7_steps_108, eX7_steps_110, eX7_steps_111, eX7_steps_114, eX7_steps_116, eX7_steps_117, eX7_steps_118, eX7_steps_121, eX7_steps_124, eX7_steps_127, eX7_steps_130, eX7_steps_131, fx_bd_some, Option.toList_some, Option.toList_none, List.nil_append, List.cons_append, fx_uo, fx_ui, Int.toNat_natCast, ↓reduceIte, Int.reduceEq, Int.reduceLT, Int.reduceLE, Int.reduceNeg, h0, hr1]
    obtain ⟨w6, e⟩ := stm_in Rf Cf nc hc ho hR hC hD hQ r (by omega) C 0 s u6 (by omega) hs
    exact e.trans (ih (r + 1) _ _ _ (by omega) rfl)
