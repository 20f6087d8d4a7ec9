/-! the class's bundles: cells counted row by row -/
def ki (C i : Nat) : Nat := 12 * (i / C) + i % C
def ix (C k : Nat) : Nat := k / 12 * C + k % 12
theorem ki_C {R C i : Nat} (hC : 1 ≤ C) (hC2 : C ≤ 12) (h : i < R * C) : isC R C (ki C i) := by
  have h1 : i / C < R := Nat.div_lt_of_lt_mul (by rw [Nat.mul_comm]; exact h)
  have h2 : i % C < C := Nat.mod_lt _ (by omega)
  unfold ki
  constructor <;> omega
theorem ki_lt {R C i : Nat} (hR : R ≤ 12) (hC : 1 ≤ C) (hC2 : C ≤ 12) (h : i < R * C) : ki C i < 144 := by
  have h1 := ki_C hC hC2 h
  have := isC_lt h1
  omega
theorem ix_lt {R C k : Nat} (h : isC R C k) : ix C k < R * C := by
  obtain ⟨h1, h2⟩ := h
  unfold ix
  calc k / 12 * C + k % 12 < k / 12 * C + C := by omega
    _ = (k / 12 + 1) * C := by rw [Nat.add_mul, Nat.one_mul]
    _ ≤ R * C := Nat.mul_le_mul_right C h1
theorem ki_ix {R C k : Nat} (h : isC R C k) : ki C (ix C k) = k := by
  obtain ⟨h1, h2⟩ := h
  unfold ki ix
  rw [Nat.mul_comm (k / 12) C, Nat.mul_add_div (by omega), Nat.mul_add_mod, Nat.div_eq_of_lt h2, Nat.mod_eq_of_lt h2]
  omega
theorem ix_ki {C i : Nat} (hC : 1 ≤ C) (hC2 : C ≤ 12) : ix C (ki C i) = i := by
  have h2 : i % C < C := Nat.mod_lt _ (by omega)
  unfold ki ix
  have e1 : (12 * (i / C) + i % C) / 12 = i / C := by omega
  have e2 : (12 * (i / C) + i % C) % 12 = i % C := by omega
  rw [e1, e2, Nat.mul_comm]
  exact Nat.div_add_mod i C
theorem ki_inj {C i j : Nat} (hC : 1 ≤ C) (hC2 : C ≤ 12) (h : ki C i = ki C j) : i = j := by
  rw [← ix_ki (i := i) hC hC2, h, ix_ki hC hC2]
theorem cntP_add (a b : Nat) (P : Nat → Bool) : cntP (a + b) P = cntP a P + cntP b (fun k => P (a + k)) := by
  induction b with
  | zero => rfl
  | succ b ih => rw [← Nat.add_assoc]; simp only [cntP]; rw [ih]; omega
theorem cnt_ki {C : Nat} (hC : 1 ≤ C) (hC2 : C ≤ 12) (P : Nat → Bool) : ∀ R : Nat, cntP (R * C) (fun i => P (ki C i)) = cntP (12 * R) (fun k => decide (k % 12 < C) && P k)
  | 0 => by simp [cntP]
  | R + 1 => by
    rw [Nat.add_mul, Nat.one_mul, Nat.mul_add, Nat.mul_one, cntP_add, cntP_add, cnt_ki hC hC2 P R]
    congr 1
    rw [cntP_cut (a := C) (b := 12) (by omega)]
    · apply cntP_congr
      intro k hk
      have e1 : (R * C + k) / C = R := by rw [Nat.mul_comm, Nat.mul_add_div (by omega), Nat.div_eq_of_lt hk]; omega
      have e2 : (R * C + k) % C = k := by rw [Nat.mul_comm, Nat.mul_add_mod, Nat.mod_eq_of_lt hk]
      have e3 : (12 * R + k) % 12 = k := by omega
      unfold ki
      rw [e1, e2, e3]
      simp [hk]
    · intro k h1 h2
      have e3 : (12 * R + k) % 12 = k := by omega
      rw [e3]
      simp
      omega
theorem cnt_cells {R C : Nat} (hR : R ≤ 12) (hC : 1 ≤ C) (hC2 : C ≤ 12) (P : Nat → Bool) : cntP (R * C) (fun i => P (ki C i)) = cntP 144 (fun k => decide (isC R C k) && P k) := by
  rw [cnt_ki hC hC2, cntP_cut (a := 12 * R) (b := 144) (by omega)]
  · apply cntP_congr
    intro k hk
    have : (k % 12 < C) ↔ isC R C k := ⟨fun h => ⟨by omega, h⟩, fun h => h.2⟩
    simp only [this]
  · intro k h1 h2
    have : ¬ isC R C k := fun h => by have := isC_lt h; omega
    simp [this]
/-- a bundle of the class, in the group g -/
def CB (Rf Cf : Nat → Nat) (g R C br bc : Nat) (pr pc ph : Nat → Nat) (σ : fx_M) : Prop := (R ≤ Rf g ∧ Rf g ≤ 12 ∧ R * C ≤ Rf g * Cf g) ∧ σ 15 g 4 = ((R * C : Nat) : Int) ∧ σ 15 g 5 = br ∧ σ 15 g 6 = bc ∧ (∀ i, i < R * C → σ 16 g i = pr (ki C i) ∧ σ 17 g i = pc (ki C i) ∧ σ 18 g i = ph (ki C i)) ∧ ∀ p, p < 12 * Rf g → σ 19 g p = siz R C pr pc p
theorem CB.of {Rf Cf : Nat → Nat} {g R C br bc : Nat} {pr pc ph : Nat → Nat} {σ σ' : fx_M} (h : CB Rf Cf g R C br bc pr pc ph σ) (hs : ∀ o i, 15 ≤ o → o ≤ 19 → σ' o g i = σ o g i) : CB Rf Cf g R C br bc pr pc ph σ' := by
  obtain ⟨h0, h1, h2, h3, h4, h5⟩ := h
  refine ⟨h0, by rw [hs _ _ (by omega) (by omega)]; exact h1, by rw [hs _ _ (by omega) (by omega)]; exact h2, by rw [hs _ _ (by omega) (by omega)]; exact h3, fun i hi => ?_, fun p hp => ?_⟩
  · rw [hs _ _ (by omega) (by omega), hs _ _ (by omega) (by omega), hs _ _ (by omega) (by omega)]
    exact h4 i hi
  · rw [hs _ _ (by omega) (by omega)]
    exact h5 p hp
/-- the part of it that sizes rest on -/
def CS (Rf : Nat → Nat) (g R C br bc : Nat) (pr pc : Nat → Nat) (σ : fx_M) : Prop := (R ≤ Rf g ∧ Rf g ≤ 12) ∧ σ 15 g 5 = br ∧ σ 15 g 6 = bc ∧ ∀ p, p < 12 * Rf g → σ 19 g p = siz R C pr pc p
theorem CB.cs {Rf Cf : Nat → Nat} {g R C br bc : Nat} {pr pc ph : Nat → Nat} {σ : fx_M} (h : CB Rf Cf g R C br bc pr pc ph σ) : CS Rf g R C br bc pr pc σ := ⟨⟨h.1.1, h.1.2.1⟩, h.2.2.1, h.2.2.2.1, h.2.2.2.2.2⟩
theorem CS.of {Rf : Nat → Nat} {g R C br bc : Nat} {pr pc : Nat → Nat} {σ σ' : fx_M} (h : CS Rf g R C br bc pr pc σ) (h1 : σ' 15 g 5 = σ 15 g 5) (h2 : σ' 15 g 6 = σ 15 g 6) (h3 : ∀ p, p < 12 * Rf g → σ' 19 g p = σ 19 g p) : CS Rf g R C br bc pr pc σ' := ⟨h.1, by rw [h1]; exact h.2.1, by rw [h2]; exact h.2.2.1, fun p hp => by rw [h3 p hp]; exact h.2.2.2 p hp⟩
theorem sp_sizeAt (Rf Cf : Nat → Nat) (nc : Nat) {g R C br bc : Nat} {pr pc ph : Nat → Nat} {σ : fx_M} (hB : BW R C br bc pr pc ph) (hC : CS Rf g R C br bc pr pc σ) (r n : Int) (hr : fx_in r) (hn : fx_in n) : fx_Ca (fx_S Rf Cf nc) 3 [.inr (some (15, g)), .inl r, .inl n] σ = some (some (.inl (szA R C br bc pr pc r n : Nat)), σ) := by
  obtain ⟨⟨a1, a2⟩, h2, h3, h5⟩ := id hC
  obtain ⟨⟨b1, b2⟩, ⟨b3, b4⟩, ⟨b5, b6⟩, ⟨b7, b8⟩, -⟩ := id hB
  rw [entX0_sizeAt]
  unfold szA
  by_cases q : 0 ≤ r ∧ r < br ∧ 0 ≤ n ∧ n < bc
  · rw [if_pos q]
    have i1 : (r * 12 + n).toNat = 12 * r.toNat + n.toNat := by omega
    have e := h5 (12 * r.toNat + n.toNat) (by omega)
    simp (disch := omega) only [eX0_sizeAt_0, eX0_sizeAt_1, eX0_sizeAt_4, eX0_sizeAt_5, eX0_sizeAt_6, eX0_sizeAt_9, eX0_sizeAt_12, eX0_sizeAt_13, eX0_sizeAt_16, eX0_sizeAt_17, eX0_sizeAt_18, eX0_sizeAt_21, eX0_sizeAt_24, eX0_sizeAt_25, eX0_sizeAt_28, eX0_sizeAt_29, eX0_sizeAt_32, eX0_sizeAt_33, eX0_sizeAt_35, eX0_sizeAt_36, eX0_sizeAt_37, eX0_sizeAt_38, eX0_sizeAt_39, fx_bd_some, Option.toList_some, Option.toList_none, List.nil_append, List.cons_append, fx_uo, fx_ui, Int.toNat_natCast, ↓reduceIte, Int.reduceEq, Int.reduceLT, Int.reduceLE, Int.reduceNeg, h2, h3, i1, e]
    grind
  · rw [if_neg q]
    simp (disch := omega) only [eX0_sizeAt_0, eX0_sizeAt_1, eX0_sizeAt_4, eX0_sizeAt_5, eX0_sizeAt_6, eX0_sizeAt_9, eX0_sizeAt_12, eX0_sizeAt_13, eX0_sizeAt_16, eX0_sizeAt_17, eX0_sizeAt_18, eX0_sizeAt_21, eX0_sizeAt_24, eX0_sizeAt_25, eX0_sizeAt_28, eX0_sizeAt_29, eX0_sizeAt_32, eX0_sizeAt_33, eX0_sizeAt_35, eX0_sizeAt_36, eX0_sizeAt_37, eX0_sizeAt_38, eX0_sizeAt_39, fx_bd_some, Option.toList_some, Option.toList_none, List.nil_append, List.cons_append, fx_uo, fx_ui, Int.toNat_natCast, ↓reduceIte, Int.reduceEq, Int.reduceLT, Int.reduceLE, Int.reduceNeg, h2, h3]
    grind
theorem sv91 : (fx_sv 91).getD 0 0 = -1 ∧ (fx_sv 91).getD 1 0 = 1 ∧ (fx_sv 91).getD 2 0 = 0 ∧ (fx_sv 91).getD 3 0 = 0 := ⟨rfl, rfl, rfl, rfl⟩
theorem sv92 : (fx_sv 92).getD 0 0 = 0 ∧ (fx_sv 92).getD 1 0 = 0 ∧ (fx_sv 92).getD 2 0 = -1 ∧ (fx_sv 92).getD 3 0 = 1 := ⟨rfl, rfl, rfl, rfl⟩
theorem sp_bareSide (Rf Cf : Nat → Nat) (nc : Nat) {g R C br bc : Nat} {pr pc ph : Nat → Nat} {σ : fx_M} (hB : BW R C br bc pr pc ph) (hC : CS Rf g R C br bc pr pc σ) (r n : Int) (hr : -1000 ≤ r ∧ r ≤ 1000) (hn : -1000 ≤ n ∧ n ≤ 1000) : fx_Ca (fx_S Rf Cf nc) 4 [.inr (some (15, g)), .inl r, .inl n] σ = some (some (.inl (if bare R C br bc pr pc r n then 1 else 0)), σ) := by
  have e := fun (r n : Int) (hr : fx_in r) (hn : fx_in n) => sp_sizeAt Rf Cf nc hB hC r n hr hn
  have l1 := szA_le R C br bc pr pc (r - 1) n
  have l2 := szA_le R C br bc pr pc (r + 1) n
  have l3 := szA_le R C br bc pr pc r (n - 1)
  have l4 := szA_le R C br bc pr pc r (n + 1)
  have k1 : r + -1 = r - 1 := by omega
  have k2 : n + -1 = n - 1 := by omega
  have k3 : r + 0 = r := by omega
  have k4 : n + 0 = n := by omega
  have stop : fx_E (fx_S Rf Cf nc) 4 2 [some (.inr (some (15, g))), some (.inl r), some (.inl n), some (.inl 4)] [] σ = some (some (.inl 0), σ) := by
    rw [eX0_hasBareSide_2]
    simp (disch := omega) only [eX0_hasBareSide_0, eX0_hasBareSide_1, eX0_hasBareSide_3, eX0_hasBareSide_6, eX0_hasBareSide_7, eX0_hasBareSide_10, eX0_hasBareSide_11, eX0_hasBareSide_12, eX0_hasBareSide_15, eX0_hasBareSide_16, eX0_hasBareSide_17, eX0_hasBareSide_18, eX0_hasBareSide_19, eX0_hasBareSide_22, eX0_hasBareSide_23, eX0_hasBareSide_24, eX0_hasBareSide_25, eX0_hasBareSide_28, eX0_hasBareSide_31, eX0_hasBareSide_32, eX0_hasBareSide_33, eX0_hasBareSide_36, eX0_hasBareSide_39, eX0_hasBareSide_40, fx_bd_some, Option.toList_some, Option.toList_none, List.nil_append, List.cons_append, fx_uo, fx_ui, Int.toNat_natCast, ↓reduceIte, Int.reduceEq, Int.reduceLT, Int.reduceLE, Int.reduceNeg]
  have s3 : fx_E (fx_S Rf Cf nc) 4 2 [some (.inr (some (15, g))), some (.inl r), some (.inl n), some (.inl 3)] [] σ = if (szA R C br bc pr pc r (n + 1) : Int) = 0 then some (some (.inl 1), σ) else some (some (.inl 0), σ) := by
    rw [eX0_hasBareSide_2]
    simp (disch := omega) only [eX0_hasBareSide_0, eX0_hasBareSide_1, eX0_hasBareSide_3, eX0_hasBareSide_6, eX0_hasBareSide_7, eX0_hasBareSide_10, eX0_hasBareSide_11, eX0_hasBareSide_12, eX0_hasBareSide_15, eX0_hasBareSide_16, eX0_hasBareSide_17, eX0_hasBareSide_18, eX0_hasBareSide_19, eX0_hasBareSide_22, eX0_hasBareSide_23, eX0_hasBareSide_24, eX0_hasBareSide_25, eX0_hasBareSide_28, eX0_hasBareSide_31, eX0_hasBareSide_32, eX0_hasBareSide_33, eX0_hasBareSide_36, eX0_hasBareSide_39, eX0_hasBareSide_40, fx_bd_some, Option.toList_some, Option.toList_none, List.nil_append, List.cons_append, fx_uo, fx_ui, Int.toNat_natCast, ↓reduceIte, Int.reduceEq, Int.reduceLT, Int.reduceLE, Int.reduceNeg, Int.reduceToNat, sv91, sv92, k3, e, Int.reduceAdd, stop]
  have s2 : fx_E (fx_S Rf Cf nc) 4 2 [some (.inr (some (15, g))), some (.inl r), some (.inl n), some (.inl 2)] [] σ = if (szA R C br bc pr pc r (n - 1) : Int) = 0 then some (some (.inl 1), σ) else if (szA R C br bc pr pc r (n + 1) : Int) = 0 then some (some (.inl 1), σ) else some (some (.inl 0), σ) := by
    rw [eX0_hasBareSide_2]
    simp (disch := omega) only [eX0_hasBareSide_0, eX0_hasBareSide_1, eX0_hasBareSide_3, eX0_hasBareSide_6, eX0_hasBareSide_7, eX0_hasBareSide_10, eX0_hasBareSide_11, eX0_hasBareSide_12, eX0_hasBareSide_15, eX0_hasBareSide_16, eX0_hasBareSide_17, eX0_hasBareSide_18, eX0_hasBareSide_19, eX0_hasBareSide_22, eX0_hasBareSide_23, eX0_hasBareSide_24, eX0_hasBareSide_25, eX0_hasBareSide_28, eX0_hasBareSide_31, eX0_hasBareSide_32, eX0_hasBareSide_33, eX0_hasBareSide_36, eX0_hasBareSide_39, eX0_hasBareSide_40, fx_bd_some, Option.toList_some, Option.toList_none, List.nil_append, List.cons_append, fx_uo, fx_ui, Int.toNat_natCast, ↓reduceIte, Int.reduceEq, Int.reduceLT, Int.reduceLE, Int.reduceNeg, Int.reduceToNat, sv91, sv92, k2, k3, e, Int.reduceAdd, s3]
  have s1 : fx_E (fx_S Rf Cf nc) 4 2 [some (.inr (some (15, g))), some (.inl r), some (.inl n), some (.inl 1)] [] σ = if (szA R C br bc pr pc (r + 1) n : Int) = 0 then some (some (.inl 1), σ) else if (szA R C br bc pr pc r (n - 1) : Int) = 0 then some (some (.inl 1), σ) else if (szA R C br bc pr pc r (n + 1) : Int) = 0 then some (some (.inl 1), σ) else some (some (.inl 0), σ) := by
    rw [eX0_hasBareSide_2]
    simp (disch := omega) only [eX0_hasBareSide_0, eX0_hasBareSide_1, eX0_hasBareSide_3, eX0_hasBareSide_6, eX0_hasBareSide_7, eX0_hasBareSide_10, eX0_hasBareSide_11, eX0_hasBareSide_12, eX0_hasBareSide_15, eX0_hasBareSide_16, eX0_hasBareSide_17, eX0_hasBareSide_18, eX0_hasBareSide_19, eX0_hasBareSide_22, eX0_hasBareSide_23, eX0_hasBareSide_24, eX0_hasBareSide_25, eX0_hasBareSide_28, eX0_hasBareSide_31, eX0_hasBareSide_32, eX0_hasBareSide_33, eX0_hasBareSide_36, eX0_hasBareSide_39, eX0_hasBareSide_40, fx_bd_some, Option.toList_some, Option.toList_none, List.nil_append, List.cons_append, fx_uo, fx_ui, Int.toNat_natCast, ↓reduceIte, Int.reduceEq, Int.reduceLT, Int.reduceLE, Int.reduceNeg, Int.reduceToNat, sv91, sv92, k4, e, Int.reduceAdd, s2]
  rw [entX0_hasBareSide]
  simp only [eX0_hasBareSide_0, eX0_hasBareSide_1, eX0_hasBareSide_3, eX0_hasBareSide_6, eX0_hasBareSide_7, eX0_hasBareSide_10, eX0_hasBareSide_11, eX0_hasBareSide_12, eX0_hasBareSide_15, eX0_hasBareSide_16, eX0_hasBareSide_17, eX0_hasBareSide_18, eX0_hasBareSide_19, eX0_hasBareSide_22, eX0_hasBareSide_23, eX0_hasBareSide_24, eX0_hasBareSide_25, eX0_hasBareSide_28, eX0_hasBareSide_31, eX0_hasBareSide_32, eX0_hasBareSide_33, eX0_hasBareSide_36, eX0_hasBareSide_39, eX0_hasBareSide_40]
  rw [eX0_hasBareSide_2]
  simp (disch := omega) only [eX0_hasBareSide_0, eX0_hasBareSide_1, eX0_hasBareSide_3, eX0_hasBareSide_6, eX0_hasBareSide_7, eX0_hasBareSide_10, eX0_hasBareSide_11, eX0_hasBareSide_12, eX0_hasBareSide_15, eX0_hasBareSide_16, eX0_hasBareSide_17, eX0_hasBareSide_18, eX0_hasBareSide_19, eX0_hasBareSide_22, eX0_hasBareSide_23, eX0_hasBareSide_24, eX0_hasBareSide_25, eX0_hasBareSide_28, eX0_hasBareSide_31, eX0_hasBareSide_32, eX0_hasBareSide_33, eX0_hasBareSide_36, eX0_hasBareSide_39, eX0_hasBareSide_40, fx_bd_some, Option.toList_some, Option.toList_none, List.nil_append, List.cons_append, fx_uo, fx_ui, Int.toNat_natCast, ↓reduceIte, Int.reduceEq, Int.reduceLT, Int.reduceLE, Int.reduceNeg, Int.reduceToNat, sv91, sv92, k1, k4, e, Int.reduceAdd, s1]
  unfold bare
  grind
/-! across a fold -/
def rA (kd ln : Nat) (r n : Int) : Int := if kd = 0 then r else if kd = 1 then 2 * (ln : Int) - 1 - r else n
def cA (kd ln : Nat) (r n : Int) : Int := if kd = 0 then 2 * (ln : Int) - 1 - n else if kd = 1 then n else r
theorem sp_rowAcross (Rf Cf : Nat → Nat) (nc : Nat) (σ : fx_M) (kd ln : Nat) (r n : Int) (h : kd < 3) : fx_Ca (fx_S Rf Cf nc) 13 [.inl (kd : Int), .inl (ln : Int), .inl r, .inl n] σ = some (some (.inl (rA kd ln r n)), σ) := by
  rw [entX0_rowAcross]
  simp (disch := omega) only [eX0_rowAcross_0, eX0_rowAcross_1, eX0_rowAcross_4, eX0_rowAcross_5, eX0_rowAcross_8, eX0_rowAcross_9, eX0_rowAcross_10, eX0_rowAcross_13, eX0_rowAcross_14, eX0_rowAcross_15, eX0_rowAcross_16, eX0_rowAcross_17, eX0_rowAcross_18, eX0_rowAcross_19, eX0_rowAcross_20, eX0_rowAcross_23, eX0_rowAcross_24, fx_bd_some, Option.toList_some, Option.toList_none, List.nil_append, List.cons_append, fx_uo, fx_ui, Int.toNat_natCast, ↓reduceIte, Int.reduceEq, Int.reduceLT, Int.reduceLE, Int.reduceNeg]
  unfold rA
  rcases (show kd = 0 ∨ kd = 1 ∨ kd = 2 by omega) with rfl | rfl | rfl <;> simp
theorem sp_columnAcross (Rf Cf : Nat → Nat) (nc : Nat) (σ : fx_M) (kd ln : Nat) (r n : Int) (h : kd < 3) : fx_Ca (fx_S Rf Cf nc) 14 [.inl (kd : Int), .inl (ln : Int), .inl r, .inl n] σ = some (some (.inl (cA kd ln r n)), σ) := by
  rw [entX0_columnAcross]
  simp (disch := omega) only [eX0_columnAcross_0, eX0_columnAcross_1, eX0_columnAcross_4, eX0_columnAcross_5, eX0_columnAcross_6, eX0_columnAcross_7, eX0_columnAcross_8, eX0_columnAcross_9, eX0_columnAcross_10, eX0_columnAcross_11, eX0_columnAcross_14, eX0_columnAcross_15, eX0_columnAcross_16, eX0_columnAcross_19, eX0_columnAcross_20, eX0_columnAcross_23, eX0_columnAcross_24, fx_bd_some, Option.toList_some, Option.toList_none, List.nil_append, List.cons_append, fx_uo, fx_ui, Int.toNat_natCast, ↓reduceIte, Int.reduceEq, Int.reduceLT, Int.reduceLE, Int.reduceNeg]
  unfold cA
  rcases (show kd = 0 ∨ kd = 1 ∨ kd = 2 by omega) with rfl | rfl | rfl <;> simp
theorem sp_comesB (Rf Cf : Nat → Nat) (nc : Nat) (σ : fx_M) (kd ln r n : Nat) (h : kd < 3) (h1 : ln < 100) (h2 : r < 100) (h3 : n < 100) : fx_Ca (fx_S Rf Cf nc) 12 [.inl (kd : Int), .inl (ln : Int), .inl (r : Int), .inl (n : Int)] σ = some (some (.inl (if mvB kd ln r n = true then 1 else 0)), σ) := by
  rw [entX0_comes]
  simp (disch := omega) only [eX0_comes_0, eX0_comes_1, eX0_comes_4, eX0_comes_5, eX0_comes_6, eX0_comes_9, eX0_comes_10, eX0_comes_13, eX0_comes_14, eX0_comes_17, eX0_comes_18, eX0_comes_19, eX0_comes_22, eX0_comes_23, eX0_comes_24, eX0_comes_27, eX0_comes_28, eX0_comes_31, eX0_comes_32, eX0_comes_35, eX0_comes_36, eX0_comes_37, eX0_comes_40, eX0_comes_41, eX0_comes_44, eX0_comes_45, fx_bd_some, Option.toList_some, Option.toList_none, List.nil_append, List.cons_append, fx_uo, fx_ui, Int.toNat_natCast, ↓reduceIte, Int.reduceEq, Int.reduceLT, Int.reduceLE, Int.reduceNeg]
  unfold mvB
  rcases (show kd = 0 ∨ kd = 1 ∨ kd = 2 by omega) with rfl | rfl | rfl <;> simp <;> grind
def mts (R C br bc : Nat) (pr pc : Nat → Nat) (kd ln : Nat) (r n : Int) : Nat := if kd = 2 ∧ r = n then 0 else szA R C br bc pr pc (rA kd ln r n) (cA kd ln r n)
theorem mts_le (R C br bc : Nat) (pr pc : Nat → Nat) (kd ln : Nat) (r n : Int) : mts R C br bc pr pc kd ln r n ≤ 144 := by
  unfold mts
  split
  · omega
  · exact szA_le _ _ _ _ _ _ _ _
theorem rA_bd {kd ln : Nat} {r n : Int} (h1 : ln < 100) (h2 : -1000 ≤ r ∧ r ≤ 1000) (h3 : -1000 ≤ n ∧ n ≤ 1000) : fx_in (rA kd ln r n) := by
  unfold rA; split
  · omega
  · split <;> omega
theorem cA_bd {kd ln : Nat} {r n : Int} (h1 : ln < 100) (h2 : -1000 ≤ r ∧ r ≤ 1000) (h3 : -1000 ≤ n ∧ n ≤ 1000) : fx_in (cA kd ln r n) := by
  unfold cA; split
  · omega
  · split <;> omega
theorem sp_matesOf (Rf Cf : Nat → Nat) (nc : Nat) {g R C br bc : Nat} {pr pc ph : Nat → Nat} {σ : fx_M} (hB : BW R C br bc pr pc ph) (hC : CS Rf g R C br bc pr pc σ) (kd ln : Nat) (r n : Int) (h : kd < 3) (h1 : ln < 100) (hr : -1000 ≤ r ∧ r ≤ 1000) (hn : -1000 ≤ n ∧ n ≤ 1000) : fx_Ca (fx_S Rf Cf nc) 11 [.inr (some (15, g)), .inl (kd : Int), .inl (ln : Int), .inl r, .inl n] σ = some (some (.inl (mts R C br bc pr pc kd ln r n : Nat)), σ) := by
  have e := sp_sizeAt Rf Cf nc hB hC (rA kd ln r n) (cA kd ln r n) (rA_bd h1 hr hn) (cA_bd h1 hr hn)
  have e1 := sp_rowAcross Rf Cf nc σ kd ln r n h
  have e2 := sp_columnAcross Rf Cf nc σ kd ln r n h
  rw [entX0_matesOf]
  simp (disch := omega) only [eX0_matesOf_0, eX0_matesOf_1, eX0_matesOf_2, eX0_matesOf_5, eX0_matesOf_6, eX0_matesOf_8, eX0_matesOf_11, eX0_matesOf_12, eX0_matesOf_15, eX0_matesOf_16, eX0_matesOf_18, eX0_matesOf_20, eX0_matesOf_23, eX0_matesOf_24, eX0_matesOf_27, eX0_matesOf_28, eX0_matesOf_29, eX0_matesOf_30, eX0_matesOf_31, eX0_matesOf_33, eX0_matesOf_36, eX0_matesOf_37, eX0_matesOf_38, eX0_matesOf_39, eX0_matesOf_41, eX0_matesOf_44, eX0_matesOf_47, fx_bd_some, Option.toList_some, Option.toList_none, List.nil_append, List.cons_append, fx_uo, fx_ui, Int.toNat_natCast, ↓reduceIte, Int.reduceEq, Int.reduceLT, Int.reduceLE, Int.reduceNeg, e1, e2, e]
  unfold mts
  grind
theorem sp_hasLine (Rf Cf : Nat → Nat) (nc : Nat) (σ : fx_M) (g : Nat) (kd ln : Int) (h1 : fx_in kd) (h2 : fx_in ln) (br bc : Nat) (hb : br ≤ 12) (hb2 : bc ≤ 12) (m3 : σ 15 g 5 = br) (m4 : σ 15 g 6 = bc) : fx_Ca (fx_S Rf Cf nc) 7 [.inr (some (15, g)), .inl kd, .inl ln] σ = some (some (.inl (if (kd = 0 ∧ 1 ≤ ln ∧ ln < bc) ∨ (kd = 1 ∧ 1 ≤ ln ∧ ln < br) ∨ (kd = 2 ∧ ln = 0) then 1 else 0)), σ) := by
  rw [entX0_hasLine]
  simp (disch := omega) only [eX0_hasLine_0, eX0_hasLine_1, eX0_hasLine_28, eX0_hasLine_29, eX0_hasLine_30, eX0_hasLine_33, eX0_hasLine_34, eX0_hasLine_35, eX0_hasLine_38, eX0_hasLine_41, eX0_hasLine_42, eX0_hasLine_45, eX0_hasLine_46, eX0_hasLine_47, eX0_hasLine_48, eX0_hasLine_49, eX0_hasLine_52, eX0_hasLine_53, eX0_hasLine_54, eX0_hasLine_57, eX0_hasLine_60, eX0_hasLine_61, eX0_hasLine_64, eX0_hasLine_65, eX0_hasLine_66, eX0_hasLine_67, eX0_hasLine_70, eX0_hasLine_71, eX0_hasLine_74, eX0_hasLine_75, eX0_hasLine_76, eX0_hasLine_77, fx_bd_some, Option.toList_some, Option.toList_none, List.nil_append, List.cons_append, fx_uo, fx_ui, Int.toNat_natCast, ↓reduceIte, Int.reduceEq, Int.reduceLT, Int.reduceLE, Int.reduceNeg, m3, m4]
  grind
theorem sp_canSlant (Rf Cf : Nat → Nat) (nc : Nat) (σ : fx_M) (g : Nat) (br bc : Nat) (hb : br ≤ 12) (hb2 : bc ≤ 12) (m3 : σ 15 g 5 = br) (m4 : σ 15 g 6 = bc) : fx_Ca (fx_S Rf Cf nc) 8 [.inr (some (15, g))] σ = some (some (.inl (if br = bc ∧ 1 < br then 1 else 0)), σ) := by
  rw [entX0_canSlant]
  simp (disch := omega) only [eX0_canSlant_0, eX0_canSlant_1, eX0_canSlant_4, eX0_canSlant_5, eX0_canSlant_8, eX0_canSlant_11, eX0_canSlant_12, eX0_canSlant_15, eX0_canSlant_16, eX0_canSlant_19, eX0_canSlant_20, eX0_canSlant_23, eX0_canSlant_24, fx_bd_some, Option.toList_some, Option.toList_none, List.nil_append, List.cons_append, fx_uo, fx_ui, Int.toNat_natCast, ↓reduceIte, Int.reduceEq, Int.reduceLT, Int.reduceLE, Int.reduceNeg, m3, m4]
  grind
