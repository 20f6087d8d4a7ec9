/-! slots of the cells in the seep's room -/
def stF (R C : Nat) (pr pc : Nat → Nat) (p : Nat) : Nat := smP p (fun _ => true) (siz R C pr pc)
theorem stF_succ (R C : Nat) (pr pc : Nat → Nat) (p : Nat) : stF R C pr pc (p + 1) = stF R C pr pc p + siz R C pr pc p := by simp [stF, smP]
theorem smP_cnt (n : Nat) (Q : Nat → Bool) (f : Nat → Nat) : ∀ m, smP m (fun _ => true) (fun p => cntP n (fun k => Q k && decide (f k = p))) = cntP n (fun k => Q k && decide (f k < m))
  | 0 => by
    simp only [smP]
    rw [cntP_zero]
    intro k _
    simp
  | m + 1 => by
    simp only [smP, if_true]
    rw [smP_cnt n Q f m]
    have h : ∀ n, cntP n (fun k => Q k && decide (f k < m)) + cntP n (fun k => Q k && decide (f k = m)) = cntP n (fun k => Q k && decide (f k < m + 1)) := by
      intro n
      induction n with
      | zero => rfl
      | succ n ih =>
        simp only [cntP]
        generalize cntP n (fun k => Q k && decide (f k < m)) = A at *
        generalize cntP n (fun k => Q k && decide (f k = m)) = B at *
        generalize cntP n (fun k => Q k && decide (f k < m + 1)) = D at *
        have e1 : Q n = true ∨ Q n = false := by cases Q n <;> simp
        rcases e1 with e1 | e1
        · by_cases h1 : f n < m
          · have h2 : f n < m + 1 := by omega
            have h3 : ¬ f n = m := by omega
            simp [e1, h1, h2, h3]; omega
          · by_cases h3 : f n = m
            · simp [e1, h3]; omega
            · have h2 : ¬ f n < m + 1 := by omega
              simp [e1, h1, h2, h3]; omega
        · simp [e1]; omega
    exact h n
theorem stF_le (R C : Nat) (pr pc : Nat → Nat) (p : Nat) : stF R C pr pc p ≤ 144 := by
  have e : stF R C pr pc p = cntP 144 (fun k => decide (isC R C k) && decide (12 * pr k + pc k < p)) := by
    rw [← smP_cnt]
    unfold stF
    refine smP_congr (fun p _ _ => ?_)
    show siz R C pr pc p = cntP 144 (fun k => decide (isC R C k) && decide (12 * pr k + pc k = p))
    unfold siz
    exact cntP_congr (fun k _ => by simp)
  rw [e]
  exact cntP_le _ _
theorem stF_mono (R C : Nat) (pr pc : Nat → Nat) {p q : Nat} (h : p ≤ q) : stF R C pr pc p ≤ stF R C pr pc q := by
  induction q with
  | zero => rw [show p = 0 by omega]; exact Nat.le_refl _
  | succ q ih =>
    by_cases hq : p = q + 1
    · rw [hq]; exact Nat.le_refl _
    · have := ih (by omega)
      rw [stF_succ]
      omega
theorem slot_lt {R C : Nat} {pr pc : Nat → Nat} {p h : Nat} (hh : h < siz R C pr pc p) : stF R C pr pc p + h < 144 := by
  have e1 := stF_succ R C pr pc p
  have e2 := stF_le R C pr pc (p + 1)
  omega
theorem slot_inj {R C : Nat} {pr pc : Nat → Nat} {p h p' h' : Nat} (hh : h < siz R C pr pc p) (hh' : h' < siz R C pr pc p') (e : stF R C pr pc p + h = stF R C pr pc p' + h') : p = p' ∧ h = h' := by
  have e1 := stF_succ R C pr pc p
  have e2 := stF_succ R C pr pc p'
  by_cases h1 : p < p'
  · have := stF_mono R C pr pc (show p + 1 ≤ p' by omega)
    omega
  · by_cases h2 : p' < p
    · have := stF_mono R C pr pc (show p' + 1 ≤ p by omega)
      omega
    · have h3 : p = p' := by omega
      subst h3
      exact ⟨rfl, by omega⟩
def sl (R C : Nat) (pr pc ph : Nat → Nat) (k : Nat) : Nat := stF R C pr pc (12 * pr k + pc k) + ph k
theorem sl_lt {R C br bc : Nat} {pr pc ph : Nat → Nat} (hB : BW R C br bc pr pc ph) {k : Nat} (hk : k < 144) (hkc : isC R C k) : sl R C pr pc ph k < 144 := slot_lt (hB.2.2.2.2.1 k hk hkc).2.2
theorem sl_inj {R C br bc : Nat} {pr pc ph : Nat → Nat} (hB : BW R C br bc pr pc ph) {k j : Nat} (hk : k < 144) (hkc : isC R C k) (hj : j < 144) (hjc : isC R C j) (e : sl R C pr pc ph k = sl R C pr pc ph j) : k = j := by
  obtain ⟨⟨b1, b2⟩, ⟨b3, b4⟩, ⟨b5, b6⟩, ⟨b7, b8⟩, b9, b10, b11⟩ := id hB
  obtain ⟨g1, g2, g3⟩ := b9 k hk hkc
  obtain ⟨f1, f2, f3⟩ := b9 j hj hjc
  obtain ⟨e1, e2⟩ := slot_inj g3 f3 e
  exact b11 k j hk hj hkc hjc (by omega) (by omega) e2
theorem siz_outC {R C br bc : Nat} {pr pc ph : Nat → Nat} (hB : BW R C br bc pr pc ph) (r n : Nat) (hn : bc ≤ n) (hn2 : n < 12) : siz R C pr pc (12 * r + n) = 0 := by
  obtain ⟨⟨b1, b2⟩, ⟨b3, b4⟩, ⟨b5, b6⟩, ⟨b7, b8⟩, b9, b10, b11⟩ := id hB
  unfold siz
  rw [cntP_zero]
  intro k hk
  rw [decide_eq_false_iff_not]
  rintro ⟨h1, h2⟩
  obtain ⟨g1, g2, -⟩ := b9 k hk h1
  omega
theorem stF_gap {R C br bc : Nat} {pr pc ph : Nat → Nat} (hB : BW R C br bc pr pc ph) (r : Nat) : stF R C pr pc (12 * (r + 1)) = stF R C pr pc (12 * r + bc) := by
  have key : ∀ d, bc + d ≤ 12 → stF R C pr pc (12 * r + (bc + d)) = stF R C pr pc (12 * r + bc) := by
    intro d
    induction d with
    | zero => intro _; rfl
    | succ d ih =>
      intro h
      rw [show 12 * r + (bc + (d + 1)) = 12 * r + (bc + d) + 1 by omega, stF_succ, siz_outC hB r (bc + d) (by omega) (by omega), Nat.add_zero]
      exact ih (by omega)
  have h12 : bc ≤ 12 := by have := hB.2.1.2; have := hB.2.2.2.1.2; omega
  rw [← key (12 - bc) (by omega)]
  congr 1
  omega
/-! the seep's room, as far as it is read -/
def SX (Rf : Nat → Nat) (g R C br bc : Nat) (pr pc : Nat → Nat) (L S : Int) (σ : fx_M) : Prop := CS Rf g R C br bc pr pc σ ∧ (∀ r n, r < br → n < bc → σ 4 0 (12 * r + n) = stF R C pr pc (12 * r + n)) ∧ σ 3 0 2 = L ∧ σ 3 0 3 = S
theorem SX.of {Rf : Nat → Nat} {g R C br bc : Nat} {pr pc : Nat → Nat} {L S : Int} {σ σ' : fx_M} (h : SX Rf g R C br bc pr pc L S σ) (hs : ∀ o k x, o ≠ 5 → σ' o k x = σ o k x) : SX Rf g R C br bc pr pc L S σ' := by
  obtain ⟨h1, h2, h3, h4⟩ := h
  refine ⟨h1.of (hs _ _ _ (by omega)) (hs _ _ _ (by omega)) (fun p hp => hs _ _ _ (by omega)), fun r n hr hn => by rw [hs _ _ _ (by omega)]; exact h2 r n hr hn, by rw [hs _ _ _ (by omega)]; exact h3, by rw [hs _ _ _ (by omega)]; exact h4⟩
def vl (R C br bc : Nat) (pr pc : Nat → Nat) (σ : fx_M) (r n h : Int) : Int := if 0 ≤ h ∧ h < szA R C br bc pr pc r n then σ 5 0 (stF R C pr pc (12 * r.toNat + n.toNat) + h.toNat) else 1000000
theorem vl_at {R C br bc : Nat} {pr pc ph : Nat → Nat} (hB : BW R C br bc pr pc ph) (σ : fx_M) {r n h : Int} {j : Nat} (ha : atC R C pr pc ph r n h j) : vl R C br bc pr pc σ r n h = σ 5 0 (sl R C pr pc ph j) := by
  have q := at_in hB ha
  unfold vl
  rw [if_pos ⟨q.1, q.2.1⟩]
  obtain ⟨h1, h2, rfl, rfl, rfl⟩ := ha
  unfold sl
  simp
theorem sp_minutesAt (Rf Cf : Nat → Nat) (nc : Nat) {g R C br bc : Nat} {pr pc ph : Nat → Nat} {L S : Int} {σ : fx_M} (hB : BW R C br bc pr pc ph) (hX : SX Rf g R C br bc pr pc L S σ) (r n h : Int) (hr : -1000 ≤ r ∧ r ≤ 1000) (hn : -1000 ≤ n ∧ n ≤ 1000) (hh : -1000 ≤ h ∧ h ≤ 1000) : fx_Ca (fx_S Rf Cf nc) 32 [.inr (some (3, 0)), .inr (some (15, g)), .inl r, .inl n, .inl h] σ = some (some (.inl (vl R C br bc pr pc σ r n h)), σ) := by
  have e1 := sp_sizeAt Rf Cf nc hB hX.1 r n (by omega) (by omega)
  have l1 := szA_le R C br bc pr pc r n
  rw [entX3_minutesAt]
  unfold vl
  by_cases q : 0 ≤ h ∧ h < szA R C br bc pr pc r n
  · rw [if_pos q]
    have q2 : 0 ≤ r ∧ r < br ∧ 0 ≤ n ∧ n < bc := by
      apply Classical.byContradiction
      intro hx
      have : szA R C br bc pr pc r n = 0 := by unfold szA; rw [if_neg hx]
      omega
    have hsz : szA R C br bc pr pc r n = siz R C pr pc (12 * r.toNat + n.toNat) := by unfold szA; rw [if_pos q2]
    have hlt := slot_lt (R := R) (C := C) (pr := pr) (pc := pc) (p := 12 * r.toNat + n.toNat) (h := h.toNat) (by omega)
    have b2 := hB.1.2
    have b4 := hB.2.1.2
    have b6 := hB.2.2.1.2
    have b8 := hB.2.2.2.1.2
    have i1 : (r * 12 + n).toNat = 12 * r.toNat + n.toNat := by omega
    have e2 := hX.2.1 r.toNat n.toNat (by omega) (by omega)
    have i2 : ((stF R C pr pc (12 * r.toNat + n.toNat) : Int) + h).toNat = stF R C pr pc (12 * r.toNat + n.toNat) + h.toNat := by omega
    simp (disch := omega) only [eX3_minutesAt_0, eX3_minutesAt_2, eX3_minutesAt_5, eX3_minutesAt_7, eX3_minutesAt_8, eX3_minutesAt_9, eX3_minutesAt_10, eX3_minutesAt_13, eX3_minutesAt_16, eX3_minutesAt_18, eX3_minutesAt_19, eX3_minutesAt_20, eX3_minutesAt_23, eX3_minutesAt_24, eX3_minutesAt_27, eX3_minutesAt_28, eX3_minutesAt_30, eX3_minutesAt_31, eX3_minutesAt_32, eX3_minutesAt_33, eX3_minutesAt_34, eX3_minutesAt_36, eX3_minutesAt_37, eX3_minutesAt_38, fx_bd_some, Option.toList_some, Option.toList_none, List.nil_append, List.cons_append, fx_uo, fx_ui, Int.toNat_natCast, ↓reduceIte, Int.reduceEq, Int.reduceLT, Int.reduceLE, Int.reduceNeg, e1, i1, e2, i2]
    rw [if_neg (by omega), if_pos (by omega)]
  · rw [if_neg q]
    simp (disch := omega) only [eX3_minutesAt_0, eX3_minutesAt_2, eX3_minutesAt_5, eX3_minutesAt_7, eX3_minutesAt_8, eX3_minutesAt_9, eX3_minutesAt_10, eX3_minutesAt_13, eX3_minutesAt_16, eX3_minutesAt_18, eX3_minutesAt_20, eX3_minutesAt_23, eX3_minutesAt_24, eX3_minutesAt_27, eX3_minutesAt_28, eX3_minutesAt_30, eX3_minutesAt_31, eX3_minutesAt_32, eX3_minutesAt_33, eX3_minutesAt_34, eX3_minutesAt_36, eX3_minutesAt_37, eX3_minutesAt_38, fx_bd_some, Option.toList_some, Option.toList_none, List.nil_append, List.cons_append, fx_uo, fx_ui, Int.toNat_natCast, ↓reduceIte, Int.reduceEq, Int.reduceLT, Int.reduceLE, Int.reduceNeg, e1]
    by_cases q0 : h < 0
    · rw [if_pos (by omega)]
    · rw [if_neg (by omega), if_neg (by omega)]
/-! one step of the seep -/
theorem edg_back {R C : Nat} {pr pc ph : Nat → Nat} {k i j : Nat} (hk : k < 144) (hkc : isC R C k) (he : edg R C pr pc ph k i j) : atC R C pr pc ph (pr j - d1 i) (pc j - d2 i) (ph j - d3 i) k := by
  obtain ⟨h1, h2, h3, h4, h5⟩ := he
  exact ⟨hk, hkc, by omega, by omega, by omega⟩
theorem edg_of {R C : Nat} {pr pc ph : Nat → Nat} {k i j : Nat} (hj : j < 144) (hjc : isC R C j) (ha : atC R C pr pc ph (pr j - d1 i) (pc j - d2 i) (ph j - d3 i) k) : edg R C pr pc ph k i j := by
  obtain ⟨h1, h2, h3, h4, h5⟩ := ha
  exact ⟨hj, hjc, by omega, by omega, by omega⟩
theorem sp_shorten (Rf Cf : Nat → Nat) (nc : Nat) {g R C br bc : Nat} {pr pc ph : Nat → Nat} {L S : Int} {σ : fx_M} (hB : BW R C br bc pr pc ph) (hX : SX Rf g R C br bc pr pc L S σ) (hL : 1 ≤ L ∧ L ≤ 100) (hS : 1 ≤ S ∧ S ≤ 100) (hd : ∀ j, j < 144 → isC R C j → 1 ≤ σ 5 0 (sl R C pr pc ph j) ∧ σ 5 0 (sl R C pr pc ph j) ≤ 1000000) (k : Nat) (hk : k < 144) (hkc : isC R C k) :
    ∃ (v : Int) (σ' : fx_M), fx_Ca (fx_S Rf Cf nc) 35 [.inr (some (3, 0)), .inr (some (15, g)), .inl (pr k : Int), .inl (pc k : Int), .inl (ph k : Int)] σ = some (some (.inl v), σ') ∧
      ((v = 0 ∧ σ' = σ ∧ ∀ k' i, k' < 144 → isC R C k' → i < 6 → edg R C pr pc ph k' i k → σ 5 0 (sl R C pr pc ph k) ≤ σ 5 0 (sl R C pr pc ph k') + wt L S i) ∨
       (v = 1 ∧ ∃ k' i, k' < 144 ∧ isC R C k' ∧ i < 6 ∧ edg R C pr pc ph k' i k ∧ σ 5 0 (sl R C pr pc ph k') + wt L S i < σ 5 0 (sl R C pr pc ph k) ∧ σ' = fx_up σ 5 0 (sl R C pr pc ph k) (σ 5 0 (sl R C pr pc ph k') + wt L S i) ∧ ∀ k'' i', k'' < 144 → isC R C k'' → i' < 6 → edg R C pr pc ph k'' i' k → σ 5 0 (sl R C pr pc ph k') + wt L S i ≤ σ 5 0 (sl R C pr pc ph k'') + wt L S i')) := by
  obtain ⟨⟨b1, b2⟩, ⟨b3, b4⟩, ⟨b5, b6⟩, ⟨b7, b8⟩, b9, b10, b11⟩ := id hB
  obtain ⟨x1, x2, x3, x4⟩ := id hX
  obtain ⟨g1, g2, g3⟩ := b9 k hk hkc
  have g4 := b10 (12 * pr k + pc k)
  have dk := hd k hk hkc
  have e2 := x2 (pr k) (pc k) g1 g2
  have i1 : ((pr k : Int) * 12 + (pc k : Int)).toNat = 12 * pr k + pc k := by omega
  have i2 : ((stF R C pr pc (12 * pr k + pc k) : Int) + (ph k : Int)).toNat = sl R C pr pc ph k := by unfold sl; omega
  have hlt : stF R C pr pc (12 * pr k + pc k) + ph k < 144 := sl_lt hB hk hkc
  rw [entX3_shorten]
  by_cases q1 : σ 5 0 (sl R C pr pc ph k) = 1
  · simp (disch := omega) only [eX3_shorten_0, eX3_shorten_1, eX3_shorten_4, eX3_shorten_5, eX3_shorten_7, eX3_shorten_8, eX3_shorten_9, eX3_shorten_10, eX3_shorten_11, eX3_shorten_13, eX3_shorten_14, eX3_shorten_16, eX3_shorten_17, eX3_shorten_20, eX3_shorten_22, eX3_shorten_23, eX3_shorten_24, eX3_shorten_27, eX3_shorten_28, eX3_shorten_30, eX3_shorten_33, eX3_shorten_34, eX3_shorten_35, eX3_shorten_36, eX3_shorten_37, eX3_shorten_39, eX3_shorten_40, eX3_shorten_41, eX3_shorten_44, eX3_shorten_45, eX3_shorten_46, eX3_shorten_47, eX3_shorten_48, eX3_shorten_50, eX3_shorten_51, eX3_shorten_52, eX3_shorten_55, eX3_shorten_58, eX3_shorten_59, eX3_shorten_61, eX3_shorten_62, eX3_shorten_66, eX3_shorten_69, eX3_shorten_70, eX3_shorten_73, eX3_shorten_74, eX3_shorten_75, eX3_shorten_76, eX3_shorten_79, eX3_shorten_81, eX3_shorten_82, eX3_shorten_83, eX3_shorten_84, eX3_shorten_87, eX3_shorten_89, eX3_shorten_90, eX3_shorten_91, eX3_shorten_93, eX3_shorten_96, eX3_shorten_98, eX3_shorten_100, eX3_shorten_101, eX3_shorten_104, eX3_shorten_106, eX3_shorten_107, eX3_shorten_110, eX3_shorten_112, eX3_shorten_115, eX3_shorten_118, eX3_shorten_120, eX3_shorten_121, eX3_shorten_124, eX3_shorten_126, eX3_shorten_127, eX3_shorten_130, eX3_shorten_131, eX3_shorten_132, eX3_shorten_133, eX3_shorten_136, eX3_shorten_138, eX3_shorten_140, eX3_shorten_141, eX3_shorten_142, fx_bd_some, Option.toList_some, Option.toList_none, List.nil_append, List.cons_append, fx_uo, fx_ui, Int.toNat_natCast, ↓reduceIte, Int.reduceEq, Int.reduceLT, Int.reduceLE, Int.reduceNeg, i1, e2, i2, q1]
    refine ⟨0, σ, rfl, Or.inl ⟨rfl, rfl, fun k' i hk' hkc' hi _ => ?_⟩⟩
    have := hd k' hk' hkc'
    have := wt_pos hL.1 hS.1 i
    omega
  · -- the six sides, by number
    have hA : ∀ k' i, k' < 144 → isC R C k' → edg R C pr pc ph k' i k → vl R C br bc pr pc σ (pr k - d1 i) (pc k - d2 i) (ph k - d3 i) = σ 5 0 (sl R C pr pc ph k') := fun k' i h1 h2 h3 => vl_at hB σ (edg_back h1 h2 h3)
    have hBk : ∀ i, vl R C br bc pr pc σ (pr k - d1 i) (pc k - d2 i) (ph k - d3 i) < 1000000 → ∃ k', k' < 144 ∧ isC R C k' ∧ edg R C pr pc ph k' i k := fun i h => by
      have h2 := h
      unfold vl at h
      split at h
      · rename_i hq
        obtain ⟨j, hj⟩ := at_ex hB hq.1 hq.2
        exact ⟨j, hj.1, hj.2.1, edg_of hk hkc hj⟩
      · omega
    have hle : ∀ r n h : Int, vl R C br bc pr pc σ r n h ≤ 1000000 ∧ 1 ≤ vl R C br bc pr pc σ r n h := fun r n h => by
      by_cases hq : 0 ≤ h ∧ h < szA R C br bc pr pc r n
      · obtain ⟨j, hj⟩ := at_ex hB hq.1 hq.2
        rw [vl_at hB σ hj]
        have := hd j hj.1 hj.2.1
        omega
      · unfold vl; rw [if_neg hq]; omega
    have y0 : vl R C br bc pr pc σ (pr k - d1 0) (pc k - d2 0) (ph k - d3 0) = vl R C br bc pr pc σ (pr k) (pc k) ((ph k : Int) + 1) := by congr 1 <;> simp [d1, d2, d3] <;> omega
    have y1 : vl R C br bc pr pc σ (pr k - d1 1) (pc k - d2 1) (ph k - d3 1) = vl R C br bc pr pc σ (pr k) (pc k) ((ph k : Int) - 1) := by congr 1 <;> simp [d1, d2, d3]
    have y2 : vl R C br bc pr pc σ (pr k - d1 2) (pc k - d2 2) (ph k - d3 2) = vl R C br bc pr pc σ ((pr k : Int) + 1) (pc k) (ph k) := by congr 1 <;> simp [d1, d2, d3] <;> omega
    have y3 : vl R C br bc pr pc σ (pr k - d1 3) (pc k - d2 3) (ph k - d3 3) = vl R C br bc pr pc σ ((pr k : Int) + -1) (pc k) (ph k) := by congr 1 <;> simp [d1, d2, d3] <;> omega
    have y4 : vl R C br bc pr pc σ (pr k - d1 4) (pc k - d2 4) (ph k - d3 4) = vl R C br bc pr pc σ (pr k) ((pc k : Int) + 1) (ph k) := by congr 1 <;> simp [d1, d2, d3] <;> omega
    have y5 : vl R C br bc pr pc σ (pr k - d1 5) (pc k - d2 5) (ph k - d3 5) = vl R C br bc pr pc σ (pr k) ((pc k : Int) + -1) (ph k) := by congr 1 <;> simp [d1, d2, d3] <;> omega
    have w0 : wt L S 0 = L := rfl
    have w1 : wt L S 1 = L := rfl
    have w2 : wt L S 2 = S := rfl
    have w3 : wt L S 3 = S := rfl
    have w4 : wt L S 4 = S := rfl
    have w5 : wt L S 5 = S := rfl
    have z0 := hle (pr k) (pc k) ((ph k : Int) + 1)
    have z1 := hle (pr k) (pc k) ((ph k : Int) - 1)
    have z2 := hle ((pr k : Int) + 1) (pc k) (ph k)
    have z3 := hle ((pr k : Int) + -1) (pc k) (ph k)
    have z4 := hle (pr k) ((pc k : Int) + 1) (ph k)
    have z5 := hle (pr k) ((pc k : Int) + -1) (ph k)
    have e := fun (r n h : Int) (hr : -1000 ≤ r ∧ r ≤ 1000) (hn : -1000 ≤ n ∧ n ≤ 1000) (hh : -1000 ≤ h ∧ h ≤ 1000) => sp_minutesAt Rf Cf nc hB hX r n h hr hn hh
    have k3 : (pr k : Int) + 0 = pr k := by omega
    have k4 : (pc k : Int) + 0 = pc k := by omega
    generalize hv0 : vl R C br bc pr pc σ (pr k) (pc k) ((ph k : Int) + 1) = v0 at *
    generalize hv1 : vl R C br bc pr pc σ (pr k) (pc k) ((ph k : Int) - 1) = v1 at *
    generalize hv2 : vl R C br bc pr pc σ ((pr k : Int) + 1) (pc k) (ph k) = v2 at *
    generalize hv3 : vl R C br bc pr pc σ ((pr k : Int) + -1) (pc k) (ph k) = v3 at *
    generalize hv4 : vl R C br bc pr pc σ (pr k) ((pc k : Int) + 1) (ph k) = v4 at *
    generalize hv5 : vl R C br bc pr pc σ (pr k) ((pc k : Int) + -1) (ph k) = v5 at *
    have fin : ∀ m, m = min (min (min (min (L + min v1 v0) (S + v3)) (S + v2)) (S + v5)) (S + v4) → ∀ (u : Option fx_V), ∃ (v : Int) (σ' : fx_M), fx_E (fx_S Rf Cf nc) 35 118 [some (.inr (some (3, 0))), some (.inr (some (15, g))), some (.inl (pr k : Int)), some (.inl (pc k : Int)), some (.inl (ph k : Int)), some (.inl ((stF R C pr pc (12 * pr k + pc k) : Int) + (ph k : Int))), some (.inl m), some (.inl 4), u] [] σ = some (some (.inl v), σ') ∧
      ((v = 0 ∧ σ' = σ ∧ ∀ k' i, k' < 144 → isC R C k' → i < 6 → edg R C pr pc ph k' i k → σ 5 0 (sl R C pr pc ph k) ≤ σ 5 0 (sl R C pr pc ph k') + wt L S i) ∨
       (v = 1 ∧ ∃ k' i, k' < 144 ∧ isC R C k' ∧ i < 6 ∧ edg R C pr pc ph k' i k ∧ σ 5 0 (sl R C pr pc ph k') + wt L S i < σ 5 0 (sl R C pr pc ph k) ∧ σ' = fx_up σ 5 0 (sl R C pr pc ph k) (σ 5 0 (sl R C pr pc ph k') + wt L S i) ∧ ∀ k'' i', k'' < 144 → isC R C k'' → i' < 6 → edg R C pr pc ph k'' i' k → σ 5 0 (sl R C pr pc ph k') + wt L S i ≤ σ 5 0 (sl R C pr pc ph k'') + wt L S i')) := by
      intro m hm u
      have hmin : ∀ k' i, k' < 144 → isC R C k' → i < 6 → edg R C pr pc ph k' i k → m ≤ σ 5 0 (sl R C pr pc ph k') + wt L S i := fun k' i h1 h2 h3 h4 => by
        have a := hA k' i h1 h2 h4
        rcases (show i = 0 ∨ i = 1 ∨ i = 2 ∨ i = 3 ∨ i = 4 ∨ i = 5 by omega) with rfl | rfl | rfl | rfl | rfl | rfl
        · rw [y0] at a; rw [w0]; omega
        · rw [y1] at a; rw [w1]; omega
        · rw [y2] at a; rw [w2]; omega
        · rw [y3] at a; rw [w3]; omega
        · rw [y4] at a; rw [w4]; omega
        · rw [y5] at a; rw [w5]; omega
      simp (disch := omega) only [eX3_shorten_0, eX3_shorten_1, eX3_shorten_4, eX3_shorten_5, eX3_shorten_7, eX3_shorten_8, eX3_shorten_9, eX3_shorten_10, eX3_shorten_11, eX3_shorten_13, eX3_shorten_14, eX3_shorten_16, eX3_shorten_17, eX3_shorten_20, eX3_shorten_22, eX3_shorten_23, eX3_shorten_24, eX3_shorten_27, eX3_shorten_28, eX3_shorten_29, eX3_shorten_30, eX3_shorten_33, eX3_shorten_34, eX3_shorten_35, eX3_shorten_36, eX3_shorten_37, eX3_shorten_39, eX3_shorten_40, eX3_shorten_41, eX3_shorten_44, eX3_shorten_45, eX3_shorten_46, eX3_shorten_47, eX3_shorten_48, eX3_shorten_50, eX3_shorten_51, eX3_shorten_52, eX3_shorten_55, eX3_shorten_58, eX3_shorten_59, eX3_shorten_61, eX3_shorten_62, eX3_shorten_66, eX3_shorten_69, eX3_shorten_70, eX3_shorten_73, eX3_shorten_74, eX3_shorten_75, eX3_shorten_76, eX3_shorten_79, eX3_shorten_81, eX3_shorten_82, eX3_shorten_83, eX3_shorten_84, eX3_shorten_87, eX3_shorten_89, eX3_shorten_90, eX3_shorten_91, eX3_shorten_93, eX3_shorten_96, eX3_shorten_98, eX3_shorten_100, eX3_shorten_101, eX3_shorten_104, eX3_shorten_106, eX3_shorten_107, eX3_shorten_110, eX3_shorten_112, eX3_shorten_115, eX3_shorten_118, eX3_shorten_120, eX3_shorten_121, eX3_shorten_124, eX3_shorten_126, eX3_shorten_127, eX3_shorten_130, eX3_shorten_131, eX3_shorten_132, eX3_shorten_133, eX3_shorten_136, eX3_shorten_138, eX3_shorten_140, eX3_shorten_141, eX3_shorten_142, fx_bd_some, Option.toList_some, Option.toList_none, List.nil_append, List.cons_append, fx_uo, fx_ui, Int.toNat_natCast, ↓reduceIte, Int.reduceEq, Int.reduceLT, Int.reduceLE, Int.reduceNeg, i2]
      by_cases q2 : m < σ 5 0 (sl R C pr pc ph k)
      · rw [if_pos (by omega)]
        have hat : ∃ i, i < 6 ∧ m = vl R C br bc pr pc σ (pr k - d1 i) (pc k - d2 i) (ph k - d3 i) + wt L S i := by
          rcases (show m = v0 + L ∨ m = v1 + L ∨ m = v2 + S ∨ m = v3 + S ∨ m = v4 + S ∨ m = v5 + S by omega) with q | q | q | q | q | q
          · exact ⟨0, by omega, by rw [y0, w0]; exact q⟩
          · exact ⟨1, by omega, by rw [y1, w1]; exact q⟩
          · exact ⟨2, by omega, by rw [y2, w2]; exact q⟩
          · exact ⟨3, by omega, by rw [y3, w3]; exact q⟩
          · exact ⟨4, by omega, by rw [y4, w4]; exact q⟩
          · exact ⟨5, by omega, by rw [y5, w5]; exact q⟩
        obtain ⟨i, hi, hmi⟩ := hat
        have hw := wt_pos hL.1 hS.1 i
        obtain ⟨k', c1, c2, c3⟩ := hBk i (by omega)
        have a := hA k' i c1 c2 c3
        rw [a] at hmi
        refine ⟨1, _, rfl, Or.inr ⟨rfl, k', i, c1, c2, hi, c3, by omega, by rw [hmi], fun k'' i' h1 h2 h3 h4 => ?_⟩⟩
        rw [← hmi]
        exact hmin k'' i' h1 h2 h3 h4
      · rw [if_neg (by omega)]
        refine ⟨0, σ, rfl, Or.inl ⟨rfl, rfl, fun k' i h1 h2 h3 h4 => ?_⟩⟩
        have := hmin k' i h1 h2 h3 h4
        omega
    simp (disch := omega) only [eX3_shorten_0, eX3_shorten_1, eX3_shorten_4, eX3_shorten_5, eX3_shorten_7, eX3_shorten_8, eX3_shorten_9, eX3_shorten_10, eX3_shorten_11, eX3_shorten_13, eX3_shorten_14, eX3_shorten_16, eX3_shorten_17, eX3_shorten_20, eX3_shorten_22, eX3_shorten_23, eX3_shorten_24, eX3_shorten_27, eX3_shorten_28, eX3_shorten_29, eX3_shorten_30, eX3_shorten_33, eX3_shorten_34, eX3_shorten_35, eX3_shorten_36, eX3_shorten_37, eX3_shorten_39, eX3_shorten_40, eX3_shorten_41, eX3_shorten_44, eX3_shorten_45, eX3_shorten_46, eX3_shorten_47, eX3_shorten_48, eX3_shorten_50, eX3_shorten_51, eX3_shorten_52, eX3_shorten_55, eX3_shorten_58, eX3_shorten_59, eX3_shorten_61, eX3_shorten_62, eX3_shorten_66, eX3_shorten_69, eX3_shorten_70, eX3_shorten_73, eX3_shorten_74, eX3_shorten_75, eX3_shorten_76, eX3_shorten_79, eX3_shorten_81, eX3_shorten_82, eX3_shorten_83, eX3_shorten_84, eX3_shorten_87, eX3_shorten_89, eX3_shorten_90, eX3_shorten_91, eX3_shorten_93, eX3_shorten_96, eX3_shorten_98, eX3_shorten_100, eX3_shorten_101, eX3_shorten_104, eX3_shorten_106, eX3_shorten_107, eX3_shorten_110, eX3_shorten_112, eX3_shorten_115, eX3_shorten_118, eX3_shorten_120, eX3_shorten_121, eX3_shorten_124, eX3_shorten_126, eX3_shorten_127, eX3_shorten_130, eX3_shorten_131, eX3_shorten_132, eX3_shorten_133, eX3_shorten_136, eX3_shorten_138, eX3_shorten_140, eX3_shorten_141, eX3_shorten_142, fx_bd_some, Option.toList_some, Option.toList_none, List.nil_append, List.cons_append, fx_uo, fx_ui, Int.toNat_natCast, ↓reduceIte, Int.reduceEq, Int.reduceLT, Int.reduceLE, Int.reduceNeg, i1, e2, i2, x3, e, hv0, hv1]
    rw [if_neg q1]
    rw [eX3_shorten_64]
    simp (disch := omega) only [eX3_shorten_0, eX3_shorten_1, eX3_shorten_4, eX3_shorten_5, eX3_shorten_7, eX3_shorten_8, eX3_shorten_9, eX3_shorten_10, eX3_shorten_11, eX3_shorten_13, eX3_shorten_14, eX3_shorten_16, eX3_shorten_17, eX3_shorten_20, eX3_shorten_22, eX3_shorten_23, eX3_shorten_24, eX3_shorten_27, eX3_shorten_28, eX3_shorten_29, eX3_shorten_30, eX3_shorten_33, eX3_shorten_34, eX3_shorten_35, eX3_shorten_36, eX3_shorten_37, eX3_shorten_39, eX3_shorten_40, eX3_shorten_41, eX3_shorten_44, eX3_shorten_45, eX3_shorten_46, eX3_shorten_47, eX3_shorten_48, eX3_shorten_50, eX3_shorten_51, eX3_shorten_52, eX3_shorten_55, eX3_shorten_58, eX3_shorten_59, eX3_shorten_61, eX3_shorten_62, eX3_shorten_66, eX3_shorten_69, eX3_shorten_70, eX3_shorten_73, eX3_shorten_74, eX3_shorten_75, eX3_shorten_76, eX3_shorten_79, eX3_shorten_81, eX3_shorten_82, eX3_shorten_83, eX3_shorten_84, eX3_shorten_87, eX3_shorten_89, eX3_shorten_90, eX3_shorten_91, eX3_shorten_93, eX3_shorten_96, eX3_shorten_98, eX3_shorten_100, eX3_shorten_101, eX3_shorten_104, eX3_shorten_106, eX3_shorten_107, eX3_shorten_110, eX3_shorten_112, eX3_shorten_115, eX3_shorten_120, eX3_shorten_121, eX3_shorten_124, eX3_shorten_126, eX3_shorten_127, eX3_shorten_130, eX3_shorten_131, eX3_shorten_132, eX3_shorten_133, eX3_shorten_136, eX3_shorten_138, eX3_shorten_140, eX3_shorten_141, eX3_shorten_142, fx_bd_some, Option.toList_some, Option.toList_none, List.nil_append, List.cons_append, fx_uo, fx_ui, Int.toNat_natCast, ↓reduceIte, Int.reduceEq, Int.reduceLT, Int.reduceLE, Int.reduceNeg, Int.reduceToNat, sv91, sv92, k3, k4, e, hv3, x4, Int.reduceAdd]
    rw [eX3_shorten_64]
    simp (disch := omega) only [eX3_shorten_0, eX3_shorten_1, eX3_shorten_4, eX3_shorten_5, eX3_shorten_7, eX3_shorten_8, eX3_shorten_9, eX3_shorten_10, eX3_shorten_11, eX3_shorten_13, eX3_shorten_14, eX3_shorten_16, eX3_shorten_17, eX3_shorten_20, eX3_shorten_22, eX3_shorten_23, eX3_shorten_24, eX3_shorten_27, eX3_shorten_28, eX3_shorten_29, eX3_shorten_30, eX3_shorten_33, eX3_shorten_34, eX3_shorten_35, eX3_shorten_36, eX3_shorten_37, eX3_shorten_39, eX3_shorten_40, eX3_shorten_41, eX3_shorten_44, eX3_shorten_45, eX3_shorten_46, eX3_shorten_47, eX3_shorten_48, eX3_shorten_50, eX3_shorten_51, eX3_shorten_52, eX3_shorten_55, eX3_shorten_58, eX3_shorten_59, eX3_shorten_61, eX3_shorten_62, eX3_shorten_66, eX3_shorten_69, eX3_shorten_70, eX3_shorten_73, eX3_shorten_74, eX3_shorten_75, eX3_shorten_76, eX3_shorten_79, eX3_shorten_81, eX3_shorten_82, eX3_shorten_83, eX3_shorten_84, eX3_shorten_87, eX3_shorten_89, eX3_shorten_90, eX3_shorten_91, eX3_shorten_93, eX3_shorten_96, eX3_shorten_98, eX3_shorten_100, eX3_shorten_101, eX3_shorten_104, eX3_shorten_106, eX3_shorten_107, eX3_shorten_110, eX3_shorten_112, eX3_shorten_115, eX3_shorten_120, eX3_shorten_121, eX3_shorten_124, eX3_shorten_126, eX3_shorten_127, eX3_shorten_130, eX3_shorten_131, eX3_shorten_132, eX3_shorten_133, eX3_shorten_136, eX3_shorten_138, eX3_shorten_140, eX3_shorten_141, eX3_shorten_142, fx_bd_some, Option.toList_some, Option.toList_none, List.nil_append, List.cons_append, fx_uo, fx_ui, Int.toNat_natCast, ↓reduceIte, Int.reduceEq, Int.reduceLT, Int.reduceLE, Int.reduceNeg, Int.reduceToNat, sv91, sv92, k3, k4, e, hv2, x4, Int.reduceAdd]
    rw [eX3_shorten_64]
    simp (disch := omega) only [eX3_shorten_0, eX3_shorten_1, eX3_shorten_4, eX3_shorten_5, eX3_shorten_7, eX3_shorten_8, eX3_shorten_9, eX3_shorten_10, eX3_shorten_11, eX3_shorten_13, eX3_shorten_14, eX3_shorten_16, eX3_shorten_17, eX3_shorten_20, eX3_shorten_22, eX3_shorten_23, eX3_shorten_24, eX3_shorten_27, eX3_shorten_28, eX3_shorten_29, eX3_shorten_30, eX3_shorten_33, eX3_shorten_34, eX3_shorten_35, eX3_shorten_36, eX3_shorten_37, eX3_shorten_39, eX3_shorten_40, eX3_shorten_41, eX3_shorten_44, eX3_shorten_45, eX3_shorten_46, eX3_shorten_47, eX3_shorten_48, eX3_shorten_50, eX3_shorten_51, eX3_shorten_52, eX3_shorten_55, eX3_shorten_58, eX3_shorten_59, eX3_shorten_61, eX3_shorten_62, eX3_shorten_66, eX3_shorten_69, eX3_shorten_70, eX3_shorten_73, eX3_shorten_74, eX3_shorten_75, eX3_shorten_76, eX3_shorten_79, eX3_shorten_81, eX3_shorten_82, eX3_shorten_83, eX3_shorten_84, eX3_shorten_87, eX3_shorten_89, eX3_shorten_90, eX3_shorten_91, eX3_shorten_93, eX3_shorten_96, eX3_shorten_98, eX3_shorten_100, eX3_shorten_101, eX3_shorten_104, eX3_shorten_106, eX3_shorten_107, eX3_shorten_110, eX3_shorten_112, eX3_shorten_115, eX3_shorten_120, eX3_shorten_121, eX3_shorten_124, eX3_shorten_126, eX3_shorten_127, eX3_shorten_130, eX3_shorten_131, eX3_shorten_132, eX3_shorten_133, eX3_shorten_136, eX3_shorten_138, eX3_shorten_140, eX3_shorten_141, eX3_shorten_142, fx_bd_some, Option.toList_some, Option.toList_none, List.nil_append, List.cons_append, fx_uo, fx_ui, Int.toNat_natCast, ↓reduceIte, Int.reduceEq, Int.reduceLT, Int.reduceLE, Int.reduceNeg, Int.reduceToNat, sv91, sv92, k3, k4, e, hv5, x4, Int.reduceAdd]
    rw [eX3_shorten_64]
    simp (disch := omega) only [eX3_shorten_0, eX3_shorten_1, eX3_shorten_4, eX3_shorten_5, eX3_shorten_7, eX3_shorten_8, eX3_shorten_9, eX3_shorten_10, eX3_shorten_11, eX3_shorten_13, eX3_shorten_14, eX3_shorten_16, eX3_shorten_17, eX3_shorten_20, eX3_shorten_22, eX3_shorten_23, eX3_shorten_24, eX3_shorten_27, eX3_shorten_28, eX3_shorten_29, eX3_shorten_30, eX3_shorten_33, eX3_shorten_34, eX3_shorten_35, eX3_shorten_36, eX3_shorten_37, eX3_shorten_39, eX3_shorten_40, eX3_shorten_41, eX3_shorten_44, eX3_shorten_45, eX3_shorten_46, eX3_shorten_47, eX3_shorten_48, eX3_shorten_50, eX3_shorten_51, eX3_shorten_52, eX3_shorten_55, eX3_shorten_58, eX3_shorten_59, eX3_shorten_61, eX3_shorten_62, eX3_shorten_66, eX3_shorten_69, eX3_shorten_70, eX3_shorten_73, eX3_shorten_74, eX3_shorten_75, eX3_shorten_76, eX3_shorten_79, eX3_shorten_81, eX3_shorten_82, eX3_shorten_83, eX3_shorten_84, eX3_shorten_87, eX3_shorten_89, eX3_shorten_90, eX3_shorten_91, eX3_shorten_93, eX3_shorten_96, eX3_shorten_98, eX3_shorten_100, eX3_shorten_101, eX3_shorten_104, eX3_shorten_106, eX3_shorten_107, eX3_shorten_110, eX3_shorten_112, eX3_shorten_115, eX3_shorten_120, eX3_shorten_121, eX3_shorten_124, eX3_shorten_126, eX3_shorten_127, eX3_shorten_130, eX3_shorten_131, eX3_shorten_132, eX3_shorten_133, eX3_shorten_136, eX3_shorten_138, eX3_shorten_140, eX3_shorten_141, eX3_shorten_142, fx_bd_some, Option.toList_some, Option.toList_none, List.nil_append, List.cons_append, fx_uo, fx_ui, Int.toNat_natCast, ↓reduceIte, Int.reduceEq, Int.reduceLT, Int.reduceLE, Int.reduceNeg, Int.reduceToNat, sv91, sv92, k3, k4, e, hv4, x4, Int.reduceAdd]
    rw [eX3_shorten_64]
    simp (disch := omega) only [eX3_shorten_0, eX3_shorten_1, eX3_shorten_4, eX3_shorten_5, eX3_shorten_7, eX3_shorten_8, eX3_shorten_9, eX3_shorten_10, eX3_shorten_11, eX3_shorten_13, eX3_shorten_14, eX3_shorten_16, eX3_shorten_17, eX3_shorten_20, eX3_shorten_22, eX3_shorten_23, eX3_shorten_24, eX3_shorten_27, eX3_shorten_28, eX3_shorten_29, eX3_shorten_30, eX3_shorten_33, eX3_shorten_34, eX3_shorten_35, eX3_shorten_36, eX3_shorten_37, eX3_shorten_39, eX3_shorten_40, eX3_shorten_41, eX3_shorten_44, eX3_shorten_45, eX3_shorten_46, eX3_shorten_47, eX3_shorten_48, eX3_shorten_50, eX3_shorten_51, eX3_shorten_52, eX3_shorten_55, eX3_shorten_58, eX3_shorten_59, eX3_shorten_61, eX3_shorten_62, eX3_shorten_66, eX3_shorten_69, eX3_shorten_70, eX3_shorten_73, eX3_shorten_74, eX3_shorten_75, eX3_shorten_76, eX3_shorten_79, eX3_shorten_81, eX3_shorten_82, eX3_shorten_83, eX3_shorten_84, eX3_shorten_87, eX3_shorten_89, eX3_shorten_90, eX3_shorten_91, eX3_shorten_93, eX3_shorten_96, eX3_shorten_98, eX3_shorten_100, eX3_shorten_101, eX3_shorten_104, eX3_shorten_106, eX3_shorten_107, eX3_shorten_110, eX3_shorten_112, eX3_shorten_115, eX3_shorten_120, eX3_shorten_121, eX3_shorten_124, eX3_shorten_126, eX3_shorten_127, eX3_shorten_130, eX3_shorten_131, eX3_shorten_132, eX3_shorten_133, eX3_shorten_136, eX3_shorten_138, eX3_shorten_140, eX3_shorten_141, eX3_shorten_142, fx_bd_some, Option.toList_some, Option.toList_none, List.nil_append, List.cons_append, fx_uo, fx_ui, Int.toNat_natCast, ↓reduceIte, Int.reduceEq, Int.reduceLT, Int.reduceLE, Int.reduceNeg, Int.reduceToNat]
    exact fin _ rfl _
