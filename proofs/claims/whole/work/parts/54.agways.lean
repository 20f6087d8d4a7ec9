/-! way, nearly -/
theorem Inv.gen {Rf Cf : Nat → Nat} {nc : Nat} {σ σ' : fx_M} (h : Inv Rf Cf nc σ) (hs : ∀ o k x, (o = 0 ∨ o = 1 ∨ o = 6 ∨ (o = 20 ∧ x ≤ 32) ∨ o = 58) → σ' o k x = σ o k x) (hc : ∀ o k x, 12 ≤ o → o ≤ 19 → k < 6 → σ' o k x = σ o k x) (hm : ∀ c o i, c < 6 → inB c o i → σ' o 0 i = σ o 0 i) (h6 : ∀ o i, (((o = 40 ∨ o = 41) ∧ i = 6) ∨ o = 33) → σ' o 0 i = σ o 0 i) (h3 : I3 σ') : Inv Rf Cf nc σ' := by
  obtain ⟨g1, g2, g3, g4, g5, g6⟩ := h
  have hn := g1.1
  refine ⟨?_, fun g hg => ?_, ?_, h3, g5, fun c q1 q2 => ?_⟩
  · unfold I1 at *
    rw [hs 0 0 2 (by omega), hs 20 0 2 (by omega), hs 1 0 0 (by omega), hs 1 0 1 (by omega), hs 1 0 2 (by omega), hs 20 0 17 (by omega), hs 20 0 18 (by omega), hs 20 0 19 (by omega)]
    exact g1
  · obtain ⟨R, C, br, bc, f, b, so, pr, pc, ph, sh, to, dp, k1, k2, k3⟩ := g2 g hg
    exact ⟨R, C, br, bc, f, b, so, pr, pc, ph, sh, to, dp, k1, k2.of (fun o i q1 q2 => hc o g i q1 q2 (by omega)), k3.of (fun o i q1 => hm g o i (by omega) q1)⟩
  · obtain ⟨wr, wc, m, a1, a2, a3, a4, a5⟩ := g3
    refine ⟨wr, wc, m, a1, ?_, a3, fun k hk => by rw [hs _ _ _ (by omega)]; exact a4 k hk, a5⟩
    rw [hs 6 0 0 (by omega), hs 6 0 1 (by omega), hs 6 0 2 (by omega), hs 20 0 26 (by omega), hs 20 0 27 (by omega)]
    exact a2
  · obtain ⟨a1, a2, a3⟩ := g6 c q1 q2
    by_cases hc6 : c = 6
    · subst hc6
      exact ⟨by rw [h6 _ _ (by omega)]; exact a1, by rw [h6 _ _ (by omega)]; exact a2, fun k hk => by rw [h6 _ _ (by omega)]; exact a3 k hk⟩
    · exact ⟨by rw [hm c 40 c (by omega) (by unfold inB; omega)]; exact a1, by rw [hm c 41 c (by omega) (by unfold inB; omega)]; exact a2, fun k hk => by rw [hm c 33 _ (by omega) (by unfold inB; omega)]; exact a3 k hk⟩
theorem sp_wayBecome (Rf Cf : Nat → Nat) (nc : Nat) (σ : fx_M) : ∃ σ', fx_Ca (fx_S Rf Cf nc) 37 [.inr (some (10, 1)), .inr (some (10, 0))] σ = some (none, σ') ∧ (∀ o k x, ¬ (k = 1 ∧ (o = 10 ∨ o = 11)) → σ' o k x = σ o k x) ∧ σ' 10 1 1 = σ 10 0 1 ∧ ∀ x, x < 12 → σ' 11 1 x = σ 11 0 x := by
  refine ⟨fx_up (fx_cp σ 11 0 0 11 1 0 ((12 : Nat) : Int)) 10 1 1 (σ 10 0 1), ?_, fun o k x q => ?_, ?_, fun x hx => ?_⟩
  · rw [entX4_become]
    simp (disch := omega) only [eX4_become_0, eX4_become_1, eX4_become_4, eX4_become_5, eX4_become_6, eX4_become_9, eX4_become_10, eX4_become_11, eX4_become_14, eX4_become_15, eX4_become_18, eX4_become_19, eX4_become_20, eX4_become_23, eX4_become_26, fx_bd_some, Option.toList_some, Option.toList_none, List.nil_append, List.cons_append, fx_uo, fx_ui, Int.toNat_natCast, ↓reduceIte, Int.reduceEq, Int.reduceLT, Int.reduceLE, Int.reduceNeg, fx_co (show ¬ 10 = 11 by omega)]
  · unfold fx_up fx_cp
    rw [if_neg (by omega), if_neg (by omega)]
  · rw [fx_ui, if_pos rfl]
  · rw [fx_uo (by omega)]
    unfold fx_cp
    rw [if_pos (by simp; omega)]
    congr 1
    simp
theorem sp_isBathM (Rf Cf : Nat → Nat) (nc : Nat) {wr : Nat} (hwr : wr ≤ 4) (σ : fx_M) (mi st : Int) (hm : fx_in mi) (hs : fx_in st) (w : σ 20 0 26 = wr) : fx_Ca (fx_S Rf Cf nc) 125 [.inr (some (20, 0)), .inl mi, .inl st] σ = some (some (.inl (if 0 < wr ∧ (1 ≤ mi ∧ mi ≤ 99) ∧ 1 ≤ st ∧ st ≤ 15 then 1 else 0)), fx_up (fx_up σ 20 0 37 mi) 20 0 38 st) := by
  have w' : fx_up (fx_up σ 20 0 37 mi) 20 0 38 st 20 0 26 = wr := by rw [fx_ui, if_neg (by omega), fx_ui, if_neg (by omega)]; exact w
  rw [entX7_isBath]
  by_cases q0 : 0 < wr
  · by_cases q1 : 1 ≤ mi ∧ mi ≤ 99
    · by_cases q2 : 1 ≤ st ∧ st ≤ 15
      · simp (disch := omega) only [eX7_isBath_0, eX7_isBath_1, eX7_isBath_2, eX7_isBath_5, eX7_isBath_6, eX7_isBath_7, eX7_isBath_10, eX7_isBath_11, eX7_isBath_14, eX7_isBath_17, eX7_isBath_18, eX7_isBath_19, eX7_isBath_21, eX7_isBath_24, eX7_isBath_27, eX7_isBath_28, eX7_isBath_29, eX7_isBath_31, eX7_isBath_34, eX7_isBath_37, eX7_isBath_38, eX7_isBath_41, eX7_isBath_42, fx_bd_some, Option.toList_some, Option.toList_none, List.nil_append, List.cons_append, fx_uo, fx_ui, Int.toNat_natCast, ↓reduceIte, Int.reduceEq, Int.reduceLT, Int.reduceLE, Int.reduceNeg, w', sp_within, q1, q2, and_self]
        rw [if_pos (by omega), if_pos ⟨q0, trivial⟩]
      · simp (disch := omega) only [eX7_isBath_0, eX7_isBath_1, eX7_isBath_2, eX7_isBath_5, eX7_isBath_6, eX7_isBath_7, eX7_isBath_10, eX7_isBath_11, eX7_isBath_14, eX7_isBath_17, eX7_isBath_18, eX7_isBath_19, eX7_isBath_21, eX7_isBath_24, eX7_isBath_27, eX7_isBath_28, eX7_isBath_29, eX7_isBath_31, eX7_isBath_34, eX7_isBath_37, eX7_isBath_38, eX7_isBath_41, eX7_isBath_42, fx_bd_some, Option.toList_some, Option.toList_none, List.nil_append, List.cons_append, fx_uo, fx_ui, Int.toNat_natCast, ↓reduceIte, Int.reduceEq, Int.reduceLT, Int.reduceLE, Int.reduceNeg, w', sp_within, q1, eq_false q2, and_self, and_false, if_false]
        rw [if_pos (by omega)]
    · simp (disch := omega) only [eX7_isBath_0, eX7_isBath_1, eX7_isBath_2, eX7_isBath_5, eX7_isBath_6, eX7_isBath_7, eX7_isBath_10, eX7_isBath_11, eX7_isBath_14, eX7_isBath_17, eX7_isBath_18, eX7_isBath_19, eX7_isBath_21, eX7_isBath_24, eX7_isBath_27, eX7_isBath_28, eX7_isBath_29, eX7_isBath_31, eX7_isBath_34, eX7_isBath_37, eX7_isBath_38, eX7_isBath_41, eX7_isBath_42, fx_bd_some, Option.toList_some, Option.toList_none, List.nil_append, List.cons_append, fx_uo, fx_ui, Int.toNat_natCast, ↓reduceIte, Int.reduceEq, Int.reduceLT, Int.reduceLE, Int.reduceNeg, w', sp_within, eq_false q1, false_and, and_false, if_false]
      rw [if_pos (by omega)]
  · simp (disch := omega) only [eX7_isBath_0, eX7_isBath_1, eX7_isBath_2, eX7_isBath_5, eX7_isBath_6, eX7_isBath_7, eX7_isBath_10, eX7_isBath_11, eX7_isBath_14, eX7_isBath_17, eX7_isBath_18, eX7_isBath_19, eX7_isBath_21, eX7_isBath_24, eX7_isBath_27, eX7_isBath_28, eX7_isBath_29, eX7_isBath_31, eX7_isBath_34, eX7_isBath_37, eX7_isBath_38, eX7_isBath_41, eX7_isBath_42, fx_bd_some, Option.toList_some, Option.toList_none, List.nil_append, List.cons_append, fx_uo, fx_ui, Int.toNat_natCast, ↓reduceIte, Int.reduceEq, Int.reduceLT, Int.reduceLE, Int.reduceNeg, w']
    rw [if_neg (by omega), if_neg (by omega)]
/-- what the reference's search needs, out of what holds between calls -/
theorem Inv.mk {Rf Cf : Nat → Nat} {nc : Nat} {σ : fx_M} (h : Inv Rf Cf nc σ) {wr wc m : Nat} (w1 : (1 ≤ wr ∧ wr ≤ 4) ∧ (1 ≤ wc ∧ wc ≤ 4)) (w2 : σ 20 0 26 = wr ∧ σ 20 0 27 = wc) (w3 : ∀ k, k < 48 → σ 58 0 k = if isC wr wc k ∧ m.testBit (ix wc k) = true then 1 else 0) {mi st : Int} (hmi : 1 ≤ mi ∧ mi ≤ 99) (hst : 1 ≤ st ∧ st ≤ 15) : MK wr wc m mi st (fx_up (fx_up σ 20 0 37 mi) 20 0 38 st) := by
  obtain ⟨g1, g2, g3, g4, g5, g6⟩ := h
  obtain ⟨i1, i2, i3, i4, i5⟩ := g1
  have e : ∀ x, x ≤ 36 → fx_up (fx_up σ 20 0 37 mi) 20 0 38 st 20 0 x = σ 20 0 x := fun x hx => by rw [fx_ui, if_neg (by omega), fx_ui, if_neg (by omega)]
  refine ⟨w1, ?_, fun k hk => by rw [fx_uo (by omega), fx_uo (by omega)]; exact w3 k hk, ?_, ⟨?_, ?_, ?_⟩, hmi, hst⟩
  · rw [e 26 (by omega), e 27 (by omega)]; exact w2
  · rw [e 17 (by omega), e 18 (by omega), e 19 (by omega)]; exact i5
  · rw [fx_ui, if_neg (by omega), fx_ui, if_pos rfl]
  · rw [fx_ui, if_pos rfl]
  · rw [fx_uo (by omega), fx_uo (by omega)]
    exact (g6 6 (by omega) (by omega)).1
theorem mdls_eq (R C m : Nat) : gsc 1000000 (mdls R C m) = ((rsl R C m).1, fnd R C m) := by
  unfold mdls
  rw [List.append_nil]
  have hd : dif R C m oR oC noB ≤ 144 := cntP_le _ _
  exact ways_eq R C m 1000000 (by omega) (by omega)
theorem fnd_iff (R C m : Nat) : ((rsl R C m).1 = 0 ↔ (fnd R C m).isSome = true) := by
  have := (gsc_some (mdls R C m) 1000000 (by omega)).1
  rw [mdls_eq] at this
  exact this
theorem fnd_len {R C m : Nat} {w : Wy} (h : fnd R C m = some w) : w.1.length ≤ 2 := by
  have := (gsc_some (mdls R C m) 1000000 (by omega)).2 w (by rw [mdls_eq]; exact h)
  unfold mdls at this
  simp only [List.mem_append] at this
  rcases this with q | q | q | q | q | q | q
  · rw [(mdl_lab (by omega) q).1]; omega
  · rw [(mdl_lab (by omega) q).1]; omega
  · rw [(mdl_lab (by omega) q).1]; omega
  · rw [(mdl_lab (by omega) q).1]; omega
  · rw [(mdl_lab (by omega) q).1]; omega
  · rw [(mdl_lab (by omega) q).1]; omega
  · simp at q
theorem I3_way {σ σ' : fx_M} {w : Wy} (hlen : w.1.length ≤ 2) (hW : WF σ' 1 w) (hK : KW σ σ' w) : I3 σ' := by
  obtain ⟨k1, k2, k3, k4, k5, k6⟩ := hK
  unfold I3
  rw [k2, k4]
  refine ⟨Or.inr rfl, ?_, by omega, fun i j hi hj => ?_⟩
  · cases hw : w.2 with
    | none => exact Or.inl (k5 hw)
    | some q => exact Or.inr (k6 q hw).1
  · rw [hW.2 i j hi hj]
    by_cases hi2 : i = 2
    · rw [if_pos hi2, if_pos hi2]
      cases hw : w.2 with
      | none =>
        rw [k5 hw, if_neg (by omega)]
        obtain ⟨w1, w2⟩ := w
        simp only at hw
        rw [hw]
        rfl
      | some q =>
        rw [(k6 q hw).1, if_pos ⟨rfl, rfl⟩, (k6 q hw).2 j hj]
        obtain ⟨w1, w2⟩ := w
        simp only at hw
        rw [hw]
        rfl
    · rw [if_neg hi2, if_neg hi2]
      unfold ftv
      cases hf : w.1[i]? with
      | none =>
        have : w.1.length ≤ i := List.getElem?_eq_none_iff.mp hf
        rw [if_neg (by omega)]
      | some f =>
        obtain ⟨f1, f2, f3⟩ := k3 i f hf
        have hil : i < w.1.length := (List.getElem?_eq_some_iff.mp hf).1
        rcases (show j = 0 ∨ j = 1 ∨ j = 2 ∨ j = 3 by omega) with rfl | rfl | rfl | rfl
        · rw [if_pos (by omega)]; exact f1.symm
        · rw [if_pos (by omega)]; exact f2.symm
        · rw [if_pos (by omega)]; exact f3.symm
        · rw [if_neg (by omega)]; rfl
theorem Inv.b37 {Rf Cf : Nat → Nat} {nc : Nat} {σ : fx_M} (h : Inv Rf Cf nc σ) (mi st : Int) : Inv Rf Cf nc (fx_up (fx_up σ 20 0 37 mi) 20 0 38 st) :=
  h.fr (fun o k x q => by unfold gl at q; unfold fx_up; rw [if_neg (by omega), if_neg (by omega)]) (fun o k x q1 q2 q3 => by unfold fx_up; rw [if_neg (by omega), if_neg (by omega)]) (fun c o i q1 q2 => by unfold inB at q2; unfold fx_up; rw [if_neg (by omega), if_neg (by omega)])
theorem ag_way (Rf Cf : Nat → Nat) (nc : Nat) {σ : fx_M} (h : Inv Rf Cf nc σ) (mi st : Int) (hmi : fx_in mi) (hst : fx_in st) : Ag Rf Cf nc 60 126 [.inl mi, .inl st] σ := by
  obtain ⟨g1, g2, g3, g4, g5, g6⟩ := id h
  obtain ⟨wr, wc, m, w1, ⟨w2, w3, w4, w5, w6⟩, w7, w8, w9⟩ := id g3
  have e1 := sp_isBathC Rf Cf nc σ mi st hmi hst
  by_cases q : 0 < wr ∧ (1 ≤ mi ∧ mi ≤ 99) ∧ 1 ≤ st ∧ st ≤ 15
  · rw [if_pos q.2] at e1
    have w1' : (1 ≤ wr ∧ wr ≤ 4) ∧ (1 ≤ wc ∧ wc ≤ 4) := by omega
    obtain ⟨σ1, a1, a2, a3⟩ := sp_least Rf Cf nc g5 w1'.1 w1'.2 w7 w9 w2 w3 w6
    have hI1 : Inv Rf Cf nc σ1 := h.gen (fun o k x q => a2 o k x (by omega) (by omega)) (fun o k x q1 q2 q3 => a2 o k x (by omega) (by omega)) (fun c o i q1 q2 => a2 o 0 i (by unfold inB at q2; omega) (by unfold inB at q2; omega)) (fun o i q => a2 o 0 i (by omega) (by omega)) (g4.of (fun o k x q => a2 o k x (by unfold gl at q; omega) (by unfold gl at q; omega)))
    have hr : (rsl wr wc m).1 ≤ 144 := by
      have hd : d0 wr wc m ≤ 144 := cntP_le _ _
      exact Nat.le_trans (gsc_le _ _).1 hd
    cases hf : fnd wr wc m with
    | none =>
      have hpos : 0 < (rsl wr wc m).1 := by
        rcases Nat.eq_zero_or_pos (rsl wr wc m).1 with z | z
        · have := (fnd_iff wr wc m).mp z
          rw [hf] at this
          cases this
        · exact z
      have eM := sp_isBathM Rf Cf nc (wr := wr) (by omega) σ1 mi st hmi hst (by rw [a2 _ _ _ (by omega) (by omega)]; exact w4)
      rw [if_pos q] at eM
      have hK := hI1.mk (m := m) w1' ⟨by rw [a2 _ _ _ (by omega) (by omega)]; exact w4, by rw [a2 _ _ _ (by omega) (by omega)]; exact w5⟩ (fun k hk => by rw [a2 _ _ _ (by omega) (by omega)]; exact w8 k hk) q.2.1 q.2.2
      obtain ⟨σ2, b1, b2⟩ := sp_findWay Rf Cf nc true hK
      rw [mdls_eq, hf] at b2
      rcases b2 with ⟨-, b2⟩ | ⟨w, b2, -⟩
      · unfold Kw at b2
        rw [if_pos rfl] at b2
        refine ⟨-8, σ1, σ2, ?_, ?_, ?_⟩
        · rw [entX6_way]
          simp (disch := omega) only [eX6_way_0, eX6_way_1, eX6_way_2, eX6_way_5, eX6_way_8, eX6_way_9, eX6_way_12, eX6_way_15, eX6_way_18, eX6_way_19, eX6_way_20, eX6_way_21, eX6_way_24, eX6_way_25, eX6_way_28, eX6_way_31, eX6_way_34, eX6_way_36, eX6_way_37, eX6_way_38, eX6_way_41, eX6_way_42, eX6_way_45, eX6_way_48, eX6_way_51, eX6_way_52, eX6_way_55, eX6_way_58, fx_bd_some, Option.toList_some, Option.toList_none, List.nil_append, List.cons_append, fx_uo, fx_ui, Int.toNat_natCast, ↓reduceIte, Int.reduceEq, Int.reduceLT, Int.reduceLE, Int.reduceNeg, e1, w2, a1]
          rw [if_neg (by omega), if_pos (by omega)]
        · rw [entX7_way]
          simp (disch := omega) only [eX7_way_0, eX7_way_1, eX7_way_2, eX7_way_3, eX7_way_6, eX7_way_9, eX7_way_10, eX7_way_11, eX7_way_14, eX7_way_17, eX7_way_18, fx_bd_some, Option.toList_some, Option.toList_none, List.nil_append, List.cons_append, fx_uo, fx_ui, Int.toNat_natCast, ↓reduceIte, Int.reduceEq, Int.reduceLT, Int.reduceLE, Int.reduceNeg, eM, b2]
        · refine (hI1.b37 mi st).gen (fun o k x q => ?_) (fun o k x q1 q2 q3 => ?_) (fun c o i q1 q2 => ?_) (fun o i q => ?_) ((hI1.b37 mi st).2.2.2.1.of (fun o k x q => ?_))
          · rw [b1.1 o k x (by omega)]; unfold fx_up; rw [if_neg (by omega)]
          · rw [b1.1 o k x (by omega)]; unfold fx_up; rw [if_neg (by omega)]
          · unfold inB at q2
            rw [b1.1 o 0 i (by omega)]; unfold fx_up; rw [if_neg (by omega)]
          · rw [b1.1 o 0 i (by omega)]; unfold fx_up; rw [if_neg (by omega)]
          · unfold gl at q
            rw [b1.1 o k x (by omega)]; unfold fx_up; rw [if_neg (by omega)]
      · cases b2
    | some w =>
      have hz : (rsl wr wc m).1 = 0 := (fnd_iff wr wc m).mpr (by rw [hf]; rfl)
      obtain ⟨σ3, c1, c2, c3, c4⟩ := sp_wayBecome Rf Cf nc σ1
      have hW := a3 w hf
      have f3 : ∀ o k x, ¬ (k = 0 ∧ 7 ≤ o ∧ o ≤ 11) → ¬ (15 ≤ o ∧ o ≤ 19 ∧ 6 ≤ k ∧ k ≤ 8) → ¬ (k = 1 ∧ (o = 10 ∨ o = 11)) → σ3 o k x = σ o k x := fun o k x q1 q2 q3 => by rw [c2 o k x q3, a2 o k x q1 q2]
      have eM := sp_isBathM Rf Cf nc (wr := wr) (by omega) σ3 mi st hmi hst (by rw [f3 _ _ _ (by omega) (by omega) (by omega)]; exact w4)
      rw [if_pos q] at eM
      have hK : MK wr wc m mi st (fx_up (fx_up σ3 20 0 37 mi) 20 0 38 st) := by
        have := hI1.mk (m := m) w1' ⟨by rw [a2 _ _ _ (by omega) (by omega)]; exact w4, by rw [a2 _ _ _ (by omega) (by omega)]; exact w5⟩ (fun k hk => by rw [a2 _ _ _ (by omega) (by omega)]; exact w8 k hk) q.2.1 q.2.2
        refine this.of (fun o x q => ?_)
        unfold fx_up
        rw [c2 o 0 x (by omega)]
      obtain ⟨σ2, b1, b2⟩ := sp_findWay Rf Cf nc true hK
      rw [mdls_eq, hf] at b2
      rcases b2 with ⟨b2, -⟩ | ⟨w', b2, b3⟩
      · cases b2
      · obtain rfl : w = w' := by simpa using b2
        obtain ⟨σ4, b4, -, b5⟩ := b3
        have hKW := b5 rfl
        rw [if_pos rfl] at b4
        have f2 : ∀ o k x, ¬ (k = 0 ∧ ((o = 20 ∧ x = 39) ∨ (o = 42 ∧ x = 6) ∨ (43 ≤ o ∧ o ≤ 46 ∧ x = 36) ∨ (50 ≤ o ∧ o ≤ 55) ∨ (34 ≤ o ∧ o ≤ 36 ∧ 864 ≤ x ∧ x < 1008) ∨ ((o = 30 ∨ o = 31 ∨ o = 37 ∨ o = 38 ∨ o = 39) ∧ x = 6) ∨ (59 ≤ o ∧ o ≤ 61) ∨ o = 62 ∨ o = 64 ∨ (o = 20 ∧ 33 ≤ x))) → σ4 o k x = σ3 o k x := fun o k x q => by
          rw [hKW.1 o k x (by omega), b1.1 o k x (by omega)]
          unfold fx_up
          rw [if_neg (by omega), if_neg (by omega), if_neg (by omega)]
        refine ⟨(w.1.length : Int), σ3, σ4, ?_, ?_, ?_⟩
        · rw [entX6_way]
          rw [hz] at a1
          have c3' : σ3 10 1 1 = (w.1.length : Int) := by rw [c3]; exact hW.1
          simp (disch := omega) only [eX6_way_0, eX6_way_1, eX6_way_2, eX6_way_5, eX6_way_8, eX6_way_9, eX6_way_12, eX6_way_15, eX6_way_18, eX6_way_19, eX6_way_20, eX6_way_21, eX6_way_24, eX6_way_25, eX6_way_28, eX6_way_31, eX6_way_34, eX6_way_36, eX6_way_37, eX6_way_38, eX6_way_41, eX6_way_42, eX6_way_45, eX6_way_48, eX6_way_51, eX6_way_52, eX6_way_55, eX6_way_58, fx_bd_some, Option.toList_some, Option.toList_none, List.nil_append, List.cons_append, fx_uo, fx_ui, Int.toNat_natCast, ↓reduceIte, Int.reduceEq, Int.reduceLT, Int.reduceLE, Int.reduceNeg, e1, w2, a1, ic0, c1, c3']
          rw [if_neg (by omega)]
        · rw [entX7_way]
          simp (disch := omega) only [eX7_way_0, eX7_way_1, eX7_way_2, eX7_way_3, eX7_way_6, eX7_way_9, eX7_way_10, eX7_way_11, eX7_way_14, eX7_way_17, eX7_way_18, fx_bd_some, Option.toList_some, Option.toList_none, List.nil_append, List.cons_append, fx_uo, fx_ui, Int.toNat_natCast, ↓reduceIte, Int.reduceEq, Int.reduceLT, Int.reduceLE, Int.reduceNeg, eM, b4]
        · refine h.gen (fun o k x q => ?_) (fun o k x q1 q2 q3 => ?_) (fun c o i q1 q2 => ?_) (fun o i q => ?_) (I3_way (fnd_len hf) ?_ hKW)
          · rw [f2 o k x (by omega), f3 o k x (by omega) (by omega) (by omega)]
          · rw [f2 o k x (by omega), f3 o k x (by omega) (by omega) (by omega)]
          · unfold inB at q2
            rw [f2 o 0 i (by omega), f3 o 0 i (by omega) (by omega) (by omega)]
          · rw [f2 o 0 i (by omega), f3 o 0 i (by omega) (by omega) (by omega)]
          · refine ⟨?_, fun i j hi hj => ?_⟩
            · rw [f2 _ _ _ (by omega), c3]; exact hW.1
            · rw [f2 _ _ _ (by omega), c4 _ (by omega)]; exact hW.2 i j hi hj
  · have eM := sp_isBathM Rf Cf nc (wr := wr) (by omega) σ mi st hmi hst w4
    rw [if_neg q] at eM
    refine ⟨-1, σ, _, ?_, ?_, h.b37 mi st⟩
    · by_cases q2 : (1 ≤ mi ∧ mi ≤ 99) ∧ 1 ≤ st ∧ st ≤ 15
      · rw [if_pos q2] at e1
        rw [entX6_way]
        simp (disch := omega) only [eX6_way_0, eX6_way_1, eX6_way_2, eX6_way_5, eX6_way_8, eX6_way_9, eX6_way_12, eX6_way_15, eX6_way_18, eX6_way_19, eX6_way_20, eX6_way_21, eX6_way_24, eX6_way_25, eX6_way_34, eX6_way_36, eX6_way_37, eX6_way_38, eX6_way_41, eX6_way_42, eX6_way_45, eX6_way_48, eX6_way_51, eX6_way_52, eX6_way_55, eX6_way_58, fx_bd_some, Option.toList_some, Option.toList_none, List.nil_append, List.cons_append, fx_uo, fx_ui, Int.toNat_natCast, ↓reduceIte, Int.reduceEq, Int.reduceLT, Int.reduceLE, Int.reduceNeg, e1, w2]
        rw [if_pos (by omega)]
      · rw [if_neg q2] at e1
        rw [entX6_way]
        simp (disch := omega) only [eX6_way_0, eX6_way_1, eX6_way_2, eX6_way_5, eX6_way_8, eX6_way_9, eX6_way_12, eX6_way_15, eX6_way_18, eX6_way_19, eX6_way_20, eX6_way_21, eX6_way_24, eX6_way_25, eX6_way_28, eX6_way_31, eX6_way_34, eX6_way_36, eX6_way_37, eX6_way_38, eX6_way_41, eX6_way_42, eX6_way_45, eX6_way_48, eX6_way_51, eX6_way_52, eX6_way_55, eX6_way_58, fx_bd_some, Option.toList_some, Option.toList_none, List.nil_append, List.cons_append, fx_uo, fx_ui, Int.toNat_natCast, ↓reduceIte, Int.reduceEq, Int.reduceLT, Int.reduceLE, Int.reduceNeg, e1]
    · rw [entX7_way]
      simp (disch := omega) only [eX7_way_0, eX7_way_1, eX7_way_2, eX7_way_3, eX7_way_6, eX7_way_9, eX7_way_10, eX7_way_11, eX7_way_14, eX7_way_17, eX7_way_18, fx_bd_some, Option.toList_some, Option.toList_none, List.nil_append, List.cons_append, fx_uo, fx_ui, Int.toNat_natCast, ↓reduceIte, Int.reduceEq, Int.reduceLT, Int.reduceLE, Int.reduceNeg, eM]
theorem ag_nearly (Rf Cf : Nat → Nat) (nc : Nat) {σ : fx_M} (h : Inv Rf Cf nc σ) (mi st : Int) (hmi : fx_in mi) (hst : fx_in st) : Ag Rf Cf nc 61 127 [.inl mi, .inl st] σ := by
  obtain ⟨g1, g2, g3, g4, g5, g6⟩ := id h
  obtain ⟨wr, wc, m, w1, ⟨w2, w3, w4, w5, w6⟩, w7, w8, w9⟩ := id g3
  have e1 := sp_isBathC Rf Cf nc σ mi st hmi hst
  by_cases q : 0 < wr ∧ (1 ≤ mi ∧ mi ≤ 99) ∧ 1 ≤ st ∧ st ≤ 15
  · rw [if_pos q.2] at e1
    have w1' : (1 ≤ wr ∧ wr ≤ 4) ∧ (1 ≤ wc ∧ wc ≤ 4) := by omega
    obtain ⟨σ1, a1, a2, a3⟩ := sp_least Rf Cf nc g5 w1'.1 w1'.2 w7 w9 w2 w3 w6
    have hI1 : Inv Rf Cf nc σ1 := h.gen (fun o k x q => a2 o k x (by omega) (by omega)) (fun o k x q1 q2 q3 => a2 o k x (by omega) (by omega)) (fun c o i q1 q2 => a2 o 0 i (by unfold inB at q2; omega) (by unfold inB at q2; omega)) (fun o i q => a2 o 0 i (by omega) (by omega)) (g4.of (fun o k x q => a2 o k x (by unfold gl at q; omega) (by unfold gl at q; omega)))
    have eM := sp_isBathM Rf Cf nc (wr := wr) (by omega) σ1 mi st hmi hst (by rw [a2 _ _ _ (by omega) (by omega)]; exact w4)
    rw [if_pos q] at eM
    have hK := hI1.mk (m := m) w1' ⟨by rw [a2 _ _ _ (by omega) (by omega)]; exact w4, by rw [a2 _ _ _ (by omega) (by omega)]; exact w5⟩ (fun k hk => by rw [a2 _ _ _ (by omega) (by omega)]; exact w8 k hk) q.2.1 q.2.2
    obtain ⟨σ2, b1, b2⟩ := sp_findWay Rf Cf nc false hK
    rw [mdls_eq] at b1 b2
    have hInv : Inv Rf Cf nc σ2 := by
      refine (hI1.b37 mi st).gen (fun o k x q => ?_) (fun o k x q1 q2 q3 => ?_) (fun c o i q1 q2 => ?_) (fun o i q => ?_) ((hI1.b37 mi st).2.2.2.1.of (fun o k x q => ?_))
      · rw [b1.1 o k x (by omega)]; unfold fx_up; rw [if_neg (by omega)]
      · rw [b1.1 o k x (by omega)]; unfold fx_up; rw [if_neg (by omega)]
      · unfold inB at q2
        rw [b1.1 o 0 i (by omega)]; unfold fx_up; rw [if_neg (by omega)]
      · rw [b1.1 o 0 i (by omega)]; unfold fx_up; rw [if_neg (by omega)]
      · unfold gl at q
        rw [b1.1 o k x (by omega)]; unfold fx_up; rw [if_neg (by omega)]
    refine ⟨((rsl wr wc m).1 : Int), σ1, σ2, ?_, ?_, hInv⟩
    · rw [entX6_nearly]
      simp (disch := omega) only [eX6_nearly_0, eX6_nearly_1, eX6_nearly_2, eX6_nearly_5, eX6_nearly_8, eX6_nearly_9, eX6_nearly_12, eX6_nearly_15, eX6_nearly_18, eX6_nearly_19, eX6_nearly_20, eX6_nearly_21, eX6_nearly_24, eX6_nearly_25, eX6_nearly_28, eX6_nearly_31, fx_bd_some, Option.toList_some, Option.toList_none, List.nil_append, List.cons_append, fx_uo, fx_ui, Int.toNat_natCast, ↓reduceIte, Int.reduceEq, Int.reduceLT, Int.reduceLE, Int.reduceNeg, e1, w2, a1]
      rw [if_neg (by omega)]
    · have h39 := b1.2
      rcases b2 with ⟨b2, b3⟩ | ⟨w, b2, b3⟩
      · unfold Kw at b3
        rw [if_neg (by simp)] at b3
        rw [entX7_nearly]
        simp (disch := omega) only [eX7_nearly_0, eX7_nearly_1, eX7_nearly_2, eX7_nearly_3, eX7_nearly_6, eX7_nearly_9, eX7_nearly_10, eX7_nearly_11, eX7_nearly_12, eX7_nearly_13, eX7_nearly_16, eX7_nearly_19, eX7_nearly_20, eX7_nearly_23, eX7_nearly_24, eX7_nearly_27, fx_bd_some, Option.toList_some, Option.toList_none, List.nil_append, List.cons_append, fx_uo, fx_ui, Int.toNat_natCast, ↓reduceIte, Int.reduceEq, Int.reduceLT, Int.reduceLE, Int.reduceNeg, eM, b3, h39]
      · obtain ⟨σ4, b4, b5, -⟩ := b3
        have := b5 rfl
        subst this
        rw [if_neg (by simp)] at b4
        have hz : (rsl wr wc m).1 = 0 := (fnd_iff wr wc m).mpr (by rw [show fnd wr wc m = some w from b2]; rfl)
        have hlen := fnd_len (show fnd wr wc m = some w from b2)
        rw [entX7_nearly]
        simp (disch := omega) only [eX7_nearly_0, eX7_nearly_1, eX7_nearly_2, eX7_nearly_3, eX7_nearly_6, eX7_nearly_9, eX7_nearly_10, eX7_nearly_11, eX7_nearly_12, eX7_nearly_13, eX7_nearly_16, eX7_nearly_19, eX7_nearly_20, eX7_nearly_23, eX7_nearly_24, eX7_nearly_27, fx_bd_some, Option.toList_some, Option.toList_none, List.nil_append, List.cons_append, fx_uo, fx_ui, Int.toNat_natCast, ↓reduceIte, Int.reduceEq, Int.reduceLT, Int.reduceLE, Int.reduceNeg, eM, b4]
        rw [if_neg (by omega), hz]
        rfl
  · have eM := sp_isBathM Rf Cf nc (wr := wr) (by omega) σ mi st hmi hst w4
    rw [if_neg q] at eM
    refine ⟨-1, σ, _, ?_, ?_, h.b37 mi st⟩
    · by_cases q2 : (1 ≤ mi ∧ mi ≤ 99) ∧ 1 ≤ st ∧ st ≤ 15
      · rw [if_pos q2] at e1
        rw [entX6_nearly]
        simp (disch := omega) only [eX6_nearly_0, eX6_nearly_1, eX6_nearly_2, eX6_nearly_5, eX6_nearly_8, eX6_nearly_9, eX6_nearly_12, eX6_nearly_15, eX6_nearly_18, eX6_nearly_19, eX6_nearly_20, eX6_nearly_21, eX6_nearly_24, eX6_nearly_25, fx_bd_some, Option.toList_some, Option.toList_none, List.nil_append, List.cons_append, fx_uo, fx_ui, Int.toNat_natCast, ↓reduceIte, Int.reduceEq, Int.reduceLT, Int.reduceLE, Int.reduceNeg, e1, w2]
        rw [if_pos (by omega)]
      · rw [if_neg q2] at e1
        rw [entX6_nearly]
        simp (disch := omega) only [eX6_nearly_0, eX6_nearly_1, eX6_nearly_2, eX6_nearly_5, eX6_nearly_8, eX6_nearly_9, eX6_nearly_12, eX6_nearly_15, eX6_nearly_18, eX6_nearly_19, eX6_nearly_20, eX6_nearly_21, eX6_nearly_24, eX6_nearly_25, eX6_nearly_28, eX6_nearly_31, fx_bd_some, Option.toList_some, Option.toList_none, List.nil_append, List.cons_append, fx_uo, fx_ui, Int.toNat_natCast, ↓reduceIte, Int.reduceEq, Int.reduceLT, Int.reduceLE, Int.reduceNeg, e1]
    · rw [entX7_nearly]
      simp (disch := omega) only [eX7_nearly_0, eX7_nearly_1, eX7_nearly_2, eX7_nearly_3, eX7_nearly_6, eX7_nearly_9, eX7_nearly_10, eX7_nearly_11, eX7_nearly_12, eX7_nearly_13, eX7_nearly_16, eX7_nearly_19, eX7_nearly_20, eX7_nearly_23, eX7_nearly_24, eX7_nearly_27, fx_bd_some, Option.toList_some, Option.toList_none, List.nil_append, List.cons_append, fx_uo, fx_ui, Int.toNat_natCast, ↓reduceIte, Int.reduceEq, Int.reduceLT, Int.reduceLE, Int.reduceNeg, eM]
