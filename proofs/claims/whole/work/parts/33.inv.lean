/-! what holds between calls -/
def I1 (nc : Nat) (σ : fx_M) : Prop := nc ≤ 6 ∧ σ 0 0 2 = nc ∧ σ 20 0 2 = nc ∧ (σ 1 0 0 = σ 20 0 17 ∧ σ 1 0 1 = σ 20 0 18 ∧ σ 1 0 2 = σ 20 0 19) ∧ (1 ≤ σ 20 0 17 ∧ σ 20 0 17 ≤ 9) ∧ (1 ≤ σ 20 0 18 ∧ σ 20 0 18 ≤ 9) ∧ (1 ≤ σ 20 0 19 ∧ σ 20 0 19 ≤ 20)
def I2 (σ : fx_M) : Prop := ∃ wr wc m : Nat, ((wr = 0 ∧ wc = 0) ∨ ((1 ≤ wr ∧ wr ≤ 4) ∧ (1 ≤ wc ∧ wc ≤ 4))) ∧ (σ 6 0 0 = wr ∧ σ 6 0 1 = wc ∧ σ 20 0 26 = wr ∧ σ 20 0 27 = wc ∧ σ 6 0 2 = m) ∧ m < 65536 ∧ (∀ k, k < 48 → σ 58 0 k = if isC wr wc k ∧ m.testBit (ix wc k) = true then 1 else 0) ∧ ∀ i, wr * wc ≤ i → m.testBit i = false
def I3 (σ : fx_M) : Prop := (σ 20 0 36 = 0 ∨ σ 20 0 36 = 1) ∧ (σ 20 0 35 = 0 ∨ σ 20 0 35 = 1) ∧ (0 ≤ σ 20 0 33 ∧ σ 20 0 33 ≤ 2) ∧ ∀ i j : Nat, i < 3 → j < 4 → σ 11 1 (4 * i + j) = if i = 2 then (if σ 20 0 36 = 1 ∧ σ 20 0 35 = 1 then σ 64 0 j else -1) else if σ 20 0 36 = 1 ∧ (i : Int) < σ 20 0 33 ∧ j < 3 then σ 62 0 (3 * i + j) else -1
def I4 (Rf Cf : Nat → Nat) : Prop := (Rf 6 = 4 ∧ Cf 6 = 4) ∧ (Rf 7 = 4 ∧ Cf 7 = 4) ∧ (Rf 8 = 4 ∧ Cf 8 = 4)
def I5 (nc : Nat) (σ : fx_M) : Prop := ∀ c, nc ≤ c → c < 7 → σ 40 0 c = 0 ∧ σ 41 0 c = 0 ∧ ∀ k, k < 144 → σ 33 0 (144 * c + k) = 0
def KG (Rf Cf : Nat → Nat) (g : Nat) (σ : fx_M) : Prop := ∃ (R C br bc f b so : Nat) (pr pc ph : Nat → Nat) (sh : Nat → Nat → Bool) (to : Int) (dp : Nat → Int), KP R C br bc f b so pr pc ph sh to dp ∧ KC Rf Cf g R C br bc f b so pr pc ph sh to dp σ ∧ KM g R C br bc f b so pr pc ph sh to dp σ
def Inv (Rf Cf : Nat → Nat) (nc : Nat) (σ : fx_M) : Prop := I1 nc σ ∧ (∀ g, g < nc → KG Rf Cf g σ) ∧ I2 σ ∧ I3 σ ∧ I4 Rf Cf ∧ I5 nc σ
/-- kinds that no call on a cloth changes -/
def gl (o k x : Nat) : Prop := o = 0 ∨ o = 1 ∨ o = 6 ∨ (o = 11 ∧ k = 1) ∨ (o = 20 ∧ x ≤ 36) ∨ o = 58 ∨ o = 62 ∨ o = 64
theorem I1.of {nc : Nat} {σ σ' : fx_M} (h : I1 nc σ) (hs : ∀ o k x, gl o k x → σ' o k x = σ o k x) : I1 nc σ' := by
  unfold I1 at *
  rw [hs 0 0 2 (by unfold gl; omega), hs 20 0 2 (by unfold gl; omega), hs 1 0 0 (by unfold gl; omega), hs 1 0 1 (by unfold gl; omega), hs 1 0 2 (by unfold gl; omega), hs 20 0 17 (by unfold gl; omega), hs 20 0 18 (by unfold gl; omega), hs 20 0 19 (by unfold gl; omega)]
  exact h
theorem I2.of {σ σ' : fx_M} (h : I2 σ) (hs : ∀ o k x, gl o k x → σ' o k x = σ o k x) : I2 σ' := by
  obtain ⟨wr, wc, m, h1, h2, h3, h4, h5⟩ := h
  refine ⟨wr, wc, m, h1, ?_, h3, fun k hk => ?_, h5⟩
  · rw [hs 6 0 0 (by unfold gl; omega), hs 6 0 1 (by unfold gl; omega), hs 6 0 2 (by unfold gl; omega), hs 20 0 26 (by unfold gl; omega), hs 20 0 27 (by unfold gl; omega)]
    exact h2
  · rw [hs 58 0 k (by unfold gl; omega)]
    exact h4 k hk
theorem I3.of {σ σ' : fx_M} (h : I3 σ) (hs : ∀ o k x, gl o k x → σ' o k x = σ o k x) : I3 σ' := by
  unfold I3 at *
  rw [hs 20 0 33 (by unfold gl; omega), hs 20 0 35 (by unfold gl; omega), hs 20 0 36 (by unfold gl; omega)]
  refine ⟨h.1, h.2.1, h.2.2.1, fun i j hi hj => ?_⟩
  rw [hs 11 1 _ (by unfold gl; omega), hs 64 0 j (by unfold gl; omega), hs 62 0 _ (by unfold gl; omega)]
  exact h.2.2.2 i j hi hj
theorem I5.of {nc : Nat} {σ σ' : fx_M} (h : I5 nc σ) (hm : ∀ c o i, nc ≤ c → c < 7 → inB c o i → σ' o 0 i = σ o 0 i) : I5 nc σ' := by
  intro c h1 h2
  obtain ⟨a1, a2, a3⟩ := h c h1 h2
  refine ⟨?_, ?_, fun k hk => ?_⟩
  · rw [hm c 40 c h1 h2 (by unfold inB; omega)]; exact a1
  · rw [hm c 41 c h1 h2 (by unfold inB; omega)]; exact a2
  · rw [hm c 33 _ h1 h2 (by unfold inB; omega)]; exact a3 k hk
theorem Inv.put {Rf Cf : Nat → Nat} {nc : Nat} {σ σ' : fx_M} (h : Inv Rf Cf nc σ) (g : Nat) (hg : g < nc) (hs : ∀ o k x, gl o k x → σ' o k x = σ o k x) (hc : ∀ o k x, 12 ≤ o → o ≤ 19 → k ≠ g → k < 6 → σ' o k x = σ o k x) (hm : ∀ c o i, c ≠ g → c < 7 → inB c o i → σ' o 0 i = σ o 0 i) (hK : KG Rf Cf g σ') : Inv Rf Cf nc σ' := by
  obtain ⟨h1, h2, h3, h4, h5, h6⟩ := h
  have hn := h1.1
  refine ⟨h1.of hs, fun g' hg' => ?_, h3.of hs, h4.of hs, h5, h6.of (fun c o i q1 q2 q3 => hm c o i (by omega) q2 q3)⟩
  by_cases q : g' = g
  · subst q; exact hK
  · obtain ⟨R, C, br, bc, f, b, so, pr, pc, ph, sh, to, dp, k1, k2, k3⟩ := h2 g' hg'
    exact ⟨R, C, br, bc, f, b, so, pr, pc, ph, sh, to, dp, k1, k2.of (fun o i q1 q2 => hc o g' i q1 q2 q (by omega)), k3.of (fun o i q1 => hm g' o i q (by omega) q1)⟩
theorem Inv.fr {Rf Cf : Nat → Nat} {nc : Nat} {σ σ' : fx_M} (h : Inv Rf Cf nc σ) (hs : ∀ o k x, gl o k x → σ' o k x = σ o k x) (hc : ∀ o k x, 12 ≤ o → o ≤ 19 → k < 6 → σ' o k x = σ o k x) (hm : ∀ c o i, c < 7 → inB c o i → σ' o 0 i = σ o 0 i) : Inv Rf Cf nc σ' := by
  obtain ⟨h1, h2, h3, h4, h5, h6⟩ := h
  have hn := h1.1
  refine ⟨h1.of hs, fun g' hg' => ?_, h3.of hs, h4.of hs, h5, h6.of (fun c o i q1 q2 q3 => hm c o i q2 q3)⟩
  obtain ⟨R, C, br, bc, f, b, so, pr, pc, ph, sh, to, dp, k1, k2, k3⟩ := h2 g' hg'
  exact ⟨R, C, br, bc, f, b, so, pr, pc, ph, sh, to, dp, k1, k2.of (fun o i q1 q2 => hc o g' i q1 q2 (by omega)), k3.of (fun o i q1 => hm g' o i (by omega) q1)⟩
/-- both answer alike, and all holds again -/
def Ag (Rf Cf : Nat → Nat) (nc z1 z2 : Nat) (as : List fx_V) (σ : fx_M) : Prop := ∃ (v : Int) (σ1 σ2 : fx_M), fx_Ca (fx_S Rf Cf nc) z1 (.inr (some (0, 0)) :: as) σ = some (some (.inl v), σ1) ∧ fx_Ca (fx_S Rf Cf nc) z2 (.inr (some (20, 0)) :: as) σ1 = some (some (.inl v), σ2) ∧ Inv Rf Cf nc σ2
theorem Ag.same {Rf Cf : Nat → Nat} {nc z1 z2 : Nat} {as : List fx_V} {σ : fx_M} (h : Inv Rf Cf nc σ) (v : Int) (h1 : fx_Ca (fx_S Rf Cf nc) z1 (.inr (some (0, 0)) :: as) σ = some (some (.inl v), σ)) (h2 : fx_Ca (fx_S Rf Cf nc) z2 (.inr (some (20, 0)) :: as) σ = some (some (.inl v), σ)) : Ag Rf Cf nc z1 z2 as σ := ⟨v, σ, σ, h1, h2, h⟩
theorem Inv.clY {Rf Cf : Nat → Nat} {nc : Nat} {σ : fx_M} (h : Inv Rf Cf nc σ) {g : Nat} (hg : g < nc) : fx_Ca (fx_S Rf Cf nc) 64 [.inr (some (0, 0)), .inl (g : Int)] σ = some (some (.inr (some (12, g))), σ) := by
  have hn := h.1.1
  rw [sp_clothOf Rf Cf nc σ g (by omega) hn h.1.2.1, if_pos (by omega), Int.toNat_natCast]
theorem Inv.clN {Rf Cf : Nat → Nat} {nc : Nat} {σ : fx_M} (h : Inv Rf Cf nc σ) {c : Int} (hi : fx_in c) (hc : ¬ (0 ≤ c ∧ c < nc)) : fx_Ca (fx_S Rf Cf nc) 64 [.inr (some (0, 0)), .inl c] σ = some (some (.inr none), σ) := by
  rw [sp_clothOf Rf Cf nc σ c hi h.1.1 h.1.2.1, if_neg hc]
theorem Inv.mcY {Rf Cf : Nat → Nat} {nc : Nat} {σ : fx_M} (h : I1 nc σ) {g : Nat} (hg : g < nc) : fx_Ca (fx_S Rf Cf nc) 73 [.inr (some (20, 0)), .inl (g : Int)] σ = some (some (.inl 1), σ) := by
  obtain ⟨h1, h2, h3, -⟩ := h
  rw [sp_isCloth Rf Cf nc σ g (by omega) (by rw [h3]; omega), h3, if_pos (by omega)]
theorem Inv.mcN {Rf Cf : Nat → Nat} {nc : Nat} {σ : fx_M} (h : I1 nc σ) {c : Int} (hi : fx_in c) (hc : ¬ (0 ≤ c ∧ c < nc)) : fx_Ca (fx_S Rf Cf nc) 73 [.inr (some (20, 0)), .inl c] σ = some (some (.inl 0), σ) := by
  obtain ⟨h1, h2, h3, -⟩ := h
  rw [sp_isCloth Rf Cf nc σ c hi (by rw [h3]; omega), h3, if_neg hc]
theorem sv90 : (fx_sv 90).getD 0 0 = 9 ∧ (fx_sv 90).getD 1 0 = 9 ∧ (fx_sv 90).getD 2 0 = 20 := ⟨rfl, rfl, rfl⟩
/-! rule -/
theorem ag_rule (Rf Cf : Nat → Nat) (nc : Nat) {σ : fx_M} (h : Inv Rf Cf nc σ) (w v : Int) (hw : fx_in w) (hv : fx_in v) : Ag Rf Cf nc 40 78 [.inl w, .inl v] σ := by
  obtain ⟨h1, h2, h3, h4, h5, h6⟩ := id h
  obtain ⟨i1, i2, i3, ⟨i4, i5, i6⟩, i7, i8, i9⟩ := id h1
  by_cases q : 0 ≤ w ∧ w ≤ 2
  · have key : ∀ (w0 : Nat) (x : Int), w0 = 0 ∧ x = 9 ∨ w0 = 1 ∧ x = 9 ∨ w0 = 2 ∧ x = 20 → 1 ≤ v ∧ v ≤ x → Inv Rf Cf nc (fx_up (fx_up σ 1 0 w0 v) 20 0 (17 + w0) v) := by
      intro w0 x hx hvx
      refine ⟨?_, fun g hg => ?_, ?_, ?_, h5, ?_⟩
      · unfold I1
        rcases hx with ⟨rfl, rfl⟩ | ⟨rfl, rfl⟩ | ⟨rfl, rfl⟩
        all_goals
          simp [fx_up]
          omega
      · obtain ⟨R, C, br, bc, f, b, so, pr, pc, ph, sh, to, dp, k1, k2, k3⟩ := h2 g hg
        refine ⟨R, C, br, bc, f, b, so, pr, pc, ph, sh, to, dp, k1, k2.of (fun o i q1 q2 => by rw [fx_uo (by omega), fx_uo (by omega)]), k3.of (fun o i q1 => ?_)⟩
        unfold inB at q1
        rw [fx_uo (by omega), fx_uo (by omega)]
      · obtain ⟨wr, wc, m, a1, a2, a3, a4, a5⟩ := h3
        refine ⟨wr, wc, m, a1, ?_, a3, fun k hk => ?_, a5⟩
        · rw [fx_uo (by omega), fx_uo (by omega), fx_uo (by omega), fx_uo (by omega), fx_ui, if_neg (by omega), fx_uo (by omega), fx_ui, if_neg (by omega), fx_uo (by omega), fx_uo (by omega), fx_uo (by omega)]
          exact a2
        · rw [fx_uo (by omega), fx_uo (by omega)]; exact a4 k hk
      · have e : ∀ x, 33 ≤ x → fx_up (fx_up σ 1 0 w0 v) 20 0 (17 + w0) v 20 0 x = σ 20 0 x := fun x hx' => by rw [fx_ui, if_neg (by omega), fx_uo (by omega)]
        have e2 : ∀ o k x, o ≠ 1 → o ≠ 20 → fx_up (fx_up σ 1 0 w0 v) 20 0 (17 + w0) v o k x = σ o k x := fun o k x q1 q2 => by rw [fx_uo (by omega), fx_uo (by omega)]
        unfold I3 at *
        rw [e 33 (by omega), e 35 (by omega), e 36 (by omega)]
        refine ⟨h4.1, h4.2.1, h4.2.2.1, fun i j hi hj => ?_⟩
        rw [e2 _ _ _ (by omega) (by omega), e2 _ _ _ (by omega) (by omega), e2 _ _ _ (by omega) (by omega)]
        exact h4.2.2.2 i j hi hj
      · exact h6.of (fun c o i q1 q2 q3 => by unfold inB at q3; rw [fx_uo (by omega), fx_uo (by omega)])
    rcases (show w = 0 ∨ w = 1 ∨ w = 2 by omega) with rfl | rfl | rfl
    · by_cases q1 : 1 ≤ v ∧ v ≤ 9
      · refine ⟨σ 20 0 17, fx_up σ 1 0 0 v, _, ?_, ?_, key 0 9 (by omega) q1⟩
        · rw [entX6_rule]
          simp (disch := omega) only [eX6_rule_0, eX6_rule_1, eX6_rule_4, eX6_rule_5, eX6_rule_6, eX6_rule_9, eX6_rule_10, eX6_rule_11, eX6_rule_14, eX6_rule_15, eX6_rule_18, eX6_rule_19, eX6_rule_20, eX6_rule_23, eX6_rule_24, eX6_rule_25, eX6_rule_26, eX6_rule_29, eX6_rule_30, eX6_rule_31, eX6_rule_32, eX6_rule_33, eX6_rule_36, eX6_rule_37, eX6_rule_38, eX6_rule_39, eX6_rule_40, fx_bd_some, Option.toList_some, Option.toList_none, List.nil_append, List.cons_append, fx_uo, fx_ui, Int.toNat_natCast, ↓reduceIte, Int.reduceEq, Int.reduceLT, Int.reduceLE, Int.reduceNeg, Int.reduceToNat, sv90, i4]
          repeat (first | rw [if_pos (by omega)] | rw [if_neg (by omega)])
        · rw [entX7_rule]
          simp (disch := omega) only [eX7_rule_0, eX7_rule_1, eX7_rule_2, eX7_rule_3, eX7_rule_6, eX7_rule_9, eX7_rule_10, eX7_rule_11, eX7_rule_12, eX7_rule_13, eX7_rule_16, eX7_rule_18, eX7_rule_21, eX7_rule_23, eX7_rule_26, eX7_rule_29, eX7_rule_30, eX7_rule_31, eX7_rule_32, eX7_rule_35, eX7_rule_36, eX7_rule_39, eX7_rule_42, eX7_rule_43, eX7_rule_44, eX7_rule_47, eX7_rule_48, eX7_rule_51, eX7_rule_54, eX7_rule_55, eX7_rule_58, eX7_rule_59, eX7_rule_60, eX7_rule_63, eX7_rule_64, eX7_rule_65, eX7_rule_68, eX7_rule_71, eX7_rule_72, eX7_rule_73, eX7_rule_76, eX7_rule_77, eX7_rule_78, eX7_rule_81, eX7_rule_84, eX7_rule_85, eX7_rule_86, eX7_rule_89, eX7_rule_90, fx_bd_some, Option.toList_some, Option.toList_none, List.nil_append, List.cons_append, fx_uo, fx_ui, Int.toNat_natCast, ↓reduceIte, Int.reduceEq, Int.reduceLT, Int.reduceLE, Int.reduceNeg, sp_within, q1, and_self]
      · refine Ag.same h (-1) ?_ ?_
        · rw [entX6_rule]
          simp (disch := omega) only [eX6_rule_0, eX6_rule_1, eX6_rule_4, eX6_rule_5, eX6_rule_6, eX6_rule_9, eX6_rule_10, eX6_rule_11, eX6_rule_14, eX6_rule_15, eX6_rule_18, eX6_rule_19, eX6_rule_20, eX6_rule_23, eX6_rule_24, eX6_rule_26, eX6_rule_29, eX6_rule_30, eX6_rule_31, eX6_rule_32, eX6_rule_33, eX6_rule_36, eX6_rule_37, eX6_rule_38, eX6_rule_39, eX6_rule_40, fx_bd_some, Option.toList_some, Option.toList_none, List.nil_append, List.cons_append, fx_uo, fx_ui, Int.toNat_natCast, ↓reduceIte, Int.reduceEq, Int.reduceLT, Int.reduceLE, Int.reduceNeg, Int.reduceToNat, sv90]
          by_cases q2 : v < 1
          · rw [if_pos q2]
          · rw [if_neg q2, if_pos (by omega)]
        · rw [entX7_rule]
          simp (disch := omega) only [eX7_rule_0, eX7_rule_1, eX7_rule_2, eX7_rule_3, eX7_rule_6, eX7_rule_9, eX7_rule_10, eX7_rule_11, eX7_rule_12, eX7_rule_13, eX7_rule_16, eX7_rule_18, eX7_rule_21, eX7_rule_23, eX7_rule_26, eX7_rule_29, eX7_rule_30, eX7_rule_32, eX7_rule_35, eX7_rule_36, eX7_rule_39, eX7_rule_42, eX7_rule_43, eX7_rule_44, eX7_rule_47, eX7_rule_48, eX7_rule_51, eX7_rule_54, eX7_rule_55, eX7_rule_58, eX7_rule_59, eX7_rule_60, eX7_rule_63, eX7_rule_64, eX7_rule_65, eX7_rule_68, eX7_rule_71, eX7_rule_72, eX7_rule_73, eX7_rule_76, eX7_rule_77, eX7_rule_78, eX7_rule_81, eX7_rule_84, eX7_rule_85, eX7_rule_86, eX7_rule_89, eX7_rule_90, fx_bd_some, Option.toList_some, Option.toList_none, List.nil_append, List.cons_append, fx_uo, fx_ui, Int.toNat_natCast, ↓reduceIte, Int.reduceEq, Int.reduceLT, Int.reduceLE, Int.reduceNeg, sp_within, q1, and_self]
    · by_cases q1 : 1 ≤ v ∧ v ≤ 9
      · refine ⟨σ 20 0 18, fx_up σ 1 0 1 v, _, ?_, ?_, key 1 9 (by omega) q1⟩
        · rw [entX6_rule]
          simp (disch := omega) only [eX6_rule_0, eX6_rule_1, eX6_rule_4, eX6_rule_5, eX6_rule_6, eX6_rule_9, eX6_rule_10, eX6_rule_11, eX6_rule_14, eX6_rule_15, eX6_rule_18, eX6_rule_19, eX6_rule_20, eX6_rule_23, eX6_rule_24, eX6_rule_25, eX6_rule_26, eX6_rule_29, eX6_rule_30, eX6_rule_31, eX6_rule_32, eX6_rule_33, eX6_rule_36, eX6_rule_37, eX6_rule_38, eX6_rule_39, eX6_rule_40, fx_bd_some, Option.toList_some, Option.toList_none, List.nil_append, List.cons_append, fx_uo, fx_ui, Int.toNat_natCast, ↓reduceIte, Int.reduceEq, Int.reduceLT, Int.reduceLE, Int.reduceNeg, Int.reduceToNat, sv90, i5]
          repeat (first | rw [if_pos (by omega)] | rw [if_neg (by omega)])
        · rw [entX7_rule]
          simp (disch := omega) only [eX7_rule_0, eX7_rule_1, eX7_rule_2, eX7_rule_3, eX7_rule_6, eX7_rule_9, eX7_rule_10, eX7_rule_11, eX7_rule_12, eX7_rule_13, eX7_rule_16, eX7_rule_18, eX7_rule_21, eX7_rule_23, eX7_rule_26, eX7_rule_29, eX7_rule_30, eX7_rule_31, eX7_rule_32, eX7_rule_35, eX7_rule_36, eX7_rule_39, eX7_rule_42, eX7_rule_43, eX7_rule_44, eX7_rule_47, eX7_rule_48, eX7_rule_51, eX7_rule_54, eX7_rule_55, eX7_rule_58, eX7_rule_59, eX7_rule_60, eX7_rule_63, eX7_rule_64, eX7_rule_65, eX7_rule_68, eX7_rule_71, eX7_rule_72, eX7_rule_73, eX7_rule_76, eX7_rule_77, eX7_rule_78, eX7_rule_81, eX7_rule_84, eX7_rule_85, eX7_rule_86, eX7_rule_89, eX7_rule_90, fx_bd_some, Option.toList_some, Option.toList_none, List.nil_append, List.cons_append, fx_uo, fx_ui, Int.toNat_natCast, ↓reduceIte, Int.reduceEq, Int.reduceLT, Int.reduceLE, Int.reduceNeg, sp_within, q1, and_self]
      · refine Ag.same h (-1) ?_ ?_
        · rw [entX6_rule]
          simp (disch := omega) only [eX6_rule_0, eX6_rule_1, eX6_rule_4, eX6_rule_5, eX6_rule_6, eX6_rule_9, eX6_rule_10, eX6_rule_11, eX6_rule_14, eX6_rule_15, eX6_rule_18, eX6_rule_19, eX6_rule_20, eX6_rule_23, eX6_rule_24, eX6_rule_26, eX6_rule_29, eX6_rule_30, eX6_rule_31, eX6_rule_32, eX6_rule_33, eX6_rule_36, eX6_rule_37, eX6_rule_38, eX6_rule_39, eX6_rule_40, fx_bd_some, Option.toList_some, Option.toList_none, List.nil_append, List.cons_append, fx_uo, fx_ui, Int.toNat_natCast, ↓reduceIte, Int.reduceEq, Int.reduceLT, Int.reduceLE, Int.reduceNeg, Int.reduceToNat, sv90]
          by_cases q2 : v < 1
          · rw [if_pos q2]
          · rw [if_neg q2, if_pos (by omega)]
        · rw [entX7_rule]
          simp (disch := omega) only [eX7_rule_0, eX7_rule_1, eX7_rule_2, eX7_rule_3, eX7_rule_6, eX7_rule_9, eX7_rule_10, eX7_rule_11, eX7_rule_12, eX7_rule_13, eX7_rule_16, eX7_rule_18, eX7_rule_21, eX7_rule_23, eX7_rule_26, eX7_rule_29, eX7_rule_30, eX7_rule_32, eX7_rule_35, eX7_rule_36, eX7_rule_39, eX7_rule_42, eX7_rule_43, eX7_rule_44, eX7_rule_47, eX7_rule_48, eX7_rule_51, eX7_rule_54, eX7_rule_55, eX7_rule_58, eX7_rule_59, eX7_rule_60, eX7_rule_63, eX7_rule_64, eX7_rule_65, eX7_rule_68, eX7_rule_71, eX7_rule_72, eX7_rule_73, eX7_rule_76, eX7_rule_77, eX7_rule_78, eX7_rule_81, eX7_rule_84, eX7_rule_85, eX7_rule_86, eX7_rule_89, eX7_rule_90, fx_bd_some, Option.toList_some, Option.toList_none, List.nil_append, List.cons_append, fx_uo, fx_ui, Int.toNat_natCast, ↓reduceIte, Int.reduceEq, Int.reduceLT, Int.reduceLE, Int.reduceNeg, sp_within, q1, and_self]
    · by_cases q1 : 1 ≤ v ∧ v ≤ 20
      · refine ⟨σ 20 0 19, fx_up σ 1 0 2 v, _, ?_, ?_, key 2 20 (by omega) q1⟩
        · rw [entX6_rule]
          simp (disch := omega) only [eX6_rule_0, eX6_rule_1, eX6_rule_4, eX6_rule_5, eX6_rule_6, eX6_rule_9, eX6_rule_10, eX6_rule_11, eX6_rule_14, eX6_rule_15, eX6_rule_18, eX6_rule_19, eX6_rule_20, eX6_rule_23, eX6_rule_24, eX6_rule_25, eX6_rule_26, eX6_rule_29, eX6_rule_30, eX6_rule_31, eX6_rule_32, eX6_rule_33, eX6_rule_36, eX6_rule_37, eX6_rule_38, eX6_rule_39, eX6_rule_40, fx_bd_some, Option.toList_some, Option.toList_none, List.nil_append, List.cons_append, fx_uo, fx_ui, Int.toNat_natCast, ↓reduceIte, Int.reduceEq, Int.reduceLT, Int.reduceLE, Int.reduceNeg, Int.reduceToNat, sv90, i6]
          repeat (first | rw [if_pos (by omega)] | rw [if_neg (by omega)])
        · rw [entX7_rule]
          simp (disch := omega) only [eX7_rule_0, eX7_rule_1, eX7_rule_2, eX7_rule_3, eX7_rule_6, eX7_rule_9, eX7_rule_10, eX7_rule_11, eX7_rule_12, eX7_rule_13, eX7_rule_16, eX7_rule_18, eX7_rule_21, eX7_rule_23, eX7_rule_26, eX7_rule_29, eX7_rule_30, eX7_rule_31, eX7_rule_32, eX7_rule_35, eX7_rule_36, eX7_rule_39, eX7_rule_42, eX7_rule_43, eX7_rule_44, eX7_rule_47, eX7_rule_48, eX7_rule_51, eX7_rule_54, eX7_rule_55, eX7_rule_58, eX7_rule_59, eX7_rule_60, eX7_rule_63, eX7_rule_64, eX7_rule_65, eX7_rule_68, eX7_rule_71, eX7_rule_72, eX7_rule_73, eX7_rule_76, eX7_rule_77, eX7_rule_78, eX7_rule_81, eX7_rule_84, eX7_rule_85, eX7_rule_86, eX7_rule_89, eX7_rule_90, fx_bd_some, Option.toList_some, Option.toList_none, List.nil_append, List.cons_append, fx_uo, fx_ui, Int.toNat_natCast, ↓reduceIte, Int.reduceEq, Int.reduceLT, Int.reduceLE, Int.reduceNeg, sp_within, q1, and_self]
      · refine Ag.same h (-1) ?_ ?_
        · rw [entX6_rule]
          simp (disch := omega) only [eX6_rule_0, eX6_rule_1, eX6_rule_4, eX6_rule_5, eX6_rule_6, eX6_rule_9, eX6_rule_10, eX6_rule_11, eX6_rule_14, eX6_rule_15, eX6_rule_18, eX6_rule_19, eX6_rule_20, eX6_rule_23, eX6_rule_24, eX6_rule_26, eX6_rule_29, eX6_rule_30, eX6_rule_31, eX6_rule_32, eX6_rule_33, eX6_rule_36, eX6_rule_37, eX6_rule_38, eX6_rule_39, eX6_rule_40, fx_bd_some, Option.toList_some, Option.toList_none, List.nil_append, List.cons_append, fx_uo, fx_ui, Int.toNat_natCast, ↓reduceIte, Int.reduceEq, Int.reduceLT, Int.reduceLE, Int.reduceNeg, Int.reduceToNat, sv90]
          by_cases q2 : v < 1
          · rw [if_pos q2]
          · rw [if_neg q2, if_pos (by omega)]
        · rw [entX7_rule]
          simp (disch := omega) only [eX7_rule_0, eX7_rule_1, eX7_rule_2, eX7_rule_3, eX7_rule_6, eX7_rule_9, eX7_rule_10, eX7_rule_11, eX7_rule_12, eX7_rule_13, eX7_rule_16, eX7_rule_18, eX7_rule_21, eX7_rule_23, eX7_rule_26, eX7_rule_29, eX7_rule_30, eX7_rule_32, eX7_rule_35, eX7_rule_36, eX7_rule_39, eX7_rule_42, eX7_rule_43, eX7_rule_44, eX7_rule_47, eX7_rule_48, eX7_rule_51, eX7_rule_54, eX7_rule_55, eX7_rule_58, eX7_rule_59, eX7_rule_60, eX7_rule_63, eX7_rule_64, eX7_rule_65, eX7_rule_68, eX7_rule_71, eX7_rule_72, eX7_rule_73, eX7_rule_76, eX7_rule_77, eX7_rule_78, eX7_rule_81, eX7_rule_84, eX7_rule_85, eX7_rule_86, eX7_rule_89, eX7_rule_90, fx_bd_some, Option.toList_some, Option.toList_none, List.nil_append, List.cons_append, fx_uo, fx_ui, Int.toNat_natCast, ↓reduceIte, Int.reduceEq, Int.reduceLT, Int.reduceLE, Int.reduceNeg, sp_within, q1, and_self]
  · refine Ag.same h (-1) ?_ ?_
    · rw [entX6_rule]
      by_cases q2 : w < 0
      · have : (w < 0) = True := eq_true q2
        simp (disch := omega) only [eX6_rule_0, eX6_rule_1, eX6_rule_4, eX6_rule_5, eX6_rule_6, eX6_rule_10, eX6_rule_11, eX6_rule_14, eX6_rule_15, eX6_rule_18, eX6_rule_19, eX6_rule_20, eX6_rule_23, eX6_rule_24, eX6_rule_25, eX6_rule_26, eX6_rule_29, eX6_rule_30, eX6_rule_31, eX6_rule_32, eX6_rule_33, eX6_rule_36, eX6_rule_37, eX6_rule_38, eX6_rule_39, eX6_rule_40, fx_bd_some, Option.toList_some, Option.toList_none, List.nil_append, List.cons_append, fx_uo, fx_ui, Int.toNat_natCast, ↓reduceIte, Int.reduceEq, Int.reduceLT, Int.reduceLE, Int.reduceNeg, this]
      · have a1 : (w < 0) = False := eq_false q2
        have a2 : ((2 : Int) < w) = True := eq_true (by omega)
        simp (disch := omega) only [eX6_rule_0, eX6_rule_1, eX6_rule_4, eX6_rule_5, eX6_rule_6, eX6_rule_10, eX6_rule_11, eX6_rule_14, eX6_rule_15, eX6_rule_18, eX6_rule_19, eX6_rule_20, eX6_rule_23, eX6_rule_24, eX6_rule_25, eX6_rule_26, eX6_rule_29, eX6_rule_30, eX6_rule_31, eX6_rule_32, eX6_rule_33, eX6_rule_36, eX6_rule_37, eX6_rule_38, eX6_rule_39, eX6_rule_40, fx_bd_some, Option.toList_some, Option.toList_none, List.nil_append, List.cons_append, fx_uo, fx_ui, Int.toNat_natCast, ↓reduceIte, Int.reduceEq, Int.reduceLT, Int.reduceLE, Int.reduceNeg, a1, a2]
    · rw [entX7_rule]
      simp (disch := omega) only [eX7_rule_0, eX7_rule_1, eX7_rule_2, eX7_rule_3, eX7_rule_6, eX7_rule_10, eX7_rule_11, eX7_rule_12, eX7_rule_13, eX7_rule_16, eX7_rule_18, eX7_rule_21, eX7_rule_23, eX7_rule_26, eX7_rule_29, eX7_rule_30, eX7_rule_31, eX7_rule_32, eX7_rule_35, eX7_rule_36, eX7_rule_39, eX7_rule_42, eX7_rule_43, eX7_rule_44, eX7_rule_47, eX7_rule_48, eX7_rule_51, eX7_rule_54, eX7_rule_55, eX7_rule_58, eX7_rule_59, eX7_rule_60, eX7_rule_63, eX7_rule_64, eX7_rule_65, eX7_rule_68, eX7_rule_71, eX7_rule_72, eX7_rule_73, eX7_rule_76, eX7_rule_77, eX7_rule_78, eX7_rule_81, eX7_rule_84, eX7_rule_85, eX7_rule_86, eX7_rule_89, eX7_rule_90, fx_bd_some, Option.toList_some, Option.toList_none, List.nil_append, List.cons_append, fx_uo, fx_ui, Int.toNat_natCast, ↓reduceIte, Int.reduceEq, Int.reduceLT, Int.reduceLE, Int.reduceNeg, sp_within, q]
/-! where a cell lies -/
theorem ag_place (Rf Cf : Nat → Nat) (nc : Nat) {σ : fx_M} (h : Inv Rf Cf nc σ) (c k : Int) (hc : fx_in c) (hk : fx_in k) : Ag Rf Cf nc 45 90 [.inl c, .inl k] σ := by
  by_cases q : 0 ≤ c ∧ c < nc
  · obtain ⟨g, rfl⟩ : ∃ g : Nat, c = g := ⟨c.toNat, by omega⟩
    have hg : g < nc := by omega
    have hn := h.1.1
    obtain ⟨R, C, br, bc, f, b, so, pr, pc, ph, sh, to, dp, k1, k2, k3⟩ := h.2.1 g hg
    have e1 := h.clY hg
    have e2 := Inv.mcY (Rf := Rf) (Cf := Cf) h.1 hg
    obtain ⟨⟨b1, b2⟩, ⟨b3, b4⟩, ⟨b5, b6⟩, ⟨b7, b8⟩, b9, b10, b11⟩ := id k1.1
    have e3 := sp_indexIn Rf Cf nc σ g k R C hk b2 b4 k2.2.2.1.1 k2.2.2.1.2.1
    have m1 : σ 30 0 g = R := k3.1.1
    have m2 : σ 31 0 g = C := k3.1.2.1
    have e4 := sp_isCell Rf Cf nc σ g k (by omega) hk (by omega) (by omega)
    rw [m1, m2] at e4
    by_cases hq : 0 ≤ k ∧ k / 12 < R ∧ k % 12 < C
    · obtain ⟨j, rfl⟩ : ∃ j : Nat, k = j := ⟨k.toNat, by omega⟩
      have hjc : isC R C j := ⟨by omega, by omega⟩
      have hj : j < 144 := by have := isC_lt hjc; omega
      rw [if_pos hq, Int.toNat_natCast] at e3
      rw [if_pos hq] at e4
      have hix := ix_lt hjc
      have hN : R * C ≤ 144 := Nat.mul_le_mul b2 b4
      have hl : Rf g * Cf g = R * C := by rw [k2.1.1, k2.1.2]
      obtain ⟨f1, f2, f3⟩ := k2.2.1.2.2.2.2.1 (ix C j) hix
      rw [ki_ix hjc] at f1 f2 f3
      obtain ⟨g1, g2, g3⟩ := k3.1.2.2.2.2 j hj hjc
      have i1 : (144 * (g : Int) + (j : Int)).toNat = 144 * g + j := by omega
      refine Ag.same h ((pr j : Int) * 24 + pc j) ?_ ?_
      · rw [entX6_place]
        simp (disch := omega) only [eX6_place_0, eX6_place_1, eX6_place_2, eX6_place_5, eX6_place_6, eX6_place_7, eX6_place_8, eX6_place_11, eX6_place_13, eX6_place_14_n, eX6_place_14_s, eX6_place_17, eX6_place_19, eX6_place_20, eX6_place_23, eX6_place_24, eX6_place_25, eX6_place_26, eX6_place_29, eX6_place_32, eX6_place_34, eX6_place_35, eX6_place_37, eX6_place_38, eX6_place_39, eX6_place_42, eX6_place_45, eX6_place_47, eX6_place_48, eX6_place_49, fx_bd_some, Option.toList_some, Option.toList_none, List.nil_append, List.cons_append, fx_uo, fx_ui, Int.toNat_natCast, ↓reduceIte, Int.reduceEq, Int.reduceLT, Int.reduceLE, Int.reduceNeg, e1, e3, f1, f2]
        try rw [if_neg (by omega)]
      · rw [entX7_place]
        simp (disch := omega) only [eX7_place_0, eX7_place_1, eX7_place_2, eX7_place_5, eX7_place_8, eX7_place_9, eX7_place_10, eX7_place_11, eX7_place_14, eX7_place_17, eX7_place_19, eX7_place_20, eX7_place_23, eX7_place_26, eX7_place_27, eX7_place_28, eX7_place_29, eX7_place_30, eX7_place_31, eX7_place_32, eX7_place_33, eX7_place_36, eX7_place_39, eX7_place_40, eX7_place_41, eX7_place_42, eX7_place_43, eX7_place_44, eX7_place_45, eX7_place_48, eX7_place_49, fx_bd_some, Option.toList_some, Option.toList_none, List.nil_append, List.cons_append, fx_uo, fx_ui, Int.toNat_natCast, ↓reduceIte, Int.reduceEq, Int.reduceLT, Int.reduceLE, Int.reduceNeg, e2, e4, i1, g1, g2]
        rw [Int.mul_comm]
    · rw [if_neg hq] at e3 e4
      refine Ag.same h (-1) ?_ ?_
      · rw [entX6_place]
        simp (disch := omega) only [eX6_place_0, eX6_place_1, eX6_place_2, eX6_place_5, eX6_place_6, eX6_place_7, eX6_place_8, eX6_place_11, eX6_place_13, eX6_place_14_n, eX6_place_14_s, eX6_place_17, eX6_place_19, eX6_place_20, eX6_place_23, eX6_place_24, eX6_place_25, eX6_place_26, eX6_place_29, eX6_place_32, eX6_place_34, eX6_place_35, eX6_place_37, eX6_place_38, eX6_place_39, eX6_place_42, eX6_place_45, eX6_place_47, eX6_place_48, eX6_place_49, fx_bd_some, Option.toList_some, Option.toList_none, List.nil_append, List.cons_append, fx_uo, fx_ui, Int.toNat_natCast, ↓reduceIte, Int.reduceEq, Int.reduceLT, Int.reduceLE, Int.reduceNeg, e1, e3]
      · rw [entX7_place]
        simp (disch := omega) only [eX7_place_0, eX7_place_1, eX7_place_2, eX7_place_5, eX7_place_8, eX7_place_9, eX7_place_10, eX7_place_11, eX7_place_14, eX7_place_17, eX7_place_19, eX7_place_20, eX7_place_23, eX7_place_26, eX7_place_27, eX7_place_28, eX7_place_29, eX7_place_30, eX7_place_31, eX7_place_32, eX7_place_33, eX7_place_36, eX7_place_39, eX7_place_40, eX7_place_41, eX7_place_42, eX7_place_43, eX7_place_44, eX7_place_45, eX7_place_48, eX7_place_49, fx_bd_some, Option.toList_some, Option.toList_none, List.nil_append, List.cons_append, fx_uo, fx_ui, Int.toNat_natCast, ↓reduceIte, Int.reduceEq, Int.reduceLT, Int.reduceLE, Int.reduceNeg, e2, e4]
  · have e1 := h.clN hc q
    have e2 := Inv.mcN (Rf := Rf) (Cf := Cf) h.1 hc q
    have e3 := sp_indexInN Rf Cf nc σ k
    refine Ag.same h (-1) ?_ ?_
    · rw [entX6_place]
      simp (disch := omega) only [eX6_place_0, eX6_place_1, eX6_place_2, eX6_place_5, eX6_place_6, eX6_place_7, eX6_place_8, eX6_place_11, eX6_place_13, eX6_place_14_n, eX6_place_14_s, eX6_place_17, eX6_place_19, eX6_place_20, eX6_place_23, eX6_place_24, eX6_place_25, eX6_place_26, eX6_place_29, eX6_place_32, eX6_place_34, eX6_place_35, eX6_place_37, eX6_place_38, eX6_place_39, eX6_place_42, eX6_place_45, eX6_place_47, eX6_place_48, eX6_place_49, fx_bd_some, Option.toList_some, Option.toList_none, List.nil_append, List.cons_append, fx_uo, fx_ui, Int.toNat_natCast, ↓reduceIte, Int.reduceEq, Int.reduceLT, Int.reduceLE, Int.reduceNeg, e1, e3]
    · rw [entX7_place]
      simp (disch := omega) only [eX7_place_0, eX7_place_1, eX7_place_2, eX7_place_5, eX7_place_8, eX7_place_9, eX7_place_10, eX7_place_11, eX7_place_14, eX7_place_17, eX7_place_19, eX7_place_20, eX7_place_23, eX7_place_26, eX7_place_27, eX7_place_28, eX7_place_29, eX7_place_30, eX7_place_31, eX7_place_32, eX7_place_33, eX7_place_36, eX7_place_39, eX7_place_40, eX7_place_41, eX7_place_42, eX7_place_43, eX7_place_44, eX7_place_45, eX7_place_48, eX7_place_49, fx_bd_some, Option.toList_some, Option.toList_none, List.nil_append, List.cons_append, fx_uo, fx_ui, Int.toNat_natCast, ↓reduceIte, Int.reduceEq, Int.reduceLT, Int.reduceLE, Int.reduceNeg, e2]
