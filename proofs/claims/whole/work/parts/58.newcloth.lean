/-! a cloth more: the reference's side, and what holds then -/
theorem KC.rf {Rf Cf Rf' Cf' : Nat → Nat} {g : Nat} {R C br bc f b so : Nat} {pr pc ph : Nat → Nat} {sh : Nat → Nat → Bool} {to : Int} {dp : Nat → Int} {σ : fx_M} (h1 : Rf' g = Rf g) (h2 : Cf' g = Cf g) (h : KC Rf Cf g R C br bc f b so pr pc ph sh to dp σ) : KC Rf' Cf' g R C br bc f b so pr pc ph sh to dp σ := by
  unfold KC CB at *
  rw [h1, h2]
  exact h
theorem mc_no (Rf Cf : Nat → Nat) (nc : Nat) {σ : fx_M} (r c : Int) (hr : fx_in r) (hc : fx_in c) (hno : ¬ okRC r c) : fx_Ca (fx_S Rf Cf nc) 77 [.inr (some (20, 0)), .inl r, .inl c] σ = some (some (.inl (-1)), σ) := by
  unfold okRC at hno
  rw [entX7_cloth]
  by_cases q1 : 1 ≤ r ∧ r ≤ 12
  · have q2 : ¬ (1 ≤ c ∧ c ≤ 12) := fun z => hno ⟨q1, z⟩
    simp (disch := omega) only [eX7_cloth_0, eX7_cloth_1, eX7_cloth_2, eX7_cloth_4, eX7_cloth_7, eX7_cloth_10, eX7_cloth_11, eX7_cloth_12, eX7_cloth_14, eX7_cloth_17, eX7_cloth_20, eX7_cloth_21, eX7_cloth_22, eX7_cloth_23, eX7_cloth_26, eX7_cloth_31, eX7_cloth_33, eX7_cloth_34, eX7_cloth_35, eX7_cloth_38, eX7_cloth_39, eX7_cloth_42, eX7_cloth_43, eX7_cloth_44, eX7_cloth_45, eX7_cloth_48, eX7_cloth_49, eX7_cloth_52, eX7_cloth_53, eX7_cloth_54, eX7_cloth_55, eX7_cloth_56, eX7_cloth_59, eX7_cloth_62, eX7_cloth_63, eX7_cloth_64, eX7_cloth_67, eX7_cloth_68, eX7_cloth_69, eX7_cloth_72, eX7_cloth_73, eX7_cloth_76, eX7_cloth_77, eX7_cloth_78, fx_bd_some, Option.toList_some, Option.toList_none, List.nil_append, List.cons_append, fx_uo, fx_ui, Int.toNat_natCast, ↓reduceIte, Int.reduceEq, Int.reduceLT, Int.reduceLE, Int.reduceNeg, sp_within, eq_true q1, eq_false q2, if_true, if_false]
  · simp (disch := omega) only [eX7_cloth_0, eX7_cloth_1, eX7_cloth_2, eX7_cloth_4, eX7_cloth_7, eX7_cloth_10, eX7_cloth_11, eX7_cloth_12, eX7_cloth_14, eX7_cloth_17, eX7_cloth_20, eX7_cloth_21, eX7_cloth_22, eX7_cloth_23, eX7_cloth_26, eX7_cloth_31, eX7_cloth_33, eX7_cloth_34, eX7_cloth_35, eX7_cloth_38, eX7_cloth_39, eX7_cloth_42, eX7_cloth_43, eX7_cloth_44, eX7_cloth_45, eX7_cloth_48, eX7_cloth_49, eX7_cloth_52, eX7_cloth_53, eX7_cloth_54, eX7_cloth_55, eX7_cloth_56, eX7_cloth_59, eX7_cloth_62, eX7_cloth_63, eX7_cloth_64, eX7_cloth_67, eX7_cloth_68, eX7_cloth_69, eX7_cloth_72, eX7_cloth_73, eX7_cloth_76, eX7_cloth_77, eX7_cloth_78, fx_bd_some, Option.toList_some, Option.toList_none, List.nil_append, List.cons_append, fx_uo, fx_ui, Int.toNat_natCast, ↓reduceIte, Int.reduceEq, Int.reduceLT, Int.reduceLE, Int.reduceNeg, sp_within, eq_false q1, if_false]
theorem mc_full (Rf Cf : Nat → Nat) (nc : Nat) {σ : fx_M} (r c : Int) (hok : okRC r c) (h6 : σ 20 0 2 = 6) : fx_Ca (fx_S Rf Cf nc) 77 [.inr (some (20, 0)), .inl r, .inl c] σ = some (some (.inl (-2)), σ) := by
  obtain ⟨q1, q2⟩ := hok
  rw [entX7_cloth]
  simp (disch := omega) only [eX7_cloth_0, eX7_cloth_1, eX7_cloth_2, eX7_cloth_4, eX7_cloth_7, eX7_cloth_10, eX7_cloth_11, eX7_cloth_12, eX7_cloth_14, eX7_cloth_17, eX7_cloth_20, eX7_cloth_21, eX7_cloth_22, eX7_cloth_23, eX7_cloth_26, eX7_cloth_28, eX7_cloth_31, eX7_cloth_33, eX7_cloth_34, eX7_cloth_35, eX7_cloth_38, eX7_cloth_39, eX7_cloth_42, eX7_cloth_43, eX7_cloth_44, eX7_cloth_45, eX7_cloth_48, eX7_cloth_49, eX7_cloth_52, eX7_cloth_53, eX7_cloth_54, eX7_cloth_55, eX7_cloth_56, eX7_cloth_59, eX7_cloth_62, eX7_cloth_63, eX7_cloth_64, eX7_cloth_67, eX7_cloth_68, eX7_cloth_69, eX7_cloth_72, eX7_cloth_73, eX7_cloth_76, eX7_cloth_77, eX7_cloth_78, fx_bd_some, Option.toList_some, Option.toList_none, List.nil_append, List.cons_append, fx_uo, fx_ui, Int.toNat_natCast, ↓reduceIte, Int.reduceEq, Int.reduceLT, Int.reduceLE, Int.reduceNeg, sp_within, eq_true q1, eq_true q2, h6, if_true]
theorem mc_yes {Rf Cf : Nat → Nat} {nc : Nat} {σ σ' : fx_M} (h : Inv Rf Cf nc σ) (hn : nc < 6) (ra rb : Nat) (hok : okRC (ra : Int) (rb : Int)) (hCB : CB (fun _ => ra) (fun _ => rb) nc ra rb ra rb oR oC oH σ') (hfr : ∀ o k x, ¬ (k = nc ∧ 15 ≤ o ∧ o ≤ 19) → σ' o k x = fx_s0 ra rb o k x) :
    ∃ σ2, fx_Ca (fx_S (nRf Rf nc ra) (nRf Cf nc rb) (nc + 1)) 77 [.inr (some (20, 0)), .inl (ra : Int), .inl (rb : Int)] (nSg σ σ' nc) = some (some (.inl (nc : Int)), σ2) ∧ Inv (nRf Rf nc ra) (nRf Cf nc rb) (nc + 1) σ2 := by
  obtain ⟨g1, g2, g3, g4, g5, g6⟩ := id h
  obtain ⟨i1, i2, i3, i4, i5⟩ := id g1
  obtain ⟨q1, q2⟩ := id hok
  obtain ⟨τ, hτ⟩ : ∃ τ, τ = nSg σ σ' nc := ⟨_, rfl⟩
  rw [← hτ]
  have fτ : ∀ o k x, ¬ (k = nc ∧ 12 ≤ o ∧ o ≤ 19) → ¬ (o = 0 ∧ k = 0 ∧ x = 2) → τ o k x = σ o k x := fun o k x z1 z2 => by
    rw [hτ]; unfold nSg
    rw [if_neg z1, if_neg z2]
  have nτ : ∀ o x, 12 ≤ o → o ≤ 19 → τ o nc x = σ' o nc x := fun o x z1 z2 => by
    rw [hτ]; unfold nSg
    rw [if_pos ⟨rfl, z1, z2⟩]
  have t2 : τ 20 0 2 = (nc : Int) := by rw [fτ _ _ _ (by omega) (by omega)]; exact i3
  have t0 : τ 0 0 2 = ((nc + 1 : Nat) : Int) := by
    rw [hτ]; unfold nSg
    rw [if_neg (by omega), if_pos (by omega)]
    omega
  obtain ⟨ρ, hρ⟩ : ∃ ρ, ρ = fx_up (fx_up τ 30 0 nc (ra : Int)) 31 0 nc (rb : Int) := ⟨_, rfl⟩
  have fρ : ∀ o k x, ¬ (k = 0 ∧ (o = 30 ∨ o = 31) ∧ x = nc) → ρ o k x = τ o k x := fun o k x z => by
    rw [hρ]; unfold fx_up
    rw [if_neg (by omega), if_neg (by omega)]
  have r30 : ρ 30 0 nc = (ra : Int) := by rw [hρ, fx_uo (by omega), fx_ui, if_pos rfl]
  have r31 : ρ 31 0 nc = (rb : Int) := by rw [hρ, fx_ui, if_pos rfl]
  have e := sp_unfold (nRf Rf nc ra) (nRf Cf nc rb) (nc + 1) nc (by omega) ρ
  obtain ⟨μ, hμ⟩ : ∃ μ, μ = m_unf nc 0 ρ := ⟨_, rfl⟩
  rw [← hμ] at e
  have fμ : ∀ o k x, ¬ (k = 0 ∧ (((o = 34 ∨ o = 35 ∨ o = 36) ∧ 144 * nc ≤ x ∧ x < 144 * nc + 144) ∨ ((o = 37 ∨ o = 38 ∨ o = 39 ∨ o = 42) ∧ x = nc))) → μ o k x = ρ o k x := fun o k x z => by
    rw [hμ]; unfold m_unf
    rw [if_neg (by omega), if_neg (by omega), if_neg (by omega), if_neg (by omega), if_neg (by omega), if_neg (by omega)]
  have m2 : μ 20 0 2 = (nc : Int) := by rw [fμ _ _ _ (by omega), fρ _ _ _ (by omega)]; exact t2
  obtain ⟨ω, hω⟩ : ∃ ω, ω = fx_up μ 20 0 2 ((nc : Int) + 1) := ⟨_, rfl⟩
  have fω : ∀ o k x, ¬ (k = 0 ∧ o = 20 ∧ x = 2) → ω o k x = μ o k x := fun o k x z => by
    rw [hω]; unfold fx_up
    rw [if_neg (by omega)]
  have o2 : ω 20 0 2 = (nc : Int) + 1 := by rw [hω, fx_ui, if_pos rfl]
  have fa : ∀ o k x, ¬ (k = nc ∧ 12 ≤ o ∧ o ≤ 19) → ¬ (o = 0 ∧ k = 0 ∧ x = 2) → ¬ (k = 0 ∧ (o = 30 ∨ o = 31) ∧ x = nc) → ¬ (k = 0 ∧ (((o = 34 ∨ o = 35 ∨ o = 36) ∧ 144 * nc ≤ x ∧ x < 144 * nc + 144) ∨ ((o = 37 ∨ o = 38 ∨ o = 39 ∨ o = 42) ∧ x = nc))) → ¬ (k = 0 ∧ o = 20 ∧ x = 2) → ω o k x = σ o k x := fun o k x z1 z2 z3 z4 z5 => by
    rw [fω _ _ _ z5, fμ _ _ _ z4, fρ _ _ _ z3, fτ _ _ _ z1 z2]
  have na : ∀ o x, 12 ≤ o → o ≤ 19 → ω o nc x = σ' o nc x := fun o x z1 z2 => by
    rw [fω _ _ _ (by omega), fμ _ _ _ (by omega), fρ _ _ _ (by omega), nτ _ _ z1 z2]
  have hRn : nRf Rf nc ra nc = ra := by unfold nRf; rw [if_pos rfl]
  have hCn : nRf Cf nc rb nc = rb := by unfold nRf; rw [if_pos rfl]
  refine ⟨ω, ?_, ⟨by omega, ?_, ?_, ?_, ?_⟩, fun g hg => ?_, ?_, ?_, ?_, fun c z1 z2 => ?_⟩
  · rw [entX7_cloth]
    simp (disch := omega) only [eX7_cloth_0, eX7_cloth_1, eX7_cloth_2, eX7_cloth_4, eX7_cloth_7, eX7_cloth_10, eX7_cloth_11, eX7_cloth_12, eX7_cloth_14, eX7_cloth_17, eX7_cloth_20, eX7_cloth_21, eX7_cloth_22, eX7_cloth_23, eX7_cloth_26, eX7_cloth_28, eX7_cloth_31, eX7_cloth_33, eX7_cloth_34, eX7_cloth_35, eX7_cloth_38, eX7_cloth_39, eX7_cloth_42, eX7_cloth_43, eX7_cloth_44, eX7_cloth_45, eX7_cloth_48, eX7_cloth_49, eX7_cloth_52, eX7_cloth_53, eX7_cloth_54, eX7_cloth_55, eX7_cloth_56, eX7_cloth_59, eX7_cloth_62, eX7_cloth_63, eX7_cloth_64, eX7_cloth_67, eX7_cloth_68, eX7_cloth_69, eX7_cloth_72, eX7_cloth_73, eX7_cloth_76, eX7_cloth_77, eX7_cloth_78, fx_bd_some, Option.toList_some, Option.toList_none, List.nil_append, List.cons_append, fx_uo, fx_ui, Int.toNat_natCast, ↓reduceIte, Int.reduceEq, Int.reduceLT, Int.reduceLE, Int.reduceNeg, sp_within, eq_true q1, eq_true q2, if_true, t2]
    simp (disch := omega) only [← hρ, e, eX7_cloth_0, eX7_cloth_1, eX7_cloth_2, eX7_cloth_4, eX7_cloth_7, eX7_cloth_10, eX7_cloth_11, eX7_cloth_12, eX7_cloth_14, eX7_cloth_17, eX7_cloth_20, eX7_cloth_21, eX7_cloth_22, eX7_cloth_23, eX7_cloth_26, eX7_cloth_28, eX7_cloth_31, eX7_cloth_33, eX7_cloth_34, eX7_cloth_35, eX7_cloth_38, eX7_cloth_39, eX7_cloth_42, eX7_cloth_43, eX7_cloth_44, eX7_cloth_45, eX7_cloth_48, eX7_cloth_49, eX7_cloth_52, eX7_cloth_53, eX7_cloth_54, eX7_cloth_55, eX7_cloth_56, eX7_cloth_59, eX7_cloth_62, eX7_cloth_63, eX7_cloth_64, eX7_cloth_67, eX7_cloth_68, eX7_cloth_69, eX7_cloth_72, eX7_cloth_73, eX7_cloth_76, eX7_cloth_77, eX7_cloth_78, fx_bd_some, Option.toList_some, Option.toList_none, List.nil_append, List.cons_append, fx_uo, fx_ui, Int.toNat_natCast, ↓reduceIte, Int.reduceEq, Int.reduceLT, Int.reduceLE, Int.reduceNeg, m2, ← hω, o2]
    rw [if_neg (by omega)]
    simp only [show (nc : Int) + 1 - 1 = (nc : Int) by omega]
  · rw [fω _ _ _ (by omega), fμ _ _ _ (by omega), fρ _ _ _ (by omega)]; exact t0
  · rw [o2]; omega
  · rw [fa _ _ _ (by omega) (by omega) (by omega) (by omega) (by omega), fa _ _ _ (by omega) (by omega) (by omega) (by omega) (by omega), fa _ _ _ (by omega) (by omega) (by omega) (by omega) (by omega), fa _ _ _ (by omega) (by omega) (by omega) (by omega) (by omega), fa _ _ _ (by omega) (by omega) (by omega) (by omega) (by omega), fa _ _ _ (by omega) (by omega) (by omega) (by omega) (by omega)]
    exact i4
  · rw [fa _ _ _ (by omega) (by omega) (by omega) (by omega) (by omega), fa _ _ _ (by omega) (by omega) (by omega) (by omega) (by omega), fa _ _ _ (by omega) (by omega) (by omega) (by omega) (by omega)]
    exact i5
  · by_cases hgn : g = nc
    · subst hgn
      have hs0 : ∀ x, σ' 12 g x = if x = 0 then (ra : Int) else if x = 1 then (rb : Int) else if x = 2 then ((ra * rb : Nat) : Int) else 0 := fun x => by
        rw [hfr _ _ _ (by omega)]; rfl
      have hs1 : ∀ o x, o = 13 ∨ o = 14 → σ' o g x = 0 := fun o x z => by
        rw [hfr _ _ _ (by omega)]
        unfold fx_s0
        rw [if_neg (by omega)]
      obtain ⟨z1, z2, z3⟩ := g6 g (Nat.le_refl _) (by omega)
      refine ⟨ra, rb, ra, rb, 0, 0, 0, oR, oC, oH, fun _ _ => false, 0, fun _ => 0, ⟨BW_open (by omega) (by omega) (by omega) (by omega), by omega, by omega, by omega, fun k _ _ => (⟨by decide, by decide⟩ : (0 : Int) ≤ 0 ∧ (0 : Int) ≤ 15)⟩, ⟨⟨hRn, hCn⟩, ?_, ⟨?_, ?_, ?_⟩, ⟨?_, ?_, ?_, ?_⟩, fun r n _ _ => ?_, fun k _ _ => ?_⟩, ⟨⟨?_, ?_, ?_, ?_, fun k hk hkc => ⟨?_, ?_, ?_⟩⟩, ?_, ⟨by omega, ?_, fun j hj => by omega⟩, fun r n => rfl, ?_, ?_, fun k hk => ?_⟩⟩
      · have hCB' : CB (nRf Rf g ra) (nRf Cf g rb) g ra rb ra rb oR oC oH σ' := by
          unfold CB at hCB ⊢
          rw [hRn, hCn]
          exact hCB
        exact hCB'.of (fun o x z1 z2 => na o x (by omega) z2)
      · rw [na _ _ (by omega) (by omega), hs0]; rfl
      · rw [na _ _ (by omega) (by omega), hs0]; rfl
      · rw [na _ _ (by omega) (by omega), hs0]; rfl
      · rw [na _ _ (by omega) (by omega), hs0]; rfl
      · rw [na _ _ (by omega) (by omega), hs0]; rfl
      · rw [na _ _ (by omega) (by omega), hs0]; rfl
      · rw [na _ _ (by omega) (by omega), hs0]; rfl
      · rw [na _ _ (by omega) (by omega), hs1 _ _ (by omega)]; rfl
      · rw [na _ _ (by omega) (by omega), hs1 _ _ (by omega)]
      · rw [fω _ _ _ (by omega), fμ _ _ _ (by omega)]; exact r30
      · rw [fω _ _ _ (by omega), fμ _ _ _ (by omega)]; exact r31
      · rw [fω _ _ _ (by omega), hμ]; unfold m_unf
        rw [if_neg (by omega), if_neg (by omega), if_neg (by omega), if_pos (by omega)]; exact r30
      · rw [fω _ _ _ (by omega), hμ]; unfold m_unf
        rw [if_neg (by omega), if_neg (by omega), if_neg (by omega), if_neg (by omega), if_pos (by omega)]; exact r31
      · rw [fω _ _ _ (by omega), hμ]; unfold m_unf
        rw [if_pos (by omega), show 144 * g + k - 144 * g = k by omega]; rfl
      · rw [fω _ _ _ (by omega), hμ]; unfold m_unf
        rw [if_neg (by omega), if_pos (by omega), show 144 * g + k - 144 * g = k by omega]; rfl
      · rw [fω _ _ _ (by omega), hμ]; unfold m_unf
        rw [if_neg (by omega), if_neg (by omega), if_pos (by omega)]; rfl
      · rw [fω _ _ _ (by omega), hμ]; unfold m_unf
        rw [if_neg (by omega), if_neg (by omega), if_neg (by omega), if_neg (by omega), if_neg (by omega), if_pos (by omega)]; rfl
      · rw [fω _ _ _ (by omega), hμ]; unfold m_unf
        rw [if_neg (by omega), if_neg (by omega), if_neg (by omega), if_neg (by omega), if_neg (by omega), if_pos (by omega)]; rfl
      · rw [fa _ _ _ (by omega) (by omega) (by omega) (by omega) (by omega)]; exact z2
      · rw [fa _ _ _ (by omega) (by omega) (by omega) (by omega) (by omega)]; exact z1
      · rw [fa _ _ _ (by omega) (by omega) (by omega) (by omega) (by omega), z3 k hk]
        split <;> rfl
    · obtain ⟨R, C, br, bc, f, b, so, pr, pc, ph, sh, to, dp, k1, k2, k3⟩ := g2 g (by omega)
      refine ⟨R, C, br, bc, f, b, so, pr, pc, ph, sh, to, dp, k1, KC.rf (by unfold nRf; rw [if_neg hgn]) (by unfold nRf; rw [if_neg hgn]) (k2.of (fun o i z1 z2 => fa _ _ _ (by omega) (by omega) (by omega) (by omega) (by omega))), k3.of (fun o i z1 => ?_)⟩
      unfold inB at z1
      exact fa _ _ _ (by omega) (by omega) (by omega) (by omega) (by omega)
  · obtain ⟨wr, wc, m, a1, a2, a3, a4, a5⟩ := g3
    refine ⟨wr, wc, m, a1, ?_, a3, fun k hk => by rw [fa _ _ _ (by omega) (by omega) (by omega) (by omega) (by omega)]; exact a4 k hk, a5⟩
    rw [fa _ _ _ (by omega) (by omega) (by omega) (by omega) (by omega), fa _ _ _ (by omega) (by omega) (by omega) (by omega) (by omega), fa _ _ _ (by omega) (by omega) (by omega) (by omega) (by omega), fa _ _ _ (by omega) (by omega) (by omega) (by omega) (by omega), fa _ _ _ (by omega) (by omega) (by omega) (by omega) (by omega)]
    exact a2
  · unfold I3 at *
    rw [fa 20 _ _ (by omega) (by omega) (by omega) (by omega) (by omega), fa 20 _ _ (by omega) (by omega) (by omega) (by omega) (by omega), fa 20 _ _ (by omega) (by omega) (by omega) (by omega) (by omega)]
    refine ⟨g4.1, g4.2.1, g4.2.2.1, fun i j hi hj => ?_⟩
    rw [fa 11 _ _ (by omega) (by omega) (by omega) (by omega) (by omega), fa 64 _ _ (by omega) (by omega) (by omega) (by omega) (by omega), fa 62 _ _ (by omega) (by omega) (by omega) (by omega) (by omega)]
    exact g4.2.2.2 i j hi hj
  · unfold I4 nRf at *
    rw [if_neg (by omega), if_neg (by omega), if_neg (by omega), if_neg (by omega), if_neg (by omega), if_neg (by omega)]
    exact g5
  · obtain ⟨a1, a2, a3⟩ := g6 c (by omega) z2
    refine ⟨?_, ?_, fun k hk => ?_⟩
    · rw [fa _ _ _ (by omega) (by omega) (by omega) (by omega) (by omega)]; exact a1
    · rw [fa _ _ _ (by omega) (by omega) (by omega) (by omega) (by omega)]; exact a2
    · rw [fa _ _ _ (by omega) (by omega) (by omega) (by omega) (by omega)]; exact a3 k hk
