/-! dye -/
def dyF (F m st : Int) (so : Nat) (D : Nat → Int) (k : Nat) : Int := if rcM so D k ≤ m ∧ (rcM so D k - 1) / F < st then st - (rcM so D k - 1) / F else 0
def ndF (up : Bool) (dp dy : Nat → Int) (k : Nat) : Int := if up = true then min 15 (dp k + dy k) else max 0 (dp k - dy k)
theorem dy_bd {F m st : Int} {so : Nat} {D : Nat → Int} {k : Nat} (hF : 1 ≤ F) (hst : 1 ≤ st ∧ st ≤ 15) (hr : 1 ≤ rcM so D k) : 0 ≤ dyF F m st so D k ∧ dyF F m st so D k ≤ 15 := by
  have hq0 : 0 ≤ (rcM so D k - 1) / F := Int.ediv_nonneg (by omega) (by omega)
  unfold dyF
  split <;> omega
theorem dy_eq {F m st : Int} {so : Nat} {D : Nat → Int} {k : Nat} (hso : so ≤ 1) (h : 1 ≤ D k ∧ D k ≤ 1000000) (hm : m ≤ 99) : (if rcC so D k ≠ -7 ∧ rcC so D k ≤ m ∧ (rcC so D k - 1) / F < st then st - (rcC so D k - 1) / F else 0) = dyF F m st so D k := by
  obtain ⟨a1, a2, a3⟩ := rc_eq hso h
  unfold dyF
  by_cases q : rcM so D k < 1000000
  · rw [if_pos q] at a1
    rw [← a1]
    have : rcM so D k ≠ -7 := by omega
    simp [this]
  · rw [if_neg q] at a1
    rw [← a1, if_neg (by omega), if_neg (by omega)]
theorem nd_bd {up : Bool} {dp dy : Nat → Int} {k : Nat} (h1 : 0 ≤ dp k ∧ dp k ≤ 15) (h2 : 0 ≤ dy k ∧ dy k ≤ 15) : 0 ≤ ndF up dp dy k ∧ ndF up dp dy k ≤ 15 := by
  unfold ndF
  split <;> omega
theorem dc_lp (Rf Cf : Nat → Nat) (nc : Nat) {g : Nat} {R C br bc f b so : Nat} {pr pc ph : Nat → Nat} {sh : Nat → Nat → Bool} {to : Int} {dp : Nat → Int} {L S : Int} (hg : g < 6) (k1 : KP R C br bc f b so pr pc ph sh to dp) {σ1 : fx_M} (k2 : KC Rf Cf g R C br bc f b so pr pc ph sh to dp σ1) (hX : SX Rf g R C br bc pr pc L S σ1) (D : Nat → Int) (hD : ∀ j, j < 144 → isC R C j → σ1 5 0 (sl R C pr pc ph j) = D j ∧ 1 ≤ D j ∧ D j ≤ 1000000) (F m st : Int) (hF : σ1 1 0 2 = F) (hF2 : 1 ≤ F ∧ F ≤ 20) (hm : 1 ≤ m ∧ m ≤ 99) (hst : 1 ≤ st ∧ st ≤ 15) (up : Bool) :
    ∀ (d i ch : Nat) (σ : fx_M) (u8 u9 u10 : Option fx_V), i + d = R * C → (∀ o k x, ¬ (o = 13 ∧ k = g ∧ x < i) → σ o k x = σ1 o k x) → (∀ j, j < i → σ 13 g j = ndF up dp (dyF F m st so D) (ki C j)) → ch = cntP i (fun j => decide (ndF up dp (dyF F m st so D) (ki C j) ≠ dp (ki C j))) →
    ∃ (σ' : fx_M) (v8 v9 v10 : Option fx_V), fx_E (fx_S Rf Cf nc) 69 49 [some (.inr (some (0, 0))), some (.inl (g : Int)), some (.inl m), some (.inl st), some (.inl (if up then 1 else 0)), some (.inr (some (12, g))), some (.inl (ch : Int)), some (.inl (i : Int)), u8, u9, u10] [] σ = fx_E (fx_S Rf Cf nc) 69 140 [some (.inr (some (0, 0))), some (.inl (g : Int)), some (.inl m), some (.inl st), some (.inl (if up then 1 else 0)), some (.inr (some (12, g))), some (.inl (cntP (R * C) (fun j => decide (ndF up dp (dyF F m st so D) (ki C j) ≠ dp (ki C j))) : Int)), some (.inl ((R * C : Nat) : Int)), v8, v9, v10] [] σ' ∧ (∀ o k x, ¬ (o = 13 ∧ k = g ∧ x < R * C) → σ' o k x = σ1 o k x) ∧ ∀ j, j < R * C → σ' 13 g j = ndF up dp (dyF F m st so D) (ki C j) := by
  obtain ⟨⟨b1, b2⟩, ⟨b3, b4⟩, ⟨b5, b6⟩, ⟨b7, b8⟩, -⟩ := id k1.1
  have hso := k1.2.2.2.1
  have hN : R * C ≤ 144 := Nat.mul_le_mul b2 b4
  have hl : Rf g * Cf g = R * C := by rw [k2.1.1, k2.1.2]
  intro d
  induction d with
  | zero =>
    intro i ch σ u8 u9 u10 hi hfr hv hch
    obtain rfl : i = R * C := by omega
    have h2 : σ 12 g 2 = ((R * C : Nat) : Int) := by rw [hfr _ _ _ (by omega)]; exact k2.2.2.1.2.2
    have a : (((R * C : Nat) : Int) < ((R * C : Nat) : Int)) = False := by simp
    rw [eX6_dip_49]
    simp (disch := omega) only [eX6_dip_0, eX6_dip_1, eX6_dip_2, eX6_dip_5, eX6_dip_7, eX6_dip_9_n, eX6_dip_9_s, eX6_dip_12, eX6_dip_13, eX6_dip_14, eX6_dip_17, eX6_dip_20, eX6_dip_21, eX6_dip_22, eX6_dip_23, eX6_dip_26, eX6_dip_28, eX6_dip_29, eX6_dip_32, eX6_dip_33, eX6_dip_34, eX6_dip_35, eX6_dip_38, eX6_dip_39, eX6_dip_40, eX6_dip_43, eX6_dip_44, eX6_dip_46, eX6_dip_47, eX6_dip_51, eX6_dip_53, eX6_dip_56, eX6_dip_59, eX6_dip_60, eX6_dip_61, eX6_dip_63, eX6_dip_65, eX6_dip_68, eX6_dip_69, eX6_dip_70, eX6_dip_73, eX6_dip_75, eX6_dip_77, eX6_dip_80, eX6_dip_82, eX6_dip_83, eX6_dip_85, eX6_dip_87, eX6_dip_90, eX6_dip_92, eX6_dip_94, eX6_dip_96, eX6_dip_97, eX6_dip_100, eX6_dip_103, eX6_dip_104, eX6_dip_106, eX6_dip_108, eX6_dip_109, eX6_dip_112, eX6_dip_114, eX6_dip_116, eX6_dip_119, eX6_dip_121, eX6_dip_123, eX6_dip_124, eX6_dip_126, eX6_dip_128, eX6_dip_131, eX6_dip_134, eX6_dip_137, eX6_dip_142, eX6_dip_143, eX6_dip_146, eX6_dip_148, fx_bd_some, Option.toList_some, Option.toList_none, List.nil_append, List.cons_append, fx_uo, fx_ui, Int.toNat_natCast, ↓reduceIte, Int.reduceEq, Int.reduceLT, Int.reduceLE, Int.reduceNeg, h2, a]
    rw [hch]
    exact ⟨σ, u8, u9, u10, rfl, hfr, hv⟩
  | succ d ih =>
    intro i ch σ u8 u9 u10 hi hfr hv hch
    have hiN : i < R * C := by omega
    have hkc := ki_C b3 b4 hiN
    have hkl := ki_lt b2 b3 b4 hiN
    have hix : ix C (ki C i) = i := ix_ki b3 b4
    have h2 : σ 12 g 2 = ((R * C : Nat) : Int) := by rw [hfr _ _ _ (by omega)]; exact k2.2.2.1.2.2
    have a : ((i : Int) < ((R * C : Nat) : Int)) = True := eq_true (by omega)
    have e5 := sp_reachOf Rf Cf nc (σ := σ) k1.1 (k2.2.1.of (fun o i h1 h2 => hfr o g i (by omega))) (show SX Rf g R C br bc pr pc L S σ from ⟨hX.1.of (hfr _ _ _ (by omega)) (hfr _ _ _ (by omega)) (fun p hp => hfr _ _ _ (by omega)), fun r n hr hn => by rw [hfr _ _ _ (by omega)]; exact hX.2.1 r n hr hn, by rw [hfr _ _ _ (by omega)]; exact hX.2.2.1, by rw [hfr _ _ _ (by omega)]; exact hX.2.2.2⟩) D (fun j hj hjc => ⟨by rw [hfr _ _ _ (by omega)]; exact (hD j hj hjc).1, (hD j hj hjc).2⟩) so hso (by rw [hfr _ _ _ (by omega)]; exact k2.2.2.2.1.2.2.2) (ki C i) hkl hkc
    rw [show (if D (ki C i) < 1000000 then (if so = 1 then (D (ki C i) + 1) / 2 else D (ki C i)) else -7) = rcC so D (ki C i) from rfl, hix] at e5
    obtain ⟨-, d1⟩ := hD (ki C i) hkl hkc
    obtain ⟨r1, r2, r3⟩ := rc_eq hso d1
    have r4 : rcC so D (ki C i) = -7 ∨ (1 ≤ rcC so D (ki C i) ∧ rcC so D (ki C i) ≤ 1000000) := by rw [← r1]; split <;> omega
    have hFσ : σ 1 0 2 = F := by rw [hfr _ _ _ (by omega)]; exact hF
    have e6 := sp_dyeAfter Rf Cf nc σ (rcC so D (ki C i)) m st r4 (by omega) (by omega) (by omega) (by omega) (by omega)
    rw [hFσ, dy_eq hso d1 hm.2] at e6
    have dyb := dy_bd (m := m) hF2.1 hst r2
    have dpb := k1.2.2.2.2 (ki C i) hkl hkc
    have ndb := nd_bd (up := up) (dy := dyF F m st so D) dpb dyb
    have hw : σ 13 g i = dp (ki C i) := by
      rw [hfr _ _ _ (by omega)]
      have := k2.2.2.2.2.2 (ki C i) hkl hkc
      rw [hix] at this
      exact this
    have hcl := cntP_le i (fun j => decide (ndF up dp (dyF F m st so D) (ki C j) ≠ dp (ki C j)))
    have fin : ∀ (u8 u9 u10 : Option fx_V) (c2 : Int), c2 = (if ndF up dp (dyF F m st so D) (ki C i) = dp (ki C i) then (ch : Int) else ch + 1) → ∃ (σ' : fx_M) (v8 v9 v10 : Option fx_V), fx_E (fx_S Rf Cf nc) 69 49 [some (.inr (some (0, 0))), some (.inl (g : Int)), some (.inl m), some (.inl st), some (.inl (if up then 1 else 0)), some (.inr (some (12, g))), some (.inl c2), some (.inl ((i : Int) + 1)), u8, u9, u10] [] (fx_up σ 13 g i (ndF up dp (dyF F m st so D) (ki C i))) = fx_E (fx_S Rf Cf nc) 69 140 [some (.inr (some (0, 0))), some (.inl (g : Int)), some (.inl m), some (.inl st), some (.inl (if up then 1 else 0)), some (.inr (some (12, g))), some (.inl (cntP (R * C) (fun j => decide (ndF up dp (dyF F m st so D) (ki C j) ≠ dp (ki C j))) : Int)), some (.inl ((R * C : Nat) : Int)), v8, v9, v10] [] σ' ∧ (∀ o k x, ¬ (o = 13 ∧ k = g ∧ x < R * C) → σ' o k x = σ1 o k x) ∧ ∀ j, j < R * C → σ' 13 g j = ndF up dp (dyF F m st so D) (ki C j) := by
      intro u8 u9 u10 c2 hc2
      obtain ⟨c3, hc3⟩ : ∃ c3 : Nat, c2 = c3 ∧ c3 = cntP (i + 1) (fun j => decide (ndF up dp (dyF F m st so D) (ki C j) ≠ dp (ki C j))) := by
        refine ⟨_, ?_, rfl⟩
        rw [hc2]
        simp only [cntP]
        rw [← hch]
        by_cases q : ndF up dp (dyF F m st so D) (ki C i) = dp (ki C i)
        · rw [if_pos q, if_neg (by simp [q])]; rfl
        · rw [if_neg q, if_pos (by simp [q])]; simp
      rw [hc3.1, show (i : Int) + 1 = ((i + 1 : Nat) : Int) by omega]
      refine ih (i + 1) c3 _ u8 u9 u10 (by omega) (fun o k x ho => ?_) (fun j hj => ?_) hc3.2
      · unfold fx_up
        rw [if_neg (by omega)]
        exact hfr o k x (by omega)
      · rw [fx_ui]
        by_cases q : j = i
        · rw [if_pos q, q]
        · rw [if_neg q]; exact hv j (by omega)
    rw [eX6_dip_49]
    cases up with
    | true =>
      have hnd : min 15 (dp (ki C i) + dyF F m st so D (ki C i)) = ndF true dp (dyF F m st so D) (ki C i) := by unfold ndF; rw [if_pos rfl]
      simp (disch := omega) only [eX6_dip_0, eX6_dip_1, eX6_dip_2, eX6_dip_5, eX6_dip_7, eX6_dip_9_n, eX6_dip_9_s, eX6_dip_12, eX6_dip_13, eX6_dip_14, eX6_dip_17, eX6_dip_20, eX6_dip_21, eX6_dip_22, eX6_dip_23, eX6_dip_26, eX6_dip_28, eX6_dip_29, eX6_dip_32, eX6_dip_33, eX6_dip_34, eX6_dip_35, eX6_dip_38, eX6_dip_39, eX6_dip_40, eX6_dip_43, eX6_dip_44, eX6_dip_46, eX6_dip_47, eX6_dip_51, eX6_dip_53, eX6_dip_56, eX6_dip_59, eX6_dip_60, eX6_dip_61, eX6_dip_63, eX6_dip_65, eX6_dip_68, eX6_dip_69, eX6_dip_70, eX6_dip_73, eX6_dip_75, eX6_dip_77, eX6_dip_80, eX6_dip_82, eX6_dip_83, eX6_dip_85, eX6_dip_87, eX6_dip_90, eX6_dip_92, eX6_dip_94, eX6_dip_96, eX6_dip_97, eX6_dip_100, eX6_dip_103, eX6_dip_104, eX6_dip_106, eX6_dip_108, eX6_dip_109, eX6_dip_112, eX6_dip_114, eX6_dip_116, eX6_dip_119, eX6_dip_121, eX6_dip_123, eX6_dip_124, eX6_dip_126, eX6_dip_128, eX6_dip_131, eX6_dip_134, eX6_dip_137, eX6_dip_142, eX6_dip_143, eX6_dip_146, eX6_dip_148, fx_bd_some, Option.toList_some, Option.toList_none, List.nil_append, List.cons_append, fx_uo, fx_ui, Int.toNat_natCast, ↓reduceIte, Int.reduceEq, Int.reduceLT, Int.reduceLE, Int.reduceNeg, h2, a, e5, e6, hw, hnd]
      split
      · exact fin _ _ _ _ (by rw [if_pos (by assumption)])
      · exact fin _ _ _ _ (by rw [if_neg (by assumption)])
    | false =>
      have hnd : max 0 (dp (ki C i) - dyF F m st so D (ki C i)) = ndF false dp (dyF F m st so D) (ki C i) := by unfold ndF; rw [if_neg (by simp)]
      simp (disch := omega) only [eX6_dip_0, eX6_dip_1, eX6_dip_2, eX6_dip_5, eX6_dip_7, eX6_dip_9_n, eX6_dip_9_s, eX6_dip_12, eX6_dip_13, eX6_dip_14, eX6_dip_17, eX6_dip_20, eX6_dip_21, eX6_dip_22, eX6_dip_23, eX6_dip_26, eX6_dip_28, eX6_dip_29, eX6_dip_32, eX6_dip_33, eX6_dip_34, eX6_dip_35, eX6_dip_38, eX6_dip_39, eX6_dip_40, eX6_dip_43, eX6_dip_44, eX6_dip_46, eX6_dip_47, eX6_dip_51, eX6_dip_53, eX6_dip_56, eX6_dip_59, eX6_dip_60, eX6_dip_61, eX6_dip_63, eX6_dip_65, eX6_dip_68, eX6_dip_69, eX6_dip_70, eX6_dip_73, eX6_dip_75, eX6_dip_77, eX6_dip_80, eX6_dip_82, eX6_dip_83, eX6_dip_85, eX6_dip_87, eX6_dip_90, eX6_dip_92, eX6_dip_94, eX6_dip_96, eX6_dip_97, eX6_dip_100, eX6_dip_103, eX6_dip_104, eX6_dip_106, eX6_dip_108, eX6_dip_109, eX6_dip_112, eX6_dip_114, eX6_dip_116, eX6_dip_119, eX6_dip_121, eX6_dip_123, eX6_dip_124, eX6_dip_126, eX6_dip_128, eX6_dip_131, eX6_dip_134, eX6_dip_137, eX6_dip_142, eX6_dip_143, eX6_dip_146, eX6_dip_148, fx_bd_some, Option.toList_some, Option.toList_none, List.nil_append, List.cons_append, fx_uo, fx_ui, Int.toNat_natCast, ↓reduceIte, Int.reduceEq, Int.reduceLT, Int.reduceLE, Int.reduceNeg, h2, a, e5, e6, hw, hnd, Bool.false_eq_true]
      split
      · exact fin _ _ _ _ (by rw [if_pos (by assumption)])
      · exact fin _ _ _ _ (by rw [if_neg (by assumption)])
theorem dm_lp (Rf Cf : Nat → Nat) (nc : Nat) {g : Nat} {R C br bc f b so : Nat} {pr pc ph : Nat → Nat} {sh : Nat → Nat → Bool} {to : Int} {dp : Nat → Int} (hg : g < 7) (k1 : KP R C br bc f b so pr pc ph sh to dp) {σ1 : fx_M} (k3 : KM g R C br bc f b so pr pc ph sh to dp σ1) (D : Nat → Int) (hD : ∀ j, j < 144 → isC R C j → σ1 52 0 j = rcM so D j ∧ 1 ≤ D j ∧ D j ≤ 1000000) (F m st : Int) (hF : σ1 20 0 19 = F) (hF2 : 1 ≤ F ∧ F ≤ 20) (hm : 1 ≤ m ∧ m ≤ 99) (hst : 1 ≤ st ∧ st ≤ 15) (up : Bool) :
    ∀ (d i ch : Nat) (σ : fx_M) (u8 u9 : Option fx_V), i + d = 12 * R → (∀ o k x, ¬ (o = 33 ∧ k = 0 ∧ 144 * g ≤ x ∧ x < 144 * g + i) → σ o k x = σ1 o k x) → (∀ j, j < i → σ 33 0 (144 * g + j) = if isC R C j then ndF up dp (dyF F m st so D) j else 0) → ch = cntP i (fun j => decide (isC R C j) && decide (ndF up dp (dyF F m st so D) j ≠ dp j)) →
    ∃ (σ' : fx_M) (v8 v9 : Option fx_V), fx_E (fx_S Rf Cf nc) 102 41 [some (.inr (some (20, 0))), some (.inl (g : Int)), some (.inl m), some (.inl st), some (.inl (if up then 1 else -1)), some (.inl (ch : Int)), some (.inl (i : Int)), u8, u9] [] σ = fx_E (fx_S Rf Cf nc) 102 160 [some (.inr (some (20, 0))), some (.inl (g : Int)), some (.inl m), some (.inl st), some (.inl (if up then 1 else -1)), some (.inl (cntP (12 * R) (fun j => decide (isC R C j) && decide (ndF up dp (dyF F m st so D) j ≠ dp j)) : Int)), some (.inl ((12 * R : Nat) : Int)), v8, v9] [] σ' ∧ (∀ o k x, ¬ (o = 33 ∧ k = 0 ∧ 144 * g ≤ x ∧ x < 144 * g + 12 * R) → σ' o k x = σ1 o k x) ∧ ∀ j, j < 12 * R → σ' 33 0 (144 * g + j) = if isC R C j then ndF up dp (dyF F m st so D) j else 0 := by
  obtain ⟨⟨b1, b2⟩, ⟨b3, b4⟩, ⟨b5, b6⟩, ⟨b7, b8⟩, -⟩ := id k1.1
  have hso := k1.2.2.2.1
  intro d
  induction d with
  | zero =>
    intro i ch σ u8 u9 hi hfr hv hch
    obtain rfl : i = 12 * R := by omega
    have m1 : σ 30 0 g = R := by rw [hfr _ _ _ (by omega)]; exact k3.1.1
    rw [eX7_dip_41]
    have a : (((12 * R : Nat) : Int) < 12 * (R : Int)) = False := eq_false (by omega)
    simp (disch := omega) only [eX7_dip_0, eX7_dip_1, eX7_dip_2, eX7_dip_5, eX7_dip_8, eX7_dip_9, eX7_dip_10, eX7_dip_12, eX7_dip_15, eX7_dip_18, eX7_dip_19, eX7_dip_20, eX7_dip_22, eX7_dip_25, eX7_dip_28, eX7_dip_29, eX7_dip_30, eX7_dip_31, eX7_dip_32, eX7_dip_35, eX7_dip_36, eX7_dip_38, eX7_dip_39, eX7_dip_43, eX7_dip_44, eX7_dip_45, eX7_dip_48, eX7_dip_51, eX7_dip_52, eX7_dip_53, eX7_dip_55, eX7_dip_58, eX7_dip_61, eX7_dip_62, eX7_dip_65, eX7_dip_68, eX7_dip_69, eX7_dip_70, eX7_dip_72, eX7_dip_73, eX7_dip_74, eX7_dip_76, eX7_dip_78, eX7_dip_80, eX7_dip_81, eX7_dip_82, eX7_dip_85, eX7_dip_87, eX7_dip_88, eX7_dip_89, eX7_dip_90, eX7_dip_93, eX7_dip_94, eX7_dip_95, eX7_dip_97, eX7_dip_99, eX7_dip_102, eX7_dip_103, eX7_dip_106, eX7_dip_108, eX7_dip_110, eX7_dip_113, eX7_dip_115, eX7_dip_118, eX7_dip_120, eX7_dip_122, eX7_dip_123, eX7_dip_126, eX7_dip_129, eX7_dip_130, eX7_dip_131, eX7_dip_133, eX7_dip_134, eX7_dip_136, eX7_dip_137, eX7_dip_139, eX7_dip_141, eX7_dip_143, eX7_dip_146, eX7_dip_147, eX7_dip_150, eX7_dip_151, eX7_dip_152, eX7_dip_154, eX7_dip_157, eX7_dip_161, eX7_dip_164, eX7_dip_165, eX7_dip_166, eX7_dip_167, eX7_dip_169, fx_bd_some, Option.toList_some, Option.toList_none, List.nil_append, List.cons_append, fx_uo, fx_ui, Int.toNat_natCast, ↓reduceIte, Int.reduceEq, Int.reduceLT, Int.reduceLE, Int.reduceNeg, sp_cellEnd Rf Cf nc _ g hg, m1, a]
    rw [hch]
    exact ⟨σ, u8, u9, rfl, hfr, hv⟩
  | succ d ih =>
    intro i ch σ u8 u9 hi hfr hv hch
    have hi2 : i < 144 := by omega
    have m1 : σ 30 0 g = R := by rw [hfr _ _ _ (by omega)]; exact k3.1.1
    have m2 : σ 31 0 g = C := by rw [hfr _ _ _ (by omega)]; exact k3.1.2.1
    have a : ((i : Int) < 12 * (R : Int)) = True := eq_true (by omega)
    have hcl := cntP_le i (fun j => decide (isC R C j) && decide (ndF up dp (dyF F m st so D) j ≠ dp j))
    have d33 : σ 33 0 (144 * g + i) = if isC R C i then dp i else 0 := by rw [hfr _ _ _ (by omega)]; exact k3.2.2.2.2.2.2 i hi2
    by_cases hkc : isC R C i
    · have e1 := sp_isCellY Rf Cf nc hg m1 m2 b2 b4 (show i < 1000 by omega) hkc
      rw [if_pos hkc] at d33
      have hr : σ 52 0 i = rcM so D i := by rw [hfr _ _ _ (by omega)]; exact (hD i hi2 hkc).1
      obtain ⟨r1, r2, r3⟩ := rc_eq hso (hD i hi2 hkc).2
      have hFσ : σ 20 0 19 = F := by rw [hfr _ _ _ (by omega)]; exact hF
      have e6 := sp_dyed Rf Cf nc σ (rcM so D i) m st r2 r3 (by omega) (by omega) (by omega) (by omega) (by omega)
      rw [hFσ, show (if rcM so D i ≤ m ∧ (rcM so D i - 1) / F < st then st - (rcM so D i - 1) / F else 0) = dyF F m st so D i from rfl] at e6
      have dyb := dy_bd (m := m) hF2.1 hst r2
      have dpb := k1.2.2.2.2 i hi2 hkc
      have ndb := nd_bd (up := up) (dy := dyF F m st so D) dpb dyb
      have i1 : (144 * (g : Int) + (i : Int)).toNat = 144 * g + i := by omega
      have fin : ∀ (u8 u9 : Option fx_V) (c2 v : Int), v = ndF up dp (dyF F m st so D) i → c2 = (if ndF up dp (dyF F m st so D) i = dp i then (ch : Int) else ch + 1) → ∃ (σ' : fx_M) (v8 v9 : Option fx_V), fx_E (fx_S Rf Cf nc) 102 41 [some (.inr (some (20, 0))), some (.inl (g : Int)), some (.inl m), some (.inl st), some (.inl (if up then 1 else -1)), some (.inl c2), some (.inl ((i : Int) + 1)), u8, u9] [] (fx_up σ 33 0 (144 * g + i) v) = fx_E (fx_S Rf Cf nc) 102 160 [some (.inr (some (20, 0))), some (.inl (g : Int)), some (.inl m), some (.inl st), some (.inl (if up then 1 else -1)), some (.inl (cntP (12 * R) (fun j => decide (isC R C j) && decide (ndF up dp (dyF F m st so D) j ≠ dp j)) : Int)), some (.inl ((12 * R : Nat) : Int)), v8, v9] [] σ' ∧ (∀ o k x, ¬ (o = 33 ∧ k = 0 ∧ 144 * g ≤ x ∧ x < 144 * g + 12 * R) → σ' o k x = σ1 o k x) ∧ ∀ j, j < 12 * R → σ' 33 0 (144 * g + j) = if isC R C j then ndF up dp (dyF F m st so D) j else 0 := by
        intro u8 u9 c2 v hv2 hc2
        obtain ⟨c3, hc3⟩ : ∃ c3 : Nat, c2 = c3 ∧ c3 = cntP (i + 1) (fun j => decide (isC R C j) && decide (ndF up dp (dyF F m st so D) j ≠ dp j)) := by
          refine ⟨_, ?_, rfl⟩
          rw [hc2]
          simp only [cntP]
          rw [← hch]
          by_cases q : ndF up dp (dyF F m st so D) i = dp i
          · rw [if_pos q, if_neg (by simp [q])]; rfl
          · rw [if_neg q, if_pos (by simp [q, hkc])]; simp
        rw [hc3.1, show (i : Int) + 1 = ((i + 1 : Nat) : Int) by omega]
        refine ih (i + 1) c3 _ u8 u9 (by omega) (fun o k x ho => ?_) (fun j hj => ?_) hc3.2
        · unfold fx_up
          rw [if_neg (by omega)]
          exact hfr o k x (by omega)
        · rw [fx_ui]
          by_cases q : j = i
          · rw [if_pos (by omega), q, if_pos hkc, hv2]
          · rw [if_neg (by omega)]; exact hv j (by omega)
      rw [eX7_dip_41]
      cases up with
      | true =>
        have hnd : ndF true dp (dyF F m st so D) i = min 15 (dp i + dyF F m st so D i) := by unfold ndF; rw [if_pos rfl]
        simp (disch := omega) only [eX7_dip_0, eX7_dip_1, eX7_dip_2, eX7_dip_5, eX7_dip_8, eX7_dip_9, eX7_dip_10, eX7_dip_12, eX7_dip_15, eX7_dip_18, eX7_dip_19, eX7_dip_20, eX7_dip_22, eX7_dip_25, eX7_dip_28, eX7_dip_29, eX7_dip_30, eX7_dip_31, eX7_dip_32, eX7_dip_35, eX7_dip_36, eX7_dip_38, eX7_dip_39, eX7_dip_43, eX7_dip_44, eX7_dip_45, eX7_dip_48, eX7_dip_51, eX7_dip_52, eX7_dip_53, eX7_dip_55, eX7_dip_58, eX7_dip_61, eX7_dip_62, eX7_dip_65, eX7_dip_68, eX7_dip_69, eX7_dip_70, eX7_dip_72, eX7_dip_73, eX7_dip_74, eX7_dip_76, eX7_dip_78, eX7_dip_80, eX7_dip_81, eX7_dip_82, eX7_dip_85, eX7_dip_87, eX7_dip_88, eX7_dip_89, eX7_dip_90, eX7_dip_93, eX7_dip_94, eX7_dip_95, eX7_dip_97, eX7_dip_99, eX7_dip_102, eX7_dip_103, eX7_dip_106, eX7_dip_108, eX7_dip_110, eX7_dip_113, eX7_dip_115, eX7_dip_118, eX7_dip_120, eX7_dip_122, eX7_dip_123, eX7_dip_126, eX7_dip_129, eX7_dip_130, eX7_dip_131, eX7_dip_133, eX7_dip_134, eX7_dip_136, eX7_dip_137, eX7_dip_139, eX7_dip_141, eX7_dip_143, eX7_dip_146, eX7_dip_147, eX7_dip_150, eX7_dip_151, eX7_dip_152, eX7_dip_154, eX7_dip_157, eX7_dip_161, eX7_dip_164, eX7_dip_165, eX7_dip_166, eX7_dip_167, eX7_dip_169, fx_bd_some, Option.toList_some, Option.toList_none, List.nil_append, List.cons_append, fx_uo, fx_ui, Int.toNat_natCast, ↓reduceIte, Int.reduceEq, Int.reduceLT, Int.reduceLE, Int.reduceNeg, sp_cellEnd Rf Cf nc _ g hg, m1, a, e1, i1, d33, hr, e6, Int.one_mul]
        (repeat' split)
        all_goals refine fin _ _ _ _ ?_ ?_
        all_goals first
          | (rw [hnd]; omega)
          | (rw [if_pos (by rw [hnd]; omega)]; omega)
          | (rw [if_neg (by rw [hnd]; omega)])
      | false =>
        have hnd : ndF false dp (dyF F m st so D) i = max 0 (dp i - dyF F m st so D i) := by unfold ndF; rw [if_neg (by simp)]
        have hneg : -1 * dyF F m st so D i = - dyF F m st so D i := by omega
        simp (disch := omega) only [eX7_dip_0, eX7_dip_1, eX7_dip_2, eX7_dip_5, eX7_dip_8, eX7_dip_9, eX7_dip_10, eX7_dip_12, eX7_dip_15, eX7_dip_18, eX7_dip_19, eX7_dip_20, eX7_dip_22, eX7_dip_25, eX7_dip_28, eX7_dip_29, eX7_dip_30, eX7_dip_31, eX7_dip_32, eX7_dip_35, eX7_dip_36, eX7_dip_38, eX7_dip_39, eX7_dip_43, eX7_dip_44, eX7_dip_45, eX7_dip_48, eX7_dip_51, eX7_dip_52, eX7_dip_53, eX7_dip_55, eX7_dip_58, eX7_dip_61, eX7_dip_62, eX7_dip_65, eX7_dip_68, eX7_dip_69, eX7_dip_70, eX7_dip_72, eX7_dip_73, eX7_dip_74, eX7_dip_76, eX7_dip_78, eX7_dip_80, eX7_dip_81, eX7_dip_82, eX7_dip_85, eX7_dip_87, eX7_dip_88, eX7_dip_89, eX7_dip_90, eX7_dip_93, eX7_dip_94, eX7_dip_95, eX7_dip_97, eX7_dip_99, eX7_dip_102, eX7_dip_103, eX7_dip_106, eX7_dip_108, eX7_dip_110, eX7_dip_113, eX7_dip_115, eX7_dip_118, eX7_dip_120, eX7_dip_122, eX7_dip_123, eX7_dip_126, eX7_dip_129, eX7_dip_130, eX7_dip_131, eX7_dip_133, eX7_dip_134, eX7_dip_136, eX7_dip_137, eX7_dip_139, eX7_dip_141, eX7_dip_143, eX7_dip_146, eX7_dip_147, eX7_dip_150, eX7_dip_151, eX7_dip_152, eX7_dip_154, eX7_dip_157, eX7_dip_161, eX7_dip_164, eX7_dip_165, eX7_dip_166, eX7_dip_167, eX7_dip_169, fx_bd_some, Option.toList_some, Option.toList_none, List.nil_append, List.cons_append, fx_uo, fx_ui, Int.toNat_natCast, ↓reduceIte, Int.reduceEq, Int.reduceLT, Int.reduceLE, Int.reduceNeg, sp_cellEnd Rf Cf nc _ g hg, m1, a, e1, i1, d33, hr, e6, hneg, Bool.false_eq_true]
        (repeat' split)
        all_goals refine fin _ _ _ _ ?_ ?_
        all_goals first
          | (rw [hnd]; omega)
          | (rw [if_pos (by rw [hnd]; omega)]; omega)
          | (rw [if_neg (by rw [hnd]; omega)])
    · have e1 := sp_isCellN Rf Cf nc hg m1 m2 b2 b4 (show i < 1000 by omega) hkc
      rw [if_neg hkc] at d33
      rw [eX7_dip_41]
      simp (disch := omega) only [eX7_dip_0, eX7_dip_1, eX7_dip_2, eX7_dip_5, eX7_dip_8, eX7_dip_9, eX7_dip_10, eX7_dip_12, eX7_dip_15, eX7_dip_18, eX7_dip_19, eX7_dip_20, eX7_dip_22, eX7_dip_25, eX7_dip_28, eX7_dip_29, eX7_dip_30, eX7_dip_31, eX7_dip_32, eX7_dip_35, eX7_dip_36, eX7_dip_38, eX7_dip_39, eX7_dip_43, eX7_dip_44, eX7_dip_45, eX7_dip_48, eX7_dip_51, eX7_dip_52, eX7_dip_53, eX7_dip_55, eX7_dip_58, eX7_dip_61, eX7_dip_62, eX7_dip_65, eX7_dip_68, eX7_dip_69, eX7_dip_70, eX7_dip_72, eX7_dip_73, eX7_dip_74, eX7_dip_76, eX7_dip_78, eX7_dip_80, eX7_dip_81, eX7_dip_82, eX7_dip_85, eX7_dip_87, eX7_dip_88, eX7_dip_89, eX7_dip_90, eX7_dip_93, eX7_dip_94, eX7_dip_95, eX7_dip_97, eX7_dip_99, eX7_dip_102, eX7_dip_103, eX7_dip_106, eX7_dip_108, eX7_dip_110, eX7_dip_113, eX7_dip_115, eX7_dip_118, eX7_dip_120, eX7_dip_122, eX7_dip_123, eX7_dip_126, eX7_dip_129, eX7_dip_130, eX7_dip_131, eX7_dip_133, eX7_dip_134, eX7_dip_136, eX7_dip_137, eX7_dip_139, eX7_dip_141, eX7_dip_143, eX7_dip_146, eX7_dip_147, eX7_dip_150, eX7_dip_151, eX7_dip_152, eX7_dip_154, eX7_dip_157, eX7_dip_161, eX7_dip_164, eX7_dip_165, eX7_dip_166, eX7_dip_167, eX7_dip_169, fx_bd_some, Option.toList_some, Option.toList_none, List.nil_append, List.cons_append, fx_uo, fx_ui, Int.toNat_natCast, ↓reduceIte, Int.reduceEq, Int.reduceLT, Int.reduceLE, Int.reduceNeg, sp_cellEnd Rf Cf nc _ g hg, m1, a, e1]
      rw [show (i : Int) + 1 = ((i + 1 : Nat) : Int) by omega]
      refine ih (i + 1) ch σ u8 u9 (by omega) (fun o k x ho => hfr o k x (by omega)) (fun j hj => ?_) ?_
      · by_cases q : j = i
        · rw [q, d33, if_neg hkc]
        · exact hv j (by omega)
      · simp only [cntP]
        rw [hch, if_neg (by simp [hkc])]
        rfl
