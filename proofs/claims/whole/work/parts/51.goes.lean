/-! the reference's search: what one call gives -/
def MT (z : Nat) (σ σ' : fx_M) (l : Nat) : Prop := (∀ o k x, ¬ (k = 0 ∧ ((o = 20 ∧ x = 39) ∨ (o = 42 ∧ x = 6) ∨ (43 ≤ o ∧ o ≤ 46 ∧ x = 36) ∨ (50 ≤ o ∧ o ≤ 52) ∨ (1 ≤ z ∧ ((53 ≤ o ∧ o ≤ 55) ∨ (34 ≤ o ∧ o ≤ 36 ∧ 864 ≤ x ∧ x < 1008) ∨ ((o = 30 ∨ o = 31 ∨ o = 37 ∨ o = 38 ∨ o = 39) ∧ x = 6))) ∨ (2 ≤ z ∧ 59 ≤ o ∧ o ≤ 61 ∧ x = 1) ∨ (3 ≤ z ∧ 59 ≤ o ∧ o ≤ 61 ∧ x = 0))) → σ' o k x = σ o k x) ∧ σ' 20 0 39 = (l : Int)
/-- the folds of a way stand in the reference's arrays -/
def FS (σ : fx_M) (fs : List (Nat × Nat × Nat)) : Prop := ∀ i f, fs[i]? = some f → σ 59 0 i = (f.1 : Int) ∧ σ 60 0 i = (f.2.1 : Int) ∧ σ 61 0 i = (f.2.2 : Int)
def MF (σ : fx_M) (w : Wy) : Prop := FS σ w.1 ∧ ∀ q, w.2 = some q → σ 43 0 36 = (q.1 : Int) ∧ σ 44 0 36 = (q.2.1 : Int) ∧ σ 45 0 36 = (q.2.2.1 : Int) ∧ σ 46 0 36 = (q.2.2.2 : Int)
theorem FS.of {σ σ' : fx_M} {fs : List (Nat × Nat × Nat)} (h : FS σ fs) (hs : ∀ o x, 59 ≤ o → o ≤ 61 → σ' o 0 x = σ o 0 x) : FS σ' fs := fun i f hf => by
  rw [hs _ _ (by omega) (by omega), hs _ _ (by omega) (by omega), hs _ _ (by omega) (by omega)]
  exact h i f hf
def F1 (σ : fx_M) (w : Wy) (X : Option fx_R) : Prop := X = some (some (.inl 1), σ) ∧ MF σ w
def K0 (σ : fx_M) (X : Option fx_R) : Prop := X = some (some (.inl 0), σ)
def MRes (z : Nat) (σ : fx_M) (l : Nat) (A : List (Nat × Wy)) (X : Option fx_R) (Fp : fx_M → Wy → Option fx_R → Prop) (Kp : fx_M → Option fx_R → Prop) : Prop := ∃ σ', MT z σ σ' (gsc l A).1 ∧ (((gsc l A).2 = none ∧ Kp σ' X) ∨ ∃ w, (gsc l A).2 = some w ∧ Fp σ' w X)
theorem MRes.nil {z : Nat} {σ : fx_M} {l : Nat} {X : Option fx_R} {Fp : fx_M → Wy → Option fx_R → Prop} {Kp : fx_M → Option fx_R → Prop} (h : σ 20 0 39 = (l : Int)) (hk : Kp σ X) : MRes z σ l [] X Fp Kp := ⟨σ, ⟨fun _ _ _ _ => rfl, h⟩, Or.inl ⟨rfl, hk⟩⟩
theorem MRes.bind {z : Nat} {σ : fx_M} {l : Nat} {A B : List (Nat × Wy)} {X : Option fx_R} {Fp : fx_M → Wy → Option fx_R → Prop} {Kp Kq : fx_M → Option fx_R → Prop} (hl : 0 < l) (h : MRes z σ l A X Fp Kp) (g : ∀ (σ' : fx_M) (l' : Nat), MT z σ σ' l' → 0 < l' → l' ≤ l → Kp σ' X → MRes z σ' l' B X Fp Kq) : MRes z σ l (A ++ B) X Fp Kq := by
  obtain ⟨σ', h1, h2⟩ := h
  rcases h2 with ⟨h2, h3⟩ | ⟨w, h2, h3⟩
  · have hp : 0 < (gsc l A).1 := by
      rcases Nat.eq_zero_or_pos (gsc l A).1 with q | q
      · have := ((gsc_some A l hl).1).mp q
        rw [h2] at this
        cases this
      · exact q
    obtain ⟨σ'', g1, g2⟩ := g σ' (gsc l A).1 h1 hp (gsc_le A l).1 h3
    refine ⟨σ'', ⟨fun o k x q => by rw [g1.1 o k x q, h1.1 o k x q], by rw [gsc_app]; exact g1.2⟩, ?_⟩
    rw [gsc_app, h2]
    exact g2
  · refine ⟨σ', ⟨h1.1, ?_⟩, Or.inr ⟨w, ?_, h3⟩⟩
    · rw [gsc_app, gsc_found h2, gsc_zero]
      have := h1.2
      rw [gsc_found h2] at this
      exact this
    · rw [gsc_app, h2]
      rfl
theorem MRes.up {z z' : Nat} {σ : fx_M} {l : Nat} {A : List (Nat × Wy)} {X : Option fx_R} {Fp : fx_M → Wy → Option fx_R → Prop} {Kp : fx_M → Option fx_R → Prop} (h : MRes z σ l A X Fp Kp) (hz : z ≤ z') : MRes z' σ l A X Fp Kp := by
  obtain ⟨σ', h1, h2⟩ := h
  exact ⟨σ', ⟨fun o k x q => h1.1 o k x (by omega), h1.2⟩, h2⟩
theorem MRes.pre {z : Nat} {σ σ1 : fx_M} {l : Nat} {A : List (Nat × Wy)} {X : Option fx_R} {Fp : fx_M → Wy → Option fx_R → Prop} {Kp : fx_M → Option fx_R → Prop} (h0 : MT z σ σ1 l) (h : MRes z σ1 l A X Fp Kp) : MRes z σ l A X Fp Kp := by
  obtain ⟨σ', h1, h2⟩ := h
  exact ⟨σ', ⟨fun o k x q => by rw [h1.1 o k x q, h0.1 o k x q], h1.2⟩, h2⟩
theorem MRes.mp {z : Nat} {σ : fx_M} {l : Nat} {A : List (Nat × Wy)} {X Y : Option fx_R} {Fp Fq : fx_M → Wy → Option fx_R → Prop} {Kp Kq : fx_M → Option fx_R → Prop} (h : MRes z σ l A X Fp Kp) (hf : ∀ σ' w, (gsc l A).2 = some w → MT z σ σ' 0 → Fp σ' w X → Fq σ' w Y) (hk : ∀ σ', Kp σ' X → Kq σ' Y) : MRes z σ l A Y Fq Kq := by
  obtain ⟨σ', h1, h2⟩ := h
  refine ⟨σ', h1, ?_⟩
  rcases h2 with ⟨h2, h3⟩ | ⟨w, h2, h3⟩
  · exact Or.inl ⟨h2, hk σ' h3⟩
  · refine Or.inr ⟨w, h2, hf σ' w h2 ?_ h3⟩
    rw [gsc_found h2] at h1
    exact h1
theorem MK.mt {z : Nat} {σ σ' : fx_M} {l : Nat} (h : MT z σ σ' l) {R C m : Nat} {mi st : Int} (hK : MK R C m mi st σ) : MK R C m mi st σ' := hK.of (fun o x q => h.1 _ _ _ (by omega))
/-! boards -/
def PB (R C m br bc : Nat) (mi st : Int) (pr pc ph : Nat → Nat) (fs : List (Nat × Nat × Nat)) (σ : fx_M) : Prop := MK R C m mi st σ ∧ MB 6 R C br bc pr pc ph σ ∧ FS σ fs
theorem PB.mt {σ σ' : fx_M} {l : Nat} (h : MT 0 σ σ' l) {R C m br bc : Nat} {mi st : Int} {pr pc ph : Nat → Nat} {fs : List (Nat × Nat × Nat)} (hP : PB R C m br bc mi st pr pc ph fs σ) : PB R C m br bc mi st pr pc ph fs σ' := ⟨hP.1.mt h, hP.2.1.of (fun o i q => h.1 _ _ _ (by omega)), hP.2.2.of (fun o x q1 q2 => h.1 _ _ _ (by omega))⟩
section MBD
variable {R C m br bc : Nat} {mi st : Int} {pr pc ph : Nat → Nat} {fs : List (Nat × Nat × Nat)}
theorem mb_one (Rf Cf : Nat → Nat) (nc : Nat) (hB : BW R C br bc pr pc ph) (hk : okS R C br bc pr pc ph) (hbr : br ≤ 4) (hbc : bc ≤ 4) {t b x y l : Nat} (ht : t < br) (hb : b < br) (hx : x < bc) (hy : y < bc) {σ : fx_M} (hP : PB R C m br bc mi st pr pc ph fs σ) (hl0 : 0 < l) (hl : l ≤ 1000000) (h39 : σ 20 0 39 = (l : Int)) (u1 u2 : Option fx_V) :
    MRes 0 σ l [bd4 R C m pr pc fs t b x y] (fx_E (fx_S Rf Cf nc) 120 66 [some (.inr (some (20, 0))), u1, u2, some (.inl (t : Int)), some (.inl (b : Int)), some (.inl (x : Int)), some (.inl (y : Int))] [] σ) F1 (fun σ' X => X = fx_E (fx_S Rf Cf nc) 120 66 [some (.inr (some (20, 0))), u1, u2, some (.inl (t : Int)), some (.inl (b : Int)), some (.inl (x : Int)), some (.inl ((y + 1 : Nat) : Int))] [] σ') := by
  have h38 : σ 38 0 6 = bc := hP.2.1.2.2.2.1
  have ab := sp_addBoard Rf Cf nc (fx_up σ 42 0 6 0) 6 0 (t : Int) (b : Int) (x : Int) (y : Int) (by omega) (by omega) (by rw [fx_ui, if_pos rfl]; rfl)
  obtain ⟨τ, hτ⟩ : ∃ τ, τ = fx_up (fx_up (fx_up (fx_up (fx_up (fx_up σ 42 0 6 0) 43 0 (6 * 6 + 0) t) 44 0 (6 * 6 + 0) b) 45 0 (6 * 6 + 0) x) 46 0 (6 * 6 + 0) y) 42 0 6 (((0 : Nat) : Int) + 1) := ⟨_, rfl⟩
  rw [← hτ] at ab
  have c6 : ((6 : Nat) : Int) = 6 := rfl
  rw [c6] at ab
  have fτ : ∀ o k z, ¬ (k = 0 ∧ ((o = 42 ∧ z = 6) ∨ (43 ≤ o ∧ o ≤ 46 ∧ z = 36))) → τ o k z = σ o k z := fun o k z q => by
    rw [hτ]; unfold fx_up
    rw [if_neg (by omega), if_neg (by omega), if_neg (by omega), if_neg (by omega), if_neg (by omega), if_neg (by omega)]
  have v42 : τ 42 0 6 = ((1 : Nat) : Int) := by rw [hτ, fx_ui, if_pos rfl]; rfl
  have v43 : τ 43 0 36 = (t : Int) := by rw [hτ]; simp [fx_up]
  have v44 : τ 44 0 36 = (b : Int) := by rw [hτ]; simp [fx_up]
  have v45 : τ 45 0 36 = (x : Int) := by rw [hτ]; simp [fx_up]
  have v46 : τ 46 0 36 = (y : Int) := by rw [hτ]; simp [fx_up]
  have hM0 : MT 0 σ τ l := ⟨fun o k z q => fτ o k z (by omega), by rw [fτ _ _ _ (by omega)]; exact h39⟩
  have hPτ := hP.mt hM0
  have hMo : MBo 6 1 τ := ⟨by omega, v42, fun j hj => by
    obtain rfl : j = 0 := by omega
    rw [show 6 * 6 + 0 = 36 from rfl, v43, v44, v45, v46]
    exact ⟨by omega, by omega, by omega, by omega⟩⟩
  have hsh : shB 6 1 τ = inR t b x y := by
    funext r n
    unfold shB inR anyP anyP
    rw [Bool.false_or]
    show decide (τ 43 0 36 ≤ (r : Int) ∧ (r : Int) ≤ τ 44 0 36 ∧ τ 45 0 36 ≤ (n : Int) ∧ (n : Int) ≤ τ 46 0 36) = _
    rw [v43, v44, v45, v46]
    exact decide_eq_decide.mpr ⟨fun q => by omega, fun q => by omega⟩
  obtain ⟨σ1, a1, a2, a3⟩ := sp_meets Rf Cf nc hPτ.1 hB hk hPτ.2.1 hMo hl hM0.2
  rw [hsh] at a1 a3
  have hM1 : MT 0 σ σ1 (min l (dif R C m pr pc (inR t b x y))) := ⟨fun o k z q => by rw [a2 o k z (by omega), fτ o k z (by omega)], a3⟩
  refine ⟨σ1, ?_, ?_⟩
  · rw [gsc_one hl0]; exact hM1
  · rw [gsc_one hl0]
    by_cases hD : dif R C m pr pc (inR t b x y) = 0
    · rw [if_pos hD] at a1
      refine Or.inr ⟨(fs, some (t, b, x, y)), by simp [bd4, hD], ?_, (hP.mt hM1).2.2, fun q hq => ?_⟩
      · rw [eX7_tryFolds_66]
        simp (disch := omega) only [eX7_tryFolds_0, eX7_tryFolds_1, eX7_tryFolds_2, eX7_tryFolds_5, eX7_tryFolds_8, eX7_tryFolds_9, eX7_tryFolds_10, eX7_tryFolds_11, eX7_tryFolds_14, eX7_tryFolds_15, eX7_tryFolds_18, eX7_tryFolds_19, eX7_tryFolds_20, eX7_tryFolds_22, eX7_tryFolds_23, eX7_tryFolds_26, eX7_tryFolds_28, eX7_tryFolds_29, eX7_tryFolds_32, eX7_tryFolds_33, eX7_tryFolds_37, eX7_tryFolds_38, eX7_tryFolds_41, eX7_tryFolds_43, eX7_tryFolds_44, eX7_tryFolds_47, eX7_tryFolds_48, eX7_tryFolds_52, eX7_tryFolds_53, eX7_tryFolds_56, eX7_tryFolds_58, eX7_tryFolds_59, eX7_tryFolds_62, eX7_tryFolds_64, eX7_tryFolds_68, eX7_tryFolds_69, eX7_tryFolds_72, eX7_tryFolds_74, eX7_tryFolds_75, eX7_tryFolds_78, eX7_tryFolds_79, eX7_tryFolds_82, eX7_tryFolds_84, eX7_tryFolds_85, eX7_tryFolds_86, eX7_tryFolds_87, eX7_tryFolds_89, eX7_tryFolds_90, eX7_tryFolds_92, eX7_tryFolds_94, eX7_tryFolds_96, eX7_tryFolds_99, eX7_tryFolds_100, eX7_tryFolds_103, eX7_tryFolds_106, eX7_tryFolds_107, eX7_tryFolds_108, eX7_tryFolds_111, eX7_tryFolds_114, eX7_tryFolds_117, eX7_tryFolds_120, eX7_tryFolds_123, eX7_tryFolds_126, eX7_tryFolds_129, eX7_tryFolds_132, eX7_tryFolds_133, fx_bd_some, Option.toList_some, Option.toList_none, List.nil_append, List.cons_append, fx_uo, fx_ui, Int.toNat_natCast, ↓reduceIte, Int.reduceEq, Int.reduceLT, Int.reduceLE, Int.reduceNeg, h38, Int.reduceToNat, ab, a1]
        rw [if_pos (by omega)]
      · obtain rfl : (t, b, x, y) = q := by simpa using hq
        rw [a2 _ _ _ (by omega), a2 _ _ _ (by omega), a2 _ _ _ (by omega), a2 _ _ _ (by omega)]
        exact ⟨v43, v44, v45, v46⟩
    · rw [if_neg hD] at a1
      refine Or.inl ⟨by simp [bd4, hD], ?_⟩
      rw [eX7_tryFolds_66]
      simp (disch := omega) only [eX7_tryFolds_0, eX7_tryFolds_1, eX7_tryFolds_2, eX7_tryFolds_5, eX7_tryFolds_8, eX7_tryFolds_9, eX7_tryFolds_10, eX7_tryFolds_11, eX7_tryFolds_14, eX7_tryFolds_15, eX7_tryFolds_18, eX7_tryFolds_19, eX7_tryFolds_20, eX7_tryFolds_22, eX7_tryFolds_23, eX7_tryFolds_26, eX7_tryFolds_28, eX7_tryFolds_29, eX7_tryFolds_32, eX7_tryFolds_33, eX7_tryFolds_37, eX7_tryFolds_38, eX7_tryFolds_41, eX7_tryFolds_43, eX7_tryFolds_44, eX7_tryFolds_47, eX7_tryFolds_48, eX7_tryFolds_52, eX7_tryFolds_53, eX7_tryFolds_56, eX7_tryFolds_58, eX7_tryFolds_59, eX7_tryFolds_62, eX7_tryFolds_64, eX7_tryFolds_68, eX7_tryFolds_69, eX7_tryFolds_72, eX7_tryFolds_74, eX7_tryFolds_75, eX7_tryFolds_78, eX7_tryFolds_79, eX7_tryFolds_82, eX7_tryFolds_84, eX7_tryFolds_85, eX7_tryFolds_86, eX7_tryFolds_87, eX7_tryFolds_89, eX7_tryFolds_90, eX7_tryFolds_92, eX7_tryFolds_94, eX7_tryFolds_96, eX7_tryFolds_99, eX7_tryFolds_100, eX7_tryFolds_103, eX7_tryFolds_106, eX7_tryFolds_107, eX7_tryFolds_108, eX7_tryFolds_111, eX7_tryFolds_114, eX7_tryFolds_117, eX7_tryFolds_120, eX7_tryFolds_123, eX7_tryFolds_126, eX7_tryFolds_129, eX7_tryFolds_132, eX7_tryFolds_133, fx_bd_some, Option.toList_some, Option.toList_none, List.nil_append, List.cons_append, fx_uo, fx_ui, Int.toNat_natCast, ↓reduceIte, Int.reduceEq, Int.reduceLT, Int.reduceLE, Int.reduceNeg, h38, Int.reduceToNat, ab, a1]
      rw [if_pos (by omega), show (y : Int) + 1 = ((y + 1 : Nat) : Int) by omega]
theorem mb_r (Rf Cf : Nat → Nat) (nc : Nat) (hB : BW R C br bc pr pc ph) (hk : okS R C br bc pr pc ph) (hbr : br ≤ 4) (hbc : bc ≤ 4) {t b x : Nat} (ht : t < br) (hb : b < br) (hx : x < bc) (u1 u2 : Option fx_V) :
    ∀ (d y l : Nat) (σ : fx_M), y + d = bc → PB R C m br bc mi st pr pc ph fs σ → 0 < l → l ≤ 1000000 → σ 20 0 39 = (l : Int) →
    MRes 0 σ l (bd3 R C m bc pr pc fs t b x y) (fx_E (fx_S Rf Cf nc) 120 66 [some (.inr (some (20, 0))), u1, u2, some (.inl (t : Int)), some (.inl (b : Int)), some (.inl (x : Int)), some (.inl (y : Int))] [] σ) F1 (fun σ' X => ∃ v6, X = fx_E (fx_S Rf Cf nc) 120 50 [some (.inr (some (20, 0))), u1, u2, some (.inl (t : Int)), some (.inl (b : Int)), some (.inl ((x + 1 : Nat) : Int)), v6] [] σ') := by
  intro d
  induction d with
  | zero =>
    intro y l σ hy hP hl0 hl h39
    obtain rfl : y = bc := by omega
    rw [bd3_ge (Nat.le_refl _)]
    refine MRes.nil h39 ⟨some (.inl (y : Int)), ?_⟩
    have h38 : σ 38 0 6 = y := hP.2.1.2.2.2.1
    rw [eX7_tryFolds_66]
    simp (disch := omega) only [eX7_tryFolds_0, eX7_tryFolds_1, eX7_tryFolds_2, eX7_tryFolds_5, eX7_tryFolds_8, eX7_tryFolds_9, eX7_tryFolds_10, eX7_tryFolds_11, eX7_tryFolds_14, eX7_tryFolds_15, eX7_tryFolds_18, eX7_tryFolds_19, eX7_tryFolds_20, eX7_tryFolds_22, eX7_tryFolds_23, eX7_tryFolds_26, eX7_tryFolds_28, eX7_tryFolds_29, eX7_tryFolds_32, eX7_tryFolds_33, eX7_tryFolds_37, eX7_tryFolds_38, eX7_tryFolds_41, eX7_tryFolds_43, eX7_tryFolds_44, eX7_tryFolds_47, eX7_tryFolds_48, eX7_tryFolds_52, eX7_tryFolds_53, eX7_tryFolds_56, eX7_tryFolds_58, eX7_tryFolds_59, eX7_tryFolds_62, eX7_tryFolds_64, eX7_tryFolds_68, eX7_tryFolds_69, eX7_tryFolds_72, eX7_tryFolds_74, eX7_tryFolds_75, eX7_tryFolds_78, eX7_tryFolds_79, eX7_tryFolds_82, eX7_tryFolds_84, eX7_tryFolds_85, eX7_tryFolds_86, eX7_tryFolds_87, eX7_tryFolds_89, eX7_tryFolds_90, eX7_tryFolds_92, eX7_tryFolds_94, eX7_tryFolds_96, eX7_tryFolds_99, eX7_tryFolds_100, eX7_tryFolds_103, eX7_tryFolds_106, eX7_tryFolds_107, eX7_tryFolds_108, eX7_tryFolds_111, eX7_tryFolds_114, eX7_tryFolds_117, eX7_tryFolds_120, eX7_tryFolds_123, eX7_tryFolds_126, eX7_tryFolds_129, eX7_tryFolds_132, eX7_tryFolds_133, fx_bd_some, Option.toList_some, Option.toList_none, List.nil_append, List.cons_append, fx_uo, fx_ui, Int.toNat_natCast, ↓reduceIte, Int.reduceEq, Int.reduceLT, Int.reduceLE, Int.reduceNeg, h38, Int.reduceToNat]
    rw [if_neg (by omega), show (x : Int) + 1 = ((x + 1 : Nat) : Int) by omega]
  | succ d ih =>
    intro y l σ hy hP hl0 hl h39
    rw [bd3_lt (show y < bc by omega)]
    refine MRes.bind (A := [_]) hl0 (mb_one Rf Cf nc hB hk hbr hbc ht hb hx (show y < bc by omega) hP hl0 hl h39 u1 u2) (fun σ' l' h1 h2 h3 h4 => ?_)
    rw [h4]
    exact ih (y + 1) l' σ' (by omega) (hP.mt h1) h2 (by omega) h1.2
theorem mb_x (Rf Cf : Nat → Nat) (nc : Nat) (hB : BW R C br bc pr pc ph) (hk : okS R C br bc pr pc ph) (hbr : br ≤ 4) (hbc : bc ≤ 4) {t b : Nat} (ht : t < br) (hb : b < br) (u1 u2 : Option fx_V) :
    ∀ (d x l : Nat) (σ : fx_M) (u6 : Option fx_V), x + d = bc → PB R C m br bc mi st pr pc ph fs σ → 0 < l → l ≤ 1000000 → σ 20 0 39 = (l : Int) →
    MRes 0 σ l (bd2 R C m bc pr pc fs t b x) (fx_E (fx_S Rf Cf nc) 120 50 [some (.inr (some (20, 0))), u1, u2, some (.inl (t : Int)), some (.inl (b : Int)), some (.inl (x : Int)), u6] [] σ) F1 (fun σ' X => ∃ v5 v6, X = fx_E (fx_S Rf Cf nc) 120 35 [some (.inr (some (20, 0))), u1, u2, some (.inl (t : Int)), some (.inl ((b + 1 : Nat) : Int)), v5, v6] [] σ') := by
  intro d
  induction d with
  | zero =>
    intro x l σ u6 hx hP hl0 hl h39
    obtain rfl : x = bc := by omega
    rw [bd2_ge (Nat.le_refl _)]
    refine MRes.nil h39 ⟨some (.inl (x : Int)), u6, ?_⟩
    have h38 : σ 38 0 6 = x := hP.2.1.2.2.2.1
    rw [eX7_tryFolds_50]
    simp (disch := omega) only [eX7_tryFolds_0, eX7_tryFolds_1, eX7_tryFolds_2, eX7_tryFolds_5, eX7_tryFolds_8, eX7_tryFolds_9, eX7_tryFolds_10, eX7_tryFolds_11, eX7_tryFolds_14, eX7_tryFolds_15, eX7_tryFolds_18, eX7_tryFolds_19, eX7_tryFolds_20, eX7_tryFolds_22, eX7_tryFolds_23, eX7_tryFolds_26, eX7_tryFolds_28, eX7_tryFolds_29, eX7_tryFolds_32, eX7_tryFolds_33, eX7_tryFolds_37, eX7_tryFolds_38, eX7_tryFolds_41, eX7_tryFolds_43, eX7_tryFolds_44, eX7_tryFolds_47, eX7_tryFolds_48, eX7_tryFolds_52, eX7_tryFolds_53, eX7_tryFolds_56, eX7_tryFolds_58, eX7_tryFolds_59, eX7_tryFolds_62, eX7_tryFolds_64, eX7_tryFolds_68, eX7_tryFolds_69, eX7_tryFolds_72, eX7_tryFolds_74, eX7_tryFolds_75, eX7_tryFolds_78, eX7_tryFolds_79, eX7_tryFolds_82, eX7_tryFolds_84, eX7_tryFolds_85, eX7_tryFolds_86, eX7_tryFolds_87, eX7_tryFolds_89, eX7_tryFolds_90, eX7_tryFolds_92, eX7_tryFolds_94, eX7_tryFolds_96, eX7_tryFolds_99, eX7_tryFolds_100, eX7_tryFolds_103, eX7_tryFolds_106, eX7_tryFolds_107, eX7_tryFolds_108, eX7_tryFolds_111, eX7_tryFolds_114, eX7_tryFolds_117, eX7_tryFolds_120, eX7_tryFolds_123, eX7_tryFolds_126, eX7_tryFolds_129, eX7_tryFolds_132, eX7_tryFolds_133, fx_bd_some, Option.toList_some, Option.toList_none, List.nil_append, List.cons_append, fx_uo, fx_ui, Int.toNat_natCast, ↓reduceIte, Int.reduceEq, Int.reduceLT, Int.reduceLE, Int.reduceNeg, h38, Int.reduceToNat]
    rw [if_neg (by omega), show (b : Int) + 1 = ((b + 1 : Nat) : Int) by omega]
  | succ d ih =>
    intro x l σ u6 hx hP hl0 hl h39
    rw [bd2_lt (show x < bc by omega)]
    have h38 : σ 38 0 6 = bc := hP.2.1.2.2.2.1
    have e : fx_E (fx_S Rf Cf nc) 120 50 [some (.inr (some (20, 0))), u1, u2, some (.inl (t : Int)), some (.inl (b : Int)), some (.inl (x : Int)), u6] [] σ = fx_E (fx_S Rf Cf nc) 120 66 [some (.inr (some (20, 0))), u1, u2, some (.inl (t : Int)), some (.inl (b : Int)), some (.inl (x : Int)), some (.inl (x : Int))] [] σ := by
      rw [eX7_tryFolds_50]
      simp (disch := omega) only [eX7_tryFolds_0, eX7_tryFolds_1, eX7_tryFolds_2, eX7_tryFolds_5, eX7_tryFolds_8, eX7_tryFolds_9, eX7_tryFolds_10, eX7_tryFolds_11, eX7_tryFolds_14, eX7_tryFolds_15, eX7_tryFolds_18, eX7_tryFolds_19, eX7_tryFolds_20, eX7_tryFolds_22, eX7_tryFolds_23, eX7_tryFolds_26, eX7_tryFolds_28, eX7_tryFolds_29, eX7_tryFolds_32, eX7_tryFolds_33, eX7_tryFolds_37, eX7_tryFolds_38, eX7_tryFolds_41, eX7_tryFolds_43, eX7_tryFolds_44, eX7_tryFolds_47, eX7_tryFolds_48, eX7_tryFolds_52, eX7_tryFolds_53, eX7_tryFolds_56, eX7_tryFolds_58, eX7_tryFolds_59, eX7_tryFolds_62, eX7_tryFolds_64, eX7_tryFolds_68, eX7_tryFolds_69, eX7_tryFolds_72, eX7_tryFolds_74, eX7_tryFolds_75, eX7_tryFolds_78, eX7_tryFolds_79, eX7_tryFolds_82, eX7_tryFolds_84, eX7_tryFolds_85, eX7_tryFolds_86, eX7_tryFolds_87, eX7_tryFolds_89, eX7_tryFolds_90, eX7_tryFolds_92, eX7_tryFolds_94, eX7_tryFolds_96, eX7_tryFolds_99, eX7_tryFolds_100, eX7_tryFolds_103, eX7_tryFolds_106, eX7_tryFolds_107, eX7_tryFolds_108, eX7_tryFolds_111, eX7_tryFolds_114, eX7_tryFolds_117, eX7_tryFolds_120, eX7_tryFolds_123, eX7_tryFolds_126, eX7_tryFolds_129, eX7_tryFolds_132, eX7_tryFolds_133, fx_bd_some, Option.toList_some, Option.toList_none, List.nil_append, List.cons_append, fx_uo, fx_ui, Int.toNat_natCast, ↓reduceIte, Int.reduceEq, Int.reduceLT, Int.reduceLE, Int.reduceNeg, h38, Int.reduceToNat]
      rw [if_pos (by omega)]
    rw [e]
    refine MRes.bind hl0 (mb_r Rf Cf nc hB hk hbr hbc ht hb (show x < bc by omega) u1 u2 (bc - x) x l σ (by omega) hP hl0 hl h39) (fun σ' l' h1 h2 h3 h4 => ?_)
    obtain ⟨v6, h4⟩ := h4
    rw [h4]
    exact ih (x + 1) l' σ' v6 (by omega) (hP.mt h1) h2 (by omega) h1.2
theorem mb_b (Rf Cf : Nat → Nat) (nc : Nat) (hB : BW R C br bc pr pc ph) (hk : okS R C br bc pr pc ph) (hbr : br ≤ 4) (hbc : bc ≤ 4) {t : Nat} (ht : t < br) (u1 u2 : Option fx_V) :
    ∀ (d b l : Nat) (σ : fx_M) (u5 u6 : Option fx_V), b + d = br → PB R C m br bc mi st pr pc ph fs σ → 0 < l → l ≤ 1000000 → σ 20 0 39 = (l : Int) →
    MRes 0 σ l (bd1 R C m br bc pr pc fs t b) (fx_E (fx_S Rf Cf nc) 120 35 [some (.inr (some (20, 0))), u1, u2, some (.inl (t : Int)), some (.inl (b : Int)), u5, u6] [] σ) F1 (fun σ' X => ∃ v4 v5 v6, X = fx_E (fx_S Rf Cf nc) 120 21 [some (.inr (some (20, 0))), u1, u2, some (.inl ((t + 1 : Nat) : Int)), v4, v5, v6] [] σ') := by
  intro d
  induction d with
  | zero =>
    intro b l σ u5 u6 hx hP hl0 hl h39
    obtain rfl : b = br := by omega
    rw [bd1_ge (Nat.le_refl _)]
    refine MRes.nil h39 ⟨some (.inl (b : Int)), u5, u6, ?_⟩
    have h37 : σ 37 0 6 = b := hP.2.1.2.2.1
    rw [eX7_tryFolds_35]
    simp (disch := omega) only [eX7_tryFolds_0, eX7_tryFolds_1, eX7_tryFolds_2, eX7_tryFolds_5, eX7_tryFolds_8, eX7_tryFolds_9, eX7_tryFolds_10, eX7_tryFolds_11, eX7_tryFolds_14, eX7_tryFolds_15, eX7_tryFolds_18, eX7_tryFolds_19, eX7_tryFolds_20, eX7_tryFolds_22, eX7_tryFolds_23, eX7_tryFolds_26, eX7_tryFolds_28, eX7_tryFolds_29, eX7_tryFolds_32, eX7_tryFolds_33, eX7_tryFolds_37, eX7_tryFolds_38, eX7_tryFolds_41, eX7_tryFolds_43, eX7_tryFolds_44, eX7_tryFolds_47, eX7_tryFolds_48, eX7_tryFolds_52, eX7_tryFolds_53, eX7_tryFolds_56, eX7_tryFolds_58, eX7_tryFolds_59, eX7_tryFolds_62, eX7_tryFolds_64, eX7_tryFolds_68, eX7_tryFolds_69, eX7_tryFolds_72, eX7_tryFolds_74, eX7_tryFolds_75, eX7_tryFolds_78, eX7_tryFolds_79, eX7_tryFolds_82, eX7_tryFolds_84, eX7_tryFolds_85, eX7_tryFolds_86, eX7_tryFolds_87, eX7_tryFolds_89, eX7_tryFolds_90, eX7_tryFolds_92, eX7_tryFolds_94, eX7_tryFolds_96, eX7_tryFolds_99, eX7_tryFolds_100, eX7_tryFolds_103, eX7_tryFolds_106, eX7_tryFolds_107, eX7_tryFolds_108, eX7_tryFolds_111, eX7_tryFolds_114, eX7_tryFolds_117, eX7_tryFolds_120, eX7_tryFolds_123, eX7_tryFolds_126, eX7_tryFolds_129, eX7_tryFolds_132, eX7_tryFolds_133, fx_bd_some, Option.toList_some, Option.toList_none, List.nil_append, List.cons_append, fx_uo, fx_ui, Int.toNat_natCast, ↓reduceIte, Int.reduceEq, Int.reduceLT, Int.reduceLE, Int.reduceNeg, h37, Int.reduceToNat]
    rw [if_neg (by omega), show (t : Int) + 1 = ((t + 1 : Nat) : Int) by omega]
  | succ d ih =>
    intro b l σ u5 u6 hx hP hl0 hl h39
    rw [bd1_lt (show b < br by omega)]
    have h37 : σ 37 0 6 = br := hP.2.1.2.2.1
    have e : fx_E (fx_S Rf Cf nc) 120 35 [some (.inr (some (20, 0))), u1, u2, some (.inl (t : Int)), some (.inl (b : Int)), u5, u6] [] σ = fx_E (fx_S Rf Cf nc) 120 50 [some (.inr (some (20, 0))), u1, u2, some (.inl (t : Int)), some (.inl (b : Int)), some (.inl ((0 : Nat) : Int)), u6] [] σ := by
      rw [eX7_tryFolds_35]
      simp (disch := omega) only [eX7_tryFolds_0, eX7_tryFolds_1, eX7_tryFolds_2, eX7_tryFolds_5, eX7_tryFolds_8, eX7_tryFolds_9, eX7_tryFolds_10, eX7_tryFolds_11, eX7_tryFolds_14, eX7_tryFolds_15, eX7_tryFolds_18, eX7_tryFolds_19, eX7_tryFolds_20, eX7_tryFolds_22, eX7_tryFolds_23, eX7_tryFolds_26, eX7_tryFolds_28, eX7_tryFolds_29, eX7_tryFolds_32, eX7_tryFolds_33, eX7_tryFolds_37, eX7_tryFolds_38, eX7_tryFolds_41, eX7_tryFolds_43, eX7_tryFolds_44, eX7_tryFolds_47, eX7_tryFolds_48, eX7_tryFolds_52, eX7_tryFolds_53, eX7_tryFolds_56, eX7_tryFolds_58, eX7_tryFolds_59, eX7_tryFolds_62, eX7_tryFolds_64, eX7_tryFolds_68, eX7_tryFolds_69, eX7_tryFolds_72, eX7_tryFolds_74, eX7_tryFolds_75, eX7_tryFolds_78, eX7_tryFolds_79, eX7_tryFolds_82, eX7_tryFolds_84, eX7_tryFolds_85, eX7_tryFolds_86, eX7_tryFolds_87, eX7_tryFolds_89, eX7_tryFolds_90, eX7_tryFolds_92, eX7_tryFolds_94, eX7_tryFolds_96, eX7_tryFolds_99, eX7_tryFolds_100, eX7_tryFolds_103, eX7_tryFolds_106, eX7_tryFolds_107, eX7_tryFolds_108, eX7_tryFolds_111, eX7_tryFolds_114, eX7_tryFolds_117, eX7_tryFolds_120, eX7_tryFolds_123, eX7_tryFolds_126, eX7_tryFolds_129, eX7_tryFolds_132, eX7_tryFolds_133, fx_bd_some, Option.toList_some, Option.toList_none, List.nil_append, List.cons_append, fx_uo, fx_ui, Int.toNat_natCast, ↓reduceIte, Int.reduceEq, Int.reduceLT, Int.reduceLE, Int.reduceNeg, h37, Int.reduceToNat]
      rw [if_pos (by omega)]
      rfl
    rw [e]
    refine MRes.bind hl0 (mb_x Rf Cf nc hB hk hbr hbc ht (show b < br by omega) u1 u2 bc 0 l σ u6 (by omega) hP hl0 hl h39) (fun σ' l' h1 h2 h3 h4 => ?_)
    obtain ⟨v5, v6, h4⟩ := h4
    rw [h4]
    exact ih (b + 1) l' σ' v5 v6 (by omega) (hP.mt h1) h2 (by omega) h1.2
theorem mb_t (Rf Cf : Nat → Nat) (nc : Nat) (hB : BW R C br bc pr pc ph) (hk : okS R C br bc pr pc ph) (hbr : br ≤ 4) (hbc : bc ≤ 4) (u1 u2 : Option fx_V) :
    ∀ (d t l : Nat) (σ : fx_M) (u4 u5 u6 : Option fx_V), t + d = br → PB R C m br bc mi st pr pc ph fs σ → 0 < l → l ≤ 1000000 → σ 20 0 39 = (l : Int) →
    MRes 0 σ l (bd0 R C m br bc pr pc fs t) (fx_E (fx_S Rf Cf nc) 120 21 [some (.inr (some (20, 0))), u1, u2, some (.inl (t : Int)), u4, u5, u6] [] σ) F1 K0 := by
  intro d
  induction d with
  | zero =>
    intro t l σ u4 u5 u6 hx hP hl0 hl h39
    obtain rfl : t = br := by omega
    rw [bd0_ge (Nat.le_refl _)]
    refine MRes.nil h39 ?_
    have h37 : σ 37 0 6 = t := hP.2.1.2.2.1
    unfold K0
    rw [eX7_tryFolds_21]
    simp (disch := omega) only [eX7_tryFolds_0, eX7_tryFolds_1, eX7_tryFolds_2, eX7_tryFolds_5, eX7_tryFolds_8, eX7_tryFolds_9, eX7_tryFolds_10, eX7_tryFolds_11, eX7_tryFolds_14, eX7_tryFolds_15, eX7_tryFolds_18, eX7_tryFolds_19, eX7_tryFolds_20, eX7_tryFolds_22, eX7_tryFolds_23, eX7_tryFolds_26, eX7_tryFolds_28, eX7_tryFolds_29, eX7_tryFolds_32, eX7_tryFolds_33, eX7_tryFolds_37, eX7_tryFolds_38, eX7_tryFolds_41, eX7_tryFolds_43, eX7_tryFolds_44, eX7_tryFolds_47, eX7_tryFolds_48, eX7_tryFolds_52, eX7_tryFolds_53, eX7_tryFolds_56, eX7_tryFolds_58, eX7_tryFolds_59, eX7_tryFolds_62, eX7_tryFolds_64, eX7_tryFolds_68, eX7_tryFolds_69, eX7_tryFolds_72, eX7_tryFolds_74, eX7_tryFolds_75, eX7_tryFolds_78, eX7_tryFolds_79, eX7_tryFolds_82, eX7_tryFolds_84, eX7_tryFolds_85, eX7_tryFolds_86, eX7_tryFolds_87, eX7_tryFolds_89, eX7_tryFolds_90, eX7_tryFolds_92, eX7_tryFolds_94, eX7_tryFolds_96, eX7_tryFolds_99, eX7_tryFolds_100, eX7_tryFolds_103, eX7_tryFolds_106, eX7_tryFolds_107, eX7_tryFolds_108, eX7_tryFolds_111, eX7_tryFolds_114, eX7_tryFolds_117, eX7_tryFolds_120, eX7_tryFolds_123, eX7_tryFolds_126, eX7_tryFolds_129, eX7_tryFolds_132, eX7_tryFolds_133, fx_bd_some, Option.toList_some, Option.toList_none, List.nil_append, List.cons_append, fx_uo, fx_ui, Int.toNat_natCast, ↓reduceIte, Int.reduceEq, Int.reduceLT, Int.reduceLE, Int.reduceNeg, h37, Int.reduceToNat]
    rw [if_neg (by omega)]
  | succ d ih =>
    intro t l σ u4 u5 u6 hx hP hl0 hl h39
    rw [bd0_lt (show t < br by omega)]
    have h37 : σ 37 0 6 = br := hP.2.1.2.2.1
    have e : fx_E (fx_S Rf Cf nc) 120 21 [some (.inr (some (20, 0))), u1, u2, some (.inl (t : Int)), u4, u5, u6] [] σ = fx_E (fx_S Rf Cf nc) 120 35 [some (.inr (some (20, 0))), u1, u2, some (.inl (t : Int)), some (.inl (t : Int)), u5, u6] [] σ := by
      rw [eX7_tryFolds_21]
      simp (disch := omega) only [eX7_tryFolds_0, eX7_tryFolds_1, eX7_tryFolds_2, eX7_tryFolds_5, eX7_tryFolds_8, eX7_tryFolds_9, eX7_tryFolds_10, eX7_tryFolds_11, eX7_tryFolds_14, eX7_tryFolds_15, eX7_tryFolds_18, eX7_tryFolds_19, eX7_tryFolds_20, eX7_tryFolds_22, eX7_tryFolds_23, eX7_tryFolds_26, eX7_tryFolds_28, eX7_tryFolds_29, eX7_tryFolds_32, eX7_tryFolds_33, eX7_tryFolds_37, eX7_tryFolds_38, eX7_tryFolds_41, eX7_tryFolds_43, eX7_tryFolds_44, eX7_tryFolds_47, eX7_tryFolds_48, eX7_tryFolds_52, eX7_tryFolds_53, eX7_tryFolds_56, eX7_tryFolds_58, eX7_tryFolds_59, eX7_tryFolds_62, eX7_tryFolds_64, eX7_tryFolds_68, eX7_tryFolds_69, eX7_tryFolds_72, eX7_tryFolds_74, eX7_tryFolds_75, eX7_tryFolds_78, eX7_tryFolds_79, eX7_tryFolds_82, eX7_tryFolds_84, eX7_tryFolds_85, eX7_tryFolds_86, eX7_tryFolds_87, eX7_tryFolds_89, eX7_tryFolds_90, eX7_tryFolds_92, eX7_tryFolds_94, eX7_tryFolds_96, eX7_tryFolds_99, eX7_tryFolds_100, eX7_tryFolds_103, eX7_tryFolds_106, eX7_tryFolds_107, eX7_tryFolds_108, eX7_tryFolds_111, eX7_tryFolds_114, eX7_tryFolds_117, eX7_tryFolds_120, eX7_tryFolds_123, eX7_tryFolds_126, eX7_tryFolds_129, eX7_tryFolds_132, eX7_tryFolds_133, fx_bd_some, Option.toList_some, Option.toList_none, List.nil_append, List.cons_append, fx_uo, fx_ui, Int.toNat_natCast, ↓reduceIte, Int.reduceEq, Int.reduceLT, Int.reduceLE, Int.reduceNeg, h37, Int.reduceToNat]
      rw [if_pos (by omega)]
    rw [e]
    refine MRes.bind hl0 (mb_b Rf Cf nc hB hk hbr hbc (show t < br by omega) u1 u2 (br - t) t l σ u5 u6 (by omega) hP hl0 hl h39) (fun σ' l' h1 h2 h3 h4 => ?_)
    obtain ⟨v4, v5, v6, h4⟩ := h4
    rw [h4]
    exact ih (t + 1) l' σ' v4 v5 v6 (by omega) (hP.mt h1) h2 (by omega) h1.2
/-! a way that was folded, or could not be -/
theorem tf_ok (Rf Cf : Nat → Nat) (nc : Nat) (hok : okS R C br bc pr pc ph) {l many : Nat} {bo : Bool} {σ σ1 : fx_M} (hK : MK R C m mi st σ) (hF : FS σ fs) (e : fx_Ca (fx_S Rf Cf nc) 117 [.inr (some (20, 0)), .inl (many : Int)] σ = some (some (.inl 1), σ1)) (hf : MT 1 σ σ1 l) (hT : TM R C br bc pr pc ph σ1) (hl0 : 0 < l) (hl : l ≤ 1000000) :
    MRes 1 σ l (wyB R C m fs bo (br, bc, pr, pc)) (fx_Ca (fx_S Rf Cf nc) 120 [.inr (some (20, 0)), .inl (many : Int), .inl (if bo then 1 else 0)] σ) F1 K0 := by
  obtain ⟨hMB, h42, hB⟩ := hT
  obtain ⟨⟨b1, b2⟩, ⟨b3, b4⟩, ⟨b5, b6⟩, ⟨b7, b8⟩, b9, b10, b11⟩ := id hB
  have hK1 := hK.mt hf
  have hF1 : FS σ1 fs := hF.of (fun o x q1 q2 => hf.1 _ _ _ (by omega))
  refine MRes.pre hf ?_
  obtain ⟨⟨r1, r2⟩, -⟩ := id hK1
  cases bo with
  | true =>
    have q : wyB R C m fs true (br, bc, pr, pc) = bd0 R C m br bc pr pc fs 0 := rfl
    rw [q, if_pos rfl]
    have e2 : fx_Ca (fx_S Rf Cf nc) 120 [.inr (some (20, 0)), .inl (many : Int), .inl 1] σ = fx_E (fx_S Rf Cf nc) 120 21 [some (.inr (some (20, 0))), some (.inl (many : Int)), some (.inl 1), some (.inl ((0 : Nat) : Int)), none, none, none] [] σ1 := by
      rw [entX7_tryFolds]
      simp (disch := omega) only [eX7_tryFolds_0, eX7_tryFolds_1, eX7_tryFolds_2, eX7_tryFolds_5, eX7_tryFolds_8, eX7_tryFolds_9, eX7_tryFolds_10, eX7_tryFolds_11, eX7_tryFolds_14, eX7_tryFolds_15, eX7_tryFolds_18, eX7_tryFolds_19, eX7_tryFolds_20, eX7_tryFolds_22, eX7_tryFolds_23, eX7_tryFolds_26, eX7_tryFolds_28, eX7_tryFolds_29, eX7_tryFolds_32, eX7_tryFolds_33, eX7_tryFolds_37, eX7_tryFolds_38, eX7_tryFolds_41, eX7_tryFolds_43, eX7_tryFolds_44, eX7_tryFolds_47, eX7_tryFolds_48, eX7_tryFolds_52, eX7_tryFolds_53, eX7_tryFolds_56, eX7_tryFolds_58, eX7_tryFolds_59, eX7_tryFolds_62, eX7_tryFolds_64, eX7_tryFolds_68, eX7_tryFolds_69, eX7_tryFolds_72, eX7_tryFolds_74, eX7_tryFolds_75, eX7_tryFolds_78, eX7_tryFolds_79, eX7_tryFolds_82, eX7_tryFolds_84, eX7_tryFolds_85, eX7_tryFolds_86, eX7_tryFolds_87, eX7_tryFolds_89, eX7_tryFolds_90, eX7_tryFolds_92, eX7_tryFolds_94, eX7_tryFolds_96, eX7_tryFolds_99, eX7_tryFolds_100, eX7_tryFolds_103, eX7_tryFolds_106, eX7_tryFolds_107, eX7_tryFolds_108, eX7_tryFolds_111, eX7_tryFolds_114, eX7_tryFolds_117, eX7_tryFolds_120, eX7_tryFolds_123, eX7_tryFolds_126, eX7_tryFolds_129, eX7_tryFolds_132, eX7_tryFolds_133, fx_bd_some, Option.toList_some, Option.toList_none, List.nil_append, List.cons_append, fx_uo, fx_ui, Int.toNat_natCast, ↓reduceIte, Int.reduceEq, Int.reduceLT, Int.reduceLE, Int.reduceNeg, e]
      rfl
    rw [e2]
    exact (mb_t Rf Cf nc hB hok (by omega) (by omega) _ _ br 0 l σ1 none none none (by omega) ⟨hK1, hMB, hF1⟩ hl0 hl hf.2).up (by omega)
  | false =>
    have q : wyB R C m fs false (br, bc, pr, pc) = [(dif R C m pr pc noB, (fs, none))] := rfl
    rw [q, if_neg (by simp)]
    have hMo : MBo 6 0 σ1 := ⟨by omega, h42, fun j hj => by omega⟩
    have hsh : shB 6 0 σ1 = noB := rfl
    obtain ⟨σ2, a1, a2, a3⟩ := sp_meets Rf Cf nc hK1 hB hok hMB hMo hl hf.2
    rw [hsh] at a1 a3
    have e2 : fx_Ca (fx_S Rf Cf nc) 120 [.inr (some (20, 0)), .inl (many : Int), .inl 0] σ = some (some (.inl (if dif R C m pr pc noB = 0 then 1 else 0)), σ2) := by
      rw [entX7_tryFolds]
      simp (disch := omega) only [eX7_tryFolds_0, eX7_tryFolds_1, eX7_tryFolds_2, eX7_tryFolds_5, eX7_tryFolds_8, eX7_tryFolds_9, eX7_tryFolds_10, eX7_tryFolds_11, eX7_tryFolds_14, eX7_tryFolds_15, eX7_tryFolds_18, eX7_tryFolds_19, eX7_tryFolds_20, eX7_tryFolds_22, eX7_tryFolds_23, eX7_tryFolds_26, eX7_tryFolds_28, eX7_tryFolds_29, eX7_tryFolds_32, eX7_tryFolds_33, eX7_tryFolds_37, eX7_tryFolds_38, eX7_tryFolds_41, eX7_tryFolds_43, eX7_tryFolds_44, eX7_tryFolds_47, eX7_tryFolds_48, eX7_tryFolds_52, eX7_tryFolds_53, eX7_tryFolds_56, eX7_tryFolds_58, eX7_tryFolds_59, eX7_tryFolds_62, eX7_tryFolds_64, eX7_tryFolds_68, eX7_tryFolds_69, eX7_tryFolds_72, eX7_tryFolds_74, eX7_tryFolds_75, eX7_tryFolds_78, eX7_tryFolds_79, eX7_tryFolds_82, eX7_tryFolds_84, eX7_tryFolds_85, eX7_tryFolds_86, eX7_tryFolds_87, eX7_tryFolds_89, eX7_tryFolds_90, eX7_tryFolds_92, eX7_tryFolds_94, eX7_tryFolds_96, eX7_tryFolds_99, eX7_tryFolds_100, eX7_tryFolds_103, eX7_tryFolds_106, eX7_tryFolds_107, eX7_tryFolds_108, eX7_tryFolds_111, eX7_tryFolds_114, eX7_tryFolds_117, eX7_tryFolds_120, eX7_tryFolds_123, eX7_tryFolds_126, eX7_tryFolds_129, eX7_tryFolds_132, eX7_tryFolds_133, fx_bd_some, Option.toList_some, Option.toList_none, List.nil_append, List.cons_append, fx_uo, fx_ui, Int.toNat_natCast, ↓reduceIte, Int.reduceEq, Int.reduceLT, Int.reduceLE, Int.reduceNeg, e, a1]
    rw [e2]
    have hM2 : MT 1 σ1 σ2 (min l (dif R C m pr pc noB)) := ⟨fun o k z q => a2 o k z (by omega), a3⟩
    refine ⟨σ2, by rw [gsc_one hl0]; exact hM2, ?_⟩
    rw [gsc_one hl0]
    by_cases hD : dif R C m pr pc noB = 0
    · refine Or.inr ⟨(fs, none), by simp [hD], by rw [if_pos hD], hF1.of (fun o x q1 q2 => hM2.1 _ _ _ (by omega)), fun q hq => by cases hq⟩
    · refine Or.inl ⟨by simp [hD], ?_⟩
      unfold K0
      rw [if_neg hD]
theorem tf_bad (Rf Cf : Nat → Nat) (nc : Nat) {l many : Nat} {bo : Bool} {σ σ1 : fx_M} (e : fx_Ca (fx_S Rf Cf nc) 117 [.inr (some (20, 0)), .inl (many : Int)] σ = some (some (.inl 0), σ1)) (hf : MT 1 σ σ1 l) :
    MRes 1 σ l [] (fx_Ca (fx_S Rf Cf nc) 120 [.inr (some (20, 0)), .inl (many : Int), .inl (if bo then 1 else 0)] σ) F1 K0 := by
  refine MRes.pre hf (MRes.nil hf.2 ?_)
  unfold K0
  rw [entX7_tryFolds]
  simp (disch := omega) only [eX7_tryFolds_0, eX7_tryFolds_1, eX7_tryFolds_2, eX7_tryFolds_5, eX7_tryFolds_8, eX7_tryFolds_9, eX7_tryFolds_10, eX7_tryFolds_11, eX7_tryFolds_14, eX7_tryFolds_15, eX7_tryFolds_18, eX7_tryFolds_19, eX7_tryFolds_20, eX7_tryFolds_22, eX7_tryFolds_23, eX7_tryFolds_26, eX7_tryFolds_28, eX7_tryFolds_29, eX7_tryFolds_32, eX7_tryFolds_33, eX7_tryFolds_37, eX7_tryFolds_38, eX7_tryFolds_41, eX7_tryFolds_43, eX7_tryFolds_44, eX7_tryFolds_47, eX7_tryFolds_48, eX7_tryFolds_52, eX7_tryFolds_53, eX7_tryFolds_56, eX7_tryFolds_58, eX7_tryFolds_59, eX7_tryFolds_62, eX7_tryFolds_64, eX7_tryFolds_68, eX7_tryFolds_69, eX7_tryFolds_72, eX7_tryFolds_74, eX7_tryFolds_75, eX7_tryFolds_78, eX7_tryFolds_79, eX7_tryFolds_82, eX7_tryFolds_84, eX7_tryFolds_85, eX7_tryFolds_86, eX7_tryFolds_87, eX7_tryFolds_89, eX7_tryFolds_90, eX7_tryFolds_92, eX7_tryFolds_94, eX7_tryFolds_96, eX7_tryFolds_99, eX7_tryFolds_100, eX7_tryFolds_103, eX7_tryFolds_106, eX7_tryFolds_107, eX7_tryFolds_108, eX7_tryFolds_111, eX7_tryFolds_114, eX7_tryFolds_117, eX7_tryFolds_120, eX7_tryFolds_123, eX7_tryFolds_126, eX7_tryFolds_129, eX7_tryFolds_132, eX7_tryFolds_133, fx_bd_some, Option.toList_some, Option.toList_none, List.nil_append, List.cons_append, fx_uo, fx_ui, Int.toNat_natCast, ↓reduceIte, Int.reduceEq, Int.reduceLT, Int.reduceLE, Int.reduceNeg, e]
end MBD
section MTF
variable {R C m : Nat} {mi st : Int}
theorem tfs0 (Rf Cf : Nat → Nat) (nc : Nat) {l : Nat} {bo : Bool} {σ : fx_M} (hK : MK R C m mi st σ) (h39 : σ 20 0 39 = (l : Int)) (hl0 : 0 < l) (hl : l ≤ 1000000) :
    MRes 1 σ l (wyB R C m [] bo (opn R C)) (fx_Ca (fx_S Rf Cf nc) 120 [.inr (some (20, 0)), .inl ((0 : Nat) : Int), .inl (if bo then 1 else 0)] σ) F1 K0 := by
  obtain ⟨⟨r1, r2⟩, ⟨w1, w2⟩, -⟩ := id hK
  obtain ⟨σ1, a1, a2, a3⟩ := ft_begin Rf Cf nc r1 r2 w1 w2 0
  have hf : MT 1 σ σ1 l := ⟨fun o k x q => a2 o k x (by omega), by rw [a2 _ _ _ (by omega)]; exact h39⟩
  have e := ft_end Rf Cf nc σ1 0 (by omega) none
  exact tf_ok Rf Cf nc (okS_le a3.2.2 (fun p => Nat.le_trans (siz_open_le R C p) (by omega))) hK (fun i f q => by simp at q) (a1.trans e) hf a3 hl0 hl
theorem tfs1 (Rf Cf : Nat → Nat) (nc : Nat) {l : Nat} {bo : Bool} {σ : fx_M} (hK : MK R C m mi st σ) (h39 : σ 20 0 39 = (l : Int)) (hl0 : 0 < l) (hl : l ≤ 1000000) (f : Nat × Nat × Nat) (q1 : f.1 < 3) (q2 : f.2.1 < 4) (q3 : f.2.2 < 2) (hF : FS σ [f]) :
    MRes 1 σ l (wy1 R C m bo f) (fx_Ca (fx_S Rf Cf nc) 120 [.inr (some (20, 0)), .inl ((1 : Nat) : Int), .inl (if bo then 1 else 0)] σ) F1 K0 := by
  obtain ⟨⟨r1, r2⟩, ⟨w1, w2⟩, -⟩ := id hK
  obtain ⟨σ1, a1, a2, a3⟩ := ft_begin Rf Cf nc r1 r2 w1 w2 1
  obtain ⟨t1, t2, t3⟩ := hF 0 f rfl
  have hf : MT 1 σ σ1 l := ⟨fun o k x q => a2 o k x (by omega), by rw [a2 _ _ _ (by omega)]; exact h39⟩
  have s1 : σ1 59 0 0 = (f.1 : Int) := by rw [a2 _ _ _ (by omega)]; exact t1
  have s2 : σ1 60 0 0 = (f.2.1 : Int) := by rw [a2 _ _ _ (by omega)]; exact t2
  have s3 : σ1 61 0 0 = (f.2.2 : Int) := by rw [a2 _ _ _ (by omega)]; exact t3
  by_cases hL : fLn R C f.1 f.2.1
  · have ew : wy1 R C m bo f = wyB R C m [f] bo (fld R C f.1 f.2.1 (opn R C)) := by
      unfold wy1
      rw [if_pos (fLnB_iff.mpr hL)]
    rw [ew]
    obtain ⟨σ2, v3, c1, c2, c3⟩ := ft_yes Rf Cf nc r1.2 r2.2 a3 0 1 f.1 f.2.1 f.2.2 (by omega) (by omega) s1 s2 s3 q3 hL none
    rw [ic0] at c1
    have e := ft_end Rf Cf nc σ2 1 (by omega) v3
    have hf2 : MT 1 σ σ2 l := ⟨fun o k x q => by rw [c2 o k x (by omega), hf.1 o k x q], by rw [c2 _ _ _ (by omega)]; exact hf.2⟩
    exact tf_ok Rf Cf nc (okS_le c3.2.2 (f_siz_le a3.2.2 hL (siz_open_le R C))) hK hF (a1.trans (c1.trans e)) hf2 c3 hl0 hl
  · have ew : wy1 R C m bo f = [] := by
      unfold wy1
      rw [if_neg (fun q => hL (fLnB_iff.mp q))]
    rw [ew]
    have e := ft_no Rf Cf nc a3 0 1 f.1 f.2.1 f.2.2 (by omega) (by omega) s1 s2 s3 q1 (by omega) q3 hL none
    rw [ic0] at e
    exact tf_bad Rf Cf nc (a1.trans e) hf
theorem tfs2 (Rf Cf : Nat → Nat) (nc : Nat) {l : Nat} {bo : Bool} {σ : fx_M} (hK : MK R C m mi st σ) (h39 : σ 20 0 39 = (l : Int)) (hl0 : 0 < l) (hl : l ≤ 1000000) (f g : Nat × Nat × Nat) (q1 : f.1 < 3) (q2 : f.2.1 < 4) (q3 : f.2.2 < 2) (p1 : g.1 < 3) (p2 : g.2.1 < 4) (p3 : g.2.2 < 2) (hF : FS σ [f, g]) :
    MRes 1 σ l (wy2 R C m bo f g) (fx_Ca (fx_S Rf Cf nc) 120 [.inr (some (20, 0)), .inl ((2 : Nat) : Int), .inl (if bo then 1 else 0)] σ) F1 K0 := by
  obtain ⟨⟨r1, r2⟩, ⟨w1, w2⟩, -⟩ := id hK
  obtain ⟨σ1, a1, a2, a3⟩ := ft_begin Rf Cf nc r1 r2 w1 w2 2
  obtain ⟨t1, t2, t3⟩ := hF 0 f rfl
  obtain ⟨y1, y2, y3⟩ := hF 1 g rfl
  have hf : MT 1 σ σ1 l := ⟨fun o k x q => a2 o k x (by omega), by rw [a2 _ _ _ (by omega)]; exact h39⟩
  have s1 : σ1 59 0 0 = (f.1 : Int) := by rw [a2 _ _ _ (by omega)]; exact t1
  have s2 : σ1 60 0 0 = (f.2.1 : Int) := by rw [a2 _ _ _ (by omega)]; exact t2
  have s3 : σ1 61 0 0 = (f.2.2 : Int) := by rw [a2 _ _ _ (by omega)]; exact t3
  by_cases hL : fLn R C f.1 f.2.1
  · obtain ⟨σ2, v3, c1, c2, c3⟩ := ft_yes Rf Cf nc r1.2 r2.2 a3 0 2 f.1 f.2.1 f.2.2 (by omega) (by omega) s1 s2 s3 q3 hL none
    rw [ic0] at c1
    have z1 : σ2 59 0 1 = (g.1 : Int) := by rw [c2 _ _ _ (by omega), a2 _ _ _ (by omega)]; exact y1
    have z2 : σ2 60 0 1 = (g.2.1 : Int) := by rw [c2 _ _ _ (by omega), a2 _ _ _ (by omega)]; exact y2
    have z3 : σ2 61 0 1 = (g.2.2 : Int) := by rw [c2 _ _ _ (by omega), a2 _ _ _ (by omega)]; exact y3
    have hf2 : MT 1 σ σ2 l := ⟨fun o k x q => by rw [c2 o k x (by omega), hf.1 o k x q], by rw [c2 _ _ _ (by omega)]; exact hf.2⟩
    by_cases hG : fLn (fBr R C f.1 f.2.1 oR oC) (fBc R C f.1 f.2.1 oR oC) g.1 g.2.1
    · have ew : wy2 R C m bo f g = wyB R C m [f, g] bo (fld R C g.1 g.2.1 (fld R C f.1 f.2.1 (opn R C))) := by
        unfold wy2
        rw [if_pos (fLnB_iff.mpr hL)]
        exact if_pos (fLnB_iff.mpr hG)
      rw [ew]
      obtain ⟨σ3, v4, d1, d2, d3⟩ := ft_yes Rf Cf nc r1.2 r2.2 c3 1 2 g.1 g.2.1 g.2.2 (by omega) (by omega) z1 z2 z3 p3 hG v3
      have e := ft_end Rf Cf nc σ3 2 (by omega) v4
      have hf3 : MT 1 σ σ3 l := ⟨fun o k x q => by rw [d2 o k x (by omega), hf2.1 o k x q], by rw [d2 _ _ _ (by omega)]; exact hf2.2⟩
      obtain ⟨⟨b1, b2⟩, ⟨b3, b4⟩, ⟨b5, b6⟩, ⟨b7, b8⟩, -⟩ := id c3.2.2
      exact tf_ok Rf Cf nc (okS_2 c3.2.2 (by omega) (f_siz_le a3.2.2 hL (siz_open_le R C)) (f_tri r1 r2 hL) hG d3.2.2) hK hF (a1.trans (c1.trans (d1.trans e))) hf3 d3 hl0 hl
    · have ew : wy2 R C m bo f g = [] := by
        unfold wy2
        rw [if_pos (fLnB_iff.mpr hL)]
        exact if_neg (fun q => hG (fLnB_iff.mp q))
      rw [ew]
      have e := ft_no Rf Cf nc c3 1 2 g.1 g.2.1 g.2.2 (by omega) (by omega) z1 z2 z3 p1 (by omega) p3 hG v3
      exact tf_bad Rf Cf nc (a1.trans (c1.trans e)) hf2
  · have ew : wy2 R C m bo f g = [] := by
      unfold wy2
      rw [if_neg (fun q => hL (fLnB_iff.mp q))]
    rw [ew]
    have e := ft_no Rf Cf nc a3 0 2 f.1 f.2.1 f.2.2 (by omega) (by omega) s1 s2 s3 q1 (by omega) q3 hL none
    rw [ic0] at e
    exact tf_bad Rf Cf nc (a1.trans e) hf
end MTF
