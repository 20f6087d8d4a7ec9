/-! numbers: a shadow number stands for its Int32 -/
abbrev fx_I (x : Int) : Int32 := Int32.ofInt x
theorem fx_toInt {x : Int} (h : fx_in x) : (fx_I x).toInt = x := Int32.toInt_ofInt_of_le (by have := h.1; omega) (by have := h.2; omega)
theorem fx_inj {x y : Int} (hx : fx_in x) (hy : fx_in y) : fx_I x = fx_I y ↔ x = y := by
  rw [← Int32.toInt_inj, fx_toInt hx, fx_toInt hy]
theorem fx_lt {x y : Int} (hx : fx_in x) (hy : fx_in y) : fx_I x < fx_I y ↔ x < y := by
  rw [Int32.lt_iff_toInt_lt, fx_toInt hx, fx_toInt hy]
theorem fx_le {x y : Int} (hx : fx_in x) (hy : fx_in y) : fx_I x ≤ fx_I y ↔ x ≤ y := by
  rw [Int32.le_iff_toInt_le, fx_toInt hx, fx_toInt hy]
theorem fx_in0 : fx_in 0 := ⟨by decide, by decide⟩
theorem fx_I0 : fx_I 0 = 0 := rfl
theorem fx_clamp {x : Int} (h0 : 0 ≤ x) (h1 : x < 2147483648) : (fx_I x).toNatClampNeg = x.toNat := Int32.toNatClampNeg_ofInt_of_le (by omega) (by omega)
theorem fx_vin {x : Int} {n : Nat} (h0 : 0 ≤ x) (h1 : x < n) (hn : n < 2147483648) : vp_in (fx_I x) n := by
  rw [vp_in_iff, fx_toInt ⟨by omega, by omega⟩]
  exact ⟨h0, h1⟩
theorem fx_div {x y : Int} (hx : fx_in x) (h0 : 0 < y) (hy : y ≤ 2147483647) : fx_I x / fx_I y = fx_I (x.tdiv y) := by
  have hyn : fx_in y := ⟨by omega, by omega⟩
  have h1 : fx_I y ≠ -1 := by
    intro h
    have h2 := congrArg Int32.toInt h
    rw [fx_toInt hyn] at h2
    have h3 : (-1 : Int32).toInt = -1 := by decide
    omega
  apply Int32.toInt_inj.mp
  rw [Int32.toInt_div_of_ne_right _ _ h1, fx_toInt hx, fx_toInt hyn, fx_toInt]
  constructor
  · have h2 : -(x.natAbs : Int) ≤ x.tdiv y := by
      have h3 := Int.natAbs_tdiv_le_natAbs x y
      omega
    by_cases hx0 : 0 ≤ x
    · have := Int.tdiv_nonneg hx0 (by omega : 0 ≤ y); omega
    · have := hx.1; omega
  · have h2 : x.tdiv y ≤ (x.natAbs : Int) := by
      have h3 := Int.natAbs_tdiv_le_natAbs x y
      omega
    by_cases hx0 : 0 ≤ x
    · have := hx.2; omega
    · have h4 : 0 ≤ (-x).tdiv y := Int.tdiv_nonneg (by omega) (by omega)
      rw [Int.neg_tdiv] at h4
      omega
theorem fx_rem {x y : Int} (hx : fx_in x) (h0 : 0 < y) (hy : y ≤ 2147483647) : fx_I x - fx_I x / fx_I y * fx_I y = fx_I (x.tmod y) := by
  rw [fx_div hx h0 hy, ← Int32.ofInt_mul, ← Int32.ofInt_sub, Int.tmod_def, Int.mul_comm]
theorem fx_ne0 {y : Int} (h0 : 0 < y) (hy : y ≤ 2147483647) : ¬ fx_I y = 0 := by
  intro h
  have h2 := (fx_inj (x := y) (y := 0) ⟨by omega, by omega⟩ fx_in0).mp h
  omega
theorem fx_ofNat (n : Nat) : Int32.ofNat n = fx_I n := Int32.ofInt_eq_ofNat.symm
/-! the world that a memory stands for -/
abbrev fx_G : Type := fx_Sh × List (Nat × Nat) × (Nat → Nat → Nat) × va_G × (ClassId × ClassId × ClassId) × List (ClassId × FieldType) × (Nat → Prop)
abbrev fx_gS (G : fx_G) : fx_Sh := G.1
abbrev fx_gl (G : fx_G) : List (Nat × Nat) := G.2.1
abbrev fx_ga (G : fx_G) : Nat → Nat → Nat := G.2.2.1
abbrev fx_gD (G : fx_G) : va_G := G.2.2.2.1
abbrev fx_gI (G : fx_G) : ClassId := G.2.2.2.2.1.1
abbrev fx_gZ (G : fx_G) : ClassId := G.2.2.2.2.1.2.1
abbrev fx_gQ (G : fx_G) : ClassId := G.2.2.2.2.1.2.2
abbrev fx_gt (G : fx_G) : List (ClassId × FieldType) := G.2.2.2.2.2.1
abbrev fx_A (G : fx_G) : Nat → Prop := G.2.2.2.2.2.2
def fx_re (ad : Nat → Nat → Nat) (v : fx_V) : Value := match v with
  | .inl x => .int (fx_I x)
  | .inr none => .null
  | .inr (some q) => .ref (ad q.1 q.2)
def fx_fl (ad : Nat → Nat → Nat) (σ : fx_M) (o g : Nat) : Nat → List (Option (Nat → Nat × Nat)) → List Value
  | _, [] => []
  | k, none :: l => .int (fx_I (σ o g k)) :: fx_fl ad σ o g (k + 1) l
  | k, some f :: l => .ref (ad (f g).1 (f g).2) :: fx_fl ad σ o g (k + 1) l
def fx_ce (G : fx_G) (σ : fx_M) (o g : Nat) : va_E := match fx_ob o with
  | some (ci, fl) => .inr (ci, fx_fl (fx_ga G) σ o g 0 fl)
  | none => if o = 2 then .inl (fx_gQ G, (fx_gS G).1 2 0, .inr (.inr (.inr (.inr (fun j => if j < (fx_gS G).2 then some (fx_ga G 12 j) else none)))))
    else .inl (if fx_ak o = 2 then fx_gZ G else fx_gI G, (fx_gS G).1 o g, .inl (fun i => fx_I (σ o g i)))
def fx_ws (G : fx_G) (σ : fx_M) : va_W := (fx_gl G).map (fun q => (fx_ga G q.1 q.2, fx_ce G σ q.1 q.2))
def fx_Ok (G : fx_G) : Prop := (fx_gl G).Nodup ∧ (∀ o g, (fx_gS G).1 o g < 2147483648) ∧ (fx_gt G)[0]? = some (fx_gI G, .int) ∧ ((∃ q ∈ fx_gl G, fx_ak q.1 = 2) → (fx_gt G)[1]? = some (fx_gZ G, .boolean)) ∧ ((2, 0) ∈ fx_gl G → (fx_gt G)[2]? = some (fx_gQ G, .object "FoldDye$Cloth")) ∧
  (∀ q ∈ fx_gl G, ∀ ci fl, fx_ob q.1 = some (ci, fl) → ∀ (k : Nat) f, fl[k]? = some (some f) → f q.2 ∈ fx_gl G) ∧ ((2, 0) ∈ fx_gl G → ∀ j, j < (fx_gS G).2 → (12, j) ∈ fx_gl G) ∧ (∀ q ∈ fx_gl G, fx_ak q.1 ≠ 4)
def fx_al (G : fx_G) (v : fx_V) : Prop := match v with
  | .inr (some q) => q ∈ fx_gl G ∨ ((q.1 = 90 ∨ q.1 = 91 ∨ q.1 = 92) ∧ q.2 = 0)
  | _ => True
def fx_Sa (ad : Nat → Nat → Nat) (A : Nat → Prop) (U : State) (H : Heap) : Prop :=
  (∀ e ∈ [(90, "GREATEST_RULE"), (91, "SIDE_ROWS"), (92, "SIDE_COLUMNS")], va_Z "FoldDye" e.2 "[I" (.ref (ad e.1 0)) A U H ∧ va_T .int (ad e.1 0) (fx_sv e.1).length (fun j => .int (fx_I ((fx_sv e.1).getD j 0))) A U H) ∧
  ∀ e ∈ fx_nT, va_Nw (.fieldLinkNest (fx_cs e.1.1) e.1.2 "FoldDye" e.2.2 "[I" "FoldDye") U
theorem fx_Sa.moved {ad : Nat → Nat → Nat} {A : Nat → Prop} {u U : State} {H : Heap} (hW : u.WarmedH U.vm) (h : fx_Sa ad A u H) : fx_Sa ad A U H :=
  ⟨fun e he => ⟨(h.1 e he).1.moved hW.alike, (h.1 e he).2.moved hW.alike⟩, fun e he => va_Nw.warmF hW (h.2 e he)⟩
theorem fx_Sa.same {ad : Nat → Nat → Nat} {A : Nat → Prop} {u U : State} {H : Heap} (hv : u.vm = U.vm) (h : fx_Sa ad A u H) : fx_Sa ad A U H :=
  ⟨fun e he => ⟨(h.1 e he).1.moved (hv ▸ Vm.Alike.refl u.vm), (h.1 e he).2.moved (hv ▸ Vm.Alike.refl u.vm)⟩, fun e he => va_Nw.same rfl hv (h.2 e he)⟩
theorem fx_Sa.kept {ad : Nat → Nat → Nat} {A : Nat → Prop} {U : State} {H H1 : Heap} (h : fx_Sa ad A U H) (hq : ∀ a : Nat, a < H.size → ¬ A a → H1[a]? = H[a]?) : fx_Sa ad A U H1 :=
  ⟨fun e he => ⟨(h.1 e he).1.kept hq, (h.1 e he).2.kept hq⟩, h.2⟩
theorem fx_fl_len (ad : Nat → Nat → Nat) (σ : fx_M) (o g : Nat) : ∀ (fl : List (Option (Nat → Nat × Nat))) (k : Nat), (fx_fl ad σ o g k fl).length = fl.length
  | [], k => rfl
  | none :: l, k => by simp [fx_fl, fx_fl_len ad σ o g l (k + 1)]
  | some f :: l, k => by simp [fx_fl, fx_fl_len ad σ o g l (k + 1)]
theorem fx_fl_int (ad : Nat → Nat → Nat) (σ : fx_M) (o g : Nat) : ∀ (fl : List (Option (Nat → Nat × Nat))) (k j : Nat), fl[j]? = some none → (fx_fl ad σ o g k fl)[j]? = some (.int (fx_I (σ o g (k + j))))
  | [], k, j, h => by simp at h
  | none :: l, k, 0, h => by simp [fx_fl]
  | none :: l, k, j + 1, h => by
    rw [List.getElem?_cons_succ] at h
    simp only [fx_fl, List.getElem?_cons_succ]
    rw [fx_fl_int ad σ o g l (k + 1) j h, Nat.add_right_comm, Nat.add_assoc]
  | some f :: l, k, 0, h => by simp at h
  | some f :: l, k, j + 1, h => by
    rw [List.getElem?_cons_succ] at h
    simp only [fx_fl, List.getElem?_cons_succ]
    rw [fx_fl_int ad σ o g l (k + 1) j h, Nat.add_right_comm, Nat.add_assoc]
theorem fx_fl_ref (ad : Nat → Nat → Nat) (σ : fx_M) (o g : Nat) : ∀ (fl : List (Option (Nat → Nat × Nat))) (k j : Nat) (f : Nat → Nat × Nat), fl[j]? = some (some f) → (fx_fl ad σ o g k fl)[j]? = some (.ref (ad (f g).1 (f g).2))
  | [], k, j, f, h => by simp at h
  | none :: l, k, 0, f, h => by simp at h
  | none :: l, k, j + 1, f, h => by
    rw [List.getElem?_cons_succ] at h
    simp only [fx_fl, List.getElem?_cons_succ]
    exact fx_fl_ref ad σ o g l (k + 1) j f h
  | some f' :: l, k, 0, f, h => by
    simp only [List.getElem?_cons_zero, Option.some.injEq] at h
    subst h
    simp [fx_fl]
  | some f' :: l, k, j + 1, f, h => by
    rw [List.getElem?_cons_succ] at h
    simp only [fx_fl, List.getElem?_cons_succ]
    exact fx_fl_ref ad σ o g l (k + 1) j f h
theorem fx_fl_ext (ad : Nat → Nat → Nat) {σ σ' : fx_M} {o g : Nat} (h : ∀ i, σ o g i = σ' o g i) : ∀ (fl : List (Option (Nat → Nat × Nat))) (k : Nat), fx_fl ad σ o g k fl = fx_fl ad σ' o g k fl
  | [], k => rfl
  | none :: l, k => by simp only [fx_fl, h k, fx_fl_ext ad h l (k + 1)]
  | some f :: l, k => by simp only [fx_fl, fx_fl_ext ad h l (k + 1)]
theorem fx_fl_lo (ad : Nat → Nat → Nat) {σ : fx_M} {o g i : Nat} {v : Int} : ∀ (fl : List (Option (Nat → Nat × Nat))) (k : Nat), i < k → fx_fl ad (fx_up σ o g i v) o g k fl = fx_fl ad σ o g k fl
  | [], k, h => rfl
  | none :: l, k, h => by
    have h1 : fx_up σ o g i v o g k = σ o g k := by
      unfold fx_up
      rw [if_neg]
      omega
    simp only [fx_fl, h1]; rw [fx_fl_lo ad l (k + 1) (show i < k + 1 by omega)]
  | some f :: l, k, h => by simp only [fx_fl]; rw [fx_fl_lo ad l (k + 1) (show i < k + 1 by omega)]
theorem fx_fl_set (ad : Nat → Nat → Nat) (σ : fx_M) (o g : Nat) (v : Int) : ∀ (fl : List (Option (Nat → Nat × Nat))) (k j : Nat), fl[j]? = some none → (fx_fl ad σ o g k fl).set j (.int (fx_I v)) = fx_fl ad (fx_up σ o g (k + j) v) o g k fl
  | [], k, j, h => by simp at h
  | none :: l, k, 0, h => by
    have h1 : fx_up σ o g (k + 0) v o g k = v := by simp [fx_up]
    simp only [fx_fl, List.set_cons_zero, h1]
    rw [fx_fl_lo ad l (k + 1) (by omega)]
  | none :: l, k, j + 1, h => by
    rw [List.getElem?_cons_succ] at h
    have h1 : fx_up σ o g (k + (j + 1)) v o g k = σ o g k := by
      unfold fx_up
      rw [if_neg]
      omega
    simp only [fx_fl, List.set_cons_succ, h1]
    rw [fx_fl_set ad σ o g v l (k + 1) j h, Nat.add_right_comm, Nat.add_assoc]
  | some f :: l, k, 0, h => by simp at h
  | some f :: l, k, j + 1, h => by
    rw [List.getElem?_cons_succ] at h
    simp only [fx_fl, List.set_cons_succ]
    rw [fx_fl_set ad σ o g v l (k + 1) j h, Nat.add_right_comm, Nat.add_assoc]
theorem fx_ce_ext (G : fx_G) {σ σ' : fx_M} {o g : Nat} (h : ∀ i, σ o g i = σ' o g i) : fx_ce G σ o g = fx_ce G σ' o g := by
  unfold fx_ce
  split
  · rw [fx_fl_ext _ h]
  · simp only [h]
theorem fx_up_ne {σ : fx_M} {o g i : Nat} {v : Int} {o' g' : Nat} (h : (o', g') ≠ (o, g)) (k : Nat) : fx_up σ o g i v o' g' k = σ o' g' k := by
  unfold fx_up
  rw [if_neg]
  rintro ⟨h1, h2, -⟩
  exact h (by rw [h1, h2])
theorem fx_ws_at (G : fx_G) (σ : fx_M) {k o g : Nat} (h : (fx_gl G)[k]? = some (o, g)) : (fx_ws G σ)[k]? = some (fx_ga G o g, fx_ce G σ o g) := by
  unfold fx_ws
  rw [List.getElem?_map, h]
  rfl
theorem fx_ws_set (G : fx_G) {σ σ' : fx_M} {k o g : Nat} {e : va_E} (hn : (fx_gl G).Nodup) (h : (fx_gl G)[k]? = some (o, g)) (he : fx_ce G σ' o g = e) (hs : ∀ o' g', (o', g') ≠ (o, g) → ∀ i, σ' o' g' i = σ o' g' i) : (fx_ws G σ).set k (fx_ga G o g, e) = fx_ws G σ' := by
  subst he
  have hk : k < (fx_gl G).length := (List.getElem?_eq_some_iff.mp h).1
  apply List.ext_getElem?
  intro j
  by_cases hj : j = k
  · subst hj
    rw [List.getElem?_set_self (by unfold fx_ws; rw [List.length_map]; exact hk), fx_ws_at G σ' h]
  · rw [List.getElem?_set_ne (Ne.symm hj)]
    unfold fx_ws
    rw [List.getElem?_map, List.getElem?_map]
    cases hq : (fx_gl G)[j]? with
    | none => rfl
    | some q =>
      have hne : (q.1, q.2) ≠ (o, g) := by
        intro hqe
        have h2 : (fx_gl G)[j]? = some (o, g) := by rw [hq]; exact congrArg some hqe
        have hjl : j < (fx_gl G).length := (List.getElem?_eq_some_iff.mp hq).1
        have e1 := (List.getElem?_eq_some_iff.mp h2).2
        have e2 := (List.getElem?_eq_some_iff.mp h).2
        exact hj ((List.getElem_inj hn).mp (e1.trans e2.symm))
      simp only [Option.map_some]
      rw [fx_ce_ext G (σ := σ) (σ' := σ') (fun i => (hs q.1 q.2 hne i).symm)]
theorem fx_ws_D (G : fx_G) {A : Nat → Prop} {σ σ' : fx_M} (h : va_D A (fx_ws G σ)) : va_D A (fx_ws G σ') := by
  have key : ∀ (k : Nat) (q : Nat × va_E), (fx_ws G σ')[k]? = some q → ∃ e, (fx_ws G σ)[k]? = some (q.1, e) := by
    intro k q hq
    unfold fx_ws at hq ⊢
    rw [List.getElem?_map] at hq ⊢
    cases hg : (fx_gl G)[k]? with
    | none => rw [hg] at hq; cases hq
    | some r => rw [hg] at hq; cases hq; exact ⟨_, rfl⟩
  refine ⟨fun i j p q hp hq hpq => ?_, fun k q hq => ?_⟩
  · obtain ⟨e1, h1⟩ := key i p hp
    obtain ⟨e2, h2⟩ := key j q hq
    exact h.1 i j _ _ h1 h2 hpq
  · obtain ⟨e1, h1⟩ := key k q hq
    exact h.2 k (q.1, e1) h1
theorem fx_mem_at {l : List (Nat × Nat)} {o g : Nat} (h : (o, g) ∈ l) : ∃ k : Nat, l[k]? = some (o, g) := List.getElem?_of_mem h
/-! locals -/
def fx_Lo (ad : Nat → Nat → Nat) (jl : Array Slot) (ls : fx_L) : Prop := jl.size = ls.length ∧ lv_wf jl ∧ ∀ (k : Nat) (v : fx_V), ls[k]? = some (some v) → jl[k]? = some (.val (fx_re ad v))
def fx_kn (ad : Nat → Nat → Nat) (ls : fx_L) : List (Nat × Value) := (List.range ls.length).filterMap (fun k => (ls[k]?.getD none).map (fun v => (k, fx_re ad v)))
theorem fx_kn_iff {ad : Nat → Nat → Nat} {ls : fx_L} {q : Nat × Value} : q ∈ fx_kn ad ls ↔ ∃ v, ls[q.1]? = some (some v) ∧ q.2 = fx_re ad v := by
  unfold fx_kn
  rw [List.mem_filterMap]
  constructor
  · rintro ⟨k, hk, h⟩
    rw [List.mem_range] at hk
    rw [List.getElem?_eq_getElem hk] at h
    simp only [Option.getD_some] at h
    cases hv : ls[k] with
    | none => rw [hv] at h; simp at h
    | some v =>
      rw [hv] at h
      simp only [Option.map_some, Option.some.injEq] at h
      subst h
      exact ⟨v, by rw [List.getElem?_eq_getElem hk, hv], rfl⟩
  · rintro ⟨v, h1, h2⟩
    refine ⟨q.1, List.mem_range.mpr (List.getElem?_eq_some_iff.mp h1).1, ?_⟩
    rw [h1]
    simp only [Option.getD_some, Option.map_some, ← h2]
theorem fx_Lo.has {ad : Nat → Nat → Nat} {jl : Array Slot} {ls : fx_L} (h : fx_Lo ad jl ls) : lv_has jl ls.length (fx_kn ad ls) := by
  refine ⟨h.1, h.2.1, fun q hq => ?_⟩
  obtain ⟨v, h1, h2⟩ := fx_kn_iff.mp hq
  rw [h2]
  exact h.2.2 q.1 v h1
theorem fx_re_cat (ad : Nat → Nat → Nat) (v : fx_V) : (fx_re ad v).category = 1 := by
  rcases v with x | (_ | q) <;> rfl
theorem fx_Lo.set {ad : Nat → Nat → Nat} {ls : fx_L} {k : Nat} {v : fx_V} {jl : Array Slot} (h : lv_has jl ls.length ((k, fx_re ad v) :: (fx_kn ad ls).filter (fun q => !(q.1 == k) && !(q.1 + 1 == k && q.2.category == 2)))) : fx_Lo ad jl (ls.set k (some v)) := by
  refine ⟨by rw [List.length_set]; exact h.1, h.2.1, fun j w hw => ?_⟩
  by_cases hj : j = k
  · subst hj
    have hl : j < ls.length := by
      have := (List.getElem?_eq_some_iff.mp hw).1
      rwa [List.length_set] at this
    rw [List.getElem?_set_self hl] at hw
    cases hw
    exact h.2.2 _ List.mem_cons_self
  · rw [List.getElem?_set_ne (Ne.symm hj)] at hw
    refine h.2.2 (j, fx_re ad w) (List.mem_cons_of_mem _ (List.mem_filter.mpr ⟨fx_kn_iff.mpr ⟨w, hw, rfl⟩, ?_⟩))
    simp [hj, fx_re_cat]
theorem fx_kn_at {ad : Nat → Nat → Nat} {ls : fx_L} {k : Nat} {v : fx_V} (h : ls[k]? = some (some v)) : ∃ j : Nat, (fx_kn ad ls)[j]? = some (k, fx_re ad v) := List.getElem?_of_mem (fx_kn_iff.mpr ⟨v, h, rfl⟩)
