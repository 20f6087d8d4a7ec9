/-! reach, alike -/
def rcC (so : Nat) (D : Nat → Int) (k : Nat) : Int := if D k < 1000000 then (if so = 1 then (D k + 1) / 2 else D k) else -7
def rcM (so : Nat) (D : Nat → Int) (k : Nat) : Int := if D k < 1000000 ∧ (so : Int) = 1 then (D k + 1) / 2 else D k
theorem Inv.rch {Rf Cf : Nat → Nat} {nc : Nat} {σ : fx_M} (h : Inv Rf Cf nc σ) {g : Nat} (hg : g < nc) {R C br bc f b so : Nat} {pr pc ph : Nat → Nat} {sh : Nat → Nat → Bool} {to : Int} {dp : Nat → Int} (k1 : KP R C br bc f b so pr pc ph sh to dp) (k2 : KC Rf Cf g R C br bc f b so pr pc ph sh to dp σ) (k3 : KM g R C br bc f b so pr pc ph sh to dp σ) :
    ∃ D : Nat → Int, (∀ j, j < 144 → isC R C j → 1 ≤ D j ∧ D j ≤ 1000000) ∧
      (∃ σ1, fx_Ca (fx_S Rf Cf nc) 31 [.inr (some (3, 0)), .inr (some (12, g)), .inl (σ 20 0 17), .inl (σ 20 0 18)] σ = some (none, σ1) ∧ (∀ o k x, ¬ (k = 0 ∧ (o = 3 ∨ o = 4 ∨ o = 5)) → σ1 o k x = σ o k x) ∧ SX Rf g R C br bc pr pc (σ 20 0 17) (σ 20 0 18) σ1 ∧ ∀ j, j < 144 → isC R C j → σ1 5 0 (sl R C pr pc ph j) = D j) ∧
      ∀ τ : fx_M, (∀ o k x, 20 ≤ o → τ o k x = σ o k x) → ∃ σ', fx_Ca (fx_S Rf Cf nc) 99 [.inr (some (20, 0)), .inl (g : Int)] τ = some (none, σ') ∧ (∀ o k x, ¬ (k = 0 ∧ (o = 50 ∨ o = 51 ∨ o = 52)) → σ' o k x = τ o k x) ∧ ∀ k, k < 144 → isC R C k → σ' 52 0 k = rcM so D k := by
  have hn := h.1.1
  have hB := k1.1
  have hso := k1.2.2.2.1
  obtain ⟨i1, i2, i3, -, i7, i8, i9⟩ := id h.1
  have b6 := hB.2.2.1.2
  have b8 := hB.2.2.2.1.2
  have b4 := hB.2.1.2
  have hs : so = 0 ∨ so = 1 := by omega
  have hs' : (so : Int) = 0 ∨ (so : Int) = 1 := by omega
  obtain ⟨σ0, D, -, -, hD, -⟩ := sp_findReach Rf Cf nc (c := g) (L := σ 20 0 17) (S := σ 20 0 18) (so := so) (by omega) hB (by omega) (by omega) hs' k3.1 k3.2.2.1 rfl rfl k3.2.2.2.2.2.1
  have hsh : shB g b σ = sh := by funext r n; exact k3.2.2.2.1 r n
  rw [hsh] at hD
  refine ⟨D, hD.1, ?_, ?_⟩
  · exact sp_into Rf Cf nc hB (by omega) (by omega) D hD k2.2.1.cs (fun r n hr hn => k2.2.2.2.2.1 r n (by omega) (by omega))
  · intro τ hτ
    have k3' : KM g R C br bc f b so pr pc ph sh to dp τ := k3.of (fun o i ho => hτ o 0 i (by unfold inB at ho; omega))
    obtain ⟨σ', D', x1, x2, x3, x4⟩ := sp_findReach Rf Cf nc (c := g) (σ := τ) (L := σ 20 0 17) (S := σ 20 0 18) (so := so) (by omega) hB (by omega) (by omega) hs' k3'.1 k3'.2.2.1 (hτ _ _ _ (by omega)) (hτ _ _ _ (by omega)) k3'.2.2.2.2.2.1
    have hsh' : shB g b τ = sh := by funext r n; exact k3'.2.2.2.1 r n
    rw [hsh'] at x3
    have hu := Dist_uni i7.1 i8.1 x3 hD
    refine ⟨σ', x1, x2, fun k hk hkc => ?_⟩
    rw [x4 k hk hkc, hu k hk hkc]
    rfl
theorem rc_eq {so : Nat} {D : Nat → Int} {k : Nat} (hso : so ≤ 1) (h : 1 ≤ D k ∧ D k ≤ 1000000) : (if rcM so D k < 1000000 then rcM so D k else -7) = rcC so D k ∧ 1 ≤ rcM so D k ∧ rcM so D k ≤ 1000000 := by
  unfold rcM rcC
  rcases (show so = 0 ∨ so = 1 by omega) with rfl | rfl
  · simp
    by_cases q : D k < 1000000
    · first | omega | (simp [q]; omega)
    · first | omega | (simp [q]; omega)
  · by_cases q : D k < 1000000
    · simp [q]; omega
    · simp [q]; omega
theorem rc_alike {so : Nat} {D : Nat → Int} {a b : Nat} (hso : so ≤ 1) (ha : 1 ≤ D a ∧ D a ≤ 1000000) (hb : 1 ≤ D b ∧ D b ≤ 1000000) : (rcC so D a = rcC so D b) ↔ (rcM so D a = rcM so D b) := by
  obtain ⟨a1, a2, a3⟩ := rc_eq hso ha
  obtain ⟨b1, b2, b3⟩ := rc_eq hso hb
  rw [← a1, ← b1]
  split <;> split <;> constructor <;> intro q <;> omega
theorem Inv.seep {Rf Cf : Nat → Nat} {nc : Nat} {σ σ1 σ2 : fx_M} (h : Inv Rf Cf nc σ) (h1 : ∀ o k x, ¬ (k = 0 ∧ (o = 3 ∨ o = 4 ∨ o = 5)) → σ1 o k x = σ o k x) (h2 : ∀ o k x, ¬ (k = 0 ∧ (o = 50 ∨ o = 51 ∨ o = 52)) → σ2 o k x = σ1 o k x) : Inv Rf Cf nc σ2 :=
  h.fr (fun o k x ho => by unfold gl at ho; rw [h2 o k x (by omega), h1 o k x (by omega)]) (fun o k x q1 q2 _ => by rw [h2 o k x (by omega), h1 o k x (by omega)]) (fun c o i _ h3 => by unfold inB at h3; rw [h2 o 0 i (by omega), h1 o 0 i (by omega)])
theorem ag_reach (Rf Cf : Nat → Nat) (nc : Nat) {σ : fx_M} (h : Inv Rf Cf nc σ) (c k : Int) (hc : fx_in c) (hk : fx_in k) : Ag Rf Cf nc 49 100 [.inl c, .inl k] σ := by
  by_cases q : 0 ≤ c ∧ c < nc
  · obtain ⟨g, rfl⟩ : ∃ g : Nat, c = g := ⟨c.toNat, by omega⟩
    have hg : g < nc := by omega
    have hn := h.1.1
    obtain ⟨R, C, br, bc, f, b, so, pr, pc, ph, sh, to, dp, k1, k2, k3⟩ := h.2.1 g hg
    have e1 := h.clY hg
    have hso := k1.2.2.2.1
    obtain ⟨⟨b1, b2⟩, ⟨b3, b4⟩, ⟨b5, b6⟩, ⟨b7, b8⟩, b9, b10, b11⟩ := id k1.1
    have e3 := sp_indexIn Rf Cf nc σ g k R C hk b2 b4 k2.2.2.1.1 k2.2.2.1.2.1
    have m1 : σ 30 0 g = R := k3.1.1
    have m2 : σ 31 0 g = C := k3.1.2.1
    have ru := h.1.2.2.2.1
    by_cases hq : 0 ≤ k ∧ k / 12 < R ∧ k % 12 < C
    · obtain ⟨j, rfl⟩ : ∃ j : Nat, k = j := ⟨k.toNat, by omega⟩
      have hjc : isC R C j := ⟨by omega, by omega⟩
      have hj : j < 144 := by have := isC_lt hjc; omega
      rw [if_pos hq, Int.toNat_natCast] at e3
      have hix := ix_lt hjc
      have hN : R * C ≤ 144 := Nat.mul_le_mul b2 b4
      obtain ⟨D, d1, ⟨σ1, q1, q2, q3, q4⟩, q5⟩ := h.rch hg k1 k2 k3
      obtain ⟨σ2, x1, x2, x3⟩ := q5 σ1 (fun o k x ho => q2 o k x (by omega))
      have e5 := sp_reachOf Rf Cf nc (σ := σ1) k1.1 (k2.2.1.of (fun o i h1 h2 => q2 o g i (by omega))) q3 D (fun j hj hjc => ⟨q4 j hj hjc, d1 j hj hjc⟩) so hso (by rw [q2 _ _ _ (by omega)]; exact k2.2.2.2.1.2.2.2) j hj hjc
      rw [show (if D j < 1000000 then (if so = 1 then (D j + 1) / 2 else D j) else -7) = rcC so D j from rfl] at e5
      have hI1 : I1 nc σ1 := h.1.of (fun o k x ho => q2 o k x (by unfold gl at ho; omega))
      have e2 := Inv.mcY (Rf := Rf) (Cf := Cf) hI1 hg
      have e4 := sp_isCellY Rf Cf nc (σ := σ1) (c := g) (R := R) (C := C) (k := j) (by omega) (by rw [q2 _ _ _ (by omega)]; exact m1) (by rw [q2 _ _ _ (by omega)]; exact m2) b2 b4 (by omega) hjc
      have hr := x3 j hj hjc
      obtain ⟨r1, r2, r3⟩ := rc_eq hso (d1 j hj hjc)
      rw [← ru.1, ← ru.2.1] at q1
      refine ⟨rcC so D j, σ1, σ2, ?_, ?_, h.seep q2 x2⟩
      · rw [entX6_reach]
        simp (disch := omega) only [eX6_reach_0, eX6_reach_1, eX6_reach_2, eX6_reach_5, eX6_reach_6, eX6_reach_7, eX6_reach_8, eX6_reach_11, eX6_reach_13, eX6_reach_14_n, eX6_reach_14_s, eX6_reach_17, eX6_reach_19, eX6_reach_20, eX6_reach_23, eX6_reach_24, eX6_reach_25, eX6_reach_26, eX6_reach_29, eX6_reach_30, eX6_reach_31, eX6_reach_34, eX6_reach_35, eX6_reach_36, eX6_reach_37, eX6_reach_40, eX6_reach_41, eX6_reach_42, eX6_reach_45, eX6_reach_46, eX6_reach_47, eX6_reach_49, eX6_reach_52, fx_bd_some, Option.toList_some, Option.toList_none, List.nil_append, List.cons_append, fx_uo, fx_ui, Int.toNat_natCast, ↓reduceIte, Int.reduceEq, Int.reduceLT, Int.reduceLE, Int.reduceNeg, e1, e3, Int.reduceToNat, q1, e5]
        try repeat (first | rw [if_pos (by omega)] | rw [if_neg (by omega)])
      · rw [entX7_reach]
        simp (disch := omega) only [eX7_reach_0, eX7_reach_1, eX7_reach_2, eX7_reach_5, eX7_reach_8, eX7_reach_9, eX7_reach_10, eX7_reach_11, eX7_reach_14, eX7_reach_17, eX7_reach_18, eX7_reach_19, eX7_reach_20, eX7_reach_21, eX7_reach_24, eX7_reach_25, eX7_reach_28, eX7_reach_29, eX7_reach_30, eX7_reach_32, eX7_reach_35, eX7_reach_36, eX7_reach_39, eX7_reach_40, eX7_reach_41, eX7_reach_44, eX7_reach_46, fx_bd_some, Option.toList_some, Option.toList_none, List.nil_append, List.cons_append, fx_uo, fx_ui, Int.toNat_natCast, ↓reduceIte, Int.reduceEq, Int.reduceLT, Int.reduceLE, Int.reduceNeg, e2, e4, x1, hr]
        rw [← r1]
        split <;> rfl
    · rw [if_neg hq] at e3
      have e2 := Inv.mcY (Rf := Rf) (Cf := Cf) h.1 hg
      have e4 := sp_isCell Rf Cf nc σ g k (by omega) hk (by omega) (by omega)
      rw [m1, m2, if_neg hq] at e4
      refine Ag.same h (-1) ?_ ?_
      · rw [entX6_reach]
        simp (disch := omega) only [eX6_reach_0, eX6_reach_1, eX6_reach_2, eX6_reach_5, eX6_reach_6, eX6_reach_7, eX6_reach_8, eX6_reach_11, eX6_reach_13, eX6_reach_14_n, eX6_reach_14_s, eX6_reach_17, eX6_reach_19, eX6_reach_20, eX6_reach_23, eX6_reach_24, eX6_reach_25, eX6_reach_26, eX6_reach_29, eX6_reach_30, eX6_reach_31, eX6_reach_34, eX6_reach_35, eX6_reach_36, eX6_reach_37, eX6_reach_40, eX6_reach_41, eX6_reach_42, eX6_reach_45, eX6_reach_46, eX6_reach_47, eX6_reach_49, eX6_reach_52, fx_bd_some, Option.toList_some, Option.toList_none, List.nil_append, List.cons_append, fx_uo, fx_ui, Int.toNat_natCast, ↓reduceIte, Int.reduceEq, Int.reduceLT, Int.reduceLE, Int.reduceNeg, e1, e3]
      · rw [entX7_reach]
        simp (disch := omega) only [eX7_reach_0, eX7_reach_1, eX7_reach_2, eX7_reach_5, eX7_reach_8, eX7_reach_9, eX7_reach_10, eX7_reach_11, eX7_reach_14, eX7_reach_17, eX7_reach_18, eX7_reach_19, eX7_reach_20, eX7_reach_21, eX7_reach_24, eX7_reach_25, eX7_reach_28, eX7_reach_29, eX7_reach_30, eX7_reach_32, eX7_reach_35, eX7_reach_36, eX7_reach_39, eX7_reach_40, eX7_reach_41, eX7_reach_44, eX7_reach_46, fx_bd_some, Option.toList_some, Option.toList_none, List.nil_append, List.cons_append, fx_uo, fx_ui, Int.toNat_natCast, ↓reduceIte, Int.reduceEq, Int.reduceLT, Int.reduceLE, Int.reduceNeg, e2, e4]
  · have e1 := h.clN hc q
    have e2 := Inv.mcN (Rf := Rf) (Cf := Cf) h.1 hc q
    have e3 := sp_indexInN Rf Cf nc σ k
    refine Ag.same h (-1) ?_ ?_
    · rw [entX6_reach]
      simp (disch := omega) only [eX6_reach_0, eX6_reach_1, eX6_reach_2, eX6_reach_5, eX6_reach_6, eX6_reach_7, eX6_reach_8, eX6_reach_11, eX6_reach_13, eX6_reach_14_n, eX6_reach_14_s, eX6_reach_17, eX6_reach_19, eX6_reach_20, eX6_reach_23, eX6_reach_24, eX6_reach_25, eX6_reach_26, eX6_reach_29, eX6_reach_30, eX6_reach_31, eX6_reach_34, eX6_reach_35, eX6_reach_36, eX6_reach_37, eX6_reach_40, eX6_reach_41, eX6_reach_42, eX6_reach_45, eX6_reach_46, eX6_reach_47, eX6_reach_49, eX6_reach_52, fx_bd_some, Option.toList_some, Option.toList_none, List.nil_append, List.cons_append, fx_uo, fx_ui, Int.toNat_natCast, ↓reduceIte, Int.reduceEq, Int.reduceLT, Int.reduceLE, Int.reduceNeg, e1, e3]
    · rw [entX7_reach]
      simp (disch := omega) only [eX7_reach_0, eX7_reach_1, eX7_reach_2, eX7_reach_5, eX7_reach_8, eX7_reach_9, eX7_reach_10, eX7_reach_11, eX7_reach_14, eX7_reach_17, eX7_reach_18, eX7_reach_19, eX7_reach_20, eX7_reach_21, eX7_reach_24, eX7_reach_25, eX7_reach_28, eX7_reach_29, eX7_reach_30, eX7_reach_32, eX7_reach_35, eX7_reach_36, eX7_reach_39, eX7_reach_40, eX7_reach_41, eX7_reach_44, eX7_reach_46, fx_bd_some, Option.toList_some, Option.toList_none, List.nil_append, List.cons_append, fx_uo, fx_ui, Int.toNat_natCast, ↓reduceIte, Int.reduceEq, Int.reduceLT, Int.reduceLE, Int.reduceNeg, e2]
theorem ag_alike (Rf Cf : Nat → Nat) (nc : Nat) {σ : fx_M} (h : Inv Rf Cf nc σ) (c k l : Int) (hc : fx_in c) (hk : fx_in k) (hl : fx_in l) : Ag Rf Cf nc 57 112 [.inl c, .inl k, .inl l] σ := by
  by_cases q : 0 ≤ c ∧ c < nc
  · obtain ⟨g, rfl⟩ : ∃ g : Nat, c = g := ⟨c.toNat, by omega⟩
    have hg : g < nc := by omega
    have hn := h.1.1
    obtain ⟨R, C, br, bc, f, b, so, pr, pc, ph, sh, to, dp, k1, k2, k3⟩ := h.2.1 g hg
    have e1 := h.clY hg
    have hso := k1.2.2.2.1
    obtain ⟨⟨b1, b2⟩, ⟨b3, b4⟩, ⟨b5, b6⟩, ⟨b7, b8⟩, b9, b10, b11⟩ := id k1.1
    have e3 := sp_indexIn Rf Cf nc σ g k R C hk b2 b4 k2.2.2.1.1 k2.2.2.1.2.1
    have e3' := sp_indexIn Rf Cf nc σ g l R C hl b2 b4 k2.2.2.1.1 k2.2.2.1.2.1
    have m1 : σ 30 0 g = R := k3.1.1
    have m2 : σ 31 0 g = C := k3.1.2.1
    have ru := h.1.2.2.2.1
    have hN : R * C ≤ 144 := Nat.mul_le_mul b2 b4
    have e2 := Inv.mcY (Rf := Rf) (Cf := Cf) h.1 hg
    have e4 := sp_isCell Rf Cf nc σ g k (by omega) hk (by omega) (by omega)
    have e4' := sp_isCell Rf Cf nc σ g l (by omega) hl (by omega) (by omega)
    rw [m1, m2] at e4 e4'
    by_cases hq : 0 ≤ k ∧ k / 12 < R ∧ k % 12 < C
    · obtain ⟨j, rfl⟩ : ∃ j : Nat, k = j := ⟨k.toNat, by omega⟩
      have hjc : isC R C j := ⟨by omega, by omega⟩
      have hj : j < 144 := by have := isC_lt hjc; omega
      rw [if_pos hq, Int.toNat_natCast] at e3
      rw [if_pos hq] at e4
      have hix := ix_lt hjc
      by_cases hq' : 0 ≤ l ∧ l / 12 < R ∧ l % 12 < C
      · obtain ⟨i, rfl⟩ : ∃ j : Nat, l = j := ⟨l.toNat, by omega⟩
        have hic : isC R C i := ⟨by omega, by omega⟩
        have hi : i < 144 := by have := isC_lt hic; omega
        rw [if_pos hq', Int.toNat_natCast] at e3'
        have hix' := ix_lt hic
        obtain ⟨D, d1, ⟨σ1, q1, q2, q3, q4⟩, q5⟩ := h.rch hg k1 k2 k3
        obtain ⟨σ2, x1, x2, x3⟩ := q5 σ1 (fun o k x ho => q2 o k x (by omega))
        have e5 := fun j hj hjc => sp_reachOf Rf Cf nc (σ := σ1) k1.1 (k2.2.1.of (fun o i h1 h2 => q2 o g i (by omega))) q3 D (fun j hj hjc => ⟨q4 j hj hjc, d1 j hj hjc⟩) so hso (by rw [q2 _ _ _ (by omega)]; exact k2.2.2.2.1.2.2.2) j hj hjc
        have e5j := e5 j hj hjc
        have e5i := e5 i hi hic
        rw [show (if D j < 1000000 then (if so = 1 then (D j + 1) / 2 else D j) else -7) = rcC so D j from rfl] at e5j
        rw [show (if D i < 1000000 then (if so = 1 then (D i + 1) / 2 else D i) else -7) = rcC so D i from rfl] at e5i
        have hI1 : I1 nc σ1 := h.1.of (fun o k x ho => q2 o k x (by unfold gl at ho; omega))
        have e2 := Inv.mcY (Rf := Rf) (Cf := Cf) hI1 hg
        have e4 := sp_isCellY Rf Cf nc (σ := σ1) (c := g) (R := R) (C := C) (k := j) (by omega) (by rw [q2 _ _ _ (by omega)]; exact m1) (by rw [q2 _ _ _ (by omega)]; exact m2) b2 b4 (by omega) hjc
        have e4' := sp_isCellY Rf Cf nc (σ := σ1) (c := g) (R := R) (C := C) (k := i) (by omega) (by rw [q2 _ _ _ (by omega)]; exact m1) (by rw [q2 _ _ _ (by omega)]; exact m2) b2 b4 (by omega) hic
        have hrj := x3 j hj hjc
        have hri := x3 i hi hic
        obtain ⟨r1, r2, r3⟩ := rc_eq hso (d1 j hj hjc)
        obtain ⟨s1, s2, s3⟩ := rc_eq hso (d1 i hi hic)
        have r4 : -7 ≤ rcC so D j ∧ rcC so D j ≤ 1000000 := by rw [← r1]; split <;> omega
        have s4 : -7 ≤ rcC so D i ∧ rcC so D i ≤ 1000000 := by rw [← s1]; split <;> omega
        have hal := rc_alike hso (d1 j hj hjc) (d1 i hi hic)
        rw [← ru.1, ← ru.2.1] at q1
        refine ⟨if rcM so D j = rcM so D i then 1 else 0, σ1, σ2, ?_, ?_, h.seep q2 x2⟩
        · rw [entX6_alike]
          simp (disch := omega) only [eX6_alike_0, eX6_alike_1, eX6_alike_2, eX6_alike_5, eX6_alike_7, eX6_alike_9, eX6_alike_10, eX6_alike_13, eX6_alike_15, eX6_alike_17, eX6_alike_18, eX6_alike_21, eX6_alike_23, eX6_alike_25_n, eX6_alike_25_s, eX6_alike_28, eX6_alike_30, eX6_alike_31, eX6_alike_34, eX6_alike_36, eX6_alike_37, eX6_alike_40, eX6_alike_41, eX6_alike_42, eX6_alike_43, eX6_alike_46, eX6_alike_48, eX6_alike_49, eX6_alike_52, eX6_alike_53, eX6_alike_54, eX6_alike_55, eX6_alike_58, eX6_alike_59, eX6_alike_60, eX6_alike_63, eX6_alike_64, eX6_alike_66, eX6_alike_68, eX6_alike_71, eX6_alike_72, eX6_alike_74, eX6_alike_76, eX6_alike_79, eX6_alike_82, eX6_alike_83, eX6_alike_86, eX6_alike_87, fx_bd_some, Option.toList_some, Option.toList_none, List.nil_append, List.cons_append, fx_uo, fx_ui, Int.toNat_natCast, ↓reduceIte, Int.reduceEq, Int.reduceLT, Int.reduceLE, Int.reduceNeg, e1, e3, e3', Int.reduceToNat, q1, e5j, e5i, hal]
          by_cases hx : rcM so D j = rcM so D i
          · simp [hx]
          · simp [hx]
        · rw [entX7_alike]
          simp (disch := omega) only [eX7_alike_0, eX7_alike_1, eX7_alike_2, eX7_alike_5, eX7_alike_8, eX7_alike_9, eX7_alike_10, eX7_alike_11, eX7_alike_14, eX7_alike_17, eX7_alike_18, eX7_alike_19, eX7_alike_20, eX7_alike_23, eX7_alike_26, eX7_alike_27, eX7_alike_28, eX7_alike_29, eX7_alike_30, eX7_alike_33, eX7_alike_34, eX7_alike_37, eX7_alike_38, eX7_alike_39, eX7_alike_40, eX7_alike_43, eX7_alike_44, eX7_alike_45, eX7_alike_48, eX7_alike_49, eX7_alike_52, eX7_alike_53, fx_bd_some, Option.toList_some, Option.toList_none, List.nil_append, List.cons_append, fx_uo, fx_ui, Int.toNat_natCast, ↓reduceIte, Int.reduceEq, Int.reduceLT, Int.reduceLE, Int.reduceNeg, e2, e4, e4', x1, hrj, hri]
          by_cases hx : rcM so D j = rcM so D i
          · simp [hx]
          · simp [hx]
      · rw [if_neg hq'] at e3' e4'
        refine Ag.same h (-1) ?_ ?_
        · rw [entX6_alike]
          simp (disch := omega) only [eX6_alike_0, eX6_alike_1, eX6_alike_2, eX6_alike_5, eX6_alike_7, eX6_alike_9, eX6_alike_10, eX6_alike_13, eX6_alike_15, eX6_alike_17, eX6_alike_18, eX6_alike_21, eX6_alike_23, eX6_alike_25_n, eX6_alike_25_s, eX6_alike_28, eX6_alike_30, eX6_alike_31, eX6_alike_34, eX6_alike_36, eX6_alike_37, eX6_alike_40, eX6_alike_41, eX6_alike_43, eX6_alike_46, eX6_alike_48, eX6_alike_49, eX6_alike_52, eX6_alike_53, eX6_alike_54, eX6_alike_55, eX6_alike_58, eX6_alike_59, eX6_alike_60, eX6_alike_63, eX6_alike_64, eX6_alike_66, eX6_alike_68, eX6_alike_71, eX6_alike_72, eX6_alike_74, eX6_alike_76, eX6_alike_79, eX6_alike_82, eX6_alike_83, eX6_alike_86, eX6_alike_87, fx_bd_some, Option.toList_some, Option.toList_none, List.nil_append, List.cons_append, fx_uo, fx_ui, Int.toNat_natCast, ↓reduceIte, Int.reduceEq, Int.reduceLT, Int.reduceLE, Int.reduceNeg, e1, e3, e3']
          try repeat (first | rw [if_pos (by omega)] | rw [if_neg (by omega)])
        · rw [entX7_alike]
          simp (disch := omega) only [eX7_alike_0, eX7_alike_1, eX7_alike_2, eX7_alike_5, eX7_alike_8, eX7_alike_9, eX7_alike_10, eX7_alike_11, eX7_alike_14, eX7_alike_17, eX7_alike_18, eX7_alike_19, eX7_alike_20, eX7_alike_23, eX7_alike_26, eX7_alike_27, eX7_alike_28, eX7_alike_29, eX7_alike_30, eX7_alike_33, eX7_alike_34, eX7_alike_37, eX7_alike_38, eX7_alike_39, eX7_alike_40, eX7_alike_43, eX7_alike_44, eX7_alike_45, eX7_alike_48, eX7_alike_49, eX7_alike_52, eX7_alike_53, fx_bd_some, Option.toList_some, Option.toList_none, List.nil_append, List.cons_append, fx_uo, fx_ui, Int.toNat_natCast, ↓reduceIte, Int.reduceEq, Int.reduceLT, Int.reduceLE, Int.reduceNeg, e2, e4, e4']
    · rw [if_neg hq] at e3 e4
      refine Ag.same h (-1) ?_ ?_
      · rw [entX6_alike]
        simp (disch := omega) only [eX6_alike_0, eX6_alike_1, eX6_alike_2, eX6_alike_5, eX6_alike_7, eX6_alike_9, eX6_alike_10, eX6_alike_13, eX6_alike_15, eX6_alike_17, eX6_alike_18, eX6_alike_21, eX6_alike_23, eX6_alike_25_n, eX6_alike_25_s, eX6_alike_28, eX6_alike_30, eX6_alike_31, eX6_alike_34, eX6_alike_36, eX6_alike_37, eX6_alike_40, eX6_alike_41, eX6_alike_43, eX6_alike_46, eX6_alike_48, eX6_alike_49, eX6_alike_52, eX6_alike_53, eX6_alike_54, eX6_alike_55, eX6_alike_58, eX6_alike_59, eX6_alike_60, eX6_alike_63, eX6_alike_64, eX6_alike_66, eX6_alike_68, eX6_alike_71, eX6_alike_72, eX6_alike_74, eX6_alike_76, eX6_alike_79, eX6_alike_82, eX6_alike_83, eX6_alike_86, eX6_alike_87, fx_bd_some, Option.toList_some, Option.toList_none, List.nil_append, List.cons_append, fx_uo, fx_ui, Int.toNat_natCast, ↓reduceIte, Int.reduceEq, Int.reduceLT, Int.reduceLE, Int.reduceNeg, e1, e3, e3']
      · rw [entX7_alike]
        simp (disch := omega) only [eX7_alike_0, eX7_alike_1, eX7_alike_2, eX7_alike_5, eX7_alike_8, eX7_alike_9, eX7_alike_10, eX7_alike_11, eX7_alike_14, eX7_alike_17, eX7_alike_18, eX7_alike_19, eX7_alike_20, eX7_alike_23, eX7_alike_26, eX7_alike_27, eX7_alike_28, eX7_alike_29, eX7_alike_30, eX7_alike_33, eX7_alike_34, eX7_alike_37, eX7_alike_38, eX7_alike_39, eX7_alike_40, eX7_alike_43, eX7_alike_44, eX7_alike_45, eX7_alike_48, eX7_alike_49, eX7_alike_52, eX7_alike_53, fx_bd_some, Option.toList_some, Option.toList_none, List.nil_append, List.cons_append, fx_uo, fx_ui, Int.toNat_natCast, ↓reduceIte, Int.reduceEq, Int.reduceLT, Int.reduceLE, Int.reduceNeg, e2, e4]
  · have e1 := h.clN hc q
    have e2 := Inv.mcN (Rf := Rf) (Cf := Cf) h.1 hc q
    have e3 := sp_indexInN Rf Cf nc σ k
    have e3' := sp_indexInN Rf Cf nc σ l
    refine Ag.same h (-1) ?_ ?_
    · rw [entX6_alike]
      simp (disch := omega) only [eX6_alike_0, eX6_alike_1, eX6_alike_2, eX6_alike_5, eX6_alike_7, eX6_alike_9, eX6_alike_10, eX6_alike_13, eX6_alike_15, eX6_alike_17, eX6_alike_18, eX6_alike_21, eX6_alike_23, eX6_alike_25_n, eX6_alike_25_s, eX6_alike_28, eX6_alike_30, eX6_alike_31, eX6_alike_34, eX6_alike_36, eX6_alike_37, eX6_alike_40, eX6_alike_41, eX6_alike_42, eX6_alike_43, eX6_alike_46, eX6_alike_48, eX6_alike_49, eX6_alike_52, eX6_alike_53, eX6_alike_54, eX6_alike_55, eX6_alike_58, eX6_alike_59, eX6_alike_60, eX6_alike_63, eX6_alike_64, eX6_alike_66, eX6_alike_68, eX6_alike_71, eX6_alike_72, eX6_alike_74, eX6_alike_76, eX6_alike_79, eX6_alike_82, eX6_alike_83, eX6_alike_86, eX6_alike_87, fx_bd_some, Option.toList_some, Option.toList_none, List.nil_append, List.cons_append, fx_uo, fx_ui, Int.toNat_natCast, ↓reduceIte, Int.reduceEq, Int.reduceLT, Int.reduceLE, Int.reduceNeg, e1, e3, e3']
    · rw [entX7_alike]
      simp (disch := omega) only [eX7_alike_0, eX7_alike_1, eX7_alike_2, eX7_alike_5, eX7_alike_8, eX7_alike_9, eX7_alike_10, eX7_alike_11, eX7_alike_14, eX7_alike_17, eX7_alike_18, eX7_alike_19, eX7_alike_20, eX7_alike_23, eX7_alike_26, eX7_alike_27, eX7_alike_28, eX7_alike_29, eX7_alike_30, eX7_alike_33, eX7_alike_34, eX7_alike_37, eX7_alike_38, eX7_alike_39, eX7_alike_40, eX7_alike_43, eX7_alike_44, eX7_alike_45, eX7_alike_48, eX7_alike_49, eX7_alike_52, eX7_alike_53, fx_bd_some, Option.toList_some, Option.toList_none, List.nil_append, List.cons_append, fx_uo, fx_ui, Int.toNat_natCast, ↓reduceIte, Int.reduceEq, Int.reduceLT, Int.reduceLE, Int.reduceNeg, e2]
