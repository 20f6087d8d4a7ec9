/-! the world of the law: the class's cells, the reference's, and each cloth's -/
def gB : List (Nat × Nat) := [(0, 0), (1, 0), (2, 0), (3, 0), (4, 0), (5, 0), (6, 0), (7, 0), (10, 0), (11, 0), (15, 6), (16, 6), (17, 6), (18, 6), (19, 6), (15, 7), (16, 7), (17, 7), (18, 7), (19, 7), (15, 8), (16, 8), (17, 8), (18, 8), (19, 8), (8, 0), (9, 0), (10, 1), (11, 1), (20, 0), (30, 0), (31, 0), (33, 0), (34, 0), (35, 0), (36, 0), (37, 0), (38, 0), (39, 0), (40, 0), (41, 0), (42, 0), (43, 0), (44, 0), (45, 0), (46, 0), (50, 0), (51, 0), (52, 0), (53, 0), (54, 0), (55, 0), (58, 0), (59, 0), (60, 0), (61, 0), (62, 0), (64, 0)]
def gL (nc : Nat) : List (Nat × Nat) := gB ++ (List.range nc).flatMap gC
theorem gL_succ (nc : Nat) : gL (nc + 1) = gL nc ++ gC nc := by
  unfold gL
  rw [List.range_succ, List.flatMap_append, List.append_assoc]
  simp
def okr (gl : List (Nat × Nat)) (g : Nat) (x : Option (Nat → Nat × Nat)) : Bool := match x with
  | none => true
  | some f => decide (f g ∈ gl)
def okq (gl : List (Nat × Nat)) (q : Nat × Nat) : Bool := (match fx_ob q.1 with
  | none => true
  | some e => e.2.all (okr gl q.2)) && (fx_ak q.1 != 4)
theorem gL_nd : ∀ nc, nc < 7 → (gL nc).Nodup := by decide +kernel
theorem gL_ok : ∀ nc, nc < 7 → (gL nc).all (okq (gL nc)) = true := by decide +kernel
theorem gL_cl : ∀ nc, nc < 7 → ∀ j, j < nc → (12, j) ∈ gL nc := by decide +kernel
theorem gL_new : ∀ nc, nc < 6 → ∀ q ∈ gL nc, ¬ (q.2 = nc ∧ 12 ≤ q.1 ∧ q.1 ≤ 19) := by decide +kernel
theorem gL_ref {nc : Nat} (hn : nc < 7) {q : Nat × Nat} (hq : q ∈ gL nc) {ci : Nat} {fl : List (Option (Nat → Nat × Nat))} (ho : fx_ob q.1 = some (ci, fl)) {k : Nat} {f : Nat → Nat × Nat} (hk : fl[k]? = some (some f)) : f q.2 ∈ gL nc := by
  have h := List.all_eq_true.mp (gL_ok nc hn) q hq
  unfold okq at h
  rw [ho] at h
  simp only [Bool.and_eq_true] at h
  have h2 := List.all_eq_true.mp h.1 _ (List.mem_of_getElem? hk)
  exact of_decide_eq_true h2
theorem gL_ak {nc : Nat} (hn : nc < 7) {q : Nat × Nat} (hq : q ∈ gL nc) : fx_ak q.1 ≠ 4 := by
  have h := List.all_eq_true.mp (gL_ok nc hn) q hq
  unfold okq at h
  simp only [Bool.and_eq_true] at h
  simpa using h.2
def gG (D : va_G) (cI cZ cQ : ClassId) (A : Nat → Prop) (ad : Nat → Nat → Nat) (Rf Cf : Nat → Nat) (nc : Nat) : fx_G := (fx_S Rf Cf nc, gL nc, ad, D, (cI, cZ, cQ), fx_t3 cI cZ cQ, A)
theorem gG_ok (D : va_G) (cI cZ cQ : ClassId) (A : Nat → Prop) (ad : Nat → Nat → Nat) {Rf Cf : Nat → Nat} {nc : Nat} (hn : nc ≤ 6) (h1 : ∀ g, Rf g ≤ 12) (h2 : ∀ g, Cf g ≤ 12) : fx_Ok (gG D cI cZ cQ A ad Rf Cf nc) := by
  refine ⟨gL_nd nc (by omega), fun o g => ?_, rfl, fun _ => rfl, fun _ => rfl, fun q hq ci fl hf k f hk => gL_ref (show nc < 7 by omega) hq hf hk, fun _ j hj => gL_cl nc (by omega) j hj, fun q hq => gL_ak (show nc < 7 by omega) hq⟩
  have := fx_ln_le h1 h2 o g
  show fx_ln Rf Cf o g < 2147483648
  omega
/-! a cloth more -/
def nRf (Rf : Nat → Nat) (nc ra : Nat) : Nat → Nat := fun g => if g = nc then ra else Rf g
def nAd (ad : Nat → Nat → Nat) (nc a12 a13 a14 a15 a16 a17 a18 a19 : Nat) : Nat → Nat → Nat := fun o k => if k = nc ∧ 12 ≤ o ∧ o ≤ 19 then fx_adc ad a12 a13 a14 a15 a16 a17 a18 a19 o k else ad o k
def nSg (σ σ' : fx_M) (nc : Nat) : fx_M := fun o k x => if k = nc ∧ 12 ≤ o ∧ o ≤ 19 then σ' o k x else if o = 0 ∧ k = 0 ∧ x = 2 then (nc : Int) + 1 else σ o k x
theorem fx_fl_cg {ad ad' : Nat → Nat → Nat} {σ σ' : fx_M} {o g : Nat} : ∀ (fl : List (Option (Nat → Nat × Nat))) (k0 : Nat), (∀ k, σ o g k = σ' o g k) → (∀ (k : Nat) f, fl[k]? = some (some f) → ad (f g).1 (f g).2 = ad' (f g).1 (f g).2) → fx_fl ad σ o g k0 fl = fx_fl ad' σ' o g k0 fl
  | [], k0, _, _ => rfl
  | none :: l, k0, h1, h2 => by
    simp only [fx_fl, h1 k0]
    rw [fx_fl_cg l (k0 + 1) h1 (fun k f hk => h2 (k + 1) f hk)]
  | some f :: l, k0, h1, h2 => by
    simp only [fx_fl]
    rw [h2 0 f rfl, fx_fl_cg l (k0 + 1) h1 (fun k f hk => h2 (k + 1) f hk)]
theorem fx_ln_cg {Rf Cf Rf' Cf' : Nat → Nat} {o g : Nat} (h : (Rf g = Rf' g ∧ Cf g = Cf' g) ∨ ¬ (13 ≤ o ∧ o ≤ 19)) : fx_ln Rf Cf o g = fx_ln Rf' Cf' o g := by
  unfold fx_ln
  by_cases q : Rf g = Rf' g ∧ Cf g = Cf' g
  · rw [q.1, q.2]
  · have h2 : ¬ (13 ≤ o ∧ o ≤ 19) := h.resolve_left q
    simp only [show ¬ o = 13 by omega, show ¬ o = 14 by omega, show ¬ o = 16 by omega, show ¬ o = 17 by omega, show ¬ o = 18 by omega, show ¬ o = 19 by omega, if_false]
section NW
variable {D : va_G} {cI cZ cQ : ClassId} {A : Nat → Prop} {ad : Nat → Nat → Nat} {Rf Cf : Nat → Nat} {nc ra rb a12 a13 a14 a15 a16 a17 a18 a19 : Nat} {σ σ' : fx_M}
theorem nw_old (hn : nc < 6) {q : Nat × Nat} (hq : q ∈ gL nc) (h0 : q ≠ (0, 0)) (h2 : q ≠ (2, 0)) : (nAd ad nc a12 a13 a14 a15 a16 a17 a18 a19 q.1 q.2, fx_ce (gG D cI cZ cQ A (nAd ad nc a12 a13 a14 a15 a16 a17 a18 a19) (nRf Rf nc ra) (nRf Cf nc rb) (nc + 1)) (nSg σ σ' nc) q.1 q.2) = (ad q.1 q.2, fx_ce (gG D cI cZ cQ A ad Rf Cf nc) σ q.1 q.2) := by
  have hx := gL_new nc hn q hq
  have e1 : nAd ad nc a12 a13 a14 a15 a16 a17 a18 a19 q.1 q.2 = ad q.1 q.2 := by unfold nAd; rw [if_neg hx]
  have e2 : ∀ k, nSg σ σ' nc q.1 q.2 k = σ q.1 q.2 k := fun k => by
    unfold nSg
    rw [if_neg hx, if_neg]
    rintro ⟨z1, z2, -⟩
    exact h0 (Prod.ext z1 z2)
  rw [e1]
  refine congrArg _ ?_
  unfold fx_ce
  cases ho : fx_ob q.1 with
  | some e =>
    obtain ⟨ci, fl⟩ := e
    simp only
    rw [fx_fl_cg (ad' := ad) (σ' := σ) fl 0 e2 (fun k f hk => ?_)]
    · rfl
    · have hm := gL_ref (show nc < 7 by omega) hq ho hk
      show nAd ad nc a12 a13 a14 a15 a16 a17 a18 a19 (f q.2).1 (f q.2).2 = _
      unfold nAd
      rw [if_neg (gL_new nc hn _ hm)]
  | none =>
    simp only
    by_cases hq2 : q.1 = 2
    · exfalso
      have : ∀ nc, nc < 6 → ∀ q ∈ gL nc, q.1 = 2 → q = (2, 0) := by decide +kernel
      exact h2 (this nc hn q hq hq2)
    · rw [if_neg hq2, if_neg hq2]
      have e3 : fx_ln (nRf Rf nc ra) (nRf Cf nc rb) q.1 q.2 = fx_ln Rf Cf q.1 q.2 := by
        apply fx_ln_cg
        by_cases hg : q.2 = nc
        · right
          intro z
          exact hx ⟨hg, by omega, by omega⟩
        · left
          unfold nRf
          rw [if_neg hg, if_neg hg]
          exact ⟨rfl, rfl⟩
      show Sum.inl (_, fx_ln (nRf Rf nc ra) (nRf Cf nc rb) q.1 q.2, Sum.inl (fun i => fx_I (nSg σ σ' nc q.1 q.2 i))) = Sum.inl (_, fx_ln Rf Cf q.1 q.2, _)
      rw [e3]
      simp only [e2]
      rfl
theorem nw_new {q : Nat × Nat} (hq : q ∈ gC nc) : (nAd ad nc a12 a13 a14 a15 a16 a17 a18 a19 q.1 q.2, fx_ce (gG D cI cZ cQ A (nAd ad nc a12 a13 a14 a15 a16 a17 a18 a19) (nRf Rf nc ra) (nRf Cf nc rb) (nc + 1)) (nSg σ σ' nc) q.1 q.2) = (fx_adc ad a12 a13 a14 a15 a16 a17 a18 a19 q.1 q.2, fx_ce (fx_Gc D cI cZ cQ ad (fun _ => True) nc ra rb a12 a13 a14 a15 a16 a17 a18 a19) σ' q.1 q.2) := by
  have hq2 : q.2 = nc ∧ 12 ≤ q.1 ∧ q.1 ≤ 19 := by
    simp only [gC, List.mem_cons, List.not_mem_nil, or_false] at hq
    rcases hq with rfl | rfl | rfl | rfl | rfl | rfl | rfl | rfl <;> simp
  have e1 : nAd ad nc a12 a13 a14 a15 a16 a17 a18 a19 q.1 q.2 = fx_adc ad a12 a13 a14 a15 a16 a17 a18 a19 q.1 q.2 := by unfold nAd; rw [if_pos hq2]
  have e2 : ∀ k, nSg σ σ' nc q.1 q.2 k = σ' q.1 q.2 k := fun k => by
    unfold nSg
    rw [if_pos hq2]
  rw [e1]
  refine congrArg _ ?_
  unfold fx_ce
  cases ho : fx_ob q.1 with
  | some e =>
    obtain ⟨ci, fl⟩ := e
    simp only
    rw [fx_fl_cg (ad' := fx_adc ad a12 a13 a14 a15 a16 a17 a18 a19) (σ' := σ') fl 0 e2 (fun k f hk => ?_)]
    · rfl
    · have hm : f q.2 ∈ gC nc := (fx_OkC D cI cZ cQ ad A nc 1 1 a12 a13 a14 a15 a16 a17 a18 a19 (by omega) (by omega)).2.2.2.2.2.1 q hq ci fl ho k f hk
      show nAd ad nc a12 a13 a14 a15 a16 a17 a18 a19 (f q.2).1 (f q.2).2 = _
      have hm2 : (f q.2).2 = nc ∧ 12 ≤ (f q.2).1 ∧ (f q.2).1 ≤ 19 := by
        simp only [gC, List.mem_cons, List.not_mem_nil, or_false] at hm
        rcases hm with h | h | h | h | h | h | h | h <;> rw [h] <;> simp
      unfold nAd
      rw [if_pos hm2]
  | none =>
    simp only
    rw [if_neg (show ¬ q.1 = 2 by omega), if_neg (show ¬ q.1 = 2 by omega)]
    have e3 : fx_ln (nRf Rf nc ra) (nRf Cf nc rb) q.1 q.2 = fx_ln (fun _ => ra) (fun _ => rb) q.1 q.2 := by
      apply fx_ln_cg
      left
      unfold nRf
      rw [if_pos hq2.1, if_pos hq2.1]
      exact ⟨rfl, rfl⟩
    show Sum.inl (_, fx_ln (nRf Rf nc ra) (nRf Cf nc rb) q.1 q.2, Sum.inl (fun i => fx_I (nSg σ σ' nc q.1 q.2 i))) = Sum.inl (_, fx_ln (fun _ => ra) (fun _ => rb) q.1 q.2, _)
    rw [e3]
    simp only [e2]
    rfl
/-- the class's own cell, its row of cloths -/
def cX (ad : Nat → Nat → Nat) (w : Int) : va_E := .inr (6, [.ref (ad 1 0), .ref (ad 2 0), .int (fx_I w), .ref (ad 3 0), .ref (ad 6 0), .ref (ad 7 0), .ref (ad 10 1)])
def cR (cQ : ClassId) (f : Nat → Option Nat) : va_E := .inl (cQ, 6, .inr (.inr (.inr (.inr f))))
def cF (ad : Nat → Nat → Nat) (nc : Nat) : Nat → Option Nat := fun j => if j < nc then some (ad 12 j) else none
theorem ce_X (nc : Nat) : fx_ce (gG D cI cZ cQ A ad Rf Cf nc) σ 0 0 = cX ad (σ 0 0 2) := rfl
theorem ce_R (nc : Nat) : fx_ce (gG D cI cZ cQ A ad Rf Cf nc) σ 2 0 = cR cQ (cF ad nc) := rfl
theorem gL_0 (nc : Nat) : (gL nc)[0]? = some (0, 0) := rfl
theorem gL_2 (nc : Nat) : (gL nc)[2]? = some (2, 0) := rfl
theorem nw_eq (hn : nc < 6) : (((fx_ws (gG D cI cZ cQ A ad Rf Cf nc) σ).set 2 (ad 2 0, cR cQ (va_up (cF ad nc) nc (some a12)))).set 0 (ad 0 0, cX ad ((nc : Int) + 1))) ++ fx_ws (fx_Gc D cI cZ cQ ad (fun _ => True) nc ra rb a12 a13 a14 a15 a16 a17 a18 a19) σ' = fx_ws (gG D cI cZ cQ A (nAd ad nc a12 a13 a14 a15 a16 a17 a18 a19) (nRf Rf nc ra) (nRf Cf nc rb) (nc + 1)) (nSg σ σ' nc) := by
  have e : fx_ws (gG D cI cZ cQ A (nAd ad nc a12 a13 a14 a15 a16 a17 a18 a19) (nRf Rf nc ra) (nRf Cf nc rb) (nc + 1)) (nSg σ σ' nc) = (gL nc).map (fun q => (nAd ad nc a12 a13 a14 a15 a16 a17 a18 a19 q.1 q.2, fx_ce (gG D cI cZ cQ A (nAd ad nc a12 a13 a14 a15 a16 a17 a18 a19) (nRf Rf nc ra) (nRf Cf nc rb) (nc + 1)) (nSg σ σ' nc) q.1 q.2)) ++ (gC nc).map (fun q => (nAd ad nc a12 a13 a14 a15 a16 a17 a18 a19 q.1 q.2, fx_ce (gG D cI cZ cQ A (nAd ad nc a12 a13 a14 a15 a16 a17 a18 a19) (nRf Rf nc ra) (nRf Cf nc rb) (nc + 1)) (nSg σ σ' nc) q.1 q.2)) := by
    rw [← List.map_append, ← gL_succ]
    rfl
  rw [e]
  have e2 : (gC nc).map (fun q => (nAd ad nc a12 a13 a14 a15 a16 a17 a18 a19 q.1 q.2, fx_ce (gG D cI cZ cQ A (nAd ad nc a12 a13 a14 a15 a16 a17 a18 a19) (nRf Rf nc ra) (nRf Cf nc rb) (nc + 1)) (nSg σ σ' nc) q.1 q.2)) = fx_ws (fx_Gc D cI cZ cQ ad (fun _ => True) nc ra rb a12 a13 a14 a15 a16 a17 a18 a19) σ' := List.map_congr_left (fun q hq => nw_new hq)
  rw [e2]
  congr 1
  have hnd := gL_nd nc (by omega)
  have h12 : nAd ad nc a12 a13 a14 a15 a16 a17 a18 a19 12 nc = a12 := by unfold nAd fx_adc; rw [if_pos (by omega), if_pos rfl]
  apply List.ext_getElem?
  intro j
  have hlen : (gL nc).length = 58 + 8 * nc := by
    have : ∀ nc, nc < 6 → (gL nc).length = 58 + 8 * nc := by decide +kernel
    exact this nc hn
  have hwl : (fx_ws (gG D cI cZ cQ A ad Rf Cf nc) σ).length = 58 + 8 * nc := by
    unfold fx_ws
    rw [List.length_map]
    exact hlen
  rw [List.getElem?_map]
  by_cases j0 : j = 0
  · subst j0
    rw [List.getElem?_set_self (by rw [List.length_set, hwl]; omega), gL_0]
    simp only [Option.map_some, Option.some.injEq]
    have a1 : nAd ad nc a12 a13 a14 a15 a16 a17 a18 a19 0 0 = ad 0 0 := by unfold nAd; rw [if_neg (by omega)]
    have a2 : ∀ o k, ¬ (12 ≤ o ∧ o ≤ 19) → nAd ad nc a12 a13 a14 a15 a16 a17 a18 a19 o k = ad o k := fun o k z => by unfold nAd; rw [if_neg (by omega)]
    rw [a1, ce_X]
    have a3 : nSg σ σ' nc 0 0 2 = (nc : Int) + 1 := by unfold nSg; rw [if_neg (by omega), if_pos (by omega)]
    rw [a3]
    unfold cX
    rw [a2 1 0 (by omega), a2 2 0 (by omega), a2 3 0 (by omega), a2 6 0 (by omega), a2 7 0 (by omega), a2 10 1 (by omega)]
  · rw [List.getElem?_set_ne (by omega)]
    by_cases j2 : j = 2
    · subst j2
      rw [List.getElem?_set_self (by rw [hwl]; omega), gL_2]
      simp only [Option.map_some, Option.some.injEq]
      have a1 : nAd ad nc a12 a13 a14 a15 a16 a17 a18 a19 2 0 = ad 2 0 := by unfold nAd; rw [if_neg (by omega)]
      rw [a1, ce_R]
      refine congrArg _ (congrArg _ (funext (fun i => ?_)))
      unfold cF va_up
      by_cases hi : i = nc
      · subst hi
        rw [if_pos rfl, if_pos (by omega), h12]
      · rw [if_neg hi]
        show (if i < nc then some (ad 12 i) else none) = _
        by_cases hi2 : i < nc
        · rw [if_pos hi2, if_pos (by omega)]
          unfold nAd
          rw [if_neg (by omega)]
        · rw [if_neg hi2, if_neg (by omega)]
    · rw [List.getElem?_set_ne (by omega)]
      unfold fx_ws
      rw [List.getElem?_map]
      cases hq : (fx_gl (gG D cI cZ cQ A ad Rf Cf nc))[j]? with
      | none =>
        have hq' : (gL nc)[j]? = none := hq
        rw [hq']; rfl
      | some q =>
        have hq' : (gL nc)[j]? = some q := hq
        rw [hq']
        simp only [Option.map_some, Option.some.injEq]
        have hj : j < (gL nc).length := (List.getElem?_eq_some_iff.mp hq').1
        have ne : ∀ (i : Nat) (r : Nat × Nat), (gL nc)[i]? = some r → i ≠ j → q ≠ r := fun i r hr hij hqr => by
          subst hqr
          have e1 := (List.getElem?_eq_some_iff.mp hr).2
          have e3 := (List.getElem?_eq_some_iff.mp hq').2
          exact hij ((List.getElem_inj hnd).mp (e1.trans e3.symm))
        exact (nw_old hn (List.mem_of_getElem? hq') (ne 0 _ (gL_0 nc) (by omega)) (ne 2 _ (gL_2 nc) (by omega))).symm
end NW
