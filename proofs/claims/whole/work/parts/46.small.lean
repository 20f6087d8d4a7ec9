/-! two folds of a small cloth: dye meets every cell that is not shut at once -/
theorem cntP_all (n : Nat) : cntP n (fun _ => true) = n := by
  induction n with
  | zero => rfl
  | succ n ih => simp only [cntP]; rw [ih]; rfl
theorem cnt_RC {R C : Nat} (hR : R ≤ 12) (hC : 1 ≤ C) (hC2 : C ≤ 12) : cntP 144 (fun k => decide (isC R C k)) = R * C := by
  have e := cnt_cells hR hC hC2 (fun _ => true)
  rw [cntP_all] at e
  rw [e]
  exact cntP_congr (fun k _ => by simp)
theorem siz_RC {R C : Nat} (hR : R ≤ 12) (hC : 1 ≤ C) (hC2 : C ≤ 12) (pr pc : Nat → Nat) (p : Nat) : siz R C pr pc p ≤ R * C := by
  rw [← cnt_RC hR hC hC2]
  exact cntP_mono (fun k _ hk => by simp at hk ⊢; exact hk.1)
section SM
variable {R C br bc kd ln : Nat} {pr pc ph : Nat → Nat}
theorem f_siz2 (hB : BW R C br bc pr pc ph) (hl : fLn br bc kd ln) {k : Nat} (hk : k < 144) (hkc : isC R C k) : siz R C (fPr R C kd ln pr pc) (fPc R C kd ln pr pc) (12 * fPr R C kd ln pr pc k + fPc R C kd ln pr pc k) = siz R C pr pc (12 * pr k + pc k) + mts R C br bc pr pc kd ln (pr k) (pc k) := by
  rw [f_siz hB hl hk hkc, cme_sum hB hl hk hkc]
theorem f_BWs (hB : BW R C br bc pr pc ph) (hR : R ≤ 4) (hC : C ≤ 4) (hl : fLn br bc kd ln) {how : Nat} (hh : how < 2) : BW R C (fBr R C kd ln pr pc) (fBc R C kd ln pr pc) (fPr R C kd ln pr pc) (fPc R C kd ln pr pc) (fPh R C kd ln how pr pc ph) := by
  refine f_BW hB hl hh ?_
  obtain ⟨⟨b1, b2⟩, ⟨b3, b4⟩, -⟩ := id hB
  have h16 : R * C ≤ 16 := Nat.mul_le_mul hR hC
  unfold thk
  refine mxP_le (fun k hk hkc => ?_)
  replace hkc : isC R C k := by simpa using hkc
  have := siz_RC b2 b3 b4 (fPr R C kd ln pr pc) (fPc R C kd ln pr pc) (12 * fPr R C kd ln pr pc k + fPc R C kd ln pr pc k)
  rw [f_siz hB hl (by omega) hkc] at this
  omega
theorem f_siz_le (hB : BW R C br bc pr pc ph) (hl : fLn br bc kd ln) (hs : ∀ p, siz R C pr pc p ≤ 1) (p : Nat) : siz R C (fPr R C kd ln pr pc) (fPc R C kd ln pr pc) p ≤ 2 := by
  by_cases q : siz R C (fPr R C kd ln pr pc) (fPc R C kd ln pr pc) p = 0
  · omega
  · obtain ⟨k, hk, hkc⟩ := cntP_ex (show 0 < cntP 144 (fun k => decide (isC R C k ∧ 12 * fPr R C kd ln pr pc k + fPc R C kd ln pr pc k = p)) from Nat.pos_of_ne_zero q)
    replace hkc : isC R C k ∧ 12 * fPr R C kd ln pr pc k + fPc R C kd ln pr pc k = p := by simpa using hkc
    rw [← hkc.2, f_siz2 hB hl hk hkc.1]
    have a := hs (12 * pr k + pc k)
    have b : mts R C br bc pr pc kd ln (pr k) (pc k) ≤ 1 := by
      unfold mts szA
      split
      · omega
      · split
        · exact hs _
        · omega
    omega
/-- each cell is a face of its stack, or has a bare side -/
def okS (R C br bc : Nat) (pr pc ph : Nat → Nat) : Prop := ∀ j, j < 144 → isC R C j → (ph j = 0 ∨ ph j + 1 = siz R C pr pc (12 * pr j + pc j)) ∨ bare R C br bc pr pc (pr j) (pc j) = true
theorem okS_le (hB : BW R C br bc pr pc ph) (hs : ∀ p, siz R C pr pc p ≤ 2) : okS R C br bc pr pc ph := fun j hj hjc => by
  have a := (hB.2.2.2.2.1 j hj hjc).2.2
  have b := hs (12 * pr j + pc j)
  left
  omega
theorem okS_dist (hk : okS R C br bc pr pc ph) (sh : Nat → Nat → Bool) {L S : Int} (hL : 1 ≤ L) (hS : 1 ≤ S) : Dist R C br bc pr pc ph sh L S (fun j => if sh (pr j) (pc j) = true then 1000000 else 1) := by
  refine ⟨fun j _ _ => ?_, fun j _ _ hs => ?_, fun k i j _ _ _ _ hs => ?_, fun j hj hjc hd => ?_⟩
  · show 1 ≤ (if sh (pr j) (pc j) = true then (1000000 : Int) else 1) ∧ (if sh (pr j) (pc j) = true then (1000000 : Int) else 1) ≤ 1000000
    split <;> omega
  · have : sh (pr j) (pc j) = false := by
      unfold srcC at hs
      cases h : sh (pr j) (pc j) <;> simp [h] at hs ⊢
    show (if sh (pr j) (pc j) = true then (1000000 : Int) else 1) = 1
    rw [this]; rfl
  · have w := wt_pos hL hS i
    show (if sh (pr j) (pc j) = true then (1000000 : Int) else 1) ≤ (if sh (pr k) (pc k) = true then (1000000 : Int) else 1) + wt L S i
    rw [hs]
    rw [if_neg (by simp)]
    split <;> omega
  · left
    have hs : sh (pr j) (pc j) = false := by
      cases h : sh (pr j) (pc j) with
      | false => rfl
      | true =>
        replace hd : (if sh (pr j) (pc j) = true then (1000000 : Int) else 1) < 1000000 := hd
        rw [h, if_pos rfl] at hd
        omega
    unfold srcC
    rw [hs]
    rcases hk j hj hjc with h | h
    · simp [h]
    · rw [h]; simp
theorem nRC0 (k : Nat) : nC 0 ln pr pc k = (if ln ≤ pc k then 2 * (ln : Int) - 1 - pc k else pc k) ∧ nR 0 ln pr pc k = pr k := by
  unfold nC nR fCo fRo mvB
  by_cases h : ln ≤ pc k <;> simp [h]
theorem nRC1 (k : Nat) : nR 1 ln pr pc k = (if ln ≤ pr k then 2 * (ln : Int) - 1 - pr k else pr k) ∧ nC 1 ln pr pc k = pc k := by
  unfold nC nR fCo fRo mvB
  by_cases h : ln ≤ pr k <;> simp [h]
theorem nRC2 (k : Nat) : nR 2 ln pr pc k = (if pr k < pc k then (pc k : Int) else pr k) ∧ nC 2 ln pr pc k = (if pr k < pc k then (pr k : Int) else pc k) := by
  unfold nC nR fCo fRo mvB
  by_cases h : pr k < pc k <;> simp [h]
/-- a first fold that leaves four by four is a slant: nothing lies above it -/
theorem f_tri (hR : 1 ≤ R ∧ R ≤ 4) (hC : 1 ≤ C ∧ C ≤ 4) (hl : fLn R C kd ln) : fBr R C kd ln oR oC = 4 → fBc R C kd ln oR oC = 4 → ∀ j, j < 144 → isC R C j → fPc R C kd ln oR oC j ≤ fPr R C kd ln oR oC j := by
  intro h4 h4' j hj hjc
  have hB := BW_open (R := R) (C := C) hR.1 (by omega) hC.1 (by omega)
  obtain ⟨f1, f2, f3, f4, f5⟩ := f_bds hB hl
  have b9 := hB.2.2.2.2.1
  have h0c : isC R C 0 := ⟨by omega, by omega⟩
  rcases id hl with ⟨rfl, l1, l2⟩ | ⟨rfl, l1, l2⟩ | ⟨rfl, l1, l2, l3⟩
  · exfalso
    unfold fBc at h4'
    have g1 : (if 2 * (ln : Int) - C < 0 then 2 * (ln : Int) - C else 0) ≤ mC R C 0 ln oR oC := by
      refine mnI_ge (by split <;> omega) (fun k hk hkc => ?_)
      replace hkc : isC R C k := by simpa using hkc
      have := b9 k (by omega) hkc
      rw [(nRC0 k).1]
      split <;> split <;> omega
    have g2 : xC R C 0 ln oR oC ≤ ln - 1 := by
      refine mxI_le (by omega) (fun k hk hkc => ?_)
      rw [(nRC0 k).1]
      split <;> omega
    split at g1 <;> omega
  · exfalso
    unfold fBr at h4
    have g1 : (if 2 * (ln : Int) - R < 0 then 2 * (ln : Int) - R else 0) ≤ mR R C 1 ln oR oC := by
      refine mnI_ge (by split <;> omega) (fun k hk hkc => ?_)
      replace hkc : isC R C k := by simpa using hkc
      have := b9 k (by omega) hkc
      rw [(nRC1 k).1]
      split <;> split <;> omega
    have g2 : xR R C 1 ln oR oC ≤ ln - 1 := by
      refine mxI_le (by omega) (fun k hk hkc => ?_)
      rw [(nRC1 k).1]
      split <;> omega
    split at g1 <;> omega
  · have g1 : 0 ≤ mR R C 2 ln oR oC := by
      refine mnI_ge (by omega) (fun k hk hkc => ?_)
      rw [(nRC2 k).1]
      split <;> omega
    have g2 : 0 ≤ mC R C 2 ln oR oC := by
      refine mnI_ge (by omega) (fun k hk hkc => ?_)
      rw [(nRC2 k).2]
      split <;> omega
    have g3 := (f1 0 (by omega) h0c).1
    have g4 := (f1 0 (by omega) h0c).2.2.1
    rw [(nRC2 0).1] at g3
    rw [(nRC2 0).2] at g4
    have z1 : oR 0 = 0 := rfl
    have z2 : oC 0 = 0 := rfl
    rw [z1, z2] at g3 g4
    unfold fPc fPr
    rw [(nRC2 j).1, (nRC2 j).2]
    split at g3 <;> split at g4 <;> split <;> omega
theorem okS_2 (hB : BW R C br bc pr pc ph) (h4 : br ≤ 4 ∧ bc ≤ 4) (hs : ∀ p, siz R C pr pc p ≤ 2) (ht : br = 4 → bc = 4 → ∀ j, j < 144 → isC R C j → pc j ≤ pr j) (hl : fLn br bc kd ln) {ph' : Nat → Nat} (hB' : BW R C (fBr R C kd ln pr pc) (fBc R C kd ln pr pc) (fPr R C kd ln pr pc) (fPc R C kd ln pr pc) ph') : okS R C (fBr R C kd ln pr pc) (fBc R C kd ln pr pc) (fPr R C kd ln pr pc) (fPc R C kd ln pr pc) ph' := by
  intro j hj hjc
  have e := f_siz2 hB hl hj hjc
  have b9 := hB.2.2.2.2.1
  by_cases q : mts R C br bc pr pc kd ln (pr j) (pc j) = 0
  · left
    have a := (hB'.2.2.2.2.1 j hj hjc).2.2
    have b := hs (12 * pr j + pc j)
    omega
  · right
    obtain ⟨f1, f2, f3, f4, f5⟩ := f_bds hB hl
    have hq : ¬ (kd = 2 ∧ ((pr j : Nat) : Int) = (pc j : Int)) ∧ ∃ i, i < 144 ∧ isC R C i ∧ (pr i : Int) = rA kd ln (pr j) (pc j) ∧ (pc i : Int) = cA kd ln (pr j) (pc j) := by
      unfold mts at q
      split at q
      · exact absurd rfl q
      · rename_i z
        refine ⟨z, ?_⟩
        rw [szA_cnt hB] at q
        obtain ⟨i, hi, hic⟩ := cntP_ex (Nat.pos_of_ne_zero q)
        replace hic : isC R C i ∧ (pr i : Int) = rA kd ln (pr j) (pc j) ∧ (pc i : Int) = cA kd ln (pr j) (pc j) := by simpa using hic
        exact ⟨i, hi, hic⟩
    obtain ⟨z1, i, hi, hic, z2, z3⟩ := hq
    have cr : ∀ k, k < 144 → isC R C k → ((fPr R C kd ln pr pc k : Nat) : Int) = nR kd ln pr pc k - mR R C kd ln pr pc ∧ ((fPc R C kd ln pr pc k : Nat) : Int) = nC kd ln pr pc k - mC R C kd ln pr pc := fun k hk hkc => by
      obtain ⟨g1, g2, g3, g4⟩ := f1 k hk hkc
      unfold fPr fPc
      constructor <;> omega
    have em : ∀ (r n : Int), (∀ k, k < 144 → isC R C k → ¬ (nR kd ln pr pc k - mR R C kd ln pr pc = r ∧ nC kd ln pr pc k - mC R C kd ln pr pc = n)) → szA R C (fBr R C kd ln pr pc) (fBc R C kd ln pr pc) (fPr R C kd ln pr pc) (fPc R C kd ln pr pc) r n = 0 := fun r n h => by
      rw [szA_cnt hB']
      refine cntP_zero (fun k hk => ?_)
      by_cases hkc : isC R C k
      · have := h k hk hkc
        rw [← (cr k hk hkc).1, ← (cr k hk hkc).2] at this
        simpa [hkc] using this
      · simp [hkc]
    have w1 := b9 i hi hic
    have w2 := b9 j hj hjc
    unfold bare
    refine decide_eq_true ?_
    rw [(cr j hj hjc).1, (cr j hj hjc).2]
    rcases id hl with ⟨rfl, l1, l2⟩ | ⟨rfl, l1, l2⟩ | ⟨rfl, l1, l2, l3⟩
    · simp only [cA, if_true] at z3
      by_cases c1 : nC 0 ln pr pc j = ln - 1
      · right; right; right
        refine em _ _ (fun k hk hkc => ?_)
        have := b9 k hk hkc
        rw [c1]
        rw [(nRC0 k).1]
        split <;> omega
      · right; right; left
        refine em _ _ (fun k hk hkc => ?_)
        have := b9 k hk hkc
        rw [(nRC0 j).1] at c1 ⊢
        rw [(nRC0 k).1]
        split at c1
        · rename_i c2
          rw [if_pos c2]
          split <;> omega
        · rename_i c2
          rw [if_neg c2]
          split <;> omega
    · simp only [rA, if_true, show (1 : Nat) ≠ 0 by omega, if_false] at z2
      by_cases c1 : nR 1 ln pr pc j = ln - 1
      · right; left
        refine em _ _ (fun k hk hkc => ?_)
        have := b9 k hk hkc
        rw [c1]
        rw [(nRC1 k).1]
        split <;> omega
      · left
        refine em _ _ (fun k hk hkc => ?_)
        have := b9 k hk hkc
        rw [(nRC1 j).1] at c1 ⊢
        rw [(nRC1 k).1]
        split at c1
        · rename_i c2
          rw [if_pos c2]
          split <;> omega
        · rename_i c2
          rw [if_neg c2]
          split <;> omega
    · simp only [rA, cA, show (2 : Nat) ≠ 0 by omega, show (2 : Nat) ≠ 1 by omega, if_false] at z2 z3
      have n4 : ¬ (br = 4) := fun h => by
        have t1 := ht h (by omega) i hi hic
        have t2 := ht h (by omega) j hj hjc
        omega
      by_cases c1 : nC 2 ln pr pc j = 0
      · right; right; left
        refine em _ _ (fun k hk hkc => ?_)
        rw [c1, (nRC2 k).2]
        split <;> omega
      · right; left
        refine em _ _ (fun k hk hkc => ?_)
        have := b9 k hk hkc
        rw [(nRC2 j).2] at c1
        rw [(nRC2 k).1, (nRC2 j).1]
        split at c1
        · rename_i c2
          rw [if_pos c2]
          split <;> omega
        · rename_i c2
          rw [if_neg c2]
          split <;> omega
end SM
