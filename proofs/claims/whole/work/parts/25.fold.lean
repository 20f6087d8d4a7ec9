/-! what a fold does to a bundle: pure -/
def fLn (br bc kd ln : Nat) : Prop := (kd = 0 ∧ 1 ≤ ln ∧ ln < bc) ∨ (kd = 1 ∧ 1 ≤ ln ∧ ln < br) ∨ (kd = 2 ∧ ln = 0 ∧ br = bc ∧ 1 < br)
theorem szA_cnt {R C br bc : Nat} {pr pc ph : Nat → Nat} (hB : BW R C br bc pr pc ph) (r n : Int) : szA R C br bc pr pc r n = cntP 144 (fun j => decide (isC R C j ∧ (pr j : Int) = r ∧ (pc j : Int) = n)) := by
  obtain ⟨⟨b1, b2⟩, ⟨b3, b4⟩, ⟨b5, b6⟩, ⟨b7, b8⟩, b9, b10, b11⟩ := id hB
  unfold szA
  split
  · unfold siz
    apply cntP_congr
    intro k hk
    by_cases hc : isC R C k
    · obtain ⟨g1, g2, -⟩ := b9 k hk hc
      apply decide_eq_decide.2
      constructor
      · rintro ⟨-, q⟩; exact ⟨hc, by omega, by omega⟩
      · rintro ⟨-, q1, q2⟩; exact ⟨hc, by omega⟩
    · simp [hc]
  · rw [cntP_zero]
    intro k hk
    rw [decide_eq_false_iff_not]
    rintro ⟨hc, q1, q2⟩
    obtain ⟨g1, g2, -⟩ := b9 k hk hc
    omega
theorem szA_at {R C br bc : Nat} {pr pc ph : Nat → Nat} (hB : BW R C br bc pr pc ph) {k : Nat} (hk : k < 144) (hkc : isC R C k) : szA R C br bc pr pc (pr k) (pc k) = siz R C pr pc (12 * pr k + pc k) := by
  obtain ⟨g1, g2, -⟩ := hB.2.2.2.2.1 k hk hkc
  unfold szA
  rw [if_pos (by omega)]
  simp
section FO
variable {R C br bc : Nat} {pr pc ph : Nat → Nat} {kd ln : Nat}
theorem cme_tt (hB : BW R C br bc pr pc ph) (hl : fLn br bc kd ln) {k : Nat} (hk : k < 144) (hkc : isC R C k) (hm : mvB kd ln (pr k) (pc k) = true) : cmeB R C kd ln pr pc true k = siz R C pr pc (12 * pr k + pc k) := by
  rw [← szA_at hB hk hkc, szA_cnt hB]
  unfold cmeB
  apply cntP_congr
  intro j hj
  by_cases hjc : isC R C j
  · unfold nR nC fRo fCo
    unfold fLn at hl
    rcases hl with ⟨rfl, -⟩ | ⟨rfl, -⟩ | ⟨rfl, -⟩ <;> unfold mvB at hm ⊢ <;> simp [hjc] at hm ⊢ <;> grind
  · simp [hjc]
theorem cme_ff (hB : BW R C br bc pr pc ph) (hl : fLn br bc kd ln) {k : Nat} (hk : k < 144) (hkc : isC R C k) (hm : mvB kd ln (pr k) (pc k) = false) : cmeB R C kd ln pr pc false k = siz R C pr pc (12 * pr k + pc k) := by
  rw [← szA_at hB hk hkc, szA_cnt hB]
  unfold cmeB
  apply cntP_congr
  intro j hj
  by_cases hjc : isC R C j
  · unfold nR nC fRo fCo
    unfold fLn at hl
    rcases hl with ⟨rfl, -⟩ | ⟨rfl, -⟩ | ⟨rfl, -⟩ <;> unfold mvB at hm ⊢ <;> simp [hjc] at hm ⊢ <;> grind
  · simp [hjc]
theorem cme_ft (hB : BW R C br bc pr pc ph) (hl : fLn br bc kd ln) {k : Nat} (hk : k < 144) (hkc : isC R C k) (hm : mvB kd ln (pr k) (pc k) = true) : cmeB R C kd ln pr pc false k = mts R C br bc pr pc kd ln (pr k) (pc k) := by
  unfold mts
  rw [if_neg (by intro q; unfold mvB at hm; grind), szA_cnt hB]
  unfold cmeB
  apply cntP_congr
  intro j hj
  by_cases hjc : isC R C j
  · unfold nR nC fRo fCo rA cA
    unfold fLn at hl
    rcases hl with ⟨rfl, -⟩ | ⟨rfl, -⟩ | ⟨rfl, -⟩ <;> unfold mvB at hm ⊢ <;> simp [hjc] at hm ⊢ <;> grind
  · simp [hjc]
theorem cme_tf (hB : BW R C br bc pr pc ph) (hl : fLn br bc kd ln) {k : Nat} (hk : k < 144) (hkc : isC R C k) (hm : mvB kd ln (pr k) (pc k) = false) : cmeB R C kd ln pr pc true k = mts R C br bc pr pc kd ln (pr k) (pc k) := by
  unfold mts
  split
  · rename_i hq
    unfold cmeB
    rw [cntP_zero]
    intro j hj
    unfold nR nC fRo fCo
    obtain ⟨rfl, hq2⟩ := hq
    unfold mvB at hm ⊢
    simp at hm ⊢
    grind
  · rename_i hq
    rw [szA_cnt hB]
    unfold cmeB
    apply cntP_congr
    intro j hj
    by_cases hjc : isC R C j
    · unfold nR nC fRo fCo rA cA
      unfold fLn at hl
      rcases hl with ⟨rfl, -⟩ | ⟨rfl, -⟩ | ⟨rfl, -⟩ <;> unfold mvB at hm ⊢ <;> simp [hjc] at hm hq ⊢ <;> grind
    · simp [hjc]
/-- the heights of both sides agree -/
theorem cHt_nH (hB : BW R C br bc pr pc ph) (hl : fLn br bc kd ln) {how : Nat} (hh : how < 2) {k : Nat} (hk : k < 144) (hkc : isC R C k) : cHt R C br bc pr pc ph kd ln how k = nH R C kd ln how pr pc ph k := by
  unfold cHt nH
  cases hm : mvB kd ln (pr k) (pc k) with
  | true =>
    rw [if_pos rfl, if_pos rfl, cme_tt hB hl hk hkc hm, cme_ft hB hl hk hkc hm]
    split <;> omega
  | false =>
    have e := cme_tf hB hl hk hkc hm
    rcases (show how = 0 ∨ how = 1 by omega) with rfl | rfl
    · simp
    · simp; omega
theorem cme_sum (hB : BW R C br bc pr pc ph) (hl : fLn br bc kd ln) {k : Nat} (hk : k < 144) (hkc : isC R C k) : cmeB R C kd ln pr pc true k + cmeB R C kd ln pr pc false k = siz R C pr pc (12 * pr k + pc k) + mts R C br bc pr pc kd ln (pr k) (pc k) := by
  cases hm : mvB kd ln (pr k) (pc k) with
  | true => rw [cme_tt hB hl hk hkc hm, cme_ft hB hl hk hkc hm]
  | false => rw [cme_tf hB hl hk hkc hm, cme_ff hB hl hk hkc hm]; omega
end FO
/-! least and greatest -/
theorem mnI_le {n : Nat} {P : Nat → Bool} {f : Nat → Int} {k : Nat} (hk : k < n) (hP : P k = true) : mnI n P f ≤ f k := by
  induction n with
  | zero => omega
  | succ n ih =>
    simp only [mnI]
    by_cases h : k = n
    · subst h; rw [if_pos hP]; omega
    · have := ih (by omega)
      split <;> omega
theorem mnI_ge {n : Nat} {P : Nat → Bool} {f : Nat → Int} {b : Int} (h0 : b ≤ 1000000) (h : ∀ k, k < n → P k = true → b ≤ f k) : b ≤ mnI n P f := by
  induction n with
  | zero => simpa [mnI] using h0
  | succ n ih =>
    have := ih (fun k hk => h k (by omega))
    simp only [mnI]
    split
    · have := h n (by omega) (by assumption)
      omega
    · exact this
theorem mnI_top (n : Nat) (P : Nat → Bool) (f : Nat → Int) : mnI n P f ≤ 1000000 := by
  induction n with
  | zero => simp [mnI]
  | succ n ih => simp only [mnI]; split <;> omega
theorem mxI_ge {n : Nat} {P : Nat → Bool} {f : Nat → Int} {k : Nat} (hk : k < n) (hP : P k = true) : f k ≤ mxI n P f := by
  induction n with
  | zero => omega
  | succ n ih =>
    simp only [mxI]
    by_cases h : k = n
    · subst h; rw [if_pos hP]; omega
    · have := ih (by omega)
      split <;> omega
theorem mxI_le {n : Nat} {P : Nat → Bool} {f : Nat → Int} {b : Int} (h0 : -1000000 ≤ b) (h : ∀ k, k < n → P k = true → f k ≤ b) : mxI n P f ≤ b := by
  induction n with
  | zero => simpa [mxI] using h0
  | succ n ih =>
    have := ih (fun k hk => h k (by omega))
    simp only [mxI]
    split
    · have := h n (by omega) (by assumption)
      omega
    · exact this
theorem mxI_bot (n : Nat) (P : Nat → Bool) (f : Nat → Int) : -1000000 ≤ mxI n P f := by
  induction n with
  | zero => simp [mxI]
  | succ n ih => simp only [mxI]; split <;> omega
theorem mnI_cells {R C : Nat} (hR : R ≤ 12) (hC : 1 ≤ C) (hC2 : C ≤ 12) (f : Nat → Int) : mnI (R * C) (fun _ => true) (fun i => f (ki C i)) = mnI (12 * R) (fun k => decide (isC R C k)) f := by
  apply Int.le_antisymm
  · apply mnI_ge (mnI_top _ _ _)
    intro k hk hkc
    rw [decide_eq_true_eq] at hkc
    have := mnI_le (P := fun _ => true) (f := fun i => f (ki C i)) (ix_lt hkc) rfl
    rw [ki_ix hkc] at this
    exact this
  · apply mnI_ge (mnI_top _ _ _)
    intro i hi _
    exact mnI_le (P := fun k => decide (isC R C k)) (f := f) (isC_lt (ki_C hC hC2 hi)) (by simpa using ki_C hC hC2 hi)
theorem mxI_cells {R C : Nat} (hR : R ≤ 12) (hC : 1 ≤ C) (hC2 : C ≤ 12) (f : Nat → Int) : mxI (R * C) (fun _ => true) (fun i => f (ki C i)) = mxI (12 * R) (fun k => decide (isC R C k)) f := by
  apply Int.le_antisymm
  · apply mxI_le (mxI_bot _ _ _)
    intro i hi _
    exact mxI_ge (P := fun k => decide (isC R C k)) (f := f) (isC_lt (ki_C hC hC2 hi)) (by simpa using ki_C hC hC2 hi)
  · apply mxI_le (mxI_bot _ _ _)
    intro k hk hkc
    rw [decide_eq_true_eq] at hkc
    have := mxI_ge (P := fun _ => true) (f := fun i => f (ki C i)) (ix_lt hkc) rfl
    rw [ki_ix hkc] at this
    exact this
/-! the bundle behind a fold -/
def mR (R C kd ln : Nat) (pr pc : Nat → Nat) : Int := mnI (12 * R) (fun k => decide (isC R C k)) (nR kd ln pr pc)
def mC (R C kd ln : Nat) (pr pc : Nat → Nat) : Int := mnI (12 * R) (fun k => decide (isC R C k)) (nC kd ln pr pc)
def xR (R C kd ln : Nat) (pr pc : Nat → Nat) : Int := mxI (12 * R) (fun k => decide (isC R C k)) (nR kd ln pr pc)
def xC (R C kd ln : Nat) (pr pc : Nat → Nat) : Int := mxI (12 * R) (fun k => decide (isC R C k)) (nC kd ln pr pc)
def fPr (R C kd ln : Nat) (pr pc : Nat → Nat) (k : Nat) : Nat := (nR kd ln pr pc k - mR R C kd ln pr pc).toNat
def fPc (R C kd ln : Nat) (pr pc : Nat → Nat) (k : Nat) : Nat := (nC kd ln pr pc k - mC R C kd ln pr pc).toNat
def fPh (R C kd ln how : Nat) (pr pc ph : Nat → Nat) (k : Nat) : Nat := (nH R C kd ln how pr pc ph k).toNat
def fBr (R C kd ln : Nat) (pr pc : Nat → Nat) : Nat := (xR R C kd ln pr pc - mR R C kd ln pr pc + 1).toNat
def fBc (R C kd ln : Nat) (pr pc : Nat → Nat) : Nat := (xC R C kd ln pr pc - mC R C kd ln pr pc + 1).toNat
section FP
variable {R C br bc : Nat} {pr pc ph : Nat → Nat} {kd ln : Nat}
/-- bounds on the new rows and columns -/
theorem f_rng (hB : BW R C br bc pr pc ph) (hl : fLn br bc kd ln) : ∃ a b a' b' : Int, b - a + 1 ≤ br ∧ b' - a' + 1 ≤ bc ∧ (-1000 ≤ a ∧ b ≤ 1000 ∧ -1000 ≤ a' ∧ b' ≤ 1000) ∧ ∀ k, k < 144 → isC R C k → a ≤ nR kd ln pr pc k ∧ nR kd ln pr pc k ≤ b ∧ a' ≤ nC kd ln pr pc k ∧ nC kd ln pr pc k ≤ b' := by
  obtain ⟨⟨b1, b2⟩, ⟨b3, b4⟩, ⟨b5, b6⟩, ⟨b7, b8⟩, b9, b10, b11⟩ := id hB
  unfold fLn at hl
  rcases hl with ⟨rfl, l1, l2⟩ | ⟨rfl, l1, l2⟩ | ⟨rfl, l1, l2⟩
  · refine ⟨0, br - 1, min 0 (2 * (ln : Int) - bc), ln - 1, by omega, by omega, by omega, fun k hk hkc => ?_⟩
    obtain ⟨g1, g2, -⟩ := b9 k hk hkc
    unfold nR nC fRo fCo mvB
    simp
    split <;> omega
  · refine ⟨min 0 (2 * (ln : Int) - br), ln - 1, 0, bc - 1, by omega, by omega, by omega, fun k hk hkc => ?_⟩
    obtain ⟨g1, g2, -⟩ := b9 k hk hkc
    unfold nR nC fRo fCo mvB
    simp
    split <;> omega
  · refine ⟨0, br - 1, 0, bc - 1, by omega, by omega, by omega, fun k hk hkc => ?_⟩
    obtain ⟨g1, g2, -⟩ := b9 k hk hkc
    unfold nR nC fRo fCo mvB
    simp
    split <;> omega
theorem f_bds (hB : BW R C br bc pr pc ph) (hl : fLn br bc kd ln) : (∀ k, k < 144 → isC R C k → mR R C kd ln pr pc ≤ nR kd ln pr pc k ∧ nR kd ln pr pc k ≤ xR R C kd ln pr pc ∧ mC R C kd ln pr pc ≤ nC kd ln pr pc k ∧ nC kd ln pr pc k ≤ xC R C kd ln pr pc) ∧ xR R C kd ln pr pc - mR R C kd ln pr pc + 1 ≤ br ∧ xC R C kd ln pr pc - mC R C kd ln pr pc + 1 ≤ bc ∧ mR R C kd ln pr pc ≤ xR R C kd ln pr pc ∧ mC R C kd ln pr pc ≤ xC R C kd ln pr pc := by
  obtain ⟨⟨b1, b2⟩, ⟨b3, b4⟩, -⟩ := id hB
  obtain ⟨a, b, a', b', h1, h2, h3, h4⟩ := f_rng hB hl
  have key : ∀ k, k < 144 → isC R C k → mR R C kd ln pr pc ≤ nR kd ln pr pc k ∧ nR kd ln pr pc k ≤ xR R C kd ln pr pc ∧ mC R C kd ln pr pc ≤ nC kd ln pr pc k ∧ nC kd ln pr pc k ≤ xC R C kd ln pr pc := fun k hk hkc =>
    ⟨mnI_le (P := fun k => decide (isC R C k)) (isC_lt hkc) (by simpa using hkc), mxI_ge (P := fun k => decide (isC R C k)) (isC_lt hkc) (by simpa using hkc), mnI_le (P := fun k => decide (isC R C k)) (isC_lt hkc) (by simpa using hkc), mxI_ge (P := fun k => decide (isC R C k)) (isC_lt hkc) (by simpa using hkc)⟩
  have k0 := key 0 (by omega) ⟨by omega, by omega⟩
  have q1 : a ≤ mR R C kd ln pr pc := mnI_ge (by have := h4 0 (by omega) ⟨by omega, by omega⟩; omega) (fun k hk hkc => (h4 k (by omega) (by simpa using hkc)).1)
  have q2 : xR R C kd ln pr pc ≤ b := mxI_le (by have := h4 0 (by omega) ⟨by omega, by omega⟩; omega) (fun k hk hkc => (h4 k (by omega) (by simpa using hkc)).2.1)
  have q3 : a' ≤ mC R C kd ln pr pc := mnI_ge (by have := h4 0 (by omega) ⟨by omega, by omega⟩; omega) (fun k hk hkc => (h4 k (by omega) (by simpa using hkc)).2.2.1)
  have q4 : xC R C kd ln pr pc ≤ b' := mxI_le (by have := h4 0 (by omega) ⟨by omega, by omega⟩; omega) (fun k hk hkc => (h4 k (by omega) (by simpa using hkc)).2.2.2)
  exact ⟨key, by omega, by omega, by omega, by omega⟩
theorem f_same (hB : BW R C br bc pr pc ph) (hl : fLn br bc kd ln) {k j : Nat} (hk : k < 144) (hkc : isC R C k) (hj : j < 144) (hjc : isC R C j) : (12 * fPr R C kd ln pr pc j + fPc R C kd ln pr pc j = 12 * fPr R C kd ln pr pc k + fPc R C kd ln pr pc k) ↔ nR kd ln pr pc j = nR kd ln pr pc k ∧ nC kd ln pr pc j = nC kd ln pr pc k := by
  obtain ⟨⟨b1, b2⟩, ⟨b3, b4⟩, ⟨b5, b6⟩, ⟨b7, b8⟩, -⟩ := id hB
  obtain ⟨h1, h2, h3, h4, h5⟩ := f_bds hB hl
  have e1 := h1 k hk hkc
  have e2 := h1 j hj hjc
  unfold fPr fPc
  omega
theorem cntP_split (n : Nat) (P Q : Nat → Bool) : cntP n P = cntP n (fun k => P k && (Q k == true)) + cntP n (fun k => P k && (Q k == false)) := by
  induction n with
  | zero => rfl
  | succ n ih =>
    simp only [cntP]
    rw [ih]
    have e1 : P n = true ∨ P n = false := by cases P n <;> simp
    have e2 : Q n = true ∨ Q n = false := by cases Q n <;> simp
    rcases e1 with e1 | e1 <;> rcases e2 with e2 | e2 <;> simp [e1, e2] <;> omega
theorem f_siz (hB : BW R C br bc pr pc ph) (hl : fLn br bc kd ln) {k : Nat} (hk : k < 144) (hkc : isC R C k) : siz R C (fPr R C kd ln pr pc) (fPc R C kd ln pr pc) (12 * fPr R C kd ln pr pc k + fPc R C kd ln pr pc k) = cmeB R C kd ln pr pc true k + cmeB R C kd ln pr pc false k := by
  unfold siz cmeB
  rw [← cntP_split]
  apply cntP_congr
  intro j hj
  by_cases hjc : isC R C j
  · simp only [hjc, true_and, f_same hB hl hk hkc hj hjc]
  · simp [hjc]
theorem mxP_ge {n : Nat} {P : Nat → Bool} {f : Nat → Nat} {k : Nat} (hk : k < n) (hP : P k = true) : f k ≤ mxP n P f := by
  induction n with
  | zero => omega
  | succ n ih =>
    simp only [mxP]
    by_cases h : k = n
    · subst h; rw [if_pos hP]; omega
    · have := ih (by omega)
      split <;> omega
theorem mxP_le {n : Nat} {P : Nat → Bool} {f : Nat → Nat} {b : Nat} (h : ∀ k, k < n → P k = true → f k ≤ b) : mxP n P f ≤ b := by
  induction n with
  | zero => simp [mxP]
  | succ n ih =>
    have := ih (fun k hk => h k (by omega))
    simp only [mxP]
    split
    · have := h n (by omega) (by assumption)
      omega
    · exact this
theorem f_BW (hB : BW R C br bc pr pc ph) (hl : fLn br bc kd ln) {how : Nat} (hh : how < 2) (ht : thk R C kd ln pr pc (12 * R) ≤ 24) : BW R C (fBr R C kd ln pr pc) (fBc R C kd ln pr pc) (fPr R C kd ln pr pc) (fPc R C kd ln pr pc) (fPh R C kd ln how pr pc ph) := by
  obtain ⟨⟨b1, b2⟩, ⟨b3, b4⟩, ⟨b5, b6⟩, ⟨b7, b8⟩, b9, b10, b11⟩ := id hB
  obtain ⟨h1, h2, h3, h4, h5⟩ := f_bds hB hl
  have hth : ∀ k, k < 144 → isC R C k → cmeB R C kd ln pr pc true k + cmeB R C kd ln pr pc false k ≤ 24 := fun k hk hkc =>
    Nat.le_trans (mxP_ge (P := fun k => decide (isC R C k)) (f := fun k => cmeB R C kd ln pr pc true k + cmeB R C kd ln pr pc false k) (isC_lt hkc) (by simpa using hkc)) ht
  have hhi : ∀ k, k < 144 → isC R C k → 0 ≤ nH R C kd ln how pr pc ph k ∧ nH R C kd ln how pr pc ph k < cmeB R C kd ln pr pc true k + cmeB R C kd ln pr pc false k ∧ (mvB kd ln (pr k) (pc k) = true → ph k < cmeB R C kd ln pr pc true k) ∧ (mvB kd ln (pr k) (pc k) = false → ph k < cmeB R C kd ln pr pc false k) := fun k hk hkc => by
    have g := (b9 k hk hkc).2.2
    unfold nH
    cases hm : mvB kd ln (pr k) (pc k) with
    | true =>
      have := cme_tt hB hl hk hkc hm
      rw [if_pos rfl]
      refine ⟨?_, ?_, fun _ => by omega, fun q => by cases q⟩ <;> split <;> omega
    | false =>
      have := cme_ff hB hl hk hkc hm
      rw [if_neg (by simp)]
      refine ⟨?_, ?_, fun q => (by cases q), fun _ => by omega⟩ <;> split <;> omega
  refine ⟨⟨b1, b2⟩, ⟨b3, b4⟩, by unfold fBr; omega, by unfold fBc; omega, fun k hk hkc => ?_, fun p => ?_, fun k j hk hj hkc hjc e1 e2 e3 => ?_⟩
  · rw [f_siz hB hl hk hkc]
    have e := h1 k hk hkc
    have e' := hhi k hk hkc
    unfold fPr fPc fBr fBc fPh
    refine ⟨by omega, by omega, by omega⟩
  · by_cases hp : 0 < siz R C (fPr R C kd ln pr pc) (fPc R C kd ln pr pc) p
    · obtain ⟨k, hk, hq⟩ := cntP_ex hp
      rw [decide_eq_true_eq] at hq
      rw [← hq.2, f_siz hB hl hk hq.1]
      exact hth k hk hq.1
    · omega
  · have hs := (f_same hB hl (k := k) (j := j) hk hkc hj hjc).1 (by omega)
    have c1 : ∀ b, cmeB R C kd ln pr pc b j = cmeB R C kd ln pr pc b k := fun b => by
      unfold cmeB
      rw [hs.1, hs.2]
    have k1 := hhi k hk hkc
    have k2 := hhi j hj hjc
    have e3' : nH R C kd ln how pr pc ph k = nH R C kd ln how pr pc ph j := by unfold fPh at e3; omega
    have hsame : mvB kd ln (pr k) (pc k) = mvB kd ln (pr j) (pc j) → pr k = pr j ∧ pc k = pc j := fun q => by
      obtain ⟨s1, s2⟩ := hs
      unfold nR fRo at s1
      unfold nC fCo at s2
      rw [← q] at s1 s2
      unfold fLn at hl
      rcases hl with ⟨rfl, -⟩ | ⟨rfl, -⟩ | ⟨rfl, -⟩ <;> cases hm : mvB _ ln (pr k) (pc k) <;> rw [hm] at s1 s2 <;> simp at s1 s2 <;> omega
    unfold nH at e3'
    rw [c1 true, c1 false] at *
    cases hm : mvB kd ln (pr k) (pc k) with
    | true =>
      cases hn : mvB kd ln (pr j) (pc j) with
      | true =>
        obtain ⟨s1, s2⟩ := hsame (by rw [hm, hn])
        rw [hm, hn] at e3'
        simp only [if_true] at e3'
        exact b11 k j hk hj hkc hjc s1 s2 (by omega)
      | false =>
        rw [hm, hn] at e3'
        have k3 := k1.2.2.1 hm
        have k4 := k2.2.2.2 hn
        simp only [if_true, Bool.false_eq_true, if_false] at e3'
        split at e3' <;> omega
    | false =>
      cases hn : mvB kd ln (pr j) (pc j) with
      | true =>
        rw [hm, hn] at e3'
        have k3 := k1.2.2.2 hm
        have k4 := k2.2.2.1 hn
        simp only [if_true, Bool.false_eq_true, if_false] at e3'
        split at e3' <;> omega
      | false =>
        obtain ⟨s1, s2⟩ := hsame (by rw [hm, hn])
        rw [hm, hn] at e3'
        simp only [Bool.false_eq_true, if_false] at e3'
        exact b11 k j hk hj hkc hjc s1 s2 (by split at e3' <;> omega)
end FP
