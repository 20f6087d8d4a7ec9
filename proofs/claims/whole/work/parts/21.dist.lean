/-! as many places as cells: each height of a stack is taken -/
def rmP (P : Nat → Bool) (k0 : Nat) : Nat → Bool := fun k => P k && decide (k ≠ k0)
theorem cntP_rm {n k0 : Nat} {P : Nat → Bool} (hk : k0 < n) (hP : P k0 = true) : cntP n P = cntP n (rmP P k0) + 1 := by
  induction n with
  | zero => omega
  | succ n ih =>
    simp only [cntP]
    by_cases h : k0 = n
    · subst h
      have : cntP k0 (rmP P k0) = cntP k0 P := cntP_congr (fun k hk => by simp [rmP]; intro _; omega)
      rw [this, if_pos hP, if_neg (by simp [rmP])]
    · rw [ih (by omega)]
      have : rmP P k0 n = P n := by simp [rmP]; intro _; omega
      rw [this]
      omega
theorem cntP_zero {n : Nat} {P : Nat → Bool} (h : ∀ k, k < n → P k = false) : cntP n P = 0 := by
  rw [cntP_cut (a := 0) (b := n) (by omega) (fun k _ hk => h k hk)]
  rfl
theorem cntP_pos {n k : Nat} {P : Nat → Bool} (hk : k < n) (hP : P k = true) : 0 < cntP n P := by
  rw [cntP_rm hk hP]
  omega
theorem cntP_ex {n : Nat} {P : Nat → Bool} (h : 0 < cntP n P) : ∃ k, k < n ∧ P k = true := by
  induction n with
  | zero => simp [cntP] at h
  | succ n ih =>
    by_cases hP : P n = true
    · exact ⟨n, by omega, hP⟩
    · simp only [cntP] at h
      rw [if_neg hP] at h
      obtain ⟨k, h1, h2⟩ := ih (by omega)
      exact ⟨k, by omega, h2⟩
theorem cntP_pigeon (n : Nat) : ∀ (m : Nat) (P : Nat → Bool) (f : Nat → Nat), (∀ k, k < n → P k = true → f k < m) → (∀ k j, k < n → j < n → P k = true → P j = true → f k = f j → k = j) → cntP n P ≤ m
  | 0, P, f, h1, h2 => by
    rw [cntP_zero]
    · exact Nat.le_refl 0
    intro k hk
    cases hp : P k with
    | false => rfl
    | true => exact absurd (h1 k hk hp) (by omega)
  | m + 1, P, f, h1, h2 => by
    by_cases hx : ∃ k0, k0 < n ∧ P k0 = true ∧ f k0 = m
    · obtain ⟨k0, a1, a2, a3⟩ := hx
      rw [cntP_rm a1 a2]
      have := cntP_pigeon n m (rmP P k0) f (fun k hk hp => by
        simp only [rmP, Bool.and_eq_true, decide_eq_true_eq] at hp
        have q1 := h1 k hk hp.1
        have q2 : f k ≠ m := fun q => hp.2 (h2 k k0 hk a1 hp.1 a2 (by omega))
        omega) (fun k j hk hj hp hq e => by
        simp only [rmP, Bool.and_eq_true] at hp hq
        exact h2 k j hk hj hp.1 hq.1 e)
      omega
    · have := cntP_pigeon n m P f (fun k hk hp => by
        have q1 := h1 k hk hp
        have q2 : f k ≠ m := fun q => hx ⟨k, hk, hp, q⟩
        omega) h2
      omega
theorem cntP_onto {n : Nat} {P : Nat → Bool} {f : Nat → Nat} (h1 : ∀ k, k < n → P k = true → f k < cntP n P) (h2 : ∀ k j, k < n → j < n → P k = true → P j = true → f k = f j → k = j) (h : Nat) (hh : h < cntP n P) : ∃ k, k < n ∧ P k = true ∧ f k = h := by
  apply Classical.byContradiction
  intro hx
  have hne : ∀ k, k < n → P k = true → f k ≠ h := fun k hk hp q => hx ⟨k, hk, hp, q⟩
  have := cntP_pigeon n (cntP n P - 1) P (fun k => if h < f k then f k - 1 else f k) (fun k hk hp => by
    have := h1 k hk hp
    have := hne k hk hp
    show (if h < f k then f k - 1 else f k) < _
    split <;> omega) (fun k j hk hj hp hq e => by
    have a1 := hne k hk hp
    have a2 := hne j hj hq
    replace e : (if h < f k then f k - 1 else f k) = (if h < f j then f j - 1 else f j) := e
    apply h2 k j hk hj hp hq
    split at e <;> split at e <;> omega)
  omega
/-! the graph of the cells -/
def atC (R C : Nat) (pr pc ph : Nat → Nat) (r n h : Int) (j : Nat) : Prop := j < 144 ∧ isC R C j ∧ (pr j : Int) = r ∧ (pc j : Int) = n ∧ (ph j : Int) = h
def d1 (i : Nat) : Int := if i = 2 then -1 else if i = 3 then 1 else 0
def d2 (i : Nat) : Int := if i = 4 then -1 else if i = 5 then 1 else 0
def d3 (i : Nat) : Int := if i = 0 then -1 else if i = 1 then 1 else 0
def wt (L S : Int) (i : Nat) : Int := if i < 2 then L else S
def edg (R C : Nat) (pr pc ph : Nat → Nat) (k i j : Nat) : Prop := atC R C pr pc ph (pr k + d1 i) (pc k + d2 i) (ph k + d3 i) j
def srcC (R C br bc : Nat) (pr pc ph : Nat → Nat) (sh : Nat → Nat → Bool) (j : Nat) : Bool := !sh (pr j) (pc j) && (decide (ph j = 0 ∨ ph j + 1 = siz R C pr pc (12 * pr j + pc j)) || bare R C br bc pr pc (pr j) (pc j))
def Dist (R C br bc : Nat) (pr pc ph : Nat → Nat) (sh : Nat → Nat → Bool) (L S : Int) (d : Nat → Int) : Prop :=
  (∀ j, j < 144 → isC R C j → 1 ≤ d j ∧ d j ≤ 1000000) ∧
  (∀ j, j < 144 → isC R C j → srcC R C br bc pr pc ph sh j = true → d j = 1) ∧
  (∀ k i j, k < 144 → isC R C k → i < 6 → edg R C pr pc ph k i j → sh (pr j) (pc j) = false → d j ≤ d k + wt L S i) ∧
  (∀ j, j < 144 → isC R C j → d j < 1000000 → srcC R C br bc pr pc ph sh j = true ∨ (sh (pr j) (pc j) = false ∧ ∃ k i, k < 144 ∧ isC R C k ∧ i < 6 ∧ edg R C pr pc ph k i j ∧ d k + wt L S i ≤ d j))
theorem wt_pos {L S : Int} (hL : 1 ≤ L) (hS : 1 ≤ S) (i : Nat) : 1 ≤ wt L S i := by unfold wt; split <;> omega
/-- what is relaxed is nowhere above what is supported -/
theorem Dist_le {R C br bc : Nat} {pr pc ph : Nat → Nat} {sh : Nat → Nat → Bool} {L S : Int} (hL : 1 ≤ L) (hS : 1 ≤ S) {d e : Nat → Int} (h1 : ∀ j, j < 144 → isC R C j → d j ≤ 1000000) (h2 : ∀ j, j < 144 → isC R C j → srcC R C br bc pr pc ph sh j = true → d j = 1) (h3 : ∀ k i j, k < 144 → isC R C k → i < 6 → edg R C pr pc ph k i j → sh (pr j) (pc j) = false → d j ≤ d k + wt L S i)
    (e1 : ∀ j, j < 144 → isC R C j → 1 ≤ e j) (e4 : ∀ j, j < 144 → isC R C j → e j < 1000000 → srcC R C br bc pr pc ph sh j = true ∨ (sh (pr j) (pc j) = false ∧ ∃ k i, k < 144 ∧ isC R C k ∧ i < 6 ∧ edg R C pr pc ph k i j ∧ e k + wt L S i ≤ e j)) : ∀ j, j < 144 → isC R C j → d j ≤ e j := by
  have key : ∀ (m : Nat) (j : Nat), (e j).toNat ≤ m → j < 144 → isC R C j → d j ≤ e j := by
    intro m
    induction m with
    | zero =>
      intro j hm hj hc
      have := e1 j hj hc
      omega
    | succ m ih =>
      intro j hm hj hc
      by_cases hf : e j < 1000000
      · rcases e4 j hj hc hf with hs | ⟨hs, k, i, hk, hkc, hi, he, hle⟩
        · rw [h2 j hj hc hs]
          exact e1 j hj hc
        · have hw := wt_pos hL hS i
          have hk1 := e1 k hk hkc
          have := ih k (by omega) hk hkc
          have := h3 k i j hk hkc hi he hs
          omega
      · have := h1 j hj hc
        omega
  exact fun j hj hc => key _ j (Nat.le_refl _) hj hc
theorem Dist_uni {R C br bc : Nat} {pr pc ph : Nat → Nat} {sh : Nat → Nat → Bool} {L S : Int} (hL : 1 ≤ L) (hS : 1 ≤ S) {d e : Nat → Int} (hd : Dist R C br bc pr pc ph sh L S d) (he : Dist R C br bc pr pc ph sh L S e) : ∀ j, j < 144 → isC R C j → d j = e j := by
  intro j hj hc
  have a := Dist_le hL hS (fun j hj hc => (hd.1 j hj hc).2) hd.2.1 hd.2.2.1 (fun j hj hc => (he.1 j hj hc).1) he.2.2.2 j hj hc
  have b := Dist_le hL hS (fun j hj hc => (he.1 j hj hc).2) he.2.1 he.2.2.1 (fun j hj hc => (hd.1 j hj hc).1) hd.2.2.2 j hj hc
  omega
section GR
variable {R C br bc : Nat} {pr pc ph : Nat → Nat}
theorem at_in (hB : BW R C br bc pr pc ph) {r n h : Int} {j : Nat} (ha : atC R C pr pc ph r n h j) : 0 ≤ h ∧ h < szA R C br bc pr pc r n ∧ 0 ≤ r ∧ r < br ∧ 0 ≤ n ∧ n < bc := by
  obtain ⟨h1, h2, rfl, rfl, rfl⟩ := ha
  obtain ⟨-, -, -, -, b9, -⟩ := hB
  obtain ⟨g1, g2, g3⟩ := b9 j h1 h2
  have : szA R C br bc pr pc (pr j) (pc j) = siz R C pr pc (12 * pr j + pc j) := by
    unfold szA
    rw [if_pos (by omega)]
    simp
  omega
theorem at_un (hB : BW R C br bc pr pc ph) {r n h : Int} {j j' : Nat} (ha : atC R C pr pc ph r n h j) (hb : atC R C pr pc ph r n h j') : j = j' := by
  obtain ⟨h1, h2, h3, h4, h5⟩ := ha
  obtain ⟨g1, g2, g3, g4, g5⟩ := hb
  exact hB.2.2.2.2.2.2 j j' h1 g1 h2 g2 (by omega) (by omega) (by omega)
theorem at_ex (hB : BW R C br bc pr pc ph) {r n h : Int} (h0 : 0 ≤ h) (h1 : h < szA R C br bc pr pc r n) : ∃ j, atC R C pr pc ph r n h j := by
  unfold szA at h1
  split at h1
  · rename_i hq
    obtain ⟨⟨b1, b2⟩, ⟨b3, b4⟩, ⟨b5, b6⟩, ⟨b7, b8⟩, b9, b10, b11⟩ := id hB
    have hp : ∀ k, k < 144 → decide (isC R C k ∧ 12 * pr k + pc k = 12 * r.toNat + n.toNat) = true → pr k = r.toNat ∧ pc k = n.toNat := fun k hk hp => by
      rw [decide_eq_true_eq] at hp
      obtain ⟨g1, g2, -⟩ := b9 k hk hp.1
      omega
    obtain ⟨k, k1, k2, k3⟩ := cntP_onto (n := 144) (P := fun k => decide (isC R C k ∧ 12 * pr k + pc k = 12 * r.toNat + n.toNat)) (f := ph) (fun k hk hp => by
      rw [decide_eq_true_eq] at hp
      have := (b9 k hk hp.1).2.2
      rw [hp.2] at this
      exact this) (fun k j hk hj hp1 hp2 e => by
      have q1 := hp k hk hp1
      have q2 := hp j hj hp2
      rw [decide_eq_true_eq] at hp1 hp2
      exact b11 k j hk hj hp1.1 hp2.1 (by omega) (by omega) e) h.toNat (by
      have : cntP 144 (fun k => decide (isC R C k ∧ 12 * pr k + pc k = 12 * r.toNat + n.toNat)) = siz R C pr pc (12 * r.toNat + n.toNat) := rfl
      omega)
    have q := hp k k1 k2
    rw [decide_eq_true_eq] at k2
    exact ⟨k, k1, k2.1, by omega, by omega, by omega⟩
  · omega
end GR
