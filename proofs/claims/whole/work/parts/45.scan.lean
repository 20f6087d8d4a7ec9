/-! going through a list of ways: the least difference, and the first that has none -/
abbrev Bq : Type := Nat × Nat × Nat × Nat
abbrev Wy : Type := List (Nat × Nat × Nat) × Option Bq
def gsc : Nat → List (Nat × Wy) → Nat × Option Wy
  | l, [] => (l, none)
  | l, p :: t => if l = 0 then (0, none) else ((gsc (min l p.1) t).1, (if p.1 = 0 then some p.2 else none).or (gsc (min l p.1) t).2)
theorem gsc_nil (l : Nat) : gsc l [] = (l, none) := rfl
theorem gsc_zero (L : List (Nat × Wy)) : gsc 0 L = (0, none) := by cases L <;> simp [gsc]
theorem gsc_cons {l : Nat} (h : 0 < l) (p : Nat × Wy) (t : List (Nat × Wy)) : gsc l (p :: t) = ((gsc (min l p.1) t).1, (if p.1 = 0 then some p.2 else none).or (gsc (min l p.1) t).2) := by
  rw [gsc, if_neg (by omega)]
theorem gsc_app : ∀ (A B : List (Nat × Wy)) (l : Nat), gsc l (A ++ B) = ((gsc (gsc l A).1 B).1, (gsc l A).2.or (gsc (gsc l A).1 B).2) := by
  intro A B
  induction A with
  | nil => intro l; simp [gsc]
  | cons p t ih =>
    intro l
    by_cases hl : l = 0
    · subst hl
      rw [gsc_zero, gsc_zero, gsc_zero]
      rfl
    · rw [List.cons_append, gsc_cons (by omega), gsc_cons (by omega), ih]
      simp [Option.or_assoc]
theorem gsc_le : ∀ (A : List (Nat × Wy)) (l : Nat), (gsc l A).1 ≤ l ∧ ∀ p, p ∈ A → (gsc l A).1 ≤ p.1 := by
  intro A
  induction A with
  | nil => intro l; simp [gsc]
  | cons p t ih =>
    intro l
    by_cases hl : l = 0
    · subst hl
      rw [gsc_zero]
      simp
    · rw [gsc_cons (by omega)]
      obtain ⟨h1, h2⟩ := ih (min l p.1)
      refine ⟨by show (gsc (min l p.1) t).1 ≤ l; omega, fun q hq => ?_⟩
      rcases List.mem_cons.mp hq with rfl | hq
      · show (gsc (min l q.1) t).1 ≤ q.1
        omega
      · exact h2 q hq
theorem gsc_skip : ∀ (A : List (Nat × Wy)) (l : Nat), (∀ p, p ∈ A → l ≤ p.1) → gsc l A = (l, none) := by
  intro A
  induction A with
  | nil => intro l _; rfl
  | cons p t ih =>
    intro l h
    by_cases hl : l = 0
    · subst hl
      rw [gsc_zero]
    · have := h p (List.mem_cons_self ..)
      rw [gsc_cons (by omega), show min l p.1 = l by omega, ih l (fun q hq => h q (List.mem_cons_of_mem _ hq)), if_neg (by omega)]
      rfl
/-- a way is found just where nothing is left -/
theorem gsc_some : ∀ (A : List (Nat × Wy)) (l : Nat), 0 < l → ((gsc l A).1 = 0 ↔ (gsc l A).2.isSome = true) ∧ ∀ w, (gsc l A).2 = some w → (0, w) ∈ A := by
  intro A
  induction A with
  | nil => intro l hl; simp [gsc]; omega
  | cons p t ih =>
    intro l hl
    rw [gsc_cons hl]
    by_cases hp : p.1 = 0
    · rw [hp, Nat.min_zero, gsc_zero, if_pos rfl]
      refine ⟨by simp, fun w hw => ?_⟩
      have : p.2 = w := by simpa using hw
      rw [← this, ← hp]
      exact List.mem_cons_self ..
    · obtain ⟨h1, h2⟩ := ih (min l p.1) (by omega)
      rw [if_neg hp]
      refine ⟨by simpa using h1, fun w hw => ?_⟩
      exact List.mem_cons_of_mem _ (h2 w (by simpa using hw))
theorem gsc_found {A : List (Nat × Wy)} {l : Nat} {w : Wy} (h : (gsc l A).2 = some w) : (gsc l A).1 = 0 := by
  rcases Nat.eq_zero_or_pos l with rfl | hl
  · rw [gsc_zero]
  · exact ((gsc_some A l hl).1).mpr (by rw [h]; rfl)
def geq (A B : List (Nat × Wy)) : Prop := ∀ l, gsc l A = gsc l B
theorem geq.rfl' (A : List (Nat × Wy)) : geq A A := fun _ => rfl
theorem geq.app {A B X Y : List (Nat × Wy)} (h : geq A B) (g : geq X Y) : geq (A ++ X) (B ++ Y) := fun l => by
  rw [gsc_app, gsc_app, h l, g _]
theorem geq.tr {A B D : List (Nat × Wy)} (h : geq A B) (g : geq B D) : geq A D := fun l => (h l).trans (g l)
theorem geq.dup {A B X Y : List (Nat × Wy)} (h : ∀ p, p ∈ B → ∃ q, q ∈ A ∧ p.1 = q.1) (g : geq X Y) : geq (A ++ (B ++ X)) (A ++ Y) := fun l => by
  rw [gsc_app, gsc_app B X, gsc_skip B (gsc l A).1 (fun p hp => by
    obtain ⟨q, hq, e⟩ := h p hp
    rw [e]
    exact (gsc_le A l).2 q hq), gsc_app A Y, g _]
  simp
/-! ranges -/
def rng (a n : Nat) : List Nat := List.range' a (n - a)
theorem rng_lt {a n : Nat} (h : a < n) : rng a n = a :: rng (a + 1) n := by
  unfold rng
  rw [show n - a = (n - (a + 1)) + 1 by omega, List.range'_succ]
theorem rng_ge {a n : Nat} (h : n ≤ a) : rng a n = [] := by
  unfold rng
  rw [show n - a = 0 by omega]
  rfl
theorem rng_mem {a n x : Nat} : x ∈ rng a n ↔ a ≤ x ∧ x < n := by
  unfold rng
  rw [List.mem_range'_1]
  omega
/-! ways: how many cells differ; the boards of a bundle -/
def noB (_ _ : Nat) : Bool := false
def dif (R C m : Nat) (pr pc : Nat → Nat) (sh : Nat → Nat → Bool) : Nat := cntP 144 (fun k => decide (isC R C k) && ((!sh (pr k) (pc k)) != m.testBit (ix C k)))
theorem dif_no (R C m : Nat) (pr pc pr' pc' : Nat → Nat) : dif R C m pr pc noB = dif R C m pr' pc' noB := rfl
def bd4 (R C m : Nat) (pr pc : Nat → Nat) (fs : List (Nat × Nat × Nat)) (t b l r : Nat) : Nat × Wy := (dif R C m pr pc (inR t b l r), (fs, some (t, b, l, r)))
def bd3 (R C m bc : Nat) (pr pc : Nat → Nat) (fs : List (Nat × Nat × Nat)) (t b l r : Nat) : List (Nat × Wy) := (rng r bc).map (bd4 R C m pr pc fs t b l)
def bd2 (R C m bc : Nat) (pr pc : Nat → Nat) (fs : List (Nat × Nat × Nat)) (t b l : Nat) : List (Nat × Wy) := (rng l bc).flatMap (fun x => bd3 R C m bc pr pc fs t b x x)
def bd1 (R C m br bc : Nat) (pr pc : Nat → Nat) (fs : List (Nat × Nat × Nat)) (t b : Nat) : List (Nat × Wy) := (rng b br).flatMap (fun x => bd2 R C m bc pr pc fs t x 0)
def bd0 (R C m br bc : Nat) (pr pc : Nat → Nat) (fs : List (Nat × Nat × Nat)) (t : Nat) : List (Nat × Wy) := (rng t br).flatMap (fun x => bd1 R C m br bc pr pc fs x x)
theorem bd3_lt {R C m bc : Nat} {pr pc : Nat → Nat} {fs : List (Nat × Nat × Nat)} {t b l r : Nat} (h : r < bc) : bd3 R C m bc pr pc fs t b l r = bd4 R C m pr pc fs t b l r :: bd3 R C m bc pr pc fs t b l (r + 1) := by
  unfold bd3; rw [rng_lt h]; rfl
theorem bd3_ge {R C m bc : Nat} {pr pc : Nat → Nat} {fs : List (Nat × Nat × Nat)} {t b l r : Nat} (h : bc ≤ r) : bd3 R C m bc pr pc fs t b l r = [] := by
  unfold bd3; rw [rng_ge h]; rfl
theorem bd2_lt {R C m bc : Nat} {pr pc : Nat → Nat} {fs : List (Nat × Nat × Nat)} {t b l : Nat} (h : l < bc) : bd2 R C m bc pr pc fs t b l = bd3 R C m bc pr pc fs t b l l ++ bd2 R C m bc pr pc fs t b (l + 1) := by
  unfold bd2; rw [rng_lt h]; rfl
theorem bd2_ge {R C m bc : Nat} {pr pc : Nat → Nat} {fs : List (Nat × Nat × Nat)} {t b l : Nat} (h : bc ≤ l) : bd2 R C m bc pr pc fs t b l = [] := by
  unfold bd2; rw [rng_ge h]; rfl
theorem bd1_lt {R C m br bc : Nat} {pr pc : Nat → Nat} {fs : List (Nat × Nat × Nat)} {t b : Nat} (h : b < br) : bd1 R C m br bc pr pc fs t b = bd2 R C m bc pr pc fs t b 0 ++ bd1 R C m br bc pr pc fs t (b + 1) := by
  unfold bd1; rw [rng_lt h]; rfl
theorem bd1_ge {R C m br bc : Nat} {pr pc : Nat → Nat} {fs : List (Nat × Nat × Nat)} {t b : Nat} (h : br ≤ b) : bd1 R C m br bc pr pc fs t b = [] := by
  unfold bd1; rw [rng_ge h]; rfl
theorem bd0_lt {R C m br bc : Nat} {pr pc : Nat → Nat} {fs : List (Nat × Nat × Nat)} {t : Nat} (h : t < br) : bd0 R C m br bc pr pc fs t = bd1 R C m br bc pr pc fs t t ++ bd0 R C m br bc pr pc fs (t + 1) := by
  unfold bd0; rw [rng_lt h]; rfl
theorem bd0_ge {R C m br bc : Nat} {pr pc : Nat → Nat} {fs : List (Nat × Nat × Nat)} {t : Nat} (h : br ≤ t) : bd0 R C m br bc pr pc fs t = [] := by
  unfold bd0; rw [rng_ge h]; rfl
theorem bd0_mem {R C m br bc : Nat} {pr pc : Nat → Nat} {fs : List (Nat × Nat × Nat)} {t : Nat} {p : Nat × Wy} : p ∈ bd0 R C m br bc pr pc fs t ↔ ∃ x y l r, t ≤ x ∧ x < br ∧ x ≤ y ∧ y < br ∧ l < bc ∧ l ≤ r ∧ r < bc ∧ p = bd4 R C m pr pc fs x y l r := by
  unfold bd0 bd1 bd2 bd3
  simp only [List.mem_flatMap, List.mem_map, rng_mem]
  constructor
  · rintro ⟨x, hx, y, hy, l, hl, r, hr, e⟩
    exact ⟨x, y, l, r, hx.1, hx.2, hy.1, hy.2, hl.2, hr.1, hr.2, e.symm⟩
  · rintro ⟨x, y, l, r, h1, h2, h3, h4, h5, h6, h7, e⟩
    exact ⟨x, ⟨h1, h2⟩, y, ⟨h3, h4⟩, l, ⟨by omega, h5⟩, r, ⟨h6, h7⟩, e.symm⟩
/-- the boards of a bundle tell the same whatever the folds are called -/
theorem bd0_dup {R C m br bc : Nat} {pr pc : Nat → Nat} (fs gs : List (Nat × Nat × Nat)) {p : Nat × Wy} (hp : p ∈ bd0 R C m br bc pr pc gs 0) : ∃ q, q ∈ bd0 R C m br bc pr pc fs 0 ∧ p.1 = q.1 := by
  obtain ⟨x, y, l, r, h1, h2, h3, h4, h5, h6, h7, e⟩ := bd0_mem.mp hp
  exact ⟨bd4 R C m pr pc fs x y l r, bd0_mem.mpr ⟨x, y, l, r, h1, h2, h3, h4, h5, h6, h7, rfl⟩, by rw [e]; rfl⟩
/-! ways by folds: a bundle is its rows, columns, and where the cells lie -/
abbrev Bn : Type := Nat × Nat × (Nat → Nat) × (Nat → Nat)
def opn (R C : Nat) : Bn := (R, C, oR, oC)
def fld (R C kd ln : Nat) (B : Bn) : Bn := (fBr R C kd ln B.2.2.1 B.2.2.2, fBc R C kd ln B.2.2.1 B.2.2.2, fPr R C kd ln B.2.2.1 B.2.2.2, fPc R C kd ln B.2.2.1 B.2.2.2)
def fLnB (br bc kd ln : Nat) : Bool := decide ((kd = 0 ∧ 1 ≤ ln ∧ ln < bc) ∨ (kd = 1 ∧ 1 ≤ ln ∧ ln < br) ∨ (kd = 2 ∧ ln = 0 ∧ br = bc ∧ 1 < br))
theorem fLnB_iff {br bc kd ln : Nat} : fLnB br bc kd ln = true ↔ fLn br bc kd ln := by unfold fLnB fLn; simp
def wyB (R C m : Nat) (fs : List (Nat × Nat × Nat)) (bo : Bool) (B : Bn) : List (Nat × Wy) := if bo then bd0 R C m B.1 B.2.1 B.2.2.1 B.2.2.2 fs 0 else [(dif R C m B.2.2.1 B.2.2.2 noB, (fs, none))]
def wy1 (R C m : Nat) (bo : Bool) (f : Nat × Nat × Nat) : List (Nat × Wy) := if fLnB R C f.1 f.2.1 then wyB R C m [f] bo (fld R C f.1 f.2.1 (opn R C)) else []
def wy2 (R C m : Nat) (bo : Bool) (f g : Nat × Nat × Nat) : List (Nat × Wy) := if fLnB R C f.1 f.2.1 then (if fLnB (fld R C f.1 f.2.1 (opn R C)).1 (fld R C f.1 f.2.1 (opn R C)).2.1 g.1 g.2.1 then wyB R C m [f, g] bo (fld R C g.1 g.2.1 (fld R C f.1 f.2.1 (opn R C))) else []) else []
def allH (kd ln h : Nat) : List (Nat × Nat × Nat) := (rng h 2).map (fun x => (kd, ln, x))
def lo (kd : Nat) : Nat := if kd = 2 then 0 else 1
def hi (kd : Nat) : Nat := if kd = 2 then 1 else 4
def allN (kd ln : Nat) : List (Nat × Nat × Nat) := (rng ln (hi kd)).flatMap (fun x => allH kd x 0)
def allF (kd : Nat) : List (Nat × Nat × Nat) := (rng kd 3).flatMap (fun x => allN x (lo x))
def vlF (v : Nat) : List (Nat × Nat × Nat) := (rng v 12).map (fun x => (x / 4, x % 4, 0))
theorem allF0 : allF 0 = [(0, 1, 0), (0, 1, 1), (0, 2, 0), (0, 2, 1), (0, 3, 0), (0, 3, 1), (1, 1, 0), (1, 1, 1), (1, 2, 0), (1, 2, 1), (1, 3, 0), (1, 3, 1), (2, 0, 0), (2, 0, 1)] := by decide
theorem vlF0 : vlF 0 = [(0, 0, 0), (0, 1, 0), (0, 2, 0), (0, 3, 0), (1, 0, 0), (1, 1, 0), (1, 2, 0), (1, 3, 0), (2, 0, 0), (2, 1, 0), (2, 2, 0), (2, 3, 0)] := by decide
theorem fl_no {br bc : Nat} : fLnB br bc 0 0 = false ∧ fLnB br bc 1 0 = false ∧ fLnB br bc 2 1 = false ∧ fLnB br bc 2 2 = false ∧ fLnB br bc 2 3 = false := by
  unfold fLnB
  refine ⟨?_, ?_, ?_, ?_, ?_⟩ <;> simp
/-- of two folds at a line the second one shows nothing new -/
theorem all_vl (F G : Nat × Nat × Nat → List (Nat × Wy)) (hd : ∀ kd ln p, p ∈ F (kd, ln, 1) → ∃ q, q ∈ F (kd, ln, 0) ∧ p.1 = q.1) (he : ∀ kd ln, geq (F (kd, ln, 0)) (G (kd, ln, 0))) (hn : G (0, 0, 0) = [] ∧ G (1, 0, 0) = [] ∧ G (2, 1, 0) = [] ∧ G (2, 2, 0) = [] ∧ G (2, 3, 0) = []) : geq ((allF 0).flatMap F) ((vlF 0).flatMap G) := by
  obtain ⟨n1, n2, n3, n4, n5⟩ := hn
  rw [allF0, vlF0]
  simp only [List.flatMap_cons, List.flatMap_nil, n1, n2, n3, n4, n5, List.nil_append]
  have st : ∀ kd ln X Y, geq X Y → geq (F (kd, ln, 0) ++ (F (kd, ln, 1) ++ X)) (G (kd, ln, 0) ++ Y) := fun kd ln X Y h => geq.tr (geq.dup (hd kd ln) h) ((he kd ln).app (geq.rfl' Y))
  exact st _ _ _ _ (st _ _ _ _ (st _ _ _ _ (st _ _ _ _ (st _ _ _ _ (st _ _ _ _ (st _ _ _ _ (geq.rfl' _)))))))
theorem wy1_dup (R C m kd ln : Nat) (p : Nat × Wy) (hp : p ∈ wy1 R C m true (kd, ln, 1)) : ∃ q, q ∈ wy1 R C m true (kd, ln, 0) ∧ p.1 = q.1 := by
  unfold wy1 wyB at *
  simp only [if_true] at *
  by_cases h : fLnB R C kd ln = true
  · rw [if_pos h] at *
    exact bd0_dup _ _ hp
  · rw [if_neg h] at hp
    simp at hp
theorem wy2_dup (R C m : Nat) (f : Nat × Nat × Nat) (kd ln : Nat) (p : Nat × Wy) (hp : p ∈ wy2 R C m true f (kd, ln, 1)) : ∃ q, q ∈ wy2 R C m true f (kd, ln, 0) ∧ p.1 = q.1 := by
  unfold wy2 wyB at *
  simp only [if_true] at *
  by_cases h : fLnB R C f.1 f.2.1 = true
  · rw [if_pos h] at *
    by_cases h2 : fLnB (fld R C f.1 f.2.1 (opn R C)).1 (fld R C f.1 f.2.1 (opn R C)).2.1 kd ln = true
    · rw [if_pos h2] at *
      exact bd0_dup _ _ hp
    · rw [if_neg h2] at hp
      simp at hp
  · rw [if_neg h] at hp
    simp at hp
theorem wy2_dup1 (R C m kd ln : Nat) (g : Nat × Nat × Nat) (p : Nat × Wy) (hp : p ∈ wy2 R C m true (kd, ln, 1) g) : ∃ q, q ∈ wy2 R C m true (kd, ln, 0) g ∧ p.1 = q.1 := by
  unfold wy2 wyB at *
  simp only [if_true] at *
  by_cases h : fLnB R C kd ln = true
  · rw [if_pos h] at *
    by_cases h2 : fLnB (fld R C kd ln (opn R C)).1 (fld R C kd ln (opn R C)).2.1 g.1 g.2.1 = true
    · rw [if_pos h2] at *
      exact bd0_dup _ _ hp
    · rw [if_neg h2] at hp
      simp at hp
  · rw [if_neg h] at hp
    simp at hp
/-- the reference's ways of so many folds, and the class's -/
def mdl (R C m : Nat) (many : Nat) (bo : Bool) : List (Nat × Wy) := if many = 0 then wyB R C m [] bo (opn R C) else if many = 1 then (allF 0).flatMap (wy1 R C m bo) else (allF 0).flatMap (fun f => (allF 0).flatMap (wy2 R C m bo f))
def cl1 (R C m : Nat) : List (Nat × Wy) := (vlF 0).flatMap (wy1 R C m true)
def cl2 (R C m : Nat) : List (Nat × Wy) := (vlF 0).flatMap (fun f => (vlF 0).flatMap (wy2 R C m true f))
theorem mdl_1 (R C m : Nat) : geq (mdl R C m 1 true) (cl1 R C m) := by
  unfold mdl cl1
  rw [if_neg (by omega), if_pos rfl]
  exact all_vl _ _ (fun kd ln p hp => wy1_dup R C m kd ln p hp) (fun kd ln => geq.rfl' _) (by
    obtain ⟨a, b, c, d, e⟩ := @fl_no R C
    simp [wy1, a, b, c, d, e])
theorem mdl_2 (R C m : Nat) : geq (mdl R C m 2 true) (cl2 R C m) := by
  unfold mdl cl2
  rw [if_neg (by omega), if_neg (by omega)]
  refine all_vl (fun f => (allF 0).flatMap (wy2 R C m true f)) (fun f => (vlF 0).flatMap (wy2 R C m true f)) (fun kd ln p hp => ?_) (fun kd ln => ?_) ?_
  · obtain ⟨g, hg, hp⟩ := List.mem_flatMap.mp hp
    obtain ⟨q, hq, e⟩ := wy2_dup1 R C m kd ln g p hp
    exact ⟨q, List.mem_flatMap.mpr ⟨g, hg, hq⟩, e⟩
  · exact all_vl _ _ (fun kd' ln' p hp => wy2_dup R C m _ kd' ln' p hp) (fun kd ln => geq.rfl' _) (by
      by_cases h : fLnB R C kd ln = true
      · obtain ⟨a, b, c, d, e⟩ := @fl_no (fld R C kd ln (opn R C)).1 (fld R C kd ln (opn R C)).2.1
        simp [wy2, a, b, c, d, e]
      · simp [wy2, h])
  · obtain ⟨a, b, c, d, e⟩ := @fl_no R C
    simp [wy2, a, b, c, d, e]
/-- ways without a board all differ alike -/
theorem mdl_no (R C m many : Nat) (p : Nat × Wy) (hp : p ∈ mdl R C m many false) : p.1 = dif R C m oR oC noB := by
  have w : ∀ fs B q, q ∈ wyB R C m fs false B → q.1 = dif R C m oR oC noB := fun fs B q hq => by
    unfold wyB at hq
    simp only [Bool.false_eq_true, if_false, List.mem_singleton] at hq
    rw [hq]; rfl
  unfold mdl at hp
  split at hp
  · exact w _ _ _ hp
  · split at hp
    · obtain ⟨f, -, hp⟩ := List.mem_flatMap.mp hp
      unfold wy1 at hp
      split at hp
      · exact w _ _ _ hp
      · simp at hp
    · obtain ⟨f, -, hp⟩ := List.mem_flatMap.mp hp
      obtain ⟨g, -, hp⟩ := List.mem_flatMap.mp hp
      unfold wy2 at hp
      split at hp
      · split at hp
        · exact w _ _ _ hp
        · simp at hp
      · simp at hp
/-- both searches find the same -/
theorem ways_eq (R C m : Nat) (l : Nat) (hl : dif R C m oR oC noB ≤ l) (hl0 : 0 < l) :
    gsc l (mdl R C m 0 false ++ (mdl R C m 0 true ++ (mdl R C m 1 false ++ (mdl R C m 1 true ++ (mdl R C m 2 false ++ mdl R C m 2 true))))) =
    ((gsc (dif R C m oR oC noB) (bd0 R C m R C oR oC [] 0 ++ (cl1 R C m ++ cl2 R C m))).1, (if dif R C m oR oC noB = 0 then some (([], none) : Wy) else none).or (gsc (dif R C m oR oC noB) (bd0 R C m R C oR oC [] 0 ++ (cl1 R C m ++ cl2 R C m))).2) := by
  have e0 : mdl R C m 0 false = [(dif R C m oR oC noB, (([], none) : Wy))] := by simp [mdl, wyB, opn]
  have e1 : mdl R C m 0 true = bd0 R C m R C oR oC [] 0 := by simp [mdl, wyB, opn]
  have sk : ∀ (many x : Nat), x ≤ dif R C m oR oC noB → gsc x (mdl R C m many false) = (x, none) := fun many x hx => gsc_skip _ _ (fun p hp => by rw [mdl_no R C m many p hp]; exact hx)
  rw [e0, e1, List.singleton_append, gsc_cons hl0]
  simp only [show min l (dif R C m oR oC noB) = dif R C m oR oC noB by omega]
  have key : gsc (dif R C m oR oC noB) (bd0 R C m R C oR oC [] 0 ++ (mdl R C m 1 false ++ (mdl R C m 1 true ++ (mdl R C m 2 false ++ mdl R C m 2 true)))) = gsc (dif R C m oR oC noB) (bd0 R C m R C oR oC [] 0 ++ (cl1 R C m ++ cl2 R C m)) := by
    have a1 := (gsc_le (bd0 R C m R C oR oC [] 0) (dif R C m oR oC noB)).1
    rw [gsc_app, gsc_app (mdl R C m 1 false), sk 1 _ a1, gsc_app (mdl R C m 1 true), mdl_1 R C m _]
    have a2 := (gsc_le (cl1 R C m) (gsc (dif R C m oR oC noB) (bd0 R C m R C oR oC [] 0)).1).1
    rw [gsc_app (mdl R C m 2 false), sk 2 _ (Nat.le_trans a2 a1), mdl_2 R C m _, gsc_app (bd0 R C m R C oR oC [] 0), gsc_app (cl1 R C m)]
    simp
  rw [key]
