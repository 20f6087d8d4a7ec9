/-! the shadow machine's equations, an instruction a row -/
noncomputable def fx_E (S : fx_Sh) (y pc : Nat) (ls : fx_L) (st : List fx_V) (σ : fx_M) : Option fx_R := fx_Ev S (y, pc, ls, st, σ)
noncomputable def fx_Ca (S : fx_Sh) (z : Nat) (as : List fx_V) (σ : fx_M) : Option fx_R := fx_Ev S (z, 0, fx_ent z as, [], σ)
def fx_bd (o : Option fx_R) (k : Option fx_V → fx_M → Option fx_R) : Option fx_R := match o with
  | some r => k r.1 r.2
  | none => none
theorem fx_bd_some (v : Option fx_V) (σ : fx_M) (k : Option fx_V → fx_M → Option fx_R) : fx_bd (some (v, σ)) k = k v σ := rfl
section FXE
variable {S : fx_Sh} {y pc : Nat} {ls : fx_L} {st : List fx_V} {σ : fx_M}
theorem fx_E_go {i : Instr} {len : Nat} (hd : decode (fx_by y) pc = .ok (i, len)) : fx_E S y pc ls st σ = fx_go (fx_Ev S) (fx_ex S y pc ls st σ i len) := by
  unfold fx_E
  rw [fx_Ev_eq]
  unfold fx_st
  rw [show decode (fx_by (y, pc, ls, st, σ).1) (y, pc, ls, st, σ).2.1 = .ok (i, len) from hd]
theorem ev_iconst {n : Int} (hd : decode (fx_by y) pc = .ok (.iconst n, 1)) : fx_E S y pc ls st σ = fx_E S y (pc + 1) ls (.inl n :: st) σ := fx_E_go hd
theorem ev_bipush {n : Int} (hd : decode (fx_by y) pc = .ok (.bipush n, 2)) (hn : (Int8.ofInt n).toInt32 = Int32.ofInt n) : fx_E S y pc ls st σ = fx_E S y (pc + 2) ls (.inl n :: st) σ := by
  rw [fx_E_go hd]
  simp only [fx_ex]
  rw [if_pos hn]
  rfl
theorem ev_sipush {n : Int} (hd : decode (fx_by y) pc = .ok (.sipush n, 3)) (hn : (Int16.ofInt n).toInt32 = Int32.ofInt n) : fx_E S y pc ls st σ = fx_E S y (pc + 3) ls (.inl n :: st) σ := by
  rw [fx_E_go hd]
  simp only [fx_ex]
  rw [if_pos hn]
  rfl
theorem ev_ldc {k : Nat} {n : Int} (hd : decode (fx_by y) pc = .ok (.ldc k, 2)) (hn : fx_kd (fx_own y) k = some n) : fx_E S y pc ls st σ = fx_E S y (pc + 2) ls (.inl n :: st) σ := by
  rw [fx_E_go hd]
  simp only [fx_ex, hn]
  rfl
theorem ev_ldcw {k : Nat} {n : Int} (hd : decode (fx_by y) pc = .ok (.ldc_w k, 3)) (hn : fx_kd (fx_own y) k = some n) : fx_E S y pc ls st σ = fx_E S y (pc + 3) ls (.inl n :: st) σ := by
  rw [fx_E_go hd]
  simp only [fx_ex, hn]
  rfl
theorem ev_null (hd : decode (fx_by y) pc = .ok (.aconst_null, 1)) : fx_E S y pc ls st σ = fx_E S y (pc + 1) ls (.inr none :: st) σ := fx_E_go hd
theorem ev_iload_n {k : Fin 4} {x : Int} (hd : decode (fx_by y) pc = .ok (.iload_n k, 1)) (hl : ls[k.val]? = some (some (.inl x))) : fx_E S y pc ls st σ = fx_E S y (pc + 1) ls (.inl x :: st) σ := by
  rw [fx_E_go hd]
  simp only [fx_ex, fx_ldi, hl]
  rfl
theorem ev_iload {k : Nat} {x : Int} (hd : decode (fx_by y) pc = .ok (.iload k, 2)) (hl : ls[k]? = some (some (.inl x))) : fx_E S y pc ls st σ = fx_E S y (pc + 2) ls (.inl x :: st) σ := by
  rw [fx_E_go hd]
  simp only [fx_ex, fx_ldi, hl]
  rfl
theorem ev_aload_n {k : Fin 4} {x : Option (Nat × Nat)} (hd : decode (fx_by y) pc = .ok (.aload_n k, 1)) (hl : ls[k.val]? = some (some (.inr x))) : fx_E S y pc ls st σ = fx_E S y (pc + 1) ls (.inr x :: st) σ := by
  rw [fx_E_go hd]
  simp only [fx_ex, fx_lda, hl]
  rfl
theorem ev_aload {k : Nat} {x : Option (Nat × Nat)} (hd : decode (fx_by y) pc = .ok (.aload k, 2)) (hl : ls[k]? = some (some (.inr x))) : fx_E S y pc ls st σ = fx_E S y (pc + 2) ls (.inr x :: st) σ := by
  rw [fx_E_go hd]
  simp only [fx_ex, fx_lda, hl]
  rfl
theorem ev_istore_n {k : Fin 4} {x : Int} (hd : decode (fx_by y) pc = .ok (.istore_n k, 1)) (hl : k.val < ls.length) : fx_E S y pc ls (.inl x :: st) σ = fx_E S y (pc + 1) (ls.set k.val (some (.inl x))) st σ := by
  rw [fx_E_go hd]
  simp only [fx_ex, fx_sti, hl, and_self, if_true]
  rfl
theorem ev_istore {k : Nat} {x : Int} (hd : decode (fx_by y) pc = .ok (.istore k, 2)) (hl : k < ls.length) : fx_E S y pc ls (.inl x :: st) σ = fx_E S y (pc + 2) (ls.set k (some (.inl x))) st σ := by
  rw [fx_E_go hd]
  simp only [fx_ex, fx_sti, hl, and_self, if_true]
  rfl
theorem ev_astore_n {k : Fin 4} {x : Option (Nat × Nat)} (hd : decode (fx_by y) pc = .ok (.astore_n k, 1)) (hl : k.val < ls.length) : fx_E S y pc ls (.inr x :: st) σ = fx_E S y (pc + 1) (ls.set k.val (some (.inr x))) st σ := by
  rw [fx_E_go hd]
  simp only [fx_ex, fx_sta, hl, and_self, if_true]
  rfl
theorem ev_astore {k : Nat} {x : Option (Nat × Nat)} (hd : decode (fx_by y) pc = .ok (.astore k, 2)) (hl : k < ls.length) : fx_E S y pc ls (.inr x :: st) σ = fx_E S y (pc + 2) (ls.set k (some (.inr x))) st σ := by
  rw [fx_E_go hd]
  simp only [fx_ex, fx_sta, hl, and_self, if_true]
  rfl
theorem ev_iinc {k : Nat} {n x : Int} (hd : decode (fx_by y) pc = .ok (.iinc k n, 3)) (hl : ls[k]? = some (some (.inl x))) : fx_E S y pc ls st σ = fx_E S y (pc + 3) (ls.set k (some (.inl (x + n)))) st σ := by
  rw [fx_E_go hd]
  simp only [fx_ex, fx_inc, hl]
  rfl
theorem ev_iadd {a b : Int} (hd : decode (fx_by y) pc = .ok (.iadd, 1)) : fx_E S y pc ls (.inl b :: .inl a :: st) σ = fx_E S y (pc + 1) ls (.inl (a + b) :: st) σ := fx_E_go hd
theorem ev_isub {a b : Int} (hd : decode (fx_by y) pc = .ok (.isub, 1)) : fx_E S y pc ls (.inl b :: .inl a :: st) σ = fx_E S y (pc + 1) ls (.inl (a - b) :: st) σ := fx_E_go hd
theorem ev_imul {a b : Int} (hd : decode (fx_by y) pc = .ok (.imul, 1)) : fx_E S y pc ls (.inl b :: .inl a :: st) σ = fx_E S y (pc + 1) ls (.inl (a * b) :: st) σ := fx_E_go hd
theorem ev_idiv {a b : Int} (hd : decode (fx_by y) pc = .ok (.idiv, 1)) (h1 : fx_in a) (h2 : 0 < b) (h3 : b ≤ 2147483647) : fx_E S y pc ls (.inl b :: .inl a :: st) σ = fx_E S y (pc + 1) ls (.inl (a.tdiv b) :: st) σ := by
  rw [fx_E_go hd]
  simp only [fx_ex, fx_bin]
  rw [if_pos (by and_intros <;> first | trivial | rfl | assumption | omega | (rw [List.length_reverse]; done) | (rw [decide_eq_true_eq]; exact ⟨h1, h2, h3⟩) | exact Or.inl hr | exact Or.inr ⟨hr, hv⟩ | exact Or.inr hv | exact Or.inl rfl | exact Or.inl trivial)]
  rfl
theorem ev_irem {a b : Int} (hd : decode (fx_by y) pc = .ok (.irem, 1)) (h1 : fx_in a) (h2 : 0 < b) (h3 : b ≤ 2147483647) : fx_E S y pc ls (.inl b :: .inl a :: st) σ = fx_E S y (pc + 1) ls (.inl (a.tmod b) :: st) σ := by
  rw [fx_E_go hd]
  simp only [fx_ex, fx_bin]
  rw [if_pos (by and_intros <;> first | trivial | rfl | assumption | omega | (rw [List.length_reverse]; done) | (rw [decide_eq_true_eq]; exact ⟨h1, h2, h3⟩) | exact Or.inl hr | exact Or.inr ⟨hr, hv⟩ | exact Or.inr hv | exact Or.inl rfl | exact Or.inl trivial)]
  rfl
theorem ev_idivN {a b : Int} (hd : decode (fx_by y) pc = .ok (.idiv, 1)) (h0 : 0 ≤ a) (h1 : a ≤ 2147483647) (h2 : 0 < b) (h3 : b ≤ 2147483647) : fx_E S y pc ls (.inl b :: .inl a :: st) σ = fx_E S y (pc + 1) ls (.inl (a / b) :: st) σ := by
  rw [ev_idiv hd ⟨by omega, h1⟩ h2 h3, Int.tdiv_eq_ediv_of_nonneg h0]
theorem ev_iremN {a b : Int} (hd : decode (fx_by y) pc = .ok (.irem, 1)) (h0 : 0 ≤ a) (h1 : a ≤ 2147483647) (h2 : 0 < b) (h3 : b ≤ 2147483647) : fx_E S y pc ls (.inl b :: .inl a :: st) σ = fx_E S y (pc + 1) ls (.inl (a % b) :: st) σ := by
  rw [ev_irem hd ⟨by omega, h1⟩ h2 h3, Int.tmod_eq_emod_of_nonneg h0]
theorem ev_iand {a b : Int} (hd : decode (fx_by y) pc = .ok (.iand, 1)) : fx_E S y pc ls (.inl b :: .inl a :: st) σ = fx_E S y (pc + 1) ls (.inl ((Int32.ofInt a &&& Int32.ofInt b).toInt) :: st) σ := fx_E_go hd
theorem ev_ior {a b : Int} (hd : decode (fx_by y) pc = .ok (.ior, 1)) : fx_E S y pc ls (.inl b :: .inl a :: st) σ = fx_E S y (pc + 1) ls (.inl ((Int32.ofInt a ||| Int32.ofInt b).toInt) :: st) σ := fx_E_go hd
theorem ev_ixor {a b : Int} (hd : decode (fx_by y) pc = .ok (.ixor, 1)) : fx_E S y pc ls (.inl b :: .inl a :: st) σ = fx_E S y (pc + 1) ls (.inl ((Int32.ofInt a ^^^ Int32.ofInt b).toInt) :: st) σ := fx_E_go hd
theorem ev_ishl {a b : Int} (hd : decode (fx_by y) pc = .ok (.ishl, 1)) : fx_E S y pc ls (.inl b :: .inl a :: st) σ = fx_E S y (pc + 1) ls (.inl ((Int32.ofInt a <<< (Int32.ofInt b &&& 31)).toInt) :: st) σ := fx_E_go hd
theorem ev_ishr {a b : Int} (hd : decode (fx_by y) pc = .ok (.ishr, 1)) : fx_E S y pc ls (.inl b :: .inl a :: st) σ = fx_E S y (pc + 1) ls (.inl ((Int32.ofInt a >>> (Int32.ofInt b &&& 31)).toInt) :: st) σ := fx_E_go hd
theorem ev_iushr {a b : Int} (hd : decode (fx_by y) pc = .ok (.iushr, 1)) : fx_E S y pc ls (.inl b :: .inl a :: st) σ = fx_E S y (pc + 1) ls (.inl (((Int32.ofInt a).toUInt32 >>> ((Int32.ofInt b).toUInt32 &&& Int32.toUInt32 31)).toInt32.toInt) :: st) σ := fx_E_go hd
theorem ev_ineg {a : Int} (hd : decode (fx_by y) pc = .ok (.ineg, 1)) : fx_E S y pc ls (.inl a :: st) σ = fx_E S y (pc + 1) ls (.inl (-a) :: st) σ := fx_E_go hd
theorem ev_dup {v : fx_V} (hd : decode (fx_by y) pc = .ok (.dup, 1)) : fx_E S y pc ls (v :: st) σ = fx_E S y (pc + 1) ls (v :: v :: st) σ := fx_E_go hd
theorem ev_dup2 {v w : fx_V} (hd : decode (fx_by y) pc = .ok (.dup2, 1)) : fx_E S y pc ls (v :: w :: st) σ = fx_E S y (pc + 1) ls (v :: w :: v :: w :: st) σ := fx_E_go hd
theorem ev_if1 {c : ClassFile.Cond} {off a : Int} {t : Nat} (hd : decode (fx_by y) pc = .ok (.ifCond c off, 3)) (ht : (pc : Int) + off = (t : Int)) (h1 : fx_in a) : fx_E S y pc ls (.inl a :: st) σ = if fx_cm c a 0 = true then fx_E S y t ls st σ else fx_E S y (pc + 3) ls st σ := by
  rw [fx_E_go hd]
  simp only [fx_ex, fx_if1]
  rw [if_pos (by and_intros <;> first | trivial | rfl | assumption | omega | (rw [List.length_reverse]; done) | (rw [decide_eq_true_eq]; exact ⟨h1, h2, h3⟩) | exact Or.inl hr | exact Or.inr ⟨hr, hv⟩ | exact Or.inr hv | exact Or.inl rfl | exact Or.inl trivial)]
  have : ((pc : Int) + off).toNat = t := by omega
  rw [this]
  by_cases h : fx_cm c a 0 = true
  · rw [if_pos h, if_pos h]; rfl
  · rw [if_neg h, if_neg h]; rfl
theorem ev_if2 {c : ClassFile.Cond} {off a b : Int} {t : Nat} (hd : decode (fx_by y) pc = .ok (.if_icmp c off, 3)) (ht : (pc : Int) + off = (t : Int)) (h1 : fx_in a) (h2 : fx_in b) : fx_E S y pc ls (.inl b :: .inl a :: st) σ = if fx_cm c a b = true then fx_E S y t ls st σ else fx_E S y (pc + 3) ls st σ := by
  rw [fx_E_go hd]
  simp only [fx_ex, fx_if2]
  rw [if_pos (by and_intros <;> first | trivial | rfl | assumption | omega | (rw [List.length_reverse]; done) | (rw [decide_eq_true_eq]; exact ⟨h1, h2, h3⟩) | exact Or.inl hr | exact Or.inr ⟨hr, hv⟩ | exact Or.inr hv | exact Or.inl rfl | exact Or.inl trivial)]
  have : ((pc : Int) + off).toNat = t := by omega
  rw [this]
  by_cases h : fx_cm c a b = true
  · rw [if_pos h, if_pos h]; rfl
  · rw [if_neg h, if_neg h]; rfl
theorem fx_cif {α : Type} {b : Bool} {p : Prop} [Decidable p] (h : b = true ↔ p) (x z : α) : (if b = true then x else z) = if p then x else z := by
  by_cases hp : p
  · rw [if_pos (h.mpr hp), if_pos hp]
  · rw [if_neg (fun q => hp (h.mp q)), if_neg hp]
theorem fx_cifN {α : Type} {b : Bool} {p : Prop} [Decidable p] (h : b = true ↔ ¬ p) (x z : α) : (if b = true then x else z) = if p then z else x := by
  by_cases hp : p
  · rw [if_neg (fun q => h.mp q hp), if_pos hp]
  · rw [if_pos (h.mpr hp), if_neg hp]
theorem ev_if1_eq {off a : Int} {t : Nat} (hd : decode (fx_by y) pc = .ok (.ifCond .eq off, 3)) (ht : (pc : Int) + off = (t : Int)) (h1 : fx_in a) : fx_E S y pc ls (.inl a :: st) σ = if a = 0 then fx_E S y t ls st σ else fx_E S y (pc + 3) ls st σ := (ev_if1 hd ht h1).trans (fx_cif (by simp [fx_cm]) _ _)
theorem ev_if1_ne {off a : Int} {t : Nat} (hd : decode (fx_by y) pc = .ok (.ifCond .ne off, 3)) (ht : (pc : Int) + off = (t : Int)) (h1 : fx_in a) : fx_E S y pc ls (.inl a :: st) σ = if a = 0 then fx_E S y (pc + 3) ls st σ else fx_E S y t ls st σ := (ev_if1 hd ht h1).trans (fx_cifN (by simp [fx_cm]) _ _)
theorem ev_if1_lt {off a : Int} {t : Nat} (hd : decode (fx_by y) pc = .ok (.ifCond .lt off, 3)) (ht : (pc : Int) + off = (t : Int)) (h1 : fx_in a) : fx_E S y pc ls (.inl a :: st) σ = if a < 0 then fx_E S y t ls st σ else fx_E S y (pc + 3) ls st σ := (ev_if1 hd ht h1).trans (fx_cif (by simp [fx_cm]) _ _)
theorem ev_if1_ge {off a : Int} {t : Nat} (hd : decode (fx_by y) pc = .ok (.ifCond .ge off, 3)) (ht : (pc : Int) + off = (t : Int)) (h1 : fx_in a) : fx_E S y pc ls (.inl a :: st) σ = if a < 0 then fx_E S y (pc + 3) ls st σ else fx_E S y t ls st σ := (ev_if1 hd ht h1).trans (fx_cifN (by simp [fx_cm]) _ _)
theorem ev_if1_gt {off a : Int} {t : Nat} (hd : decode (fx_by y) pc = .ok (.ifCond .gt off, 3)) (ht : (pc : Int) + off = (t : Int)) (h1 : fx_in a) : fx_E S y pc ls (.inl a :: st) σ = if 0 < a then fx_E S y t ls st σ else fx_E S y (pc + 3) ls st σ := (ev_if1 hd ht h1).trans (fx_cif (by simp [fx_cm]) _ _)
theorem ev_if1_le {off a : Int} {t : Nat} (hd : decode (fx_by y) pc = .ok (.ifCond .le off, 3)) (ht : (pc : Int) + off = (t : Int)) (h1 : fx_in a) : fx_E S y pc ls (.inl a :: st) σ = if 0 < a then fx_E S y (pc + 3) ls st σ else fx_E S y t ls st σ := (ev_if1 hd ht h1).trans (fx_cifN (by simp [fx_cm]) _ _)
theorem ev_if2_eq {off a b : Int} {t : Nat} (hd : decode (fx_by y) pc = .ok (.if_icmp .eq off, 3)) (ht : (pc : Int) + off = (t : Int)) (h1 : fx_in a) (h2 : fx_in b) : fx_E S y pc ls (.inl b :: .inl a :: st) σ = if a = b then fx_E S y t ls st σ else fx_E S y (pc + 3) ls st σ := (ev_if2 hd ht h1 h2).trans (fx_cif (by simp [fx_cm]) _ _)
theorem ev_if2_ne {off a b : Int} {t : Nat} (hd : decode (fx_by y) pc = .ok (.if_icmp .ne off, 3)) (ht : (pc : Int) + off = (t : Int)) (h1 : fx_in a) (h2 : fx_in b) : fx_E S y pc ls (.inl b :: .inl a :: st) σ = if a = b then fx_E S y (pc + 3) ls st σ else fx_E S y t ls st σ := (ev_if2 hd ht h1 h2).trans (fx_cifN (by simp [fx_cm]) _ _)
theorem ev_if2_lt {off a b : Int} {t : Nat} (hd : decode (fx_by y) pc = .ok (.if_icmp .lt off, 3)) (ht : (pc : Int) + off = (t : Int)) (h1 : fx_in a) (h2 : fx_in b) : fx_E S y pc ls (.inl b :: .inl a :: st) σ = if a < b then fx_E S y t ls st σ else fx_E S y (pc + 3) ls st σ := (ev_if2 hd ht h1 h2).trans (fx_cif (by simp [fx_cm]) _ _)
theorem ev_if2_ge {off a b : Int} {t : Nat} (hd : decode (fx_by y) pc = .ok (.if_icmp .ge off, 3)) (ht : (pc : Int) + off = (t : Int)) (h1 : fx_in a) (h2 : fx_in b) : fx_E S y pc ls (.inl b :: .inl a :: st) σ = if a < b then fx_E S y (pc + 3) ls st σ else fx_E S y t ls st σ := (ev_if2 hd ht h1 h2).trans (fx_cifN (by simp [fx_cm]) _ _)
theorem ev_if2_gt {off a b : Int} {t : Nat} (hd : decode (fx_by y) pc = .ok (.if_icmp .gt off, 3)) (ht : (pc : Int) + off = (t : Int)) (h1 : fx_in a) (h2 : fx_in b) : fx_E S y pc ls (.inl b :: .inl a :: st) σ = if b < a then fx_E S y t ls st σ else fx_E S y (pc + 3) ls st σ := (ev_if2 hd ht h1 h2).trans (fx_cif (by simp [fx_cm]) _ _)
theorem ev_if2_le {off a b : Int} {t : Nat} (hd : decode (fx_by y) pc = .ok (.if_icmp .le off, 3)) (ht : (pc : Int) + off = (t : Int)) (h1 : fx_in a) (h2 : fx_in b) : fx_E S y pc ls (.inl b :: .inl a :: st) σ = if b < a then fx_E S y (pc + 3) ls st σ else fx_E S y t ls st σ := (ev_if2 hd ht h1 h2).trans (fx_cifN (by simp [fx_cm]) _ _)
theorem ev_goto {off : Int} {t : Nat} (hd : decode (fx_by y) pc = .ok (.goto off, 3)) (ht : (pc : Int) + off = (t : Int)) : fx_E S y pc ls st σ = fx_E S y t ls st σ := by
  rw [fx_E_go hd]
  simp only [fx_ex, if_true, fx_jp]
  rw [if_pos (by omega), show ((pc : Int) + off).toNat = t by omega]
  rfl
theorem ev_ifnull_n {off : Int} {t : Nat} (hd : decode (fx_by y) pc = .ok (.ifnull off, 3)) (ht : (pc : Int) + off = (t : Int)) : fx_E S y pc ls (.inr none :: st) σ = fx_E S y t ls st σ := by
  rw [fx_E_go hd]
  simp only [fx_ex, fx_ifn, if_true, fx_jp, Option.isNone_none]
  rw [if_pos (by omega), show ((pc : Int) + off).toNat = t by omega]
  rfl
theorem ev_ifnull_s {off : Int} {q : Nat × Nat} (hd : decode (fx_by y) pc = .ok (.ifnull off, 3)) : fx_E S y pc ls (.inr (some q) :: st) σ = fx_E S y (pc + 3) ls st σ := by
  rw [fx_E_go hd]
  rfl
theorem ev_ifnonnull_s {off : Int} {t : Nat} {q : Nat × Nat} (hd : decode (fx_by y) pc = .ok (.ifnonnull off, 3)) (ht : (pc : Int) + off = (t : Int)) : fx_E S y pc ls (.inr (some q) :: st) σ = fx_E S y t ls st σ := by
  rw [fx_E_go hd]
  simp only [fx_ex, fx_ifn, if_true, fx_jp, Option.isNone_some]
  rw [if_pos (by omega), show ((pc : Int) + off).toNat = t by omega]
  rfl
theorem ev_ifnonnull_n {off : Int} (hd : decode (fx_by y) pc = .ok (.ifnonnull off, 3)) : fx_E S y pc ls (.inr none :: st) σ = fx_E S y (pc + 3) ls st σ := by
  rw [fx_E_go hd]
  rfl
theorem ev_tsw_o {d lo hi x : Int} {offs : Array Int} {len t : Nat} (hd : decode (fx_by y) pc = .ok (.tableswitch d lo hi offs, len)) (ht : (pc : Int) + d = (t : Int)) (hx : fx_in x) (h : x < lo ∨ hi < x) : fx_E S y pc ls (.inl x :: st) σ = fx_E S y t ls st σ := by
  rw [fx_E_go hd]
  simp only [fx_ex, fx_tsw]
  rw [if_pos hx, if_pos h]
  unfold fx_jp
  rw [if_pos (by omega), show ((pc : Int) + d).toNat = t by omega]
  rfl
theorem ev_tsw_i {d lo hi x off : Int} {offs : Array Int} {len t : Nat} (hd : decode (fx_by y) pc = .ok (.tableswitch d lo hi offs, len)) (ho : offs[(x - lo).toNat]? = some off) (ht : (pc : Int) + off = (t : Int)) (hx : fx_in x) (h : ¬ (x < lo ∨ hi < x)) : fx_E S y pc ls (.inl x :: st) σ = fx_E S y t ls st σ := by
  rw [fx_E_go hd]
  simp only [fx_ex, fx_tsw]
  rw [if_pos hx, if_neg h]
  simp only [ho]
  unfold fx_jp
  rw [if_pos (by omega), show ((pc : Int) + off).toNat = t by omega]
  rfl
theorem ev_getf_i {i ci k o g : Nat} {fl : List (Option (Nat → Nat × Nat))} (hd : decode (fx_by y) pc = .ok (.getfield i, 3)) (hf : fx_fd (fx_own y) i = some (ci, k)) (ho : fx_ob o = some (ci, fl)) (hk : fl[k]? = some none) : fx_E S y pc ls (.inr (some (o, g)) :: st) σ = fx_E S y (pc + 3) ls (.inl (σ o g k) :: st) σ := by
  rw [fx_E_go hd]
  simp only [fx_ex, fx_gf, hf, ho, hk, and_self, if_true]
  rfl
theorem ev_getf_r {i ci k o g : Nat} {fl : List (Option (Nat → Nat × Nat))} {f : Nat → Nat × Nat} (hd : decode (fx_by y) pc = .ok (.getfield i, 3)) (hf : fx_fd (fx_own y) i = some (ci, k)) (ho : fx_ob o = some (ci, fl)) (hk : fl[k]? = some (some f)) : fx_E S y pc ls (.inr (some (o, g)) :: st) σ = fx_E S y (pc + 3) ls (.inr (some (f g)) :: st) σ := by
  rw [fx_E_go hd]
  simp only [fx_ex, fx_gf, hf, ho, hk, and_self, if_true]
  rfl
theorem ev_putf {i ci k o g : Nat} {fl : List (Option (Nat → Nat × Nat))} {v : Int} (hd : decode (fx_by y) pc = .ok (.putfield i, 3)) (hf : fx_fd (fx_own y) i = some (ci, k)) (ho : fx_ob o = some (ci, fl)) (hk : fl[k]? = some none) (hok : fx_okf ci k v = true) : fx_E S y pc ls (.inl v :: .inr (some (o, g)) :: st) σ = fx_E S y (pc + 3) ls st (fx_up σ o g k v) := by
  rw [fx_E_go hd]
  simp only [fx_ex, fx_pf, hf, ho, hk]
  rw [if_pos (by and_intros <;> first | trivial | rfl | assumption | omega | (rw [List.length_reverse]; done) | (rw [decide_eq_true_eq]; exact ⟨h1, h2, h3⟩) | exact Or.inl hr | exact Or.inr ⟨hr, hv⟩ | exact Or.inr hv | exact Or.inl rfl | exact Or.inl trivial)]
  rfl
theorem ev_gets {i o : Nat} {n : String} (hd : decode (fx_by y) pc = .ok (.getstatic i, 3)) (hf : fx_sd (fx_own y) i = some (o, n) ∨ (fx_sd (fx_own y) i = none ∧ fx_nd (fx_own y) i = some (o, n))) : fx_E S y pc ls st σ = fx_E S y (pc + 3) ls (.inr (some (o, 0)) :: st) σ := by
  rw [fx_E_go hd]
  rcases hf with hf | ⟨h1, h2⟩
  · simp only [fx_ex, fx_gs, hf]
    rfl
  · simp only [fx_ex, fx_gs, h1, h2]
    rfl
theorem ev_iald {o g : Nat} {i : Int} (hd : decode (fx_by y) pc = .ok (.iaload, 1)) (ho : fx_ak o = 1) (h0 : 0 ≤ i) (h1 : i < S.1 o g) : fx_E S y pc ls (.inl i :: .inr (some (o, g)) :: st) σ = fx_E S y (pc + 1) ls (.inl (σ o g i.toNat) :: st) σ := by
  rw [fx_E_go hd]
  simp only [fx_ex, fx_ld, ho, h0, h1, and_self, if_true]
  rfl
theorem ev_zald {o g : Nat} {i : Int} (hd : decode (fx_by y) pc = .ok (.baload, 1)) (ho : fx_ak o = 2) (h0 : 0 ≤ i) (h1 : i < S.1 o g) : fx_E S y pc ls (.inl i :: .inr (some (o, g)) :: st) σ = fx_E S y (pc + 1) ls (.inl (σ o g i.toNat) :: st) σ := by
  rw [fx_E_go hd]
  simp only [fx_ex, fx_ld, ho, h0, h1, and_self, if_true]
  rfl
theorem ev_tald {o g : Nat} {i : Int} (hd : decode (fx_by y) pc = .ok (.iaload, 1)) (ho : fx_ak o = 4) (h0 : 0 ≤ i) (h1 : i < (fx_sv o).length) : fx_E S y pc ls (.inl i :: .inr (some (o, g)) :: st) σ = fx_E S y (pc + 1) ls (.inl ((fx_sv o).getD i.toNat 0) :: st) σ := by
  rw [fx_E_go hd]
  simp only [fx_ex, fx_ld]
  rw [if_pos (by and_intros <;> first | trivial | rfl | assumption | omega | (rw [List.length_reverse]; done) | (rw [decide_eq_true_eq]; exact ⟨h1, h2, h3⟩) | exact Or.inl hr | exact Or.inr ⟨hr, hv⟩ | exact Or.inr hv | exact Or.inl rfl | exact Or.inl trivial), if_neg (by rw [ho]; exact fun q => absurd q.1 (by decide)), if_pos ⟨trivial, ho, h1⟩]
  rfl
theorem ev_iast {o g : Nat} {i v : Int} (hd : decode (fx_by y) pc = .ok (.iastore, 1)) (ho : fx_ak o = 1) (h0 : 0 ≤ i) (h1 : i < S.1 o g) : fx_E S y pc ls (.inl v :: .inl i :: .inr (some (o, g)) :: st) σ = fx_E S y (pc + 1) ls st (fx_up σ o g i.toNat v) := by
  rw [fx_E_go hd]
  simp only [fx_ex, fx_ast]
  rw [if_pos (by and_intros <;> first | trivial | rfl | assumption | omega | (rw [List.length_reverse]; done) | (rw [decide_eq_true_eq]; exact ⟨h1, h2, h3⟩) | exact Or.inl hr | exact Or.inr ⟨hr, hv⟩ | exact Or.inr hv | exact Or.inl rfl | exact Or.inl trivial)]
  rfl
theorem ev_zast {o g : Nat} {i v : Int} (hd : decode (fx_by y) pc = .ok (.bastore, 1)) (ho : fx_ak o = 2) (h0 : 0 ≤ i) (h1 : i < S.1 o g) (hv : v = 0 ∨ v = 1) : fx_E S y pc ls (.inl v :: .inl i :: .inr (some (o, g)) :: st) σ = fx_E S y (pc + 1) ls st (fx_up σ o g i.toNat v) := by
  rw [fx_E_go hd]
  simp only [fx_ex, fx_ast]
  rw [if_pos (by and_intros <;> first | trivial | rfl | assumption | omega | (rw [List.length_reverse]; done) | (rw [decide_eq_true_eq]; exact ⟨h1, h2, h3⟩) | exact Or.inl hr | exact Or.inr ⟨hr, hv⟩ | exact Or.inr hv | exact Or.inl rfl | exact Or.inl trivial)]
  rfl
theorem ev_aald {i : Int} (hd : decode (fx_by y) pc = .ok (.aaload, 1)) (h0 : 0 ≤ i) (h1 : i < S.1 2 0) : fx_E S y pc ls (.inl i :: .inr (some (2, 0)) :: st) σ = fx_E S y (pc + 1) ls (.inr (if i.toNat < S.2 then some (12, i.toNat) else none) :: st) σ := by
  rw [fx_E_go hd]
  simp only [fx_ex, fx_lda2]
  rw [if_pos (by and_intros <;> first | trivial | rfl | assumption | omega | (rw [List.length_reverse]; done) | (rw [decide_eq_true_eq]; exact ⟨h1, h2, h3⟩) | exact Or.inl hr | exact Or.inr ⟨hr, hv⟩ | exact Or.inr hv | exact Or.inl rfl | exact Or.inl trivial)]
  rfl
theorem ev_alen {o g : Nat} (hd : decode (fx_by y) pc = .ok (.arraylength, 1)) (ho : fx_ak o = 1 ∨ fx_ak o = 2) : fx_E S y pc ls (.inr (some (o, g)) :: st) σ = fx_E S y (pc + 1) ls (.inl (S.1 o g) :: st) σ := by
  rw [fx_E_go hd]
  simp only [fx_ex, fx_len, ho, if_true]
  rfl
theorem ev_tlen {o g : Nat} (hd : decode (fx_by y) pc = .ok (.arraylength, 1)) (ho : fx_ak o = 4) : fx_E S y pc ls (.inr (some (o, g)) :: st) σ = fx_E S y (pc + 1) ls (.inl (fx_sv o).length :: st) σ := by
  rw [fx_E_go hd]
  simp only [fx_ex, fx_len, ho]
  rfl
theorem fx_bd_bind {z : fx_Z} {k : fx_R → fx_Z} : fx_go (fx_Ev S) (fx_cl1 z k) = fx_bd (fx_Ev S z) (fun v σ => fx_Ev S (k (v, σ))) := by
  show (fx_Ev S z).bind (fun r => fx_Ev S (k r)) = _
  cases fx_Ev S z with
  | none => rfl
  | some r => rfl
theorem ev_callV {i z n o g : Nat} {as rest : List fx_V} (hd : decode (fx_by y) pc = .ok (.invokevirtual i, 3)) (hc : fx_ca y i = some (z, n, 0)) (hn : as.length = n) (hr : rest.length ≤ 8) (ho : (fx_ob o).map (fun q => q.1) = some (fx_own z)) (hm : n + 1 ≤ fx_mL z) : fx_E S y pc ls (as.reverse ++ .inr (some (o, g)) :: rest) σ = fx_bd (fx_Ca S z (.inr (some (o, g)) :: as) σ) (fun v σ' => fx_E S y (pc + 3) ls (v.toList ++ rest) σ') := by
  subst hn
  have h1 : (as.reverse ++ .inr (some (o, g)) :: rest).drop as.length = .inr (some (o, g)) :: rest := by
    rw [List.drop_append_of_le_length (by rw [List.length_reverse]; omega), List.drop_of_length_le (by rw [List.length_reverse]; omega)]
    rfl
  have h2 : (as.reverse ++ .inr (some (o, g)) :: rest).take as.length = as.reverse := by
    rw [List.take_append_of_le_length (by rw [List.length_reverse]; omega), List.take_of_length_le (by rw [List.length_reverse]; omega)]
  rw [fx_E_go hd]
  simp only [fx_ex, fx_iv, hc, h1, h2, List.reverse_reverse]
  rw [if_pos (by and_intros <;> first | trivial | rfl | assumption | omega | (rw [List.length_reverse]; done) | (rw [decide_eq_true_eq]; exact ⟨h1, h2, h3⟩) | exact Or.inl hr | exact Or.inr ⟨hr, hv⟩ | exact Or.inr hv | exact Or.inl rfl | exact Or.inl trivial), fx_bd_bind]
  rfl
theorem ev_callS {i z n : Nat} {as rest : List fx_V} (hd : decode (fx_by y) pc = .ok (.invokestatic i, 3)) (hc : fx_ca y i = some (z, n, 1)) (hn : as.length = n) (hr : rest.length ≤ 8) (hm : n ≤ fx_mL z) : fx_E S y pc ls (as.reverse ++ rest) σ = fx_bd (fx_Ca S z as σ) (fun v σ' => fx_E S y (pc + 3) ls (v.toList ++ rest) σ') := by
  subst hn
  have h1 : (as.reverse ++ rest).drop as.length = rest := by
    rw [List.drop_append_of_le_length (by rw [List.length_reverse]; omega), List.drop_of_length_le (by rw [List.length_reverse]; omega)]
    rfl
  have h2 : (as.reverse ++ rest).take as.length = as.reverse := by
    rw [List.take_append_of_le_length (by rw [List.length_reverse]; omega), List.take_of_length_le (by rw [List.length_reverse]; omega)]
  rw [fx_E_go hd]
  simp only [fx_ex, fx_is, hc, h1, h2, List.reverse_reverse]
  rw [if_pos (by and_intros <;> first | trivial | rfl | assumption | omega | (rw [List.length_reverse]; done) | (rw [decide_eq_true_eq]; exact ⟨h1, h2, h3⟩) | exact Or.inl hr | exact Or.inr ⟨hr, hv⟩ | exact Or.inr hv | exact Or.inl rfl | exact Or.inl trivial), fx_bd_bind]
  rfl
theorem ev_max {i : Nat} {a b : Int} (hd : decode (fx_by y) pc = .ok (.invokestatic i, 3)) (hc : fx_ca y i = none) (hp : fx_pd y i = some 0) (hs : st.length ≤ 8) (h1 : fx_in a) (h2 : fx_in b) : fx_E S y pc ls (.inl b :: .inl a :: st) σ = fx_E S y (pc + 3) ls (.inl (max a b) :: st) σ := by
  have e : (if a < b then b else a) = max a b := by split <;> omega
  rw [fx_E_go hd]
  simp only [fx_ex, fx_is, hc, hp]
  rw [if_pos (by and_intros <;> first | trivial | rfl | assumption | omega | (rw [List.length_reverse]; done) | (rw [decide_eq_true_eq]; exact ⟨h1, h2, h3⟩) | exact Or.inl hr | exact Or.inr ⟨hr, hv⟩ | exact Or.inr hv | exact Or.inl rfl | exact Or.inl trivial), e]
  rfl
theorem ev_min {i : Nat} {a b : Int} (hd : decode (fx_by y) pc = .ok (.invokestatic i, 3)) (hc : fx_ca y i = none) (hp : fx_pd y i = some 1) (hs : st.length ≤ 8) (h1 : fx_in a) (h2 : fx_in b) : fx_E S y pc ls (.inl b :: .inl a :: st) σ = fx_E S y (pc + 3) ls (.inl (min a b) :: st) σ := by
  have e : (if b < a then b else a) = min a b := by split <;> omega
  rw [fx_E_go hd]
  simp only [fx_ex, fx_is, hc, hp]
  rw [if_pos (by and_intros <;> first | trivial | rfl | assumption | omega | (rw [List.length_reverse]; done) | (rw [decide_eq_true_eq]; exact ⟨h1, h2, h3⟩) | exact Or.inl hr | exact Or.inr ⟨hr, hv⟩ | exact Or.inr hv | exact Or.inl rfl | exact Or.inl trivial), e]
  rfl
theorem ev_abs {i : Nat} {a : Int} (hd : decode (fx_by y) pc = .ok (.invokestatic i, 3)) (hc : fx_ca y i = none) (hp : fx_pd y i = some 2) (hs : st.length ≤ 8) (h1 : fx_in a) : fx_E S y pc ls (.inl a :: st) σ = fx_E S y (pc + 3) ls (.inl (a.natAbs : Int) :: st) σ := by
  have e : (if 0 ≤ a then a else -a) = (a.natAbs : Int) := by split <;> omega
  rw [fx_E_go hd]
  simp only [fx_ex, fx_is, hc, hp]
  rw [if_pos (by and_intros <;> first | trivial | rfl | assumption | omega | (rw [List.length_reverse]; done) | (rw [decide_eq_true_eq]; exact ⟨h1, h2, h3⟩) | exact Or.inl hr | exact Or.inr ⟨hr, hv⟩ | exact Or.inr hv | exact Or.inl rfl | exact Or.inl trivial), e]
  rfl
def fx_cp (σ : fx_M) (o0 g0 : Nat) (sp : Int) (o1 g1 : Nat) (dp n : Int) : fx_M := fun o g k => if o = o1 ∧ g = g1 ∧ dp.toNat ≤ k ∧ k < dp.toNat + n.toNat then σ o0 g0 (sp.toNat + (k - dp.toNat)) else σ o g k
theorem ev_copy {i o0 g0 o1 g1 : Nat} {n dp sp : Int} (hd : decode (fx_by y) pc = .ok (.invokestatic i, 3)) (hc : fx_ca y i = none) (hp : fx_pd y i = none) (ha : (y, i) ∈ fx_aT) (k0 : fx_ak o0 = 1) (k1 : fx_ak o1 = 1) (hs : st.length ≤ 8) (h1 : 0 ≤ n) (h2 : 0 ≤ dp) (h3 : 0 ≤ sp) (h4 : sp + n ≤ S.1 o0 g0) (h5 : dp + n ≤ S.1 o1 g1) : fx_E S y pc ls (.inl n :: .inl dp :: .inr (some (o1, g1)) :: .inl sp :: .inr (some (o0, g0)) :: st) σ = fx_E S y (pc + 3) ls st (fx_cp σ o0 g0 sp o1 g1 dp n) := by
  rw [fx_E_go hd]
  simp only [fx_ex, fx_is, hc, hp]
  rw [if_pos (by and_intros <;> first | trivial | rfl | assumption)]
  rfl
theorem ev_iret {v : Int} (hd : decode (fx_by y) pc = .ok (.ireturn, 1)) (hr : fx_rt y = some .int) : fx_E S y pc ls [.inl v] σ = some (some (.inl v), σ) := by
  rw [fx_E_go hd]
  simp only [fx_ex, fx_ret]
  rw [if_pos (by and_intros <;> first | trivial | rfl | assumption | omega | (rw [List.length_reverse]; done) | (rw [decide_eq_true_eq]; exact ⟨h1, h2, h3⟩) | exact Or.inl hr | exact Or.inr ⟨hr, hv⟩ | exact Or.inr hv | exact Or.inl rfl | exact Or.inl trivial)]
  rfl
theorem ev_zret {v : Int} (hd : decode (fx_by y) pc = .ok (.ireturn, 1)) (hr : fx_rt y = some .boolean) (hv : v = 0 ∨ v = 1) : fx_E S y pc ls [.inl v] σ = some (some (.inl v), σ) := by
  rw [fx_E_go hd]
  simp only [fx_ex, fx_ret]
  rw [if_pos (by and_intros <;> first | trivial | rfl | assumption | omega | (rw [List.length_reverse]; done) | (rw [decide_eq_true_eq]; exact ⟨h1, h2, h3⟩) | exact Or.inl hr | exact Or.inr ⟨hr, hv⟩ | exact Or.inr hv | exact Or.inl rfl | exact Or.inl trivial)]
  rfl
theorem ev_aret {v : Option (Nat × Nat)} (hd : decode (fx_by y) pc = .ok (.areturn, 1)) (hr : fx_rt y = some (.object "FoldDye$Cloth")) : fx_E S y pc ls [.inr v] σ = some (some (.inr v), σ) := by
  rw [fx_E_go hd]
  simp only [fx_ex, fx_rea]
  rw [if_pos (by and_intros <;> first | trivial | rfl | assumption | omega | (rw [List.length_reverse]; done) | (rw [decide_eq_true_eq]; exact ⟨h1, h2, h3⟩) | exact Or.inl hr | exact Or.inr ⟨hr, hv⟩ | exact Or.inr hv | exact Or.inl rfl | exact Or.inl trivial)]
  rfl
theorem ev_vret (hd : decode (fx_by y) pc = .ok (.return_, 1)) (hr : fx_rt y = none) : fx_E S y pc ls [] σ = some (none, σ) := by
  rw [fx_E_go hd]
  simp only [fx_ex, fx_rev]
  rw [if_pos (by and_intros <;> first | trivial | rfl | assumption | omega | (rw [List.length_reverse]; done) | (rw [decide_eq_true_eq]; exact ⟨h1, h2, h3⟩) | exact Or.inl hr | exact Or.inr ⟨hr, hv⟩ | exact Or.inr hv | exact Or.inl rfl | exact Or.inl trivial)]
  rfl
end FXE
/-! the lengths of the arrays: rows and columns of the cloths are Rf, Cf -/
def fx_ln (Rf Cf : Nat → Nat) (o g : Nat) : Nat :=
  if o = 1 then 3 else if o = 2 then 6 else if o = 4 then 144 else if o = 5 then 144 else if o = 8 then 48 else if o = 9 then 4 else if o = 11 then 12
  else if o = 13 then Rf g * Cf g else if o = 14 then 12 * Rf g else if o = 16 then Rf g * Cf g else if o = 17 then Rf g * Cf g else if o = 18 then Rf g * Cf g else if o = 19 then 12 * Rf g
  else if o = 33 then 1008 else if o = 34 then 1008 else if o = 35 then 1008 else if o = 36 then 1008
  else if o = 43 then 42 else if o = 44 then 42 else if o = 45 then 42 else if o = 46 then 42
  else if o = 50 then 3600 else if o = 51 then 144 else if o = 52 then 144 else if o = 53 then 144 else if o = 54 then 144 else if o = 55 then 144
  else if o = 58 then 48 else if o = 59 then 2 else if o = 60 then 2 else if o = 61 then 2 else if o = 62 then 6 else if o = 64 then 4
  else 7
def fx_S (Rf Cf : Nat → Nat) (nc : Nat) : fx_Sh := (fx_ln Rf Cf, nc)
section FXN
variable {S : fx_Sh} {y pc : Nat} {ls : fx_L} {st : List fx_V} {σ : fx_M}
theorem en_iald {o g n : Nat} {i : Int} (hd : decode (fx_by y) pc = .ok (.iaload, 1)) (ho : fx_ak o = 1) (hn : S.1 o g = n) (h0 : 0 ≤ i) (h1 : i < n) : fx_E S y pc ls (.inl i :: .inr (some (o, g)) :: st) σ = fx_E S y (pc + 1) ls (.inl (σ o g i.toNat) :: st) σ := ev_iald hd ho h0 (by rw [hn]; exact h1)
theorem en_zald {o g n : Nat} {i : Int} (hd : decode (fx_by y) pc = .ok (.baload, 1)) (ho : fx_ak o = 2) (hn : S.1 o g = n) (h0 : 0 ≤ i) (h1 : i < n) : fx_E S y pc ls (.inl i :: .inr (some (o, g)) :: st) σ = fx_E S y (pc + 1) ls (.inl (σ o g i.toNat) :: st) σ := ev_zald hd ho h0 (by rw [hn]; exact h1)
theorem en_iast {o g n : Nat} {i v : Int} (hd : decode (fx_by y) pc = .ok (.iastore, 1)) (ho : fx_ak o = 1) (hn : S.1 o g = n) (h0 : 0 ≤ i) (h1 : i < n) : fx_E S y pc ls (.inl v :: .inl i :: .inr (some (o, g)) :: st) σ = fx_E S y (pc + 1) ls st (fx_up σ o g i.toNat v) := ev_iast hd ho h0 (by rw [hn]; exact h1)
theorem en_zast {o g n : Nat} {i v : Int} (hd : decode (fx_by y) pc = .ok (.bastore, 1)) (ho : fx_ak o = 2) (hn : S.1 o g = n) (h0 : 0 ≤ i) (h1 : i < n) (hv : v = 0 ∨ v = 1) : fx_E S y pc ls (.inl v :: .inl i :: .inr (some (o, g)) :: st) σ = fx_E S y (pc + 1) ls st (fx_up σ o g i.toNat v) := ev_zast hd ho h0 (by rw [hn]; exact h1) hv
theorem en_aald {i : Int} {n : Nat} (hd : decode (fx_by y) pc = .ok (.aaload, 1)) (hn : S.1 2 0 = n) (h0 : 0 ≤ i) (h1 : i < n) : fx_E S y pc ls (.inl i :: .inr (some (2, 0)) :: st) σ = fx_E S y (pc + 1) ls (.inr (if i.toNat < S.2 then some (12, i.toNat) else none) :: st) σ := ev_aald hd h0 (by rw [hn]; exact h1)
theorem en_alen {o g n : Nat} (hd : decode (fx_by y) pc = .ok (.arraylength, 1)) (ho : fx_ak o = 1 ∨ fx_ak o = 2) (hn : S.1 o g = n) : fx_E S y pc ls (.inr (some (o, g)) :: st) σ = fx_E S y (pc + 1) ls (.inl n :: st) σ := by rw [ev_alen hd ho, hn]
theorem en_copy {i o0 g0 o1 g1 n0 n1 : Nat} {n dp sp : Int} (hd : decode (fx_by y) pc = .ok (.invokestatic i, 3)) (hc : fx_ca y i = none) (hp : fx_pd y i = none) (ha : (y, i) ∈ fx_aT) (k0 : fx_ak o0 = 1) (k1 : fx_ak o1 = 1) (hs : st.length ≤ 8) (hn0 : S.1 o0 g0 = n0) (hn1 : S.1 o1 g1 = n1) (h1 : 0 ≤ n) (h2 : 0 ≤ dp) (h3 : 0 ≤ sp) (h4 : sp + n ≤ n0) (h5 : dp + n ≤ n1) : fx_E S y pc ls (.inl n :: .inl dp :: .inr (some (o1, g1)) :: .inl sp :: .inr (some (o0, g0)) :: st) σ = fx_E S y (pc + 3) ls st (fx_cp σ o0 g0 sp o1 g1 dp n) := ev_copy hd hc hp ha k0 k1 hs h1 h2 h3 (by rw [hn0]; exact h4) (by rw [hn1]; exact h5)
end FXN
