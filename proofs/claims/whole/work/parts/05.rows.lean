/-! the machine's rows over a shadow state -/
def fx_Cx (p : Program) (s : State) (m : MethodId) (meth : Method) (c : Code) (args : Array Value) (R : Room) (cells slots y : Nat) : Prop :=
  p.tables.exec = Jvm.exec ∧ c.code = fx_by y ∧ c.maxLocals = fx_mL y ∧ meth.sig.returnType = fx_rt y ∧ s.vm.findClass (fx_cs (fx_own y)) = some m.cls ∧ (∀ w ∈ fx_tb, w.before args s = true) ∧ meth.locks = false ∧ fx_lv y + 1 ≤ R.frames ∧ 40 * (fx_lv y + 1) ≤ R.locals ∧ cells ≤ R.cells ∧ slots ≤ R.slots
def fx_Wd (G : fx_G) (s : State) (σ : fx_M) (H : Heap) (locs : List Loc) : Prop := va_K (fx_gD G) fx_cl (fx_gt G) s ∧ va_P (fx_gD G) fx_cl (fx_ws G σ) H ∧ va_D (fx_A G) (fx_ws G σ) ∧ va_S (fx_A G) s.heap H locs ∧ fx_Sa (fx_ga G) (fx_A G) s s.heap
def fx_WW (p : Program) (l : Launch) (e : Env) (R : Room) (s : State) (m : MethodId) (args : Array Value) (below : List Frame) (meth : Method) (c : Code) (cells slots : Nat) (Q : State → Prop) (G : fx_G) (pc : Nat) (ls : fx_L) (st : List fx_V) (σ : fx_M) : Prop :=
  ∀ (H : Heap) (locs : List Loc) (jl : Array Slot), fx_Wd G s σ H locs → fx_Lo (fx_ga G) jl ls → W p l e R s m args below meth c H locs cells slots Q (F0 m pc jl (st.map (fx_re (fx_ga G))))
section FXR
variable {p : Program} {l : Launch} {e : Env} {R : Room} {s : State} {m : MethodId} {args : Array Value} {below : List Frame} {meth : Method} {c : Code} {cells slots : Nat} {Q : State → Prop} {G : fx_G} {y pc : Nat} {ls : fx_L} {st : List fx_V} {σ : fx_M}
theorem fxw_iconst (C : fx_Cx p s m meth c args R cells slots y) {n : Int} (hd : decode (fx_by y) pc = .ok (.iconst n, 1)) (k : fx_WW p l e R s m args below meth c cells slots Q G (pc + 1) ls (.inl n :: st) σ) : fx_WW p l e R s m args below meth c cells slots Q G pc ls st σ :=
  fun H locs jl hW hL => lv_iconst C.1 C.2.1 hd rfl (k H locs jl hW hL)
theorem fxw_bipush (C : fx_Cx p s m meth c args R cells slots y) {n : Int} (hd : decode (fx_by y) pc = .ok (.bipush n, 2)) (hn : (Int8.ofInt n).toInt32 = Int32.ofInt n) (k : fx_WW p l e R s m args below meth c cells slots Q G (pc + 2) ls (.inl n :: st) σ) : fx_WW p l e R s m args below meth c cells slots Q G pc ls st σ :=
  fun H locs jl hW hL => lv_bipush C.1 C.2.1 hd hn (k H locs jl hW hL)
theorem fxw_sipush (C : fx_Cx p s m meth c args R cells slots y) {n : Int} (hd : decode (fx_by y) pc = .ok (.sipush n, 3)) (hn : (Int16.ofInt n).toInt32 = Int32.ofInt n) (k : fx_WW p l e R s m args below meth c cells slots Q G (pc + 3) ls (.inl n :: st) σ) : fx_WW p l e R s m args below meth c cells slots Q G pc ls st σ :=
  fun H locs jl hW hL => lv_sipush C.1 C.2.1 hd hn (k H locs jl hW hL)
theorem fx_kd_in {o i : Nat} {n : Int} (h : fx_kd o i = some n) : Cond.constant (fx_cs o) i (fx_I n) ∈ fx_tb := by
  unfold fx_kd at h
  rw [Option.map_eq_some_iff] at h
  obtain ⟨e, he, h2⟩ := h
  have h3 := List.find?_some he
  simp only [Bool.and_eq_true, beq_iff_eq] at h3
  have h4 := fx_w9 _ (List.mem_map.mpr ⟨e, List.mem_of_find?_eq_some he, rfl⟩)
  rw [h3.1, h3.2, h2] at h4
  exact h4
theorem fxw_ldc (C : fx_Cx p s m meth c args R cells slots y) {i : Nat} {n : Int} (hn : fx_kd (fx_own y) i = some n) (hd : decode (fx_by y) pc = .ok (.ldc i, 2)) (k : fx_WW p l e R s m args below meth c cells slots Q G (pc + 2) ls (.inl n :: st) σ) : fx_WW p l e R s m args below meth c cells slots Q G pc ls st σ :=
  fun H locs jl hW hL => lv_ldc C.1 C.2.1 C.2.2.2.2.1 (C.2.2.2.2.2.1 _ (fx_kd_in hn)) hd (k H locs jl hW hL)
theorem fxw_ldcw (C : fx_Cx p s m meth c args R cells slots y) {i : Nat} {n : Int} (hn : fx_kd (fx_own y) i = some n) (hd : decode (fx_by y) pc = .ok (.ldc_w i, 3)) (k : fx_WW p l e R s m args below meth c cells slots Q G (pc + 3) ls (.inl n :: st) σ) : fx_WW p l e R s m args below meth c cells slots Q G pc ls st σ :=
  fun H locs jl hW hL => lv_ldcw C.1 C.2.1 C.2.2.2.2.1 (C.2.2.2.2.2.1 _ (fx_kd_in hn)) hd (k H locs jl hW hL)
theorem fxw_null (C : fx_Cx p s m meth c args R cells slots y) (hd : decode (fx_by y) pc = .ok (.aconst_null, 1)) (k : fx_WW p l e R s m args below meth c cells slots Q G (pc + 1) ls (.inr none :: st) σ) : fx_WW p l e R s m args below meth c cells slots Q G pc ls st σ :=
  fun H locs jl hW hL => lv_null C.1 C.2.1 hd (k H locs jl hW hL)
theorem fxw_iload_n (C : fx_Cx p s m meth c args R cells slots y) {k : Fin 4} {x : Int} (hd : decode (fx_by y) pc = .ok (.iload_n k, 1)) (hl : ls[k.val]? = some (some (.inl x))) (kk : fx_WW p l e R s m args below meth c cells slots Q G (pc + 1) ls (.inl x :: st) σ) : fx_WW p l e R s m args below meth c cells slots Q G pc ls st σ :=
  fun H locs jl hW hL => lv_iload_n C.1 C.2.1 hd rfl (hL.2.2 _ _ hl) (kk H locs jl hW hL)
theorem fxw_iload (C : fx_Cx p s m meth c args R cells slots y) {k : Nat} {x : Int} (hd : decode (fx_by y) pc = .ok (.iload k, 2)) (hl : ls[k]? = some (some (.inl x))) (kk : fx_WW p l e R s m args below meth c cells slots Q G (pc + 2) ls (.inl x :: st) σ) : fx_WW p l e R s m args below meth c cells slots Q G pc ls st σ :=
  fun H locs jl hW hL => lv_iload C.1 C.2.1 hd (hL.2.2 _ _ hl) (kk H locs jl hW hL)
theorem fxw_aload_n (C : fx_Cx p s m meth c args R cells slots y) {k : Fin 4} {x : Option (Nat × Nat)} (hd : decode (fx_by y) pc = .ok (.aload_n k, 1)) (hl : ls[k.val]? = some (some (.inr x))) (kk : fx_WW p l e R s m args below meth c cells slots Q G (pc + 1) ls (.inr x :: st) σ) : fx_WW p l e R s m args below meth c cells slots Q G pc ls st σ := by
  intro H locs jl hW hL
  cases x with
  | none => exact lv_aload_nN C.1 C.2.1 hd rfl (hL.2.2 _ _ hl) (kk H locs jl hW hL)
  | some q => exact lv_aload_n C.1 C.2.1 hd rfl (hL.2.2 _ _ hl) (kk H locs jl hW hL)
theorem fxw_aload (C : fx_Cx p s m meth c args R cells slots y) {k : Nat} {x : Option (Nat × Nat)} (hd : decode (fx_by y) pc = .ok (.aload k, 2)) (hl : ls[k]? = some (some (.inr x))) (kk : fx_WW p l e R s m args below meth c cells slots Q G (pc + 2) ls (.inr x :: st) σ) : fx_WW p l e R s m args below meth c cells slots Q G pc ls st σ := by
  intro H locs jl hW hL
  cases x with
  | none => exact lv_aloadN C.1 C.2.1 hd (hL.2.2 _ _ hl) (kk H locs jl hW hL)
  | some q => exact lv_aload C.1 C.2.1 hd (hL.2.2 _ _ hl) (kk H locs jl hW hL)
theorem fxw_istore_n (C : fx_Cx p s m meth c args R cells slots y) {k : Fin 4} {x : Int} (hd : decode (fx_by y) pc = .ok (.istore_n k, 1)) (hk : k.val < ls.length) (kk : fx_WW p l e R s m args below meth c cells slots Q G (pc + 1) (ls.set k.val (some (.inl x))) st σ) : fx_WW p l e R s m args below meth c cells slots Q G pc ls (.inl x :: st) σ :=
  fun H locs jl hW hL => lv_istore_n C.1 C.2.1 hd rfl hL.has hk rfl (fun jl' h => kk H locs jl' hW (fx_Lo.set h))
theorem fxw_istore (C : fx_Cx p s m meth c args R cells slots y) {k : Nat} {x : Int} (hd : decode (fx_by y) pc = .ok (.istore k, 2)) (hk : k < ls.length) (kk : fx_WW p l e R s m args below meth c cells slots Q G (pc + 2) (ls.set k (some (.inl x))) st σ) : fx_WW p l e R s m args below meth c cells slots Q G pc ls (.inl x :: st) σ :=
  fun H locs jl hW hL => lv_istore C.1 C.2.1 hd hL.has hk rfl (fun jl' h => kk H locs jl' hW (fx_Lo.set h))
theorem fxw_astore_n (C : fx_Cx p s m meth c args R cells slots y) {k : Fin 4} {x : Option (Nat × Nat)} (hd : decode (fx_by y) pc = .ok (.astore_n k, 1)) (hk : k.val < ls.length) (kk : fx_WW p l e R s m args below meth c cells slots Q G (pc + 1) (ls.set k.val (some (.inr x))) st σ) : fx_WW p l e R s m args below meth c cells slots Q G pc ls (.inr x :: st) σ := by
  intro H locs jl hW hL
  cases x with
  | none => exact lv_astore_nN C.1 C.2.1 hd rfl hL.has hk rfl (fun jl' h => kk H locs jl' hW (fx_Lo.set h))
  | some q => exact lv_astore_n C.1 C.2.1 hd rfl hL.has hk rfl (fun jl' h => kk H locs jl' hW (fx_Lo.set h))
theorem fxw_astore (C : fx_Cx p s m meth c args R cells slots y) {k : Nat} {x : Option (Nat × Nat)} (hd : decode (fx_by y) pc = .ok (.astore k, 2)) (hk : k < ls.length) (kk : fx_WW p l e R s m args below meth c cells slots Q G (pc + 2) (ls.set k (some (.inr x))) st σ) : fx_WW p l e R s m args below meth c cells slots Q G pc ls (.inr x :: st) σ := by
  intro H locs jl hW hL
  cases x with
  | none => exact lv_astoreN C.1 C.2.1 hd hL.has hk rfl (fun jl' h => kk H locs jl' hW (fx_Lo.set h))
  | some q => exact lv_astore C.1 C.2.1 hd hL.has hk rfl (fun jl' h => kk H locs jl' hW (fx_Lo.set h))
theorem fxw_iinc (C : fx_Cx p s m meth c args R cells slots y) {k : Nat} {n x : Int} (hd : decode (fx_by y) pc = .ok (.iinc k n, 3)) (hl : ls[k]? = some (some (.inl x))) (kk : fx_WW p l e R s m args below meth c cells slots Q G (pc + 3) (ls.set k (some (.inl (x + n)))) st σ) : fx_WW p l e R s m args below meth c cells slots Q G pc ls st σ := by
  intro H locs jl hW hL
  obtain ⟨j, hj⟩ := fx_kn_at (ad := fx_ga G) hl
  exact lv_iinc (v := fx_I (x + n)) C.1 C.2.1 hd hL.has hj (Int32.ofInt_add x n).symm (List.getElem?_eq_some_iff.mp hl).1 rfl (fun jl' h => kk H locs jl' hW (fx_Lo.set h))
theorem fxw_iadd (C : fx_Cx p s m meth c args R cells slots y) {a b : Int} (hd : decode (fx_by y) pc = .ok (.iadd, 1)) (kk : fx_WW p l e R s m args below meth c cells slots Q G (pc + 1) ls (.inl (a + b) :: st) σ) : fx_WW p l e R s m args below meth c cells slots Q G pc ls (.inl b :: .inl a :: st) σ := by
  intro H locs jl hW hL
  have h := kk H locs jl hW hL
  simp only [List.map_cons, fx_re, fx_I, Int32.ofInt_add] at h
  exact lv_iadd C.1 C.2.1 hd h
theorem fxw_isub (C : fx_Cx p s m meth c args R cells slots y) {a b : Int} (hd : decode (fx_by y) pc = .ok (.isub, 1)) (kk : fx_WW p l e R s m args below meth c cells slots Q G (pc + 1) ls (.inl (a - b) :: st) σ) : fx_WW p l e R s m args below meth c cells slots Q G pc ls (.inl b :: .inl a :: st) σ := by
  intro H locs jl hW hL
  have h := kk H locs jl hW hL
  simp only [List.map_cons, fx_re, fx_I, Int32.ofInt_sub] at h
  exact lv_isub C.1 C.2.1 hd h
theorem fxw_imul (C : fx_Cx p s m meth c args R cells slots y) {a b : Int} (hd : decode (fx_by y) pc = .ok (.imul, 1)) (kk : fx_WW p l e R s m args below meth c cells slots Q G (pc + 1) ls (.inl (a * b) :: st) σ) : fx_WW p l e R s m args below meth c cells slots Q G pc ls (.inl b :: .inl a :: st) σ := by
  intro H locs jl hW hL
  have h := kk H locs jl hW hL
  simp only [List.map_cons, fx_re, fx_I, Int32.ofInt_mul] at h
  exact lv_imul C.1 C.2.1 hd h
theorem fxw_idiv (C : fx_Cx p s m meth c args R cells slots y) {a b : Int} (ha : fx_in a) (h0 : 0 < b) (hb : b ≤ 2147483647) (hd : decode (fx_by y) pc = .ok (.idiv, 1)) (kk : fx_WW p l e R s m args below meth c cells slots Q G (pc + 1) ls (.inl (a.tdiv b) :: st) σ) : fx_WW p l e R s m args below meth c cells slots Q G pc ls (.inl b :: .inl a :: st) σ := by
  intro H locs jl hW hL
  have h := kk H locs jl hW hL
  simp only [List.map_cons, fx_re, ← fx_div ha h0 hb] at h
  exact lv_idiv C.1 C.2.1 hd (fx_ne0 h0 hb) h
theorem fxw_irem (C : fx_Cx p s m meth c args R cells slots y) {a b : Int} (ha : fx_in a) (h0 : 0 < b) (hb : b ≤ 2147483647) (hd : decode (fx_by y) pc = .ok (.irem, 1)) (kk : fx_WW p l e R s m args below meth c cells slots Q G (pc + 1) ls (.inl (a.tmod b) :: st) σ) : fx_WW p l e R s m args below meth c cells slots Q G pc ls (.inl b :: .inl a :: st) σ := by
  intro H locs jl hW hL
  have h := kk H locs jl hW hL
  simp only [List.map_cons, fx_re, ← fx_rem ha h0 hb] at h
  exact lv_irem C.1 C.2.1 hd (fx_ne0 h0 hb) h
theorem fxw_iand (C : fx_Cx p s m meth c args R cells slots y) {a b : Int} (hd : decode (fx_by y) pc = .ok (.iand, 1)) (kk : fx_WW p l e R s m args below meth c cells slots Q G (pc + 1) ls (.inl ((fx_I a &&& fx_I b).toInt) :: st) σ) : fx_WW p l e R s m args below meth c cells slots Q G pc ls (.inl b :: .inl a :: st) σ := by
  intro H locs jl hW hL
  have h := kk H locs jl hW hL
  simp only [List.map_cons, fx_re, fx_I, Int32.ofInt_toInt] at h
  exact lv_iand C.1 C.2.1 hd h
theorem fxw_ior (C : fx_Cx p s m meth c args R cells slots y) {a b : Int} (hd : decode (fx_by y) pc = .ok (.ior, 1)) (kk : fx_WW p l e R s m args below meth c cells slots Q G (pc + 1) ls (.inl ((fx_I a ||| fx_I b).toInt) :: st) σ) : fx_WW p l e R s m args below meth c cells slots Q G pc ls (.inl b :: .inl a :: st) σ := by
  intro H locs jl hW hL
  have h := kk H locs jl hW hL
  simp only [List.map_cons, fx_re, fx_I, Int32.ofInt_toInt] at h
  exact lv_ior C.1 C.2.1 hd h
theorem fxw_ixor (C : fx_Cx p s m meth c args R cells slots y) {a b : Int} (hd : decode (fx_by y) pc = .ok (.ixor, 1)) (kk : fx_WW p l e R s m args below meth c cells slots Q G (pc + 1) ls (.inl ((fx_I a ^^^ fx_I b).toInt) :: st) σ) : fx_WW p l e R s m args below meth c cells slots Q G pc ls (.inl b :: .inl a :: st) σ := by
  intro H locs jl hW hL
  have h := kk H locs jl hW hL
  simp only [List.map_cons, fx_re, fx_I, Int32.ofInt_toInt] at h
  exact lv_ixor C.1 C.2.1 hd h
theorem fxw_ishl (C : fx_Cx p s m meth c args R cells slots y) {a b : Int} (hd : decode (fx_by y) pc = .ok (.ishl, 1)) (kk : fx_WW p l e R s m args below meth c cells slots Q G (pc + 1) ls (.inl ((fx_I a <<< (fx_I b &&& 31)).toInt) :: st) σ) : fx_WW p l e R s m args below meth c cells slots Q G pc ls (.inl b :: .inl a :: st) σ := by
  intro H locs jl hW hL
  have h := kk H locs jl hW hL
  simp only [List.map_cons, fx_re, fx_I, Int32.ofInt_toInt] at h
  exact lv_ishl C.1 C.2.1 hd h
theorem fxw_ishr (C : fx_Cx p s m meth c args R cells slots y) {a b : Int} (hd : decode (fx_by y) pc = .ok (.ishr, 1)) (kk : fx_WW p l e R s m args below meth c cells slots Q G (pc + 1) ls (.inl ((fx_I a >>> (fx_I b &&& 31)).toInt) :: st) σ) : fx_WW p l e R s m args below meth c cells slots Q G pc ls (.inl b :: .inl a :: st) σ := by
  intro H locs jl hW hL
  have h := kk H locs jl hW hL
  simp only [List.map_cons, fx_re, fx_I, Int32.ofInt_toInt] at h
  exact lv_ishr C.1 C.2.1 hd h
theorem fxw_iushr (C : fx_Cx p s m meth c args R cells slots y) {a b : Int} (hd : decode (fx_by y) pc = .ok (.iushr, 1)) (kk : fx_WW p l e R s m args below meth c cells slots Q G (pc + 1) ls (.inl (((fx_I a).toUInt32 >>> ((fx_I b).toUInt32 &&& Int32.toUInt32 31)).toInt32.toInt) :: st) σ) : fx_WW p l e R s m args below meth c cells slots Q G pc ls (.inl b :: .inl a :: st) σ := by
  intro H locs jl hW hL
  have h := kk H locs jl hW hL
  simp only [List.map_cons, fx_re, fx_I, Int32.ofInt_toInt] at h
  exact lv_iushr C.1 C.2.1 hd rfl h
theorem fxw_ineg (C : fx_Cx p s m meth c args R cells slots y) {a : Int} (hd : decode (fx_by y) pc = .ok (.ineg, 1)) (kk : fx_WW p l e R s m args below meth c cells slots Q G (pc + 1) ls (.inl (-a) :: st) σ) : fx_WW p l e R s m args below meth c cells slots Q G pc ls (.inl a :: st) σ := by
  intro H locs jl hW hL
  have h := kk H locs jl hW hL
  simp only [List.map_cons, fx_re, fx_I, Int32.ofInt_neg] at h
  exact lv_ineg C.1 C.2.1 hd h
theorem fxw_dup (C : fx_Cx p s m meth c args R cells slots y) {v : fx_V} (hd : decode (fx_by y) pc = .ok (.dup, 1)) (kk : fx_WW p l e R s m args below meth c cells slots Q G (pc + 1) ls (v :: v :: st) σ) : fx_WW p l e R s m args below meth c cells slots Q G pc ls (v :: st) σ :=
  fun H locs jl hW hL => lv_dup C.1 C.2.1 hd (fx_re_cat _ v) (kk H locs jl hW hL)
theorem fxw_dup2 (C : fx_Cx p s m meth c args R cells slots y) {v w : fx_V} (hd : decode (fx_by y) pc = .ok (.dup2, 1)) (kk : fx_WW p l e R s m args below meth c cells slots Q G (pc + 1) ls (v :: w :: v :: w :: st) σ) : fx_WW p l e R s m args below meth c cells slots Q G pc ls (v :: w :: st) σ :=
  fun H locs jl hW hL => lv_dup2_11 C.1 C.2.1 hd (fx_re_cat _ v) (fx_re_cat _ w) (kk H locs jl hW hL)
theorem fxw_if1 (C : fx_Cx p s m meth c args R cells slots y) {cc : ClassFile.Cond} {a off : Int} {tgt : Nat} (ha : fx_in a) (hd : decode (fx_by y) pc = .ok (.ifCond cc off, 3)) (ht : (pc : Int) + off = (tgt : Int)) (kt : fx_cm cc a 0 = true → fx_WW p l e R s m args below meth c cells slots Q G tgt ls st σ) (kf : fx_cm cc a 0 = false → fx_WW p l e R s m args below meth c cells slots Q G (pc + 3) ls st σ) : fx_WW p l e R s m args below meth c cells slots Q G pc ls (.inl a :: st) σ := by
  intro H locs jl hW hL
  have e1 := fx_inj ha fx_in0
  have e2 := fx_lt ha fx_in0
  have e3 := fx_le ha fx_in0
  have e4 := fx_lt fx_in0 ha
  have e5 := fx_le fx_in0 ha
  rw [fx_I0] at e1 e2 e3 e4 e5
  by_cases hc : fx_cm cc a 0 = true
  · have k2 := kt hc H locs jl hW hL
    cases cc <;> simp only [fx_cm, decide_eq_true_eq] at hc
    · exact lv_if_eq (tgt := tgt) C.1 C.2.1 hd ht (fun _ => k2) (fun h => absurd (e1.mpr hc) h)
    · exact lv_if_ne (tgt := tgt) C.1 C.2.1 hd ht (fun _ => k2) (fun h => absurd (e1.mp h) hc)
    · exact lv_if_lt (tgt := tgt) C.1 C.2.1 hd ht (fun _ => k2) (fun h => absurd (e2.mpr hc) h)
    · exact lv_if_ge (tgt := tgt) C.1 C.2.1 hd ht (fun _ => k2) (fun h => absurd (e5.mpr hc) h)
    · exact lv_if_gt (tgt := tgt) C.1 C.2.1 hd ht (fun _ => k2) (fun h => absurd (e4.mpr hc) h)
    · exact lv_if_le (tgt := tgt) C.1 C.2.1 hd ht (fun _ => k2) (fun h => absurd (e3.mpr hc) h)
  · have k2 := kf (by simpa using hc) H locs jl hW hL
    cases cc <;> simp only [fx_cm, decide_eq_true_eq] at hc
    · exact lv_if_eq (tgt := tgt) C.1 C.2.1 hd ht (fun h => absurd (e1.mp h) hc) (fun _ => k2)
    · exact lv_if_ne (tgt := tgt) C.1 C.2.1 hd ht (fun h => absurd (fun q => h (e1.mpr q)) hc) (fun _ => k2)
    · exact lv_if_lt (tgt := tgt) C.1 C.2.1 hd ht (fun h => absurd (e2.mp h) hc) (fun _ => k2)
    · exact lv_if_ge (tgt := tgt) C.1 C.2.1 hd ht (fun h => absurd (e5.mp h) hc) (fun _ => k2)
    · exact lv_if_gt (tgt := tgt) C.1 C.2.1 hd ht (fun h => absurd (e4.mp h) hc) (fun _ => k2)
    · exact lv_if_le (tgt := tgt) C.1 C.2.1 hd ht (fun h => absurd (e3.mp h) hc) (fun _ => k2)
theorem fxw_if2 (C : fx_Cx p s m meth c args R cells slots y) {cc : ClassFile.Cond} {a b off : Int} {tgt : Nat} (ha : fx_in a) (hb : fx_in b) (hd : decode (fx_by y) pc = .ok (.if_icmp cc off, 3)) (ht : (pc : Int) + off = (tgt : Int)) (kt : fx_cm cc a b = true → fx_WW p l e R s m args below meth c cells slots Q G tgt ls st σ) (kf : fx_cm cc a b = false → fx_WW p l e R s m args below meth c cells slots Q G (pc + 3) ls st σ) : fx_WW p l e R s m args below meth c cells slots Q G pc ls (.inl b :: .inl a :: st) σ := by
  intro H locs jl hW hL
  have e1 := fx_inj ha hb
  have e2 := fx_lt ha hb
  have e3 := fx_le ha hb
  have e4 := fx_lt hb ha
  have e5 := fx_le hb ha
  by_cases hc : fx_cm cc a b = true
  · have k2 := kt hc H locs jl hW hL
    cases cc <;> simp only [fx_cm, decide_eq_true_eq] at hc
    · exact lv_icmp_eq (tgt := tgt) C.1 C.2.1 hd ht (fun _ => k2) (fun h => absurd (e1.mpr hc) h)
    · exact lv_icmp_ne (tgt := tgt) C.1 C.2.1 hd ht (fun _ => k2) (fun h => absurd (e1.mp h) hc)
    · exact lv_icmp_lt (tgt := tgt) C.1 C.2.1 hd ht (fun _ => k2) (fun h => absurd (e2.mpr hc) h)
    · exact lv_icmp_ge (tgt := tgt) C.1 C.2.1 hd ht (fun _ => k2) (fun h => absurd (e5.mpr hc) h)
    · exact lv_icmp_gt (tgt := tgt) C.1 C.2.1 hd ht (fun _ => k2) (fun h => absurd (e4.mpr hc) h)
    · exact lv_icmp_le (tgt := tgt) C.1 C.2.1 hd ht (fun _ => k2) (fun h => absurd (e3.mpr hc) h)
  · have k2 := kf (by simpa using hc) H locs jl hW hL
    cases cc <;> simp only [fx_cm, decide_eq_true_eq] at hc
    · exact lv_icmp_eq (tgt := tgt) C.1 C.2.1 hd ht (fun h => absurd (e1.mp h) hc) (fun _ => k2)
    · exact lv_icmp_ne (tgt := tgt) C.1 C.2.1 hd ht (fun h => absurd (fun q => h (e1.mpr q)) hc) (fun _ => k2)
    · exact lv_icmp_lt (tgt := tgt) C.1 C.2.1 hd ht (fun h => absurd (e2.mp h) hc) (fun _ => k2)
    · exact lv_icmp_ge (tgt := tgt) C.1 C.2.1 hd ht (fun h => absurd (e5.mp h) hc) (fun _ => k2)
    · exact lv_icmp_gt (tgt := tgt) C.1 C.2.1 hd ht (fun h => absurd (e4.mp h) hc) (fun _ => k2)
    · exact lv_icmp_le (tgt := tgt) C.1 C.2.1 hd ht (fun h => absurd (e3.mp h) hc) (fun _ => k2)
theorem fxw_goto (C : fx_Cx p s m meth c args R cells slots y) {off : Int} {tgt : Nat} (hd : decode (fx_by y) pc = .ok (.goto off, 3)) (ht : (pc : Int) + off = (tgt : Int)) (kk : fx_WW p l e R s m args below meth c cells slots Q G tgt ls st σ) : fx_WW p l e R s m args below meth c cells slots Q G pc ls st σ :=
  fun H locs jl hW hL => lv_goto C.1 C.2.1 hd ht (kk H locs jl hW hL)
theorem fxw_ifnullN (C : fx_Cx p s m meth c args R cells slots y) {off : Int} {tgt : Nat} (hd : decode (fx_by y) pc = .ok (.ifnull off, 3)) (ht : (pc : Int) + off = (tgt : Int)) (kk : fx_WW p l e R s m args below meth c cells slots Q G tgt ls st σ) : fx_WW p l e R s m args below meth c cells slots Q G pc ls (.inr none :: st) σ :=
  fun H locs jl hW hL => lv_ifnullN C.1 C.2.1 hd ht (kk H locs jl hW hL)
theorem fxw_ifnull (C : fx_Cx p s m meth c args R cells slots y) {off : Int} {q : Nat × Nat} (hd : decode (fx_by y) pc = .ok (.ifnull off, 3)) (kk : fx_WW p l e R s m args below meth c cells slots Q G (pc + 3) ls st σ) : fx_WW p l e R s m args below meth c cells slots Q G pc ls (.inr (some q) :: st) σ :=
  fun H locs jl hW hL => lv_ifnull C.1 C.2.1 hd (kk H locs jl hW hL)
theorem fxw_ifnonnullN (C : fx_Cx p s m meth c args R cells slots y) {off : Int} (hd : decode (fx_by y) pc = .ok (.ifnonnull off, 3)) (kk : fx_WW p l e R s m args below meth c cells slots Q G (pc + 3) ls st σ) : fx_WW p l e R s m args below meth c cells slots Q G pc ls (.inr none :: st) σ :=
  fun H locs jl hW hL => lv_ifnonnullN C.1 C.2.1 hd (kk H locs jl hW hL)
theorem fxw_ifnonnull (C : fx_Cx p s m meth c args R cells slots y) {off : Int} {tgt : Nat} {q : Nat × Nat} (hd : decode (fx_by y) pc = .ok (.ifnonnull off, 3)) (ht : (pc : Int) + off = (tgt : Int)) (kk : fx_WW p l e R s m args below meth c cells slots Q G tgt ls st σ) : fx_WW p l e R s m args below meth c cells slots Q G pc ls (.inr (some q) :: st) σ :=
  fun H locs jl hW hL => lv_ifnonnull C.1 C.2.1 hd ht (kk H locs jl hW hL)
theorem fxw_tswO (C : fx_Cx p s m meth c args R cells slots y) {d lo hi : Int} {offs : Array Int} {len : Nat} {x : Int} {tgt : Nat} (hx : fx_in x) (hd : decode (fx_by y) pc = .ok (.tableswitch d lo hi offs, len)) (h : x < lo ∨ hi < x) (ht : (pc : Int) + d = (tgt : Int)) (kk : fx_WW p l e R s m args below meth c cells slots Q G tgt ls st σ) : fx_WW p l e R s m args below meth c cells slots Q G pc ls (.inl x :: st) σ :=
  fun H locs jl hW hL => lv_tableOut C.1 C.2.1 hd (by rw [fx_toInt hx]; exact h) ht (kk H locs jl hW hL)
theorem fxw_tswI (C : fx_Cx p s m meth c args R cells slots y) {d lo hi : Int} {offs : Array Int} {len : Nat} {x off : Int} {tgt : Nat} (hx : fx_in x) (hd : decode (fx_by y) pc = .ok (.tableswitch d lo hi offs, len)) (h1 : ¬ x < lo) (h2 : ¬ hi < x) (ho : offs[(x - lo).toNat]? = some off) (ht : (pc : Int) + off = (tgt : Int)) (kk : fx_WW p l e R s m args below meth c cells slots Q G tgt ls st σ) : fx_WW p l e R s m args below meth c cells slots Q G pc ls (.inl x :: st) σ :=
  fun H locs jl hW hL => lv_tableIn C.1 C.2.1 hd (by rw [fx_toInt hx]; exact h1) (by rw [fx_toInt hx]; exact h2) (by rw [fx_toInt hx]; exact ho) ht (kk H locs jl hW hL)
theorem fx_cl_in {ci : Nat} {r : vw_C} (h : fx_cl[ci]? = some r) : ∀ w ∈ u_ws r.1 r.2.1 r.2.2, w ∈ fx_tb := by
  match ci, h with
  | 0, h => cases h; exact inX0
  | 1, h => cases h; exact inX1
  | 2, h => cases h; exact inX2
  | 3, h => cases h; exact inX3
  | 4, h => cases h; exact inX4
  | 5, h => cases h; exact inX5
  | 6, h => cases h; exact inX6
  | 7, h => cases h; exact inX7
  | n + 8, h => simp at h
theorem fx_fT_lt : ∀ e ∈ fx_fT, e.2.1 < 8 ∧ e.2.2 < (fx_cl.getD e.2.1 (RX0, TX0, 7)).2.2 := by decide +kernel
theorem fx_fd_in {o i ci k : Nat} (h : fx_fd o i = some (ci, k)) : ∃ r : vw_C, fx_cl[ci]? = some r ∧ k < r.2.2 ∧ r = fx_cl.getD ci (RX0, TX0, 7) ∧ Cond.fieldLink (fx_cs o) i (r.2.1 k).1 (r.2.1 k).2.1 (r.2.1 k).2.2.1 ∈ fx_tb := by
  unfold fx_fd at h
  rw [Option.map_eq_some_iff] at h
  obtain ⟨e, he, h2⟩ := h
  have h3 := List.find?_some he
  simp only [Bool.and_eq_true, beq_iff_eq] at h3
  have hm := List.mem_of_find?_eq_some he
  have h4 := fx_w7 _ (List.mem_map.mpr ⟨e, hm, rfl⟩)
  have h5 := fx_fT_lt e hm
  rw [h3.1, h3.2, h2] at h4
  rw [h2] at h5
  refine ⟨fx_cl.getD ci (RX0, TX0, 7), ?_, h5.2, rfl, h4⟩
  rw [List.getD_eq_getElem?_getD]
  have h6 : ci < fx_cl.length := h5.1
  rw [List.getElem?_eq_getElem h6]
  rfl
theorem fx_mem_gl {G : fx_G} (hG : fx_Ok G) {o g : Nat} (ha : fx_al G (.inr (some (o, g)))) (h : fx_ak o ≠ 4) : (o, g) ∈ fx_gl G := by
  rcases ha with ha | ⟨h1, -⟩
  · exact ha
  · exfalso
    have h1 : o = 90 ∨ o = 91 ∨ o = 92 := h1
    rcases h1 with rfl | rfl | rfl <;> exact h rfl
theorem fx_ob_ak {o ci : Nat} {fl : List (Option (Nat → Nat × Nat))} (h : fx_ob o = some (ci, fl)) : fx_ak o = 0 := by
  unfold fx_ob at h
  unfold fx_ak
  repeat' (split at h)
  all_goals first | (cases h; done) | simp_all
theorem fxw_getf (C : fx_Cx p s m meth c args R cells slots y) {i ci k o g : Nat} {fl : List (Option (Nat → Nat × Nat))} {v : fx_V} (hm : (o, g) ∈ fx_gl G) (hf : fx_fd (fx_own y) i = some (ci, k)) (ho : fx_ob o = some (ci, fl)) (hv : (fx_fl (fx_ga G) σ o g 0 fl)[k]? = some (fx_re (fx_ga G) v)) (hd : decode (fx_by y) pc = .ok (.getfield i, 3)) (kk : fx_WW p l e R s m args below meth c cells slots Q G (pc + 3) ls (v :: st) σ) : fx_WW p l e R s m args below meth c cells slots Q G pc ls (.inr (some (o, g)) :: st) σ := by
  intro H locs jl hW hL
  obtain ⟨q, hq⟩ := fx_mem_at hm
  obtain ⟨r, h1, h2, -, h3⟩ := fx_fd_in hf
  have hc : fx_ce G σ o g = .inr (ci, fx_fl (fx_ga G) σ o g 0 fl) := by unfold fx_ce; rw [ho]
  have hw := fx_ws_at G σ hq
  rw [hc] at hw
  exact va_get C.1 C.2.1 C.2.2.2.2.2.1 (fx_cl_in h1) C.2.2.2.2.1 hW.1 hW.2.1 q hw h1 k h2 (C.2.2.2.2.2.1 _ h3) (fun _ h => h) hv hd (kk H locs jl hW hL)
end FXR
