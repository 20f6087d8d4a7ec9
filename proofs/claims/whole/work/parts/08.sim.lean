/-! the simulation -/
theorem fx_go_ite {q : Prop} [Decidable q] {f : fx_Z → Option fx_R} {a : fx_O} {r : fx_R} (h : fx_go f (if q then a else fx_no) = some r) : q ∧ fx_go f a = some r := by
  by_cases hq : q
  · rw [if_pos hq] at h; exact ⟨hq, h⟩
  · rw [if_neg hq] at h; cases h
theorem fx_go_jp {f : fx_Z → Option fx_R} {y pc : Nat} {off : Int} {ls : fx_L} {st : List fx_V} {σ : fx_M} {r : fx_R} (h : fx_go f (fx_jp y pc off ls st σ) = some r) : ∃ tgt : Nat, (pc : Int) + off = (tgt : Int) ∧ f (y, tgt, ls, st, σ) = some r := by
  unfold fx_jp at h
  obtain ⟨h1, h2⟩ := fx_go_ite h
  exact ⟨((pc : Int) + off).toNat, by omega, h2⟩
theorem fx_go_br {f : fx_Z → Option fx_R} {b : Bool} {x y : fx_Z} {r : fx_R} (h : fx_go f (if b = true then .inl x else .inl y) = some r) : (b = true → f x = some r) ∧ (b = false → f y = some r) := by
  cases b with
  | true => exact ⟨fun _ => h, (fun q => by cases q)⟩
  | false => exact ⟨(fun q => by cases q), fun _ => h⟩
theorem fx_sd_o {o i q : Nat} {n : String} (h : fx_sd o i = some (q, n)) : q = 90 ∨ q = 91 ∨ q = 92 := by
  unfold fx_sd at h
  rw [Option.map_eq_some_iff] at h
  obtain ⟨e, he, h2⟩ := h
  have h5 := fx_sT_ok e (List.mem_of_find?_eq_some he)
  rw [h2] at h5
  simp only [List.mem_cons, Prod.mk.injEq, List.not_mem_nil, or_false] at h5
  rcases h5 with h | h | h
  · exact Or.inl h.1
  · exact Or.inr (Or.inl h.1)
  · exact Or.inr (Or.inr h.1)
theorem fx_nd_o {o i q : Nat} {n : String} (h : fx_nd o i = some (q, n)) : q = 90 ∨ q = 91 ∨ q = 92 := by
  unfold fx_nd at h
  rw [Option.map_eq_some_iff] at h
  obtain ⟨e, he, h2⟩ := h
  have h5 := fx_nT_ok e (List.mem_of_find?_eq_some he)
  rw [h2] at h5
  simp only [List.mem_cons, Prod.mk.injEq, List.not_mem_nil, or_false] at h5
  rcases h5 with h | h | h
  · exact Or.inl h.1
  · exact Or.inr (Or.inl h.1)
  · exact Or.inr (Or.inr h.1)
theorem fx_st4 {G : fx_G} (hG : fx_Ok G) {o g : Nat} (ha : fx_al G (.inr (some (o, g)))) (h : fx_ak o = 4) : (o = 90 ∨ o = 91 ∨ o = 92) ∧ g = 0 := by
  rcases ha with ha | ha
  · exact absurd h (hG.2.2.2.2.2.2.2 _ ha)
  · exact ha
def fx_Sim (l : Launch) (G : fx_G) (n : Nat) : Prop := ∀ (y pc : Nat) (ls : fx_L) (st : List fx_V) (σ : fx_M) (r : fx_R), fx_run (fx_gS G) n (y, pc, ls, st, σ) = some r → y < fx_nM → ls.length = fx_mL y → (∀ v ∈ st, fx_al G v) → (∀ v, some v ∈ ls → fx_al G v) →
  (∀ v, r.1 = some v → fx_al G v) ∧ ∀ (p : Program) (e : Env) (R : Room) (s : State) (m : MethodId) (args : Array Value) (below : List Frame) (meth : Method) (c : Code) (cells slots : Nat), fx_Cx p s m meth c args R cells slots y → fx_WW p l e R s m args below meth c cells slots (MQ below (fx_Qc G r) args s cells slots (fx_A G)) G pc ls st σ
theorem fx_ent_al {G : fx_G} {z : Nat} {as : List fx_V} (h : ∀ v ∈ as, fx_al G v) : ∀ v, some v ∈ fx_ent z as → fx_al G v := by
  intro v hv
  unfold fx_ent at hv
  rcases List.mem_append.mp hv with h1 | h1
  · obtain ⟨w, hw, e⟩ := List.mem_map.mp h1
    cases e
    exact h _ hw
  · rw [List.mem_replicate] at h1
    cases h1.2
theorem fx_ent_len {z : Nat} {as : List fx_V} (h : as.length ≤ fx_mL z) : (fx_ent z as).length = fx_mL z := by
  unfold fx_ent
  rw [List.length_append, List.length_map, List.length_replicate]
  omega
theorem fx_met_of {l : Launch} {G : fx_G} {n z : Nat} {as : List fx_V} {σ : fx_M} {r : fx_R} (ih : fx_Sim l G n) (hz : z < fx_nM) (hl : as.length ≤ fx_mL z) (ha : ∀ v ∈ as, fx_al G v) (h : fx_run (fx_gS G) n (z, 0, fx_ent z as, [], σ) = some r) : fx_Met l G z as σ r := by
  have I := ih z 0 (fx_ent z as) [] σ r h hz (fx_ent_len hl) (fun v hv => by cases hv) (fx_ent_al ha)
  refine Met.ofW (cc := fx_by z) (maxL := fx_mL z) (ret := fx_rt z) (fx_w13 z hz).2.1 rfl ?_
  intro p e s m args below meth c s₁ B hml hv
  obtain ⟨rfl, hK, hP, hD, hSa⟩ := hv
  have hts := atoms_spec (ws := fx_WS z) B.pre
  have hown : s.vm.findClass (fx_nm z).cls = some m.cls := findClass_of_methodNamed B.named
  rw [(fx_w13 z hz).1] at hown
  rw [lg_entry_eq]
  exact I.2 p e (headSpec (fx_WS z) (fx_RM z)).room s m _ below meth c 0 0 ⟨B.exec, B.bytes, hml, B.returns, hown, fun w hw => hts w (List.mem_cons_of_mem _ hw), B.notSynchronized, Nat.le_refl _, Nat.le_refl _, Nat.zero_le _, Nat.zero_le _⟩ s.heap [] _ ⟨hK, hP, hD, va_S.rf, hSa⟩ (fx_ent_Lo hl)
theorem fx_set_al {G : fx_G} {ls : fx_L} {k : Nat} {v : fx_V} (h : ∀ v, some v ∈ ls → fx_al G v) (hv : fx_al G v) : ∀ w, some w ∈ ls.set k (some v) → fx_al G w := by
  intro w hw
  rcases List.mem_or_eq_of_mem_set hw with h1 | h1
  · exact h w h1
  · cases h1; exact hv
theorem fx_at_al {G : fx_G} {ls : fx_L} {k : Nat} {v : fx_V} (h : ∀ v, some v ∈ ls → fx_al G v) (hk : ls[k]? = some (some v)) : fx_al G v := h v (List.mem_of_getElem? hk)
set_option maxHeartbeats 4000000 in
theorem fx_sim_step (l : Launch) (G : fx_G) (hG : fx_Ok G) (n : Nat) (ih : fx_Sim l G n) : fx_Sim l G (n + 1) := by
  intro y pc ls st σ r h hy hls hst hll
  replace h : fx_go (fx_run (fx_gS G) n) (fx_st (fx_gS G) (y, pc, ls, st, σ)) = some r := h
  unfold fx_st at h
  cases hd : decode (fx_by (y, pc, ls, st, σ).1) (y, pc, ls, st, σ).2.1 with
  | error e => rw [hd] at h; cases h
  | ok il =>
  obtain ⟨i, len⟩ := il
  rw [hd] at h
  replace hd : decode (fx_by y) pc = .ok (i, len) := hd
  replace h : fx_go (fx_run (fx_gS G) n) (fx_ex (fx_gS G) y pc ls st σ i len) = some r := h
  cases i with
  | iconst v =>
    obtain ⟨h1, h2⟩ := fx_go_ite (show fx_go _ (if len = _ then _ else fx_no) = some r from h)
    subst h1
    have I := ih _ _ _ _ _ _ h2 hy hls (List.forall_mem_cons.mpr ⟨trivial, hst⟩) hll
    refine ⟨I.1, fun p e R s m args below meth c cells slots C => fxw_iconst C hd (I.2 p e R s m args below meth c cells slots C)⟩
  | bipush v =>
    obtain ⟨hn, h⟩ := fx_go_ite (show fx_go _ (if _ then _ else fx_no) = some r from h)
    obtain ⟨h1, h2⟩ := fx_go_ite (show fx_go _ (if len = _ then _ else fx_no) = some r from h)
    subst h1
    have I := ih _ _ _ _ _ _ h2 hy hls (List.forall_mem_cons.mpr ⟨trivial, hst⟩) hll
    refine ⟨I.1, fun p e R s m args below meth c cells slots C => fxw_bipush C hd hn (I.2 p e R s m args below meth c cells slots C)⟩
  | sipush v =>
    obtain ⟨hn, h⟩ := fx_go_ite (show fx_go _ (if _ then _ else fx_no) = some r from h)
    obtain ⟨h1, h2⟩ := fx_go_ite (show fx_go _ (if len = _ then _ else fx_no) = some r from h)
    subst h1
    have I := ih _ _ _ _ _ _ h2 hy hls (List.forall_mem_cons.mpr ⟨trivial, hst⟩) hll
    refine ⟨I.1, fun p e R s m args below meth c cells slots C => fxw_sipush C hd hn (I.2 p e R s m args below meth c cells slots C)⟩
  | ldc k =>
    simp only [fx_ex] at h
    cases hk : fx_kd (fx_own y) k with
    | none => rw [hk] at h; cases h
    | some v =>
    rw [hk] at h
    obtain ⟨h1, h2⟩ := fx_go_ite (show fx_go _ (if len = _ then _ else fx_no) = some r from h)
    subst h1
    have I := ih _ _ _ _ _ _ h2 hy hls (List.forall_mem_cons.mpr ⟨trivial, hst⟩) hll
    refine ⟨I.1, fun p e R s m args below meth c cells slots C => fxw_ldc C hk hd (I.2 p e R s m args below meth c cells slots C)⟩
  | ldc_w k =>
    simp only [fx_ex] at h
    cases hk : fx_kd (fx_own y) k with
    | none => rw [hk] at h; cases h
    | some v =>
    rw [hk] at h
    obtain ⟨h1, h2⟩ := fx_go_ite (show fx_go _ (if len = _ then _ else fx_no) = some r from h)
    subst h1
    have I := ih _ _ _ _ _ _ h2 hy hls (List.forall_mem_cons.mpr ⟨trivial, hst⟩) hll
    refine ⟨I.1, fun p e R s m args below meth c cells slots C => fxw_ldcw C hk hd (I.2 p e R s m args below meth c cells slots C)⟩
  | aconst_null =>
    obtain ⟨h1, h2⟩ := fx_go_ite (show fx_go _ (if len = _ then _ else fx_no) = some r from h)
    subst h1
    have I := ih _ _ _ _ _ _ h2 hy hls (List.forall_mem_cons.mpr ⟨trivial, hst⟩) hll
    refine ⟨I.1, fun p e R s m args below meth c cells slots C => fxw_null C hd (I.2 p e R s m args below meth c cells slots C)⟩
  | iload_n k =>
    simp only [fx_ex, fx_ldi] at h
    split at h
    · next x hk =>
      obtain ⟨h1, h2⟩ := fx_go_ite h
      subst h1
      have I := ih _ _ _ _ _ _ h2 hy hls (List.forall_mem_cons.mpr ⟨fx_at_al hll hk, hst⟩) hll
      refine ⟨I.1, fun p e R s m args below meth c cells slots C => fxw_iload_n C hd hk (I.2 p e R s m args below meth c cells slots C)⟩
    · cases h
  | iload k =>
    simp only [fx_ex, fx_ldi] at h
    split at h
    · next x hk =>
      obtain ⟨h1, h2⟩ := fx_go_ite h
      subst h1
      have I := ih _ _ _ _ _ _ h2 hy hls (List.forall_mem_cons.mpr ⟨fx_at_al hll hk, hst⟩) hll
      refine ⟨I.1, fun p e R s m args below meth c cells slots C => fxw_iload C hd hk (I.2 p e R s m args below meth c cells slots C)⟩
    · cases h
  | aload_n k =>
    simp only [fx_ex, fx_lda] at h
    split at h
    · next x hk =>
      obtain ⟨h1, h2⟩ := fx_go_ite h
      subst h1
      have I := ih _ _ _ _ _ _ h2 hy hls (List.forall_mem_cons.mpr ⟨fx_at_al hll hk, hst⟩) hll
      refine ⟨I.1, fun p e R s m args below meth c cells slots C => fxw_aload_n C hd hk (I.2 p e R s m args below meth c cells slots C)⟩
    · cases h
  | aload k =>
    simp only [fx_ex, fx_lda] at h
    split at h
    · next x hk =>
      obtain ⟨h1, h2⟩ := fx_go_ite h
      subst h1
      have I := ih _ _ _ _ _ _ h2 hy hls (List.forall_mem_cons.mpr ⟨fx_at_al hll hk, hst⟩) hll
      refine ⟨I.1, fun p e R s m args below meth c cells slots C => fxw_aload C hd hk (I.2 p e R s m args below meth c cells slots C)⟩
    · cases h
  | istore_n k =>
    simp only [fx_ex, fx_sti] at h
    split at h
    · next x st' =>
      obtain ⟨⟨h1, hk⟩, h2⟩ := fx_go_ite h
      subst h1
      have I := ih _ _ _ _ _ _ h2 hy (by rw [List.length_set]; exact hls) (List.forall_mem_cons.mp hst).2 (fx_set_al hll (List.forall_mem_cons.mp hst).1)
      refine ⟨I.1, fun p e R s m args below meth c cells slots C => fxw_istore_n C hd hk (I.2 p e R s m args below meth c cells slots C)⟩
    · cases h
  | istore k =>
    simp only [fx_ex, fx_sti] at h
    split at h
    · next x st' =>
      obtain ⟨⟨h1, hk⟩, h2⟩ := fx_go_ite h
      subst h1
      have I := ih _ _ _ _ _ _ h2 hy (by rw [List.length_set]; exact hls) (List.forall_mem_cons.mp hst).2 (fx_set_al hll (List.forall_mem_cons.mp hst).1)
      refine ⟨I.1, fun p e R s m args below meth c cells slots C => fxw_istore C hd hk (I.2 p e R s m args below meth c cells slots C)⟩
    · cases h
  | astore_n k =>
    simp only [fx_ex, fx_sta] at h
    split at h
    · next x st' =>
      obtain ⟨⟨h1, hk⟩, h2⟩ := fx_go_ite h
      subst h1
      have I := ih _ _ _ _ _ _ h2 hy (by rw [List.length_set]; exact hls) (List.forall_mem_cons.mp hst).2 (fx_set_al hll (List.forall_mem_cons.mp hst).1)
      refine ⟨I.1, fun p e R s m args below meth c cells slots C => fxw_astore_n C hd hk (I.2 p e R s m args below meth c cells slots C)⟩
    · cases h
  | astore k =>
    simp only [fx_ex, fx_sta] at h
    split at h
    · next x st' =>
      obtain ⟨⟨h1, hk⟩, h2⟩ := fx_go_ite h
      subst h1
      have I := ih _ _ _ _ _ _ h2 hy (by rw [List.length_set]; exact hls) (List.forall_mem_cons.mp hst).2 (fx_set_al hll (List.forall_mem_cons.mp hst).1)
      refine ⟨I.1, fun p e R s m args below meth c cells slots C => fxw_astore C hd hk (I.2 p e R s m args below meth c cells slots C)⟩
    · cases h
  | iinc k v =>
    simp only [fx_ex, fx_inc] at h
    split at h
    · next x hk =>
      obtain ⟨h1, h2⟩ := fx_go_ite h
      subst h1
      have I := ih _ _ _ _ _ _ h2 hy (by rw [List.length_set]; exact hls) hst (fx_set_al hll trivial)
      refine ⟨I.1, fun p e R s m args below meth c cells slots C => fxw_iinc C hd hk (I.2 p e R s m args below meth c cells slots C)⟩
    · cases h
  | iadd =>
    simp only [fx_ex, fx_bin] at h
    split at h
    · next b a st' =>
      obtain ⟨⟨h1, -⟩, h2⟩ := fx_go_ite h
      subst h1
      have I := ih _ _ _ _ _ _ h2 hy hls (List.forall_mem_cons.mpr ⟨trivial, (List.forall_mem_cons.mp (List.forall_mem_cons.mp hst).2).2⟩) hll
      refine ⟨I.1, fun p e R s m args below meth c cells slots C => fxw_iadd C hd (I.2 p e R s m args below meth c cells slots C)⟩
    · cases h
  | isub =>
    simp only [fx_ex, fx_bin] at h
    split at h
    · next b a st' =>
      obtain ⟨⟨h1, -⟩, h2⟩ := fx_go_ite h
      subst h1
      have I := ih _ _ _ _ _ _ h2 hy hls (List.forall_mem_cons.mpr ⟨trivial, (List.forall_mem_cons.mp (List.forall_mem_cons.mp hst).2).2⟩) hll
      refine ⟨I.1, fun p e R s m args below meth c cells slots C => fxw_isub C hd (I.2 p e R s m args below meth c cells slots C)⟩
    · cases h
  | imul =>
    simp only [fx_ex, fx_bin] at h
    split at h
    · next b a st' =>
      obtain ⟨⟨h1, -⟩, h2⟩ := fx_go_ite h
      subst h1
      have I := ih _ _ _ _ _ _ h2 hy hls (List.forall_mem_cons.mpr ⟨trivial, (List.forall_mem_cons.mp (List.forall_mem_cons.mp hst).2).2⟩) hll
      refine ⟨I.1, fun p e R s m args below meth c cells slots C => fxw_imul C hd (I.2 p e R s m args below meth c cells slots C)⟩
    · cases h
  | iand =>
    simp only [fx_ex, fx_bin] at h
    split at h
    · next b a st' =>
      obtain ⟨⟨h1, -⟩, h2⟩ := fx_go_ite h
      subst h1
      have I := ih _ _ _ _ _ _ h2 hy hls (List.forall_mem_cons.mpr ⟨trivial, (List.forall_mem_cons.mp (List.forall_mem_cons.mp hst).2).2⟩) hll
      refine ⟨I.1, fun p e R s m args below meth c cells slots C => fxw_iand C hd (I.2 p e R s m args below meth c cells slots C)⟩
    · cases h
  | ior =>
    simp only [fx_ex, fx_bin] at h
    split at h
    · next b a st' =>
      obtain ⟨⟨h1, -⟩, h2⟩ := fx_go_ite h
      subst h1
      have I := ih _ _ _ _ _ _ h2 hy hls (List.forall_mem_cons.mpr ⟨trivial, (List.forall_mem_cons.mp (List.forall_mem_cons.mp hst).2).2⟩) hll
      refine ⟨I.1, fun p e R s m args below meth c cells slots C => fxw_ior C hd (I.2 p e R s m args below meth c cells slots C)⟩
    · cases h
  | ixor =>
    simp only [fx_ex, fx_bin] at h
    split at h
    · next b a st' =>
      obtain ⟨⟨h1, -⟩, h2⟩ := fx_go_ite h
      subst h1
      have I := ih _ _ _ _ _ _ h2 hy hls (List.forall_mem_cons.mpr ⟨trivial, (List.forall_mem_cons.mp (List.forall_mem_cons.mp hst).2).2⟩) hll
      refine ⟨I.1, fun p e R s m args below meth c cells slots C => fxw_ixor C hd (I.2 p e R s m args below meth c cells slots C)⟩
    · cases h
  | ishl =>
    simp only [fx_ex, fx_bin] at h
    split at h
    · next b a st' =>
      obtain ⟨⟨h1, -⟩, h2⟩ := fx_go_ite h
      subst h1
      have I := ih _ _ _ _ _ _ h2 hy hls (List.forall_mem_cons.mpr ⟨trivial, (List.forall_mem_cons.mp (List.forall_mem_cons.mp hst).2).2⟩) hll
      refine ⟨I.1, fun p e R s m args below meth c cells slots C => fxw_ishl C hd (I.2 p e R s m args below meth c cells slots C)⟩
    · cases h
  | ishr =>
    simp only [fx_ex, fx_bin] at h
    split at h
    · next b a st' =>
      obtain ⟨⟨h1, -⟩, h2⟩ := fx_go_ite h
      subst h1
      have I := ih _ _ _ _ _ _ h2 hy hls (List.forall_mem_cons.mpr ⟨trivial, (List.forall_mem_cons.mp (List.forall_mem_cons.mp hst).2).2⟩) hll
      refine ⟨I.1, fun p e R s m args below meth c cells slots C => fxw_ishr C hd (I.2 p e R s m args below meth c cells slots C)⟩
    · cases h
  | iushr =>
    simp only [fx_ex, fx_bin] at h
    split at h
    · next b a st' =>
      obtain ⟨⟨h1, -⟩, h2⟩ := fx_go_ite h
      subst h1
      have I := ih _ _ _ _ _ _ h2 hy hls (List.forall_mem_cons.mpr ⟨trivial, (List.forall_mem_cons.mp (List.forall_mem_cons.mp hst).2).2⟩) hll
      refine ⟨I.1, fun p e R s m args below meth c cells slots C => fxw_iushr C hd (I.2 p e R s m args below meth c cells slots C)⟩
    · cases h
  | idiv =>
    simp only [fx_ex, fx_bin] at h
    split at h
    · next b a st' =>
      obtain ⟨⟨h1, hok⟩, h2⟩ := fx_go_ite h
      subst h1
      rw [decide_eq_true_eq] at hok
      have I := ih _ _ _ _ _ _ h2 hy hls (List.forall_mem_cons.mpr ⟨trivial, (List.forall_mem_cons.mp (List.forall_mem_cons.mp hst).2).2⟩) hll
      refine ⟨I.1, fun p e R s m args below meth c cells slots C => fxw_idiv C hok.1 hok.2.1 hok.2.2 hd (I.2 p e R s m args below meth c cells slots C)⟩
    · cases h
  | irem =>
    simp only [fx_ex, fx_bin] at h
    split at h
    · next b a st' =>
      obtain ⟨⟨h1, hok⟩, h2⟩ := fx_go_ite h
      subst h1
      rw [decide_eq_true_eq] at hok
      have I := ih _ _ _ _ _ _ h2 hy hls (List.forall_mem_cons.mpr ⟨trivial, (List.forall_mem_cons.mp (List.forall_mem_cons.mp hst).2).2⟩) hll
      refine ⟨I.1, fun p e R s m args below meth c cells slots C => fxw_irem C hok.1 hok.2.1 hok.2.2 hd (I.2 p e R s m args below meth c cells slots C)⟩
    · cases h
  | ineg =>
    simp only [fx_ex, fx_neg] at h
    split at h
    · next a st' =>
      obtain ⟨h1, h2⟩ := fx_go_ite h
      subst h1
      have I := ih _ _ _ _ _ _ h2 hy hls (List.forall_mem_cons.mpr ⟨trivial, (List.forall_mem_cons.mp hst).2⟩) hll
      refine ⟨I.1, fun p e R s m args below meth c cells slots C => fxw_ineg C hd (I.2 p e R s m args below meth c cells slots C)⟩
    · cases h
  | dup =>
    simp only [fx_ex, fx_dup] at h
    split at h
    · next a st' =>
      obtain ⟨h1, h2⟩ := fx_go_ite h
      subst h1
      have I := ih _ _ _ _ _ _ h2 hy hls (List.forall_mem_cons.mpr ⟨(List.forall_mem_cons.mp hst).1, hst⟩) hll
      refine ⟨I.1, fun p e R s m args below meth c cells slots C => fxw_dup C hd (I.2 p e R s m args below meth c cells slots C)⟩
    · cases h
  | dup2 =>
    simp only [fx_ex, fx_dup2] at h
    split at h
    · next a b st' =>
      obtain ⟨h1, h2⟩ := fx_go_ite h
      subst h1
      have I := ih _ _ _ _ _ _ h2 hy hls (List.forall_mem_cons.mpr ⟨(List.forall_mem_cons.mp hst).1, (List.forall_mem_cons.mpr ⟨(List.forall_mem_cons.mp (List.forall_mem_cons.mp hst).2).1, hst⟩)⟩) hll
      refine ⟨I.1, fun p e R s m args below meth c cells slots C => fxw_dup2 C hd (I.2 p e R s m args below meth c cells slots C)⟩
    · cases h
  | ifCond cc off =>
    simp only [fx_ex, fx_if1] at h
    split at h
    · next a st' =>
      obtain ⟨⟨h1, ha, hp⟩, h2⟩ := fx_go_ite h
      subst h1
      have hbr := fx_go_br h2
      have It := fun q => ih _ _ _ _ _ _ (hbr.1 q) hy hls (List.forall_mem_cons.mp hst).2 hll
      have If := fun q => ih _ _ _ _ _ _ (hbr.2 q) hy hls (List.forall_mem_cons.mp hst).2 hll
      refine ⟨?_, fun p e R s m args below meth c cells slots C => fxw_if1 C ha hd (by omega : (pc : Int) + off = (((pc : Int) + off).toNat : Int)) (fun q => (It q).2 p e R s m args below meth c cells slots C) (fun q => (If q).2 p e R s m args below meth c cells slots C)⟩
      cases hc : fx_cm cc a 0 with
      | true => exact (It hc).1
      | false => exact (If hc).1
    · cases h
  | if_icmp cc off =>
    simp only [fx_ex, fx_if2] at h
    split at h
    · next b a st' =>
      obtain ⟨⟨h1, ha, hb, hp⟩, h2⟩ := fx_go_ite h
      subst h1
      have hbr := fx_go_br h2
      have It := fun q => ih _ _ _ _ _ _ (hbr.1 q) hy hls (List.forall_mem_cons.mp (List.forall_mem_cons.mp hst).2).2 hll
      have If := fun q => ih _ _ _ _ _ _ (hbr.2 q) hy hls (List.forall_mem_cons.mp (List.forall_mem_cons.mp hst).2).2 hll
      refine ⟨?_, fun p e R s m args below meth c cells slots C => fxw_if2 C ha hb hd (by omega : (pc : Int) + off = (((pc : Int) + off).toNat : Int)) (fun q => (It q).2 p e R s m args below meth c cells slots C) (fun q => (If q).2 p e R s m args below meth c cells slots C)⟩
      cases hc : fx_cm cc a b with
      | true => exact (It hc).1
      | false => exact (If hc).1
    · cases h
  | goto off =>
    obtain ⟨h1, h2⟩ := fx_go_ite (show fx_go _ (if len = _ then _ else fx_no) = some r from h)
    subst h1
    obtain ⟨tgt, ht, h3⟩ := fx_go_jp h2
    have I := ih _ _ _ _ _ _ h3 hy hls hst hll
    refine ⟨I.1, fun p e R s m args below meth c cells slots C => fxw_goto C hd ht (I.2 p e R s m args below meth c cells slots C)⟩
  | ifnull off =>
    simp only [fx_ex, fx_ifn] at h
    split at h
    · next q st' =>
      obtain ⟨h1, h2⟩ := fx_go_ite h
      subst h1
      cases q with
      | none =>
        simp only [Option.isNone_none, Option.isNone_some, if_true, Bool.true_eq_false, Bool.false_eq_true, if_false] at h2
        obtain ⟨tgt, ht, h3⟩ := fx_go_jp h2
        have I := ih _ _ _ _ _ _ h3 hy hls (List.forall_mem_cons.mp hst).2 hll
        refine ⟨I.1, fun p e R s m args below meth c cells slots C => fxw_ifnullN C hd ht (I.2 p e R s m args below meth c cells slots C)⟩
      | some q =>
        simp only [Option.isNone_none, Option.isNone_some, if_true, Bool.true_eq_false, Bool.false_eq_true, if_false] at h2
        have I := ih _ _ _ _ _ _ h2 hy hls (List.forall_mem_cons.mp hst).2 hll
        refine ⟨I.1, fun p e R s m args below meth c cells slots C => fxw_ifnull C hd (I.2 p e R s m args below meth c cells slots C)⟩
    · cases h
  | ifnonnull off =>
    simp only [fx_ex, fx_ifn] at h
    split at h
    · next q st' =>
      obtain ⟨h1, h2⟩ := fx_go_ite h
      subst h1
      cases q with
      | none =>
        simp only [Option.isNone_none, Option.isNone_some, if_true, Bool.true_eq_false, Bool.false_eq_true, if_false] at h2
        have I := ih _ _ _ _ _ _ h2 hy hls (List.forall_mem_cons.mp hst).2 hll
        refine ⟨I.1, fun p e R s m args below meth c cells slots C => fxw_ifnonnullN C hd (I.2 p e R s m args below meth c cells slots C)⟩
      | some q =>
        simp only [Option.isNone_none, Option.isNone_some, if_true, Bool.true_eq_false, Bool.false_eq_true, if_false] at h2
        obtain ⟨tgt, ht, h3⟩ := fx_go_jp h2
        have I := ih _ _ _ _ _ _ h3 hy hls (List.forall_mem_cons.mp hst).2 hll
        refine ⟨I.1, fun p e R s m args below meth c cells slots C => fxw_ifnonnull C hd ht (I.2 p e R s m args below meth c cells slots C)⟩
    · cases h
  | tableswitch d lo hi offs =>
    simp only [fx_ex, fx_tsw] at h
    split at h
    · next x st' =>
      obtain ⟨hx, h2⟩ := fx_go_ite h
      by_cases hq : x < lo ∨ hi < x
      · rw [if_pos hq] at h2
        obtain ⟨tgt, ht, h3⟩ := fx_go_jp h2
        have I := ih _ _ _ _ _ _ h3 hy hls (List.forall_mem_cons.mp hst).2 hll
        refine ⟨I.1, fun p e R s m args below meth c cells slots C => fxw_tswO C hx hd hq ht (I.2 p e R s m args below meth c cells slots C)⟩
      · rw [if_neg hq] at h2
        split at h2
        · next off ho =>
          obtain ⟨tgt, ht, h3⟩ := fx_go_jp h2
          have I := ih _ _ _ _ _ _ h3 hy hls (List.forall_mem_cons.mp hst).2 hll
          refine ⟨I.1, fun p e R s m args below meth c cells slots C => fxw_tswI C hx hd (fun q => hq (Or.inl q)) (fun q => hq (Or.inr q)) ho ht (I.2 p e R s m args below meth c cells slots C)⟩
        · cases h2
    · cases h
  | getfield k =>
    simp only [fx_ex, fx_gf] at h
    split at h
    · next o g st' =>
      split at h
      · next ci k2 cj fl hf ho =>
        obtain ⟨⟨h1, h2⟩, h3⟩ := fx_go_ite h
        subst h1
        subst h2
        have hm := fx_mem_gl hG (List.forall_mem_cons.mp hst).1 (by rw [fx_ob_ak ho]; decide)
        split at h3
        · next hk =>
          have I := ih _ _ _ _ _ _ h3 hy hls (List.forall_mem_cons.mpr ⟨trivial, (List.forall_mem_cons.mp hst).2⟩) hll
          have hv := fx_fl_int (fx_ga G) σ o g fl 0 k2 hk
          rw [Nat.zero_add] at hv
          refine ⟨I.1, fun p e R s m args below meth c cells slots C => fxw_getf (v := .inl (σ o g k2)) C hm hf ho hv hd (I.2 p e R s m args below meth c cells slots C)⟩
        · next f hk =>
          have I := ih _ _ _ _ _ _ h3 hy hls (List.forall_mem_cons.mpr ⟨Or.inl (hG.2.2.2.2.2.1 _ hm _ _ ho _ _ hk), (List.forall_mem_cons.mp hst).2⟩) hll
          have hv := fx_fl_ref (fx_ga G) σ o g fl 0 k2 f hk
          refine ⟨I.1, fun p e R s m args below meth c cells slots C => fxw_getf (v := .inr (some (f g))) C hm hf ho hv hd (I.2 p e R s m args below meth c cells slots C)⟩
        · cases h3
      · cases h
    · cases h
  | putfield k =>
    simp only [fx_ex, fx_pf] at h
    split at h
    · next v o g st' =>
      split at h
      · next ci k2 cj fl hf ho =>
        obtain ⟨⟨h1, h2, h4, h5, h6⟩, h3⟩ := fx_go_ite h
        subst h1
        subst h2
        have hm := fx_mem_gl hG (List.forall_mem_cons.mp (List.forall_mem_cons.mp hst).2).1 (by rw [fx_ob_ak ho]; decide)
        have hk : fl[k2]? = some none := by
          cases hq : fl[k2]? with
          | none => rw [hq] at h4; cases h4
          | some w =>
            rw [hq] at h5
            cases w with
            | none => rfl
            | some f => cases h5
        have I := ih _ _ _ _ _ _ h3 hy hls (List.forall_mem_cons.mp (List.forall_mem_cons.mp hst).2).2 hll
        refine ⟨I.1, fun p e R s m args below meth c cells slots C => fxw_putf C hG hm hf ho hk h6 hd (I.2 p e R s m args below meth c cells slots C)⟩
      · cases h
    · cases h
  | getstatic k =>
    simp only [fx_ex, fx_gs] at h
    split at h
    · next o nn hf =>
      obtain ⟨h1, h2⟩ := fx_go_ite h
      subst h1
      have I := ih _ _ _ _ _ _ h2 hy hls (List.forall_mem_cons.mpr ⟨Or.inr ⟨fx_sd_o hf, rfl⟩, hst⟩) hll
      refine ⟨I.1, fun p e R s m args below meth c cells slots C => fxw_gets C hf hd (I.2 p e R s m args below meth c cells slots C)⟩
    · split at h
      · next o nn hf =>
        obtain ⟨h1, h2⟩ := fx_go_ite h
        subst h1
        have I := ih _ _ _ _ _ _ h2 hy hls (List.forall_mem_cons.mpr ⟨Or.inr ⟨fx_nd_o hf, rfl⟩, hst⟩) hll
        refine ⟨I.1, fun p e R s m args below meth c cells slots C => fxw_getsN C hf hd (I.2 p e R s m args below meth c cells slots C)⟩
      · cases h
  | iaload =>
    simp only [fx_ex, fx_ld] at h
    split at h
    · next i o g st' =>
      obtain ⟨⟨h1, h0⟩, h2⟩ := fx_go_ite h
      subst h1
      by_cases hq : fx_ak o = 1 ∧ i < (fx_gS G).1 o g
      · rw [if_pos hq] at h2
        have hm := fx_mem_gl hG (List.forall_mem_cons.mp (List.forall_mem_cons.mp hst).2).1 (by rw [hq.1]; decide)
        have I := ih _ _ _ _ _ _ h2 hy hls (List.forall_mem_cons.mpr ⟨trivial, (List.forall_mem_cons.mp (List.forall_mem_cons.mp hst).2).2⟩) hll
        refine ⟨I.1, fun p e R s m args below meth c cells slots C => fxw_iald C hG hm hq.1 h0 hq.2 hd (I.2 p e R s m args below meth c cells slots C)⟩
      · rw [if_neg hq] at h2
        obtain ⟨⟨hk1, hk4, hk⟩, h3⟩ := fx_go_ite h2
        have hs := fx_st4 hG (List.forall_mem_cons.mp (List.forall_mem_cons.mp hst).2).1 hk4
        obtain ⟨hs, rfl⟩ := hs
        have I := ih _ _ _ _ _ _ h3 hy hls (List.forall_mem_cons.mpr ⟨trivial, (List.forall_mem_cons.mp (List.forall_mem_cons.mp hst).2).2⟩) hll
        refine ⟨I.1, fun p e R s m args below meth c cells slots C => fxw_tald C hs h0 hk hd (I.2 p e R s m args below meth c cells slots C)⟩
    · cases h
  | baload =>
    simp only [fx_ex, fx_ld] at h
    split at h
    · next i o g st' =>
      obtain ⟨⟨h1, h0⟩, h2⟩ := fx_go_ite h
      subst h1
      by_cases hq : fx_ak o = 2 ∧ i < (fx_gS G).1 o g
      · rw [if_pos hq] at h2
        have hm := fx_mem_gl hG (List.forall_mem_cons.mp (List.forall_mem_cons.mp hst).2).1 (by rw [hq.1]; decide)
        have I := ih _ _ _ _ _ _ h2 hy hls (List.forall_mem_cons.mpr ⟨trivial, (List.forall_mem_cons.mp (List.forall_mem_cons.mp hst).2).2⟩) hll
        refine ⟨I.1, fun p e R s m args below meth c cells slots C => fxw_zald C hG hm hq.1 h0 hq.2 hd (I.2 p e R s m args below meth c cells slots C)⟩
      · rw [if_neg hq] at h2
        obtain ⟨⟨hk1, hk4, hk⟩, h3⟩ := fx_go_ite h2
        cases hk1
    · cases h
  | iastore =>
    simp only [fx_ex, fx_ast] at h
    split at h
    · next v i o g st' =>
      obtain ⟨⟨h1, h0, hk, hi, hv⟩, h2⟩ := fx_go_ite h
      subst h1
      have hm := fx_mem_gl hG (List.forall_mem_cons.mp (List.forall_mem_cons.mp (List.forall_mem_cons.mp hst).2).2).1 (by rw [hk]; decide)
      have I := ih _ _ _ _ _ _ h2 hy hls (List.forall_mem_cons.mp (List.forall_mem_cons.mp (List.forall_mem_cons.mp hst).2).2).2 hll
      refine ⟨I.1, fun p e R s m args below meth c cells slots C => fxw_iast C hG hm hk h0 hi hd (I.2 p e R s m args below meth c cells slots C)⟩
    · cases h
  | bastore =>
    simp only [fx_ex, fx_ast] at h
    split at h
    · next v i o g st' =>
      obtain ⟨⟨h1, h0, hk, hi, hv⟩, h2⟩ := fx_go_ite h
      subst h1
      have hm := fx_mem_gl hG (List.forall_mem_cons.mp (List.forall_mem_cons.mp (List.forall_mem_cons.mp hst).2).2).1 (by rw [hk]; decide)
      have I := ih _ _ _ _ _ _ h2 hy hls (List.forall_mem_cons.mp (List.forall_mem_cons.mp (List.forall_mem_cons.mp hst).2).2).2 hll
      have hv : v = 0 ∨ v = 1 := hv.resolve_left (by decide)
      refine ⟨I.1, fun p e R s m args below meth c cells slots C => fxw_zast C hG hm hk h0 hi hv hd (I.2 p e R s m args below meth c cells slots C)⟩
    · cases h
  | aaload =>
    simp only [fx_ex, fx_lda2] at h
    split at h
    · next i o g st' =>
      obtain ⟨⟨h1, h0, ho, hg, hi⟩, h2⟩ := fx_go_ite h
      subst h1
      subst ho
      subst hg
      have hm := fx_mem_gl hG (List.forall_mem_cons.mp (List.forall_mem_cons.mp hst).2).1 (by decide)
      have hal : fx_al G (.inr (if i.toNat < (fx_gS G).2 then some (12, i.toNat) else none)) := by
        by_cases hj : i.toNat < (fx_gS G).2
        · rw [if_pos hj]; exact Or.inl (hG.2.2.2.2.2.2.1 hm _ hj)
        · rw [if_neg hj]; trivial
      have I := ih _ _ _ _ _ _ h2 hy hls (List.forall_mem_cons.mpr ⟨hal, (List.forall_mem_cons.mp (List.forall_mem_cons.mp hst).2).2⟩) hll
      refine ⟨I.1, fun p e R s m args below meth c cells slots C => fxw_aald C hG hm h0 hi hd (I.2 p e R s m args below meth c cells slots C)⟩
    · cases h
  | arraylength =>
    simp only [fx_ex, fx_len] at h
    split at h
    · next o g st' =>
      obtain ⟨h1, h2⟩ := fx_go_ite h
      subst h1
      by_cases hq : fx_ak o = 1 ∨ fx_ak o = 2
      · rw [if_pos hq] at h2
        have hm := fx_mem_gl hG (List.forall_mem_cons.mp hst).1 (by rcases hq with q | q <;> rw [q] <;> decide)
        have I := ih _ _ _ _ _ _ h2 hy hls (List.forall_mem_cons.mpr ⟨trivial, (List.forall_mem_cons.mp hst).2⟩) hll
        refine ⟨I.1, fun p e R s m args below meth c cells slots C => fxw_alen C hG hm hq hd (I.2 p e R s m args below meth c cells slots C)⟩
      · rw [if_neg hq] at h2
        obtain ⟨hk4, h3⟩ := fx_go_ite h2
        obtain ⟨hs, rfl⟩ := fx_st4 hG (List.forall_mem_cons.mp hst).1 hk4
        have I := ih _ _ _ _ _ _ h3 hy hls (List.forall_mem_cons.mpr ⟨trivial, (List.forall_mem_cons.mp hst).2⟩) hll
        refine ⟨I.1, fun p e R s m args below meth c cells slots C => fxw_tlen C hs hd (I.2 p e R s m args below meth c cells slots C)⟩
    · cases h
  | invokevirtual k =>
    simp only [fx_ex, fx_iv] at h
    split at h
    · next z nn hca =>
      split at h
      · next o g rest hdr =>
        obtain ⟨⟨h1, hob, htk, hrest, hmz⟩, h2⟩ := fx_go_ite h
        subst h1
        replace h2 : (fx_run (fx_gS G) n (z, 0, fx_ent z (.inr (some (o, g)) :: (st.take nn).reverse), [], σ)).bind (fun r => fx_run (fx_gS G) n (y, pc + 3, ls, r.1.toList ++ rest, r.2)) = some r := h2
        cases hr : fx_run (fx_gS G) n (z, 0, fx_ent z (.inr (some (o, g)) :: (st.take nn).reverse), [], σ) with
        | none => rw [hr] at h2; cases h2
        | some r1 =>
        rw [hr] at h2
        replace h2 : fx_run (fx_gS G) n (y, pc + 3, ls, r1.1.toList ++ rest, r1.2) = some r := h2
        have hz : z < fx_nM := (fx_ca_in hca).2.2.2.2.2.2.2.1
        have hsplit : st = st.take nn ++ .inr (some (o, g)) :: rest := by rw [← hdr]; exact (List.take_append_drop nn st).symm
        have hst2 := hst
        rw [hsplit] at hst2
        have hog : fx_al G (.inr (some (o, g))) := hst2 _ (List.mem_append_right _ List.mem_cons_self)
        have hml : (.inr (some (o, g)) :: (st.take nn).reverse : List fx_V).length ≤ fx_mL z := by rw [List.length_cons, List.length_reverse, htk]; exact hmz
        have hargs : ∀ v ∈ (.inr (some (o, g)) :: (st.take nn).reverse : List fx_V), fx_al G v := List.forall_mem_cons.mpr ⟨hog, fun v hv => hst v (List.mem_of_mem_take (List.mem_reverse.mp hv))⟩
        have M := fx_met_of ih hz hml hargs hr
        have J := ih _ _ _ _ _ _ hr hz (fx_ent_len hml) (fun v hv => by cases hv) (fx_ent_al hargs)
        have hrs : ∀ v ∈ r1.1.toList ++ rest, fx_al G v := by
          intro v hv
          rcases List.mem_append.mp hv with q | q
          · exact J.1 v (Option.mem_toList.mp q)
          · exact hst2 v (List.mem_append_right _ (List.mem_cons_of_mem _ q))
        have I := ih _ _ _ _ _ _ h2 hy hls hrs hll
        refine ⟨I.1, fun p e R s m args below meth c cells slots C => ?_⟩
        have hob2 := hob
        rw [Option.map_eq_some_iff] at hob2
        obtain ⟨⟨ci, fl⟩, ho, -⟩ := hob2
        have hm := fx_mem_gl hG hog (by rw [fx_ob_ak ho]; decide)
        have W1 := fxw_callV C hca hm hob (by rw [List.length_reverse]; exact htk) hrest hls M hd (I.2 p e R s m args below meth c cells slots C)
        rw [List.reverse_reverse, ← hsplit] at W1
        exact W1
      · cases h
    · cases h
  | invokestatic k =>
    simp only [fx_ex, fx_is] at h
    split at h
    · next z nn hca =>
      obtain ⟨⟨h1, htk, hrest, hmz⟩, h2⟩ := fx_go_ite h
      subst h1
      replace h2 : (fx_run (fx_gS G) n (z, 0, fx_ent z (st.take nn).reverse, [], σ)).bind (fun r => fx_run (fx_gS G) n (y, pc + 3, ls, r.1.toList ++ st.drop nn, r.2)) = some r := h2
      cases hr : fx_run (fx_gS G) n (z, 0, fx_ent z (st.take nn).reverse, [], σ) with
      | none => rw [hr] at h2; cases h2
      | some r1 =>
      rw [hr] at h2
      replace h2 : fx_run (fx_gS G) n (y, pc + 3, ls, r1.1.toList ++ st.drop nn, r1.2) = some r := h2
      have hz : z < fx_nM := (fx_ca_in hca).2.2.2.2.2.2.2.1
      have hml : (st.take nn).reverse.length ≤ fx_mL z := by rw [List.length_reverse, htk]; exact hmz
      have hargs : ∀ v ∈ (st.take nn).reverse, fx_al G v := fun v hv => hst v (List.mem_of_mem_take (List.mem_reverse.mp hv))
      have M := fx_met_of ih hz hml hargs hr
      have J := ih _ _ _ _ _ _ hr hz (fx_ent_len hml) (fun v hv => by cases hv) (fx_ent_al hargs)
      have hrs : ∀ v ∈ r1.1.toList ++ st.drop nn, fx_al G v := by
        intro v hv
        rcases List.mem_append.mp hv with q | q
        · exact J.1 v (Option.mem_toList.mp q)
        · exact hst v (List.mem_of_mem_drop q)
      have I := ih _ _ _ _ _ _ h2 hy hls hrs hll
      refine ⟨I.1, fun p e R s m args below meth c cells slots C => ?_⟩
      have W1 := fxw_callS C hca (by rw [List.length_reverse]; exact htk) hrest hls M hd (I.2 p e R s m args below meth c cells slots C)
      rw [List.reverse_reverse, List.take_append_drop] at W1
      exact W1
    · split at h
      · next b a st' hp =>
        obtain ⟨⟨h1, ha, hb, hl⟩, h2⟩ := fx_go_ite h
        subst h1
        have I := ih _ _ _ _ _ _ h2 hy hls (List.forall_mem_cons.mpr ⟨trivial, (List.forall_mem_cons.mp (List.forall_mem_cons.mp hst).2).2⟩) hll
        refine ⟨I.1, fun p e R s m args below meth c cells slots C => fxw_max C hp ha hb hl hls hd (I.2 p e R s m args below meth c cells slots C)⟩
      · next b a st' hp =>
        obtain ⟨⟨h1, ha, hb, hl⟩, h2⟩ := fx_go_ite h
        subst h1
        have I := ih _ _ _ _ _ _ h2 hy hls (List.forall_mem_cons.mpr ⟨trivial, (List.forall_mem_cons.mp (List.forall_mem_cons.mp hst).2).2⟩) hll
        refine ⟨I.1, fun p e R s m args below meth c cells slots C => fxw_min C hp ha hb hl hls hd (I.2 p e R s m args below meth c cells slots C)⟩
      · next a st' hp =>
        obtain ⟨⟨h1, ha, hl⟩, h2⟩ := fx_go_ite h
        subst h1
        have I := ih _ _ _ _ _ _ h2 hy hls (List.forall_mem_cons.mpr ⟨trivial, (List.forall_mem_cons.mp hst).2⟩) hll
        refine ⟨I.1, fun p e R s m args below meth c cells slots C => fxw_abs C hp ha hl hls hd (I.2 p e R s m args below meth c cells slots C)⟩
      · next n1 dp o1 g1 sp o0 g0 st' hp =>
        obtain ⟨⟨ha, h1, k0, k1, a1, a2, a3, a4, a5, a6⟩, h2⟩ := fx_go_ite h
        subst h1
        have hm1 := fx_mem_gl hG (List.forall_mem_cons.mp (List.forall_mem_cons.mp (List.forall_mem_cons.mp hst).2).2).1 (by rw [k1]; decide)
        have hm0 := fx_mem_gl hG (List.forall_mem_cons.mp (List.forall_mem_cons.mp (List.forall_mem_cons.mp (List.forall_mem_cons.mp (List.forall_mem_cons.mp hst).2).2).2).2).1 (by rw [k0]; decide)
        have I := ih _ _ _ _ _ _ h2 hy hls (List.forall_mem_cons.mp (List.forall_mem_cons.mp (List.forall_mem_cons.mp (List.forall_mem_cons.mp (List.forall_mem_cons.mp hst).2).2).2).2).2 hll
        refine ⟨I.1, fun p e R s m args below meth c cells slots C => fxw_copy C hG hm0 hm1 ha k0 k1 a1 a2 a3 a4 a5 a6 hls hd (I.2 p e R s m args below meth c cells slots C)⟩
      · cases h
  | ireturn =>
    simp only [fx_ex, fx_ret] at h
    split at h
    · next v =>
      obtain ⟨⟨h1, hrt⟩, h2⟩ := fx_go_ite h
      subst h1
      cases h2
      refine ⟨fun w hw => by cases hw; trivial, fun p e R s m args below meth c cells slots C H locs jl hW hL => ?_⟩
      have hq : ∀ t : State, t.heap = H → s.WarmedH t.vm → fx_Qc G (some (.inl v), σ) args s (.returned (some (.int (fx_I v)))) t := fun t ht _ => ⟨rfl, by rw [ht]; exact hW.2.1, hW.2.2.2.1.F ht⟩
      have hlocks := C.2.2.2.2.2.2.1
      have hret := C.2.2.2.1
      rcases hrt with hrt | ⟨hrt, hv⟩
      · rw [hrt] at hret
        exact W.iret C.1 C.2.1 hret hq hW.2.2.2.1.2.2 hd
      · rw [hrt] at hret
        refine W.zret C.1 C.2.1 hret ?_ hq hW.2.2.2.1.2.2 hd
        rcases hv with rfl | rfl <;> rfl
    · cases h
  | areturn =>
    simp only [fx_ex, fx_rea] at h
    split at h
    · next v =>
      obtain ⟨⟨h1, hrt⟩, h2⟩ := fx_go_ite h
      subst h1
      cases h2
      refine ⟨fun w hw => by cases hw; exact (List.forall_mem_cons.mp hst).1, fun p e R s m args below meth c cells slots C H locs jl hW hL => ?_⟩
      have hlocks := C.2.2.2.2.2.2.1
      have hret := C.2.2.2.1
      rw [hrt] at hret
      refine W.aret C.1 C.2.1 hret (Or.inl ⟨_, rfl⟩) ?_ (fun t ht _ => ⟨rfl, by rw [ht]; exact hW.2.1, hW.2.2.2.1.F ht⟩) hW.2.2.2.1.2.2 hd
      cases v with
      | none => exact Or.inl rfl
      | some q => exact Or.inr ⟨_, rfl⟩
    · cases h
  | return_ =>
    simp only [fx_ex, fx_rev] at h
    split at h
    · obtain ⟨⟨h1, hrt⟩, h2⟩ := fx_go_ite h
      subst h1
      cases h2
      refine ⟨(fun w hw => by cases hw), fun p e R s m args below meth c cells slots C H locs jl hW hL => ?_⟩
      have hlocks := C.2.2.2.2.2.2.1
      have hret := C.2.2.2.1
      rw [hrt] at hret
      exact W.vret C.1 C.2.1 hret (fun t ht _ => ⟨rfl, by rw [ht]; exact hW.2.1, hW.2.2.2.1.F ht⟩) hW.2.2.2.1.2.2 hd
    · cases h
  | _ => cases h
theorem fx_sim (l : Launch) (G : fx_G) (hG : fx_Ok G) (n : Nat) : fx_Sim l G n := by
  induction n with
  | zero => intro y pc ls st σ r h; cases h
  | succ n ih => exact fx_sim_step l G hG n ih
/-- what the shadow machine answers, the machine answers -/
theorem fx_met {l : Launch} {G : fx_G} (hG : fx_Ok G) {z : Nat} {as : List fx_V} {σ : fx_M} {r : fx_R} (hz : z < fx_nM) (hl : as.length ≤ fx_mL z) (ha : ∀ v ∈ as, fx_al G v) (h : fx_Ev (fx_gS G) (z, 0, fx_ent z as, [], σ) = some r) : fx_Met l G z as σ r := by
  obtain ⟨n, hn⟩ := fx_Ev_iff.mp h
  exact fx_met_of (fx_sim l G hG n) hz hl ha hn
