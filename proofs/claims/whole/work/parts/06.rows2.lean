/-! the machine's rows over a shadow state: stores, arrays, statics, library -/
section FXR2
variable {p : Program} {l : Launch} {e : Env} {R : Room} {s : State} {m : MethodId} {args : Array Value} {below : List Frame} {meth : Method} {c : Code} {cells slots : Nat} {Q : State → Prop} {G : fx_G} {y pc : Nat} {ls : fx_L} {st : List fx_V} {σ : fx_M}
theorem fx_cl_ty {ci : Nat} {r : vw_C} (h : fx_cl[ci]? = some r) : ∃ ty0 : Nat → FieldType, (∀ k, k < r.2.2 → parseFieldDescriptor (r.2.1 k).2.2.1 = some (ty0 k)) ∧ ∀ a, a < r.2.2 → ∀ b, b < r.2.2 → a ≠ b → (r.2.1 a).2.1 ≠ (r.2.1 b).2.1 := by
  match ci, h with
  | 0, h => cases h; exact ⟨tyX0, tyX0_ok, nmX0⟩
  | 1, h => cases h; exact ⟨tyX1, tyX1_ok, nmX1⟩
  | 2, h => cases h; exact ⟨tyX2, tyX2_ok, nmX2⟩
  | 3, h => cases h; exact ⟨tyX3, tyX3_ok, nmX3⟩
  | 4, h => cases h; exact ⟨tyX4, tyX4_ok, nmX4⟩
  | 5, h => cases h; exact ⟨tyX5, tyX5_ok, nmX5⟩
  | 6, h => cases h; exact ⟨tyX6, tyX6_ok, nmX6⟩
  | 7, h => cases h; exact ⟨tyX7, tyX7_ok, nmX7⟩
  | n + 8, h => simp at h
theorem fx_Wd.put {k o g i : Nat} {v : Int} {H H1 : Heap} {locs locs1 : List Loc} {e0 : va_E} (hG : fx_Ok G) (hW : fx_Wd G s σ H locs) (hq : (fx_gl G)[k]? = some (o, g)) (he : fx_ce G (fx_up σ o g i v) o g = e0) (hP : va_P (fx_gD G) fx_cl ((fx_ws G σ).set k (fx_ga G o g, e0)) H1) (hS : va_S (fx_A G) s.heap H1 locs1) : fx_Wd G s (fx_up σ o g i v) H1 locs1 := by
  rw [fx_ws_set G hG.1 hq he (fun o' g' h j => fx_up_ne h j)] at hP
  exact ⟨hW.1, hP, fx_ws_D G hW.2.2.1, hS, hW.2.2.2.2⟩
theorem fxw_putf (C : fx_Cx p s m meth c args R cells slots y) {i ci k o g : Nat} {fl : List (Option (Nat → Nat × Nat))} {v : Int} (hG : fx_Ok G) (hm : (o, g) ∈ fx_gl G) (hf : fx_fd (fx_own y) i = some (ci, k)) (ho : fx_ob o = some (ci, fl)) (hv : fl[k]? = some none) (hok : fx_okf ci k v = true) (hd : decode (fx_by y) pc = .ok (.putfield i, 3)) (kk : fx_WW p l e R s m args below meth c cells slots Q G (pc + 3) ls st (fx_up σ o g k v)) : fx_WW p l e R s m args below meth c cells slots Q G pc ls (.inl v :: .inr (some (o, g)) :: st) σ := by
  intro H locs jl hW hL
  obtain ⟨q, hq⟩ := fx_mem_at hm
  obtain ⟨r, h1, h2, h2e, h3⟩ := fx_fd_in hf
  obtain ⟨ty0, hty, hnm⟩ := fx_cl_ty h1
  have hc : ∀ σ : fx_M, fx_ce G σ o g = .inr (ci, fx_fl (fx_ga G) σ o g 0 fl) := fun σ => by unfold fx_ce; rw [ho]
  have hw := fx_ws_at G σ hq
  rw [hc] at hw
  unfold fx_okf at hok
  rw [← h2e] at hok
  simp only [Bool.and_eq_true, Bool.or_eq_true, beq_iff_eq, Bool.not_eq_true'] at hok
  have hl : k < (fx_fl (fx_ga G) σ o g 0 fl).length := by rw [fx_fl_len]; exact (List.getElem?_eq_some_iff.mp hv).1
  have hset := fx_fl_set (fx_ga G) σ o g v fl 0 k hv
  rw [Nat.zero_add] at hset
  have key : ∃ ty, parseFieldDescriptor (r.2.1 k).2.2.1 = some ty ∧ narrow ty (.int (fx_I v)) = .int (fx_I v) ∧ fits ty (.int (fx_I v)) = true := by
    rcases hok.2 with h | ⟨h, h4⟩
    · exact ⟨.int, by rw [h]; decide +kernel, vp_nar_int _, rfl⟩
    · refine ⟨.boolean, by rw [h]; decide +kernel, ?_⟩
      rcases h4 with rfl | rfl
      · exact ⟨rfl, rfl⟩
      · exact ⟨rfl, rfl⟩
  obtain ⟨ty, e1, e2, e3⟩ := key
  refine va_put C.1 C.2.1 C.2.2.2.2.2.1 (fx_cl_in h1) ty0 hty hnm C.2.2.2.2.1 hW.1 hW.2.1 hW.2.2.1 hW.2.2.2.1 q hw h1 k h2 (C.2.2.2.2.2.1 _ h3) (fun _ h => h) hok.1 e1 e2 e3 hl hd ?_
  intro H1 locs1 hP1 hD1 hS1
  rw [show fx_re (fx_ga G) (Sum.inl v) = Value.int (fx_I v) from rfl, hset] at hP1
  exact kk H1 locs1 jl (hW.put hG hq (hc _) hP1 hS1) hL
theorem fx_sT_ok : ∀ e ∈ fx_sT, (e.2.1, e.2.2) ∈ [(90, "GREATEST_RULE"), (91, "SIDE_ROWS"), (92, "SIDE_COLUMNS")] := by decide +kernel
theorem fx_nT_ok : ∀ e ∈ fx_nT, (e.2.1, e.2.2) ∈ [(90, "GREATEST_RULE"), (91, "SIDE_ROWS"), (92, "SIDE_COLUMNS")] := by decide +kernel
theorem fxw_gets (C : fx_Cx p s m meth c args R cells slots y) {i o : Nat} {n : String} (hf : fx_sd (fx_own y) i = some (o, n)) (hd : decode (fx_by y) pc = .ok (.getstatic i, 3)) (kk : fx_WW p l e R s m args below meth c cells slots Q G (pc + 3) ls (.inr (some (o, 0)) :: st) σ) : fx_WW p l e R s m args below meth c cells slots Q G pc ls st σ := by
  intro H locs jl hW hL
  unfold fx_sd at hf
  rw [Option.map_eq_some_iff] at hf
  obtain ⟨e, he, h2⟩ := hf
  have h3 := List.find?_some he
  simp only [Bool.and_eq_true, beq_iff_eq] at h3
  have hm := List.mem_of_find?_eq_some he
  have h4 := fx_w8 _ (List.mem_map.mpr ⟨e, hm, rfl⟩)
  have h5 := fx_sT_ok e hm
  rw [h3.1, h3.2, h2] at h4
  have h5 : (o, n) ∈ [(90, "GREATEST_RULE"), (91, "SIDE_ROWS"), (92, "SIDE_COLUMNS")] := by rw [h2] at h5; exact h5
  exact va_gets C.1 C.2.1 (hW.2.2.2.2.1 (o, n) h5).1 hW.2.2.2.1 C.2.2.2.2.1 (C.2.2.2.2.2.1 _ h4) (fun _ h => h) hd (kk H locs jl hW hL)
theorem fxw_getsN (C : fx_Cx p s m meth c args R cells slots y) {i o : Nat} {n : String} (hf : fx_nd (fx_own y) i = some (o, n)) (hd : decode (fx_by y) pc = .ok (.getstatic i, 3)) (kk : fx_WW p l e R s m args below meth c cells slots Q G (pc + 3) ls (.inr (some (o, 0)) :: st) σ) : fx_WW p l e R s m args below meth c cells slots Q G pc ls st σ := by
  intro H locs jl hW hL
  unfold fx_nd at hf
  rw [Option.map_eq_some_iff] at hf
  obtain ⟨e, he, h2⟩ := hf
  have h3 := List.find?_some he
  simp only [Bool.and_eq_true, beq_iff_eq] at h3
  have hm := List.mem_of_find?_eq_some he
  have h4 := hW.2.2.2.2.2 e hm
  have h5 := fx_nT_ok e hm
  rw [h3.1, h3.2, h2] at h4
  have h5 : (o, n) ∈ [(90, "GREATEST_RULE"), (91, "SIDE_ROWS"), (92, "SIDE_COLUMNS")] := by rw [h2] at h5; exact h5
  exact va_getsN C.1 C.2.1 (hW.2.2.2.2.1 (o, n) h5).1 hW.2.2.2.1 C.2.2.2.2.1 (va_Nw.use rfl h4) (fun _ h => h) hd (kk H locs jl hW hL)
theorem fx_ak_ob {o : Nat} (h : fx_ak o ≠ 0) : fx_ob o = none := by
  cases ho : fx_ob o with
  | none => rfl
  | some q => exact absurd (fx_ob_ak (ci := q.1) (fl := q.2) ho) h
theorem fx_ce_int {o g : Nat} (h : fx_ak o = 1) : fx_ce G σ o g = .inl (fx_gI G, (fx_gS G).1 o g, .inl (fun i => fx_I (σ o g i))) := by
  unfold fx_ce
  rw [fx_ak_ob (by rw [h]; decide)]
  have h2 : ¬ o = 2 := by rintro rfl; revert h; decide
  simp only [h2, if_false, h]
  simp
theorem fx_ce_bool {o g : Nat} (h : fx_ak o = 2) : fx_ce G σ o g = .inl (fx_gZ G, (fx_gS G).1 o g, .inl (fun i => fx_I (σ o g i))) := by
  unfold fx_ce
  rw [fx_ak_ob (by rw [h]; decide)]
  have h2 : ¬ o = 2 := by rintro rfl; revert h; decide
  simp only [h2, if_false, h]
  simp
theorem fxw_iald (C : fx_Cx p s m meth c args R cells slots y) {o g : Nat} {i : Int} (hG : fx_Ok G) (hm : (o, g) ∈ fx_gl G) (ho : fx_ak o = 1) (h0 : 0 ≤ i) (h1 : i < (fx_gS G).1 o g) (hd : decode (fx_by y) pc = .ok (.iaload, 1)) (kk : fx_WW p l e R s m args below meth c cells slots Q G (pc + 1) ls (.inl (σ o g i.toNat) :: st) σ) : fx_WW p l e R s m args below meth c cells slots Q G pc ls (.inl i :: .inr (some (o, g)) :: st) σ := by
  intro H locs jl hW hL
  obtain ⟨q, hq⟩ := fx_mem_at hm
  have hw := fx_ws_at G σ hq
  rw [fx_ce_int ho] at hw
  have hn := hG.2.1 o g
  have k2 := kk H locs jl hW hL
  refine va_iald C.1 C.2.1 hW.1 hW.2.1 q 0 hw hG.2.2.1 (fx_vin h0 h1 hn) hd ?_
  rw [fx_clamp h0 (by omega)]
  exact k2
theorem fxw_zald (C : fx_Cx p s m meth c args R cells slots y) {o g : Nat} {i : Int} (hG : fx_Ok G) (hm : (o, g) ∈ fx_gl G) (ho : fx_ak o = 2) (h0 : 0 ≤ i) (h1 : i < (fx_gS G).1 o g) (hd : decode (fx_by y) pc = .ok (.baload, 1)) (kk : fx_WW p l e R s m args below meth c cells slots Q G (pc + 1) ls (.inl (σ o g i.toNat) :: st) σ) : fx_WW p l e R s m args below meth c cells slots Q G pc ls (.inl i :: .inr (some (o, g)) :: st) σ := by
  intro H locs jl hW hL
  obtain ⟨q, hq⟩ := fx_mem_at hm
  have hw := fx_ws_at G σ hq
  rw [fx_ce_bool ho] at hw
  have hn := hG.2.1 o g
  have k2 := kk H locs jl hW hL
  refine va_zald C.1 C.2.1 hW.1 hW.2.1 q 1 hw (hG.2.2.2.1 ⟨_, hm, ho⟩) (fx_vin h0 h1 hn) hd ?_
  rw [fx_clamp h0 (by omega)]
  exact k2
theorem fxw_tald (C : fx_Cx p s m meth c args R cells slots y) {o : Nat} {i : Int} (hm : o = 90 ∨ o = 91 ∨ o = 92) (h0 : 0 ≤ i) (h1 : i < (fx_sv o).length) (hd : decode (fx_by y) pc = .ok (.iaload, 1)) (kk : fx_WW p l e R s m args below meth c cells slots Q G (pc + 1) ls (.inl ((fx_sv o).getD i.toNat 0) :: st) σ) : fx_WW p l e R s m args below meth c cells slots Q G pc ls (.inl i :: .inr (some (o, 0)) :: st) σ := by
  intro H locs jl hW hL
  have hT : va_T .int (fx_ga G o 0) (fx_sv o).length (fun j => .int (fx_I ((fx_sv o).getD j 0))) (fx_A G) s s.heap := by
    rcases hm with rfl | rfl | rfl
    · exact (hW.2.2.2.2.1 (90, "GREATEST_RULE") (by simp)).2
    · exact (hW.2.2.2.2.1 (91, "SIDE_ROWS") (by simp)).2
    · exact (hW.2.2.2.2.1 (92, "SIDE_COLUMNS") (by simp)).2
  have hn : (fx_sv o).length < 2147483648 := by rcases hm with rfl | rfl | rfl <;> decide
  have k2 := kk H locs jl hW hL
  exact va_ti C.1 C.2.1 hT hW.2.2.2.1 (fx_vin h0 h1 hn) (by rw [fx_clamp h0 (by omega)]; rfl) hd k2
theorem fxw_tlen (C : fx_Cx p s m meth c args R cells slots y) {o : Nat} (hm : o = 90 ∨ o = 91 ∨ o = 92) (hd : decode (fx_by y) pc = .ok (.arraylength, 1)) (kk : fx_WW p l e R s m args below meth c cells slots Q G (pc + 1) ls (.inl (fx_sv o).length :: st) σ) : fx_WW p l e R s m args below meth c cells slots Q G pc ls (.inr (some (o, 0)) :: st) σ := by
  intro H locs jl hW hL
  have hT : va_T .int (fx_ga G o 0) (fx_sv o).length (fun j => .int (fx_I ((fx_sv o).getD j 0))) (fx_A G) s s.heap := by
    rcases hm with rfl | rfl | rfl
    · exact (hW.2.2.2.2.1 (90, "GREATEST_RULE") (by simp)).2
    · exact (hW.2.2.2.2.1 (91, "SIDE_ROWS") (by simp)).2
    · exact (hW.2.2.2.2.1 (92, "SIDE_COLUMNS") (by simp)).2
  exact va_tlen C.1 C.2.1 hT hW.2.2.2.1 (fx_ofNat _) hd (kk H locs jl hW hL)
theorem fxw_alen (C : fx_Cx p s m meth c args R cells slots y) {o g : Nat} (hG : fx_Ok G) (hm : (o, g) ∈ fx_gl G) (ho : fx_ak o = 1 ∨ fx_ak o = 2) (hd : decode (fx_by y) pc = .ok (.arraylength, 1)) (kk : fx_WW p l e R s m args below meth c cells slots Q G (pc + 1) ls (.inl ((fx_gS G).1 o g) :: st) σ) : fx_WW p l e R s m args below meth c cells slots Q G pc ls (.inr (some (o, g)) :: st) σ := by
  intro H locs jl hW hL
  obtain ⟨q, hq⟩ := fx_mem_at hm
  have hw := fx_ws_at G σ hq
  rcases ho with ho | ho
  · rw [fx_ce_int ho] at hw
    exact va_alen C.1 C.2.1 hW.1 hW.2.1 q 0 hw hG.2.2.1 (fx_ofNat _) hd (kk H locs jl hW hL)
  · rw [fx_ce_bool ho] at hw
    exact va_alen C.1 C.2.1 hW.1 hW.2.1 q 1 hw (hG.2.2.2.1 ⟨_, hm, ho⟩) (fx_ofNat _) hd (kk H locs jl hW hL)
theorem fx_upd_I {o g i : Nat} {v : Int} : upd (fun j => fx_I (σ o g j)) i (fx_I v) = fun j => fx_I (fx_up σ o g i v o g j) := by
  funext j
  unfold upd fx_up
  by_cases h : j = i <;> simp [h]
theorem fxw_iast (C : fx_Cx p s m meth c args R cells slots y) {o g : Nat} {i v : Int} (hG : fx_Ok G) (hm : (o, g) ∈ fx_gl G) (ho : fx_ak o = 1) (h0 : 0 ≤ i) (h1 : i < (fx_gS G).1 o g) (hd : decode (fx_by y) pc = .ok (.iastore, 1)) (kk : fx_WW p l e R s m args below meth c cells slots Q G (pc + 1) ls st (fx_up σ o g i.toNat v)) : fx_WW p l e R s m args below meth c cells slots Q G pc ls (.inl v :: .inl i :: .inr (some (o, g)) :: st) σ := by
  intro H locs jl hW hL
  obtain ⟨q, hq⟩ := fx_mem_at hm
  have hw := fx_ws_at G σ hq
  rw [fx_ce_int ho] at hw
  have hn := hG.2.1 o g
  refine va_iast C.1 C.2.1 hW.1 hW.2.1 hW.2.2.1 hW.2.2.2.1 q 0 hw hG.2.2.1 (fx_vin h0 h1 hn) hd ?_
  intro H1 locs1 hP1 hD1 hS1
  rw [fx_clamp h0 (by omega), fx_upd_I] at hP1
  exact kk H1 locs1 jl (hW.put hG hq (fx_ce_int ho) hP1 hS1) hL
theorem fxw_zast (C : fx_Cx p s m meth c args R cells slots y) {o g : Nat} {i v : Int} (hG : fx_Ok G) (hm : (o, g) ∈ fx_gl G) (ho : fx_ak o = 2) (h0 : 0 ≤ i) (h1 : i < (fx_gS G).1 o g) (hv : v = 0 ∨ v = 1) (hd : decode (fx_by y) pc = .ok (.bastore, 1)) (kk : fx_WW p l e R s m args below meth c cells slots Q G (pc + 1) ls st (fx_up σ o g i.toNat v)) : fx_WW p l e R s m args below meth c cells slots Q G pc ls (.inl v :: .inl i :: .inr (some (o, g)) :: st) σ := by
  intro H locs jl hW hL
  obtain ⟨q, hq⟩ := fx_mem_at hm
  have hw := fx_ws_at G σ hq
  rw [fx_ce_bool ho] at hw
  have hn := hG.2.1 o g
  have hv2 : vp_nar .boolean (fx_I v) = fx_I v := by rcases hv with rfl | rfl <;> rfl
  refine va_zast C.1 C.2.1 hW.1 hW.2.1 hW.2.2.1 hW.2.2.2.1 q 1 hw (hG.2.2.2.1 ⟨_, hm, ho⟩) (fx_vin h0 h1 hn) hd ?_
  intro H1 locs1 hP1 hD1 hS1
  rw [fx_clamp h0 (by omega), hv2, fx_upd_I] at hP1
  exact kk H1 locs1 jl (hW.put hG hq (fx_ce_bool ho) hP1 hS1) hL
theorem fxw_aald (C : fx_Cx p s m meth c args R cells slots y) {i : Int} (hG : fx_Ok G) (hm : (2, 0) ∈ fx_gl G) (h0 : 0 ≤ i) (h1 : i < (fx_gS G).1 2 0) (hd : decode (fx_by y) pc = .ok (.aaload, 1)) (kk : fx_WW p l e R s m args below meth c cells slots Q G (pc + 1) ls (.inr (if i.toNat < (fx_gS G).2 then some (12, i.toNat) else none) :: st) σ) : fx_WW p l e R s m args below meth c cells slots Q G pc ls (.inl i :: .inr (some (2, 0)) :: st) σ := by
  intro H locs jl hW hL
  obtain ⟨q, hq⟩ := fx_mem_at hm
  have hw := fx_ws_at G σ hq
  have hc : fx_ce G σ 2 0 = .inl (fx_gQ G, (fx_gS G).1 2 0, .inr (.inr (.inr (.inr (fun j => if j < (fx_gS G).2 then some (fx_ga G 12 j) else none))))) := by
    unfold fx_ce
    rw [fx_ak_ob (by decide)]
    rfl
  rw [hc] at hw
  have hn := hG.2.1 2 0
  have k2 := kk H locs jl hW hL
  refine va_aldq C.1 C.2.1 hW.1 hW.2.1 q 2 hw (hG.2.2.2.2.1 hm) (fx_vin h0 h1 hn) hd ?_
  rw [fx_clamp h0 (by omega)]
  by_cases hj : i.toNat < (fx_gS G).2
  · simp only [hj, if_true] at k2 ⊢
    exact k2
  · simp only [hj, if_false] at k2 ⊢
    exact k2
theorem fx_pd_in {i k : Nat} (h : fx_pd y i = some k) : Cond.methodLink (fx_cs (fx_own y)) i (fx_mn k) ∈ fx_tb := by
  unfold fx_pd at h
  rw [Option.map_eq_some_iff] at h
  obtain ⟨e, he, h2⟩ := h
  have h3 := List.find?_some he
  simp only [Bool.and_eq_true, beq_iff_eq] at h3
  have h4 := fx_w16 _ (List.mem_map.mpr ⟨e, List.mem_of_find?_eq_some he, rfl⟩)
  rw [h3.1, h3.2, h2] at h4
  exact h4
theorem fx_cat_sum (ad : Nat → Nat → Nat) (st : List fx_V) : ((st.map (fx_re ad)).map (fun v => v.category)).sum = st.length := by
  induction st with
  | nil => rfl
  | cons v t ih => simp only [List.map_cons, List.sum_cons, List.length_cons, ih, fx_re_cat]; omega
theorem fx_room (C : fx_Cx p s m meth c args R cells slots y) (h : st.length ≤ 8) : ((st.map (fx_re (fx_ga G))).map (fun v => v.category)).sum + 13 ≤ R.locals := by
  rw [fx_cat_sum]
  have := C.2.2.2.2.2.2.2.2.1
  omega
theorem fxw_max (C : fx_Cx p s m meth c args R cells slots y) {i : Nat} {a b : Int} (hf : fx_pd y i = some 0) (ha : fx_in a) (hb : fx_in b) (hst : st.length ≤ 8) (hls : ls.length = fx_mL y) (hd : decode (fx_by y) pc = .ok (.invokestatic i, 3)) (kk : fx_WW p l e R s m args below meth c cells slots Q G (pc + 3) ls (.inl (if a < b then b else a) :: st) σ) : fx_WW p l e R s m args below meth c cells slots Q G pc ls (.inl b :: .inl a :: st) σ := by
  intro H locs jl hW hL
  have k2 := kk H locs jl hW hL
  refine va_mmax C.1 C.2.1 (by rw [hL.1, hls]; exact C.2.2.1) C.2.2.2.2.1 (C.2.2.2.2.2.1 _ (fx_pd_in hf)) (C.2.2.2.2.2.1 _ (fx_w17 _ (by simp))) (C.2.2.2.2.2.1 _ (fx_w17 _ (by simp))) (C.2.2.2.2.2.1 _ (fx_w18 _ (by simp))) (by have := C.2.2.2.2.2.2.2.1; omega) (fx_room C hst) C.2.2.2.2.2.2.2.2.2.1 C.2.2.2.2.2.2.2.2.2.2 hd ?_
  by_cases h : a < b
  · rw [if_pos ((fx_lt ha hb).mpr h)]; rw [if_pos h] at k2; exact k2
  · rw [if_neg (fun q => h ((fx_lt ha hb).mp q))]; rw [if_neg h] at k2; exact k2
theorem fxw_min (C : fx_Cx p s m meth c args R cells slots y) {i : Nat} {a b : Int} (hf : fx_pd y i = some 1) (ha : fx_in a) (hb : fx_in b) (hst : st.length ≤ 8) (hls : ls.length = fx_mL y) (hd : decode (fx_by y) pc = .ok (.invokestatic i, 3)) (kk : fx_WW p l e R s m args below meth c cells slots Q G (pc + 3) ls (.inl (if b < a then b else a) :: st) σ) : fx_WW p l e R s m args below meth c cells slots Q G pc ls (.inl b :: .inl a :: st) σ := by
  intro H locs jl hW hL
  have k2 := kk H locs jl hW hL
  refine va_mmin C.1 C.2.1 (by rw [hL.1, hls]; exact C.2.2.1) C.2.2.2.2.1 (C.2.2.2.2.2.1 _ (fx_pd_in hf)) (C.2.2.2.2.2.1 _ (fx_w17 _ (by simp))) (C.2.2.2.2.2.1 _ (fx_w17 _ (by simp))) (C.2.2.2.2.2.1 _ (fx_w18 _ (by simp))) (by have := C.2.2.2.2.2.2.2.1; omega) (fx_room C hst) C.2.2.2.2.2.2.2.2.2.1 C.2.2.2.2.2.2.2.2.2.2 hd ?_
  by_cases h : b < a
  · rw [if_pos ((fx_lt hb ha).mpr h)]; rw [if_pos h] at k2; exact k2
  · rw [if_neg (fun q => h ((fx_lt hb ha).mp q))]; rw [if_neg h] at k2; exact k2
theorem fxw_abs (C : fx_Cx p s m meth c args R cells slots y) {i : Nat} {a : Int} (hf : fx_pd y i = some 2) (ha : fx_in a) (hst : st.length ≤ 8) (hls : ls.length = fx_mL y) (hd : decode (fx_by y) pc = .ok (.invokestatic i, 3)) (kk : fx_WW p l e R s m args below meth c cells slots Q G (pc + 3) ls (.inl (if 0 ≤ a then a else -a) :: st) σ) : fx_WW p l e R s m args below meth c cells slots Q G pc ls (.inl a :: st) σ := by
  intro H locs jl hW hL
  have k2 := kk H locs jl hW hL
  refine va_mabs C.1 C.2.1 (by rw [hL.1, hls]; exact C.2.2.1) C.2.2.2.2.1 (C.2.2.2.2.2.1 _ (fx_pd_in hf)) (C.2.2.2.2.2.1 _ (fx_w17 _ (by simp))) (C.2.2.2.2.2.1 _ (fx_w17 _ (by simp))) (C.2.2.2.2.2.1 _ (fx_w18 _ (by simp))) (by have := C.2.2.2.2.2.2.2.1; omega) (fx_room C hst) C.2.2.2.2.2.2.2.2.2.1 C.2.2.2.2.2.2.2.2.2.2 hd ?_
  rw [← fx_I0]
  by_cases h : 0 ≤ a
  · rw [if_pos ((fx_le fx_in0 ha).mpr h)]; rw [if_pos h] at k2; exact k2
  · rw [if_neg (fun q => h ((fx_le fx_in0 ha).mp q))]; rw [if_neg h] at k2
    simp only [List.map_cons, fx_re, fx_I, Int32.ofInt_neg] at k2
    rw [fx_I0, Int32.zero_sub]
    exact k2
theorem fxw_copy (C : fx_Cx p s m meth c args R cells slots y) {i o0 g0 o1 g1 : Nat} {n dp sp : Int} (hG : fx_Ok G) (hm0 : (o0, g0) ∈ fx_gl G) (hm1 : (o1, g1) ∈ fx_gl G) (hf : (y, i) ∈ fx_aT) (h0 : fx_ak o0 = 1) (h1 : fx_ak o1 = 1) (hn : 0 ≤ n) (hdp : 0 ≤ dp) (hsp : 0 ≤ sp) (hs : sp + n ≤ (fx_gS G).1 o0 g0) (hdd : dp + n ≤ (fx_gS G).1 o1 g1) (hst : st.length ≤ 8) (hls : ls.length = fx_mL y) (hd : decode (fx_by y) pc = .ok (.invokestatic i, 3))
    (kk : fx_WW p l e R s m args below meth c cells slots Q G (pc + 3) ls st (fun o g k => if o = o1 ∧ g = g1 ∧ dp.toNat ≤ k ∧ k < dp.toNat + n.toNat then σ o0 g0 (sp.toNat + (k - dp.toNat)) else σ o g k)) : fx_WW p l e R s m args below meth c cells slots Q G pc ls (.inl n :: .inl dp :: .inr (some (o1, g1)) :: .inl sp :: .inr (some (o0, g0)) :: st) σ := by
  intro H locs jl hW hL
  obtain ⟨q0, hq0⟩ := fx_mem_at hm0
  obtain ⟨q1, hq1⟩ := fx_mem_at hm1
  have hw0 := fx_ws_at G σ hq0
  have hw1 := fx_ws_at G σ hq1
  rw [fx_ce_int h0] at hw0
  rw [fx_ce_int h1] at hw1
  have b0 := hG.2.1 o0 g0
  have b1 := hG.2.1 o1 g1
  have en : (fx_I n).toNatClampNeg = n.toNat := fx_clamp hn (by omega)
  have ed : (fx_I dp).toNatClampNeg = dp.toNat := fx_clamp hdp (by omega)
  have es : (fx_I sp).toNatClampNeg = sp.toNat := fx_clamp hsp (by omega)
  have hlink := fx_w10 _ (List.mem_map.mpr ⟨(y, i), hf, rfl⟩)
  have pos : ∀ x : Int, 0 ≤ x → x < 2147483648 → ¬ fx_I x < 0 := fun x hx hx2 q => by
    have := (fx_lt (x := x) (y := 0) ⟨by omega, by omega⟩ fx_in0).mp q
    omega
  refine va_copyi C.1 C.2.1 (by rw [hL.1, hls]; exact C.2.2.1) C.2.2.2.2.1 (C.2.2.2.2.2.1 _ hlink) (C.2.2.2.2.2.1 _ (fx_w11 _ (by simp))) (C.2.2.2.2.2.1 _ (fx_w11 _ (by simp))) (C.2.2.2.2.2.1 _ (fx_w11 _ (by simp))) hW.1 hW.2.1 hW.2.2.1 hW.2.2.2.1 q0 q1 0 0 hw0 hw1 hG.2.2.1 hG.2.2.1 rfl (pos sp hsp (by omega)) (pos dp hdp (by omega)) (pos n hn (by omega)) (by rw [en, es]; omega) (by rw [en, ed]; omega) (fun _ _ => rfl) (by have := C.2.2.2.2.2.2.2.1; omega) ?_ hd ?_
  · rw [fx_cat_sum]
    have h3 : nativeFrameWords "java/lang/System" "arraycopy" 5 + 11 ≤ 30 := by decide +kernel
    have := C.2.2.2.2.2.2.2.2.1
    omega
  · intro H1 locs1 hP1 hD1 hS1
    refine kk H1 locs1 jl ⟨hW.1, ?_, fx_ws_D G hW.2.2.1, hS1, hW.2.2.2.2⟩ hL
    rw [fx_ws_set G (σ' := fun o g k => if o = o1 ∧ g = g1 ∧ dp.toNat ≤ k ∧ k < dp.toNat + n.toNat then σ o0 g0 (sp.toNat + (k - dp.toNat)) else σ o g k) hG.1 hq1 ?_ ?_] at hP1
    · exact hP1
    · rw [fx_ce_int h1, en, ed, es]
      congr 4
      funext k
      unfold va_cpy
      by_cases hk : dp.toNat ≤ k ∧ k < dp.toNat + n.toNat
      · simp [hk]
      · simp only [hk, and_false, if_false]
    · intro o' g' hne j
      rw [if_neg]
      rintro ⟨a1, a2, -⟩
      exact hne (by rw [a1, a2])
end FXR2
