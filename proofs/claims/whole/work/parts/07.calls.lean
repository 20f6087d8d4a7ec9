/-! calls, answers, and the simulation: what the shadow machine answers, the machine answers -/
def fx_WS (z : Nat) : List Cond := Cond.code (fx_nm z) (fx_by z) (fx_mL z) (fx_rt z) :: fx_tb
def fx_RM (z : Nat) : Room := { frames := fx_lv z + 1, cells := 0, slots := 0, locals := 40 * (fx_lv z + 1) }
def fx_Pc (G : fx_G) (as : List fx_V) (σ : fx_M) : Array Value → State → Prop := va_Pc (as.map (fx_re (fx_ga G))) (fun U => va_K (fx_gD G) fx_cl (fx_gt G) U ∧ va_P (fx_gD G) fx_cl (fx_ws G σ) U.heap ∧ va_D (fx_A G) (fx_ws G σ) ∧ fx_Sa (fx_ga G) (fx_A G) U U.heap)
def fx_Qc (G : fx_G) (r : fx_R) : Array Value → State → Outcome → State → Prop := fun _ st oc t => oc = .returned (r.1.map (fx_re (fx_ga G))) ∧ va_P (fx_gD G) fx_cl (fx_ws G r.2) t.heap ∧ va_F (fx_A G) st t
abbrev fx_Met (l : Launch) (G : fx_G) (z : Nat) (as : List fx_V) (σ : fx_M) (r : fx_R) : Prop := Met l (fx_nm z) (fx_WS z) (fx_RM z) (fx_Pc G as σ) (fx_Qc G r) 0 0 (fx_A G)
theorem fx_blind {as : List fx_V} {G : fx_G} {σ : fx_M} : FrameBlind (fx_Pc G as σ) := by
  rintro a U g mk ⟨h1, h2, h3, h4, h5⟩
  exact ⟨h1, va_K.moved (u := U) (U := U.calling g mk a) (Vm.Alike.refl U.vm) h2, h3, h4, fx_Sa.same (u := U) (U := U.calling g mk a) rfl h5⟩
theorem fx_good_tb : GoodIn fx_tb fx_tb := fun w h => ⟨h, good_of_word (fx_tb_good w h)⟩
theorem fx_good1 {w : Cond} {ws : List Cond} (h : w ∈ fx_tb) (hr : GoodIn fx_tb ws) : GoodIn fx_tb (w :: ws) := fun v hv => (List.mem_cons.mp hv).elim (fun e => e ▸ ⟨h, good_of_word (fx_tb_good w h)⟩) (hr v)
theorem fx_w2m {z : Nat} (hz : z < fx_nM) : Cond.initialized (fx_nm z).cls ∈ fx_tb := fx_w2 _ (List.mem_map.mpr ⟨z, List.mem_range.mpr hz, rfl⟩)
theorem fx_ca_in {y i z n k : Nat} (h : fx_ca y i = some (z, n, k)) : Cond.methodLink (fx_cs (fx_own y)) i (fx_nm z) ∈ fx_tb ∧ (fx_lv z < fx_lv y ∧ fx_mL z ≤ 20 ∧ Jvm.plainName (fx_nm z).cls = true ∧ (parseMethodDescriptor (fx_nm z).desc).map (fun d => d.parameters.length) = some n ∧ (fx_nm z).cls ≠ "java/lang/invoke/MethodHandle" ∧ (fx_nm z).cls ≠ "java/lang/invoke/VarHandle" ∧ z < fx_nM ∧ z ∈ (if k = 0 then fx_iM else fx_tM) ∧ k < 2) := by
  unfold fx_ca at h
  rw [Option.map_eq_some_iff] at h
  obtain ⟨e, he, h2⟩ := h
  have h3 := List.find?_some he
  simp only [Bool.and_eq_true, beq_iff_eq] at h3
  have hm := List.mem_of_find?_eq_some he
  have h4 := fx_w6 _ (List.mem_map.mpr ⟨e, hm, rfl⟩)
  have h5 := fx_w12 e hm
  rw [h3.1, h2] at h5
  rw [h3.1, h3.2, h2] at h4
  exact ⟨h4, h5⟩
theorem fx_ob_cl {o ci : Nat} {fl : List (Option (Nat → Nat × Nat))} (h : fx_ob o = some (ci, fl)) : ∃ r : vw_C, fx_cl[ci]? = some r ∧ r.1 = fx_cs ci := by
  have h8 : ci = 0 ∨ ci = 1 ∨ ci = 2 ∨ ci = 3 ∨ ci = 4 ∨ ci = 5 ∨ ci = 6 ∨ ci = 7 := by
    unfold fx_ob at h
    repeat' (split at h)
    all_goals first | (cases h; done) | (cases h; simp)
  rcases h8 with rfl | rfl | rfl | rfl | rfl | rfl | rfl | rfl <;> exact ⟨_, rfl, rfl⟩
section FXS
variable {p : Program} {l : Launch} {e : Env} {R : Room} {s : State} {m : MethodId} {args : Array Value} {below : List Frame} {meth : Method} {c : Code} {cells slots : Nat} {Q : State → Prop} {G : fx_G} {y pc : Nat} {ls : fx_L} {st : List fx_V} {σ : fx_M}
theorem fx_after {H : Heap} {locs : List Loc} {jl : Array Slot} {st0 rest : List Value} {r : fx_R} {A : Array Value} (hW : fx_Wd G s σ H locs) (hr : va_Run p l e R s m args below meth c H locs cells slots 0 0 (F0 m pc jl st0) rest (fx_Qc G r A) (fx_A G))
    (kk : ∀ (H1 : Heap) (locs1 : List Loc), fx_Wd G s r.2 H1 locs1 → W p l e R s m args below meth c H1 locs1 cells slots Q (F0 m (pc + 3) jl ((r.1.map (fx_re (fx_ga G))).toList ++ rest))) : W p l e R s m args below meth c H locs cells slots Q (F0 m pc jl st0) := by
  intro T hT X
  obtain ⟨v, st₀, t, T', L, h0, X', hL, e1, e2, ⟨hv, hP, hz, hk⟩, st⟩ := hr T hT X
  cases hv
  rw [h0] at hz hk
  have hS := hW.2.2.2.1
  have hS1 : va_S (fx_A G) s.heap T'.heap (locs ++ L) := ⟨Nat.le_trans hS.1 (by rw [e1]; exact hz), fun q h1 h2 => by rw [e1, hk q (Nat.lt_of_lt_of_le h1 hS.1) h2]; exact hS.2.1 q h1 h2, fun q hq => by
      rcases List.mem_append.mp hq with h | h
      · exact hS.2.2 q h
      · exact hL q h⟩
  obtain ⟨t2, a1, b1⟩ := kk T'.heap (locs ++ L) ⟨hW.1, by rw [e1]; exact hP, fx_ws_D G hW.2.2.1, hS1, hW.2.2.2.2⟩ T' rfl X'
  exact ⟨t2, st t2 a1, b1⟩
theorem fx_toList (ad : Nat → Nat → Nat) (v : Option fx_V) (rest : List fx_V) : (v.map (fx_re ad)).toList ++ rest.map (fx_re ad) = (v.toList ++ rest).map (fx_re ad) := by
  cases v <;> simp
theorem fxw_callV (C : fx_Cx p s m meth c args R cells slots y) {i z n o g : Nat} {as rest : List fx_V} {r : fx_R} (hca : fx_ca y i = some (z, n, 0)) (hm : (o, g) ∈ fx_gl G) (hob : (fx_ob o).map (fun q => q.1) = some (fx_own z)) (hn : as.length = n) (hrest : rest.length ≤ 8) (hls : ls.length = fx_mL y) (M : fx_Met l G z (.inr (some (o, g)) :: as) σ r) (hd : decode (fx_by y) pc = .ok (.invokevirtual i, 3)) (kk : fx_WW p l e R s m args below meth c cells slots Q G (pc + 3) ls (r.1.toList ++ rest) r.2) : fx_WW p l e R s m args below meth c cells slots Q G pc ls (as.reverse ++ .inr (some (o, g)) :: rest) σ := by
  intro H locs jl hW hL
  obtain ⟨hlink, hlev, hmL, hplain, hdesc, hc1, hc2, hz, hzi, -⟩ := fx_ca_in hca
  rw [if_pos rfl] at hzi
  rw [Option.map_eq_some_iff] at hob
  obtain ⟨⟨ci, fl⟩, ho, hci⟩ := hob
  dsimp only at hci
  obtain ⟨rr, hcl, hcs⟩ := fx_ob_cl ho
  obtain ⟨q, hq⟩ := fx_mem_at hm
  have hw := fx_ws_at G σ hq
  have hce : fx_ce G σ o g = .inr (ci, fx_fl (fx_ga G) σ o g 0 fl) := by unfold fx_ce; rw [ho]
  rw [hce] at hw
  have hcls : (fx_nm z).cls = rr.1 := by rw [hcs, hci]; exact (fx_w13 z hz).1
  have hrecv := va_recv hW.1 hW.2.1 hcl hw
  rw [← hcls] at hrecv
  have hin := fx_w3 _ (List.mem_map.mpr ⟨z, hzi, rfl⟩)
  have hse := fx_w4 _ (List.mem_map.mpr ⟨z, hzi, rfl⟩)
  have hT : GoodIn fx_tb (wsV (fx_cs (fx_own y)) i (fx_nm z).cls (fx_nm z) (fx_WS z)) := fx_good1 hlink (fx_good1 hin (fx_good1 hse (fx_good1 (fx_w2m hz) (fx_good1 (fx_w1 hz) fx_good_tb))))
  have hroom : (fx_RM z).frames + 1 ≤ R.frames ∧ 8 + (fx_mL z + 11) + (fx_RM z).locals ≤ R.locals := by
    have h1 := C.2.2.2.2.2.2.2.1
    have h2 := C.2.2.2.2.2.2.2.2.1
    show fx_lv z + 1 + 1 ≤ R.frames ∧ 8 + (fx_mL z + 11) + 40 * (fx_lv z + 1) ≤ R.locals
    omega
  have cw := cwV (R := R) (s := s) (args := args) (rm := fx_RM z) (mc := 0) (ms := 0) n C.2.2.2.2.2.1 hT rfl rfl rfl ⟨rfl, hc1, hc2, hdesc⟩ hroom
  have run := va_runV (l := l) (e := e) (below := below) (meth := meth) (locs := locs) (cells := cells) (slots := slots) (As := as.map (fx_re (fx_ga G))) (rest := rest.map (fx_re (fx_ga G))) (g := F0 m pc jl ((as.reverse ++ .inr (some (o, g)) :: rest).map (fx_re (fx_ga G)))) ⟨C.1, C.2.1, C.2.2.1, C.2.2.2.2.1, C.2.2.2.2.2.1⟩ M cw ⟨fx_blind, hrecv, fun U hU hWm => ⟨rfl, va_K.moved hWm.alike hW.1, by rw [hU]; exact hW.2.1, hW.2.2.1, by rw [hU]; exact fx_Sa.kept (fx_Sa.moved hWm hW.2.2.2.2) (fun a h1 h2 => hW.2.2.2.1.2.1 a h1 h2)⟩⟩ rfl (by rw [List.length_map]; exact hn) (hL.1.trans hls) (by simp [fx_re]) (lv_room (by rw [fx_cat_sum]; exact hrest)) hd ⟨C.2.2.2.2.2.2.2.2.2.1, C.2.2.2.2.2.2.2.2.2.2⟩
  refine fx_after hW run (fun H1 locs1 hW1 => ?_)
  rw [fx_toList]
  exact kk H1 locs1 jl hW1 hL
theorem fxw_callS (C : fx_Cx p s m meth c args R cells slots y) {i z n : Nat} {as rest : List fx_V} {r : fx_R} (hca : fx_ca y i = some (z, n, 1)) (hn : as.length = n) (hrest : rest.length ≤ 8) (hls : ls.length = fx_mL y) (M : fx_Met l G z as σ r) (hd : decode (fx_by y) pc = .ok (.invokestatic i, 3)) (kk : fx_WW p l e R s m args below meth c cells slots Q G (pc + 3) ls (r.1.toList ++ rest) r.2) : fx_WW p l e R s m args below meth c cells slots Q G pc ls (as.reverse ++ rest) σ := by
  intro H locs jl hW hL
  obtain ⟨hlink, hlev, hmL, hplain, hdesc, hc1, hc2, hz, hzi, -⟩ := fx_ca_in hca
  rw [if_neg (by decide)] at hzi
  have hst := fx_w5 _ (List.mem_map.mpr ⟨z, hzi, rfl⟩)
  have hT : GoodIn fx_tb (va_wsS (fx_cs (fx_own y)) i (fx_nm z) (fx_WS z)) := fx_good1 hlink (fx_good1 hst (fx_good1 (fx_w2m hz) (fx_good1 (fx_w1 hz) fx_good_tb)))
  have hroom : (fx_RM z).frames + 1 ≤ R.frames ∧ 8 + (fx_mL z + 11) + (fx_RM z).locals ≤ R.locals := by
    have h1 := C.2.2.2.2.2.2.2.1
    have h2 := C.2.2.2.2.2.2.2.2.1
    show fx_lv z + 1 + 1 ≤ R.frames ∧ 8 + (fx_mL z + 11) + 40 * (fx_lv z + 1) ≤ R.locals
    omega
  have cw := va_cwS (R := R) (s := s) (args := args) (rm := fx_RM z) (mc := 0) (ms := 0) n C.2.2.2.2.2.1 hT rfl rfl rfl ⟨hc1, hc2, hdesc⟩ hroom
  have run := va_runS (l := l) (e := e) (below := below) (meth := meth) (H := H) (locs := locs) (cells := cells) (slots := slots) (As := as.map (fx_re (fx_ga G))) (rest := rest.map (fx_re (fx_ga G))) (g := F0 m pc jl ((as.reverse ++ rest).map (fx_re (fx_ga G)))) ⟨C.1, C.2.1, C.2.2.1, C.2.2.2.2.1, C.2.2.2.2.2.1⟩ M cw ⟨fx_blind, fun U hU hWm => ⟨rfl, va_K.moved hWm.alike hW.1, by rw [hU]; exact hW.2.1, hW.2.2.1, by rw [hU]; exact fx_Sa.kept (fx_Sa.moved hWm hW.2.2.2.2) (fun a h1 h2 => hW.2.2.2.1.2.1 a h1 h2)⟩⟩ rfl (by rw [List.length_map]; exact hn) (hL.1.trans hls) (by simp [fx_re]) (lv_room (by rw [fx_cat_sum]; exact hrest)) hd ⟨C.2.2.2.2.2.2.2.2.2.1, C.2.2.2.2.2.2.2.2.2.2⟩
  refine fx_after hW run (fun H1 locs1 hW1 => ?_)
  rw [fx_toList]
  exact kk H1 locs1 jl hW1 hL
end FXS
theorem fx_args_mem {ad : Nat → Nat → Nat} : ∀ (as : List fx_V) (i k : Nat) (v : fx_V), as[k]? = some v → (i + k, fx_re ad v) ∈ lv_args i (as.map (fx_re ad))
  | [], i, k, v, h => by simp at h
  | a :: as, i, 0, v, h => by
    simp only [List.getElem?_cons_zero, Option.some.injEq] at h
    subst h
    exact List.mem_cons_self
  | a :: as, i, k + 1, v, h => by
    rw [List.getElem?_cons_succ] at h
    have h2 := fx_args_mem (ad := ad) as (i + 1) k v h
    rw [Nat.add_right_comm, Nat.add_assoc] at h2
    simp only [List.map_cons, lv_args]
    rw [if_neg (by rw [fx_re_cat]; decide)]
    exact List.mem_cons_of_mem _ h2
theorem fx_sl_len {ad : Nat → Nat → Nat} (as : List fx_V) : (lg_sl (as.map (fx_re ad))).length = as.length := by
  induction as with
  | nil => rfl
  | cons a t ih =>
    simp only [lg_sl, List.map_cons, List.flatMap_cons, List.length_append] at ih ⊢
    rw [if_neg (by rw [fx_re_cat]; decide), ih]
    simp only [List.length_cons, List.length_nil]
    omega
theorem fx_ent_Lo {ad : Nat → Nat → Nat} {z : Nat} {as : List fx_V} (h : as.length ≤ fx_mL z) : fx_Lo ad ((lg_sl (as.map (fx_re ad)) ++ List.replicate (fx_mL z - (lg_sl (as.map (fx_re ad))).length) Slot.unset).toArray) (fx_ent z as) := by
  have hl := lv_entry (as.map (fx_re ad)) (n := fx_mL z) (by rw [fx_sl_len]; exact h)
  refine ⟨?_, hl.2.1, ?_⟩
  · rw [hl.1]
    unfold fx_ent
    rw [List.length_append, List.length_map, List.length_replicate]
    omega
  · intro k v hk
    unfold fx_ent at hk
    by_cases hka : k < as.length
    · rw [List.getElem?_append_left (by rw [List.length_map]; exact hka), List.getElem?_map] at hk
      cases hv : as[k]? with
      | none => rw [hv] at hk; cases hk
      | some w =>
        rw [hv] at hk
        simp only [Option.map_some, Option.some.injEq] at hk
        subst hk
        have h2 := fx_args_mem (ad := ad) as 0 k w hv
        rw [Nat.zero_add] at h2
        exact hl.2.2 _ h2
    · rw [List.getElem?_append_right (by rw [List.length_map]; omega)] at hk
      have h3 := List.mem_of_getElem? hk
      rw [List.mem_replicate] at h3
      cases h3.2
