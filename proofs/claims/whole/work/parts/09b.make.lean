/-! making objects: rows for the constructors -/
abbrev fx_t3 (cI cZ cQ : ClassId) : List (ClassId × FieldType) := [(cI, .int), (cZ, .boolean), (cQ, .object "FoldDye$Cloth")]
def fx_mN : List (Nat × MethodName) := [(25, ⟨"FoldDye$Seep", "<init>", "()V"⟩), (32, ⟨"FoldDye$Wish", "<init>", "()V"⟩), (39, ⟨"FoldDye$Search", "<init>", "()V"⟩)]
def fx_St (ad : Nat → Nat → Nat) (A : Nat → Prop) (U : State) : Prop := fx_Sa ad A U U.heap ∧ (∀ q, U.heap.size ≤ q → A q) ∧ (∀ e ∈ fx_mN, va_Nw (.methodLinkNest "FoldDye" e.1 e.2 "FoldDye") U) ∧ va_AO "FoldDye$Cloth" U
theorem fx_St.call {ad : Nat → Nat → Nat} {A0 A : Nat → Prop} {s U : State} {H : Heap} {locs : List Loc} (h : fx_St ad A0 s) (hW : s.WarmedH U.vm) (hU : U.heap = H) (hS : va_S A s.heap H locs) (hA : ∀ q, A q → A0 q) : fx_St ad A0 U := by
  refine ⟨?_, fun q hq => h.2.1 q (Nat.le_trans hS.1 (by rw [← hU]; exact hq)), fun e he => va_Nw.warmM hW (h.2.2.1 e he), h.2.2.2.moved hW.alike⟩
  rw [hU]
  exact fx_Sa.kept (fx_Sa.moved hW h.1) (fun a h1 h2 => hS.2.1 a h1 (fun z => h2 (hA a z)))
theorem fx_St.same {ad : Nat → Nat → Nat} {A0 : Nat → Prop} {u U : State} (h : fx_St ad A0 u) (hv : u.vm = U.vm) (hh : u.heap = U.heap) : fx_St ad A0 U := by
  refine ⟨?_, fun q hq => h.2.1 q (by rw [hh]; exact hq), fun e he => va_Nw.same rfl hv (h.2.2.1 e he), h.2.2.2.moved (hv ▸ Vm.Alike.refl u.vm)⟩
  rw [← hh]
  exact fx_Sa.same hv h.1
theorem va_Run_mono {p : Program} {l : Launch} {e : Env} {R : Room} {s : State} {m : MethodId} {args : Array Value} {below : List Frame} {meth : Method} {c : Code} {H : Heap} {locs : List Loc} {cells slots mc ms : Nat} {g : JFrame} {rest : List Value} {Qa Qb : State → Outcome → State → Prop} {free : Addr → Prop} (h : va_Run p l e R s m args below meth c H locs cells slots mc ms g rest Qa free) (hq : ∀ st oc t, Qa st oc t → Qb st oc t) : va_Run p l e R s m args below meth c H locs cells slots mc ms g rest Qb free := by
  intro T hT X
  obtain ⟨v, st₀, t, T', L, h0, X', hL, e1, e2, h3, st⟩ := h T hT X
  exact ⟨v, st₀, t, T', L, h0, X', hL, e1, e2, hq _ _ _ h3, st⟩
theorem fx_cls_eq {D : va_G} {cl : List vw_C} {tys : List (ClassId × FieldType)} {s : State} {c1 c2 : ClassId} {ty : FieldType} {i j : Nat} (hK : va_K D cl tys s) (h1 : tys[i]? = some (c1, ty)) (h2 : tys[j]? = some (c2, ty)) : c1 = c2 := by
  have e1 := (hK.2 i _ h1).2
  have e2 := (hK.2 j _ h2).2
  cases ty with
  | object C =>
    obtain ⟨_, _, _, _, _, f1⟩ := e1
    obtain ⟨_, _, _, _, _, f2⟩ := e2
    exact Option.some.inj (f1.symm.trans f2)
  | _ => exact Option.some.inj (Eq.trans (Eq.symm e1) e2)
section MK
variable {p : Program} {l : Launch} {e : Env} {R : Room} {s : State} {m : MethodId} {args : Array Value} {below : List Frame} {meth : Method} {c : Code} {H : Heap} {locs : List Loc} {cells slots : Nat} {Q : State → Prop}
variable {cc : ByteArray} {pc : Nat} {ls : Array Slot} {rest : List Value} {D : va_G} {A : Nat → Prop} {cI cZ cQ : ClassId} {ws : va_W} {H0 : Heap}
theorem fx_newI (hx : p.tables.exec = Jvm.exec) (hb : c.code = cc) (hts : ∀ w ∈ fx_tb, w.before args s = true) (harr : Cond.arrayClass .int ∈ fx_tb) (hK : va_K D fx_cl (fx_t3 cI cZ cQ) s) (hP : va_P D fx_cl ws H) (hD : va_D A ws) (hS : va_S A H0 H locs) (hA : ∀ q, H0.size ≤ q → A q) {n : Nat} (hn : n ≤ 100000) (hcells : cells + 1 ≤ R.cells) (hslots : slots + n ≤ R.slots) (hdg : decode cc pc = .ok (.newarray .int, 2))
    (kk : ∀ (q : Nat) (H1 : Heap), va_P D fx_cl (ws ++ [(q, .inl (cI, n, .inl (fun _ => 0)))]) H1 → va_D A (ws ++ [(q, .inl (cI, n, .inl (fun _ => 0)))]) → va_S A H0 H1 locs → W p l e R s m args below meth c H1 locs (cells + 1) (slots + n) Q (F0 m (pc + 2) ls (.ref q :: rest))) : W p l e R s m args below meth c H locs cells slots Q (F0 m pc ls (.int (fx_I n) :: rest)) := by
  refine va_newa (atype := .int) (ty := .int) (N' := n) (a0 := (n, .inl (fun _ => 0))) hx hb (hts _ harr) rfl hK hP hD hS hA (fun _ => rfl) ?_ (fx_clamp (x := (n : Int)) (by omega) (by omega)) (by show n * 4 ≤ _; omega) hcells hslots hdg ?_
  · intro q
    have := (fx_lt (x := (n : Int)) (y := 0) ⟨by omega, by omega⟩ fx_in0).mp q
    omega
  · intro q cA H1 hK1 hP1 hD1 hS1
    obtain rfl : cI = cA := fx_cls_eq (i := 0) (j := 3) hK1 rfl rfl
    exact kk q H1 hP1 hD1 hS1
theorem fx_newZ (hx : p.tables.exec = Jvm.exec) (hb : c.code = cc) (hts : ∀ w ∈ fx_tb, w.before args s = true) (harr : Cond.arrayClass .boolean ∈ fx_tb) (hK : va_K D fx_cl (fx_t3 cI cZ cQ) s) (hP : va_P D fx_cl ws H) (hD : va_D A ws) (hS : va_S A H0 H locs) (hA : ∀ q, H0.size ≤ q → A q) {n : Nat} (hn : n ≤ 100000) (hcells : cells + 1 ≤ R.cells) (hslots : slots + n ≤ R.slots) (hdg : decode cc pc = .ok (.newarray .boolean, 2))
    (kk : ∀ (q : Nat) (H1 : Heap), va_P D fx_cl (ws ++ [(q, .inl (cZ, n, .inl (fun _ => 0)))]) H1 → va_D A (ws ++ [(q, .inl (cZ, n, .inl (fun _ => 0)))]) → va_S A H0 H1 locs → W p l e R s m args below meth c H1 locs (cells + 1) (slots + n) Q (F0 m (pc + 2) ls (.ref q :: rest))) : W p l e R s m args below meth c H locs cells slots Q (F0 m pc ls (.int (fx_I n) :: rest)) := by
  refine va_newa (atype := .boolean) (ty := .boolean) (N' := n) (a0 := (n, .inl (fun _ => 0))) hx hb (hts _ harr) rfl hK hP hD hS hA (fun _ => rfl) ?_ (fx_clamp (x := (n : Int)) (by omega) (by omega)) (by show n * 1 ≤ _; omega) hcells hslots hdg ?_
  · intro q
    have := (fx_lt (x := (n : Int)) (y := 0) ⟨by omega, by omega⟩ fx_in0).mp q
    omega
  · intro q cA H1 hK1 hP1 hD1 hS1
    obtain rfl : cZ = cA := fx_cls_eq (i := 1) (j := 3) hK1 rfl rfl
    exact kk q H1 hP1 hD1 hS1
theorem fx_newQ (hx : p.tables.exec = Jvm.exec) (hb : c.code = cc) {own : String} {index : Nat} (hown : s.vm.findClass own = some m.cls) (hlink : (Cond.classLink own index "FoldDye$Cloth").before args s = true) (hover : (Cond.arrayOver (.object "FoldDye$Cloth")).before args s = true) (hK : va_K D fx_cl (fx_t3 cI cZ cQ) s) (hP : va_P D fx_cl ws H) (hD : va_D A ws) (hS : va_S A H0 H locs) (hA : ∀ q, H0.size ≤ q → A q) {n : Nat} (hn : n ≤ 100000) (hcells : cells + 1 ≤ R.cells) (hslots : slots + n ≤ R.slots) (hdg : decode cc pc = .ok (.anewarray index, 3))
    (kk : ∀ (q : Nat) (H1 : Heap), va_P D fx_cl (ws ++ [(q, .inl (cQ, n, .inr (.inr (.inr (.inr (fun _ => none))))))]) H1 → va_D A (ws ++ [(q, .inl (cQ, n, .inr (.inr (.inr (.inr (fun _ => none))))))]) → va_S A H0 H1 locs → W p l e R s m args below meth c H1 locs (cells + 1) (slots + n) Q (F0 m (pc + 3) ls (.ref q :: rest))) : W p l e R s m args below meth c H locs cells slots Q (F0 m pc ls (.int (fx_I n) :: rest)) := by
  refine va_newq (N' := n) hx hb hown hlink (va_AO.of hover) hK hP hD hS hA ?_ (fx_clamp (x := (n : Int)) (by omega) (by omega)) (by omega) hcells hslots hdg ?_
  · intro q
    have := (fx_lt (x := (n : Int)) (y := 0) ⟨by omega, by omega⟩ fx_in0).mp q
    omega
  · intro q cA H1 hK1 hP1 hD1 hS1
    obtain rfl : cQ = cA := fx_cls_eq (i := 2) (j := 3) hK1 rfl rfl
    exact kk q H1 hP1 hD1 hS1
theorem fx_putC (hx : p.tables.exec = Jvm.exec) (hb : c.code = cc) (hts : ∀ w ∈ fx_tb, w.before args s = true) {o : Nat} (hown : s.vm.findClass (fx_cs o) = some m.cls) (hin : meth.name = "<init>") {tys : List (ClassId × FieldType)} (hK : va_K D fx_cl tys s) (hP : va_P D fx_cl ws H) (hD : va_D A ws) (hS : va_S A H0 H locs) (q0 : Nat) {a i ci k : Nat} {fs : List Value} (he : ws[q0]? = some (a, .inr (ci, fs))) (hf : fx_fd o i = some (ci, k)) (hdecl : ((fx_cl.getD ci (RX0, TX0, 7)).2.1 k).1 = fx_cs o) {v : Value} {ty : FieldType} (hty : parseFieldDescriptor ((fx_cl.getD ci (RX0, TX0, 7)).2.1 k).2.2.1 = some ty) (hn : narrow ty v = v) (hfit : fits ty v = true) (hl : k < fs.length) (hdg : decode cc pc = .ok (.putfield i, 3))
    (kk : ∀ (H1 : Heap) (locs1 : List Loc), va_P D fx_cl (ws.set q0 (a, .inr (ci, fs.set k v))) H1 → va_D A (ws.set q0 (a, .inr (ci, fs.set k v))) → va_S A H0 H1 locs1 → W p l e R s m args below meth c H1 locs1 cells slots Q (F0 m (pc + 3) ls rest)) : W p l e R s m args below meth c H locs cells slots Q (F0 m pc ls (v :: .ref a :: rest)) := by
  obtain ⟨r, h1, h2, h2e, h3⟩ := fx_fd_in hf
  obtain ⟨ty0, hty0, hnm⟩ := fx_cl_ty h1
  rw [← h2e] at hdecl hty
  by_cases hfin : (r.2.1 k).2.2.2 = true
  · exact va_putF hx hb hts (fx_cl_in h1) ty0 hty0 hnm hown hK hP hD hS q0 he h1 k h2 (hts _ h3) (fun _ h => h) hfin hin hdecl hty hn hfit hl hdg kk
  · exact va_put hx hb hts (fx_cl_in h1) ty0 hty0 hnm hown hK hP hD hS q0 he h1 k h2 (hts _ h3) (fun _ h => h) (by simpa using hfin) hty hn hfit hl hdg kk
theorem fx_getC (hx : p.tables.exec = Jvm.exec) (hb : c.code = cc) (hts : ∀ w ∈ fx_tb, w.before args s = true) {o : Nat} (hown : s.vm.findClass (fx_cs o) = some m.cls) {tys : List (ClassId × FieldType)} (hK : va_K D fx_cl tys s) (hP : va_P D fx_cl ws H) (q0 : Nat) {a i ci k : Nat} {fs : List Value} (he : ws[q0]? = some (a, .inr (ci, fs))) (hf : fx_fd o i = some (ci, k)) {v : Value} (hv : fs[k]? = some v) (hdg : decode cc pc = .ok (.getfield i, 3))
    (kk : W p l e R s m args below meth c H locs cells slots Q (F0 m (pc + 3) ls (v :: rest))) : W p l e R s m args below meth c H locs cells slots Q (F0 m pc ls (.ref a :: rest)) := by
  obtain ⟨r, h1, h2, h2e, h3⟩ := fx_fd_in hf
  exact va_get hx hb hts (fx_cl_in h1) hown hK hP q0 he h1 k h2 (hts _ h3) (fun _ h => h) hv hdg kk
theorem va_nd_of : ∀ (l : List Nat), l.Nodup → va_nd l = true
  | [], _ => rfl
  | a :: l, h => by
    rw [List.nodup_cons] at h
    simp only [va_nd, Bool.and_eq_true, decide_eq_true_eq]
    exact ⟨h.1, va_nd_of l h.2⟩
theorem fx_isR (pre : va_W) (x : Nat × va_E) : (List.range pre.length).map (fun i => (pre ++ [x])[i]?) = pre.map some := by
  apply List.ext_getElem?
  intro j
  rw [List.getElem?_map, List.getElem?_map]
  by_cases hj : j < pre.length
  · rw [List.getElem?_range hj]
    simp only [Option.map_some]
    rw [List.getElem?_append_left hj, List.getElem?_eq_getElem hj]
    rfl
  · rw [List.getElem?_eq_none (by rw [List.length_range]; omega), List.getElem?_eq_none (by omega)]
    rfl
/-- what a constructor wants and gives: its cell, as it was made; a world that holds it -/
abbrev fx_IPc (D : va_G) (cI cZ cQ : ClassId) (ad : Nat → Nat → Nat) (A0 : Nat → Prop) (h0 : Nat) (c0 : va_E) (sz : Nat) (vs : List Value) : Array Value → State → Prop := va_Pc (.ref h0 :: vs) (fun U => U.heap.size = sz ∧ va_P D fx_cl [(h0, c0)] U.heap ∧ va_K D fx_cl (fx_t3 cI cZ cQ) U ∧ va_D (fun _ => True) [(h0, c0)] ∧ fx_St ad A0 U ∧ A0 h0)
abbrev fx_IQc (D : va_G) (h0 : Nat) (c0 : va_E) (sz : Nat) (K : va_W → Prop) : Array Value → State → Outcome → State → Prop := va_Qv (fun w1 : va_W => K w1) (fun w1 t => va_P D fx_cl w1 t.heap ∧ va_D (va_A [(h0, c0)] sz) w1) (va_A [(h0, c0)] sz)
theorem fx_IPc_blind {D : va_G} {cI cZ cQ : ClassId} {ad : Nat → Nat → Nat} {A0 : Nat → Prop} {h0 : Nat} {c0 : va_E} {sz : Nat} {vs : List Value} : FrameBlind (fx_IPc D cI cZ cQ ad A0 h0 c0 sz vs) := by
  rintro a U g mk ⟨h1, h2, h3, h4, h5, h6, h7⟩
  exact ⟨h1, h2, h3, va_K.moved (u := U) (U := U.calling g mk a) (Vm.Alike.refl U.vm) h4, h5, fx_St.same (u := U) (U := U.calling g mk a) h6 rfl rfl, h7⟩
theorem fx_mk_after {pre : va_W} {b : Nat} {c0 : va_E} {ad : Nat → Nat → Nat} {A0 : Nat → Prop} {mc ms : Nat} {K : va_W → Prop} {st0 : List Value} {av : Array Value} (hP : va_P D fx_cl (pre ++ [(b, c0)]) H) (hD : va_D A (pre ++ [(b, c0)])) (hS : va_S A H0 H locs) (hA : ∀ q, H0.size ≤ q → A q)
    (run : va_Run p l e R s m args below meth c H locs cells slots mc ms (F0 m pc ls st0) rest (fx_IQc D b c0 H.size K av) (va_A [(b, c0)] H.size))
    (kk : ∀ (w1 : va_W) (H1 : Heap) (locs1 : List Loc), K w1 → va_P D fx_cl (pre ++ w1) H1 → va_D A (pre ++ w1) → va_S A H0 H1 locs1 → W p l e R s m args below meth c H1 locs1 (cells + mc) (slots + ms) Q (F0 m (pc + 3) ls rest)) : W p l e R s m args below meth c H locs cells slots Q (F0 m pc ls st0) := by
  have hC : [pre.length].map (fun i => (pre ++ [(b, c0)])[i]?) = ([(b, c0)] : va_W).map some := by simp
  have hFc := va_free (wc := [(b, c0)]) hD hS hA [pre.length] hC
  refine va_callv run hS (fun q _ h => hFc q h) hFc (fun u t H1 locs1 ht hvm hw hB hz1 hk1 hS1 => ?_)
  obtain ⟨hP1, hD1⟩ := hB
  rw [ht] at hP1
  obtain ⟨hP2, hD2⟩ := va_join (wr := pre) (w1 := u) hP hD [pre.length] (List.range pre.length) hC (fx_isR pre (b, c0)) (va_nd_of _ List.nodup_range) (by
    intro i hi
    rw [List.mem_range] at hi
    simp only [List.mem_singleton]
    omega) hk1 hFc hP1 hD1
  exact kk u H1 locs1 hw hP2 hD2 hS1
theorem fx_mkI {nL : Nat} {own : String} {pre : va_W} {b : Nat} {c0 : va_E} {ad : Nat → Nat → Nat} {A0 : Nat → Prop} {mc ms idx n maxL : Nat} {y : MethodName} {bytes : ByteArray} {rm : Room} {As : List Value} {K : va_W → Prop} (hfix : CallFix p m c cc nL s args fx_tb own) (hK : va_K D fx_cl (fx_t3 cI cZ cQ) s) (hP : va_P D fx_cl (pre ++ [(b, c0)]) H) (hD : va_D A (pre ++ [(b, c0)])) (hS : va_S A s.heap H locs) (hA : ∀ q, s.heap.size ≤ q → A q) (hSt : fx_St ad A0 s) (hA0 : ∀ q, A q → A0 q)
    (hM : Met l y (Cond.code y bytes maxL none :: fx_tb) rm (fx_IPc D cI cZ cQ ad A0 b c0 H.size As) (fx_IQc D b c0 H.size K) mc ms (va_A [(b, c0)] H.size))
    (hcode : Cond.code y bytes maxL none ∈ fx_tb) (hini : Cond.initialized y.cls ∈ fx_tb) (hlink : Cond.methodLink own idx y ∈ fx_tb) (hinst : Cond.instanceMethod y ∈ fx_tb) (hy : y.name = "<init>") (hd : y.cls ≠ "java/lang/invoke/MethodHandle" ∧ y.cls ≠ "java/lang/invoke/VarHandle" ∧ (parseMethodDescriptor y.desc).map (fun d => d.parameters.length) = some n) (hR : rm.frames + 1 ≤ R.frames ∧ 8 + (maxL + 11) + rm.locals ≤ R.locals) (hrc : rm.cells = mc) (hrs : rm.slots = ms)
    (hn : As.length = n) (hsize : ls.size = nL) (hrest : (rest.map fun v => v.category).sum ≤ 8) (hdg : decode cc pc = .ok (.invokespecial idx, 3)) (hf : cells + mc ≤ R.cells ∧ slots + ms ≤ R.slots)
    (kk : ∀ (w1 : va_W) (H1 : Heap) (locs1 : List Loc), K w1 → va_P D fx_cl (pre ++ w1) H1 → va_D A (pre ++ w1) → va_S A s.heap H1 locs1 → W p l e R s m args below meth c H1 locs1 (cells + mc) (slots + ms) Q (F0 m (pc + 3) ls rest)) : W p l e R s m args below meth c H locs cells slots Q (F0 m pc ls (As.reverse ++ .ref b :: rest)) := by
  have hts := hfix.2.2.2.2
  have hC : [pre.length].filterMap (fun i => (pre ++ [(b, c0)])[i]?) = [(b, c0)] := by simp
  have hPc := hP.sub (ws' := [(b, c0)]) [pre.length] hC
  have hC2 : [pre.length].map (fun i => (pre ++ [(b, c0)])[i]?) = ([(b, c0)] : va_W).map some := by simp
  have hDc := hD.sub (ws' := [(b, c0)]) [pre.length] rfl hC2
  have hbA : A b := hDc.2 0 (b, c0) rfl
  refine fx_mk_after (ad := ad) (A0 := A0) hP hD hS hA (va_runI (As := As) (rest := rest) hfix hM (cwI n hts (fx_good1 hcode fx_good_tb) rfl hrc hrs (hts _ hini) (hts _ hlink) (hts _ hinst) hy hd hR) ⟨fx_IPc_blind, fun U hU hW => ⟨rfl, by rw [hU], by rw [hU]; exact hPc, va_K.moved hW.alike hK, hDc.weaken (fun _ _ _ _ => trivial), fx_St.call hSt hW hU hS hA0, hA0 b hbA⟩⟩ rfl hn hsize rfl (lv_room hrest) hdg hf) kk
theorem fx_mkN {nL : Nat} {own host : String} {pre : va_W} {b : Nat} {c0 : va_E} {ad : Nat → Nat → Nat} {A0 : Nat → Prop} {mc ms idx n maxL : Nat} {y : MethodName} {bytes : ByteArray} {rm : Room} {As : List Value} {K : va_W → Prop} (hfix : CallFix p m c cc nL s args fx_tb own) (hK : va_K D fx_cl (fx_t3 cI cZ cQ) s) (hP : va_P D fx_cl (pre ++ [(b, c0)]) H) (hD : va_D A (pre ++ [(b, c0)])) (hS : va_S A s.heap H locs) (hA : ∀ q, s.heap.size ≤ q → A q) (hSt : fx_St ad A0 s) (hA0 : ∀ q, A q → A0 q)
    (hM : Met l y (Cond.code y bytes maxL none :: fx_tb) rm (fx_IPc D cI cZ cQ ad A0 b c0 H.size As) (fx_IQc D b c0 H.size K) mc ms (va_A [(b, c0)] H.size))
    (hcode : Cond.code y bytes maxL none ∈ fx_tb) (hini : Cond.initialized y.cls ∈ fx_tb) (hlink : va_Nw (.methodLinkNest own idx y host) s) (hinst : Cond.instanceMethod y ∈ fx_tb) (hy : y.name = "<init>") (hd : y.cls ≠ "java/lang/invoke/MethodHandle" ∧ y.cls ≠ "java/lang/invoke/VarHandle" ∧ (parseMethodDescriptor y.desc).map (fun d => d.parameters.length) = some n) (hR : rm.frames + 1 ≤ R.frames ∧ 8 + (maxL + 11) + rm.locals ≤ R.locals) (hrc : rm.cells = mc) (hrs : rm.slots = ms)
    (hn : As.length = n) (hsize : ls.size = nL) (hrest : (rest.map fun v => v.category).sum ≤ 8) (hdg : decode cc pc = .ok (.invokespecial idx, 3)) (hf : cells + mc ≤ R.cells ∧ slots + ms ≤ R.slots)
    (kk : ∀ (w1 : va_W) (H1 : Heap) (locs1 : List Loc), K w1 → va_P D fx_cl (pre ++ w1) H1 → va_D A (pre ++ w1) → va_S A s.heap H1 locs1 → W p l e R s m args below meth c H1 locs1 (cells + mc) (slots + ms) Q (F0 m (pc + 3) ls rest)) : W p l e R s m args below meth c H locs cells slots Q (F0 m pc ls (As.reverse ++ .ref b :: rest)) := by
  have hts := hfix.2.2.2.2
  have hC : [pre.length].filterMap (fun i => (pre ++ [(b, c0)])[i]?) = [(b, c0)] := by simp
  have hPc := hP.sub (ws' := [(b, c0)]) [pre.length] hC
  have hC2 : [pre.length].map (fun i => (pre ++ [(b, c0)])[i]?) = ([(b, c0)] : va_W).map some := by simp
  have hDc := hD.sub (ws' := [(b, c0)]) [pre.length] rfl hC2
  have hbA : A b := hDc.2 0 (b, c0) rfl
  refine fx_mk_after (ad := ad) (A0 := A0) hP hD hS hA (va_runIN (As := As) (rest := rest) hfix hM ⟨va_cnB n hts (fx_good1 hcode fx_good_tb) rfl hrc hrs hlink (hts _ hini) hd hR, hy, hts _ hinst⟩ ⟨fx_IPc_blind, fun U hU hW => ⟨rfl, by rw [hU], by rw [hU]; exact hPc, va_K.moved hW.alike hK, hDc.weaken (fun _ _ _ _ => trivial), fx_St.call hSt hW hU hS hA0, hA0 b hbA⟩⟩ rfl hn hsize rfl (lv_room hrest) hdg hf) kk
end MK
theorem fx_mulN (a b : Nat) : fx_I a * fx_I b = fx_I ((a * b : Nat) : Int) := by
  show Int32.ofInt a * Int32.ofInt b = Int32.ofInt ((a * b : Nat) : Int)
  rw [← Int32.ofInt_mul]
  congr 1
theorem fx_ab {a b : Nat} (ha : a ≤ 12) (hb : b ≤ 12) : a * b ≤ 144 := Nat.mul_le_mul ha hb
