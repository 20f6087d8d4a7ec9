/-! FoldDye.cloth -/
def okRC (r c : Int) : Prop := (1 ≤ r ∧ r ≤ 12) ∧ (1 ≤ c ∧ c ≤ 12)
def cl_Q (D : va_G) (cI cZ cQ : ClassId) (A : Nat → Prop) (ad : Nat → Nat → Nat) (Rf Cf : Nat → Nat) (nc : Nat) (σ : fx_M) (r c : Int) : Array Value → State → Outcome → State → Prop := fun _ st oc t => va_F A st t ∧ ∃ v : Int, oc = .returned (some (.int (fx_I v))) ∧
  (((¬ okRC r c ∧ v = -1) ∨ (okRC r c ∧ nc = 6 ∧ v = -2)) ∧ va_P D fx_cl (fx_ws (gG D cI cZ cQ A ad Rf Cf nc) σ) t.heap ∨
  (okRC r c ∧ nc < 6 ∧ v = nc) ∧ ∃ (a12 a13 a14 a15 a16 a17 a18 a19 : Nat) (σ' : fx_M), CB (fun _ => r.toNat) (fun _ => c.toNat) nc r.toNat c.toNat r.toNat c.toNat oR oC oH σ' ∧ (∀ o k x, ¬ (k = nc ∧ 15 ≤ o ∧ o ≤ 19) → σ' o k x = fx_s0 r.toNat c.toNat o k x) ∧ va_P D fx_cl (fx_ws (gG D cI cZ cQ A (nAd ad nc a12 a13 a14 a15 a16 a17 a18 a19) (nRf Rf nc r.toNat) (nRf Cf nc c.toNat) (nc + 1)) (nSg σ σ' nc)) t.heap ∧ va_D A (fx_ws (gG D cI cZ cQ A (nAd ad nc a12 a13 a14 a15 a16 a17 a18 a19) (nRf Rf nc r.toNat) (nRf Cf nc c.toNat) (nc + 1)) (nSg σ σ' nc)))
def cl_P (D : va_G) (cI cZ cQ : ClassId) (A : Nat → Prop) (ad : Nat → Nat → Nat) (Rf Cf : Nat → Nat) (nc : Nat) (σ : fx_M) (r c : Int) : Array Value → State → Prop := va_Pc [.ref (ad 0 0), .int (fx_I r), .int (fx_I c)] (fun U => va_K D fx_cl (fx_t3 cI cZ cQ) U ∧ va_P D fx_cl (fx_ws (gG D cI cZ cQ A ad Rf Cf nc) σ) U.heap ∧ va_D A (fx_ws (gG D cI cZ cQ A ad Rf Cf nc) σ) ∧ fx_St ad A U)
theorem cl_blind {D : va_G} {cI cZ cQ : ClassId} {A : Nat → Prop} {ad : Nat → Nat → Nat} {Rf Cf : Nat → Nat} {nc : Nat} {σ : fx_M} {r c : Int} : FrameBlind (cl_P D cI cZ cQ A ad Rf Cf nc σ r c) := by
  rintro a U g mk ⟨h1, h2, h3, h4, h5⟩
  exact ⟨h1, va_K.moved (u := U) (U := U.calling g mk a) (Vm.Alike.refl U.vm) h2, h3, h4, fx_St.same (u := U) (U := U.calling g mk a) h5 rfl rfl⟩
section PM
variable {p : Program} {l : Launch} {e : Env} {R : Room} {s : State} {m : MethodId} {args : Array Value} {below : List Frame} {meth : Method} {c : Code} {H : Heap} {locs : List Loc} {cells slots : Nat} {Q : State → Prop}
variable {cc : ByteArray} {pc : Nat} {ls : Array Slot} {rest : List Value} {D : va_G} {A : Nat → Prop} {ws : va_W} {H0 : Heap}
theorem fx_putM (hx : p.tables.exec = Jvm.exec) (hb : c.code = cc) (hts : ∀ w ∈ fx_tb, w.before args s = true) {o : Nat} (hown : s.vm.findClass (fx_cs o) = some m.cls) {tys : List (ClassId × FieldType)} (hK : va_K D fx_cl tys s) (hP : va_P D fx_cl ws H) (hD : va_D A ws) (hS : va_S A H0 H locs) (q0 : Nat) {a i ci k : Nat} {fs : List Value} (he : ws[q0]? = some (a, .inr (ci, fs))) (hf : fx_fd o i = some (ci, k)) (hfin : ((fx_cl.getD ci (RX0, TX0, 7)).2.1 k).2.2.2 = false) {v : Value} {ty : FieldType} (hty : parseFieldDescriptor ((fx_cl.getD ci (RX0, TX0, 7)).2.1 k).2.2.1 = some ty) (hn : narrow ty v = v) (hfit : fits ty v = true) (hl : k < fs.length) (hdg : decode cc pc = .ok (.putfield i, 3))
    (kk : ∀ (H1 : Heap) (locs1 : List Loc), va_P D fx_cl (ws.set q0 (a, .inr (ci, fs.set k v))) H1 → va_D A (ws.set q0 (a, .inr (ci, fs.set k v))) → va_S A H0 H1 locs1 → W p l e R s m args below meth c H1 locs1 cells slots Q (F0 m (pc + 3) ls rest)) : W p l e R s m args below meth c H locs cells slots Q (F0 m pc ls (v :: .ref a :: rest)) := by
  obtain ⟨r, h1, h2, h2e, h3⟩ := fx_fd_in hf
  obtain ⟨ty0, hty0, hnm⟩ := fx_cl_ty h1
  rw [← h2e] at hfin hty
  exact va_put hx hb hts (fx_cl_in h1) ty0 hty0 hnm hown hK hP hD hS q0 he h1 k h2 (hts _ h3) (fun _ h => h) hfin hty hn hfit hl hdg kk
end PM
theorem wd_234 : Cond.instantiable "FoldDye$Cloth" 10 ∈ fx_tb := List.mem_filter.mpr ⟨List.mem_of_getElem? (i := 234) (by decide +kernel), rfl⟩
theorem wd_57 : Cond.initialized "FoldDye$Cloth" ∈ fx_tb := List.mem_filter.mpr ⟨List.mem_of_getElem? (i := 57) (by decide +kernel), rfl⟩
theorem wd_237 : Cond.code ⟨"FoldDye$Cloth", "<init>", "(II)V"⟩ prog_3_method_1_code 3 none ∈ fx_tb := List.mem_filter.mpr ⟨List.mem_of_getElem? (i := 237) (by decide +kernel), rfl⟩
theorem wd_235 : Cond.methodLink "FoldDye" 51 ⟨"FoldDye$Cloth", "<init>", "(II)V"⟩ ∈ fx_tb := List.mem_filter.mpr ⟨List.mem_of_getElem? (i := 235) (by decide +kernel), rfl⟩
theorem wd_236 : Cond.instanceMethod ⟨"FoldDye$Cloth", "<init>", "(II)V"⟩ ∈ fx_tb := List.mem_filter.mpr ⟨List.mem_of_getElem? (i := 236) (by decide +kernel), rfl⟩
def fx_room_cl : Room := { frames := 14, cells := 8, slots := 881, locals := 600 }
theorem getA {ws w1 : va_W} {k : Nat} {x : Nat × va_E} (h : ws[k]? = some x) : (ws ++ w1)[k]? = some x := by
  rw [List.getElem?_append_left (List.getElem?_eq_some_iff.mp h).1]; exact h
theorem getB {ws w1 : va_W} {x : Nat × va_E} (h : w1[0]? = some x) : (ws ++ w1)[ws.length]? = some x := by
  rw [List.getElem?_append_right (Nat.le_refl _), Nat.sub_self]; exact h
theorem setA {ws w1 : va_W} {k : Nat} {x : Nat × va_E} (h : k < ws.length) : (ws ++ w1).set k x = ws.set k x ++ w1 := List.set_append_left k x h
set_option maxHeartbeats 4000000 in
set_option maxRecDepth 100000 in
theorem c_cloth (l : Launch) (D : va_G) (cI cZ cQ : ClassId) (A : Nat → Prop) (ad : Nat → Nat → Nat) (Rf Cf : Nat → Nat) (nc : Nat) (σ : fx_M) (r c : Int) (hri : fx_in r) (hci : fx_in c) (hn : nc ≤ 6) (h02 : σ 0 0 2 = nc) : Met l ⟨"FoldDye", "cloth", "(II)I"⟩ (Cond.code ⟨"FoldDye", "cloth", "(II)I"⟩ prog_1_method_2_code 3 (some .int) :: fx_tb) fx_room_cl (cl_P D cI cZ cQ A ad Rf Cf nc σ r c) (cl_Q D cI cZ cQ A ad Rf Cf nc σ r c) 8 881 A := by
  refine Met.ofW (cc := prog_1_method_2_code) (maxL := 3) (ret := some .int) (by decide) rfl ?_
  intro p e s m args below meth cd s₁ B hml hv
  obtain ⟨rfl, hK, hP, hD, hSt⟩ := hv
  have hx := B.exec
  have hb := B.bytes
  have hr := B.returns
  have hts : ∀ w ∈ fx_tb, w.before _ s = true := fun w hw => atoms_spec (ws := Cond.code ⟨"FoldDye", "cloth", "(II)I"⟩ prog_1_method_2_code 3 (some .int) :: fx_tb) B.pre w (List.mem_cons_of_mem _ hw)
  have hown : s.vm.findClass "FoldDye" = some m.cls := findClass_of_methodNamed B.named
  have hlocks := B.notSynchronized
  have hA : ∀ q : Nat, s.heap.size ≤ q → A q := hSt.2.1
  have hS : va_S A s.heap s.heap [] := va_S.rf
  have hl := lv_entry ([.ref (ad 0 0), .int (fx_I r), .int (fx_I c)]) (n := 3) (Nat.le_of_ble_eq_true rfl)
  rw [lg_entry_eq]
  generalize (lg_sl ([.ref (ad 0 0), .int (fx_I r), .int (fx_I c)]) ++ List.replicate (3 - (lg_sl ([.ref (ad 0 0), .int (fx_I r), .int (fx_I c)])).length) Slot.unset).toArray = ls at hl ⊢
  have hl : lv_has ls 3 [(0, .ref (ad 0 0)), (1, .int (fx_I r)), (2, .int (fx_I c))] := hl
  have w0 : (fx_ws (gG D cI cZ cQ A ad Rf Cf nc) σ)[0]? = some (ad 0 0, cX ad (nc : Int)) := by rw [← h02]; exact fx_ws_at _ _ (gL_0 nc)
  have w2 : (fx_ws (gG D cI cZ cQ A ad Rf Cf nc) σ)[2]? = some (ad 2 0, cR cQ (cF ad nc)) := fx_ws_at _ _ (gL_2 nc)
  have i1 : fx_in 1 := ⟨by decide, by decide⟩
  have i12 : fx_in 12 := ⟨by decide, by decide⟩
  have i6 : fx_in 6 := ⟨by decide, by decide⟩
  have inn : fx_in (nc : Int) := ⟨by omega, by omega⟩
  have k22 : ¬ okRC r c → W p l e fx_room_cl s m #[.ref (ad 0 0), .int (fx_I r), .int (fx_I c)] below meth cd s.heap [] 0 0 (MQ below (cl_Q D cI cZ cQ A ad Rf Cf nc σ r c) #[.ref (ad 0 0), .int (fx_I r), .int (fx_I c)] s 8 881 A) (F0 m 22 ls []) := fun hno => by
    refine lv_iconst (v := fx_I (-1)) hx hb (show decode prog_1_method_2_code 22 = .ok (.iconst (-1), 1) by decide +kernel) rfl ?_
    refine W.widen (k := 8) (n := 881) (by omega) (by omega) ?_
    exact W.iret hx hb hr (fun t ht hW => ⟨hS.F ht, -1, rfl, Or.inl ⟨Or.inl ⟨hno, rfl⟩, by rw [ht]; exact hP⟩⟩) hS.2.2 (show decode prog_1_method_2_code 23 = .ok (.ireturn, 1) by decide +kernel)
  refine lv_iload_n hx hb (show decode prog_1_method_2_code 0 = .ok (.iload_n 1, 1) by decide +kernel) rfl (lv_at hl 1 rfl) ?_
  refine lv_iconst (v := fx_I 1) hx hb (show decode prog_1_method_2_code 1 = .ok (.iconst 1, 1) by decide +kernel) rfl ?_
  refine lv_icmp_lt (tgt := 22) hx hb (show decode prog_1_method_2_code 2 = .ok (.if_icmp .lt 20, 3) by decide +kernel) (by decide) (fun q => k22 (fun z => ?_)) (fun q1 => ?_)
  · have := (fx_lt hri i1).mp q
    unfold okRC at z
    omega
  rw [fx_lt hri i1] at q1
  refine lv_iload_n hx hb (show decode prog_1_method_2_code 5 = .ok (.iload_n 1, 1) by decide +kernel) rfl (lv_at hl 1 rfl) ?_
  refine lv_bipush (v := fx_I 12) hx hb (show decode prog_1_method_2_code 6 = .ok (.bipush 12, 2) by decide +kernel) (by decide) ?_
  refine lv_icmp_gt (tgt := 22) hx hb (show decode prog_1_method_2_code 8 = .ok (.if_icmp .gt 14, 3) by decide +kernel) (by decide) (fun q => k22 (fun z => ?_)) (fun q2 => ?_)
  · have := (fx_lt i12 hri).mp q
    unfold okRC at z
    omega
  have q2 : ¬ (12 : Int) < r := fun z => q2 ((fx_lt i12 hri).mpr z)
  refine lv_iload_n hx hb (show decode prog_1_method_2_code 11 = .ok (.iload_n 2, 1) by decide +kernel) rfl (lv_at hl 2 rfl) ?_
  refine lv_iconst (v := fx_I 1) hx hb (show decode prog_1_method_2_code 12 = .ok (.iconst 1, 1) by decide +kernel) rfl ?_
  refine lv_icmp_lt (tgt := 22) hx hb (show decode prog_1_method_2_code 13 = .ok (.if_icmp .lt 9, 3) by decide +kernel) (by decide) (fun q => k22 (fun z => ?_)) (fun q3 => ?_)
  · have := (fx_lt hci i1).mp q
    unfold okRC at z
    omega
  rw [fx_lt hci i1] at q3
  refine lv_iload_n hx hb (show decode prog_1_method_2_code 16 = .ok (.iload_n 2, 1) by decide +kernel) rfl (lv_at hl 2 rfl) ?_
  refine lv_bipush (v := fx_I 12) hx hb (show decode prog_1_method_2_code 17 = .ok (.bipush 12, 2) by decide +kernel) (by decide) ?_
  refine lv_icmp_le (tgt := 24) hx hb (show decode prog_1_method_2_code 19 = .ok (.if_icmp .le 5, 3) by decide +kernel) (by decide) (fun q4 => ?_) (fun q => k22 (fun z => q ((fx_le hci i12).mpr z.2.2)))
  rw [fx_le hci i12] at q4
  have hok : okRC r c := ⟨⟨by omega, by omega⟩, by omega, q4⟩
  obtain ⟨ra, rfl⟩ : ∃ ra : Nat, r = ra := ⟨r.toNat, by omega⟩
  obtain ⟨rb, rfl⟩ : ∃ rb : Nat, c = rb := ⟨c.toNat, by omega⟩
  unfold okRC at hok
  have k33 : ¬ fx_I (nc : Int) < fx_I 6 → W p l e fx_room_cl s m #[.ref (ad 0 0), .int (fx_I (ra : Int)), .int (fx_I (rb : Int))] below meth cd s.heap [] 0 0 (MQ below (cl_Q D cI cZ cQ A ad Rf Cf nc σ ra rb) #[.ref (ad 0 0), .int (fx_I (ra : Int)), .int (fx_I (rb : Int))] s 8 881 A) (F0 m 33 ls []) := fun q5 => by
    have q5 : ¬ (nc : Int) < 6 := fun z => q5 ((fx_lt inn i6).mpr z)
    refine lv_bipush (v := fx_I (-2)) hx hb (show decode prog_1_method_2_code 33 = .ok (.bipush (-2), 2) by decide +kernel) (by decide) ?_
    refine W.widen (k := 8) (n := 881) (by omega) (by omega) ?_
    exact W.iret hx hb hr (fun t ht hW => ⟨hS.F ht, -2, rfl, Or.inl ⟨Or.inr ⟨hok, by omega, rfl⟩, by rw [ht]; exact hP⟩⟩) hS.2.2 (show decode prog_1_method_2_code 35 = .ok (.ireturn, 1) by decide +kernel)
  refine lv_aload_n hx hb (show decode prog_1_method_2_code 24 = .ok (.aload_n 0, 1) by decide +kernel) rfl (lv_at hl 0 rfl) ?_
  refine fx_getC (o := 6) (ci := 6) (k := 2) hx hb hts hown hK hP 0 w0 (by decide +kernel) rfl (show decode prog_1_method_2_code 25 = .ok (.getfield 19, 3) by decide +kernel) ?_
  refine lv_bipush (v := fx_I 6) hx hb (show decode prog_1_method_2_code 28 = .ok (.bipush 6, 2) by decide +kernel) (by decide) ?_
  refine lv_icmp_lt (tgt := 36) hx hb (show decode prog_1_method_2_code 30 = .ok (.if_icmp .lt 6, 3) by decide +kernel) (by decide) (fun q5 => ?_) k33
  have q5 : (nc : Int) < 6 := (fx_lt inn i6).mp q5
  have hn6 : nc < 6 := by omega
  refine lv_aload_n hx hb (show decode prog_1_method_2_code 36 = .ok (.aload_n 0, 1) by decide +kernel) rfl (lv_at hl 0 rfl) ?_
  refine fx_getC (o := 6) (ci := 6) (k := 1) hx hb hts hown hK hP 0 w0 (by decide +kernel) rfl (show decode prog_1_method_2_code 37 = .ok (.getfield 15, 3) by decide +kernel) ?_
  refine lv_aload_n hx hb (show decode prog_1_method_2_code 40 = .ok (.aload_n 0, 1) by decide +kernel) rfl (lv_at hl 0 rfl) ?_
  refine fx_getC (o := 6) (ci := 6) (k := 2) hx hb hts hown hK hP 0 w0 (by decide +kernel) rfl (show decode prog_1_method_2_code 41 = .ok (.getfield 19, 3) by decide +kernel) ?_
  refine va_new (ci := 1) (fs := [.int 0, .int 0, .int 0, .null, .null, .null, .int 0, .int 0, .int 0, .int 0]) (C := RX1) (T := TX1) (N := 10) hx hb hts inX1 tyX1 tyX1_ok hown (hts _ wd_69) (hts _ wd_234) (hts _ wd_57) hK hP hD hS hA rfl (fun j hj => by rcases (show j = 0 ∨ j = 1 ∨ j = 2 ∨ j = 3 ∨ j = 4 ∨ j = 5 ∨ j = 6 ∨ j = 7 ∨ j = 8 ∨ j = 9 by omega) with rfl | rfl | rfl | rfl | rfl | rfl | rfl | rfl | rfl | rfl <;> rfl) (show 0 + 1 ≤ 8 by omega) (show 0 + 10 ≤ 881 by omega) (show decode prog_1_method_2_code 44 = .ok (.new 13, 3) by decide +kernel) (fun q H hP hD hS => ?_)
  refine W.widen (k := 1) (n := 10) (by omega) (by omega) ?_
  refine lv_dup hx hb (show decode prog_1_method_2_code 47 = .ok (.dup, 1) by decide +kernel) rfl ?_
  refine lv_iload_n hx hb (show decode prog_1_method_2_code 48 = .ok (.iload_n 1, 1) by decide +kernel) rfl (lv_at hl 1 rfl) ?_
  refine lv_iload_n hx hb (show decode prog_1_method_2_code 49 = .ok (.iload_n 2, 1) by decide +kernel) rfl (lv_at hl 2 rfl) ?_
  refine fx_mkI (pre := fx_ws (gG D cI cZ cQ A ad Rf Cf nc) σ) (As := [.int (fx_I (ra : Int)), .int (fx_I (rb : Int))]) (rest := [.ref q, .int (fx_I (nc : Int)), .ref (ad 2 0)]) (n := 2) (own := "FoldDye") (idx := 51) ⟨hx, hb, hml, hown, hts⟩ hK hP hD hS hA hSt (fun _ h => h) (c_X1_init l D cI cZ cQ ad A q H.size nc ra rb (by omega) (by omega) (by omega) (by omega)) wd_237 wd_57 wd_235 wd_236 rfl (by decide +kernel) ⟨Nat.le_of_ble_eq_true rfl, Nat.le_of_ble_eq_true rfl⟩ rfl rfl rfl hl.1 (Nat.le_of_ble_eq_true rfl) (show decode prog_1_method_2_code 50 = .ok (.invokespecial 51, 3) by decide +kernel) ⟨show 1 + 7 ≤ 8 by omega, show 10 + 871 ≤ 881 by omega⟩ (fun w1 H locs hw hP hD hS => ?_)
  refine W.widen (k := 8) (n := 881) (by omega) (by omega) ?_
  obtain ⟨a13, a14, a15, a16, a17, a18, a19, σ', rfl, hCB, hfr⟩ := hw
  have hlen : 58 ≤ (fx_ws (gG D cI cZ cQ A ad Rf Cf nc) σ).length := by
    have : ∀ nc, nc < 6 → 58 ≤ (gL nc).length := by decide +kernel
    unfold fx_ws
    rw [List.length_map]
    exact this nc hn6
  have hh : (fx_ws (fx_Gc D cI cZ cQ ad (fun _ => True) nc ra rb q a13 a14 a15 a16 a17 a18 a19) σ')[0]? = some (q, .inr (1, fx_fl (fx_adc ad q a13 a14 a15 a16 a17 a18 a19) σ' 12 nc 0 [none, none, none, some (fun g => (13, g)), some (fun g => (14, g)), some (fun g => (15, g)), none, none, none, none])) := rfl
  refine va_astq hx hb hK hP hD hS 2 2 ((fx_ws (gG D cI cZ cQ A ad Rf Cf nc) σ).length) 1 (getA w2) rfl (getB hh) rfl (fx_vin (by omega) (show (nc : Int) < 6 by omega) (by decide)) (show decode prog_1_method_2_code 53 = .ok (.aastore, 1) by decide +kernel) (fun H locs hP hD hS => ?_)
  have hcl : (fx_I (nc : Int)).toNatClampNeg = nc := by rw [fx_clamp (by omega) (by omega)]; omega
  rw [hcl, setA (by omega)] at hP hD
  have w0' : ((fx_ws (gG D cI cZ cQ A ad Rf Cf nc) σ).set 2 (ad 2 0, cR cQ (va_up (cF ad nc) nc (some q))))[0]? = some (ad 0 0, cX ad (nc : Int)) := by rw [List.getElem?_set_ne (by omega)]; exact w0
  refine lv_aload_n hx hb (show decode prog_1_method_2_code 54 = .ok (.aload_n 0, 1) by decide +kernel) rfl (lv_at hl 0 rfl) ?_
  refine lv_dup hx hb (show decode prog_1_method_2_code 55 = .ok (.dup, 1) by decide +kernel) rfl ?_
  refine fx_getC (o := 6) (ci := 6) (k := 2) hx hb hts hown hK hP 0 (getA w0') (by decide +kernel) rfl (show decode prog_1_method_2_code 56 = .ok (.getfield 19, 3) by decide +kernel) ?_
  refine lv_iconst (v := fx_I 1) hx hb (show decode prog_1_method_2_code 59 = .ok (.iconst 1, 1) by decide +kernel) rfl ?_
  refine lv_iadd hx hb (show decode prog_1_method_2_code 60 = .ok (.iadd, 1) by decide +kernel) ?_
  rw [show fx_I (nc : Int) + fx_I 1 = fx_I ((nc : Int) + 1) from (Int32.ofInt_add ..).symm]
  refine fx_putM (o := 6) (ci := 6) (k := 2) (ty := .int) hx hb hts hown hK hP hD hS 0 (getA w0') (by decide +kernel) (by decide +kernel) (by decide +kernel) rfl rfl (show 2 < 7 by omega) (show decode prog_1_method_2_code 61 = .ok (.putfield 19, 3) by decide +kernel) (fun H locs hP hD hS => ?_)
  rw [setA (by rw [List.length_set]; omega)] at hP hD
  have hP : va_P D fx_cl ((((fx_ws (gG D cI cZ cQ A ad Rf Cf nc) σ).set 2 (ad 2 0, cR cQ (va_up (cF ad nc) nc (some q)))).set 0 (ad 0 0, cX ad ((nc : Int) + 1))) ++ fx_ws (fx_Gc D cI cZ cQ ad (fun _ => True) nc ra rb q a13 a14 a15 a16 a17 a18 a19) σ') H := hP
  have hD : va_D A ((((fx_ws (gG D cI cZ cQ A ad Rf Cf nc) σ).set 2 (ad 2 0, cR cQ (va_up (cF ad nc) nc (some q)))).set 0 (ad 0 0, cX ad ((nc : Int) + 1))) ++ fx_ws (fx_Gc D cI cZ cQ ad (fun _ => True) nc ra rb q a13 a14 a15 a16 a17 a18 a19) σ') := hD
  rw [nw_eq hn6] at hP hD
  have w0'' : (fx_ws (gG D cI cZ cQ A (nAd ad nc q a13 a14 a15 a16 a17 a18 a19) (nRf Rf nc ra) (nRf Cf nc rb) (nc + 1)) (nSg σ σ' nc))[0]? = some (ad 0 0, cX ad ((nc : Int) + 1)) := by
    rw [← nw_eq hn6]
    refine getA ?_
    rw [List.getElem?_set_self (by rw [List.length_set]; omega)]
  refine lv_aload_n hx hb (show decode prog_1_method_2_code 64 = .ok (.aload_n 0, 1) by decide +kernel) rfl (lv_at hl 0 rfl) ?_
  refine fx_getC (o := 6) (ci := 6) (k := 2) hx hb hts hown hK hP 0 w0'' (by decide +kernel) rfl (show decode prog_1_method_2_code 65 = .ok (.getfield 19, 3) by decide +kernel) ?_
  refine lv_iconst (v := fx_I 1) hx hb (show decode prog_1_method_2_code 68 = .ok (.iconst 1, 1) by decide +kernel) rfl ?_
  refine lv_isub hx hb (show decode prog_1_method_2_code 69 = .ok (.isub, 1) by decide +kernel) ?_
  rw [show fx_I ((nc : Int) + 1) - fx_I 1 = fx_I (nc : Int) by
    show Int32.ofInt ((nc : Int) + 1) - Int32.ofInt 1 = Int32.ofInt (nc : Int)
    rw [← Int32.ofInt_sub]
    congr 1
    omega]
  exact W.iret hx hb hr (fun t ht hW => ⟨hS.F ht, nc, rfl, Or.inr ⟨⟨hok, hn6, rfl⟩, q, a13, a14, a15, a16, a17, a18, a19, σ', hCB, hfr, by rw [ht]; exact hP, hD⟩⟩) hS.2.2 (show decode prog_1_method_2_code 70 = .ok (.ireturn, 1) by decide +kernel)
