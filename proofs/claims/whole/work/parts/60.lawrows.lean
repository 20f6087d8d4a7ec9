/-! rows for the law's own walk -/
abbrev ag5 (pc k : Nat) : Prop := decode code pc = .ok (.aload_n 0, 1) ∧ decode code (pc + 1) = .ok (.iload_n 3, 1) ∧ decode code (pc + 2) = .ok (.iconst (k : Int), 1) ∧ decode code (pc + 3) = .ok (.iadd, 1) ∧ decode code (pc + 4) = .ok (.iaload, 1)
abbrev okC (pc0 n j1 j2 : Nat) (off : Int) : Prop := decode code pc0 = .ok (.aload_n 1, 1) ∧ (∀ j, j < n → ag5 (pc0 + 1 + 5 * j) (j + 1)) ∧ decode code (pc0 + 1 + 5 * n) = .ok (.invokevirtual j1, 3) ∧ decode code (pc0 + 4 + 5 * n) = .ok (.aload_n 2, 1) ∧ (∀ j, j < n → ag5 (pc0 + 5 + 5 * n + 5 * j) (j + 1)) ∧ decode code (pc0 + 5 + 5 * n + 5 * n) = .ok (.invokevirtual j2, 3) ∧ decode code (pc0 + 8 + 5 * n + 5 * n) = .ok (.if_icmp .eq off, 3) ∧ ((pc0 + 8 + 5 * n + 5 * n : Nat) : Int) + off = ((1003 : Nat) : Int)
abbrev okZ (z n ow : Nat) : Prop := z < fx_nM ∧ z ∈ fx_iM ∧ fx_lv z ≤ 100 ∧ fx_mL z ≤ 20 ∧ n + 1 ≤ fx_mL z ∧ (parseMethodDescriptor (fx_nm z).desc).map (fun d => d.parameters.length) = some n ∧ (fx_nm z).cls ≠ "java/lang/invoke/MethodHandle" ∧ (fx_nm z).cls ≠ "java/lang/invoke/VarHandle" ∧ fx_own z = ow
/-- the numbers of the script that a case gives on -/
def aS (xs : Nat → Int32) (iN : Nat) : Nat → List fx_V
  | 0 => []
  | n + 1 => aS xs iN n ++ [.inl (xs (iN + (n + 1))).toInt]
theorem aS_len (xs : Nat → Int32) (iN n : Nat) : (aS xs iN n).length = n := by
  induction n with
  | zero => rfl
  | succ n ih => simp [aS, ih]
theorem aS_al (xs : Nat → Int32) (iN n : Nat) (G : fx_G) : ∀ v ∈ aS xs iN n, fx_al G v := by
  induction n with
  | zero => intro v hv; simp [aS] at hv
  | succ n ih =>
    intro v hv
    simp only [aS, List.mem_append, List.mem_singleton] at hv
    rcases hv with hv | rfl
    · exact ih v hv
    · trivial
theorem i32in (x : Int32) : fx_in x.toInt := ⟨Int32.le_toInt x, by have := Int32.toInt_lt x; omega⟩
section LW
variable {p : Program} {l : Launch} {e : Env} {s : State} {m : MethodId} {below : List Frame} {meth : Method} {c : Code} {H : Heap} {locs : List Loc} {cells slots : Nat} {Q : State → Prop} {b L : Nat} {xs : Nat → Int32} {A : Nat → Prop} {jl : Array Slot} {st : List Value} {pc : Nat}
theorem lw_arg (C0 : lw_At p s m meth c b L xs) (hS : va_S A s.heap H locs) (hbA : ¬ A b) {iN k : Nat} (hi : iN + k < L) (hL : L ≤ 2560) (hk : k < 6) (h5 : ag5 pc k) (h0 : jl[0]? = some (.val (.ref b))) (h3 : jl[3]? = some (.val (.int (fx_I (iN : Int)))))
    (kk : W p l e room_1 s m #[Value.ref b] below meth c H locs cells slots Q (F0 m (pc + 5) jl (.int (xs (iN + k)) :: st))) : W p l e room_1 s m #[Value.ref b] below meth c H locs cells slots Q (F0 m pc jl st) := by
  obtain ⟨hx, hb, hr, hml, hown, hts, hX, hbl, hlocks, hgv⟩ := C0
  obtain ⟨e0, e1, e2, e3, e4⟩ := h5
  refine lv_aload_n hx hb e0 rfl h0 ?_
  refine lv_iload_n hx hb e1 rfl h3 ?_
  refine lv_iconst (v := fx_I (k : Int)) hx hb e2 rfl ?_
  refine lv_iadd hx hb e3 ?_
  rw [show fx_I (iN : Int) + fx_I (k : Int) = fx_I ((iN + k : Nat) : Int) by
    show Int32.ofInt (iN : Int) + Int32.ofInt (k : Int) = Int32.ofInt ((iN + k : Nat) : Int)
    rw [← Int32.ofInt_add]
    congr 1]
  refine va_sld hx hb hX hbl hbA hS (fx_vin (by omega) (by omega) (by omega)) e4 ?_
  rw [show (fx_I ((iN + k : Nat) : Int)).toNatClampNeg = iN + k by rw [fx_clamp (by omega) (by omega)]; omega]
  exact kk
theorem lw_args (C0 : lw_At p s m meth c b L xs) (hS : va_S A s.heap H locs) (hbA : ¬ A b) (ad : Nat → Nat → Nat) {iN n : Nat} (hi : iN + n < L) (hL : L ≤ 2560) (hn : n < 5) (h5 : ∀ j, j < n → ag5 (pc + 5 * j) (j + 1)) (h0 : jl[0]? = some (.val (.ref b))) (h3 : jl[3]? = some (.val (.int (fx_I (iN : Int)))))
    (kk : W p l e room_1 s m #[Value.ref b] below meth c H locs cells slots Q (F0 m (pc + 5 * n) jl (((aS xs iN n).map (fx_re ad)).reverse ++ st))) :
    ∀ (d j : Nat), j + d = n → W p l e room_1 s m #[Value.ref b] below meth c H locs cells slots Q (F0 m (pc + 5 * j) jl (((aS xs iN j).map (fx_re ad)).reverse ++ st)) := by
  intro d
  induction d with
  | zero =>
    intro j hj
    obtain rfl : j = n := by omega
    exact kk
  | succ d ih =>
    intro j hj
    refine lw_arg C0 hS hbA (iN := iN) (k := j + 1) (by omega) hL (by omega) (h5 j (by omega)) h0 h3 ?_
    have h := ih (j + 1) (by omega)
    rw [show pc + 5 * (j + 1) = pc + 5 * j + 5 by omega] at h
    have e : ((aS xs iN (j + 1)).map (fx_re ad)).reverse ++ st = .int (xs (iN + (j + 1))) :: (((aS xs iN j).map (fx_re ad)).reverse ++ st) := by
      simp only [aS, List.map_append, List.map_cons, List.map_nil, List.reverse_append, List.reverse_cons, List.reverse_nil, List.nil_append, List.cons_append, fx_re]
      rw [show fx_I (xs (iN + (j + 1))).toInt = xs (iN + (j + 1)) from Int32.ofInt_toInt _]
    rw [e] at h
    exact h
theorem lw_callV (C0 : lw_At p s m meth c b L xs) {G : fx_G} {σ : fx_M} (hW : fx_Wd G s σ H locs) {i z n o g ow : Nat} {as : List fx_V} {rest : List Value} {r : fx_R} (hm : (o, g) ∈ fx_gl G) (hob : (fx_ob o).map (fun q => q.1) = some ow) (hz : okZ z n ow) (hlink : Cond.methodLink "FoldDyeLaw" i (fx_nm z) ∈ fx_tb) (hn : as.length = n) (hrest : (rest.map fun v => v.category).sum ≤ 8) (hls : jl.size = 4) (M : fx_Met l G z (.inr (some (o, g)) :: as) σ r) (hc : cells ≤ 600000 ∧ slots ≤ 7302250) (hd : decode code pc = .ok (.invokevirtual i, 3))
    (kk : ∀ (H1 : Heap) (locs1 : List Loc), fx_Wd G s r.2 H1 locs1 → W p l e room_1 s m #[Value.ref b] below meth c H1 locs1 cells slots Q (F0 m (pc + 3) jl ((r.1.map (fx_re (fx_ga G))).toList ++ rest))) : W p l e room_1 s m #[Value.ref b] below meth c H locs cells slots Q (F0 m pc jl ((as.map (fx_re (fx_ga G))).reverse ++ .ref (fx_ga G o g) :: rest)) := by
  obtain ⟨hx, hb, hr, hml, hown, hts, hX, hbl, hlocks, hgv⟩ := C0
  obtain ⟨z1, z2, z3, z4, z5, z6, z7, z8, z9⟩ := hz
  rw [Option.map_eq_some_iff] at hob
  obtain ⟨⟨ci, fl⟩, ho, hci⟩ := hob
  dsimp only at hci
  obtain ⟨rr, hcl, hcs⟩ := fx_ob_cl ho
  obtain ⟨q, hq⟩ := fx_mem_at hm
  have hw := fx_ws_at G σ hq
  have hce : fx_ce G σ o g = .inr (ci, fx_fl (fx_ga G) σ o g 0 fl) := by unfold fx_ce; rw [ho]
  rw [hce] at hw
  have hcls : (fx_nm z).cls = rr.1 := by rw [hcs, hci, ← z9]; exact (fx_w13 z z1).1
  have hrecv := va_recv hW.1 hW.2.1 hcl hw
  rw [← hcls] at hrecv
  have hin := fx_w3 _ (List.mem_map.mpr ⟨z, z2, rfl⟩)
  have hse := fx_w4 _ (List.mem_map.mpr ⟨z, z2, rfl⟩)
  have hT : GoodIn fx_tb (wsV "FoldDyeLaw" i (fx_nm z).cls (fx_nm z) (fx_WS z)) := fx_good1 hlink (fx_good1 hin (fx_good1 hse (fx_good1 (fx_w2m z1) (fx_good1 (fx_w1 z1) fx_good_tb))))
  have htf : ∀ w ∈ fx_tb, w.before #[Value.ref b] s = true := fun w hw => hts w (fx_tb_in w hw)
  have hroom : (fx_RM z).frames + 1 ≤ room_1.frames ∧ 8 + (fx_mL z + 11) + (fx_RM z).locals ≤ room_1.locals := by
    show fx_lv z + 1 + 1 ≤ 2048 ∧ 8 + (fx_mL z + 11) + 40 * (fx_lv z + 1) ≤ 84000
    omega
  have cw := cwV (R := room_1) (s := s) (args := #[Value.ref b]) (rm := fx_RM z) (mc := 0) (ms := 0) n htf hT rfl rfl rfl ⟨rfl, z7, z8, z6⟩ hroom
  have run := va_runV (l := l) (e := e) (below := below) (meth := meth) (H := H) (locs := locs) (cells := cells) (slots := slots) (As := as.map (fx_re (fx_ga G))) (rest := rest) (g := F0 m pc jl ((as.map (fx_re (fx_ga G))).reverse ++ .ref (fx_ga G o g) :: rest)) ⟨hx, hb, hml, hown, htf⟩ M cw ⟨fx_blind, hrecv, fun U hU hWm => ⟨rfl, va_K.moved hWm.alike hW.1, by rw [hU]; exact hW.2.1, hW.2.2.1, by rw [hU]; exact fx_Sa.kept (fx_Sa.moved hWm hW.2.2.2.2) (fun a h1 h2 => hW.2.2.2.1.2.1 a h1 h2)⟩⟩ rfl (by rw [List.length_map]; exact hn) hls rfl (lv_room hrest) hd ⟨show cells + 0 ≤ 600000 by omega, show slots + 0 ≤ 7302250 by omega⟩
  exact fx_after hW run kk
/-- the reference's call, and the answers held against each other -/
theorem lw_half (C0 : lw_At p s m meth c b L xs) (hbA : ¬ A b) (hL : L ≤ 2560) {D : va_G} {cI cZ cQ : ClassId} {ad : Nat → Nat → Nat} {Rf Cf : Nat → Nat} {nc : Nat} {σ1 σ2 : fx_M} {v : Int} (hn6 : nc ≤ 6) (hRf : ∀ g, Rf g ≤ 12) (hCf : ∀ g, Cf g ≤ 12) (hW : fx_Wd (gG D cI cZ cQ A ad Rf Cf nc) s σ1 H locs) {iN n pc0 j1 j2 z2 : Nat} {off : Int} (hi : iN + 5 ≤ L) (hn : n < 5) (h0 : jl[0]? = some (.val (.ref b))) (h2 : jl[2]? = some (.val (.ref (ad 20 0)))) (h3 : jl[3]? = some (.val (.int (fx_I (iN : Int))))) (hls : jl.size = 4) (hC : okC pc0 n j1 j2 off) (hz2 : okZ z2 n 7) (l2 : Cond.methodLink "FoldDyeLaw" j2 (fx_nm z2) ∈ fx_tb) (e2 : fx_Ca (fx_S Rf Cf nc) z2 (.inr (some (20, 0)) :: aS xs iN n) σ1 = some (some (.inl v), σ2)) (hc : cells ≤ 600000 ∧ slots ≤ 7302250)
    (kk : ∀ (H1 : Heap) (locs1 : List Loc), fx_Wd (gG D cI cZ cQ A ad Rf Cf nc) s σ2 H1 locs1 → W p l e room_1 s m #[Value.ref b] below meth c H1 locs1 cells slots Q (F0 m 1003 jl [])) : W p l e room_1 s m #[Value.ref b] below meth c H locs cells slots Q (F0 m (pc0 + 4 + 5 * n) jl [.int (fx_I v)]) := by
  obtain ⟨hx, hb, hr, hml, hown, hts, hX, hbl, hlocks, hgv⟩ := id C0
  obtain ⟨c1, c2, c3, c4, c5, c6, c7, c8⟩ := hC
  refine lv_aload_n hx hb c4 rfl h2 ?_
  rw [show pc0 + 4 + 5 * n + 1 = pc0 + 5 + 5 * n + 5 * 0 by omega]
  refine lw_args (st := [.ref (ad 20 0), .int (fx_I v)]) C0 hW.2.2.2.1 hbA ad (iN := iN) (n := n) (by omega) hL hn c5 h0 h3 ?_ n 0 (by omega)
  have M := fx_met (l := l) (gG_ok D cI cZ cQ A ad hn6 hRf hCf) hz2.1 (by rw [List.length_cons, aS_len]; exact hz2.2.2.2.2.1) (fun w hw => by
    rcases List.mem_cons.mp hw with rfl | hw
    · exact Or.inl (show (20, 0) ∈ gL nc from List.mem_append_left _ (by decide))
    · exact aS_al xs iN n _ w hw) e2
  refine lw_callV C0 (G := gG D cI cZ cQ A ad Rf Cf nc) hW (o := 20) (g := 0) (ow := 7) (rest := [.int (fx_I v)]) (show (20, 0) ∈ gL nc from List.mem_append_left _ (by decide)) rfl hz2 l2 (aS_len xs iN n) (Nat.le_of_ble_eq_true rfl) hls M hc c6 (fun H1 locs1 hW1 => ?_)
  rw [show pc0 + 5 + 5 * n + 5 * n + 3 = pc0 + 8 + 5 * n + 5 * n by omega]
  exact lv_icmp_eq (tgt := 1003) (x := fx_I v) (y := fx_I v) hx hb c7 c8 (fun _ => kk H1 locs1 hW1) (fun q => absurd rfl q)
theorem lw_case (C0 : lw_At p s m meth c b L xs) (hbA : ¬ A b) (hL : L ≤ 2560) {D : va_G} {cI cZ cQ : ClassId} {ad : Nat → Nat → Nat} {Rf Cf : Nat → Nat} {nc : Nat} {σ : fx_M} (hn6 : nc ≤ 6) (hRf : ∀ g, Rf g ≤ 12) (hCf : ∀ g, Cf g ≤ 12) (hW : fx_Wd (gG D cI cZ cQ A ad Rf Cf nc) s σ H locs) {iN n pc0 j1 j2 z1 z2 : Nat} {off : Int} (hi : iN + 5 ≤ L) (hn : n < 5) (hl : lv_has jl 4 [(0, .ref b), (1, .ref (ad 0 0)), (2, .ref (ad 20 0)), (3, .int (fx_I (iN : Int)))]) (hC : okC pc0 n j1 j2 off) (hz1 : okZ z1 n 6) (hz2 : okZ z2 n 7) (l1 : Cond.methodLink "FoldDyeLaw" j1 (fx_nm z1) ∈ fx_tb) (l2 : Cond.methodLink "FoldDyeLaw" j2 (fx_nm z2) ∈ fx_tb) (hag : Ag Rf Cf nc z1 z2 (aS xs iN n) σ) (hc : cells ≤ 600000 ∧ slots ≤ 7302250)
    (kk : ∀ (σ2 : fx_M) (H1 : Heap) (locs1 : List Loc), Inv Rf Cf nc σ2 → fx_Wd (gG D cI cZ cQ A ad Rf Cf nc) s σ2 H1 locs1 → W p l e room_1 s m #[Value.ref b] below meth c H1 locs1 cells slots Q (F0 m 1003 jl [])) : W p l e room_1 s m #[Value.ref b] below meth c H locs cells slots Q (F0 m pc0 jl []) := by
  obtain ⟨hx, hb, hr, hml, hown, hts, hX, hbl, hlocks, hgv⟩ := id C0
  obtain ⟨v, σ1, σ2, e1, e2, hI⟩ := hag
  obtain ⟨c1, c2, c3, -⟩ := id hC
  have h0 := lv_at hl 0 rfl
  have h3 := lv_at hl 3 rfl
  refine lv_aload_n hx hb c1 rfl (lv_at hl 1 rfl) ?_
  refine W.eq (g2 := F0 m (pc0 + 1 + 5 * 0) jl (((aS xs iN 0).map (fx_re ad)).reverse ++ [.ref (ad 0 0)])) rfl ?_
  refine lw_args (st := [.ref (ad 0 0)]) C0 hW.2.2.2.1 hbA ad (iN := iN) (n := n) (by omega) hL hn c2 h0 h3 ?_ n 0 (by omega)
  have M := fx_met (l := l) (gG_ok D cI cZ cQ A ad hn6 hRf hCf) hz1.1 (by rw [List.length_cons, aS_len]; exact hz1.2.2.2.2.1) (fun w hw => by
    rcases List.mem_cons.mp hw with rfl | hw
    · exact Or.inl (show (0, 0) ∈ gL nc from List.mem_append_left _ (by decide))
    · exact aS_al xs iN n _ w hw) e1
  refine lw_callV C0 (G := gG D cI cZ cQ A ad Rf Cf nc) hW (o := 0) (g := 0) (ow := 6) (rest := []) (show (0, 0) ∈ gL nc from List.mem_append_left _ (by decide)) rfl hz1 l1 (aS_len xs iN n) (Nat.le_of_ble_eq_true rfl) hl.1 M hc c3 (fun H1 locs1 hW1 => ?_)
  rw [show pc0 + 1 + 5 * n + 3 = pc0 + 4 + 5 * n by omega]
  exact lw_half C0 hbA hL hn6 hRf hCf hW1 hi hn h0 (lv_at hl 2 rfl) h3 hl.1 hC hz2 l2 e2 hc (fun H2 locs2 hW2 => kk σ2 H2 locs2 hI hW2)
/-- FoldDye.cloth, and what comes back of it -/
theorem cl_after {D : va_G} {cI cZ cQ : ClassId} {ad : Nat → Nat → Nat} {Rf Cf : Nat → Nat} {nc : Nat} {σ : fx_M} {r0 c0 : Int} {R : Room} {args : Array Value} {st0 rest : List Value} {av : Array Value} (hW : fx_Wd (gG D cI cZ cQ A ad Rf Cf nc) s σ H locs) (hr : va_Run p l e R s m args below meth c H locs cells slots 8 881 (F0 m pc jl st0) rest (cl_Q D cI cZ cQ A ad Rf Cf nc σ r0 c0 av) A)
    (k1 : ∀ (v : Int) (H1 : Heap) (locs1 : List Loc), ((¬ okRC r0 c0 ∧ v = -1) ∨ (okRC r0 c0 ∧ nc = 6 ∧ v = -2)) → fx_Wd (gG D cI cZ cQ A ad Rf Cf nc) s σ H1 locs1 → W p l e R s m args below meth c H1 locs1 (cells + 8) (slots + 881) Q (F0 m (pc + 3) jl (.int (fx_I v) :: rest)))
    (k2 : ∀ (H1 : Heap) (locs1 : List Loc) (a12 a13 a14 a15 a16 a17 a18 a19 : Nat) (σ' : fx_M), okRC r0 c0 → nc < 6 → CB (fun _ => r0.toNat) (fun _ => c0.toNat) nc r0.toNat c0.toNat r0.toNat c0.toNat oR oC oH σ' → (∀ o k x, ¬ (k = nc ∧ 15 ≤ o ∧ o ≤ 19) → σ' o k x = fx_s0 r0.toNat c0.toNat o k x) → fx_Wd (gG D cI cZ cQ A (nAd ad nc a12 a13 a14 a15 a16 a17 a18 a19) (nRf Rf nc r0.toNat) (nRf Cf nc c0.toNat) (nc + 1)) s (nSg σ σ' nc) H1 locs1 → W p l e R s m args below meth c H1 locs1 (cells + 8) (slots + 881) Q (F0 m (pc + 3) jl (.int (fx_I (nc : Int)) :: rest))) : W p l e R s m args below meth c H locs cells slots Q (F0 m pc jl st0) := by
  intro T hT X
  obtain ⟨v, st₀, t, T', LL, h0, X', hL, e1, e2, ⟨⟨hz, hk⟩, v1, hv, hcase⟩, stp⟩ := hr T hT X
  cases hv
  rw [h0] at hz hk
  have hS := hW.2.2.2.1
  have hS1 : va_S A s.heap T'.heap (locs ++ LL) := ⟨Nat.le_trans hS.1 (by rw [e1]; exact hz), fun q h1 h2 => by rw [e1, hk q (Nat.lt_of_lt_of_le h1 hS.1) h2]; exact hS.2.1 q h1 h2, fun q hq => by
      rcases List.mem_append.mp hq with h | h
      · exact hS.2.2 q h
      · exact hL q h⟩
  rcases hcase with ⟨hc1, hP⟩ | ⟨⟨hc1, hc2, rfl⟩, a12, a13, a14, a15, a16, a17, a18, a19, σ', hCB, hfr, hP, hD⟩
  · obtain ⟨t2, y1, y2⟩ := k1 v1 T'.heap (locs ++ LL) hc1 ⟨hW.1, by rw [e1]; exact hP, hW.2.2.1, hS1, hW.2.2.2.2⟩ T' rfl X'
    exact ⟨t2, stp t2 y1, y2⟩
  · have hSa : fx_Sa (nAd ad nc a12 a13 a14 a15 a16 a17 a18 a19) A s s.heap := fx_SaN (fun o ho => by
      unfold nAd
      rw [if_neg (by omega)]
      rfl) (fun _ h => h) hW.2.2.2.2
    obtain ⟨t2, y1, y2⟩ := k2 T'.heap (locs ++ LL) a12 a13 a14 a15 a16 a17 a18 a19 σ' hc1 hc2 hCB hfr ⟨hW.1, by rw [e1]; exact hP, hD, hS1, hSa⟩ T' rfl X'
    exact ⟨t2, stp t2 y1, y2⟩
end LW
