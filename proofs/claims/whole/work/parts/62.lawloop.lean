/-! the law's loop -/
theorem aS1 (xs : Nat → Int32) (i : Nat) : aS xs i 1 = [.inl (xs (i + 1)).toInt] := rfl
theorem aS2 (xs : Nat → Int32) (i : Nat) : aS xs i 2 = [.inl (xs (i + 1)).toInt, .inl (xs (i + 2)).toInt] := rfl
theorem aS3 (xs : Nat → Int32) (i : Nat) : aS xs i 3 = [.inl (xs (i + 1)).toInt, .inl (xs (i + 2)).toInt, .inl (xs (i + 3)).toInt] := rfl
theorem aS4 (xs : Nat → Int32) (i : Nat) : aS xs i 4 = [.inl (xs (i + 1)).toInt, .inl (xs (i + 2)).toInt, .inl (xs (i + 3)).toInt, .inl (xs (i + 4)).toInt] := rfl
theorem ol_cloth : GoodIn fx_tb (wsV "FoldDyeLaw" 13 "FoldDye" ⟨"FoldDye", "cloth", "(II)I"⟩ (Cond.code ⟨"FoldDye", "cloth", "(II)I"⟩ prog_1_method_2_code 3 (some .int) :: fx_tb)) := fx_good1 (List.mem_filter.mpr ⟨List.mem_of_getElem? (i := 230) (by decide +kernel), rfl⟩) (fx_good1 (List.mem_filter.mpr ⟨List.mem_of_getElem? (i := 231) (by decide +kernel), rfl⟩) (fx_good1 (List.mem_filter.mpr ⟨List.mem_of_getElem? (i := 232) (by decide +kernel), rfl⟩) (fx_good1 (List.mem_filter.mpr ⟨List.mem_of_getElem? (i := 49) (by decide +kernel), rfl⟩) (fx_good1 (List.mem_filter.mpr ⟨List.mem_of_getElem? (i := 233) (by decide +kernel), rfl⟩) fx_good_tb))))
theorem d_sw : decode code 32 = .ok (.tableswitch 971 0 24 #[116, 149, 182, 235, 258, 291, 334, 367, 400, 443, 466, 499, 542, 585, 608, 641, 674, 707, 740, 783, 816, 849, 882, 915, 948], 116) := by decide +kernel
section LP
variable {p : Program} {e : Env} {s : State} {m : MethodId} {below : List Frame} {meth : Method} {c : Code} {b L : Nat} {xs : Nat → Int32} {D : va_G} {cI cZ cQ : ClassId}
theorem lw_exit {l : Launch} {H : Heap} {locs : List Loc} {cells slots : Nat} {jl : Array Slot} (C0 : lw_At p s m meth c b L xs) (hf : ∀ q ∈ locs, s.heap.size ≤ q.base) (hc : cells ≤ 600000 ∧ slots ≤ 7302250) : W p l e room_1 s m #[Value.ref b] below meth c H locs cells slots (lw_Z below #[Value.ref b] s) (F0 m 1009 jl []) := by
  obtain ⟨hx, hb, hr, hml, hown, hts, hX, hbl, hlocks, hgv⟩ := C0
  refine va_forget hf ?_
  refine W.widen (k := 600000) (n := 7302250) hc.1 hc.2 ?_
  refine lv_iconst (v := 1) hx hb (show decode code 1009 = .ok (.iconst 1, 1) by decide +kernel) (by decide) ?_
  exact lw_ret hx hb hr hlocks (show decode code 1010 = .ok (.ireturn, 1) by decide +kernel)
theorem lw_cloth {l : Launch} {H : Heap} {locs : List Loc} {cells slots : Nat} {Q : State → Prop} {jl : Array Slot} (C0 : lw_At p s m meth c b L xs) (hL : L ≤ 2560) (hMN : ∀ e ∈ fx_mN, va_Nw (.methodLinkNest "FoldDye" e.1 e.2 "FoldDye") s) (hAO : va_AO "FoldDye$Cloth" s) {ad : Nat → Nat → Nat} {Rf Cf : Nat → Nat} {nc : Nat} {σ : fx_M} (hI : Inv Rf Cf nc σ) (hRf : ∀ g, Rf g ≤ 12) (hCf : ∀ g, Cf g ≤ 12) (hW : fx_Wd (gG D cI cZ cQ (fun q => s.heap.size ≤ q) ad Rf Cf nc) s σ H locs) {iN : Nat} (hi : iN + 5 ≤ L) (hl : lv_has jl 4 [(0, .ref b), (1, .ref (ad 0 0)), (2, .ref (ad 20 0)), (3, .int (fx_I (iN : Int)))]) (hc : cells + 8 ≤ 600000 ∧ slots + 881 ≤ 7302250)
    (kk : ∀ (ad1 : Nat → Nat → Nat) (Rf1 Cf1 : Nat → Nat) (nc1 : Nat) (σ2 : fx_M) (H1 : Heap) (locs1 : List Loc), Inv Rf1 Cf1 nc1 σ2 → (∀ g, Rf1 g ≤ 12) → (∀ g, Cf1 g ≤ 12) → ad1 0 0 = ad 0 0 → ad1 20 0 = ad 20 0 → fx_Wd (gG D cI cZ cQ (fun q => s.heap.size ≤ q) ad1 Rf1 Cf1 nc1) s σ2 H1 locs1 → W p l e room_1 s m #[Value.ref b] below meth c H1 locs1 (cells + 8) (slots + 881) Q (F0 m 1003 jl [])) : W p l e room_1 s m #[Value.ref b] below meth c H locs cells slots Q (F0 m 148 jl []) := by
  obtain ⟨hx, hb, hr, hml, hown, hts, hX, hbl, hlocks, hgv⟩ := id C0
  have hn6 := hI.1.1
  have hbA : ¬ (fun q : Nat => s.heap.size ≤ q) b := Nat.not_le.mpr hbl
  have htf : ∀ w ∈ fx_tb, w.before #[Value.ref b] s = true := fun w hw => hts w (fx_tb_in w hw)
  have h0 := lv_at hl 0 rfl
  have h2 := lv_at hl 2 rfl
  have h3 := lv_at hl 3 rfl
  have hSt : fx_St ad (fun q => s.heap.size ≤ q) s := ⟨hW.2.2.2.2, fun _ h => h, hMN, hAO⟩
  refine lv_aload_n hx hb oc_cloth.1 rfl (lv_at hl 1 rfl) ?_
  refine W.eq (g2 := F0 m (148 + 1 + 5 * 0) jl (((aS xs iN 0).map (fx_re ad)).reverse ++ [.ref (ad 0 0)])) rfl ?_
  refine lw_args (st := [.ref (ad 0 0)]) C0 hW.2.2.2.1 hbA ad (iN := iN) (n := 2) (by omega) hL (by omega) oc_cloth.2.1 h0 h3 ?_ 2 0 (by omega)
  obtain ⟨r0, hr0⟩ : ∃ r0 : Int, r0 = (xs (iN + 1)).toInt := ⟨_, rfl⟩
  obtain ⟨c0, hc0⟩ : ∃ c0 : Int, c0 = (xs (iN + 2)).toInt := ⟨_, rfl⟩
  have hr0i : fx_in r0 := by rw [hr0]; exact i32in _
  have hc0i : fx_in c0 := by rw [hc0]; exact i32in _
  have hex : (((aS xs iN 2).map (fx_re ad)).reverse ++ [Value.ref (ad 0 0)]) = [.int (fx_I r0), .int (fx_I c0)].reverse ++ .ref (ad 0 0) :: [] := by rw [hr0, hc0]; rfl
  rw [hex]
  have w0 : (fx_ws (gG D cI cZ cQ (fun q => s.heap.size ≤ q) ad Rf Cf nc) σ)[0]? = some (ad 0 0, cX ad (σ 0 0 2)) := fx_ws_at _ _ (gL_0 nc)
  have hrecv := va_recv (ci := 6) hW.1 hW.2.1 rfl w0
  have cw := cwV (R := room_1) (s := s) (args := #[Value.ref b]) (rm := fx_room_cl) (mc := 8) (ms := 881) 2 htf ol_cloth rfl rfl rfl (by decide +kernel) ⟨Nat.le_of_ble_eq_true rfl, Nat.le_of_ble_eq_true rfl⟩
  have run := va_runV (l := l) (e := e) (below := below) (meth := meth) (H := H) (locs := locs) (cells := cells) (slots := slots) (As := [.int (fx_I r0), .int (fx_I c0)]) (rest := []) (g := F0 m (148 + 1 + 5 * 2) jl ([.int (fx_I r0), .int (fx_I c0)].reverse ++ .ref (ad 0 0) :: [])) ⟨hx, hb, hml, hown, htf⟩ (c_cloth l D cI cZ cQ (fun q => s.heap.size ≤ q) ad Rf Cf nc σ r0 c0 hr0i hc0i hn6 hI.1.2.1) cw ⟨cl_blind, hrecv, fun U hU hWm => ⟨rfl, va_K.moved hWm.alike hW.1, by rw [hU]; exact hW.2.1, hW.2.2.1, fx_St.call hSt hWm hU hW.2.2.2.1 (fun _ h => h)⟩⟩ rfl rfl hl.1 rfl (lv_room (Nat.le_of_ble_eq_true rfl)) oc_cloth.2.2.1 hc
  refine cl_after hW run (fun v H1 locs1 hcs hW1 => ?_) (fun H1 locs1 a12 a13 a14 a15 a16 a17 a18 a19 σ' hok hn hCB hfr hW1 => ?_)
  · have e2 : fx_Ca (fx_S Rf Cf nc) 77 (.inr (some (20, 0)) :: aS xs iN 2) σ = some (some (.inl v), σ) := by
      rw [aS2, ← hr0, ← hc0]
      rcases hcs with ⟨q1, rfl⟩ | ⟨q1, q2, rfl⟩
      · exact mc_no Rf Cf nc r0 c0 hr0i hc0i q1
      · exact mc_full Rf Cf nc r0 c0 q1 (by rw [hI.1.2.2.1, q2]; rfl)
    exact lw_half C0 hbA hL hn6 hRf hCf hW1 hi (by omega) h0 h2 h3 hl.1 oc_cloth oz2_cloth ol2_cloth e2 hc (fun H2 locs2 hW2 => kk ad Rf Cf nc σ H2 locs2 hI hRf hCf rfl rfl hW2)
  · obtain ⟨q1, q2⟩ := id hok
    have er : ((r0.toNat : Nat) : Int) = r0 := Int.toNat_of_nonneg (by omega)
    have ec : ((c0.toNat : Nat) : Int) = c0 := Int.toNat_of_nonneg (by omega)
    obtain ⟨σ2, e2, hI2⟩ := mc_yes hI hn r0.toNat c0.toNat (by rw [er, ec]; exact hok) hCB hfr
    rw [er, ec, hr0, hc0, ← aS2, ← hr0, ← hc0] at e2
    have hR1 : ∀ g, nRf Rf nc r0.toNat g ≤ 12 := fun g => by
      have := hRf g
      unfold nRf
      split <;> omega
    have hC1 : ∀ g, nRf Cf nc c0.toNat g ≤ 12 := fun g => by
      have := hCf g
      unfold nRf
      split <;> omega
    have ea : ∀ o, o = 0 ∨ o = 20 → nAd ad nc a12 a13 a14 a15 a16 a17 a18 a19 o 0 = ad o 0 := fun o ho => by
      unfold nAd
      rw [if_neg (by omega)]
    exact lw_half C0 hbA hL (show nc + 1 ≤ 6 by omega) hR1 hC1 hW1 hi (by omega) h0 (by rw [ea 20 (by omega)]; exact h2) h3 hl.1 oc_cloth oz2_cloth ol2_cloth e2 hc (fun H2 locs2 hW2 => kk _ _ _ _ σ2 H2 locs2 hI2 hR1 hC1 (ea 0 (by omega)) (ea 20 (by omega)) hW2)
set_option maxHeartbeats 4000000 in
theorem lw_loop (l : Launch) (hL : L ≤ 2560) (C0 : lw_At p s m meth c b L xs) (hMN : ∀ e ∈ fx_mN, va_Nw (.methodLinkNest "FoldDye" e.1 e.2 "FoldDye") s) (hAO : va_AO "FoldDye$Cloth" s) :
    ∀ (f kk : Nat), kk + f = 512 → ∀ (ad : Nat → Nat → Nat) (Rf Cf : Nat → Nat) (nc : Nat) (σ : fx_M) (H : Heap) (locs : List Loc) (jl : Array Slot), (∀ g, Rf g ≤ 12) → (∀ g, Cf g ≤ 12) → Inv Rf Cf nc σ → fx_Wd (gG D cI cZ cQ (fun q => s.heap.size ≤ q) ad Rf Cf nc) s σ H locs → lv_has jl 4 [(0, .ref b), (1, .ref (ad 0 0)), (2, .ref (ad 20 0)), (3, .int (fx_I ((5 * kk : Nat) : Int)))] → W p l e room_1 s m #[Value.ref b] below meth c H locs (58 + 8 * kk) (10829 + 881 * kk) (lw_Z below #[Value.ref b] s) (F0 m 18 jl []) := by
  obtain ⟨hx, hb, hr, hml, hown, hts, hX, hbl, hlocks, hgv⟩ := id C0
  have hbA : ¬ (fun q : Nat => s.heap.size ≤ q) b := Nat.not_le.mpr hbl
  intro f
  induction f with
  | zero =>
    intro kk hkk ad Rf Cf nc σ H locs jl hRf hCf hI hW hl
    refine lv_iload_n hx hb (show decode code 18 = .ok (.iload_n 3, 1) by decide +kernel) rfl (lv_at hl 3 rfl) ?_
    refine lv_aload_n hx hb (show decode code 19 = .ok (.aload_n 0, 1) by decide +kernel) rfl (lv_at hl 0 rfl) ?_
    refine va_slen hx hb hX hbl hbA hW.2.2.2.1 (show decode code 20 = .ok (.arraylength, 1) by decide +kernel) ?_
    refine lv_iconst (v := fx_I 5) hx hb (show decode code 21 = .ok (.iconst 5, 1) by decide +kernel) rfl ?_
    refine lv_isub hx hb (show decode code 22 = .ok (.isub, 1) by decide +kernel) ?_
    rw [show Int32.ofNat L - fx_I 5 = fx_I ((L : Int) - 5) by
      rw [fx_ofNat]
      exact (Int32.ofInt_sub ..).symm]
    refine lv_icmp_gt (tgt := 1009) hx hb (show decode code 23 = .ok (.if_icmp .gt 986, 3) by decide +kernel) (by decide) (fun q => lw_exit C0 hW.2.2.2.1.2.2 ⟨by omega, by omega⟩) (fun q => ?_)
    exact absurd ((fx_lt (x := (L : Int) - 5) (y := ((5 * kk : Nat) : Int)) ⟨by omega, by omega⟩ ⟨by omega, by omega⟩).mpr (by omega)) q
  | succ f ih =>
    intro kk hkk ad Rf Cf nc σ H locs jl hRf hCf hI hW hl
    refine lv_iload_n hx hb (show decode code 18 = .ok (.iload_n 3, 1) by decide +kernel) rfl (lv_at hl 3 rfl) ?_
    refine lv_aload_n hx hb (show decode code 19 = .ok (.aload_n 0, 1) by decide +kernel) rfl (lv_at hl 0 rfl) ?_
    refine va_slen hx hb hX hbl hbA hW.2.2.2.1 (show decode code 20 = .ok (.arraylength, 1) by decide +kernel) ?_
    refine lv_iconst (v := fx_I 5) hx hb (show decode code 21 = .ok (.iconst 5, 1) by decide +kernel) rfl ?_
    refine lv_isub hx hb (show decode code 22 = .ok (.isub, 1) by decide +kernel) ?_
    rw [show Int32.ofNat L - fx_I 5 = fx_I ((L : Int) - 5) by
      rw [fx_ofNat]
      exact (Int32.ofInt_sub ..).symm]
    refine lv_icmp_gt (tgt := 1009) hx hb (show decode code 23 = .ok (.if_icmp .gt 986, 3) by decide +kernel) (by decide) (fun q => lw_exit C0 hW.2.2.2.1.2.2 ⟨by omega, by omega⟩) (fun q => ?_)
    have hi : 5 * kk + 5 ≤ L := by
      have h1 : ¬ ((L : Int) - 5 < ((5 * kk : Nat) : Int)) := fun z => q ((fx_lt (x := (L : Int) - 5) (y := ((5 * kk : Nat) : Int)) ⟨by omega, by omega⟩ ⟨by omega, by omega⟩).mpr z)
      omega
    have hn6 := hI.1.1
    have k3 : ∀ (ad1 : Nat → Nat → Nat) (Rf1 Cf1 : Nat → Nat) (nc1 : Nat) (σ2 : fx_M) (H1 : Heap) (locs1 : List Loc) (cells slots : Nat), Inv Rf1 Cf1 nc1 σ2 → (∀ g, Rf1 g ≤ 12) → (∀ g, Cf1 g ≤ 12) → ad1 0 0 = ad 0 0 → ad1 20 0 = ad 20 0 → fx_Wd (gG D cI cZ cQ (fun q => s.heap.size ≤ q) ad1 Rf1 Cf1 nc1) s σ2 H1 locs1 → cells ≤ 58 + 8 * (kk + 1) → slots ≤ 10829 + 881 * (kk + 1) → W p l e room_1 s m #[Value.ref b] below meth c H1 locs1 cells slots (lw_Z below #[Value.ref b] s) (F0 m 1003 jl []) := by
      intro ad1 Rf1 Cf1 nc1 σ2 H1 locs1 cells slots hI1 hR1 hC1 ea eb hW1 hc1 hc2
      refine W.widen (k := 58 + 8 * (kk + 1)) (n := 10829 + 881 * (kk + 1)) hc1 hc2 ?_
      refine lv_iinc (v := fx_I ((5 * (kk + 1) : Nat) : Int)) (lv' := [(3, .int (fx_I ((5 * (kk + 1) : Nat) : Int))), (0, .ref b), (1, .ref (ad 0 0)), (2, .ref (ad 20 0))]) hx hb (show decode code 1003 = .ok (.iinc 3 5, 3) by decide +kernel) hl (k := 3) rfl (by
        show Int32.ofInt ((5 * kk : Nat) : Int) + Int32.ofInt 5 = Int32.ofInt ((5 * (kk + 1) : Nat) : Int)
        rw [← Int32.ofInt_add]
        congr 1) (by decide) rfl (fun ls hl1 => ?_)
      refine lv_goto (tgt := 18) hx hb (show decode code 1006 = .ok (.goto (-988), 3) by decide +kernel) (by decide) ?_
      refine ih (kk + 1) (by omega) ad1 Rf1 Cf1 nc1 σ2 H1 locs1 ls hR1 hC1 hI1 hW1 ?_
      rw [ea, eb]
      exact lv_sub hl1 [1, 2, 3, 0] rfl
    refine lv_aload_n hx hb (show decode code 26 = .ok (.aload_n 0, 1) by decide +kernel) rfl (lv_at hl 0 rfl) ?_
    refine lv_iload_n hx hb (show decode code 27 = .ok (.iload_n 3, 1) by decide +kernel) rfl (lv_at hl 3 rfl) ?_
    refine va_sld hx hb hX hbl hbA hW.2.2.2.1 (fx_vin (by omega) (by omega) (by omega)) (show decode code 28 = .ok (.iaload, 1) by decide +kernel) ?_
    refine lv_bipush (v := fx_I 31) hx hb (show decode code 29 = .ok (.bipush 31, 2) by decide +kernel) (by decide) ?_
    refine lv_iand hx hb (show decode code 31 = .ok (.iand, 1) by decide +kernel) ?_
    refine lv_topi (fun x hxe => ?_)
    by_cases hv : x.toInt < 0 ∨ 24 < x.toInt
    · refine lv_tableOut (tgt := 1003) hx hb d_sw hv (by decide) ?_
      exact k3 ad Rf Cf nc σ H locs _ _ hI hRf hCf rfl rfl hW (by omega) (by omega)
    · have n1 : ¬ x.toInt < 0 := fun z => hv (Or.inl z)
      have n2 : ¬ 24 < x.toInt := fun z => hv (Or.inr z)
      have hcc : 58 + 8 * kk ≤ 600000 ∧ 10829 + 881 * kk ≤ 7302250 := ⟨by omega, by omega⟩
      rcases (show x.toInt = 0 ∨ x.toInt = 1 ∨ x.toInt = 2 ∨ x.toInt = 3 ∨ x.toInt = 4 ∨ x.toInt = 5 ∨ x.toInt = 6 ∨ x.toInt = 7 ∨ x.toInt = 8 ∨ x.toInt = 9 ∨ x.toInt = 10 ∨ x.toInt = 11 ∨ x.toInt = 12 ∨ x.toInt = 13 ∨ x.toInt = 14 ∨ x.toInt = 15 ∨ x.toInt = 16 ∨ x.toInt = 17 ∨ x.toInt = 18 ∨ x.toInt = 19 ∨ x.toInt = 20 ∨ x.toInt = 21 ∨ x.toInt = 22 ∨ x.toInt = 23 ∨ x.toInt = 24 by omega) with hk | hk | hk | hk | hk | hk | hk | hk | hk | hk | hk | hk | hk | hk | hk | hk | hk | hk | hk | hk | hk | hk | hk | hk | hk
      · refine lv_tableIn (off := 116) (tgt := 148) hx hb d_sw n1 n2 (by rw [hk]; rfl) (by decide) ?_
        exact lw_cloth C0 hL hMN hAO hI hRf hCf hW hi hl ⟨by omega, by omega⟩ (fun ad1 Rf1 Cf1 nc1 σ2 H1 locs1 g1 g2 g3 g4 g5 g6 => k3 ad1 Rf1 Cf1 nc1 σ2 H1 locs1 _ _ g1 g2 g3 g4 g5 g6 (by omega) (by omega))
      · refine lv_tableIn (off := 149) (tgt := 181) hx hb d_sw n1 n2 (by rw [hk]; rfl) (by decide) ?_
        exact lw_case C0 hbA hL hn6 hRf hCf hW hi (by omega) hl oc_rule oz1_rule oz2_rule ol1_rule ol2_rule (by rw [aS2]; exact ag_rule Rf Cf nc hI _ _ (i32in _) (i32in _)) hcc (fun σ2 H1 locs1 g1 g2 => k3 ad Rf Cf nc σ2 H1 locs1 _ _ g1 hRf hCf rfl rfl g2 (by omega) (by omega))
      · refine lv_tableIn (off := 182) (tgt := 214) hx hb d_sw n1 n2 (by rw [hk]; rfl) (by decide) ?_
        exact lw_case C0 hbA hL hn6 hRf hCf hW hi (by omega) hl oc_fold oz1_fold oz2_fold ol1_fold ol2_fold (by rw [aS4]; exact ag_fold Rf Cf nc hI _ _ _ _ (i32in _) (i32in _) (i32in _) (i32in _)) hcc (fun σ2 H1 locs1 g1 g2 => k3 ad Rf Cf nc σ2 H1 locs1 _ _ g1 hRf hCf rfl rfl g2 (by omega) (by omega))
      · refine lv_tableIn (off := 235) (tgt := 267) hx hb d_sw n1 n2 (by rw [hk]; rfl) (by decide) ?_
        exact lw_case C0 hbA hL hn6 hRf hCf hW hi (by omega) hl oc_opn oz1_opn oz2_opn ol1_opn ol2_opn (by rw [aS1]; exact ag_open Rf Cf nc hI _ (i32in _)) hcc (fun σ2 H1 locs1 g1 g2 => k3 ad Rf Cf nc σ2 H1 locs1 _ _ g1 hRf hCf rfl rfl g2 (by omega) (by omega))
      · refine lv_tableIn (off := 258) (tgt := 290) hx hb d_sw n1 n2 (by rw [hk]; rfl) (by decide) ?_
        exact lw_case C0 hbA hL hn6 hRf hCf hW hi (by omega) hl oc_about oz1_about oz2_about ol1_about ol2_about (by rw [aS2]; exact ag_about Rf Cf nc hI _ _ (i32in _) (i32in _)) hcc (fun σ2 H1 locs1 g1 g2 => k3 ad Rf Cf nc σ2 H1 locs1 _ _ g1 hRf hCf rfl rfl g2 (by omega) (by omega))
      · refine lv_tableIn (off := 291) (tgt := 323) hx hb d_sw n1 n2 (by rw [hk]; rfl) (by decide) ?_
        exact lw_case C0 hbA hL hn6 hRf hCf hW hi (by omega) hl oc_stack oz1_stack oz2_stack ol1_stack ol2_stack (by rw [aS3]; exact ag_stack Rf Cf nc hI _ _ _ (i32in _) (i32in _) (i32in _)) hcc (fun σ2 H1 locs1 g1 g2 => k3 ad Rf Cf nc σ2 H1 locs1 _ _ g1 hRf hCf rfl rfl g2 (by omega) (by omega))
      · refine lv_tableIn (off := 334) (tgt := 366) hx hb d_sw n1 n2 (by rw [hk]; rfl) (by decide) ?_
        exact lw_case C0 hbA hL hn6 hRf hCf hW hi (by omega) hl oc_place oz1_place oz2_place ol1_place ol2_place (by rw [aS2]; exact ag_place Rf Cf nc hI _ _ (i32in _) (i32in _)) hcc (fun σ2 H1 locs1 g1 g2 => k3 ad Rf Cf nc σ2 H1 locs1 _ _ g1 hRf hCf rfl rfl g2 (by omega) (by omega))
      · refine lv_tableIn (off := 367) (tgt := 399) hx hb d_sw n1 n2 (by rw [hk]; rfl) (by decide) ?_
        exact lw_case C0 hbA hL hn6 hRf hCf hW hi (by omega) hl oc_high oz1_high oz2_high ol1_high ol2_high (by rw [aS2]; exact ag_high Rf Cf nc hI _ _ (i32in _) (i32in _)) hcc (fun σ2 H1 locs1 g1 g2 => k3 ad Rf Cf nc σ2 H1 locs1 _ _ g1 hRf hCf rfl rfl g2 (by omega) (by omega))
      · refine lv_tableIn (off := 400) (tgt := 432) hx hb d_sw n1 n2 (by rw [hk]; rfl) (by decide) ?_
        exact lw_case C0 hbA hL hn6 hRf hCf hW hi (by omega) hl oc_board oz1_board oz2_board ol1_board ol2_board (by rw [aS3]; exact ag_board Rf Cf nc hI _ _ _ (i32in _) (i32in _) (i32in _)) hcc (fun σ2 H1 locs1 g1 g2 => k3 ad Rf Cf nc σ2 H1 locs1 _ _ g1 hRf hCf rfl rfl g2 (by omega) (by omega))
      · refine lv_tableIn (off := 443) (tgt := 475) hx hb d_sw n1 n2 (by rw [hk]; rfl) (by decide) ?_
        exact lw_case C0 hbA hL hn6 hRf hCf hW hi (by omega) hl oc_off oz1_off oz2_off ol1_off ol2_off (by rw [aS1]; exact ag_off Rf Cf nc hI _ (i32in _)) hcc (fun σ2 H1 locs1 g1 g2 => k3 ad Rf Cf nc σ2 H1 locs1 _ _ g1 hRf hCf rfl rfl g2 (by omega) (by omega))
      · refine lv_tableIn (off := 466) (tgt := 498) hx hb d_sw n1 n2 (by rw [hk]; rfl) (by decide) ?_
        exact lw_case C0 hbA hL hn6 hRf hCf hW hi (by omega) hl oc_reach oz1_reach oz2_reach ol1_reach ol2_reach (by rw [aS2]; exact ag_reach Rf Cf nc hI _ _ (i32in _) (i32in _)) hcc (fun σ2 H1 locs1 g1 g2 => k3 ad Rf Cf nc σ2 H1 locs1 _ _ g1 hRf hCf rfl rfl g2 (by omega) (by omega))
      · refine lv_tableIn (off := 499) (tgt := 531) hx hb d_sw n1 n2 (by rw [hk]; rfl) (by decide) ?_
        exact lw_case C0 hbA hL hn6 hRf hCf hW hi (by omega) hl oc_bath oz1_bath oz2_bath ol1_bath ol2_bath (by rw [aS3]; exact ag_bath Rf Cf nc hI _ _ _ (i32in _) (i32in _) (i32in _)) hcc (fun σ2 H1 locs1 g1 g2 => k3 ad Rf Cf nc σ2 H1 locs1 _ _ g1 hRf hCf rfl rfl g2 (by omega) (by omega))
      · refine lv_tableIn (off := 542) (tgt := 574) hx hb d_sw n1 n2 (by rw [hk]; rfl) (by decide) ?_
        exact lw_case C0 hbA hL hn6 hRf hCf hW hi (by omega) hl oc_discharge oz1_discharge oz2_discharge ol1_discharge ol2_discharge (by rw [aS3]; exact ag_discharge Rf Cf nc hI _ _ _ (i32in _) (i32in _) (i32in _)) hcc (fun σ2 H1 locs1 g1 g2 => k3 ad Rf Cf nc σ2 H1 locs1 _ _ g1 hRf hCf rfl rfl g2 (by omega) (by omega))
      · refine lv_tableIn (off := 585) (tgt := 617) hx hb d_sw n1 n2 (by rw [hk]; rfl) (by decide) ?_
        exact lw_case C0 hbA hL hn6 hRf hCf hW hi (by omega) hl oc_dry oz1_dry oz2_dry ol1_dry ol2_dry (by rw [aS1]; exact ag_dry Rf Cf nc hI _ (i32in _)) hcc (fun σ2 H1 locs1 g1 g2 => k3 ad Rf Cf nc σ2 H1 locs1 _ _ g1 hRf hCf rfl rfl g2 (by omega) (by omega))
      · refine lv_tableIn (off := 608) (tgt := 640) hx hb d_sw n1 n2 (by rw [hk]; rfl) (by decide) ?_
        exact lw_case C0 hbA hL hn6 hRf hCf hW hi (by omega) hl oc_depth oz1_depth oz2_depth ol1_depth ol2_depth (by rw [aS2]; exact ag_depth Rf Cf nc hI _ _ (i32in _) (i32in _)) hcc (fun σ2 H1 locs1 g1 g2 => k3 ad Rf Cf nc σ2 H1 locs1 _ _ g1 hRf hCf rfl rfl g2 (by omega) (by omega))
      · refine lv_tableIn (off := 641) (tgt := 673) hx hb d_sw n1 n2 (by rw [hk]; rfl) (by decide) ?_
        exact lw_case C0 hbA hL hn6 hRf hCf hW hi (by omega) hl oc_mirrored oz1_mirrored oz2_mirrored ol1_mirrored ol2_mirrored (by rw [aS2]; exact ag_mirrored Rf Cf nc hI _ _ (i32in _) (i32in _)) hcc (fun σ2 H1 locs1 g1 g2 => k3 ad Rf Cf nc σ2 H1 locs1 _ _ g1 hRf hCf rfl rfl g2 (by omega) (by omega))
      · refine lv_tableIn (off := 674) (tgt := 706) hx hb d_sw n1 n2 (by rw [hk]; rfl) (by decide) ?_
        exact lw_case C0 hbA hL hn6 hRf hCf hW hi (by omega) hl oc_period oz1_period oz2_period ol1_period ol2_period (by rw [aS2]; exact ag_period Rf Cf nc hI _ _ (i32in _) (i32in _)) hcc (fun σ2 H1 locs1 g1 g2 => k3 ad Rf Cf nc σ2 H1 locs1 _ _ g1 hRf hCf rfl rfl g2 (by omega) (by omega))
      · refine lv_tableIn (off := 707) (tgt := 739) hx hb d_sw n1 n2 (by rw [hk]; rfl) (by decide) ?_
        exact lw_case C0 hbA hL hn6 hRf hCf hW hi (by omega) hl oc_steps oz1_steps oz2_steps ol1_steps ol2_steps (by rw [aS2]; exact ag_steps Rf Cf nc hI _ _ (i32in _) (i32in _)) hcc (fun σ2 H1 locs1 g1 g2 => k3 ad Rf Cf nc σ2 H1 locs1 _ _ g1 hRf hCf rfl rfl g2 (by omega) (by omega))
      · refine lv_tableIn (off := 740) (tgt := 772) hx hb d_sw n1 n2 (by rw [hk]; rfl) (by decide) ?_
        exact lw_case C0 hbA hL hn6 hRf hCf hW hi (by omega) hl oc_alike oz1_alike oz2_alike ol1_alike ol2_alike (by rw [aS3]; exact ag_alike Rf Cf nc hI _ _ _ (i32in _) (i32in _) (i32in _)) hcc (fun σ2 H1 locs1 g1 g2 => k3 ad Rf Cf nc σ2 H1 locs1 _ _ g1 hRf hCf rfl rfl g2 (by omega) (by omega))
      · refine lv_tableIn (off := 783) (tgt := 815) hx hb d_sw n1 n2 (by rw [hk]; rfl) (by decide) ?_
        exact lw_case C0 hbA hL hn6 hRf hCf hW hi (by omega) hl oc_wish oz1_wish oz2_wish ol1_wish ol2_wish (by rw [aS2]; exact ag_wish Rf Cf nc hI _ _ (i32in _) (i32in _)) hcc (fun σ2 H1 locs1 g1 g2 => k3 ad Rf Cf nc σ2 H1 locs1 _ _ g1 hRf hCf rfl rfl g2 (by omega) (by omega))
      · refine lv_tableIn (off := 816) (tgt := 848) hx hb d_sw n1 n2 (by rw [hk]; rfl) (by decide) ?_
        exact lw_case C0 hbA hL hn6 hRf hCf hW hi (by omega) hl oc_dark oz1_dark oz2_dark ol1_dark ol2_dark (by rw [aS2]; exact ag_dark Rf Cf nc hI _ _ (i32in _) (i32in _)) hcc (fun σ2 H1 locs1 g1 g2 => k3 ad Rf Cf nc σ2 H1 locs1 _ _ g1 hRf hCf rfl rfl g2 (by omega) (by omega))
      · refine lv_tableIn (off := 849) (tgt := 881) hx hb d_sw n1 n2 (by rw [hk]; rfl) (by decide) ?_
        exact lw_case C0 hbA hL hn6 hRf hCf hW hi (by omega) hl oc_way oz1_way oz2_way ol1_way ol2_way (by rw [aS2]; exact ag_way Rf Cf nc hI _ _ (i32in _) (i32in _)) hcc (fun σ2 H1 locs1 g1 g2 => k3 ad Rf Cf nc σ2 H1 locs1 _ _ g1 hRf hCf rfl rfl g2 (by omega) (by omega))
      · refine lv_tableIn (off := 882) (tgt := 914) hx hb d_sw n1 n2 (by rw [hk]; rfl) (by decide) ?_
        exact lw_case C0 hbA hL hn6 hRf hCf hW hi (by omega) hl oc_nearly oz1_nearly oz2_nearly ol1_nearly ol2_nearly (by rw [aS2]; exact ag_nearly Rf Cf nc hI _ _ (i32in _) (i32in _)) hcc (fun σ2 H1 locs1 g1 g2 => k3 ad Rf Cf nc σ2 H1 locs1 _ _ g1 hRf hCf rfl rfl g2 (by omega) (by omega))
      · refine lv_tableIn (off := 915) (tgt := 947) hx hb d_sw n1 n2 (by rw [hk]; rfl) (by decide) ?_
        exact lw_case C0 hbA hL hn6 hRf hCf hW hi (by omega) hl oc_told oz1_told oz2_told ol1_told ol2_told (by rw [aS2]; exact ag_told Rf Cf nc hI _ _ (i32in _) (i32in _)) hcc (fun σ2 H1 locs1 g1 g2 => k3 ad Rf Cf nc σ2 H1 locs1 _ _ g1 hRf hCf rfl rfl g2 (by omega) (by omega))
      · refine lv_tableIn (off := 948) (tgt := 980) hx hb d_sw n1 n2 (by rw [hk]; rfl) (by decide) ?_
        exact lw_case C0 hbA hL hn6 hRf hCf hW hi (by omega) hl oc_count oz1_count oz2_count ol1_count ol2_count (by rw [aS1]; exact ag_count Rf Cf nc hI _ (i32in _)) hcc (fun σ2 H1 locs1 g1 g2 => k3 ad Rf Cf nc σ2 H1 locs1 _ _ g1 hRf hCf rfl rfl g2 (by omega) (by omega))
end LP
