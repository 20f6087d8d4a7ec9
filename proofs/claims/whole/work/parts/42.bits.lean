/-! bits -/
theorem i32n (a : Nat) (h : a < 2147483648) : (Int32.ofInt (a : Int)).toBitVec.toNat = a := by
  show (BitVec.ofInt 32 (a : Int)).toNat = a
  rw [BitVec.toNat_ofInt]
  omega
theorem i32t {x : Int32} {n : Nat} (h : x.toBitVec.toNat = n) (hn : n < 2147483648) : x.toInt = n := by
  show x.toBitVec.toInt = n
  rw [BitVec.toInt_eq_toNat_of_lt (by omega), h]
theorem i32_and (a b : Nat) (ha : a < 2147483648) (hb : b < 2147483648) : (Int32.ofInt (a : Int) &&& Int32.ofInt (b : Int)).toInt = ((a &&& b : Nat) : Int) := by
  apply i32t
  · rw [Int32.toBitVec_and, BitVec.toNat_and, i32n a ha, i32n b hb]
  · exact Nat.lt_of_le_of_lt Nat.and_le_left ha
theorem i32_or (a b : Nat) (ha : a < 65536) (hb : b < 65536) : (Int32.ofInt (a : Int) ||| Int32.ofInt (b : Int)).toInt = ((a ||| b : Nat) : Int) := by
  apply i32t
  · rw [Int32.toBitVec_or, BitVec.toNat_or, i32n a (by omega), i32n b (by omega)]
  · have := Nat.or_lt_two_pow (n := 16) (x := a) (y := b) ha hb
    omega
theorem i32_xor (a b : Nat) (ha : a < 65536) (hb : b < 65536) : (Int32.ofInt (a : Int) ^^^ Int32.ofInt (b : Int)).toInt = ((a ^^^ b : Nat) : Int) := by
  apply i32t
  · rw [Int32.toBitVec_xor, BitVec.toNat_xor, i32n a (by omega), i32n b (by omega)]
  · have := Nat.xor_lt_two_pow (n := 16) (x := a) (y := b) ha hb
    omega
/-- a without the bits of s -/
def wo (a s : Nat) : Nat := a &&& (65535 ^^^ s)
theorem i32_wo (a s : Nat) (ha : a < 65536) (hs : s < 65536) : (Int32.ofInt (a : Int) &&& Int32.ofInt ((Int32.ofInt (s : Int) ^^^ Int32.ofInt (-1)).toInt)).toInt = ((wo a s : Nat) : Int) := by
  apply i32t
  · rw [Int32.ofInt_toInt, Int32.toBitVec_and, Int32.toBitVec_xor]
    apply Nat.eq_of_testBit_eq
    intro i
    have e : (Int32.ofInt (-1)).toBitVec = BitVec.allOnes 32 := by decide
    rw [BitVec.toNat_and, BitVec.toNat_xor, e, i32n a (by omega), i32n s (by omega), BitVec.toNat_allOnes]
    unfold wo
    rw [Nat.testBit_and, Nat.testBit_and, Nat.testBit_xor, Nat.testBit_xor]
    by_cases hi : i < 16
    · have e1 : (2 ^ 32 - 1).testBit i = true := by rw [Nat.testBit_two_pow_sub_one]; simp; omega
      have e2 : (65535).testBit i = true := by rw [show 65535 = 2 ^ 16 - 1 from rfl, Nat.testBit_two_pow_sub_one]; simp; omega
      rw [e1, e2, Bool.xor_comm]
    · have e3 : a.testBit i = false := Nat.testBit_lt_two_pow (Nat.lt_of_lt_of_le ha (show 65536 ≤ 2 ^ i from by rw [show 65536 = 2 ^ 16 from rfl]; exact Nat.pow_le_pow_right (by omega) (by omega)))
      rw [e3]
      simp
  · have : wo a s ≤ a := Nat.and_le_left
    omega
theorem i32_shl1 : ∀ i : Nat, i < 16 → (Int32.ofInt 1 <<< (Int32.ofInt (i : Int) &&& 31)).toInt = ((2 ^ i : Nat) : Int) := by decide
theorem i32_shl0 : ∀ i : Nat, i < 16 → (Int32.ofInt 0 <<< (Int32.ofInt (i : Int) &&& 31)).toInt = 0 := by decide
theorem i32_shr (a i : Nat) (ha : a < 65536) (hi : i < 16) : (Int32.ofInt (a : Int) >>> (Int32.ofInt (i : Int) &&& 31)).toInt = ((a / 2 ^ i : Nat) : Int) := by
  have e : ∀ i : Nat, i < 16 → (Int32.ofInt (i : Int) &&& 31).toBitVec.smod 32 = BitVec.ofNat 32 i := by decide
  show (BitVec.sshiftRight' (Int32.ofInt (a : Int)).toBitVec ((Int32.ofInt (i : Int) &&& 31).toBitVec.smod 32)).toInt = _
  rw [e i hi]
  have hlt : a / 2 ^ i ≤ a := Nat.div_le_self _ _
  have hm : (Int32.ofInt (a : Int)).toBitVec.msb = false := by
    rw [BitVec.msb_eq_decide, i32n a (by omega)]
    simp; omega
  have ht : (BitVec.ofNat 32 i).toNat = i := by rw [BitVec.toNat_ofNat]; omega
  unfold BitVec.sshiftRight'
  rw [ht]
  rw [BitVec.toInt_eq_toNat_of_lt, BitVec.sshiftRight_eq_of_msb_false hm, BitVec.toNat_ushiftRight, i32n a (by omega), Nat.shiftRight_eq_div_pow]
  rw [BitVec.sshiftRight_eq_of_msb_false hm, BitVec.toNat_ushiftRight, i32n a (by omega), Nat.shiftRight_eq_div_pow]
  omega
theorem wo_bit (a s j : Nat) (ha : a < 65536) : (wo a s).testBit j = (a.testBit j && !s.testBit j) := by
  unfold wo
  rw [Nat.testBit_and, Nat.testBit_xor]
  by_cases hj : j < 16
  · have e2 : (65535).testBit j = true := by rw [show 65535 = 2 ^ 16 - 1 from rfl, Nat.testBit_two_pow_sub_one]; simp; omega
    rw [e2]
    simp
  · have e3 : a.testBit j = false := Nat.testBit_lt_two_pow (Nat.lt_of_lt_of_le ha (show 65536 ≤ 2 ^ j from by rw [show 65536 = 2 ^ 16 from rfl]; exact Nat.pow_le_pow_right (by omega) (by omega)))
    rw [e3]
    simp
theorem pow_lt16 (i : Nat) (hi : i < 16) : 2 ^ i < 65536 := by
  have : 2 ^ i ≤ 2 ^ 15 := Nat.pow_le_pow_right (by omega) (by omega)
  omega
theorem ix_inj {R C k j : Nat} (hk : isC R C k) (hj : isC R C j) (h : ix C k = ix C j) : k = j := by rw [← ki_ix hk, h, ki_ix hj]
theorem sp_isWished (Rf Cf : Nat → Nat) (nc : Nat) (σ : fx_M) (k : Int) (wr wc : Nat) (hk : fx_in k) (h1 : wr ≤ 4) (h2 : wc ≤ 4) (m1 : σ 20 0 26 = wr) (m2 : σ 20 0 27 = wc) : fx_Ca (fx_S Rf Cf nc) 114 [.inr (some (20, 0)), .inl k] σ = some (some (.inl (if 0 ≤ k ∧ k / 12 < wr ∧ k % 12 < wc then 1 else 0)), σ) := by
  rw [entX7_isWished]
  by_cases q : 0 ≤ k
  · simp (disch := omega) only [eX7_isWished_0, eX7_isWished_1, eX7_isWished_4, eX7_isWished_5, eX7_isWished_7, eX7_isWished_8, eX7_isWished_9, eX7_isWished_12, eX7_isWished_15, eX7_isWished_16, eX7_isWished_18, eX7_isWished_19, eX7_isWished_20, eX7_isWished_23, eX7_isWished_26, eX7_isWished_27, eX7_isWished_30, eX7_isWished_31, fx_bd_some, Option.toList_some, Option.toList_none, List.nil_append, List.cons_append, fx_uo, fx_ui, Int.toNat_natCast, ↓reduceIte, Int.reduceEq, Int.reduceLT, Int.reduceLE, Int.reduceNeg, m1, m2]
    grind
  · simp (disch := omega) only [eX7_isWished_0, eX7_isWished_1, eX7_isWished_5, eX7_isWished_7, eX7_isWished_8, eX7_isWished_9, eX7_isWished_12, eX7_isWished_15, eX7_isWished_16, eX7_isWished_18, eX7_isWished_19, eX7_isWished_20, eX7_isWished_23, eX7_isWished_26, eX7_isWished_27, eX7_isWished_30, eX7_isWished_31, fx_bd_some, Option.toList_some, Option.toList_none, List.nil_append, List.cons_append, fx_uo, fx_ui, Int.toNat_natCast, ↓reduceIte, Int.reduceEq, Int.reduceLT, Int.reduceLE, Int.reduceNeg, m1, m2]
    repeat (first | rw [if_pos (by omega)] | rw [if_neg (by omega)])
theorem ag_dark (Rf Cf : Nat → Nat) (nc : Nat) {σ : fx_M} (h : Inv Rf Cf nc σ) (k is : Int) (hk : fx_in k) (his : fx_in is) : Ag Rf Cf nc 59 115 [.inl k, .inl is] σ := by
  obtain ⟨h1, h2, h3, h4, h5, h6⟩ := id h
  obtain ⟨wr, wc, m, w1, ⟨w2, w3, w4, w5, w6⟩, w7, w8, w9⟩ := id h3
  have e1 := sp_indexOf Rf Cf nc σ k wr wc hk (by omega) (by omega)
  have e2 := fun (τ : fx_M) (a : τ 20 0 26 = wr) (b : τ 20 0 27 = wc) => sp_isWished Rf Cf nc τ k wr wc hk (by omega) (by omega) a b
  by_cases q : 0 ≤ k ∧ k / 12 < wr ∧ k % 12 < wc
  · rw [if_pos q] at e1
    simp only [if_pos q] at e2
    obtain ⟨j, rfl⟩ : ∃ j : Nat, k = j := ⟨k.toNat, by omega⟩
    have hjc : isC wr wc j := ⟨by omega, by omega⟩
    have hix := ix_lt hjc
    have hw16 : wr * wc ≤ 16 := Nat.mul_le_mul (show wr ≤ 4 by omega) (show wc ≤ 4 by omega)
    rw [Int.toNat_natCast] at e1
    by_cases qi : 0 ≤ is ∧ is ≤ 1
    · obtain ⟨t, ht, htl⟩ : ∃ t : Bool, is = (if t then 1 else 0) ∧ True := by
        rcases (show is = 0 ∨ is = 1 by omega) with rfl | rfl
        · exact ⟨false, rfl, trivial⟩
        · exact ⟨true, rfl, trivial⟩
      have hi16 : ix wc j < 16 := by omega
      have hp := pow_lt16 (ix wc j) hi16
      obtain ⟨m', hm'⟩ : ∃ m' : Nat, m' = (wo m (2 ^ ix wc j) ||| (if t then 2 ^ ix wc j else 0)) := ⟨_, rfl⟩
      have hwo : wo m (2 ^ ix wc j) < 65536 := by
        have : wo m (2 ^ ix wc j) ≤ m := Nat.and_le_left
        omega
      have htp : (if t then 2 ^ ix wc j else 0) < 65536 := by split <;> omega
      have hm16 : m' < 65536 := by rw [hm']; exact Nat.or_lt_two_pow (n := 16) hwo htp
      have hbit : ∀ i, m'.testBit i = if i = ix wc j then t else m.testBit i := fun i => by
        rw [hm', Nat.testBit_or, wo_bit _ _ _ w7, Nat.testBit_two_pow]
        by_cases hi : i = ix wc j
        · subst hi
          cases t <;> simp
        · have : ¬ ix wc j = i := fun q => hi q.symm
          cases t <;> simp [this, hi]
      have hwas : (Int32.ofInt (((m / 2 ^ ix wc j : Nat) : Int)) &&& Int32.ofInt 1).toInt = if m.testBit (ix wc j) = true then 1 else 0 := by
        have := i32_and (m / 2 ^ ix wc j) 1 (by have := Nat.div_le_self m (2 ^ ix wc j); omega) (by omega)
        rw [ic1] at this
        rw [this, Nat.and_one_is_mod, Nat.testBit_eq_decide_div_mod_eq]
        by_cases hx : m / 2 ^ ix wc j % 2 = 1
        · simp [hx]
        · have : m / 2 ^ ix wc j % 2 = 0 := by omega
          simp [this]
      have hnew : (Int32.ofInt (((wo m (2 ^ ix wc j) : Nat)) : Int) ||| Int32.ofInt (((if t then 2 ^ ix wc j else 0 : Nat)) : Int)).toInt = (m' : Int) := by rw [i32_or _ _ hwo htp, hm']
      obtain ⟨τ, hτ⟩ : ∃ τ, τ = fx_up σ 6 0 2 m' := ⟨_, rfl⟩
      obtain ⟨ρ, hρ⟩ : ∃ ρ, ρ = fx_up τ 58 0 j (if t then 1 else 0) := ⟨_, rfl⟩
      have fρ : ∀ o k x, ¬ (o = 6 ∧ k = 0 ∧ x = 2) → ¬ (o = 58 ∧ k = 0 ∧ x = j) → ρ o k x = σ o k x := fun o k x a1 a2 => by
        rw [hρ, hτ]; unfold fx_up
        rw [if_neg (by omega), if_neg (by omega)]
      have hd := w8 j (by omega)
      have hdτ : τ 58 0 j = if m.testBit (ix wc j) = true then 1 else 0 := by
        rw [hτ, fx_uo (by omega), hd]
        by_cases hb : m.testBit (ix wc j) = true
        · rw [if_pos ⟨hjc, hb⟩, if_pos hb]
        · rw [if_neg (fun q => hb q.2), if_neg hb]
      refine ⟨if m.testBit (ix wc j) = true then 1 else 0, τ, ρ, ?_, ?_, ?_, fun g hg => ?_, ?_, ?_, h5, h6.of (fun c o i _ _ h3 => by unfold inB at h3; exact fρ _ _ _ (by omega) (by omega))⟩
      · have s1 := i32_shr m (ix wc j) w7 hi16
        have s2 := i32_shl1 (ix wc j) hi16
        have s3 := i32_shl0 (ix wc j) hi16
        have s4 := i32_wo m (2 ^ ix wc j) w7 hp
        rw [entX6_dark]
        cases t with
        | true =>
          rw [if_pos rfl] at ht hnew
          subst ht
          simp (disch := omega) only [eX6_dark_0, eX6_dark_1, eX6_dark_2, eX6_dark_5, eX6_dark_8, eX6_dark_9, eX6_dark_12, eX6_dark_15, eX6_dark_18, eX6_dark_19, eX6_dark_20, eX6_dark_21, eX6_dark_24, eX6_dark_25, eX6_dark_28, eX6_dark_29, eX6_dark_30, eX6_dark_33, eX6_dark_34, eX6_dark_35, eX6_dark_36, eX6_dark_39, eX6_dark_42, eX6_dark_43, eX6_dark_44, eX6_dark_45, eX6_dark_46, eX6_dark_48, eX6_dark_49, eX6_dark_52, eX6_dark_53, eX6_dark_56, eX6_dark_59, eX6_dark_60, eX6_dark_61, eX6_dark_62, eX6_dark_63, eX6_dark_64, eX6_dark_65, eX6_dark_66, eX6_dark_67, eX6_dark_68, eX6_dark_69, eX6_dark_72, eX6_dark_74, fx_bd_some, Option.toList_some, Option.toList_none, List.nil_append, List.cons_append, fx_uo, fx_ui, Int.toNat_natCast, ↓reduceIte, Int.reduceEq, Int.reduceLT, Int.reduceLE, Int.reduceNeg, w2, w3, w6, e1, s1, s2, s4, hwas, hnew]
          try repeat (first | rw [if_pos (by omega)] | rw [if_neg (by omega)])
          rw [hτ]
        | false =>
          rw [if_neg (by simp)] at ht hnew
          rw [ic0] at hnew
          subst ht
          simp (disch := omega) only [eX6_dark_0, eX6_dark_1, eX6_dark_2, eX6_dark_5, eX6_dark_8, eX6_dark_9, eX6_dark_12, eX6_dark_15, eX6_dark_18, eX6_dark_19, eX6_dark_20, eX6_dark_21, eX6_dark_24, eX6_dark_25, eX6_dark_28, eX6_dark_29, eX6_dark_30, eX6_dark_33, eX6_dark_34, eX6_dark_35, eX6_dark_36, eX6_dark_39, eX6_dark_42, eX6_dark_43, eX6_dark_44, eX6_dark_45, eX6_dark_46, eX6_dark_48, eX6_dark_49, eX6_dark_52, eX6_dark_53, eX6_dark_56, eX6_dark_59, eX6_dark_60, eX6_dark_61, eX6_dark_62, eX6_dark_63, eX6_dark_64, eX6_dark_65, eX6_dark_66, eX6_dark_67, eX6_dark_68, eX6_dark_69, eX6_dark_72, eX6_dark_74, fx_bd_some, Option.toList_some, Option.toList_none, List.nil_append, List.cons_append, fx_uo, fx_ui, Int.toNat_natCast, ↓reduceIte, Int.reduceEq, Int.reduceLT, Int.reduceLE, Int.reduceNeg, w2, w3, w6, e1, s1, s2, s3, s4, hwas, hnew]
          try repeat (first | rw [if_pos (by omega)] | rw [if_neg (by omega)])
          rw [hτ]
      · have e3 := e2 τ (by rw [hτ, fx_uo (by omega)]; exact w4) (by rw [hτ, fx_uo (by omega)]; exact w5)
        have p1 : (0 ≤ is ∧ is ≤ 1) = True := eq_true qi
        rw [entX7_dark]
        cases t with
        | true =>
          rw [if_pos rfl] at ht hρ
          subst ht
          simp (disch := omega) only [eX7_dark_0, eX7_dark_1, eX7_dark_2, eX7_dark_5, eX7_dark_8, eX7_dark_9, eX7_dark_10, eX7_dark_11, eX7_dark_14, eX7_dark_17, eX7_dark_18, eX7_dark_19, eX7_dark_20, eX7_dark_23, eX7_dark_24, eX7_dark_25, eX7_dark_26, eX7_dark_27, eX7_dark_30, eX7_dark_31, eX7_dark_32, eX7_dark_33, eX7_dark_36, eX7_dark_37, eX7_dark_40, eX7_dark_41, eX7_dark_42, eX7_dark_43, eX7_dark_46, eX7_dark_47, eX7_dark_50, eX7_dark_51, fx_bd_some, Option.toList_some, Option.toList_none, List.nil_append, List.cons_append, fx_uo, fx_ui, Int.toNat_natCast, ↓reduceIte, Int.reduceEq, Int.reduceLT, Int.reduceLE, Int.reduceNeg, e3, sp_within, Int.reduceLE, and_self, hdτ]
          rw [hρ]
          cases m.testBit (ix wc j) <;> simp
        | false =>
          rw [if_neg (by simp)] at ht hρ
          subst ht
          simp (disch := omega) only [eX7_dark_0, eX7_dark_1, eX7_dark_2, eX7_dark_5, eX7_dark_8, eX7_dark_9, eX7_dark_10, eX7_dark_11, eX7_dark_14, eX7_dark_17, eX7_dark_18, eX7_dark_19, eX7_dark_20, eX7_dark_23, eX7_dark_24, eX7_dark_25, eX7_dark_26, eX7_dark_27, eX7_dark_30, eX7_dark_31, eX7_dark_32, eX7_dark_33, eX7_dark_36, eX7_dark_37, eX7_dark_40, eX7_dark_41, eX7_dark_42, eX7_dark_43, eX7_dark_46, eX7_dark_47, eX7_dark_50, eX7_dark_51, fx_bd_some, Option.toList_some, Option.toList_none, List.nil_append, List.cons_append, fx_uo, fx_ui, Int.toNat_natCast, ↓reduceIte, Int.reduceEq, Int.reduceLT, Int.reduceLE, Int.reduceNeg, e3, sp_within, Int.reduceLE, and_self, hdτ]
          rw [hρ]
          cases m.testBit (ix wc j) <;> simp
      · unfold I1 at *
        rw [fρ _ _ _ (by omega) (by omega), fρ _ _ _ (by omega) (by omega), fρ _ _ _ (by omega) (by omega), fρ _ _ _ (by omega) (by omega), fρ _ _ _ (by omega) (by omega), fρ _ _ _ (by omega) (by omega), fρ _ _ _ (by omega) (by omega), fρ _ _ _ (by omega) (by omega)]
        exact h1
      · obtain ⟨R', C', br, bc, f, b, so, pr, pc, ph, sh, to, dp, k1, k2, k3⟩ := h2 g hg
        exact ⟨R', C', br, bc, f, b, so, pr, pc, ph, sh, to, dp, k1, k2.of (fun o i q1 q2 => fρ _ _ _ (by omega) (by omega)), k3.of (fun o i q1 => by unfold inB at q1; exact fρ _ _ _ (by omega) (by omega))⟩
      · refine ⟨wr, wc, m', w1, ⟨by rw [fρ _ _ _ (by omega) (by omega)]; exact w2, by rw [fρ _ _ _ (by omega) (by omega)]; exact w3, by rw [fρ _ _ _ (by omega) (by omega)]; exact w4, by rw [fρ _ _ _ (by omega) (by omega)]; exact w5, by rw [hρ, fx_uo (by omega), hτ, fx_ui, if_pos rfl]⟩, hm16, fun k' hk' => ?_, fun i hi => ?_⟩
        · by_cases hkj : k' = j
          · subst hkj
            rw [hρ, fx_ui, if_pos rfl, hbit, if_pos rfl]
            cases t <;> simp [hjc]
          · rw [fρ _ _ _ (by omega) (by omega), w8 k' hk', hbit]
            by_cases hkc : isC wr wc k'
            · have : ¬ ix wc k' = ix wc j := fun hx => hkj (ix_inj hkc hjc hx)
              rw [if_neg this]
            · simp [hkc]
        · rw [hbit, if_neg (by omega)]
          exact w9 i hi
      · unfold I3 at *
        rw [fρ 20 _ _ (by omega) (by omega), fρ 20 _ _ (by omega) (by omega), fρ 20 _ _ (by omega) (by omega)]
        refine ⟨h4.1, h4.2.1, h4.2.2.1, fun i j hi hj => ?_⟩
        rw [fρ 11 _ _ (by omega) (by omega), fρ 64 _ _ (by omega) (by omega), fρ 62 _ _ (by omega) (by omega)]
        exact h4.2.2.2 i j hi hj
    · refine Ag.same h (-1) ?_ ?_
      · rw [entX6_dark]
        by_cases q2 : is < 0
        · simp (disch := omega) only [eX6_dark_0, eX6_dark_1, eX6_dark_2, eX6_dark_5, eX6_dark_8, eX6_dark_9, eX6_dark_12, eX6_dark_15, eX6_dark_18, eX6_dark_19, eX6_dark_20, eX6_dark_21, eX6_dark_24, eX6_dark_25, eX6_dark_28, eX6_dark_29, eX6_dark_30, eX6_dark_33, eX6_dark_34, eX6_dark_36, eX6_dark_39, eX6_dark_42, eX6_dark_43, eX6_dark_44, eX6_dark_45, eX6_dark_46, eX6_dark_48, eX6_dark_49, eX6_dark_52, eX6_dark_53, eX6_dark_56, eX6_dark_59, eX6_dark_60, eX6_dark_61, eX6_dark_62, eX6_dark_63, eX6_dark_64, eX6_dark_65, eX6_dark_66, eX6_dark_67, eX6_dark_68, eX6_dark_69, eX6_dark_72, eX6_dark_74, fx_bd_some, Option.toList_some, Option.toList_none, List.nil_append, List.cons_append, fx_uo, fx_ui, Int.toNat_natCast, ↓reduceIte, Int.reduceEq, Int.reduceLT, Int.reduceLE, Int.reduceNeg, w2, w3, e1]
          repeat (first | rw [if_pos (by omega)] | rw [if_neg (by omega)])
        · simp (disch := omega) only [eX6_dark_0, eX6_dark_1, eX6_dark_2, eX6_dark_5, eX6_dark_8, eX6_dark_9, eX6_dark_12, eX6_dark_15, eX6_dark_18, eX6_dark_19, eX6_dark_20, eX6_dark_21, eX6_dark_24, eX6_dark_25, eX6_dark_28, eX6_dark_29, eX6_dark_30, eX6_dark_33, eX6_dark_34, eX6_dark_36, eX6_dark_39, eX6_dark_42, eX6_dark_43, eX6_dark_44, eX6_dark_45, eX6_dark_46, eX6_dark_48, eX6_dark_49, eX6_dark_52, eX6_dark_53, eX6_dark_56, eX6_dark_59, eX6_dark_60, eX6_dark_61, eX6_dark_62, eX6_dark_63, eX6_dark_64, eX6_dark_65, eX6_dark_66, eX6_dark_67, eX6_dark_68, eX6_dark_69, eX6_dark_72, eX6_dark_74, fx_bd_some, Option.toList_some, Option.toList_none, List.nil_append, List.cons_append, fx_uo, fx_ui, Int.toNat_natCast, ↓reduceIte, Int.reduceEq, Int.reduceLT, Int.reduceLE, Int.reduceNeg, w2, w3, e1]
          repeat (first | rw [if_pos (by omega)] | rw [if_neg (by omega)])
      · have e3 := e2 σ w4 w5
        rw [entX7_dark]
        simp (disch := omega) only [eX7_dark_0, eX7_dark_1, eX7_dark_2, eX7_dark_5, eX7_dark_8, eX7_dark_9, eX7_dark_10, eX7_dark_11, eX7_dark_14, eX7_dark_17, eX7_dark_18, eX7_dark_20, eX7_dark_23, eX7_dark_24, eX7_dark_25, eX7_dark_26, eX7_dark_27, eX7_dark_30, eX7_dark_31, eX7_dark_32, eX7_dark_33, eX7_dark_36, eX7_dark_37, eX7_dark_40, eX7_dark_41, eX7_dark_42, eX7_dark_43, eX7_dark_46, eX7_dark_47, eX7_dark_50, eX7_dark_51, fx_bd_some, Option.toList_some, Option.toList_none, List.nil_append, List.cons_append, fx_uo, fx_ui, Int.toNat_natCast, ↓reduceIte, Int.reduceEq, Int.reduceLT, Int.reduceLE, Int.reduceNeg, e3, sp_within, eq_false qi]
  · rw [if_neg q] at e1
    simp only [if_neg q] at e2
    have e3 := e2 σ w4 w5
    refine Ag.same h (-1) ?_ ?_
    · rw [entX6_dark]
      simp (disch := omega) only [eX6_dark_0, eX6_dark_1, eX6_dark_2, eX6_dark_5, eX6_dark_8, eX6_dark_9, eX6_dark_12, eX6_dark_15, eX6_dark_18, eX6_dark_19, eX6_dark_20, eX6_dark_21, eX6_dark_24, eX6_dark_25, eX6_dark_28, eX6_dark_29, eX6_dark_30, eX6_dark_33, eX6_dark_34, eX6_dark_36, eX6_dark_39, eX6_dark_42, eX6_dark_43, eX6_dark_44, eX6_dark_45, eX6_dark_46, eX6_dark_48, eX6_dark_49, eX6_dark_52, eX6_dark_53, eX6_dark_56, eX6_dark_59, eX6_dark_60, eX6_dark_61, eX6_dark_62, eX6_dark_63, eX6_dark_64, eX6_dark_65, eX6_dark_66, eX6_dark_67, eX6_dark_68, eX6_dark_69, eX6_dark_72, eX6_dark_74, fx_bd_some, Option.toList_some, Option.toList_none, List.nil_append, List.cons_append, fx_uo, fx_ui, Int.toNat_natCast, ↓reduceIte, Int.reduceEq, Int.reduceLT, Int.reduceLE, Int.reduceNeg, w2, w3, e1]
    · rw [entX7_dark]
      simp (disch := omega) only [eX7_dark_0, eX7_dark_1, eX7_dark_2, eX7_dark_5, eX7_dark_8, eX7_dark_9, eX7_dark_10, eX7_dark_11, eX7_dark_14, eX7_dark_17, eX7_dark_18, eX7_dark_20, eX7_dark_23, eX7_dark_24, eX7_dark_25, eX7_dark_26, eX7_dark_27, eX7_dark_30, eX7_dark_31, eX7_dark_32, eX7_dark_33, eX7_dark_36, eX7_dark_37, eX7_dark_40, eX7_dark_41, eX7_dark_42, eX7_dark_43, eX7_dark_46, eX7_dark_47, eX7_dark_50, eX7_dark_51, fx_bd_some, Option.toList_some, Option.toList_none, List.nil_append, List.cons_append, fx_uo, fx_ui, Int.toNat_natCast, ↓reduceIte, Int.reduceEq, Int.reduceLT, Int.reduceLE, Int.reduceNeg, e3]
