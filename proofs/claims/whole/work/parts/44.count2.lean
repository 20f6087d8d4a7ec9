/-! counting bits: the JDK's method, and count -/
theorem sp_bitCount (Rf Cf : Nat → Nat) (nc : Nat) (σ : fx_M) (m : Nat) (hm : m < 65536) : fx_Ca (fx_S Rf Cf nc) 130 [.inl (m : Int)] σ = some (some (.inl (bcN m : Int)), σ) := by
  obtain ⟨b1, hb1⟩ : ∃ x : Nat, x = (m / 2) &&& 1431655765 := ⟨_, rfl⟩
  have lb1 : b1 ≤ m / 2 := by rw [hb1]; exact Nat.and_le_left
  obtain ⟨a1, ha1⟩ : ∃ x : Nat, x = m - b1 := ⟨_, rfl⟩
  obtain ⟨c2, hc2⟩ : ∃ x : Nat, x = a1 &&& 858993459 := ⟨_, rfl⟩
  have lc2 : c2 ≤ a1 := by rw [hc2]; exact Nat.and_le_left
  obtain ⟨d2, hd2⟩ : ∃ x : Nat, x = (a1 / 4) &&& 858993459 := ⟨_, rfl⟩
  have ld2 : d2 ≤ a1 / 4 := by rw [hd2]; exact Nat.and_le_left
  obtain ⟨a2, ha2⟩ : ∃ x : Nat, x = c2 + d2 := ⟨_, rfl⟩
  obtain ⟨e3, he3⟩ : ∃ x : Nat, x = a2 + a2 / 16 := ⟨_, rfl⟩
  obtain ⟨a3, ha3⟩ : ∃ x : Nat, x = e3 &&& 252645135 := ⟨_, rfl⟩
  have la3 : a3 ≤ e3 := by rw [ha3]; exact Nat.and_le_left
  obtain ⟨a4, ha4⟩ : ∃ x : Nat, x = a3 + a3 / 256 := ⟨_, rfl⟩
  obtain ⟨a5, ha5⟩ : ∃ x : Nat, x = a4 + a4 / 65536 := ⟨_, rfl⟩
  have u1 : ((Int32.ofInt (m : Int)).toUInt32 >>> ((Int32.ofInt 1).toUInt32 &&& Int32.toUInt32 31)).toInt32.toInt = ((m / 2 : Nat) : Int) := i32_ushr m (by omega) 1 (by omega)
  have n1 : (Int32.ofInt ((m / 2 : Nat) : Int) &&& Int32.ofInt 1431655765).toInt = (b1 : Int) := by rw [hb1]; exact i32_and (m / 2) 1431655765 (by omega) (by omega)
  have s1 : (m : Int) - (b1 : Int) = (a1 : Int) := by omega
  have n2 : (Int32.ofInt (a1 : Int) &&& Int32.ofInt 858993459).toInt = (c2 : Int) := by rw [hc2]; exact i32_and a1 858993459 (by omega) (by omega)
  have u2 : ((Int32.ofInt (a1 : Int)).toUInt32 >>> ((Int32.ofInt 2).toUInt32 &&& Int32.toUInt32 31)).toInt32.toInt = ((a1 / 4 : Nat) : Int) := i32_ushr a1 (by omega) 2 (by omega)
  have n3 : (Int32.ofInt ((a1 / 4 : Nat) : Int) &&& Int32.ofInt 858993459).toInt = (d2 : Int) := by rw [hd2]; exact i32_and (a1 / 4) 858993459 (by omega) (by omega)
  have s2 : (c2 : Int) + (d2 : Int) = (a2 : Int) := by omega
  have u3 : ((Int32.ofInt (a2 : Int)).toUInt32 >>> ((Int32.ofInt 4).toUInt32 &&& Int32.toUInt32 31)).toInt32.toInt = ((a2 / 16 : Nat) : Int) := i32_ushr a2 (by omega) 4 (by omega)
  have s3 : (a2 : Int) + ((a2 / 16 : Nat) : Int) = (e3 : Int) := by omega
  have n4 : (Int32.ofInt (e3 : Int) &&& Int32.ofInt 252645135).toInt = (a3 : Int) := by rw [ha3]; exact i32_and e3 252645135 (by omega) (by omega)
  have u4 : ((Int32.ofInt (a3 : Int)).toUInt32 >>> ((Int32.ofInt 8).toUInt32 &&& Int32.toUInt32 31)).toInt32.toInt = ((a3 / 256 : Nat) : Int) := i32_ushr a3 (by omega) 8 (by omega)
  have s4 : (a3 : Int) + ((a3 / 256 : Nat) : Int) = (a4 : Int) := by omega
  have u5 : ((Int32.ofInt (a4 : Int)).toUInt32 >>> ((Int32.ofInt 16).toUInt32 &&& Int32.toUInt32 31)).toInt32.toInt = ((a4 / 65536 : Nat) : Int) := i32_ushr a4 (by omega) 16 (by omega)
  have s5 : (a4 : Int) + ((a4 / 65536 : Nat) : Int) = (a5 : Int) := by omega
  have n5 : (Int32.ofInt (a5 : Int) &&& Int32.ofInt 63).toInt = (bcN m : Int) := by
    have : bcN m = a5 &&& 63 := by
      unfold bcN
      simp only [← hb1, ← ha1, ← hc2, ← hd2, ← ha2, ← he3, ← ha3, ← ha4, ← ha5]
    rw [this]
    exact i32_and a5 63 (by omega) (by omega)
  rw [entJ6_bitCount_0f7a4]
  simp only [eJ6_bitCount_0f7a4_0, eJ6_bitCount_0f7a4_1, eJ6_bitCount_0f7a4_2, eJ6_bitCount_0f7a4_3, eJ6_bitCount_0f7a4_4, eJ6_bitCount_0f7a4_7, eJ6_bitCount_0f7a4_8, eJ6_bitCount_0f7a4_9, eJ6_bitCount_0f7a4_10, eJ6_bitCount_0f7a4_11, eJ6_bitCount_0f7a4_14, eJ6_bitCount_0f7a4_15, eJ6_bitCount_0f7a4_16, eJ6_bitCount_0f7a4_17, eJ6_bitCount_0f7a4_18, eJ6_bitCount_0f7a4_21, eJ6_bitCount_0f7a4_22, eJ6_bitCount_0f7a4_23, eJ6_bitCount_0f7a4_24, eJ6_bitCount_0f7a4_25, eJ6_bitCount_0f7a4_26, eJ6_bitCount_0f7a4_27, eJ6_bitCount_0f7a4_28, eJ6_bitCount_0f7a4_29, eJ6_bitCount_0f7a4_32, eJ6_bitCount_0f7a4_33, eJ6_bitCount_0f7a4_34, eJ6_bitCount_0f7a4_35, eJ6_bitCount_0f7a4_36, eJ6_bitCount_0f7a4_38, eJ6_bitCount_0f7a4_39, eJ6_bitCount_0f7a4_40, eJ6_bitCount_0f7a4_41, eJ6_bitCount_0f7a4_42, eJ6_bitCount_0f7a4_43, eJ6_bitCount_0f7a4_45, eJ6_bitCount_0f7a4_46, eJ6_bitCount_0f7a4_47, eJ6_bitCount_0f7a4_48, eJ6_bitCount_0f7a4_49, eJ6_bitCount_0f7a4_51, eJ6_bitCount_0f7a4_52, u1, n1, s1, n2, u2, n3, s2, u3, s3, n4, u4, s4, u5, s5, n5]
theorem tb_div (m i : Nat) : (if m.testBit i = true then 1 else 0) = m / 2 ^ i % 2 := by
  rw [Nat.testBit_eq_decide_div_mod_eq]
  by_cases h : m / 2 ^ i % 2 = 1
  · simp [h]
  · simp [h]; omega
theorem bcN_eq (m : Nat) (hm : m < 65536) : bcN m = cntP 16 (fun i => m.testBit i) := by
  have e := bc_dig (m / 4096) (m / 256 % 16) (m / 16 % 16) (m % 16) (by omega) (by omega) (by omega) (by omega)
  rw [show 4096 * (m / 4096) + 256 * (m / 256 % 16) + 16 * (m / 16 % 16) + m % 16 = m by omega] at e
  rw [e, (m5le _ (show m / 4096 < 16 by omega)).2.2.2, (m5le _ (show m / 256 % 16 < 16 by omega)).2.2.2, (m5le _ (show m / 16 % 16 < 16 by omega)).2.2.2, (m5le _ (show m % 16 < 16 by omega)).2.2.2]
  simp only [cntP, tb_div, Nat.reducePow]
  have a0 : m / 1 % 2 = m % 16 % 2 := by omega
  have a1 : m / 2 % 2 = m % 16 / 2 % 2 := by omega
  have a2 : m / 4 % 2 = m % 16 / 4 % 2 := by omega
  have a3 : m / 8 % 2 = m % 16 / 8 := by omega
  have b0 : m / 16 % 2 = m / 16 % 16 % 2 := by omega
  have b1 : m / 32 % 2 = m / 16 % 16 / 2 % 2 := by omega
  have b2 : m / 64 % 2 = m / 16 % 16 / 4 % 2 := by omega
  have b3 : m / 128 % 2 = m / 16 % 16 / 8 := by omega
  have c0 : m / 256 % 2 = m / 256 % 16 % 2 := by omega
  have c1 : m / 512 % 2 = m / 256 % 16 / 2 % 2 := by omega
  have c2 : m / 1024 % 2 = m / 256 % 16 / 4 % 2 := by omega
  have c3 : m / 2048 % 2 = m / 256 % 16 / 8 := by omega
  have d0 : m / 4096 % 2 = m / 4096 % 2 := rfl
  have d1 : m / 8192 % 2 = m / 4096 / 2 % 2 := by omega
  have d2 : m / 16384 % 2 = m / 4096 / 4 % 2 := by omega
  have d3 : m / 32768 % 2 = m / 4096 / 8 := by omega
  rw [a0, a1, a2, a3, b0, b1, b2, b3, c0, c1, c2, c3, d1, d2, d3, Nat.zero_add]
  generalize m % 16 % 2 = x0
  generalize m % 16 / 2 % 2 = x1
  generalize m % 16 / 4 % 2 = x2
  generalize m % 16 / 8 = x3
  generalize m / 16 % 16 % 2 = y0
  generalize m / 16 % 16 / 2 % 2 = y1
  generalize m / 16 % 16 / 4 % 2 = y2
  generalize m / 16 % 16 / 8 = y3
  generalize m / 256 % 16 % 2 = z0
  generalize m / 256 % 16 / 2 % 2 = z1
  generalize m / 256 % 16 / 4 % 2 = z2
  generalize m / 256 % 16 / 8 = z3
  generalize m / 4096 % 2 = v0
  generalize m / 4096 / 2 % 2 = v1
  generalize m / 4096 / 4 % 2 = v2
  generalize m / 4096 / 8 = v3
  clear e a0 a1 a2 a3 b0 b1 b2 b3 c0 c1 c2 c3 d0 d1 d2 d3 hm
  omega
/-- the bits of a wish are its dark cells -/
theorem bits_cells (wr wc m : Nat) (h1 : (wr = 0 ∧ wc = 0) ∨ ((1 ≤ wr ∧ wr ≤ 4) ∧ (1 ≤ wc ∧ wc ≤ 4))) (h2 : ∀ i, wr * wc ≤ i → m.testBit i = false) : cntP 16 (fun i => m.testBit i) = cntP 48 (fun k => decide (isC wr wc k ∧ m.testBit (ix wc k) = true)) := by
  rcases h1 with ⟨rfl, rfl⟩ | ⟨hr, hc⟩
  · rw [cntP_zero (fun k _ => h2 k (by omega)), cntP_zero (fun k _ => by simp [isC])]
  · have h16 : wr * wc ≤ 16 := Nat.mul_le_mul hr.2 hc.2
    rw [cntP_cut h16 (fun k hk _ => h2 k hk)]
    have e := cnt_cells (R := wr) (C := wc) (by omega) (by omega) (by omega) (fun k => m.testBit (ix wc k))
    rw [← cntP_cut (show 48 ≤ 144 by omega) (fun k hk _ => by
      have : ¬ isC wr wc k := fun q => by have := isC_lt q; omega
      simp [this])]
    rw [show (fun k => decide (isC wr wc k ∧ m.testBit (ix wc k) = true)) = (fun k => decide (isC wr wc k) && m.testBit (ix wc k)) from funext (fun k => by simp), ← e]
    exact cntP_congr (fun i _ => by rw [ix_ki (by omega) (by omega)])
def shF (Rf Cf : Nat → Nat) (σ : fx_M) (w : Int) (g : Nat) : Int := if w = 0 then 1 else if w = 1 then ((Rf g * Cf g : Nat) : Int) else if w = 2 then smZ 144 (fun k => σ 33 0 (144 * g + k)) else σ 41 0 g
theorem Inv.share {Rf Cf : Nat → Nat} {nc : Nat} {σ : fx_M} (h : Inv Rf Cf nc σ) {g : Nat} (hg : g < nc) (w : Int) (hw : 0 ≤ w ∧ w ≤ 3) : fx_Ca (fx_S Rf Cf nc) 19 [.inr (some (12, g)), .inl w] σ = some (some (.inl (shF Rf Cf σ w g)), σ) := by
  obtain ⟨R, C, br, bc, f, b, so, pr, pc, ph, sh, to, dp, k1, k2, k3⟩ := h.2.1 g hg
  obtain ⟨⟨b1, b2⟩, ⟨b3, b4⟩, -⟩ := id k1.1
  rw [sp_shareOf Rf Cf nc k2.1 b2 b3 b4 (k2.dc k1) w hw]
  have e1 : (fun k => if isC R C k then dp k else 0) = (fun k => if isC R C k then dp k else 0) := rfl
  have e2 : smZ 144 (fun k => if isC R C k then dp k else 0) = smZ 144 (fun k => σ 33 0 (144 * g + k)) := smZ_congr (fun k hk => (k3.2.2.2.2.2.2 k hk).symm)
  have e3 : σ 12 g 8 = σ 41 0 g := by rw [k2.2.2.2.1.2.2.1, k3.2.2.2.2.1]
  unfold shF
  rw [e2, e3, k2.1.1, k2.1.2]
theorem cc_lp (Rf Cf : Nat → Nat) (nc : Nat) {σ : fx_M} (h : Inv Rf Cf nc σ) (w : Int) (hw : 0 ≤ w ∧ w ≤ 3) : ∀ (d i : Nat) (s : Int) (u : Option fx_V), i + d = nc → s = smZ i (shF Rf Cf σ w) → fx_E (fx_S Rf Cf nc) 63 31 [some (.inr (some (0, 0))), some (.inl w), some (.inl s), some (.inl (i : Int)), u] [] σ = some (some (.inl (smZ nc (shF Rf Cf σ w))), σ) := by
  have hn := h.1.1
  have hw2 := h.1.2.1
  intro d
  induction d with
  | zero =>
    intro i s u hi hs
    obtain rfl : i = nc := by omega
    rw [eX6_count_31]
    simp (disch := omega) only [eX6_count_0, eX6_count_1, eX6_count_4, eX6_count_5, eX6_count_6, eX6_count_9, eX6_count_10, eX6_count_11, eX6_count_12, eX6_count_13, eX6_count_16, eX6_count_17, eX6_count_20, eX6_count_23, eX6_count_26, eX6_count_27, eX6_count_28, eX6_count_29, eX6_count_30, eX6_count_32, eX6_count_33, eX6_count_36, eX6_count_39, eX6_count_40, eX6_count_41, eX6_count_44, eX6_count_46, eX6_count_47, eX6_count_49_n, eX6_count_49_s, eX6_count_52, eX6_count_53, eX6_count_56, eX6_count_58, eX6_count_59, eX6_count_62, eX6_count_63, eX6_count_64, eX6_count_67, eX6_count_70, eX6_count_71, fx_bd_some, Option.toList_some, Option.toList_none, List.nil_append, List.cons_append, fx_uo, fx_ui, Int.toNat_natCast, ↓reduceIte, Int.reduceEq, Int.reduceLT, Int.reduceLE, Int.reduceNeg, hw2]
    rw [if_neg (by omega), hs]
  | succ d ih =>
    intro i s u hi hs
    have e1 := h.clY (show i < nc by omega)
    have e2 := h.share (show i < nc by omega) w hw
    rw [eX6_count_31]
    simp (disch := omega) only [eX6_count_0, eX6_count_1, eX6_count_4, eX6_count_5, eX6_count_6, eX6_count_9, eX6_count_10, eX6_count_11, eX6_count_12, eX6_count_13, eX6_count_16, eX6_count_17, eX6_count_20, eX6_count_23, eX6_count_26, eX6_count_27, eX6_count_28, eX6_count_29, eX6_count_30, eX6_count_32, eX6_count_33, eX6_count_36, eX6_count_39, eX6_count_40, eX6_count_41, eX6_count_44, eX6_count_46, eX6_count_47, eX6_count_49_n, eX6_count_49_s, eX6_count_52, eX6_count_53, eX6_count_56, eX6_count_58, eX6_count_59, eX6_count_62, eX6_count_63, eX6_count_64, eX6_count_67, eX6_count_70, eX6_count_71, fx_bd_some, Option.toList_some, Option.toList_none, List.nil_append, List.cons_append, fx_uo, fx_ui, Int.toNat_natCast, ↓reduceIte, Int.reduceEq, Int.reduceLT, Int.reduceLE, Int.reduceNeg, hw2, e1, e2]
    rw [if_pos (by omega), show (i : Int) + 1 = ((i + 1 : Nat) : Int) by omega]
    exact ih (i + 1) _ _ (by omega) (by rw [hs]; rfl)
theorem cm_in (Rf Cf : Nat → Nat) (nc : Nat) {σ : fx_M} (u1 u2 u4 : Option fx_V) (c : Nat) (hc : c < 6) : ∀ (d k : Nat) (s : Int), k + d = 144 → fx_E (fx_S Rf Cf nc) 129 52 [some (.inr (some (20, 0))), u1, u2, some (.inl s), u4, some (.inl (c : Int)), some (.inl (k : Int))] [] σ = fx_E (fx_S Rf Cf nc) 129 10 [some (.inr (some (20, 0))), u1, u2, some (.inl (s + smZ d (fun j => σ 33 0 (144 * c + (k + j))))), u4, some (.inl ((c + 1 : Nat) : Int)), some (.inl 144)] [] σ := by
  intro d
  induction d with
  | zero =>
    intro k s hk
    obtain rfl : k = 144 := by omega
    rw [eX7_count_52]
    simp (disch := omega) only [eX7_count_0, eX7_count_1, eX7_count_2, eX7_count_3, eX7_count_4, eX7_count_5, eX7_count_7, eX7_count_8, eX7_count_12, eX7_count_13, eX7_count_16, eX7_count_19, eX7_count_20, eX7_count_21, eX7_count_24, eX7_count_26, eX7_count_27, eX7_count_28, eX7_count_31, eX7_count_33, eX7_count_34, eX7_count_35, eX7_count_36, eX7_count_37, eX7_count_39, eX7_count_40, eX7_count_43, eX7_count_45, eX7_count_46, eX7_count_47, eX7_count_49, eX7_count_50, eX7_count_54, eX7_count_57, eX7_count_60, eX7_count_61, eX7_count_62, eX7_count_65, eX7_count_68, eX7_count_70, eX7_count_71, eX7_count_73, eX7_count_74, eX7_count_75, eX7_count_76, eX7_count_77, eX7_count_80, eX7_count_83, eX7_count_86, eX7_count_89, eX7_count_90, eX7_count_92, eX7_count_93, eX7_count_97, eX7_count_99, eX7_count_102, eX7_count_104, eX7_count_105, eX7_count_108, eX7_count_110, eX7_count_111, eX7_count_114, eX7_count_115, eX7_count_118, eX7_count_119, eX7_count_120, eX7_count_122, eX7_count_125, eX7_count_128, eX7_count_129, eX7_count_164, eX7_count_165, eX7_count_168, eX7_count_169, eX7_count_170, eX7_count_171, eX7_count_172, eX7_count_173, eX7_count_175, eX7_count_176, eX7_count_178, eX7_count_179, eX7_count_180, fx_bd_some, Option.toList_some, Option.toList_none, List.nil_append, List.cons_append, fx_uo, fx_ui, Int.toNat_natCast, ↓reduceIte, Int.reduceEq, Int.reduceLT, Int.reduceLE, Int.reduceNeg]
    rw [if_neg (by omega), show (c : Int) + 1 = ((c + 1 : Nat) : Int) by omega]
    simp only [smZ, Int.add_zero]
    rfl
  | succ d ih =>
    intro k s hk
    rw [eX7_count_52]
    simp (disch := omega) only [eX7_count_0, eX7_count_1, eX7_count_2, eX7_count_3, eX7_count_4, eX7_count_5, eX7_count_7, eX7_count_8, eX7_count_12, eX7_count_13, eX7_count_16, eX7_count_19, eX7_count_20, eX7_count_21, eX7_count_24, eX7_count_26, eX7_count_27, eX7_count_28, eX7_count_31, eX7_count_33, eX7_count_34, eX7_count_35, eX7_count_36, eX7_count_37, eX7_count_39, eX7_count_40, eX7_count_43, eX7_count_45, eX7_count_46, eX7_count_47, eX7_count_49, eX7_count_50, eX7_count_54, eX7_count_57, eX7_count_60, eX7_count_61, eX7_count_62, eX7_count_65, eX7_count_68, eX7_count_70, eX7_count_71, eX7_count_73, eX7_count_74, eX7_count_75, eX7_count_76, eX7_count_77, eX7_count_80, eX7_count_83, eX7_count_86, eX7_count_89, eX7_count_90, eX7_count_92, eX7_count_93, eX7_count_97, eX7_count_99, eX7_count_102, eX7_count_104, eX7_count_105, eX7_count_108, eX7_count_110, eX7_count_111, eX7_count_114, eX7_count_115, eX7_count_118, eX7_count_119, eX7_count_120, eX7_count_122, eX7_count_125, eX7_count_128, eX7_count_129, eX7_count_164, eX7_count_165, eX7_count_168, eX7_count_169, eX7_count_170, eX7_count_171, eX7_count_172, eX7_count_173, eX7_count_175, eX7_count_176, eX7_count_178, eX7_count_179, eX7_count_180, fx_bd_some, Option.toList_some, Option.toList_none, List.nil_append, List.cons_append, fx_uo, fx_ui, Int.toNat_natCast, ↓reduceIte, Int.reduceEq, Int.reduceLT, Int.reduceLE, Int.reduceNeg]
    rw [if_pos (by omega), show (k : Int) + 1 = ((k + 1 : Nat) : Int) by omega, show (144 * (c : Int) + (k : Int)).toNat = 144 * c + k by omega, ih (k + 1) _ (by omega)]
    have := smZ_add 1 d (fun j => σ 33 0 (144 * c + (k + j)))
    rw [Nat.add_comm d 1, this, show (fun j => σ 33 0 (144 * c + (k + (1 + j)))) = (fun j => σ 33 0 (144 * c + (k + 1 + j))) from funext (fun j => by rw [Nat.add_assoc k 1 j])]
    simp only [smZ, Int.zero_add, Nat.add_zero, Int.add_assoc]
theorem cm_lp (Rf Cf : Nat → Nat) (nc : Nat) {σ : fx_M} (h : Inv Rf Cf nc σ) (u1 : Option fx_V) : ∀ (d c : Nat) (s1 s2 s3 : Int) (u6 : Option fx_V), c + d = nc → s1 = smZ c (shF Rf Cf σ 1) → s2 = smZ c (shF Rf Cf σ 2) → s3 = smZ c (shF Rf Cf σ 3) → fx_E (fx_S Rf Cf nc) 129 10 [some (.inr (some (20, 0))), u1, some (.inl s1), some (.inl s2), some (.inl s3), some (.inl (c : Int)), u6] [] σ = fx_E (fx_S Rf Cf nc) 129 95 [some (.inr (some (20, 0))), u1, some (.inl (smZ nc (shF Rf Cf σ 1))), some (.inl (smZ nc (shF Rf Cf σ 2))), some (.inl (smZ nc (shF Rf Cf σ 3))), some (.inl 0), some (.inl 0)] [] σ := by
  have hn := h.1.1
  have hw2 := h.1.2.2.1
  intro d
  induction d with
  | zero =>
    intro c s1 s2 s3 u6 hi h1 h2 h3
    obtain rfl : c = nc := by omega
    rw [eX7_count_10]
    simp (disch := omega) only [eX7_count_0, eX7_count_1, eX7_count_2, eX7_count_3, eX7_count_4, eX7_count_5, eX7_count_7, eX7_count_8, eX7_count_12, eX7_count_13, eX7_count_16, eX7_count_19, eX7_count_20, eX7_count_21, eX7_count_24, eX7_count_26, eX7_count_27, eX7_count_28, eX7_count_31, eX7_count_33, eX7_count_34, eX7_count_35, eX7_count_36, eX7_count_37, eX7_count_39, eX7_count_40, eX7_count_43, eX7_count_45, eX7_count_46, eX7_count_47, eX7_count_49, eX7_count_50, eX7_count_54, eX7_count_57, eX7_count_60, eX7_count_61, eX7_count_62, eX7_count_65, eX7_count_68, eX7_count_70, eX7_count_71, eX7_count_73, eX7_count_74, eX7_count_75, eX7_count_76, eX7_count_77, eX7_count_80, eX7_count_83, eX7_count_86, eX7_count_89, eX7_count_90, eX7_count_92, eX7_count_93, eX7_count_97, eX7_count_99, eX7_count_102, eX7_count_104, eX7_count_105, eX7_count_108, eX7_count_110, eX7_count_111, eX7_count_114, eX7_count_115, eX7_count_118, eX7_count_119, eX7_count_120, eX7_count_122, eX7_count_125, eX7_count_128, eX7_count_129, eX7_count_164, eX7_count_165, eX7_count_168, eX7_count_169, eX7_count_170, eX7_count_171, eX7_count_172, eX7_count_173, eX7_count_175, eX7_count_176, eX7_count_178, eX7_count_179, eX7_count_180, fx_bd_some, Option.toList_some, Option.toList_none, List.nil_append, List.cons_append, fx_uo, fx_ui, Int.toNat_natCast, ↓reduceIte, Int.reduceEq, Int.reduceLT, Int.reduceLE, Int.reduceNeg, hw2]
    rw [if_neg (by omega), h1, h2, h3]
  | succ d ih =>
    intro c s1 s2 s3 u6 hi h1 h2 h3
    obtain ⟨R, C, br, bc, f, b, so, pr, pc, ph, sh, to, dp, k1, k2, k3⟩ := h.2.1 c (by omega)
    have m1 : σ 30 0 c = R := k3.1.1
    have m2 : σ 31 0 c = C := k3.1.2.1
    have e := cm_in Rf Cf nc (σ := σ) u1 (some (.inl (s1 + (R : Int) * (C : Int)))) (some (.inl (s3 + σ 41 0 c))) c (by omega) 144 0 s2 (by omega)
    rw [ic0] at e
    rw [eX7_count_10]
    simp (disch := omega) only [eX7_count_0, eX7_count_1, eX7_count_2, eX7_count_3, eX7_count_4, eX7_count_5, eX7_count_7, eX7_count_8, eX7_count_12, eX7_count_13, eX7_count_16, eX7_count_19, eX7_count_20, eX7_count_21, eX7_count_24, eX7_count_26, eX7_count_27, eX7_count_28, eX7_count_31, eX7_count_33, eX7_count_34, eX7_count_35, eX7_count_36, eX7_count_37, eX7_count_39, eX7_count_40, eX7_count_43, eX7_count_45, eX7_count_46, eX7_count_47, eX7_count_49, eX7_count_50, eX7_count_54, eX7_count_57, eX7_count_60, eX7_count_61, eX7_count_62, eX7_count_65, eX7_count_68, eX7_count_70, eX7_count_71, eX7_count_73, eX7_count_74, eX7_count_75, eX7_count_76, eX7_count_77, eX7_count_80, eX7_count_83, eX7_count_86, eX7_count_89, eX7_count_90, eX7_count_92, eX7_count_93, eX7_count_97, eX7_count_99, eX7_count_102, eX7_count_104, eX7_count_105, eX7_count_108, eX7_count_110, eX7_count_111, eX7_count_114, eX7_count_115, eX7_count_118, eX7_count_119, eX7_count_120, eX7_count_122, eX7_count_125, eX7_count_128, eX7_count_129, eX7_count_164, eX7_count_165, eX7_count_168, eX7_count_169, eX7_count_170, eX7_count_171, eX7_count_172, eX7_count_173, eX7_count_175, eX7_count_176, eX7_count_178, eX7_count_179, eX7_count_180, fx_bd_some, Option.toList_some, Option.toList_none, List.nil_append, List.cons_append, fx_uo, fx_ui, Int.toNat_natCast, ↓reduceIte, Int.reduceEq, Int.reduceLT, Int.reduceLE, Int.reduceNeg, hw2, m1, m2, e]
    rw [if_pos (by omega)]
    refine ih (c + 1) _ _ _ _ (by omega) ?_ ?_ ?_
    · rw [h1]; simp [smZ, shF, k2.1.1, k2.1.2]
    · rw [h2]; simp [smZ, shF]
    · rw [h3]; simp [smZ, shF]
theorem cd_lp (Rf Cf : Nat → Nat) (nc : Nat) {σ : fx_M} (P : Nat → Bool) (hP : ∀ k, k < 48 → σ 58 0 k = if P k then 1 else 0) (u1 u2 u3 u4 : Option fx_V) : ∀ (d k : Nat) (n : Nat), k + d = 48 → n = cntP k P → fx_E (fx_S Rf Cf nc) 129 95 [some (.inr (some (20, 0))), u1, u2, u3, u4, some (.inl (n : Int)), some (.inl (k : Int))] [] σ = fx_E (fx_S Rf Cf nc) 129 128 [some (.inr (some (20, 0))), u1, u2, u3, u4, some (.inl (cntP 48 P : Int)), some (.inl 48)] [] σ := by
  intro d
  induction d with
  | zero =>
    intro k n hk hn
    obtain rfl : k = 48 := by omega
    rw [eX7_count_95]
    simp (disch := omega) only [eX7_count_0, eX7_count_1, eX7_count_2, eX7_count_3, eX7_count_4, eX7_count_5, eX7_count_7, eX7_count_8, eX7_count_12, eX7_count_13, eX7_count_16, eX7_count_19, eX7_count_20, eX7_count_21, eX7_count_24, eX7_count_26, eX7_count_27, eX7_count_28, eX7_count_31, eX7_count_33, eX7_count_34, eX7_count_35, eX7_count_36, eX7_count_37, eX7_count_39, eX7_count_40, eX7_count_43, eX7_count_45, eX7_count_46, eX7_count_47, eX7_count_49, eX7_count_50, eX7_count_54, eX7_count_57, eX7_count_60, eX7_count_61, eX7_count_62, eX7_count_65, eX7_count_68, eX7_count_70, eX7_count_71, eX7_count_73, eX7_count_74, eX7_count_75, eX7_count_76, eX7_count_77, eX7_count_80, eX7_count_83, eX7_count_86, eX7_count_89, eX7_count_90, eX7_count_92, eX7_count_93, eX7_count_97, eX7_count_99, eX7_count_102, eX7_count_104, eX7_count_105, eX7_count_108, eX7_count_110, eX7_count_111, eX7_count_114, eX7_count_115, eX7_count_118, eX7_count_119, eX7_count_120, eX7_count_122, eX7_count_125, eX7_count_164, eX7_count_165, eX7_count_168, eX7_count_169, eX7_count_170, eX7_count_171, eX7_count_172, eX7_count_173, eX7_count_175, eX7_count_176, eX7_count_178, eX7_count_179, eX7_count_180, fx_bd_some, Option.toList_some, Option.toList_none, List.nil_append, List.cons_append, fx_uo, fx_ui, Int.toNat_natCast, ↓reduceIte, Int.reduceEq, Int.reduceLT, Int.reduceLE, Int.reduceNeg]
    rw [if_neg (by omega), hn]
    rfl
  | succ d ih =>
    intro k n hk hn
    have e := hP k (by omega)
    have ih' := ih (k + 1) (n + (if P k then 1 else 0)) (by omega) (by rw [hn]; rfl)
    rw [eX7_count_95]
    cases hq : P k with
    | true =>
      rw [hq, if_pos rfl] at e ih'
      simp (disch := omega) only [eX7_count_0, eX7_count_1, eX7_count_2, eX7_count_3, eX7_count_4, eX7_count_5, eX7_count_7, eX7_count_8, eX7_count_12, eX7_count_13, eX7_count_16, eX7_count_19, eX7_count_20, eX7_count_21, eX7_count_24, eX7_count_26, eX7_count_27, eX7_count_28, eX7_count_31, eX7_count_33, eX7_count_34, eX7_count_35, eX7_count_36, eX7_count_37, eX7_count_39, eX7_count_40, eX7_count_43, eX7_count_45, eX7_count_46, eX7_count_47, eX7_count_49, eX7_count_50, eX7_count_54, eX7_count_57, eX7_count_60, eX7_count_61, eX7_count_62, eX7_count_65, eX7_count_68, eX7_count_70, eX7_count_71, eX7_count_73, eX7_count_74, eX7_count_75, eX7_count_76, eX7_count_77, eX7_count_80, eX7_count_83, eX7_count_86, eX7_count_89, eX7_count_90, eX7_count_92, eX7_count_93, eX7_count_97, eX7_count_99, eX7_count_102, eX7_count_104, eX7_count_105, eX7_count_108, eX7_count_110, eX7_count_111, eX7_count_114, eX7_count_115, eX7_count_118, eX7_count_119, eX7_count_120, eX7_count_122, eX7_count_125, eX7_count_164, eX7_count_165, eX7_count_168, eX7_count_169, eX7_count_170, eX7_count_171, eX7_count_172, eX7_count_173, eX7_count_175, eX7_count_176, eX7_count_178, eX7_count_179, eX7_count_180, fx_bd_some, Option.toList_some, Option.toList_none, List.nil_append, List.cons_append, fx_uo, fx_ui, Int.toNat_natCast, ↓reduceIte, Int.reduceEq, Int.reduceLT, Int.reduceLE, Int.reduceNeg, e]
      rw [if_pos (by omega), show (k : Int) + 1 = ((k + 1 : Nat) : Int) by omega, show (n : Int) + 1 = ((n + 1 : Nat) : Int) by omega]
      exact ih'
    | false =>
      rw [hq, if_neg (by simp)] at e ih'
      simp (disch := omega) only [eX7_count_0, eX7_count_1, eX7_count_2, eX7_count_3, eX7_count_4, eX7_count_5, eX7_count_7, eX7_count_8, eX7_count_12, eX7_count_13, eX7_count_16, eX7_count_19, eX7_count_20, eX7_count_21, eX7_count_24, eX7_count_26, eX7_count_27, eX7_count_28, eX7_count_31, eX7_count_33, eX7_count_34, eX7_count_35, eX7_count_36, eX7_count_37, eX7_count_39, eX7_count_40, eX7_count_43, eX7_count_45, eX7_count_46, eX7_count_47, eX7_count_49, eX7_count_50, eX7_count_54, eX7_count_57, eX7_count_60, eX7_count_61, eX7_count_62, eX7_count_65, eX7_count_68, eX7_count_70, eX7_count_71, eX7_count_73, eX7_count_74, eX7_count_75, eX7_count_76, eX7_count_77, eX7_count_80, eX7_count_83, eX7_count_86, eX7_count_89, eX7_count_90, eX7_count_92, eX7_count_93, eX7_count_97, eX7_count_99, eX7_count_102, eX7_count_104, eX7_count_105, eX7_count_108, eX7_count_110, eX7_count_111, eX7_count_114, eX7_count_115, eX7_count_118, eX7_count_119, eX7_count_120, eX7_count_122, eX7_count_125, eX7_count_164, eX7_count_165, eX7_count_168, eX7_count_169, eX7_count_170, eX7_count_171, eX7_count_172, eX7_count_173, eX7_count_175, eX7_count_176, eX7_count_178, eX7_count_179, eX7_count_180, fx_bd_some, Option.toList_some, Option.toList_none, List.nil_append, List.cons_append, fx_uo, fx_ui, Int.toNat_natCast, ↓reduceIte, Int.reduceEq, Int.reduceLT, Int.reduceLE, Int.reduceNeg, e]
      rw [if_pos (by omega), show (k : Int) + 1 = ((k + 1 : Nat) : Int) by omega, show (n : Int) + 0 = ((n + 0 : Nat) : Int) by omega]
      exact ih'
theorem ag_count (Rf Cf : Nat → Nat) (nc : Nat) {σ : fx_M} (h : Inv Rf Cf nc σ) (w : Int) (hw : fx_in w) : Ag Rf Cf nc 63 129 [.inl w] σ := by
  obtain ⟨wr, wc, m, w1, ⟨w2, w3, w4, w5, w6⟩, w7, w8, w9⟩ := id h.2.2.1
  have hd : ∀ k, k < 48 → σ 58 0 k = if (fun k => decide (isC wr wc k ∧ m.testBit (ix wc k) = true)) k then 1 else 0 := fun k hk => by
    rw [w8 k hk]
    by_cases q : isC wr wc k ∧ m.testBit (ix wc k) = true
    · rw [if_pos q, if_pos (by simpa using q)]
    · rw [if_neg q, if_neg (by simpa using q)]
  have hM : fx_Ca (fx_S Rf Cf nc) 129 [.inr (some (20, 0)), .inl w] σ = fx_E (fx_S Rf Cf nc) 129 128 [some (.inr (some (20, 0))), some (.inl w), some (.inl (smZ nc (shF Rf Cf σ 1))), some (.inl (smZ nc (shF Rf Cf σ 2))), some (.inl (smZ nc (shF Rf Cf σ 3))), some (.inl (cntP 48 (fun k => decide (isC wr wc k ∧ m.testBit (ix wc k) = true)) : Int)), some (.inl 48)] [] σ := by
    rw [entX7_count]
    simp (disch := omega) only [eX7_count_0, eX7_count_1, eX7_count_2, eX7_count_3, eX7_count_4, eX7_count_5, eX7_count_7, eX7_count_8, eX7_count_12, eX7_count_13, eX7_count_16, eX7_count_19, eX7_count_20, eX7_count_21, eX7_count_24, eX7_count_26, eX7_count_27, eX7_count_28, eX7_count_31, eX7_count_33, eX7_count_34, eX7_count_35, eX7_count_36, eX7_count_37, eX7_count_39, eX7_count_40, eX7_count_43, eX7_count_45, eX7_count_46, eX7_count_47, eX7_count_49, eX7_count_50, eX7_count_54, eX7_count_57, eX7_count_60, eX7_count_61, eX7_count_62, eX7_count_65, eX7_count_68, eX7_count_70, eX7_count_71, eX7_count_73, eX7_count_74, eX7_count_75, eX7_count_76, eX7_count_77, eX7_count_80, eX7_count_83, eX7_count_86, eX7_count_89, eX7_count_90, eX7_count_92, eX7_count_93, eX7_count_97, eX7_count_99, eX7_count_102, eX7_count_104, eX7_count_105, eX7_count_108, eX7_count_110, eX7_count_111, eX7_count_114, eX7_count_115, eX7_count_118, eX7_count_119, eX7_count_120, eX7_count_122, eX7_count_125, eX7_count_164, eX7_count_165, eX7_count_168, eX7_count_169, eX7_count_170, eX7_count_171, eX7_count_172, eX7_count_173, eX7_count_175, eX7_count_176, eX7_count_178, eX7_count_179, eX7_count_180, fx_bd_some, Option.toList_some, Option.toList_none, List.nil_append, List.cons_append, fx_uo, fx_ui, Int.toNat_natCast, ↓reduceIte, Int.reduceEq, Int.reduceLT, Int.reduceLE, Int.reduceNeg]
    have e := cm_lp Rf Cf nc h (some (.inl w)) nc 0 0 0 0 none (by omega) rfl rfl rfl
    rw [ic0] at e
    rw [e]
    exact cd_lp Rf Cf nc _ hd _ _ _ _ 48 0 0 (by omega) rfl
  by_cases q : 0 ≤ w ∧ w ≤ 4
  · by_cases q4 : w = 4
    · subst q4
      refine Ag.same h (cntP 48 (fun k => decide (isC wr wc k ∧ m.testBit (ix wc k) = true)) : Int) ?_ ?_
      · have e := sp_bitCount Rf Cf nc σ m w7
        rw [bcN_eq m w7, bits_cells wr wc m w1 w9] at e
        rw [entX6_count]
        simp (disch := omega) only [eX6_count_0, eX6_count_1, eX6_count_4, eX6_count_5, eX6_count_6, eX6_count_9, eX6_count_10, eX6_count_11, eX6_count_12, eX6_count_13, eX6_count_16, eX6_count_17, eX6_count_20, eX6_count_23, eX6_count_26, eX6_count_27, eX6_count_28, eX6_count_29, eX6_count_30, eX6_count_32, eX6_count_33, eX6_count_36, eX6_count_39, eX6_count_40, eX6_count_41, eX6_count_44, eX6_count_46, eX6_count_47, eX6_count_49_n, eX6_count_49_s, eX6_count_52, eX6_count_53, eX6_count_56, eX6_count_58, eX6_count_59, eX6_count_62, eX6_count_63, eX6_count_64, eX6_count_67, eX6_count_70, eX6_count_71, fx_bd_some, Option.toList_some, Option.toList_none, List.nil_append, List.cons_append, fx_uo, fx_ui, Int.toNat_natCast, ↓reduceIte, Int.reduceEq, Int.reduceLT, Int.reduceLE, Int.reduceNeg, w6, e]
      · rw [hM]
        simp (disch := omega) only [eX7_count_0, eX7_count_1, eX7_count_2, eX7_count_3, eX7_count_4, eX7_count_5, eX7_count_7, eX7_count_8, eX7_count_12, eX7_count_13, eX7_count_16, eX7_count_19, eX7_count_20, eX7_count_21, eX7_count_24, eX7_count_26, eX7_count_27, eX7_count_28, eX7_count_31, eX7_count_33, eX7_count_34, eX7_count_35, eX7_count_36, eX7_count_37, eX7_count_39, eX7_count_40, eX7_count_43, eX7_count_45, eX7_count_46, eX7_count_47, eX7_count_49, eX7_count_50, eX7_count_54, eX7_count_57, eX7_count_60, eX7_count_61, eX7_count_62, eX7_count_65, eX7_count_68, eX7_count_70, eX7_count_71, eX7_count_73, eX7_count_74, eX7_count_75, eX7_count_76, eX7_count_77, eX7_count_80, eX7_count_83, eX7_count_86, eX7_count_89, eX7_count_90, eX7_count_92, eX7_count_93, eX7_count_97, eX7_count_99, eX7_count_102, eX7_count_104, eX7_count_105, eX7_count_108, eX7_count_110, eX7_count_111, eX7_count_114, eX7_count_115, eX7_count_118, eX7_count_119, eX7_count_120, eX7_count_122, eX7_count_125, eX7_count_128, eX7_count_129, eX7_count_164, eX7_count_165, eX7_count_168, eX7_count_169, eX7_count_170, eX7_count_171, eX7_count_172, eX7_count_173, eX7_count_175, eX7_count_176, eX7_count_178, eX7_count_179, eX7_count_180, fx_bd_some, Option.toList_some, Option.toList_none, List.nil_append, List.cons_append, fx_uo, fx_ui, Int.toNat_natCast, ↓reduceIte, Int.reduceEq, Int.reduceLT, Int.reduceLE, Int.reduceNeg]
    · refine Ag.same h (smZ nc (shF Rf Cf σ w)) ?_ ?_
      · have e := cc_lp Rf Cf nc h w (by omega) nc 0 0 none (by omega) rfl
        rw [ic0] at e
        rw [entX6_count]
        simp (disch := omega) only [eX6_count_0, eX6_count_1, eX6_count_4, eX6_count_5, eX6_count_6, eX6_count_9, eX6_count_10, eX6_count_11, eX6_count_12, eX6_count_13, eX6_count_16, eX6_count_17, eX6_count_20, eX6_count_23, eX6_count_26, eX6_count_27, eX6_count_28, eX6_count_29, eX6_count_30, eX6_count_32, eX6_count_33, eX6_count_36, eX6_count_39, eX6_count_40, eX6_count_41, eX6_count_44, eX6_count_46, eX6_count_47, eX6_count_49_n, eX6_count_49_s, eX6_count_52, eX6_count_53, eX6_count_56, eX6_count_58, eX6_count_59, eX6_count_62, eX6_count_63, eX6_count_64, eX6_count_67, eX6_count_70, eX6_count_71, fx_bd_some, Option.toList_some, Option.toList_none, List.nil_append, List.cons_append, fx_uo, fx_ui, Int.toNat_natCast, ↓reduceIte, Int.reduceEq, Int.reduceLT, Int.reduceLE, Int.reduceNeg]
        repeat (first | rw [if_pos (by omega)] | rw [if_neg (by omega)])
        exact e
      · rw [hM]
        rcases (show w = 0 ∨ w = 1 ∨ w = 2 ∨ w = 3 by omega) with rfl | rfl | rfl | rfl
        · simp (disch := omega) only [eX7_count_0, eX7_count_1, eX7_count_2, eX7_count_3, eX7_count_4, eX7_count_5, eX7_count_7, eX7_count_8, eX7_count_12, eX7_count_13, eX7_count_16, eX7_count_19, eX7_count_20, eX7_count_21, eX7_count_24, eX7_count_26, eX7_count_27, eX7_count_28, eX7_count_31, eX7_count_33, eX7_count_34, eX7_count_35, eX7_count_36, eX7_count_37, eX7_count_39, eX7_count_40, eX7_count_43, eX7_count_45, eX7_count_46, eX7_count_47, eX7_count_49, eX7_count_50, eX7_count_54, eX7_count_57, eX7_count_60, eX7_count_61, eX7_count_62, eX7_count_65, eX7_count_68, eX7_count_70, eX7_count_71, eX7_count_73, eX7_count_74, eX7_count_75, eX7_count_76, eX7_count_77, eX7_count_80, eX7_count_83, eX7_count_86, eX7_count_89, eX7_count_90, eX7_count_92, eX7_count_93, eX7_count_97, eX7_count_99, eX7_count_102, eX7_count_104, eX7_count_105, eX7_count_108, eX7_count_110, eX7_count_111, eX7_count_114, eX7_count_115, eX7_count_118, eX7_count_119, eX7_count_120, eX7_count_122, eX7_count_125, eX7_count_128, eX7_count_129, eX7_count_164, eX7_count_165, eX7_count_168, eX7_count_169, eX7_count_170, eX7_count_171, eX7_count_172, eX7_count_173, eX7_count_175, eX7_count_176, eX7_count_178, eX7_count_179, eX7_count_180, fx_bd_some, Option.toList_some, Option.toList_none, List.nil_append, List.cons_append, fx_uo, fx_ui, Int.toNat_natCast, ↓reduceIte, Int.reduceEq, Int.reduceLT, Int.reduceLE, Int.reduceNeg, h.1.2.2.1]
          have : ∀ n : Nat, smZ n (shF Rf Cf σ 0) = n := by
            intro n
            induction n with
            | zero => rfl
            | succ n ih => simp only [smZ]; rw [ih]; simp [shF]
          rw [this]
        · simp (disch := omega) only [eX7_count_0, eX7_count_1, eX7_count_2, eX7_count_3, eX7_count_4, eX7_count_5, eX7_count_7, eX7_count_8, eX7_count_12, eX7_count_13, eX7_count_16, eX7_count_19, eX7_count_20, eX7_count_21, eX7_count_24, eX7_count_26, eX7_count_27, eX7_count_28, eX7_count_31, eX7_count_33, eX7_count_34, eX7_count_35, eX7_count_36, eX7_count_37, eX7_count_39, eX7_count_40, eX7_count_43, eX7_count_45, eX7_count_46, eX7_count_47, eX7_count_49, eX7_count_50, eX7_count_54, eX7_count_57, eX7_count_60, eX7_count_61, eX7_count_62, eX7_count_65, eX7_count_68, eX7_count_70, eX7_count_71, eX7_count_73, eX7_count_74, eX7_count_75, eX7_count_76, eX7_count_77, eX7_count_80, eX7_count_83, eX7_count_86, eX7_count_89, eX7_count_90, eX7_count_92, eX7_count_93, eX7_count_97, eX7_count_99, eX7_count_102, eX7_count_104, eX7_count_105, eX7_count_108, eX7_count_110, eX7_count_111, eX7_count_114, eX7_count_115, eX7_count_118, eX7_count_119, eX7_count_120, eX7_count_122, eX7_count_125, eX7_count_128, eX7_count_129, eX7_count_164, eX7_count_165, eX7_count_168, eX7_count_169, eX7_count_170, eX7_count_171, eX7_count_172, eX7_count_173, eX7_count_175, eX7_count_176, eX7_count_178, eX7_count_179, eX7_count_180, fx_bd_some, Option.toList_some, Option.toList_none, List.nil_append, List.cons_append, fx_uo, fx_ui, Int.toNat_natCast, ↓reduceIte, Int.reduceEq, Int.reduceLT, Int.reduceLE, Int.reduceNeg]
        · simp (disch := omega) only [eX7_count_0, eX7_count_1, eX7_count_2, eX7_count_3, eX7_count_4, eX7_count_5, eX7_count_7, eX7_count_8, eX7_count_12, eX7_count_13, eX7_count_16, eX7_count_19, eX7_count_20, eX7_count_21, eX7_count_24, eX7_count_26, eX7_count_27, eX7_count_28, eX7_count_31, eX7_count_33, eX7_count_34, eX7_count_35, eX7_count_36, eX7_count_37, eX7_count_39, eX7_count_40, eX7_count_43, eX7_count_45, eX7_count_46, eX7_count_47, eX7_count_49, eX7_count_50, eX7_count_54, eX7_count_57, eX7_count_60, eX7_count_61, eX7_count_62, eX7_count_65, eX7_count_68, eX7_count_70, eX7_count_71, eX7_count_73, eX7_count_74, eX7_count_75, eX7_count_76, eX7_count_77, eX7_count_80, eX7_count_83, eX7_count_86, eX7_count_89, eX7_count_90, eX7_count_92, eX7_count_93, eX7_count_97, eX7_count_99, eX7_count_102, eX7_count_104, eX7_count_105, eX7_count_108, eX7_count_110, eX7_count_111, eX7_count_114, eX7_count_115, eX7_count_118, eX7_count_119, eX7_count_120, eX7_count_122, eX7_count_125, eX7_count_128, eX7_count_129, eX7_count_164, eX7_count_165, eX7_count_168, eX7_count_169, eX7_count_170, eX7_count_171, eX7_count_172, eX7_count_173, eX7_count_175, eX7_count_176, eX7_count_178, eX7_count_179, eX7_count_180, fx_bd_some, Option.toList_some, Option.toList_none, List.nil_append, List.cons_append, fx_uo, fx_ui, Int.toNat_natCast, ↓reduceIte, Int.reduceEq, Int.reduceLT, Int.reduceLE, Int.reduceNeg]
        · simp (disch := omega) only [eX7_count_0, eX7_count_1, eX7_count_2, eX7_count_3, eX7_count_4, eX7_count_5, eX7_count_7, eX7_count_8, eX7_count_12, eX7_count_13, eX7_count_16, eX7_count_19, eX7_count_20, eX7_count_21, eX7_count_24, eX7_count_26, eX7_count_27, eX7_count_28, eX7_count_31, eX7_count_33, eX7_count_34, eX7_count_35, eX7_count_36, eX7_count_37, eX7_count_39, eX7_count_40, eX7_count_43, eX7_count_45, eX7_count_46, eX7_count_47, eX7_count_49, eX7_count_50, eX7_count_54, eX7_count_57, eX7_count_60, eX7_count_61, eX7_count_62, eX7_count_65, eX7_count_68, eX7_count_70, eX7_count_71, eX7_count_73, eX7_count_74, eX7_count_75, eX7_count_76, eX7_count_77, eX7_count_80, eX7_count_83, eX7_count_86, eX7_count_89, eX7_count_90, eX7_count_92, eX7_count_93, eX7_count_97, eX7_count_99, eX7_count_102, eX7_count_104, eX7_count_105, eX7_count_108, eX7_count_110, eX7_count_111, eX7_count_114, eX7_count_115, eX7_count_118, eX7_count_119, eX7_count_120, eX7_count_122, eX7_count_125, eX7_count_128, eX7_count_129, eX7_count_164, eX7_count_165, eX7_count_168, eX7_count_169, eX7_count_170, eX7_count_171, eX7_count_172, eX7_count_173, eX7_count_175, eX7_count_176, eX7_count_178, eX7_count_179, eX7_count_180, fx_bd_some, Option.toList_some, Option.toList_none, List.nil_append, List.cons_append, fx_uo, fx_ui, Int.toNat_natCast, ↓reduceIte, Int.reduceEq, Int.reduceLT, Int.reduceLE, Int.reduceNeg]
  · refine Ag.same h (-1) ?_ ?_
    · rw [entX6_count]
      by_cases q2 : w < 0
      · simp (disch := omega) only [eX6_count_0, eX6_count_1, eX6_count_4, eX6_count_5, eX6_count_6, eX6_count_9, eX6_count_10, eX6_count_11, eX6_count_12, eX6_count_16, eX6_count_17, eX6_count_20, eX6_count_23, eX6_count_26, eX6_count_27, eX6_count_28, eX6_count_29, eX6_count_30, eX6_count_32, eX6_count_33, eX6_count_36, eX6_count_39, eX6_count_40, eX6_count_41, eX6_count_44, eX6_count_46, eX6_count_47, eX6_count_49_n, eX6_count_49_s, eX6_count_52, eX6_count_53, eX6_count_56, eX6_count_58, eX6_count_59, eX6_count_62, eX6_count_63, eX6_count_64, eX6_count_67, eX6_count_70, eX6_count_71, fx_bd_some, Option.toList_some, Option.toList_none, List.nil_append, List.cons_append, fx_uo, fx_ui, Int.toNat_natCast, ↓reduceIte, Int.reduceEq, Int.reduceLT, Int.reduceLE, Int.reduceNeg]
        repeat (first | rw [if_pos (by omega)] | rw [if_neg (by omega)])
      · simp (disch := omega) only [eX6_count_0, eX6_count_1, eX6_count_4, eX6_count_5, eX6_count_6, eX6_count_9, eX6_count_10, eX6_count_11, eX6_count_12, eX6_count_16, eX6_count_17, eX6_count_20, eX6_count_23, eX6_count_26, eX6_count_27, eX6_count_28, eX6_count_29, eX6_count_30, eX6_count_32, eX6_count_33, eX6_count_36, eX6_count_39, eX6_count_40, eX6_count_41, eX6_count_44, eX6_count_46, eX6_count_47, eX6_count_49_n, eX6_count_49_s, eX6_count_52, eX6_count_53, eX6_count_56, eX6_count_58, eX6_count_59, eX6_count_62, eX6_count_63, eX6_count_64, eX6_count_67, eX6_count_70, eX6_count_71, fx_bd_some, Option.toList_some, Option.toList_none, List.nil_append, List.cons_append, fx_uo, fx_ui, Int.toNat_natCast, ↓reduceIte, Int.reduceEq, Int.reduceLT, Int.reduceLE, Int.reduceNeg]
        repeat (first | rw [if_pos (by omega)] | rw [if_neg (by omega)])
    · rw [hM]
      simp (disch := omega) only [eX7_count_0, eX7_count_1, eX7_count_2, eX7_count_3, eX7_count_4, eX7_count_5, eX7_count_7, eX7_count_8, eX7_count_12, eX7_count_13, eX7_count_16, eX7_count_19, eX7_count_20, eX7_count_21, eX7_count_24, eX7_count_26, eX7_count_27, eX7_count_28, eX7_count_31, eX7_count_33, eX7_count_34, eX7_count_35, eX7_count_36, eX7_count_37, eX7_count_39, eX7_count_40, eX7_count_43, eX7_count_45, eX7_count_46, eX7_count_47, eX7_count_49, eX7_count_50, eX7_count_54, eX7_count_57, eX7_count_60, eX7_count_61, eX7_count_62, eX7_count_65, eX7_count_68, eX7_count_70, eX7_count_71, eX7_count_73, eX7_count_74, eX7_count_75, eX7_count_76, eX7_count_77, eX7_count_80, eX7_count_83, eX7_count_86, eX7_count_89, eX7_count_90, eX7_count_92, eX7_count_93, eX7_count_97, eX7_count_99, eX7_count_102, eX7_count_104, eX7_count_105, eX7_count_108, eX7_count_110, eX7_count_111, eX7_count_114, eX7_count_115, eX7_count_118, eX7_count_119, eX7_count_120, eX7_count_122, eX7_count_125, eX7_count_128, eX7_count_129, eX7_count_164, eX7_count_165, eX7_count_168, eX7_count_169, eX7_count_170, eX7_count_171, eX7_count_172, eX7_count_173, eX7_count_175, eX7_count_176, eX7_count_178, eX7_count_179, eX7_count_180, fx_bd_some, Option.toList_some, Option.toList_none, List.nil_append, List.cons_append, fx_uo, fx_ui, Int.toNat_natCast, ↓reduceIte, Int.reduceEq, Int.reduceLT, Int.reduceLE, Int.reduceNeg]
      repeat (first | rw [if_pos (by omega)] | rw [if_neg (by omega)])
