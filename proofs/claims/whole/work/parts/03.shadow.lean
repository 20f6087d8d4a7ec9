/-! the shadow machine: the methods' bytecode over a memory of whole numbers, cells named by a kind and a group -/
abbrev fx_V : Type := Int ⊕ Option (Nat × Nat)
abbrev fx_M : Type := Nat → Nat → Nat → Int
abbrev fx_L : Type := List (Option fx_V)
abbrev fx_Z : Type := Nat × Nat × fx_L × List fx_V × fx_M
abbrev fx_R : Type := Option fx_V × fx_M
abbrev fx_Sh : Type := (Nat → Nat → Nat) × Nat
abbrev fx_O : Type := fx_Z ⊕ fx_R ⊕ (fx_Z × (fx_R → fx_Z)) ⊕ Unit
def fx_up (σ : fx_M) (o g i : Nat) (v : Int) : fx_M := fun o' g' i' => if o' = o ∧ g' = g ∧ i' = i then v else σ o' g' i'
abbrev fx_in (x : Int) : Prop := -2147483648 ≤ x ∧ x ≤ 2147483647
/-- objects: the number of the class, and of each field none (a number) or the cell that it holds -/
def fx_ob (o : Nat) : Option (Nat × List (Option (Nat → Nat × Nat))) :=
  if o = 0 then some (6, [some (fun _ => (1, 0)), some (fun _ => (2, 0)), none, some (fun _ => (3, 0)), some (fun _ => (6, 0)), some (fun _ => (7, 0)), some (fun _ => (10, 1))])
  else if o = 3 then some (3, [some (fun _ => (4, 0)), some (fun _ => (5, 0)), none, none])
  else if o = 6 then some (5, [none, none, none])
  else if o = 7 then some (2, [some (fun _ => (10, 0)), some (fun _ => (15, 6)), some (fun _ => (15, 7)), some (fun _ => (15, 8)), some (fun _ => (8, 0)), some (fun _ => (9, 0)), none, none, none])
  else if o = 10 then some (4, [some (fun g => (11, g)), none])
  else if o = 12 then some (1, [none, none, none, some (fun g => (13, g)), some (fun g => (14, g)), some (fun g => (15, g)), none, none, none, none])
  else if o = 15 then some (0, [some (fun g => (16, g)), some (fun g => (17, g)), some (fun g => (18, g)), some (fun g => (19, g)), none, none, none])
  else if o = 20 then some (7, [some (fun _ => (30, 0)), some (fun _ => (31, 0)), none, some (fun _ => (33, 0)), some (fun _ => (34, 0)), some (fun _ => (35, 0)), some (fun _ => (36, 0)), some (fun _ => (37, 0)), some (fun _ => (38, 0)), some (fun _ => (39, 0)), some (fun _ => (40, 0)), some (fun _ => (41, 0)), some (fun _ => (42, 0)), some (fun _ => (43, 0)), some (fun _ => (44, 0)), some (fun _ => (45, 0)), some (fun _ => (46, 0)), none, none, none, some (fun _ => (50, 0)), some (fun _ => (51, 0)), some (fun _ => (52, 0)), some (fun _ => (53, 0)), some (fun _ => (54, 0)), some (fun _ => (55, 0)), none, none, some (fun _ => (58, 0)), some (fun _ => (59, 0)), some (fun _ => (60, 0)), some (fun _ => (61, 0)), some (fun _ => (62, 0)), none, some (fun _ => (64, 0)), none, none, none, none, none])
  else none
/-- arrays: 0 no array, 1 of int, 2 of boolean, 3 of references, 4 a static one -/
def fx_ak (o : Nat) : Nat :=
  if o = 0 ∨ o = 3 ∨ o = 6 ∨ o = 7 ∨ o = 10 ∨ o = 12 ∨ o = 15 ∨ o = 20 then 0
  else if o = 14 ∨ o = 40 ∨ o = 58 then 2
  else if o = 2 then 3
  else if o = 90 ∨ o = 91 ∨ o = 92 then 4
  else 1
def fx_sv (o : Nat) : List Int := if o = 90 then [9, 9, 20] else if o = 91 then [-1, 1, 0, 0] else [0, 0, -1, 1]
def fx_nx (y pc : Nat) (ls : fx_L) (st : List fx_V) (σ : fx_M) : fx_O := .inl (y, pc, ls, st, σ)
def fx_no : fx_O := .inr (.inr (.inr ()))
def fx_rt1 (r : fx_R) : fx_O := .inr (.inl r)
def fx_cl1 (z : fx_Z) (k : fx_R → fx_Z) : fx_O := .inr (.inr (.inl (z, k)))
def fx_jp (y pc : Nat) (off : Int) (ls : fx_L) (st : List fx_V) (σ : fx_M) : fx_O := if 0 ≤ (pc : Int) + off then .inl (y, ((pc : Int) + off).toNat, ls, st, σ) else fx_no
def fx_cm (c : ClassFile.Cond) (a b : Int) : Bool := match c with
  | .eq => decide (a = b)
  | .ne => decide (a ≠ b)
  | .lt => decide (a < b)
  | .ge => decide (b ≤ a)
  | .gt => decide (b < a)
  | .le => decide (a ≤ b)
def fx_pu (n m : Nat) (len y pc : Nat) (ls : fx_L) (st : List fx_V) (σ : fx_M) (v : Int) : fx_O := if len = m then fx_nx y (pc + n) ls (.inl v :: st) σ else fx_no
def fx_ldi (n k len y pc : Nat) (ls : fx_L) (st : List fx_V) (σ : fx_M) : fx_O := match ls[k]? with
  | some (some (.inl x)) => if len = n then fx_nx y (pc + n) ls (.inl x :: st) σ else fx_no
  | _ => fx_no
def fx_lda (n k len y pc : Nat) (ls : fx_L) (st : List fx_V) (σ : fx_M) : fx_O := match ls[k]? with
  | some (some (.inr x)) => if len = n then fx_nx y (pc + n) ls (.inr x :: st) σ else fx_no
  | _ => fx_no
def fx_sti (n k len y pc : Nat) (ls : fx_L) (st : List fx_V) (σ : fx_M) : fx_O := match st with
  | .inl x :: st => if len = n ∧ k < ls.length then fx_nx y (pc + n) (ls.set k (some (.inl x))) st σ else fx_no
  | _ => fx_no
def fx_sta (n k len y pc : Nat) (ls : fx_L) (st : List fx_V) (σ : fx_M) : fx_O := match st with
  | .inr x :: st => if len = n ∧ k < ls.length then fx_nx y (pc + n) (ls.set k (some (.inr x))) st σ else fx_no
  | _ => fx_no
def fx_inc (k : Nat) (n : Int) (len y pc : Nat) (ls : fx_L) (st : List fx_V) (σ : fx_M) : fx_O := match ls[k]? with
  | some (some (.inl x)) => if len = 3 then fx_nx y (pc + 3) (ls.set k (some (.inl (x + n)))) st σ else fx_no
  | _ => fx_no
def fx_bin (f : Int → Int → Int) (ok : Int → Int → Bool) (len y pc : Nat) (ls : fx_L) (st : List fx_V) (σ : fx_M) : fx_O := match st with
  | .inl b :: .inl a :: st => if len = 1 ∧ ok a b = true then fx_nx y (pc + 1) ls (.inl (f a b) :: st) σ else fx_no
  | _ => fx_no
def fx_neg (len y pc : Nat) (ls : fx_L) (st : List fx_V) (σ : fx_M) : fx_O := match st with
  | .inl a :: st => if len = 1 then fx_nx y (pc + 1) ls (.inl (-a) :: st) σ else fx_no
  | _ => fx_no
def fx_dup (len y pc : Nat) (ls : fx_L) (st : List fx_V) (σ : fx_M) : fx_O := match st with
  | v :: st => if len = 1 then fx_nx y (pc + 1) ls (v :: v :: st) σ else fx_no
  | _ => fx_no
def fx_dup2 (len y pc : Nat) (ls : fx_L) (st : List fx_V) (σ : fx_M) : fx_O := match st with
  | v :: w :: st => if len = 1 then fx_nx y (pc + 1) ls (v :: w :: v :: w :: st) σ else fx_no
  | _ => fx_no
def fx_if1 (c : ClassFile.Cond) (off : Int) (len y pc : Nat) (ls : fx_L) (st : List fx_V) (σ : fx_M) : fx_O := match st with
  | .inl a :: st => if len = 3 ∧ fx_in a ∧ 0 ≤ (pc : Int) + off then (if fx_cm c a 0 = true then fx_nx y ((pc : Int) + off).toNat ls st σ else fx_nx y (pc + 3) ls st σ) else fx_no
  | _ => fx_no
def fx_if2 (c : ClassFile.Cond) (off : Int) (len y pc : Nat) (ls : fx_L) (st : List fx_V) (σ : fx_M) : fx_O := match st with
  | .inl b :: .inl a :: st => if len = 3 ∧ fx_in a ∧ fx_in b ∧ 0 ≤ (pc : Int) + off then (if fx_cm c a b = true then fx_nx y ((pc : Int) + off).toNat ls st σ else fx_nx y (pc + 3) ls st σ) else fx_no
  | _ => fx_no
def fx_ifn (pos : Bool) (off : Int) (len y pc : Nat) (ls : fx_L) (st : List fx_V) (σ : fx_M) : fx_O := match st with
  | .inr q :: st => if len = 3 then (if q.isNone = pos then fx_jp y pc off ls st σ else fx_nx y (pc + 3) ls st σ) else fx_no
  | _ => fx_no
def fx_tsw (d lo hi : Int) (offs : Array Int) (y pc : Nat) (ls : fx_L) (st : List fx_V) (σ : fx_M) : fx_O := match st with
  | .inl x :: st => if fx_in x then (if x < lo ∨ hi < x then fx_jp y pc d ls st σ else match offs[(x - lo).toNat]? with
    | some off => fx_jp y pc off ls st σ
    | none => fx_no) else fx_no
  | _ => fx_no
def fx_gf (i len y pc : Nat) (ls : fx_L) (st : List fx_V) (σ : fx_M) : fx_O := match st with
  | .inr (some (o, g)) :: st => (match fx_fd (fx_own y) i, fx_ob o with
    | some (ci, k), some (cj, fl) => if len = 3 ∧ ci = cj then (match fl[k]? with
      | some none => fx_nx y (pc + 3) ls (.inl (σ o g k) :: st) σ
      | some (some f) => fx_nx y (pc + 3) ls (.inr (some (f g)) :: st) σ
      | none => fx_no) else fx_no
    | _, _ => fx_no)
  | _ => fx_no
/-- may a number be put there: no final field; a boolean is 0 or 1 -/
def fx_okf (ci k : Nat) (v : Int) : Bool := !((fx_cl.getD ci (RX0, TX0, 7)).2.1 k).2.2.2 && (((fx_cl.getD ci (RX0, TX0, 7)).2.1 k).2.2.1 == "I" || (((fx_cl.getD ci (RX0, TX0, 7)).2.1 k).2.2.1 == "Z" && (v == 0 || v == 1)))
def fx_pf (i len y pc : Nat) (ls : fx_L) (st : List fx_V) (σ : fx_M) : fx_O := match st with
  | .inl v :: .inr (some (o, g)) :: st => (match fx_fd (fx_own y) i, fx_ob o with
    | some (ci, k), some (cj, fl) => if len = 3 ∧ ci = cj ∧ fl[k]?.isSome = true ∧ (fl[k]?.getD none).isNone = true ∧ fx_okf ci k v = true then fx_nx y (pc + 3) ls st (fx_up σ o g k v) else fx_no
    | _, _ => fx_no)
  | _ => fx_no
def fx_gs (i len y pc : Nat) (ls : fx_L) (st : List fx_V) (σ : fx_M) : fx_O := match fx_sd (fx_own y) i with
  | some (o, _) => if len = 3 then fx_nx y (pc + 3) ls (.inr (some (o, 0)) :: st) σ else fx_no
  | none => match fx_nd (fx_own y) i with
    | some (o, _) => if len = 3 then fx_nx y (pc + 3) ls (.inr (some (o, 0)) :: st) σ else fx_no
    | none => fx_no
def fx_ld (S : fx_Sh) (ks : Nat) (len y pc : Nat) (ls : fx_L) (st : List fx_V) (σ : fx_M) : fx_O := match st with
  | .inl i :: .inr (some (o, g)) :: st => if len = 1 ∧ 0 ≤ i then (
      if fx_ak o = ks ∧ i < S.1 o g then fx_nx y (pc + 1) ls (.inl (σ o g i.toNat) :: st) σ
      else if ks = 1 ∧ fx_ak o = 4 ∧ i < (fx_sv o).length then fx_nx y (pc + 1) ls (.inl ((fx_sv o).getD i.toNat 0) :: st) σ
      else fx_no) else fx_no
  | _ => fx_no
def fx_ast (S : fx_Sh) (ks : Nat) (len y pc : Nat) (ls : fx_L) (st : List fx_V) (σ : fx_M) : fx_O := match st with
  | .inl v :: .inl i :: .inr (some (o, g)) :: st => if len = 1 ∧ 0 ≤ i ∧ fx_ak o = ks ∧ i < S.1 o g ∧ (ks = 1 ∨ v = 0 ∨ v = 1) then fx_nx y (pc + 1) ls st (fx_up σ o g i.toNat v) else fx_no
  | _ => fx_no
def fx_lda2 (S : fx_Sh) (len y pc : Nat) (ls : fx_L) (st : List fx_V) (σ : fx_M) : fx_O := match st with
  | .inl i :: .inr (some (o, g)) :: st => if len = 1 ∧ 0 ≤ i ∧ o = 2 ∧ g = 0 ∧ i < S.1 2 0 then fx_nx y (pc + 1) ls (.inr (if i.toNat < S.2 then some (12, i.toNat) else none) :: st) σ else fx_no
  | _ => fx_no
def fx_len (S : fx_Sh) (len y pc : Nat) (ls : fx_L) (st : List fx_V) (σ : fx_M) : fx_O := match st with
  | .inr (some (o, g)) :: st => if len = 1 then (if fx_ak o = 1 ∨ fx_ak o = 2 then fx_nx y (pc + 1) ls (.inl (S.1 o g) :: st) σ else if fx_ak o = 4 then fx_nx y (pc + 1) ls (.inl (fx_sv o).length :: st) σ else fx_no) else fx_no
  | _ => fx_no
def fx_ent (z : Nat) (as : List fx_V) : fx_L := as.map some ++ List.replicate (fx_mL z - as.length) none
def fx_iv (i len y pc : Nat) (ls : fx_L) (st : List fx_V) (σ : fx_M) : fx_O := match fx_ca y i with
  | some (z, n, 0) => (match st.drop n with
    | .inr (some (o, g)) :: rest => if len = 3 ∧ (fx_ob o).map (fun q => q.1) = some (fx_own z) ∧ (st.take n).length = n ∧ rest.length ≤ 8 ∧ n + 1 ≤ fx_mL z then fx_cl1 (z, 0, fx_ent z (.inr (some (o, g)) :: (st.take n).reverse), [], σ) (fun r => (y, pc + 3, ls, r.1.toList ++ rest, r.2)) else fx_no
    | _ => fx_no)
  | _ => fx_no
def fx_is (S : fx_Sh) (i len y pc : Nat) (ls : fx_L) (st : List fx_V) (σ : fx_M) : fx_O := match fx_ca y i with
  | some (z, n, 1) => if len = 3 ∧ (st.take n).length = n ∧ (st.drop n).length ≤ 8 ∧ n ≤ fx_mL z then fx_cl1 (z, 0, fx_ent z (st.take n).reverse, [], σ) (fun r => (y, pc + 3, ls, r.1.toList ++ st.drop n, r.2)) else fx_no
  | _ => match fx_pd y i, st with
    | some 0, .inl b :: .inl a :: st => if len = 3 ∧ fx_in a ∧ fx_in b ∧ st.length ≤ 8 then fx_nx y (pc + 3) ls (.inl (if a < b then b else a) :: st) σ else fx_no
    | some 1, .inl b :: .inl a :: st => if len = 3 ∧ fx_in a ∧ fx_in b ∧ st.length ≤ 8 then fx_nx y (pc + 3) ls (.inl (if b < a then b else a) :: st) σ else fx_no
    | some 2, .inl a :: st => if len = 3 ∧ fx_in a ∧ st.length ≤ 8 then fx_nx y (pc + 3) ls (.inl (if 0 ≤ a then a else -a) :: st) σ else fx_no
    | none, .inl n :: .inl dp :: .inr (some (o1, g1)) :: .inl sp :: .inr (some (o0, g0)) :: st => if (y, i) ∈ fx_aT ∧ len = 3 ∧ fx_ak o0 = 1 ∧ fx_ak o1 = 1 ∧ 0 ≤ n ∧ 0 ≤ dp ∧ 0 ≤ sp ∧ sp + n ≤ S.1 o0 g0 ∧ dp + n ≤ S.1 o1 g1 ∧ st.length ≤ 8 then
        fx_nx y (pc + 3) ls st (fun o g k => if o = o1 ∧ g = g1 ∧ dp.toNat ≤ k ∧ k < dp.toNat + n.toNat then σ o0 g0 (sp.toNat + (k - dp.toNat)) else σ o g k) else fx_no
    | _, _ => fx_no
def fx_ret (len y : Nat) (st : List fx_V) (σ : fx_M) : fx_O := match st with
  | [.inl v] => if len = 1 ∧ (fx_rt y = some .int ∨ (fx_rt y = some .boolean ∧ (v = 0 ∨ v = 1))) then fx_rt1 (some (.inl v), σ) else fx_no
  | _ => fx_no
def fx_rea (len y : Nat) (st : List fx_V) (σ : fx_M) : fx_O := match st with
  | [.inr v] => if len = 1 ∧ fx_rt y = some (.object "FoldDye$Cloth") then fx_rt1 (some (.inr v), σ) else fx_no
  | _ => fx_no
def fx_rev (len y : Nat) (st : List fx_V) (σ : fx_M) : fx_O := match st with
  | [] => if len = 1 ∧ fx_rt y = none then fx_rt1 (none, σ) else fx_no
  | _ => fx_no
def fx_ex (S : fx_Sh) (y pc : Nat) (ls : fx_L) (st : List fx_V) (σ : fx_M) (i : Instr) (len : Nat) : fx_O := match i with
  | .iconst n => fx_pu 1 1 len y pc ls st σ n
  | .bipush n => if (Int8.ofInt n).toInt32 = Int32.ofInt n then fx_pu 2 2 len y pc ls st σ n else fx_no
  | .sipush n => if (Int16.ofInt n).toInt32 = Int32.ofInt n then fx_pu 3 3 len y pc ls st σ n else fx_no
  | .ldc k => (match fx_kd (fx_own y) k with
    | some n => fx_pu 2 2 len y pc ls st σ n
    | none => fx_no)
  | .ldc_w k => (match fx_kd (fx_own y) k with
    | some n => fx_pu 3 3 len y pc ls st σ n
    | none => fx_no)
  | .aconst_null => if len = 1 then fx_nx y (pc + 1) ls (.inr none :: st) σ else fx_no
  | .iload_n k => fx_ldi 1 k.val len y pc ls st σ
  | .iload k => fx_ldi 2 k len y pc ls st σ
  | .aload_n k => fx_lda 1 k.val len y pc ls st σ
  | .aload k => fx_lda 2 k len y pc ls st σ
  | .istore_n k => fx_sti 1 k.val len y pc ls st σ
  | .istore k => fx_sti 2 k len y pc ls st σ
  | .astore_n k => fx_sta 1 k.val len y pc ls st σ
  | .astore k => fx_sta 2 k len y pc ls st σ
  | .iinc k n => fx_inc k n len y pc ls st σ
  | .iadd => fx_bin (fun a b => a + b) (fun _ _ => true) len y pc ls st σ
  | .isub => fx_bin (fun a b => a - b) (fun _ _ => true) len y pc ls st σ
  | .imul => fx_bin (fun a b => a * b) (fun _ _ => true) len y pc ls st σ
  | .idiv => fx_bin (fun a b => a.tdiv b) (fun a b => decide (fx_in a ∧ 0 < b ∧ b ≤ 2147483647)) len y pc ls st σ
  | .irem => fx_bin (fun a b => a.tmod b) (fun a b => decide (fx_in a ∧ 0 < b ∧ b ≤ 2147483647)) len y pc ls st σ
  | .iand => fx_bin (fun a b => (Int32.ofInt a &&& Int32.ofInt b).toInt) (fun _ _ => true) len y pc ls st σ
  | .ior => fx_bin (fun a b => (Int32.ofInt a ||| Int32.ofInt b).toInt) (fun _ _ => true) len y pc ls st σ
  | .ixor => fx_bin (fun a b => (Int32.ofInt a ^^^ Int32.ofInt b).toInt) (fun _ _ => true) len y pc ls st σ
  | .ishl => fx_bin (fun a b => (Int32.ofInt a <<< (Int32.ofInt b &&& 31)).toInt) (fun _ _ => true) len y pc ls st σ
  | .ishr => fx_bin (fun a b => (Int32.ofInt a >>> (Int32.ofInt b &&& 31)).toInt) (fun _ _ => true) len y pc ls st σ
  | .iushr => fx_bin (fun a b => ((Int32.ofInt a).toUInt32 >>> ((Int32.ofInt b).toUInt32 &&& Int32.toUInt32 31)).toInt32.toInt) (fun _ _ => true) len y pc ls st σ
  | .ineg => fx_neg len y pc ls st σ
  | .dup => fx_dup len y pc ls st σ
  | .dup2 => fx_dup2 len y pc ls st σ
  | .ifCond c off => fx_if1 c off len y pc ls st σ
  | .if_icmp c off => fx_if2 c off len y pc ls st σ
  | .goto off => if len = 3 then fx_jp y pc off ls st σ else fx_no
  | .ifnull off => fx_ifn true off len y pc ls st σ
  | .ifnonnull off => fx_ifn false off len y pc ls st σ
  | .tableswitch d lo hi offs => fx_tsw d lo hi offs y pc ls st σ
  | .getfield k => fx_gf k len y pc ls st σ
  | .putfield k => fx_pf k len y pc ls st σ
  | .getstatic k => fx_gs k len y pc ls st σ
  | .iaload => fx_ld S 1 len y pc ls st σ
  | .baload => fx_ld S 2 len y pc ls st σ
  | .iastore => fx_ast S 1 len y pc ls st σ
  | .bastore => fx_ast S 2 len y pc ls st σ
  | .aaload => fx_lda2 S len y pc ls st σ
  | .arraylength => fx_len S len y pc ls st σ
  | .invokevirtual k => fx_iv k len y pc ls st σ
  | .invokestatic k => fx_is S k len y pc ls st σ
  | .ireturn => fx_ret len y st σ
  | .areturn => fx_rea len y st σ
  | .return_ => fx_rev len y st σ
  | _ => fx_no
def fx_st (S : fx_Sh) (s : fx_Z) : fx_O := match decode (fx_by s.1) s.2.1 with
  | .ok (i, len) => fx_ex S s.1 s.2.1 s.2.2.1 s.2.2.2.1 s.2.2.2.2 i len
  | .error _ => fx_no
/-- what an outcome gives, by 'f' -/
def fx_go (f : fx_Z → Option fx_R) (q : fx_O) : Option fx_R := match q with
  | .inl s => f s
  | .inr (.inl r) => some r
  | .inr (.inr (.inl (s, k))) => (f s).bind (fun r => f (k r))
  | .inr (.inr (.inr _)) => none
def fx_run (S : fx_Sh) : Nat → fx_Z → Option fx_R
  | 0, _ => none
  | n + 1, s => fx_go (fx_run S n) (fx_st S s)
theorem fx_go_mono {f g : fx_Z → Option fx_R} (h : ∀ s r, f s = some r → g s = some r) (q : fx_O) (r : fx_R) (hq : fx_go f q = some r) : fx_go g q = some r := by
  rcases q with s | r' | ⟨s, k⟩ | u
  · exact h s r hq
  · exact hq
  · simp only [fx_go] at hq ⊢
    cases hf : f s with
    | none => rw [hf] at hq; simp at hq
    | some r1 =>
      rw [hf] at hq
      rw [h s r1 hf]
      exact h _ _ hq
  · simp [fx_go] at hq
theorem fx_run_mono1 (S : fx_Sh) (n : Nat) : ∀ s r, fx_run S n s = some r → fx_run S (n + 1) s = some r := by
  induction n with
  | zero => intro s r h; simp [fx_run] at h
  | succ n ih => intro s r h; exact fx_go_mono ih _ _ h
theorem fx_run_mono (S : fx_Sh) {n m : Nat} (h : n ≤ m) (s : fx_Z) (r : fx_R) (hr : fx_run S n s = some r) : fx_run S m s = some r := by
  induction h with
  | refl => exact hr
  | step _ ih => exact fx_run_mono1 S _ s r ih
theorem fx_run_det (S : fx_Sh) {n m : Nat} {s : fx_Z} {r r' : fx_R} (h : fx_run S n s = some r) (h' : fx_run S m s = some r') : r = r' := by
  rcases Nat.le_total n m with q | q
  · exact Option.some.inj ((fx_run_mono S q s r h).symm.trans h')
  · exact Option.some.inj (h.symm.trans (fx_run_mono S q s r' h'))
noncomputable def fx_Ev (S : fx_Sh) (s : fx_Z) : Option fx_R := by
  classical exact if h : ∃ r n, fx_run S n s = some r then some (Classical.choose h) else none
theorem fx_Ev_iff {S : fx_Sh} {s : fx_Z} {r : fx_R} : fx_Ev S s = some r ↔ ∃ n, fx_run S n s = some r := by
  unfold fx_Ev
  constructor
  · intro h
    split at h
    · next hh => cases h; exact Classical.choose_spec hh
    · cases h
  · rintro ⟨n, hn⟩
    have hh : ∃ r n, fx_run S n s = some r := ⟨r, n, hn⟩
    rw [dif_pos hh]
    obtain ⟨k, hk⟩ := Classical.choose_spec hh
    rw [fx_run_det S hk hn]
theorem fx_Ev_eq (S : fx_Sh) (s : fx_Z) : fx_Ev S s = fx_go (fx_Ev S) (fx_st S s) := by
  have h1 : ∀ r, fx_Ev S s = some r → fx_go (fx_Ev S) (fx_st S s) = some r := by
    intro r h
    obtain ⟨n, hn⟩ := fx_Ev_iff.mp h
    cases n with
    | zero => simp [fx_run] at hn
    | succ n => exact fx_go_mono (fun s r h => fx_Ev_iff.mpr ⟨n, h⟩) _ _ hn
  have h2 : ∀ r, fx_go (fx_Ev S) (fx_st S s) = some r → fx_Ev S s = some r := by
    intro r h
    refine fx_Ev_iff.mpr ?_
    rcases hq : fx_st S s with s' | r' | ⟨s', k⟩ | u
    · rw [hq] at h
      obtain ⟨n, hn⟩ := fx_Ev_iff.mp h
      exact ⟨n + 1, by show fx_go (fx_run S n) (fx_st S s) = some r; rw [hq]; exact hn⟩
    · rw [hq] at h
      exact ⟨1, by show fx_go (fx_run S 0) (fx_st S s) = some r; rw [hq]; exact h⟩
    · rw [hq] at h
      simp only [fx_go] at h
      cases hf : fx_Ev S s' with
      | none => rw [hf] at h; simp at h
      | some r1 =>
        rw [hf] at h
        obtain ⟨n, hn⟩ := fx_Ev_iff.mp hf
        obtain ⟨m, hm⟩ := fx_Ev_iff.mp (show fx_Ev S (k r1) = some r from h)
        refine ⟨max n m + 1, ?_⟩
        show fx_go (fx_run S (max n m)) (fx_st S s) = some r
        rw [hq]
        simp only [fx_go]
        rw [fx_run_mono S (Nat.le_max_left n m) _ _ hn]
        exact fx_run_mono S (Nat.le_max_right n m) _ _ hm
    · rw [hq] at h
      simp [fx_go] at h
  cases ha : fx_Ev S s with
  | some r => exact (h1 r ha).symm
  | none =>
    cases hb : fx_go (fx_Ev S) (fx_st S s) with
    | none => rfl
    | some r => rw [h2 r hb] at ha; cases ha
