theorem y_pos {n : Nat} (h : n < 2147483648) : ¬ nI n < 0 := nI_pos h
theorem y_inb {n N : Nat} (h : n < N) (hN : N < 2147483648) : inb (nI n) N = true := by
  unfold inb
  rw [nI_clamp (show n < 2 ^ 31 by omega), decide_eq_false (nI_pos (show n < 2 ^ 31 by omega)), decide_eq_false (by omega)]
  rfl
theorem y_cl {n : Nat} (h : n < 2147483648) : (nI n).toNatClampNeg = n := nI_clamp h
theorem y_Ile {a b : Nat} (ha : a < 2147483648) (hb : b < 2147483648) : nI a ≤ nI b ↔ a ≤ b := nI_leI ha hb
theorem y_Ilt {a b : Nat} (ha : a < 2147483648) (hb : b < 2147483648) : nI a < nI b ↔ a < b := nI_ltI ha hb
theorem y_Ieq {a b : Nat} (ha : a < 2147483648) (hb : b < 2147483648) : nI a = nI b ↔ a = b := nI_eq ha hb
theorem y_Isub {a b : Nat} (h : b ≤ a) : nI a - nI b = nI (a - b) := (Int32.ofNat_sub a b h).symm
theorem y_Imul (a b : Nat) : nI a * nI b = nI (a * b) := (Int32.ofNat_mul a b).symm
theorem y_Idiv {a b : Nat} (ha : a < 2147483648) (hb : b < 2147483648) : nI a / nI b = nI (a / b) := (Int32.ofNat_div ha hb).symm
theorem y_Irem {a b : Nat} (ha : a < 2147483648) (hb : b < 2147483648) : nI a - nI a / nI b * nI b = nI (a % b) := by
  rw [y_Idiv ha hb, y_Imul, y_Isub (Nat.div_mul_le_self a b)]
  congr 1
  have := Nat.div_add_mod a b
  have h2 := Nat.mul_comm b (a / b)
  omega
theorem y_Iadd (a b : Nat) : nI a + nI b = nI (a + b) := nI_add a b
theorem y_Lle {a b : Nat} (ha : a < 9223372036854775808) (hb : b < 9223372036854775808) : lN a ≤ lN b ↔ a ≤ b := Int64.ofNat_le_iff_le ha hb
theorem y_Llt {a b : Nat} (ha : a < 9223372036854775808) (hb : b < 9223372036854775808) : lN a < lN b ↔ a < b := Int64.ofNat_lt_iff_lt ha hb
theorem y_Leq {a b : Nat} (ha : a < 9223372036854775808) (hb : b < 9223372036854775808) : lN a = lN b ↔ a = b := fb_lN_inj ha hb
theorem y_Ladd (a b : Nat) : lN a + lN b = lN (a + b) := lN_add a b
theorem y_Lmul (a b : Nat) : lN a * lN b = lN (a * b) := lN_mul a b
theorem y_Lsub {a b : Nat} (h : b ≤ a) : lN a - lN b = lN (a - b) := lN_sub h
theorem y_Ldiv {a b : Nat} (ha : a < 9223372036854775808) (hb : b < 9223372036854775808) : lN a / lN b = lN (a / b) := (Int64.ofNat_div ha hb).symm
theorem y_Lrem {a b : Nat} (ha : a < 9223372036854775808) (hb : b < 9223372036854775808) : lN a - lN a / lN b * lN b = lN (a % b) := by
  rw [y_Ldiv ha hb, y_Lmul, y_Lsub (Nat.div_mul_le_self a b)]
  congr 1
  have := Nat.div_add_mod a b
  have h2 := Nat.mul_comm b (a / b)
  omega
theorem y_I2l {n : Nat} (h : n < 2147483648) : (nI n).toInt64 = lN n := nI_l h
theorem y_L2i (n : Nat) : (lN n).toInt32 = nI n := lN_i n
theorem y_or (a b : Nat) : nI a ||| nI b = nI (a ||| b) := fa_or a b
theorem y_and (a b : Nat) : nI a &&& nI b = nI (a &&& b) := fa_and a b
theorem y_shl : ∀ t, t < 31 → (1 : Int32) <<< (nI t &&& 31) = nI (2 ^ t) := by decide +kernel
theorem y_bt {s i : Nat} (hi : i < 32) : bt (nI s) i = s.testBit i := by
  show (BitVec.ofNat 32 s).getLsbD i = _
  rw [BitVec.getLsbD_ofNat, decide_eq_true hi, Bool.true_and]
theorem y_shr {s t : Nat} (hs : s < 2147483648) (ht : t < 32) : nI s >>> (nI t &&& 31) = nI (s >>> t) := by
  apply b_ext
  intro i hi
  rw [b_sshr t ht _ hi, y_bt hi, Nat.testBit_shiftRight]
  by_cases h : t + i < 32
  · rw [if_pos h, y_bt h]
  · rw [if_neg h, y_bt (by omega), Nat.testBit_lt_two_pow (show s < 2 ^ 31 by omega), Nat.testBit_lt_two_pow]
    exact Nat.lt_of_lt_of_le (show s < 2 ^ 31 by omega) (Nat.pow_le_pow_right (by omega) (by omega))
theorem y_bit {s t : Nat} (hs : s < 2147483648) (ht : t < 32) : (nI s >>> (nI t &&& 31)) &&& 1 = nI (if s.testBit t = true then 1 else 0) := by
  rw [y_shr hs ht]
  show nI (s >>> t) &&& nI 1 = _
  rw [y_and]
  congr 1
  rw [Nat.and_one_is_mod, Nat.shiftRight_eq_div_pow, Nat.testBit_eq_decide_div_mod_eq]
  have := Nat.mod_lt (s / 2 ^ t) (show 0 < 2 by omega)
  by_cases h : s / 2 ^ t % 2 = 1
  · simp [h]
  · simp [h]; omega
theorem y_bit1 {s t : Nat} (hs : s < 2147483648) (ht : t < 32) : ((nI s >>> (nI t &&& 31)) &&& 1 = 1) ↔ s.testBit t = true := by
  rw [y_bit hs ht]
  by_cases h : s.testBit t = true
  · rw [if_pos h]; exact ⟨fun _ => h, fun _ => rfl⟩
  · rw [if_neg h]; exact ⟨fun e => absurd e (by decide), fun e => absurd e h⟩
theorem y_bit0 {s t : Nat} (hs : s < 2147483648) (ht : t < 32) : ((nI s >>> (nI t &&& 31)) &&& 1 = 0) ↔ s.testBit t = false := by
  rw [y_bit hs ht]
  by_cases h : s.testBit t = true
  · rw [if_pos h, h]; exact ⟨fun e => absurd e (by decide), fun e => nomatch e⟩
  · rw [if_neg h]; exact ⟨fun _ => by simpa using h, fun _ => rfl⟩
theorem y_of (v : Int32) : v < 0 ∨ ∃ j, j < 2147483648 ∧ v = nI j := by
  by_cases h : v < 0
  · exact Or.inl h
  · obtain ⟨j, hj, e⟩ := nI_of h; exact Or.inr ⟨j, hj, e⟩
theorem y_neg {v : Int32} (h : v < 0) {n : Nat} (hn : n < 2147483648) : v < nI n ∧ ¬ nI n ≤ v ∧ ¬ nI n < v ∧ ¬ v = nI n ∧ v ≤ nI n := by
  have h1 := (fa_lt v 0).mp h
  have h0 : (0 : Int32).toInt = 0 := rfl
  have h2 : (nI n).toInt = (n : Int) := nI_toInt hn
  rw [fa_lt, fa_le, fa_lt, fa_eq, fa_le, h2]
  omega
theorem y_c0 : (0 : Int32) = nI 0 := rfl
theorem y_c1 : (1 : Int32) = nI 1 := rfl
theorem y_c2 : (2 : Int32) = nI 2 := rfl
theorem y_c3 : (3 : Int32) = nI 3 := rfl
theorem y_c4 : (4 : Int32) = nI 4 := rfl
theorem y_c6 : (6 : Int32) = nI 6 := rfl
theorem y_c7 : (7 : Int32) = nI 7 := rfl
theorem y_c8 : (8 : Int32) = nI 8 := rfl
theorem y_c10 : (10 : Int32) = nI 10 := rfl
theorem y_c13 : (13 : Int32) = nI 13 := rfl
theorem y_c14 : (14 : Int32) = nI 14 := rfl
theorem y_c20 : (20 : Int32) = nI 20 := rfl
theorem y_c21 : (21 : Int32) = nI 21 := rfl
theorem y_c40 : (40 : Int32) = nI 40 := rfl
theorem y_c49 : (49 : Int32) = nI 49 := rfl
theorem y_c57 : (57 : Int32) = nI 57 := rfl
theorem y_c106 : (106 : Int32) = nI 106 := rfl
theorem y_c128 : (128 : Int32) = nI 128 := rfl
theorem y_c155 : (155 : Int32) = nI 155 := rfl
theorem y_c204 : (204 : Int32) = nI 204 := rfl
theorem y_c253 : (253 : Int32) = nI 253 := rfl
theorem y_c353 : (353 : Int32) = nI 353 := rfl
theorem y_d0 : (0 : Int64) = lN 0 := rfl
theorem y_d1 : (1 : Int64) = lN 1 := rfl
theorem y_d3 : (3 : Int64) = lN 3 := rfl
theorem y_d7 : (7 : Int64) = lN 7 := rfl
theorem y_d10 : (10 : Int64) = lN 10 := rfl
theorem y_dk : (1000 : Int64) = lN 1000 := rfl
theorem y_dR : (1000000000000 : Int64) = lN 1000000000000 := rfl
theorem y_dS : (1000000000000000 : Int64) = lN 1000000000000000 := rfl
theorem y_F1 {α : Type} {c : Prop} [Decidable c] {a b : α} (h : c) : (if c then a else b) = a := if_pos h
theorem y_sz {i n : Nat} {f : Nat → Int64} {v : Int64} (h : n < 2147483648) : vp_updL f (nI n).toNatClampNeg v i = if i = n then v else f i := by
  rw [y_cl h]; rfl
theorem y_sI {i n : Nat} {f : Nat → Int32} {v : Int32} : upd f n v i = if i = n then v else f i := rfl
theorem y_gge (x y : Int64) : (nI 0 ≤ lg_cmp x y) ↔ y ≤ x := lg_cmp_ge x y
theorem y_gle (x y : Int64) : (lg_cmp x y ≤ nI 0) ↔ x ≤ y := lg_cmp_le x y
theorem y_ggt (x y : Int64) : (nI 0 < lg_cmp x y) ↔ y < x := lg_cmp_gt x y
theorem y_glt (x y : Int64) : (lg_cmp x y < nI 0) ↔ x < y := lg_cmp_lt x y
theorem y_geq (x y : Int64) : (lg_cmp x y = nI 0) ↔ x = y := lg_cmp_eq x y
theorem y_or1 {x : Int32} {s t : Nat} (h : t < 31) : nI s ||| ((1 : Int32) <<< (nI t &&& 31)) = nI (s ||| 2 ^ t) := by rw [y_shl t h, y_or]
theorem y_shn : ∀ t, t < 31 → nI 1 <<< (nI t &&& 31) = nI (2 ^ t) := y_shl
theorem y_bn1 {s t : Nat} (hs : s < 2147483648) (ht : t < 32) : ((nI s >>> (nI t &&& 31)) &&& nI 1 = nI 1) ↔ s.testBit t = true := y_bit1 hs ht
theorem y_bn0 {s t : Nat} (hs : s < 2147483648) (ht : t < 32) : ((nI s >>> (nI t &&& 31)) &&& nI 1 = nI 0) ↔ s.testBit t = false := y_bit0 hs ht
