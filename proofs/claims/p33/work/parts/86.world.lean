def pu (ρ : Nat → Nat) (i v : Nat) : Nat → Nat := fun j => if j = i then v else ρ j
theorem pu_e {ρ : Nat → Nat} {i v j : Nat} (h : j = i) : pu ρ i v j = v := if_pos h
theorem pu_n {ρ : Nat → Nat} {i v j : Nat} (h : ¬ j = i) : pu ρ i v j = ρ j := if_neg h
theorem y_ue {f : Nat → Int64} {k j : Nat} {x : Int64} (h : j = k) : vp_updL f k x j = x := if_pos h
theorem y_un {f : Nat → Int64} {k j : Nat} {x : Int64} (h : ¬ j = k) : vp_updL f k x j = f j := if_neg h
theorem y_ve {f : Nat → Int32} {k j : Nat} {x : Int32} (h : j = k) : upd f k x j = x := if_pos h
theorem y_vn {f : Nat → Int32} {k j : Nat} {x : Int32} (h : ¬ j = k) : upd f k x j = f j := if_neg h
/-- the class's world, whole -/
def WRf (w : TW) (ρ : Nat → Nat) (σ : Nat → Int64) : Prop :=
  WRp w ρ ∧ W_weeks w = nI (ρ 305) ∧ W_runs w = nI (ρ 306) ∧ W_surprises w = nI (ρ 307) ∧ (∀ i, i < 4 → W_sums w i = σ i) ∧ (∀ i, i < 3 → W_settings w i = nI (ρ (302 + i))) ∧
  (∀ c, c < 21 → 0 < ρ (155 + yq c) → W_ages w c = nI (ρ (204 + yq c))) ∧ (∀ c, c < 21 → W_surprisesOf w c = nI (ρ (253 + yq c))) ∧
  (∀ k, k < 10 → k < ρ 307 → ∀ j, j < 4 → W_told w ((ρ 307 - 1 - k) % 10 * 4 + j) = nI (ρ (313 + 4 * k + j)))
/-- the reference's row, whole -/
def RRf (r : Nat → Int64) (ρ : Nat → Nat) (σ : Nat → Int64) : Prop := (∀ i, i < 353 → (i < 308 ∨ 312 ≤ i) → r i = lN (ρ i)) ∧ ∀ i, i < 4 → r (308 + i) = σ i
/-- what is always so -/
def INf (N : Nat) (ρ : Nat → Nat) : Prop :=
  INp ρ ∧ (1 ≤ ρ 302 ∧ ρ 302 ≤ 1000 ∧ 1 ≤ ρ 303 ∧ ρ 303 ≤ 10 ∧ ρ 304 ≤ 20) ∧ (ρ 305 ≤ N ∧ ρ 306 ≤ N ∧ ρ 307 ≤ N ∧ ρ 312 = min 10 (ρ 307)) ∧ (∀ c, c < 21 → ρ (204 + yq c) ≤ 20 ∧ ρ (253 + yq c) ≤ N) ∧
  (∀ q, q < 49 → (∀ c, c < 21 → yq c ≠ q) → ρ (8 + q) = 0 ∧ ρ (155 + q) = 0 ∧ ρ (204 + q) = 0)
theorem RRf.p {r : Nat → Int64} {ρ : Nat → Nat} {σ : Nat → Int64} (h : RRf r ρ σ) : RRp r ρ := fun i hi => h.1 i (by omega) (by omega)
theorem INf.mono {N M : Nat} {ρ : Nat → Nat} (h : INf N ρ) (hm : N ≤ M) : INf M ρ := by
  obtain ⟨h1, h2, h3, h4, h5⟩ := h
  exact ⟨h1, h2, ⟨by omega, by omega, by omega, h3.2.2.2⟩, fun c hc => ⟨(h4 c hc).1, Nat.le_trans (h4 c hc).2 hm⟩, h5⟩
def yb (x : Nat) : Nat := if 0 < x then 1 else 0
def yct (f : Nat → Nat) : Nat → Nat
  | 0 => 0
  | n + 1 => yct f n + yb (f n)
theorem yb_1 {x : Nat} (h : 0 < x) : yb x = 1 := if_pos h
theorem yb_0 {x : Nat} (h : ¬ 0 < x) : yb x = 0 := if_neg h
theorem yct_le (f : Nat → Nat) : ∀ n, yct f n ≤ n := by
  intro n
  induction n with
  | zero => exact Nat.le_refl _
  | succ n ih =>
    rw [yct]
    unfold yb
    split <;> omega
theorem yct_q {f : Nat → Nat} (hz : ∀ q, q < 49 → (∀ c, c < 21 → yq c ≠ q) → f q = 0) : yct f 49 = yct (fun c => f (yq c)) 21 := by
  have e1 : yct f 49 = 0 + yb (f 0) + yb (f 1) + yb (f 2) + yb (f 3) + yb (f 4) + yb (f 5) + yb (f 6) + yb (f 7) + yb (f 8) + yb (f 9) + yb (f 10) + yb (f 11) + yb (f 12) + yb (f 13) + yb (f 14) + yb (f 15) + yb (f 16) + yb (f 17) + yb (f 18) + yb (f 19) + yb (f 20) + yb (f 21) + yb (f 22) + yb (f 23) + yb (f 24) + yb (f 25) + yb (f 26) + yb (f 27) + yb (f 28) + yb (f 29) + yb (f 30) + yb (f 31) + yb (f 32) + yb (f 33) + yb (f 34) + yb (f 35) + yb (f 36) + yb (f 37) + yb (f 38) + yb (f 39) + yb (f 40) + yb (f 41) + yb (f 42) + yb (f 43) + yb (f 44) + yb (f 45) + yb (f 46) + yb (f 47) + yb (f 48) := rfl
  have e2 : yct (fun c => f (yq c)) 21 = 0 + yb (f 1) + yb (f 2) + yb (f 9) + yb (f 3) + yb (f 10) + yb (f 17) + yb (f 4) + yb (f 11) + yb (f 18) + yb (f 25) + yb (f 5) + yb (f 12) + yb (f 19) + yb (f 26) + yb (f 33) + yb (f 6) + yb (f 13) + yb (f 20) + yb (f 27) + yb (f 34) + yb (f 41) := rfl
  have z0 : yb (f 0) = 0 := by rw [hz 0 (by omega) (by decide)]; rfl
  have z7 : yb (f 7) = 0 := by rw [hz 7 (by omega) (by decide)]; rfl
  have z8 : yb (f 8) = 0 := by rw [hz 8 (by omega) (by decide)]; rfl
  have z14 : yb (f 14) = 0 := by rw [hz 14 (by omega) (by decide)]; rfl
  have z15 : yb (f 15) = 0 := by rw [hz 15 (by omega) (by decide)]; rfl
  have z16 : yb (f 16) = 0 := by rw [hz 16 (by omega) (by decide)]; rfl
  have z21 : yb (f 21) = 0 := by rw [hz 21 (by omega) (by decide)]; rfl
  have z22 : yb (f 22) = 0 := by rw [hz 22 (by omega) (by decide)]; rfl
  have z23 : yb (f 23) = 0 := by rw [hz 23 (by omega) (by decide)]; rfl
  have z24 : yb (f 24) = 0 := by rw [hz 24 (by omega) (by decide)]; rfl
  have z28 : yb (f 28) = 0 := by rw [hz 28 (by omega) (by decide)]; rfl
  have z29 : yb (f 29) = 0 := by rw [hz 29 (by omega) (by decide)]; rfl
  have z30 : yb (f 30) = 0 := by rw [hz 30 (by omega) (by decide)]; rfl
  have z31 : yb (f 31) = 0 := by rw [hz 31 (by omega) (by decide)]; rfl
  have z32 : yb (f 32) = 0 := by rw [hz 32 (by omega) (by decide)]; rfl
  have z35 : yb (f 35) = 0 := by rw [hz 35 (by omega) (by decide)]; rfl
  have z36 : yb (f 36) = 0 := by rw [hz 36 (by omega) (by decide)]; rfl
  have z37 : yb (f 37) = 0 := by rw [hz 37 (by omega) (by decide)]; rfl
  have z38 : yb (f 38) = 0 := by rw [hz 38 (by omega) (by decide)]; rfl
  have z39 : yb (f 39) = 0 := by rw [hz 39 (by omega) (by decide)]; rfl
  have z40 : yb (f 40) = 0 := by rw [hz 40 (by omega) (by decide)]; rfl
  have z42 : yb (f 42) = 0 := by rw [hz 42 (by omega) (by decide)]; rfl
  have z43 : yb (f 43) = 0 := by rw [hz 43 (by omega) (by decide)]; rfl
  have z44 : yb (f 44) = 0 := by rw [hz 44 (by omega) (by decide)]; rfl
  have z45 : yb (f 45) = 0 := by rw [hz 45 (by omega) (by decide)]; rfl
  have z46 : yb (f 46) = 0 := by rw [hz 46 (by omega) (by decide)]; rfl
  have z47 : yb (f 47) = 0 := by rw [hz 47 (by omega) (by decide)]; rfl
  have z48 : yb (f 48) = 0 := by rw [hz 48 (by omega) (by decide)]; rfl
  rw [e1, e2]
  omega
theorem c_isIn {a lo hi : Nat} (h1 : a < 2147483648) (h2 : lo < 2147483648) (h3 : hi < 2147483648) : f_X8_isIn (nI a) (nI lo) (nI hi) = some (if lo ≤ a ∧ a ≤ hi then nI 1 else nI 0, ()) := by
  by_cases q1 : lo ≤ a
  · by_cases q2 : a ≤ hi
    · simp (disch := omega) only [y_c0, y_c1, y_c10, y_c100, y_c1000, y_c10000, y_c100000, y_c106, y_c112, y_c116, y_c127, y_c128, y_c13, y_c14, y_c155, y_c2, y_c20, y_c200, y_c204, y_c21, y_c253, y_c255, y_c3, y_c30, y_c302, y_c303, y_c304, y_c305, y_c306, y_c307, y_c308, y_c309, y_c310, y_c311, y_c312, y_c313, y_c314, y_c315, y_c316, y_c32, y_c33, y_c353, y_c39, y_c4, y_c40, y_c44, y_c4589, y_c48, y_c49, y_c5, y_c512, y_c54, y_c57, y_c59, y_c6, y_c62, y_c64, y_c7, y_c8, y_c9, y_c99, y_c9999, y_d0, y_d1, y_d10, y_d100, y_d1000000, y_d1442695040888963407, y_d2, y_d20, y_d255, y_d3, y_d4, y_d40, y_d4294967295, y_d48, y_d5, y_d50, y_d54, y_d57, y_d6364136223846793005, y_d7, y_d9, y_d9999, y_dR, y_dS, y_dk, y_nar0, y_nar1, y_Ilt, y_Ile, y_Ieq, y_Iadd, y_Imul, y_Idiv, y_Llt, y_Lle, y_Leq, y_Ladd, y_Lmul, y_Ldiv, y_I2l, y_L2i, y_shn, y_or, y_and, y_bn1, y_bn0, y_inb, y_cl, y_gle, y_gge, y_ggt, y_glt, y_geq, if_pos, if_neg, if_true, if_false, Option.bind_some, f_X8_isIn]
    · simp (disch := omega) only [y_c0, y_c1, y_c10, y_c100, y_c1000, y_c10000, y_c100000, y_c106, y_c112, y_c116, y_c127, y_c128, y_c13, y_c14, y_c155, y_c2, y_c20, y_c200, y_c204, y_c21, y_c253, y_c255, y_c3, y_c30, y_c302, y_c303, y_c304, y_c305, y_c306, y_c307, y_c308, y_c309, y_c310, y_c311, y_c312, y_c313, y_c314, y_c315, y_c316, y_c32, y_c33, y_c353, y_c39, y_c4, y_c40, y_c44, y_c4589, y_c48, y_c49, y_c5, y_c512, y_c54, y_c57, y_c59, y_c6, y_c62, y_c64, y_c7, y_c8, y_c9, y_c99, y_c9999, y_d0, y_d1, y_d10, y_d100, y_d1000000, y_d1442695040888963407, y_d2, y_d20, y_d255, y_d3, y_d4, y_d40, y_d4294967295, y_d48, y_d5, y_d50, y_d54, y_d57, y_d6364136223846793005, y_d7, y_d9, y_d9999, y_dR, y_dS, y_dk, y_nar0, y_nar1, y_Ilt, y_Ile, y_Ieq, y_Iadd, y_Imul, y_Idiv, y_Llt, y_Lle, y_Leq, y_Ladd, y_Lmul, y_Ldiv, y_I2l, y_L2i, y_shn, y_or, y_and, y_bn1, y_bn0, y_inb, y_cl, y_gle, y_gge, y_ggt, y_glt, y_geq, if_pos, if_neg, if_true, if_false, Option.bind_some, f_X8_isIn]
  · simp (disch := omega) only [y_c0, y_c1, y_c10, y_c100, y_c1000, y_c10000, y_c100000, y_c106, y_c112, y_c116, y_c127, y_c128, y_c13, y_c14, y_c155, y_c2, y_c20, y_c200, y_c204, y_c21, y_c253, y_c255, y_c3, y_c30, y_c302, y_c303, y_c304, y_c305, y_c306, y_c307, y_c308, y_c309, y_c310, y_c311, y_c312, y_c313, y_c314, y_c315, y_c316, y_c32, y_c33, y_c353, y_c39, y_c4, y_c40, y_c44, y_c4589, y_c48, y_c49, y_c5, y_c512, y_c54, y_c57, y_c59, y_c6, y_c62, y_c64, y_c7, y_c8, y_c9, y_c99, y_c9999, y_d0, y_d1, y_d10, y_d100, y_d1000000, y_d1442695040888963407, y_d2, y_d20, y_d255, y_d3, y_d4, y_d40, y_d4294967295, y_d48, y_d5, y_d50, y_d54, y_d57, y_d6364136223846793005, y_d7, y_d9, y_d9999, y_dR, y_dS, y_dk, y_nar0, y_nar1, y_Ilt, y_Ile, y_Ieq, y_Iadd, y_Imul, y_Idiv, y_Llt, y_Lle, y_Leq, y_Ladd, y_Lmul, y_Ldiv, y_I2l, y_L2i, y_shn, y_or, y_and, y_bn1, y_bn0, y_inb, y_cl, y_gle, y_gge, y_ggt, y_glt, y_geq, if_pos, if_neg, if_true, if_false, Option.bind_some, f_X8_isIn]
theorem c_isInN {v : Int32} (h : v < 0) {lo hi : Nat} (h2 : lo < 2147483648) : f_X8_isIn v (nI lo) (nI hi) = some (nI 0, ()) := by
  unfold f_X8_isIn
  rw [if_pos (y_neg h h2).1]; rfl
theorem c_hasT {w : TW} {ρ : Nat → Nat} (hw : WRp w ρ) (h7 : ρ 0 ≤ 7) {j : Nat} (hj : j < 2147483648) : f_X7_hasTable w (nI j) = some (if j < ρ 0 then nI 1 else nI 0, ()) := by
  by_cases q : j < ρ 0
  · simp (disch := omega) only [y_c0, y_c1, y_c10, y_c100, y_c1000, y_c10000, y_c100000, y_c106, y_c112, y_c116, y_c127, y_c128, y_c13, y_c14, y_c155, y_c2, y_c20, y_c200, y_c204, y_c21, y_c253, y_c255, y_c3, y_c30, y_c302, y_c303, y_c304, y_c305, y_c306, y_c307, y_c308, y_c309, y_c310, y_c311, y_c312, y_c313, y_c314, y_c315, y_c316, y_c32, y_c33, y_c353, y_c39, y_c4, y_c40, y_c44, y_c4589, y_c48, y_c49, y_c5, y_c512, y_c54, y_c57, y_c59, y_c6, y_c62, y_c64, y_c7, y_c8, y_c9, y_c99, y_c9999, y_d0, y_d1, y_d10, y_d100, y_d1000000, y_d1442695040888963407, y_d2, y_d20, y_d255, y_d3, y_d4, y_d40, y_d4294967295, y_d48, y_d5, y_d50, y_d54, y_d57, y_d6364136223846793005, y_d7, y_d9, y_d9999, y_dR, y_dS, y_dk, y_nar0, y_nar1, y_Ilt, y_Ile, y_Ieq, y_Iadd, y_Imul, y_Idiv, y_Llt, y_Lle, y_Leq, y_Ladd, y_Lmul, y_Ldiv, y_I2l, y_L2i, y_shn, y_or, y_and, y_bn1, y_bn0, y_inb, y_cl, y_gle, y_gge, y_ggt, y_glt, y_geq, if_pos, if_neg, if_true, if_false, Option.bind_some, f_X7_hasTable, hw.1]
  · simp (disch := omega) only [y_c0, y_c1, y_c10, y_c100, y_c1000, y_c10000, y_c100000, y_c106, y_c112, y_c116, y_c127, y_c128, y_c13, y_c14, y_c155, y_c2, y_c20, y_c200, y_c204, y_c21, y_c253, y_c255, y_c3, y_c30, y_c302, y_c303, y_c304, y_c305, y_c306, y_c307, y_c308, y_c309, y_c310, y_c311, y_c312, y_c313, y_c314, y_c315, y_c316, y_c32, y_c33, y_c353, y_c39, y_c4, y_c40, y_c44, y_c4589, y_c48, y_c49, y_c5, y_c512, y_c54, y_c57, y_c59, y_c6, y_c62, y_c64, y_c7, y_c8, y_c9, y_c99, y_c9999, y_d0, y_d1, y_d10, y_d100, y_d1000000, y_d1442695040888963407, y_d2, y_d20, y_d255, y_d3, y_d4, y_d40, y_d4294967295, y_d48, y_d5, y_d50, y_d54, y_d57, y_d6364136223846793005, y_d7, y_d9, y_d9999, y_dR, y_dS, y_dk, y_nar0, y_nar1, y_Ilt, y_Ile, y_Ieq, y_Iadd, y_Imul, y_Idiv, y_Llt, y_Lle, y_Leq, y_Ladd, y_Lmul, y_Ldiv, y_I2l, y_L2i, y_shn, y_or, y_and, y_bn1, y_bn0, y_inb, y_cl, y_gle, y_gge, y_ggt, y_glt, y_geq, if_pos, if_neg, if_true, if_false, Option.bind_some, f_X7_hasTable, hw.1]
theorem c_hasTN {w : TW} {v : Int32} (h : v < 0) : f_X7_hasTable w v = some (nI 0, ()) := by
  unfold f_X7_hasTable
  rw [if_pos h]; rfl
theorem c_hasTs {w : TW} {ρ : Nat → Nat} (hw : WRp w ρ) (h7 : ρ 0 ≤ 7) {j : Nat} (hj : j < 2147483648) : f_X7_hasTables w (nI j) = some (if j < 2 ^ ρ 0 then nI 1 else nI 0, ()) := by
  have e : j >>> ρ 0 = 0 ↔ j < 2 ^ ρ 0 := by
    rw [Nat.shiftRight_eq_div_pow, Nat.div_eq_zero_iff]
    have := Nat.pow_pos (n := ρ 0) (show 0 < 2 by omega)
    omega
  have hb : j >>> ρ 0 ≤ j := by rw [Nat.shiftRight_eq_div_pow]; exact Nat.div_le_self _ _
  unfold f_X7_hasTables
  rw [hw.1, if_neg (y_pos hj), y_shr hj (by omega)]
  by_cases q : j < 2 ^ ρ 0
  · rw [if_pos q, e.mpr q]; exact if_pos rfl
  · rw [if_neg q, if_neg (show ¬ nI (j >>> ρ 0) = (0 : Int32) from fun z => q (e.mp ((y_Ieq (b := 0) (by omega) (by omega)).mp z)))]; rfl
theorem c_hasTsN {w : TW} {v : Int32} (h : v < 0) : f_X7_hasTables w v = some (nI 0, ()) := by
  unfold f_X7_hasTables
  rw [if_pos h]; rfl
theorem y_Lm1 {j : Nat} (h : j < 9223372036854775808) : lN 0 - lN 1 < lN j := by
  rw [Int64.lt_iff_toInt_lt, show (lN 0 - lN 1 : Int64).toInt = -1 from rfl, show (lN j).toInt = (j : Int) from Int64.toInt_ofNat_of_lt h]
  omega
theorem x_inN {v : Int32} (h : v < 0) {lo : Nat} (h2 : lo < 2147483648) (hi : Int64) : f_X9_in v.toInt64 (lN lo) hi = some (nI 0, ()) := by
  unfold f_X9_in
  have e : lg_cmp v.toInt64 (lN lo) < (0 : Int32) := by
    rw [lg_cmp_lt, ← nI_l (show lo < 2 ^ 31 by omega), fa_wide_lt]
    exact (y_neg h h2).1
  rw [if_pos e]; rfl
theorem x_isT {r : Nat → Int64} {ρ : Nat → Nat} (hr : RRp r ρ) (h7 : ρ 0 ≤ 7) {j : Nat} (hj : j < 2147483648) : f_X9_isTable 353 r (nI j) = some (if j < ρ 0 then nI 1 else nI 0, ()) := by
  have r0 := hr 0 (by omega)
  by_cases q0 : ρ 0 = 0
  · rw [q0] at r0
    simp (disch := omega) only [y_c0, y_c1, y_c10, y_c100, y_c1000, y_c10000, y_c100000, y_c106, y_c112, y_c116, y_c127, y_c128, y_c13, y_c14, y_c155, y_c2, y_c20, y_c200, y_c204, y_c21, y_c253, y_c255, y_c3, y_c30, y_c302, y_c303, y_c304, y_c305, y_c306, y_c307, y_c308, y_c309, y_c310, y_c311, y_c312, y_c313, y_c314, y_c315, y_c316, y_c32, y_c33, y_c353, y_c39, y_c4, y_c40, y_c44, y_c4589, y_c48, y_c49, y_c5, y_c512, y_c54, y_c57, y_c59, y_c6, y_c62, y_c64, y_c7, y_c8, y_c9, y_c99, y_c9999, y_d0, y_d1, y_d10, y_d100, y_d1000000, y_d1442695040888963407, y_d2, y_d20, y_d255, y_d3, y_d4, y_d40, y_d4294967295, y_d48, y_d5, y_d50, y_d54, y_d57, y_d6364136223846793005, y_d7, y_d9, y_d9999, y_dR, y_dS, y_dk, y_nar0, y_nar1, y_Ilt, y_Ile, y_Ieq, y_Iadd, y_Imul, y_Idiv, y_Llt, y_Lle, y_Leq, y_Ladd, y_Lmul, y_Ldiv, y_I2l, y_L2i, y_shn, y_or, y_and, y_bn1, y_bn0, y_inb, y_cl, y_gle, y_gge, y_ggt, y_glt, y_geq, if_pos, if_neg, if_true, if_false, Option.bind_some, f_X9_isTable, f_X9_in, r0, y_Lm1, q0]
  · by_cases q : j < ρ 0
    · simp (disch := omega) only [y_c0, y_c1, y_c10, y_c100, y_c1000, y_c10000, y_c100000, y_c106, y_c112, y_c116, y_c127, y_c128, y_c13, y_c14, y_c155, y_c2, y_c20, y_c200, y_c204, y_c21, y_c253, y_c255, y_c3, y_c30, y_c302, y_c303, y_c304, y_c305, y_c306, y_c307, y_c308, y_c309, y_c310, y_c311, y_c312, y_c313, y_c314, y_c315, y_c316, y_c32, y_c33, y_c353, y_c39, y_c4, y_c40, y_c44, y_c4589, y_c48, y_c49, y_c5, y_c512, y_c54, y_c57, y_c59, y_c6, y_c62, y_c64, y_c7, y_c8, y_c9, y_c99, y_c9999, y_d0, y_d1, y_d10, y_d100, y_d1000000, y_d1442695040888963407, y_d2, y_d20, y_d255, y_d3, y_d4, y_d40, y_d4294967295, y_d48, y_d5, y_d50, y_d54, y_d57, y_d6364136223846793005, y_d7, y_d9, y_d9999, y_dR, y_dS, y_dk, y_nar0, y_nar1, y_Ilt, y_Ile, y_Ieq, y_Iadd, y_Imul, y_Idiv, y_Llt, y_Lle, y_Leq, y_Ladd, y_Lmul, y_Ldiv, y_I2l, y_L2i, y_shn, y_or, y_and, y_bn1, y_bn0, y_inb, y_cl, y_gle, y_gge, y_ggt, y_glt, y_geq, if_pos, if_neg, if_true, if_false, Option.bind_some, f_X9_isTable, r0, y_Lsub, x_in]
    · simp (disch := omega) only [y_c0, y_c1, y_c10, y_c100, y_c1000, y_c10000, y_c100000, y_c106, y_c112, y_c116, y_c127, y_c128, y_c13, y_c14, y_c155, y_c2, y_c20, y_c200, y_c204, y_c21, y_c253, y_c255, y_c3, y_c30, y_c302, y_c303, y_c304, y_c305, y_c306, y_c307, y_c308, y_c309, y_c310, y_c311, y_c312, y_c313, y_c314, y_c315, y_c316, y_c32, y_c33, y_c353, y_c39, y_c4, y_c40, y_c44, y_c4589, y_c48, y_c49, y_c5, y_c512, y_c54, y_c57, y_c59, y_c6, y_c62, y_c64, y_c7, y_c8, y_c9, y_c99, y_c9999, y_d0, y_d1, y_d10, y_d100, y_d1000000, y_d1442695040888963407, y_d2, y_d20, y_d255, y_d3, y_d4, y_d40, y_d4294967295, y_d48, y_d5, y_d50, y_d54, y_d57, y_d6364136223846793005, y_d7, y_d9, y_d9999, y_dR, y_dS, y_dk, y_nar0, y_nar1, y_Ilt, y_Ile, y_Ieq, y_Iadd, y_Imul, y_Idiv, y_Llt, y_Lle, y_Leq, y_Ladd, y_Lmul, y_Ldiv, y_I2l, y_L2i, y_shn, y_or, y_and, y_bn1, y_bn0, y_inb, y_cl, y_gle, y_gge, y_ggt, y_glt, y_geq, if_pos, if_neg, if_true, if_false, Option.bind_some, f_X9_isTable, r0, y_Lsub, x_in]
theorem x_isTN {r : Nat → Int64} {v : Int32} (h : v < 0) : f_X9_isTable 353 r v = some (nI 0, ()) := by
  unfold f_X9_isTable
  rw [if_pos (show inb (0 : Int32) 353 = true from rfl), show (0 : Int64) = lN 0 from rfl, x_inN h (by omega)]
  rfl
theorem x_isS {r : Nat → Int64} {ρ : Nat → Nat} (hr : RRp r ρ) (h7 : ρ 0 ≤ 7) {j : Nat} (hj : j < 2147483648) : f_X9_isSet 353 r (nI j) = some (if j < 2 ^ ρ 0 then nI 1 else nI 0, ()) := by
  have r0 := hr 0 (by omega)
  have p1 := Nat.pow_pos (n := ρ 0) (show 0 < 2 by omega)
  have p2 := y_pow7 _ h7
  by_cases q : j < 2 ^ ρ 0
  · simp (disch := omega) only [y_c0, y_c1, y_c10, y_c100, y_c1000, y_c10000, y_c100000, y_c106, y_c112, y_c116, y_c127, y_c128, y_c13, y_c14, y_c155, y_c2, y_c20, y_c200, y_c204, y_c21, y_c253, y_c255, y_c3, y_c30, y_c302, y_c303, y_c304, y_c305, y_c306, y_c307, y_c308, y_c309, y_c310, y_c311, y_c312, y_c313, y_c314, y_c315, y_c316, y_c32, y_c33, y_c353, y_c39, y_c4, y_c40, y_c44, y_c4589, y_c48, y_c49, y_c5, y_c512, y_c54, y_c57, y_c59, y_c6, y_c62, y_c64, y_c7, y_c8, y_c9, y_c99, y_c9999, y_d0, y_d1, y_d10, y_d100, y_d1000000, y_d1442695040888963407, y_d2, y_d20, y_d255, y_d3, y_d4, y_d40, y_d4294967295, y_d48, y_d5, y_d50, y_d54, y_d57, y_d6364136223846793005, y_d7, y_d9, y_d9999, y_dR, y_dS, y_dk, y_nar0, y_nar1, y_Ilt, y_Ile, y_Ieq, y_Iadd, y_Imul, y_Idiv, y_Llt, y_Lle, y_Leq, y_Ladd, y_Lmul, y_Ldiv, y_I2l, y_L2i, y_shn, y_or, y_and, y_bn1, y_bn0, y_inb, y_cl, y_gle, y_gge, y_ggt, y_glt, y_geq, if_pos, if_neg, if_true, if_false, Option.bind_some, f_X9_isSet, r0, y_Isub, x_in]
  · simp (disch := omega) only [y_c0, y_c1, y_c10, y_c100, y_c1000, y_c10000, y_c100000, y_c106, y_c112, y_c116, y_c127, y_c128, y_c13, y_c14, y_c155, y_c2, y_c20, y_c200, y_c204, y_c21, y_c253, y_c255, y_c3, y_c30, y_c302, y_c303, y_c304, y_c305, y_c306, y_c307, y_c308, y_c309, y_c310, y_c311, y_c312, y_c313, y_c314, y_c315, y_c316, y_c32, y_c33, y_c353, y_c39, y_c4, y_c40, y_c44, y_c4589, y_c48, y_c49, y_c5, y_c512, y_c54, y_c57, y_c59, y_c6, y_c62, y_c64, y_c7, y_c8, y_c9, y_c99, y_c9999, y_d0, y_d1, y_d10, y_d100, y_d1000000, y_d1442695040888963407, y_d2, y_d20, y_d255, y_d3, y_d4, y_d40, y_d4294967295, y_d48, y_d5, y_d50, y_d54, y_d57, y_d6364136223846793005, y_d7, y_d9, y_d9999, y_dR, y_dS, y_dk, y_nar0, y_nar1, y_Ilt, y_Ile, y_Ieq, y_Iadd, y_Imul, y_Idiv, y_Llt, y_Lle, y_Leq, y_Ladd, y_Lmul, y_Ldiv, y_I2l, y_L2i, y_shn, y_or, y_and, y_bn1, y_bn0, y_inb, y_cl, y_gle, y_gge, y_ggt, y_glt, y_geq, if_pos, if_neg, if_true, if_false, Option.bind_some, f_X9_isSet, r0, y_Isub, x_in]
theorem x_isSN {r : Nat → Int64} {v : Int32} (h : v < 0) : f_X9_isSet 353 r v = some (nI 0, ()) := by
  unfold f_X9_isSet
  rw [if_pos (show inb (0 : Int32) 353 = true from rfl), show (0 : Int64) = lN 0 from rfl, x_inN h (by omega)]
  rfl
def yci (a b : Nat) : Nat := if a < b then b * (b - 1) / 2 + a else a * (a - 1) / 2 + b
theorem c_pair : ∀ a, a < 7 → ∀ b, b < 7 → a ≠ b → f_X8_pairIndex (nI a) (nI b) = some (nI (yci a b), ()) := by decide +kernel
theorem x_pairq : ∀ a, a < 7 → ∀ b, b < 7 → a ≠ b → f_X9_pairOf (nI a) (nI b) = some (nI (yq (yci a b)), ()) := by decide +kernel
theorem yci_lt : ∀ a, a < 7 → ∀ b, b < 7 → a ≠ b → yci a b < 21 := by decide +kernel
theorem c_lcnt {w : TW} {f : Nat → Nat} (hf : ∀ c, c < 21 → W_guesses w c = nI (f c) ∧ f c < 2147483648) : ∀ rr c n, c + rr = 21 → rr < n → f_X7_linkCount_L4 w n (nI (yct f c)) (nI c) = some (nI (yct f 21), ()) := by
  intro rr
  induction rr with
  | zero =>
    intro c n hc hn
    obtain ⟨n, rfl⟩ : ∃ m, n = m + 1 := ⟨n - 1, by omega⟩
    rw [f_X7_linkCount_L4, show c = 21 by omega]
    exact if_pos (by decide)
  | succ rr ih =>
    intro c n hc hn
    obtain ⟨n, rfl⟩ : ∃ m, n = m + 1 := ⟨n - 1, by omega⟩
    obtain ⟨h1, h2⟩ := hf c (by omega)
    have := ih (c + 1) n (by omega) (by omega)
    rw [yct] at this
    rw [f_X7_linkCount_L4]
    by_cases q : 0 < f c
    · rw [yb_1 q] at this
      simp (disch := omega) only [y_c0, y_c1, y_c10, y_c100, y_c1000, y_c10000, y_c100000, y_c106, y_c112, y_c116, y_c127, y_c128, y_c13, y_c14, y_c155, y_c2, y_c20, y_c200, y_c204, y_c21, y_c253, y_c255, y_c3, y_c30, y_c302, y_c303, y_c304, y_c305, y_c306, y_c307, y_c308, y_c309, y_c310, y_c311, y_c312, y_c313, y_c314, y_c315, y_c316, y_c32, y_c33, y_c353, y_c39, y_c4, y_c40, y_c44, y_c4589, y_c48, y_c49, y_c5, y_c512, y_c54, y_c57, y_c59, y_c6, y_c62, y_c64, y_c7, y_c8, y_c9, y_c99, y_c9999, y_d0, y_d1, y_d10, y_d100, y_d1000000, y_d1442695040888963407, y_d2, y_d20, y_d255, y_d3, y_d4, y_d40, y_d4294967295, y_d48, y_d5, y_d50, y_d54, y_d57, y_d6364136223846793005, y_d7, y_d9, y_d9999, y_dR, y_dS, y_dk, y_nar0, y_nar1, y_Ilt, y_Ile, y_Ieq, y_Iadd, y_Imul, y_Idiv, y_Llt, y_Lle, y_Leq, y_Ladd, y_Lmul, y_Ldiv, y_I2l, y_L2i, y_shn, y_or, y_and, y_bn1, y_bn0, y_inb, y_cl, y_gle, y_gge, y_ggt, y_glt, y_geq, if_pos, if_neg, if_true, if_false, Option.bind_some, h1]
      exact this
    · rw [yb_0 q, Nat.add_zero] at this
      simp (disch := omega) only [y_c0, y_c1, y_c10, y_c100, y_c1000, y_c10000, y_c100000, y_c106, y_c112, y_c116, y_c127, y_c128, y_c13, y_c14, y_c155, y_c2, y_c20, y_c200, y_c204, y_c21, y_c253, y_c255, y_c3, y_c30, y_c302, y_c303, y_c304, y_c305, y_c306, y_c307, y_c308, y_c309, y_c310, y_c311, y_c312, y_c313, y_c314, y_c315, y_c316, y_c32, y_c33, y_c353, y_c39, y_c4, y_c40, y_c44, y_c4589, y_c48, y_c49, y_c5, y_c512, y_c54, y_c57, y_c59, y_c6, y_c62, y_c64, y_c7, y_c8, y_c9, y_c99, y_c9999, y_d0, y_d1, y_d10, y_d100, y_d1000000, y_d1442695040888963407, y_d2, y_d20, y_d255, y_d3, y_d4, y_d40, y_d4294967295, y_d48, y_d5, y_d50, y_d54, y_d57, y_d6364136223846793005, y_d7, y_d9, y_d9999, y_dR, y_dS, y_dk, y_nar0, y_nar1, y_Ilt, y_Ile, y_Ieq, y_Iadd, y_Imul, y_Idiv, y_Llt, y_Lle, y_Leq, y_Ladd, y_Lmul, y_Ldiv, y_I2l, y_L2i, y_shn, y_or, y_and, y_bn1, y_bn0, y_inb, y_cl, y_gle, y_gge, y_ggt, y_glt, y_geq, if_pos, if_neg, if_true, if_false, Option.bind_some, h1]
      exact this
theorem c_linkCount {w : TW} {f : Nat → Nat} (hf : ∀ c, c < 21 → W_guesses w c = nI (f c) ∧ f c < 2147483648) : f_X7_linkCount w = some (nI (yct f 21), ()) := c_lcnt hf 21 0 FUEL rfl (by decide)
theorem c_mcnt {w : TW} {f : Nat → Nat} (hf : ∀ c, c < 21 → W_memories w c = nI (f c) ∧ f c < 2147483648) : ∀ rr c n, c + rr = 21 → rr < n → f_X7_memoryCount_L4 w n (nI (yct f c)) (nI c) = some (nI (yct f 21), ()) := by
  intro rr
  induction rr with
  | zero =>
    intro c n hc hn
    obtain ⟨n, rfl⟩ : ∃ m, n = m + 1 := ⟨n - 1, by omega⟩
    rw [f_X7_memoryCount_L4, show c = 21 by omega]
    exact if_pos (by decide)
  | succ rr ih =>
    intro c n hc hn
    obtain ⟨n, rfl⟩ : ∃ m, n = m + 1 := ⟨n - 1, by omega⟩
    obtain ⟨h1, h2⟩ := hf c (by omega)
    have := ih (c + 1) n (by omega) (by omega)
    rw [yct] at this
    rw [f_X7_memoryCount_L4]
    by_cases q : 0 < f c
    · rw [yb_1 q] at this
      simp (disch := omega) only [y_c0, y_c1, y_c10, y_c100, y_c1000, y_c10000, y_c100000, y_c106, y_c112, y_c116, y_c127, y_c128, y_c13, y_c14, y_c155, y_c2, y_c20, y_c200, y_c204, y_c21, y_c253, y_c255, y_c3, y_c30, y_c302, y_c303, y_c304, y_c305, y_c306, y_c307, y_c308, y_c309, y_c310, y_c311, y_c312, y_c313, y_c314, y_c315, y_c316, y_c32, y_c33, y_c353, y_c39, y_c4, y_c40, y_c44, y_c4589, y_c48, y_c49, y_c5, y_c512, y_c54, y_c57, y_c59, y_c6, y_c62, y_c64, y_c7, y_c8, y_c9, y_c99, y_c9999, y_d0, y_d1, y_d10, y_d100, y_d1000000, y_d1442695040888963407, y_d2, y_d20, y_d255, y_d3, y_d4, y_d40, y_d4294967295, y_d48, y_d5, y_d50, y_d54, y_d57, y_d6364136223846793005, y_d7, y_d9, y_d9999, y_dR, y_dS, y_dk, y_nar0, y_nar1, y_Ilt, y_Ile, y_Ieq, y_Iadd, y_Imul, y_Idiv, y_Llt, y_Lle, y_Leq, y_Ladd, y_Lmul, y_Ldiv, y_I2l, y_L2i, y_shn, y_or, y_and, y_bn1, y_bn0, y_inb, y_cl, y_gle, y_gge, y_ggt, y_glt, y_geq, if_pos, if_neg, if_true, if_false, Option.bind_some, h1]
      exact this
    · rw [yb_0 q, Nat.add_zero] at this
      simp (disch := omega) only [y_c0, y_c1, y_c10, y_c100, y_c1000, y_c10000, y_c100000, y_c106, y_c112, y_c116, y_c127, y_c128, y_c13, y_c14, y_c155, y_c2, y_c20, y_c200, y_c204, y_c21, y_c253, y_c255, y_c3, y_c30, y_c302, y_c303, y_c304, y_c305, y_c306, y_c307, y_c308, y_c309, y_c310, y_c311, y_c312, y_c313, y_c314, y_c315, y_c316, y_c32, y_c33, y_c353, y_c39, y_c4, y_c40, y_c44, y_c4589, y_c48, y_c49, y_c5, y_c512, y_c54, y_c57, y_c59, y_c6, y_c62, y_c64, y_c7, y_c8, y_c9, y_c99, y_c9999, y_d0, y_d1, y_d10, y_d100, y_d1000000, y_d1442695040888963407, y_d2, y_d20, y_d255, y_d3, y_d4, y_d40, y_d4294967295, y_d48, y_d5, y_d50, y_d54, y_d57, y_d6364136223846793005, y_d7, y_d9, y_d9999, y_dR, y_dS, y_dk, y_nar0, y_nar1, y_Ilt, y_Ile, y_Ieq, y_Iadd, y_Imul, y_Idiv, y_Llt, y_Lle, y_Leq, y_Ladd, y_Lmul, y_Ldiv, y_I2l, y_L2i, y_shn, y_or, y_and, y_bn1, y_bn0, y_inb, y_cl, y_gle, y_gge, y_ggt, y_glt, y_geq, if_pos, if_neg, if_true, if_false, Option.bind_some, h1]
      exact this
theorem c_memoryCount {w : TW} {f : Nat → Nat} (hf : ∀ c, c < 21 → W_memories w c = nI (f c) ∧ f c < 2147483648) : f_X7_memoryCount w = some (nI (yct f 21), ()) := c_mcnt hf 21 0 FUEL rfl (by decide)
theorem x_cnt {r : Nat → Int64} {f : Nat → Nat} {base : Nat} (hb : base < 300) (hf : ∀ k, k < 49 → r (base + k) = lN (f k) ∧ f k < 2147483648) : ∀ rr k n, k + rr = 49 → rr < n → f_X9_count_L5 353 r (nI base) n (lN (yct f k)) (nI k) = some (lN (yct f 49), ()) := by
  intro rr
  induction rr with
  | zero =>
    intro c n hc hn
    obtain ⟨n, rfl⟩ : ∃ m, n = m + 1 := ⟨n - 1, by omega⟩
    rw [f_X9_count_L5, show c = 49 by omega]
    exact if_pos (by decide)
  | succ rr ih =>
    intro c n hc hn
    obtain ⟨n, rfl⟩ : ∃ m, n = m + 1 := ⟨n - 1, by omega⟩
    obtain ⟨h1, h2⟩ := hf c (by omega)
    have := ih (c + 1) n (by omega) (by omega)
    rw [yct] at this
    rw [f_X9_count_L5]
    by_cases q : 0 < f c
    · rw [yb_1 q] at this
      simp (disch := omega) only [y_c0, y_c1, y_c10, y_c100, y_c1000, y_c10000, y_c100000, y_c106, y_c112, y_c116, y_c127, y_c128, y_c13, y_c14, y_c155, y_c2, y_c20, y_c200, y_c204, y_c21, y_c253, y_c255, y_c3, y_c30, y_c302, y_c303, y_c304, y_c305, y_c306, y_c307, y_c308, y_c309, y_c310, y_c311, y_c312, y_c313, y_c314, y_c315, y_c316, y_c32, y_c33, y_c353, y_c39, y_c4, y_c40, y_c44, y_c4589, y_c48, y_c49, y_c5, y_c512, y_c54, y_c57, y_c59, y_c6, y_c62, y_c64, y_c7, y_c8, y_c9, y_c99, y_c9999, y_d0, y_d1, y_d10, y_d100, y_d1000000, y_d1442695040888963407, y_d2, y_d20, y_d255, y_d3, y_d4, y_d40, y_d4294967295, y_d48, y_d5, y_d50, y_d54, y_d57, y_d6364136223846793005, y_d7, y_d9, y_d9999, y_dR, y_dS, y_dk, y_nar0, y_nar1, y_Ilt, y_Ile, y_Ieq, y_Iadd, y_Imul, y_Idiv, y_Llt, y_Lle, y_Leq, y_Ladd, y_Lmul, y_Ldiv, y_I2l, y_L2i, y_shn, y_or, y_and, y_bn1, y_bn0, y_inb, y_cl, y_gle, y_gge, y_ggt, y_glt, y_geq, if_pos, if_neg, if_true, if_false, Option.bind_some, h1]
      exact this
    · rw [yb_0 q] at this
      simp (disch := omega) only [y_c0, y_c1, y_c10, y_c100, y_c1000, y_c10000, y_c100000, y_c106, y_c112, y_c116, y_c127, y_c128, y_c13, y_c14, y_c155, y_c2, y_c20, y_c200, y_c204, y_c21, y_c253, y_c255, y_c3, y_c30, y_c302, y_c303, y_c304, y_c305, y_c306, y_c307, y_c308, y_c309, y_c310, y_c311, y_c312, y_c313, y_c314, y_c315, y_c316, y_c32, y_c33, y_c353, y_c39, y_c4, y_c40, y_c44, y_c4589, y_c48, y_c49, y_c5, y_c512, y_c54, y_c57, y_c59, y_c6, y_c62, y_c64, y_c7, y_c8, y_c9, y_c99, y_c9999, y_d0, y_d1, y_d10, y_d100, y_d1000000, y_d1442695040888963407, y_d2, y_d20, y_d255, y_d3, y_d4, y_d40, y_d4294967295, y_d48, y_d5, y_d50, y_d54, y_d57, y_d6364136223846793005, y_d7, y_d9, y_d9999, y_dR, y_dS, y_dk, y_nar0, y_nar1, y_Ilt, y_Ile, y_Ieq, y_Iadd, y_Imul, y_Idiv, y_Llt, y_Lle, y_Leq, y_Ladd, y_Lmul, y_Ldiv, y_I2l, y_L2i, y_shn, y_or, y_and, y_bn1, y_bn0, y_inb, y_cl, y_gle, y_gge, y_ggt, y_glt, y_geq, if_pos, if_neg, if_true, if_false, Option.bind_some, h1]
      exact this
theorem x_count {r : Nat → Int64} {f : Nat → Nat} {base : Nat} (hb : base < 300) (hf : ∀ k, k < 49 → r (base + k) = lN (f k) ∧ f k < 2147483648) : f_X9_count 353 r (nI base) = some (lN (yct f 49), ()) := x_cnt hb hf 49 0 FUEL rfl (by decide)
