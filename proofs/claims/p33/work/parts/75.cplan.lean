theorem c_sizeOf {w : TW} {t : Nat} (h : t < 7) : f_X7_sizeOf w (nI t) = some (W_sizes w t, ()) := by
  simp (disch := omega) only [y_c0, y_c1, y_c10, y_c106, y_c128, y_c13, y_c14, y_c155, y_c2, y_c20, y_c204, y_c21, y_c253, y_c3, y_c353, y_c4, y_c40, y_c49, y_c57, y_c6, y_c7, y_c8, y_d0, y_d1, y_d10, y_d3, y_d7, y_dR, y_dS, y_dk, y_Ilt, y_Ile, y_Ieq, y_Iadd, y_Imul, y_Idiv, y_Llt, y_Lle, y_Leq, y_Ladd, y_Lmul, y_Ldiv, y_I2l, y_L2i, y_shn, y_or, y_and, y_bn1, y_bn0, y_inb, y_cl, y_gle, y_gge, y_ggt, y_glt, y_geq, if_pos, if_neg, if_true, if_false, Option.bind_some, f_X7_sizeOf, f_X8_isIn]
theorem c_shareOf {w : TW} {ρ : Nat → Nat} (hw : WRp w ρ) (hi : INp ρ) {c k : Nat} (h : c < 21) (hk : k ≤ 2) : f_X7_shareOf w (nI c) (nI k) = some (nI (ysh ρ k (yq c)), ()) := by
  obtain ⟨h1, h2, h3⟩ := hw.2.2 c h
  obtain ⟨-, i2, i3, i4, -⟩ := hi.2.2 c h
  have e : k = 0 ∨ k = 1 ∨ k = 2 := by omega
  unfold ysh
  rcases e with rfl | rfl | rfl
  · simp (disch := omega) only [y_c0, y_c1, y_c10, y_c106, y_c128, y_c13, y_c14, y_c155, y_c2, y_c20, y_c204, y_c21, y_c253, y_c3, y_c353, y_c4, y_c40, y_c49, y_c57, y_c6, y_c7, y_c8, y_d0, y_d1, y_d10, y_d3, y_d7, y_dR, y_dS, y_dk, y_Ilt, y_Ile, y_Ieq, y_Iadd, y_Imul, y_Idiv, y_Llt, y_Lle, y_Leq, y_Ladd, y_Lmul, y_Ldiv, y_I2l, y_L2i, y_shn, y_or, y_and, y_bn1, y_bn0, y_inb, y_cl, y_gle, y_gge, y_ggt, y_glt, y_geq, if_pos, if_neg, if_true, if_false, Option.bind_some, f_X7_shareOf, f_X8_isIn, h1, h2, h3]
  · by_cases q : 0 < ρ (155 + yq c)
    · simp (disch := omega) only [y_c0, y_c1, y_c10, y_c106, y_c128, y_c13, y_c14, y_c155, y_c2, y_c20, y_c204, y_c21, y_c253, y_c3, y_c353, y_c4, y_c40, y_c49, y_c57, y_c6, y_c7, y_c8, y_d0, y_d1, y_d10, y_d3, y_d7, y_dR, y_dS, y_dk, y_Ilt, y_Ile, y_Ieq, y_Iadd, y_Imul, y_Idiv, y_Llt, y_Lle, y_Leq, y_Ladd, y_Lmul, y_Ldiv, y_I2l, y_L2i, y_shn, y_or, y_and, y_bn1, y_bn0, y_inb, y_cl, y_gle, y_gge, y_ggt, y_glt, y_geq, if_pos, if_neg, if_true, if_false, Option.bind_some, f_X7_shareOf, f_X8_isIn, h1, h2, h3]
    · simp (disch := omega) only [y_c0, y_c1, y_c10, y_c106, y_c128, y_c13, y_c14, y_c155, y_c2, y_c20, y_c204, y_c21, y_c253, y_c3, y_c353, y_c4, y_c40, y_c49, y_c57, y_c6, y_c7, y_c8, y_d0, y_d1, y_d10, y_d3, y_d7, y_dR, y_dS, y_dk, y_Ilt, y_Ile, y_Ieq, y_Iadd, y_Imul, y_Idiv, y_Llt, y_Lle, y_Leq, y_Ladd, y_Lmul, y_Ldiv, y_I2l, y_L2i, y_shn, y_or, y_and, y_bn1, y_bn0, y_inb, y_cl, y_gle, y_gge, y_ggt, y_glt, y_geq, if_pos, if_neg, if_true, if_false, Option.bind_some, f_X7_shareOf, f_X8_isIn, h1, h2, h3]
  · simp (disch := omega) only [y_c0, y_c1, y_c10, y_c106, y_c128, y_c13, y_c14, y_c155, y_c2, y_c20, y_c204, y_c21, y_c253, y_c3, y_c353, y_c4, y_c40, y_c49, y_c57, y_c6, y_c7, y_c8, y_d0, y_d1, y_d10, y_d3, y_d7, y_dR, y_dS, y_dk, y_Ilt, y_Ile, y_Ieq, y_Iadd, y_Imul, y_Idiv, y_Llt, y_Lle, y_Leq, y_Ladd, y_Lmul, y_Ldiv, y_I2l, y_L2i, y_shn, y_or, y_and, y_bn1, y_bn0, y_inb, y_cl, y_gle, y_gge, y_ggt, y_glt, y_geq, if_pos, if_neg, if_true, if_false, Option.bind_some, f_X7_shareOf, f_X8_isIn, h1, h2, h3]
theorem cp_rows {P : TP} {s : Nat} (h : s < 128) : f_X3_rowsOf P (nI s) = some (P_rowsOf P s, ()) := by
  simp (disch := omega) only [y_c0, y_c1, y_c10, y_c106, y_c128, y_c13, y_c14, y_c155, y_c2, y_c20, y_c204, y_c21, y_c253, y_c3, y_c353, y_c4, y_c40, y_c49, y_c57, y_c6, y_c7, y_c8, y_d0, y_d1, y_d10, y_d3, y_d7, y_dR, y_dS, y_dk, y_Ilt, y_Ile, y_Ieq, y_Iadd, y_Imul, y_Idiv, y_Llt, y_Lle, y_Leq, y_Ladd, y_Lmul, y_Ldiv, y_I2l, y_L2i, y_shn, y_or, y_and, y_bn1, y_bn0, y_inb, y_cl, y_gle, y_gge, y_ggt, y_glt, y_geq, if_pos, if_neg, if_true, if_false, Option.bind_some, f_X3_rowsOf]
theorem cp_rest {P : TP} {s : Nat} (h : s < 128) : f_X3_restOf P (nI s) = some (P_restOf P s, ()) := by
  simp (disch := omega) only [y_c0, y_c1, y_c10, y_c106, y_c128, y_c13, y_c14, y_c155, y_c2, y_c20, y_c204, y_c21, y_c253, y_c3, y_c353, y_c4, y_c40, y_c49, y_c57, y_c6, y_c7, y_c8, y_d0, y_d1, y_d10, y_d3, y_d7, y_dR, y_dS, y_dk, y_Ilt, y_Ile, y_Ieq, y_Iadd, y_Imul, y_Idiv, y_Llt, y_Lle, y_Leq, y_Ladd, y_Lmul, y_Ldiv, y_I2l, y_L2i, y_shn, y_or, y_and, y_bn1, y_bn0, y_inb, y_cl, y_gle, y_gge, y_ggt, y_glt, y_geq, if_pos, if_neg, if_true, if_false, Option.bind_some, f_X3_restOf]
theorem cp_size {P : TP} {t : Nat} (h : t < 7) : f_X3_sizeOf P (nI t) = some (P_sizes P t, ()) := by
  simp (disch := omega) only [y_c0, y_c1, y_c10, y_c106, y_c128, y_c13, y_c14, y_c155, y_c2, y_c20, y_c204, y_c21, y_c253, y_c3, y_c353, y_c4, y_c40, y_c49, y_c57, y_c6, y_c7, y_c8, y_d0, y_d1, y_d10, y_d3, y_d7, y_dR, y_dS, y_dk, y_Ilt, y_Ile, y_Ieq, y_Iadd, y_Imul, y_Idiv, y_Llt, y_Lle, y_Leq, y_Ladd, y_Lmul, y_Ldiv, y_I2l, y_L2i, y_shn, y_or, y_and, y_bn1, y_bn0, y_inb, y_cl, y_gle, y_gge, y_ggt, y_glt, y_geq, if_pos, if_neg, if_true, if_false, Option.bind_some, f_X3_sizeOf]
theorem cp_way {P : TP} {s t a b : Nat} (hs : s < 128) (ht : t < 7) (ha : P_rowsOf P s = lN a) (hb : P_sizes P t = nI b) (ha1 : a ≤ 1000000000000) (hb1 : b ≤ 9999) : f_X3_cheaperWay P (nI s) (nI t) = some (nI (if 3 * (a + b) < a * b then 1 else 0), ()) := by
  have hab : a * b ≤ 1000000000000 * 9999 := Nat.mul_le_mul ha1 hb1
  unfold f_X3_cheaperWay
  rw [cp_rows hs, cp_size ht]
  simp (disch := omega) only [y_c0, y_c1, y_c10, y_c106, y_c128, y_c13, y_c14, y_c155, y_c2, y_c20, y_c204, y_c21, y_c253, y_c3, y_c353, y_c4, y_c40, y_c49, y_c57, y_c6, y_c7, y_c8, y_d0, y_d1, y_d10, y_d3, y_d7, y_dR, y_dS, y_dk, y_Ilt, y_Ile, y_Ieq, y_Iadd, y_Imul, y_Idiv, y_Llt, y_Lle, y_Leq, y_Ladd, y_Lmul, y_Ldiv, y_I2l, y_L2i, y_shn, y_or, y_and, y_bn1, y_bn0, y_inb, y_cl, y_gle, y_gge, y_ggt, y_glt, y_geq, if_pos, if_neg, if_true, if_false, Option.bind_some, ha, hb]
  by_cases h : 3 * (a + b) < a * b
  · rw [if_pos h, if_pos h]
  · rw [if_neg h, if_neg h]
theorem cp_step {P : TP} {s t w a b c : Nat} (hs : s < 128) (ht : t < 7) (hst : s ||| 2 ^ t < 128) (ha : P_rowsOf P s = lN a) (hb : P_sizes P t = nI b) (hc : P_rowsOf P (s ||| 2 ^ t) = lN c) (ha1 : a ≤ 1000000000000) (hb1 : b ≤ 9999) (hc1 : c ≤ 1000000000000) (hw : w < 2) : f_X3_stepCost P (nI s) (nI t) (nI w) = some (lN (if s = 0 then 0 else min 1000000000000000 ((if w = 0 then a * b else 3 * (a + b)) + c)), ()) := by
  have hab : a * b ≤ 1000000000000 * 9999 := Nat.mul_le_mul ha1 hb1
  unfold f_X3_stepCost f_X3_stepCost_J43
  simp (disch := omega) only [y_c0, y_c1, y_c10, y_c106, y_c128, y_c13, y_c14, y_c155, y_c2, y_c20, y_c204, y_c21, y_c253, y_c3, y_c353, y_c4, y_c40, y_c49, y_c57, y_c6, y_c7, y_c8, y_d0, y_d1, y_d10, y_d3, y_d7, y_dR, y_dS, y_dk, y_Ilt, y_Ile, y_Ieq, y_Iadd, y_Imul, y_Idiv, y_Llt, y_Lle, y_Leq, y_Ladd, y_Lmul, y_Ldiv, y_I2l, y_L2i, y_shn, y_or, y_and, y_bn1, y_bn0, y_inb, y_cl, y_gle, y_gge, y_ggt, y_glt, y_geq, if_pos, if_neg, if_true, if_false, Option.bind_some, cp_rows, cp_size, ha, hb, hc]
  by_cases h0 : s = 0
  · rw [if_pos h0, if_pos h0]
  rw [if_neg h0, if_neg h0]
  by_cases hw0 : w = 0
  · rw [if_pos hw0, if_pos hw0]
    by_cases h1 : a * b + c ≤ 1000000000000000
    · rw [if_pos h1, Nat.min_eq_right h1]
    · rw [if_neg h1, Nat.min_eq_left (by omega)]
  · rw [if_neg hw0, if_neg hw0]
    rw [Nat.min_eq_right (by omega)]
