theorem x_bel {r : Nat → Int64} {ρ : Nat → Nat} (hr : RRp r ρ) (hi : INp ρ) {c : Nat} (hc : c < 21) : f_X9_believed 353 r (nI (yq c)) = some (lN (yBl ρ (yq c)), ()) := by
  have hq := yq_lt c hc
  have e1 := hr (155 + yq c) (by omega)
  have e2 := hr (57 + yq c) (by omega)
  have b := (hi.2.2 c hc).2.2.2.1
  unfold yBl ysh
  by_cases q : 0 < ρ (155 + yq c)
  · simp (disch := omega) only [y_c0, y_c1, y_c10, y_c100, y_c1000, y_c10000, y_c100000, y_c106, y_c112, y_c116, y_c127, y_c128, y_c13, y_c14, y_c155, y_c2, y_c20, y_c200, y_c204, y_c21, y_c253, y_c255, y_c3, y_c30, y_c302, y_c303, y_c304, y_c305, y_c306, y_c307, y_c308, y_c309, y_c310, y_c311, y_c312, y_c313, y_c314, y_c315, y_c316, y_c32, y_c33, y_c353, y_c39, y_c4, y_c40, y_c44, y_c4589, y_c48, y_c49, y_c5, y_c512, y_c54, y_c57, y_c59, y_c6, y_c62, y_c64, y_c7, y_c8, y_c9, y_c99, y_c9999, y_d0, y_d1, y_d10, y_d100, y_d1000000, y_d1442695040888963407, y_d2, y_d20, y_d255, y_d3, y_d4, y_d40, y_d4294967295, y_d48, y_d5, y_d50, y_d54, y_d57, y_d6364136223846793005, y_d7, y_d9, y_d9999, y_dR, y_dS, y_dk, y_nar0, y_nar1, y_Ilt, y_Ile, y_Ieq, y_Iadd, y_Imul, y_Idiv, y_Llt, y_Lle, y_Leq, y_Ladd, y_Lmul, y_Ldiv, y_I2l, y_L2i, y_shn, y_or, y_and, y_bn1, y_bn0, y_inb, y_cl, y_gle, y_gge, y_ggt, y_glt, y_geq, if_pos, if_neg, if_true, if_false, Option.bind_some, f_X9_believed, e1, e2]
  · simp (disch := omega) only [y_c0, y_c1, y_c10, y_c100, y_c1000, y_c10000, y_c100000, y_c106, y_c112, y_c116, y_c127, y_c128, y_c13, y_c14, y_c155, y_c2, y_c20, y_c200, y_c204, y_c21, y_c253, y_c255, y_c3, y_c30, y_c302, y_c303, y_c304, y_c305, y_c306, y_c307, y_c308, y_c309, y_c310, y_c311, y_c312, y_c313, y_c314, y_c315, y_c316, y_c32, y_c33, y_c353, y_c39, y_c4, y_c40, y_c44, y_c4589, y_c48, y_c49, y_c5, y_c512, y_c54, y_c57, y_c59, y_c6, y_c62, y_c64, y_c7, y_c8, y_c9, y_c99, y_c9999, y_d0, y_d1, y_d10, y_d100, y_d1000000, y_d1442695040888963407, y_d2, y_d20, y_d255, y_d3, y_d4, y_d40, y_d4294967295, y_d48, y_d5, y_d50, y_d54, y_d57, y_d6364136223846793005, y_d7, y_d9, y_d9999, y_dR, y_dS, y_dk, y_nar0, y_nar1, y_Ilt, y_Ile, y_Ieq, y_Iadd, y_Imul, y_Idiv, y_Llt, y_Lle, y_Leq, y_Ladd, y_Lmul, y_Ldiv, y_I2l, y_L2i, y_shn, y_or, y_and, y_bn1, y_bn0, y_inb, y_cl, y_gle, y_gge, y_ggt, y_glt, y_geq, if_pos, if_neg, if_true, if_false, Option.bind_some, f_X9_believed, e1, e2]
def xK29 (x1 : Int32) (x2 : Int32) (x3 : Int32) (x4 : Int64) : (Nat → Int64) → Option (Int32 × (Nat → Int64)) := (fun (y21g_p1 : Nat → Int64) => (if inb (313 : Int32) 353 = true then (if inb (314 : Int32) 353 = true then (if inb ((106 : Int32) + x3) 353 = true then (if inb (315 : Int32) 353 = true then (if inb (305 : Int32) 353 = true then (if inb (316 : Int32) 353 = true then (if inb (312 : Int32) 353 = true then ((f_X9_less (10 : Int64) (((vp_updL (vp_updL (vp_updL (vp_updL y21g_p1 (313 : Int32).toNatClampNeg (((10 : Int64) * (Int32.toInt64 x1)) + (Int32.toInt64 x2))) (314 : Int32).toNatClampNeg x4) (315 : Int32).toNatClampNeg ((vp_updL (vp_updL y21g_p1 (313 : Int32).toNatClampNeg (((10 : Int64) * (Int32.toInt64 x1)) + (Int32.toInt64 x2))) (314 : Int32).toNatClampNeg x4) ((106 : Int32) + x3).toNatClampNeg)) (316 : Int32).toNatClampNeg ((vp_updL (vp_updL (vp_updL y21g_p1 (313 : Int32).toNatClampNeg (((10 : Int64) * (Int32.toInt64 x1)) + (Int32.toInt64 x2))) (314 : Int32).toNatClampNeg x4) (315 : Int32).toNatClampNeg ((vp_updL (vp_updL y21g_p1 (313 : Int32).toNatClampNeg (((10 : Int64) * (Int32.toInt64 x1)) + (Int32.toInt64 x2))) (314 : Int32).toNatClampNeg x4) ((106 : Int32) + x3).toNatClampNeg)) (305 : Int32).toNatClampNeg)) (312 : Int32).toNatClampNeg) + (1 : Int64))).bind fun o29 => (if inb (312 : Int32) 353 = true then (some ((1 : Int32), (vp_updL (vp_updL (vp_updL (vp_updL (vp_updL y21g_p1 (313 : Int32).toNatClampNeg (((10 : Int64) * (Int32.toInt64 x1)) + (Int32.toInt64 x2))) (314 : Int32).toNatClampNeg x4) (315 : Int32).toNatClampNeg ((vp_updL (vp_updL y21g_p1 (313 : Int32).toNatClampNeg (((10 : Int64) * (Int32.toInt64 x1)) + (Int32.toInt64 x2))) (314 : Int32).toNatClampNeg x4) ((106 : Int32) + x3).toNatClampNeg)) (316 : Int32).toNatClampNeg ((vp_updL (vp_updL (vp_updL y21g_p1 (313 : Int32).toNatClampNeg (((10 : Int64) * (Int32.toInt64 x1)) + (Int32.toInt64 x2))) (314 : Int32).toNatClampNeg x4) (315 : Int32).toNatClampNeg ((vp_updL (vp_updL y21g_p1 (313 : Int32).toNatClampNeg (((10 : Int64) * (Int32.toInt64 x1)) + (Int32.toInt64 x2))) (314 : Int32).toNatClampNeg x4) ((106 : Int32) + x3).toNatClampNeg)) (305 : Int32).toNatClampNeg)) (312 : Int32).toNatClampNeg o29.1))) else none)) else none) else none) else none) else none) else none) else none) else none))
theorem x_162 {x1 x2 x3 : Int32} {x4 : Int64} {K : (Nat → Int64) → Option (Int32 × (Nat → Int64))} : ∀ rr n r, rr ≤ 36 → rr < n → ∃ y, f_X9_find_L162 353 x1 x2 x3 x4 K n (nI (rr + 3)) r = K y ∧ (∀ j, ¬ (317 ≤ j ∧ j < 317 + rr) → y j = r j) ∧ ∀ j, 317 ≤ j → j < 317 + rr → y j = r (j - 4) := by
  intro rr
  induction rr with
  | zero =>
    intro n r _ hn
    obtain ⟨n, rfl⟩ : ∃ m, n = m + 1 := ⟨n - 1, by omega⟩
    refine ⟨r, ?_, fun j _ => rfl, fun j h1 h2 => by omega⟩
    rw [f_X9_find_L162]
    exact if_pos (by decide)
  | succ rr ih =>
    intro n r hr hn
    obtain ⟨n, rfl⟩ : ∃ m, n = m + 1 := ⟨n - 1, by omega⟩
    obtain ⟨y, e, e1, e2⟩ := ih n (vp_updL r (313 + (rr + 3 + 1)) (r (313 + (rr + 3 + 1) - 4))) (by omega) (by omega)
    refine ⟨y, ?_, ?_, ?_⟩
    · rw [f_X9_find_L162, show rr + 1 + 3 = (rr + 3) + 1 by omega, y_dec (rr + 3) (by omega)]
      simp (disch := omega) only [y_c0, y_c1, y_c10, y_c100, y_c1000, y_c10000, y_c100000, y_c106, y_c112, y_c116, y_c127, y_c128, y_c13, y_c14, y_c155, y_c2, y_c20, y_c200, y_c204, y_c21, y_c253, y_c255, y_c3, y_c30, y_c302, y_c303, y_c304, y_c305, y_c306, y_c307, y_c308, y_c309, y_c310, y_c311, y_c312, y_c313, y_c314, y_c315, y_c316, y_c32, y_c33, y_c353, y_c39, y_c4, y_c40, y_c44, y_c4589, y_c48, y_c49, y_c5, y_c512, y_c54, y_c57, y_c59, y_c6, y_c62, y_c64, y_c7, y_c8, y_c9, y_c99, y_c9999, y_d0, y_d1, y_d10, y_d100, y_d1000000, y_d1442695040888963407, y_d2, y_d20, y_d255, y_d3, y_d4, y_d40, y_d4294967295, y_d48, y_d5, y_d50, y_d54, y_d57, y_d6364136223846793005, y_d7, y_d9, y_d9999, y_dR, y_dS, y_dk, y_nar0, y_nar1, y_Ilt, y_Ile, y_Ieq, y_Iadd, y_Imul, y_Idiv, y_Llt, y_Lle, y_Leq, y_Ladd, y_Lmul, y_Ldiv, y_I2l, y_L2i, y_shn, y_or, y_and, y_bn1, y_bn0, y_inb, y_cl, y_gle, y_gge, y_ggt, y_glt, y_geq, if_pos, if_neg, if_true, if_false, Option.bind_some, y_Isub]
      exact e
    · intro j hj
      by_cases z : j = 313 + (rr + 3 + 1)
      · omega
      · rw [e1 j (by omega), y_un z]
    · intro j h1 h2
      by_cases z : j = 313 + (rr + 3 + 1)
      · rw [e1 j (by omega), y_ue z, z]
      · rw [e2 j h1 (by omega), y_un (by omega)]
theorem x_find {N : Nat} {r : Nat → Int64} {ρ : Nat → Nat} {σ : Nat → Int64} (hr : RRf r ρ σ) (hi : INf N ρ) (hN : N < 1000000) {a b : Nat} (ha : a < b) (hb : b < 7) (hl : 0 < ρ (8 + (7 * a + b))) : ∃ r', f_X9_find 353 r (nI a) (nI b) = some (nI (if yDf ρ (7 * a + b) < ρ 302 then 0 else 1), r') ∧ RRf r' (yFn ρ a b) σ := by
  obtain ⟨k1, k2⟩ := yq_ab b hb a ha
  have hd := k1
  have ep := x_pair ha hb
  generalize hdd : b * (b - 1) / 2 + a = d at k1 k2 hd
  have hqd := yq_lt d hd
  rw [← k2] at hl ep
  have ebl := x_bel hr.p hi.1 hd
  obtain ⟨b1, b2, b3⟩ := yDf_le hi.1 hd
  have hmv := fun z => yMv_le hi hd z
  have r106 := hr.1 (106 + yq d) (by omega) (by omega)
  have r302 := hr.1 302 (by omega) (by omega)
  have r303 := hr.1 303 (by omega) (by omega)
  have r253 := hr.1 (253 + yq d) (by omega) (by omega)
  have r305 := hr.1 305 (by omega) (by omega)
  have r307 := hr.1 307 (by omega) (by omega)
  have r312 := hr.1 312 (by omega) (by omega)
  have e46 : f_X9_find 353 r (nI a) (nI b) = f_X9_find_J46 353 (nI a) (nI b) (nI (yq d)) (lN (yBl ρ (yq d))) (lN (yDf ρ (yq d))) r := by
    unfold f_X9_find yDf
    by_cases q : ρ (106 + yq d) ≤ yBl ρ (yq d)
    · simp (disch := omega) only [y_c0, y_c1, y_c10, y_c100, y_c1000, y_c10000, y_c100000, y_c106, y_c112, y_c116, y_c127, y_c128, y_c13, y_c14, y_c155, y_c2, y_c20, y_c200, y_c204, y_c21, y_c253, y_c255, y_c3, y_c30, y_c302, y_c303, y_c304, y_c305, y_c306, y_c307, y_c308, y_c309, y_c310, y_c311, y_c312, y_c313, y_c314, y_c315, y_c316, y_c32, y_c33, y_c353, y_c39, y_c4, y_c40, y_c44, y_c4589, y_c48, y_c49, y_c5, y_c512, y_c54, y_c57, y_c59, y_c6, y_c62, y_c64, y_c7, y_c8, y_c9, y_c99, y_c9999, y_d0, y_d1, y_d10, y_d100, y_d1000000, y_d1442695040888963407, y_d2, y_d20, y_d255, y_d3, y_d4, y_d40, y_d4294967295, y_d48, y_d5, y_d50, y_d54, y_d57, y_d6364136223846793005, y_d7, y_d9, y_d9999, y_dR, y_dS, y_dk, y_nar0, y_nar1, y_Ilt, y_Ile, y_Ieq, y_Iadd, y_Imul, y_Idiv, y_Llt, y_Lle, y_Leq, y_Ladd, y_Lmul, y_Ldiv, y_I2l, y_L2i, y_shn, y_or, y_and, y_bn1, y_bn0, y_inb, y_cl, y_gle, y_gge, y_ggt, y_glt, y_geq, if_pos, if_neg, if_true, if_false, Option.bind_some, ep, ebl, r106, y_Lsub]
    · simp (disch := omega) only [y_c0, y_c1, y_c10, y_c100, y_c1000, y_c10000, y_c100000, y_c106, y_c112, y_c116, y_c127, y_c128, y_c13, y_c14, y_c155, y_c2, y_c20, y_c200, y_c204, y_c21, y_c253, y_c255, y_c3, y_c30, y_c302, y_c303, y_c304, y_c305, y_c306, y_c307, y_c308, y_c309, y_c310, y_c311, y_c312, y_c313, y_c314, y_c315, y_c316, y_c32, y_c33, y_c353, y_c39, y_c4, y_c40, y_c44, y_c4589, y_c48, y_c49, y_c5, y_c512, y_c54, y_c57, y_c59, y_c6, y_c62, y_c64, y_c7, y_c8, y_c9, y_c99, y_c9999, y_d0, y_d1, y_d10, y_d100, y_d1000000, y_d1442695040888963407, y_d2, y_d20, y_d255, y_d3, y_d4, y_d40, y_d4294967295, y_d48, y_d5, y_d50, y_d54, y_d57, y_d6364136223846793005, y_d7, y_d9, y_d9999, y_dR, y_dS, y_dk, y_nar0, y_nar1, y_Ilt, y_Ile, y_Ieq, y_Iadd, y_Imul, y_Idiv, y_Llt, y_Lle, y_Leq, y_Ladd, y_Lmul, y_Ldiv, y_I2l, y_L2i, y_shn, y_or, y_and, y_bn1, y_bn0, y_inb, y_cl, y_gle, y_gge, y_ggt, y_glt, y_geq, if_pos, if_neg, if_true, if_false, Option.bind_some, ep, ebl, r106, y_Lsub]
  obtain ⟨⟨i1, j2, j3⟩, ⟨s1, s2, s3, s4, s5⟩, i3, i4, i5⟩ := hi
  have hc4 := i4 d hd
  rw [e46]
  unfold yFn
  rw [← k2]
  by_cases z : yDf ρ (yq d) < ρ 302
  · rw [if_pos z, if_pos z]
    refine ⟨vp_updL r (204 + yq d) (lN 0), ?_, hr.u (by omega)⟩
    unfold f_X9_find_J46
    simp (disch := omega) only [y_c0, y_c1, y_c10, y_c100, y_c1000, y_c10000, y_c100000, y_c106, y_c112, y_c116, y_c127, y_c128, y_c13, y_c14, y_c155, y_c2, y_c20, y_c200, y_c204, y_c21, y_c253, y_c255, y_c3, y_c30, y_c302, y_c303, y_c304, y_c305, y_c306, y_c307, y_c308, y_c309, y_c310, y_c311, y_c312, y_c313, y_c314, y_c315, y_c316, y_c32, y_c33, y_c353, y_c39, y_c4, y_c40, y_c44, y_c4589, y_c48, y_c49, y_c5, y_c512, y_c54, y_c57, y_c59, y_c6, y_c62, y_c64, y_c7, y_c8, y_c9, y_c99, y_c9999, y_d0, y_d1, y_d10, y_d100, y_d1000000, y_d1442695040888963407, y_d2, y_d20, y_d255, y_d3, y_d4, y_d40, y_d4294967295, y_d48, y_d5, y_d50, y_d54, y_d57, y_d6364136223846793005, y_d7, y_d9, y_d9999, y_dR, y_dS, y_dk, y_nar0, y_nar1, y_Ilt, y_Ile, y_Ieq, y_Iadd, y_Imul, y_Idiv, y_Llt, y_Lle, y_Leq, y_Ladd, y_Lmul, y_Ldiv, y_I2l, y_L2i, y_shn, y_or, y_and, y_bn1, y_bn0, y_inb, y_cl, y_gle, y_gge, y_ggt, y_glt, y_geq, if_pos, if_neg, if_true, if_false, Option.bind_some, r302]
  · rw [if_neg z, if_neg z]
    obtain ⟨m1, m2⟩ := hmv (by omega)
    have hmul : yDf ρ (yq d) * ρ 303 ≤ 1000 * 10 := Nat.mul_le_mul b3 s4
    have e96 : f_X9_find_J46 353 (nI a) (nI b) (nI (yq d)) (lN (yBl ρ (yq d))) (lN (yDf ρ (yq d))) r = f_X9_find_J96 353 (nI a) (nI b) (nI (yq d)) (lN (yBl ρ (yq d))) (lN (yMv ρ (yq d))) r := by
      unfold f_X9_find_J46 yMv
      by_cases q : 1 < yDf ρ (yq d) * ρ 303 / 10
      · simp (disch := omega) only [y_c0, y_c1, y_c10, y_c100, y_c1000, y_c10000, y_c100000, y_c106, y_c112, y_c116, y_c127, y_c128, y_c13, y_c14, y_c155, y_c2, y_c20, y_c200, y_c204, y_c21, y_c253, y_c255, y_c3, y_c30, y_c302, y_c303, y_c304, y_c305, y_c306, y_c307, y_c308, y_c309, y_c310, y_c311, y_c312, y_c313, y_c314, y_c315, y_c316, y_c32, y_c33, y_c353, y_c39, y_c4, y_c40, y_c44, y_c4589, y_c48, y_c49, y_c5, y_c512, y_c54, y_c57, y_c59, y_c6, y_c62, y_c64, y_c7, y_c8, y_c9, y_c99, y_c9999, y_d0, y_d1, y_d10, y_d100, y_d1000000, y_d1442695040888963407, y_d2, y_d20, y_d255, y_d3, y_d4, y_d40, y_d4294967295, y_d48, y_d5, y_d50, y_d54, y_d57, y_d6364136223846793005, y_d7, y_d9, y_d9999, y_dR, y_dS, y_dk, y_nar0, y_nar1, y_Ilt, y_Ile, y_Ieq, y_Iadd, y_Imul, y_Idiv, y_Llt, y_Lle, y_Leq, y_Ladd, y_Lmul, y_Ldiv, y_I2l, y_L2i, y_shn, y_or, y_and, y_bn1, y_bn0, y_inb, y_cl, y_gle, y_gge, y_ggt, y_glt, y_geq, if_pos, if_neg, if_true, if_false, Option.bind_some, r302, r303]
      · by_cases q2 : yDf ρ (yq d) * ρ 303 / 10 = 1
        · simp (disch := omega) only [y_c0, y_c1, y_c10, y_c100, y_c1000, y_c10000, y_c100000, y_c106, y_c112, y_c116, y_c127, y_c128, y_c13, y_c14, y_c155, y_c2, y_c20, y_c200, y_c204, y_c21, y_c253, y_c255, y_c3, y_c30, y_c302, y_c303, y_c304, y_c305, y_c306, y_c307, y_c308, y_c309, y_c310, y_c311, y_c312, y_c313, y_c314, y_c315, y_c316, y_c32, y_c33, y_c353, y_c39, y_c4, y_c40, y_c44, y_c4589, y_c48, y_c49, y_c5, y_c512, y_c54, y_c57, y_c59, y_c6, y_c62, y_c64, y_c7, y_c8, y_c9, y_c99, y_c9999, y_d0, y_d1, y_d10, y_d100, y_d1000000, y_d1442695040888963407, y_d2, y_d20, y_d255, y_d3, y_d4, y_d40, y_d4294967295, y_d48, y_d5, y_d50, y_d54, y_d57, y_d6364136223846793005, y_d7, y_d9, y_d9999, y_dR, y_dS, y_dk, y_nar0, y_nar1, y_Ilt, y_Ile, y_Ieq, y_Iadd, y_Imul, y_Idiv, y_Llt, y_Lle, y_Leq, y_Ladd, y_Lmul, y_Ldiv, y_I2l, y_L2i, y_shn, y_or, y_and, y_bn1, y_bn0, y_inb, y_cl, y_gle, y_gge, y_ggt, y_glt, y_geq, if_pos, if_neg, if_true, if_false, Option.bind_some, r302, r303, q2]
        · simp (disch := omega) only [y_c0, y_c1, y_c10, y_c100, y_c1000, y_c10000, y_c100000, y_c106, y_c112, y_c116, y_c127, y_c128, y_c13, y_c14, y_c155, y_c2, y_c20, y_c200, y_c204, y_c21, y_c253, y_c255, y_c3, y_c30, y_c302, y_c303, y_c304, y_c305, y_c306, y_c307, y_c308, y_c309, y_c310, y_c311, y_c312, y_c313, y_c314, y_c315, y_c316, y_c32, y_c33, y_c353, y_c39, y_c4, y_c40, y_c44, y_c4589, y_c48, y_c49, y_c5, y_c512, y_c54, y_c57, y_c59, y_c6, y_c62, y_c64, y_c7, y_c8, y_c9, y_c99, y_c9999, y_d0, y_d1, y_d10, y_d100, y_d1000000, y_d1442695040888963407, y_d2, y_d20, y_d255, y_d3, y_d4, y_d40, y_d4294967295, y_d48, y_d5, y_d50, y_d54, y_d57, y_d6364136223846793005, y_d7, y_d9, y_d9999, y_dR, y_dS, y_dk, y_nar0, y_nar1, y_Ilt, y_Ile, y_Ieq, y_Iadd, y_Imul, y_Idiv, y_Llt, y_Lle, y_Leq, y_Ladd, y_Lmul, y_Ldiv, y_I2l, y_L2i, y_shn, y_or, y_and, y_bn1, y_bn0, y_inb, y_cl, y_gle, y_gge, y_ggt, y_glt, y_geq, if_pos, if_neg, if_true, if_false, Option.bind_some, r302, r303]
    have e129 : f_X9_find_J96 353 (nI a) (nI b) (nI (yq d)) (lN (yBl ρ (yq d))) (lN (yMv ρ (yq d))) r = f_X9_find_J129 353 (nI a) (nI b) (nI (yq d)) (lN (yBl ρ (yq d))) (lN (yNv ρ (yq d))) (nI (155 + yq d)) r := by
      unfold f_X9_find_J96 yNv
      unfold yDf at m2
      by_cases q : ρ (106 + yq d) ≤ yBl ρ (yq d)
      · rw [if_pos q] at m2
        simp (disch := omega) only [y_c0, y_c1, y_c10, y_c100, y_c1000, y_c10000, y_c100000, y_c106, y_c112, y_c116, y_c127, y_c128, y_c13, y_c14, y_c155, y_c2, y_c20, y_c200, y_c204, y_c21, y_c253, y_c255, y_c3, y_c30, y_c302, y_c303, y_c304, y_c305, y_c306, y_c307, y_c308, y_c309, y_c310, y_c311, y_c312, y_c313, y_c314, y_c315, y_c316, y_c32, y_c33, y_c353, y_c39, y_c4, y_c40, y_c44, y_c4589, y_c48, y_c49, y_c5, y_c512, y_c54, y_c57, y_c59, y_c6, y_c62, y_c64, y_c7, y_c8, y_c9, y_c99, y_c9999, y_d0, y_d1, y_d10, y_d100, y_d1000000, y_d1442695040888963407, y_d2, y_d20, y_d255, y_d3, y_d4, y_d40, y_d4294967295, y_d48, y_d5, y_d50, y_d54, y_d57, y_d6364136223846793005, y_d7, y_d9, y_d9999, y_dR, y_dS, y_dk, y_nar0, y_nar1, y_Ilt, y_Ile, y_Ieq, y_Iadd, y_Imul, y_Idiv, y_Llt, y_Lle, y_Leq, y_Ladd, y_Lmul, y_Ldiv, y_I2l, y_L2i, y_shn, y_or, y_and, y_bn1, y_bn0, y_inb, y_cl, y_gle, y_gge, y_ggt, y_glt, y_geq, if_pos, if_neg, if_true, if_false, Option.bind_some, r106, y_Lsub]
      · simp (disch := omega) only [y_c0, y_c1, y_c10, y_c100, y_c1000, y_c10000, y_c100000, y_c106, y_c112, y_c116, y_c127, y_c128, y_c13, y_c14, y_c155, y_c2, y_c20, y_c200, y_c204, y_c21, y_c253, y_c255, y_c3, y_c30, y_c302, y_c303, y_c304, y_c305, y_c306, y_c307, y_c308, y_c309, y_c310, y_c311, y_c312, y_c313, y_c314, y_c315, y_c316, y_c32, y_c33, y_c353, y_c39, y_c4, y_c40, y_c44, y_c4589, y_c48, y_c49, y_c5, y_c512, y_c54, y_c57, y_c59, y_c6, y_c62, y_c64, y_c7, y_c8, y_c9, y_c99, y_c9999, y_d0, y_d1, y_d10, y_d100, y_d1000000, y_d1442695040888963407, y_d2, y_d20, y_d255, y_d3, y_d4, y_d40, y_d4294967295, y_d48, y_d5, y_d50, y_d54, y_d57, y_d6364136223846793005, y_d7, y_d9, y_d9999, y_dR, y_dS, y_dk, y_nar0, y_nar1, y_Ilt, y_Ile, y_Ieq, y_Iadd, y_Imul, y_Idiv, y_Llt, y_Lle, y_Leq, y_Ladd, y_Lmul, y_Ldiv, y_I2l, y_L2i, y_shn, y_or, y_and, y_bn1, y_bn0, y_inb, y_cl, y_gle, y_gge, y_ggt, y_glt, y_geq, if_pos, if_neg, if_true, if_false, Option.bind_some, r106]
    rw [e96, e129]
    obtain ⟨F, hF, hF1⟩ := y_fuel
    generalize hr4 : vp_updL (vp_updL (vp_updL (vp_updL r (155 + yq d) (lN (yNv ρ (yq d)))) (204 + yq d) (lN 0)) (253 + yq d) (lN (ρ (253 + yq d) + 1))) 307 (lN (ρ 307 + 1)) = r4
    have R : ∀ j, r4 j = if j = 307 then lN (ρ 307 + 1) else if j = 253 + yq d then lN (ρ (253 + yq d) + 1) else if j = 204 + yq d then lN 0 else if j = 155 + yq d then lN (yNv ρ (yq d)) else r j := by
      intro j; rw [← hr4]; rfl
    have g1 : f_X9_find_J129 353 (nI a) (nI b) (nI (yq d)) (lN (yBl ρ (yq d))) (lN (yNv ρ (yq d))) (nI (155 + yq d)) r = f_X9_find_L162 353 (nI a) (nI b) (nI (yq d)) (lN (yBl ρ (yq d))) (xK29 (nI a) (nI b) (nI (yq d)) (lN (yBl ρ (yq d)))) F (nI (36 + 3)) r4 := by
      unfold f_X9_find_J129
      rw [hF]
      show (if inb (nI (155 + yq d)) 353 = true then (if inb ((204 : Int32) + nI (yq d)) 353 = true then (if inb ((253 : Int32) + nI (yq d)) 353 = true then (if inb ((253 : Int32) + nI (yq d)) 353 = true then (if inb (307 : Int32) 353 = true then (if inb (307 : Int32) 353 = true then (f_X9_find_L162 353 (nI a) (nI b) (nI (yq d)) (lN (yBl ρ (yq d))) (xK29 (nI a) (nI b) (nI (yq d)) (lN (yBl ρ (yq d)))) F (39 : Int32) _) else none) else none) else none) else none) else none) else none) = _
      rw [← hr4]
      simp (disch := omega) only [y_c0, y_c1, y_c10, y_c100, y_c1000, y_c10000, y_c100000, y_c106, y_c112, y_c116, y_c127, y_c128, y_c13, y_c14, y_c155, y_c2, y_c20, y_c200, y_c204, y_c21, y_c253, y_c255, y_c3, y_c30, y_c302, y_c303, y_c304, y_c305, y_c306, y_c307, y_c308, y_c309, y_c310, y_c311, y_c312, y_c313, y_c314, y_c315, y_c316, y_c32, y_c33, y_c353, y_c39, y_c4, y_c40, y_c44, y_c4589, y_c48, y_c49, y_c5, y_c512, y_c54, y_c57, y_c59, y_c6, y_c62, y_c64, y_c7, y_c8, y_c9, y_c99, y_c9999, y_d0, y_d1, y_d10, y_d100, y_d1000000, y_d1442695040888963407, y_d2, y_d20, y_d255, y_d3, y_d4, y_d40, y_d4294967295, y_d48, y_d5, y_d50, y_d54, y_d57, y_d6364136223846793005, y_d7, y_d9, y_d9999, y_dR, y_dS, y_dk, y_nar0, y_nar1, y_Ilt, y_Ile, y_Ieq, y_Iadd, y_Imul, y_Idiv, y_Llt, y_Lle, y_Leq, y_Ladd, y_Lmul, y_Ldiv, y_I2l, y_L2i, y_shn, y_or, y_and, y_bn1, y_bn0, y_inb, y_cl, y_gle, y_gge, y_ggt, y_glt, y_geq, if_pos, if_neg, if_true, if_false, Option.bind_some, y_ue, y_un, r253, r307]
    have g2 : ∀ y : Nat → Int64, y (106 + yq d) = lN (ρ (106 + yq d)) → y 305 = lN (ρ 305) → y 312 = lN (ρ 312) → xK29 (nI a) (nI b) (nI (yq d)) (lN (yBl ρ (yq d))) y = some (nI 1, vp_updL (vp_updL (vp_updL (vp_updL (vp_updL y 313 (lN (10 * a + b))) 314 (lN (yBl ρ (yq d)))) 315 (lN (ρ (106 + yq d)))) 316 (lN (ρ 305))) 312 (lN (min 10 (ρ 312 + 1)))) := by
      intro y y1 y2 y3
      unfold xK29
      simp (disch := omega) only [y_c0, y_c1, y_c10, y_c100, y_c1000, y_c10000, y_c100000, y_c106, y_c112, y_c116, y_c127, y_c128, y_c13, y_c14, y_c155, y_c2, y_c20, y_c200, y_c204, y_c21, y_c253, y_c255, y_c3, y_c30, y_c302, y_c303, y_c304, y_c305, y_c306, y_c307, y_c308, y_c309, y_c310, y_c311, y_c312, y_c313, y_c314, y_c315, y_c316, y_c32, y_c33, y_c353, y_c39, y_c4, y_c40, y_c44, y_c4589, y_c48, y_c49, y_c5, y_c512, y_c54, y_c57, y_c59, y_c6, y_c62, y_c64, y_c7, y_c8, y_c9, y_c99, y_c9999, y_d0, y_d1, y_d10, y_d100, y_d1000000, y_d1442695040888963407, y_d2, y_d20, y_d255, y_d3, y_d4, y_d40, y_d4294967295, y_d48, y_d5, y_d50, y_d54, y_d57, y_d6364136223846793005, y_d7, y_d9, y_d9999, y_dR, y_dS, y_dk, y_nar0, y_nar1, y_Ilt, y_Ile, y_Ieq, y_Iadd, y_Imul, y_Idiv, y_Llt, y_Lle, y_Leq, y_Ladd, y_Lmul, y_Ldiv, y_I2l, y_L2i, y_shn, y_or, y_and, y_bn1, y_bn0, y_inb, y_cl, y_gle, y_gge, y_ggt, y_glt, y_geq, if_pos, if_neg, if_true, if_false, Option.bind_some, y_ue, y_un, y1, y2, y3, x_less]
    obtain ⟨y, f, f1, f2⟩ := x_162 (x1 := nI a) (x2 := nI b) (x3 := nI (yq d)) (x4 := lN (yBl ρ (yq d))) (K := xK29 (nI a) (nI b) (nI (yq d)) (lN (yBl ρ (yq d)))) 36 F r4 (by omega) (by omega)
    rw [g1, f, g2 y (by rw [f1 _ (by omega), R, if_neg (by omega), if_neg (by omega), if_neg (by omega), if_neg (by omega), r106]) (by rw [f1 _ (by omega), R, if_neg (by omega), if_neg (by omega), if_neg (by omega), if_neg (by omega), r305]) (by rw [f1 _ (by omega), R, if_neg (by omega), if_neg (by omega), if_neg (by omega), if_neg (by omega), r312])]
    refine ⟨_, rfl, ⟨fun j hj hj2 => ?_, fun j hj => ?_⟩⟩
    · by_cases q12 : j = 312
      · rw [y_ue q12, q12, yFs_12 hqd]
      rw [y_un q12]
      by_cases q16 : j = 316
      · rw [y_ue q16, q16, yFs_16 hqd]
      rw [y_un q16]
      by_cases q15 : j = 315
      · rw [y_ue q15, q15, yFs_15 hqd]
      rw [y_un q15]
      by_cases q14 : j = 314
      · rw [y_ue q14, q14, yFs_14 hqd]
      rw [y_un q14]
      by_cases q13 : j = 313
      · rw [y_ue q13, q13, yFs_13 hqd]
      rw [y_un q13]
      by_cases qt : 317 ≤ j
      · rw [f2 j qt (by omega), yFs_t hqd qt hj, R, if_neg (by omega), if_neg (by omega), if_neg (by omega), if_neg (by omega)]
        exact hr.1 (j - 4) (by omega) (by omega)
      rw [f1 j (by omega), R]
      by_cases p1 : j = 307
      · rw [if_pos p1, p1, yFs_7 hqd]
      rw [if_neg p1]
      by_cases p2 : j = 253 + yq d
      · rw [if_pos p2, p2, yFs_s]
      rw [if_neg p2]
      by_cases p3 : j = 204 + yq d
      · rw [if_pos p3, p3, yFs_a]
      rw [if_neg p3]
      by_cases p4 : j = 155 + yq d
      · rw [if_pos p4, p4, yFs_m]
      rw [if_neg p4, yFs_o (by omega) p4 p3 p2]
      exact hr.1 j hj hj2
    · rw [y_un (by omega), y_un (by omega), y_un (by omega), y_un (by omega), y_un (by omega), f1 _ (by omega), R, if_neg (by omega), if_neg (by omega), if_neg (by omega), if_neg (by omega)]
      exact hr.2 j hj
