theorem s_scd {N : Nat} {w : TW} {r : Nat → Int64} {ρ : Nat → Nat} {σ : Nat → Int64} (h : ST N w r ρ σ) (v1 v2 v3 : Int32) :
    ∃ b c e w' r' ρ', f_X8_scriptDrifts w v1 v2 v3 = some (nI b, w') ∧ f_X9_whyNotDrift 353 r v1 v2 v3 = some (nI c, ()) ∧ ((b = 1 ∧ c = 0 ∧ f_X9_driftOn 353 r v1 v2 v3 = some (nI e, r') ∧ 0 < e ∧ e ≤ 1000) ∨ (b = 0 ∧ 0 < c ∧ c ≤ 3 ∧ r' = r)) ∧ ST N w' r' ρ' σ ∧ ρ' 0 = ρ 0 ∧ ρ' 307 = ρ 307 := by
  rcases y_two h v1 v2 with ⟨ta, tb, rfl, rfl, -, -, ha, hb, hab, hne, t1, t2, t3⟩ | ⟨t1, t2, t3⟩ | ⟨t0, t1, t2, t3⟩
  · rcases y_rng v3 1 1000 (by omega) (by omega) with ⟨s, rfl, hs1, hs2, e1, e2, e3⟩ | ⟨-, e1, e2, e3⟩
    · have cp := c_pair ta ha tb hb hab
      have xp := x_pairq ta ha tb hb hab
      have hd2 := yci_lt ta ha tb hb hab
      have el := c_isLinked h.1.1 h.2.2.1 hd2
      have hq := yq_lt _ hd2
      have e8 := h.2.1.1 (8 + yq (yci ta tb)) (by omega) (by omega)
      have b8 := (h.2.2.1.2.2 _ hd2).1
      by_cases q : 0 < ρ (8 + yq (yci ta tb))
      · rw [if_pos q] at el
        obtain ⟨w', k1, k3⟩ := s_share h hd2 q ⟨hs1, hs2⟩
        have e106 := h.2.1.1 (106 + yq (yci ta tb)) (by omega) (by omega)
        obtain ⟨-, -, b3, -, -, b6, -⟩ := h.2.2.1.2.2 _ hd2
        refine ⟨1, 0, _, w', _, _, ?_, ?_, Or.inl ⟨rfl, rfl, ?_, b6.mp q, b3⟩, k3, pu_n (by omega), pu_n (by omega)⟩
        · simp (disch := omega) only [y_c0, y_c1, y_c10, y_c100, y_c1000, y_c10000, y_c100000, y_c106, y_c112, y_c116, y_c127, y_c128, y_c13, y_c14, y_c155, y_c2, y_c20, y_c200, y_c204, y_c21, y_c253, y_c255, y_c3, y_c30, y_c302, y_c303, y_c304, y_c305, y_c306, y_c307, y_c308, y_c309, y_c310, y_c311, y_c312, y_c313, y_c314, y_c315, y_c316, y_c32, y_c33, y_c353, y_c39, y_c4, y_c40, y_c44, y_c4589, y_c48, y_c49, y_c5, y_c512, y_c54, y_c57, y_c59, y_c6, y_c62, y_c64, y_c7, y_c8, y_c9, y_c99, y_c9999, y_d0, y_d1, y_d10, y_d100, y_d1000000, y_d1442695040888963407, y_d2, y_d20, y_d255, y_d3, y_d4, y_d40, y_d4294967295, y_d48, y_d5, y_d50, y_d54, y_d57, y_d6364136223846793005, y_d7, y_d9, y_d9999, y_dR, y_dS, y_dk, y_nar0, y_nar1, y_Ilt, y_Ile, y_Ieq, y_Iadd, y_Imul, y_Idiv, y_Llt, y_Lle, y_Leq, y_Ladd, y_Lmul, y_Ldiv, y_I2l, y_L2i, y_shn, y_or, y_and, y_bn1, y_bn0, y_inb, y_cl, y_gle, y_gge, y_ggt, y_glt, y_geq, if_pos, if_neg, if_true, if_false, Option.bind_some, f_X8_scriptDrifts, t3, e3, cp, el, k1]
        · unfold f_X9_whyNotDrift
          rw [t2, Option.bind_some, if_neg y_z1, if_neg hne]
          simp (disch := omega) only [y_c0, y_c1, y_c10, y_c100, y_c1000, y_c10000, y_c100000, y_c106, y_c112, y_c116, y_c127, y_c128, y_c13, y_c14, y_c155, y_c2, y_c20, y_c200, y_c204, y_c21, y_c253, y_c255, y_c3, y_c30, y_c302, y_c303, y_c304, y_c305, y_c306, y_c307, y_c308, y_c309, y_c310, y_c311, y_c312, y_c313, y_c314, y_c315, y_c316, y_c32, y_c33, y_c353, y_c39, y_c4, y_c40, y_c44, y_c4589, y_c48, y_c49, y_c5, y_c512, y_c54, y_c57, y_c59, y_c6, y_c62, y_c64, y_c7, y_c8, y_c9, y_c99, y_c9999, y_d0, y_d1, y_d10, y_d100, y_d1000000, y_d1442695040888963407, y_d2, y_d20, y_d255, y_d3, y_d4, y_d40, y_d4294967295, y_d48, y_d5, y_d50, y_d54, y_d57, y_d6364136223846793005, y_d7, y_d9, y_d9999, y_dR, y_dS, y_dk, y_nar0, y_nar1, y_Ilt, y_Ile, y_Ieq, y_Iadd, y_Imul, y_Idiv, y_Llt, y_Lle, y_Leq, y_Ladd, y_Lmul, y_Ldiv, y_I2l, y_L2i, y_shn, y_or, y_and, y_bn1, y_bn0, y_inb, y_cl, y_gle, y_gge, y_ggt, y_glt, y_geq, if_pos, if_neg, if_true, if_false, Option.bind_some, f_X9_isShare, e2, xp, e8]
        · simp (disch := omega) only [y_c0, y_c1, y_c10, y_c100, y_c1000, y_c10000, y_c100000, y_c106, y_c112, y_c116, y_c127, y_c128, y_c13, y_c14, y_c155, y_c2, y_c20, y_c200, y_c204, y_c21, y_c253, y_c255, y_c3, y_c30, y_c302, y_c303, y_c304, y_c305, y_c306, y_c307, y_c308, y_c309, y_c310, y_c311, y_c312, y_c313, y_c314, y_c315, y_c316, y_c32, y_c33, y_c353, y_c39, y_c4, y_c40, y_c44, y_c4589, y_c48, y_c49, y_c5, y_c512, y_c54, y_c57, y_c59, y_c6, y_c62, y_c64, y_c7, y_c8, y_c9, y_c99, y_c9999, y_d0, y_d1, y_d10, y_d100, y_d1000000, y_d1442695040888963407, y_d2, y_d20, y_d255, y_d3, y_d4, y_d40, y_d4294967295, y_d48, y_d5, y_d50, y_d54, y_d57, y_d6364136223846793005, y_d7, y_d9, y_d9999, y_dR, y_dS, y_dk, y_nar0, y_nar1, y_Ilt, y_Ile, y_Ieq, y_Iadd, y_Imul, y_Idiv, y_Llt, y_Lle, y_Leq, y_Ladd, y_Lmul, y_Ldiv, y_I2l, y_L2i, y_shn, y_or, y_and, y_bn1, y_bn0, y_inb, y_cl, y_gle, y_gge, y_ggt, y_glt, y_geq, if_pos, if_neg, if_true, if_false, Option.bind_some, f_X9_driftOn, xp, e106]
      · rw [if_neg q] at el
        refine ⟨0, 3, 0, w, r, ρ, ?_, ?_, Or.inr ⟨rfl, by omega, by omega, rfl⟩, h, rfl, rfl⟩
        · simp (disch := omega) only [y_c0, y_c1, y_c10, y_c100, y_c1000, y_c10000, y_c100000, y_c106, y_c112, y_c116, y_c127, y_c128, y_c13, y_c14, y_c155, y_c2, y_c20, y_c200, y_c204, y_c21, y_c253, y_c255, y_c3, y_c30, y_c302, y_c303, y_c304, y_c305, y_c306, y_c307, y_c308, y_c309, y_c310, y_c311, y_c312, y_c313, y_c314, y_c315, y_c316, y_c32, y_c33, y_c353, y_c39, y_c4, y_c40, y_c44, y_c4589, y_c48, y_c49, y_c5, y_c512, y_c54, y_c57, y_c59, y_c6, y_c62, y_c64, y_c7, y_c8, y_c9, y_c99, y_c9999, y_d0, y_d1, y_d10, y_d100, y_d1000000, y_d1442695040888963407, y_d2, y_d20, y_d255, y_d3, y_d4, y_d40, y_d4294967295, y_d48, y_d5, y_d50, y_d54, y_d57, y_d6364136223846793005, y_d7, y_d9, y_d9999, y_dR, y_dS, y_dk, y_nar0, y_nar1, y_Ilt, y_Ile, y_Ieq, y_Iadd, y_Imul, y_Idiv, y_Llt, y_Lle, y_Leq, y_Ladd, y_Lmul, y_Ldiv, y_I2l, y_L2i, y_shn, y_or, y_and, y_bn1, y_bn0, y_inb, y_cl, y_gle, y_gge, y_ggt, y_glt, y_geq, if_pos, if_neg, if_true, if_false, Option.bind_some, f_X8_scriptDrifts, t3, e3, cp, el]
        · unfold f_X9_whyNotDrift
          rw [t2, Option.bind_some, if_neg y_z1, if_neg hne]
          simp (disch := omega) only [y_c0, y_c1, y_c10, y_c100, y_c1000, y_c10000, y_c100000, y_c106, y_c112, y_c116, y_c127, y_c128, y_c13, y_c14, y_c155, y_c2, y_c20, y_c200, y_c204, y_c21, y_c253, y_c255, y_c3, y_c30, y_c302, y_c303, y_c304, y_c305, y_c306, y_c307, y_c308, y_c309, y_c310, y_c311, y_c312, y_c313, y_c314, y_c315, y_c316, y_c32, y_c33, y_c353, y_c39, y_c4, y_c40, y_c44, y_c4589, y_c48, y_c49, y_c5, y_c512, y_c54, y_c57, y_c59, y_c6, y_c62, y_c64, y_c7, y_c8, y_c9, y_c99, y_c9999, y_d0, y_d1, y_d10, y_d100, y_d1000000, y_d1442695040888963407, y_d2, y_d20, y_d255, y_d3, y_d4, y_d40, y_d4294967295, y_d48, y_d5, y_d50, y_d54, y_d57, y_d6364136223846793005, y_d7, y_d9, y_d9999, y_dR, y_dS, y_dk, y_nar0, y_nar1, y_Ilt, y_Ile, y_Ieq, y_Iadd, y_Imul, y_Idiv, y_Llt, y_Lle, y_Leq, y_Ladd, y_Lmul, y_Ldiv, y_I2l, y_L2i, y_shn, y_or, y_and, y_bn1, y_bn0, y_inb, y_cl, y_gle, y_gge, y_ggt, y_glt, y_geq, if_pos, if_neg, if_true, if_false, Option.bind_some, f_X9_isShare, e2, xp, e8]
    · refine ⟨0, 2, 0, w, r, ρ, ?_, ?_, Or.inr ⟨rfl, by omega, by omega, rfl⟩, h, rfl, rfl⟩
      · simp (disch := omega) only [y_c0, y_c1, y_c10, y_c100, y_c1000, y_c10000, y_c100000, y_c106, y_c112, y_c116, y_c127, y_c128, y_c13, y_c14, y_c155, y_c2, y_c20, y_c200, y_c204, y_c21, y_c253, y_c255, y_c3, y_c30, y_c302, y_c303, y_c304, y_c305, y_c306, y_c307, y_c308, y_c309, y_c310, y_c311, y_c312, y_c313, y_c314, y_c315, y_c316, y_c32, y_c33, y_c353, y_c39, y_c4, y_c40, y_c44, y_c4589, y_c48, y_c49, y_c5, y_c512, y_c54, y_c57, y_c59, y_c6, y_c62, y_c64, y_c7, y_c8, y_c9, y_c99, y_c9999, y_d0, y_d1, y_d10, y_d100, y_d1000000, y_d1442695040888963407, y_d2, y_d20, y_d255, y_d3, y_d4, y_d40, y_d4294967295, y_d48, y_d5, y_d50, y_d54, y_d57, y_d6364136223846793005, y_d7, y_d9, y_d9999, y_dR, y_dS, y_dk, y_nar0, y_nar1, y_Ilt, y_Ile, y_Ieq, y_Iadd, y_Imul, y_Idiv, y_Llt, y_Lle, y_Leq, y_Ladd, y_Lmul, y_Ldiv, y_I2l, y_L2i, y_shn, y_or, y_and, y_bn1, y_bn0, y_inb, y_cl, y_gle, y_gge, y_ggt, y_glt, y_geq, if_pos, if_neg, if_true, if_false, Option.bind_some, f_X8_scriptDrifts, t3, e3]
      · unfold f_X9_whyNotDrift
        rw [t2, Option.bind_some, if_neg y_z1, if_neg hne]
        simp (disch := omega) only [y_c0, y_c1, y_c10, y_c100, y_c1000, y_c10000, y_c100000, y_c106, y_c112, y_c116, y_c127, y_c128, y_c13, y_c14, y_c155, y_c2, y_c20, y_c200, y_c204, y_c21, y_c253, y_c255, y_c3, y_c30, y_c302, y_c303, y_c304, y_c305, y_c306, y_c307, y_c308, y_c309, y_c310, y_c311, y_c312, y_c313, y_c314, y_c315, y_c316, y_c32, y_c33, y_c353, y_c39, y_c4, y_c40, y_c44, y_c4589, y_c48, y_c49, y_c5, y_c512, y_c54, y_c57, y_c59, y_c6, y_c62, y_c64, y_c7, y_c8, y_c9, y_c99, y_c9999, y_d0, y_d1, y_d10, y_d100, y_d1000000, y_d1442695040888963407, y_d2, y_d20, y_d255, y_d3, y_d4, y_d40, y_d4294967295, y_d48, y_d5, y_d50, y_d54, y_d57, y_d6364136223846793005, y_d7, y_d9, y_d9999, y_dR, y_dS, y_dk, y_nar0, y_nar1, y_Ilt, y_Ile, y_Ieq, y_Iadd, y_Imul, y_Idiv, y_Llt, y_Lle, y_Leq, y_Ladd, y_Lmul, y_Ldiv, y_I2l, y_L2i, y_shn, y_or, y_and, y_bn1, y_bn0, y_inb, y_cl, y_gle, y_gge, y_ggt, y_glt, y_geq, if_pos, if_neg, if_true, if_false, Option.bind_some, f_X9_isShare, e2]
  · refine ⟨0, 1, 0, w, r, ρ, ?_, ?_, Or.inr ⟨rfl, by omega, by omega, rfl⟩, h, rfl, rfl⟩
    · simp (disch := omega) only [y_c0, y_c1, y_c10, y_c100, y_c1000, y_c10000, y_c100000, y_c106, y_c112, y_c116, y_c127, y_c128, y_c13, y_c14, y_c155, y_c2, y_c20, y_c200, y_c204, y_c21, y_c253, y_c255, y_c3, y_c30, y_c302, y_c303, y_c304, y_c305, y_c306, y_c307, y_c308, y_c309, y_c310, y_c311, y_c312, y_c313, y_c314, y_c315, y_c316, y_c32, y_c33, y_c353, y_c39, y_c4, y_c40, y_c44, y_c4589, y_c48, y_c49, y_c5, y_c512, y_c54, y_c57, y_c59, y_c6, y_c62, y_c64, y_c7, y_c8, y_c9, y_c99, y_c9999, y_d0, y_d1, y_d10, y_d100, y_d1000000, y_d1442695040888963407, y_d2, y_d20, y_d255, y_d3, y_d4, y_d40, y_d4294967295, y_d48, y_d5, y_d50, y_d54, y_d57, y_d6364136223846793005, y_d7, y_d9, y_d9999, y_dR, y_dS, y_dk, y_nar0, y_nar1, y_Ilt, y_Ile, y_Ieq, y_Iadd, y_Imul, y_Idiv, y_Llt, y_Lle, y_Leq, y_Ladd, y_Lmul, y_Ldiv, y_I2l, y_L2i, y_shn, y_or, y_and, y_bn1, y_bn0, y_inb, y_cl, y_gle, y_gge, y_ggt, y_glt, y_geq, if_pos, if_neg, if_true, if_false, Option.bind_some, f_X8_scriptDrifts, t3]
    · simp (disch := omega) only [y_c0, y_c1, y_c10, y_c100, y_c1000, y_c10000, y_c100000, y_c106, y_c112, y_c116, y_c127, y_c128, y_c13, y_c14, y_c155, y_c2, y_c20, y_c200, y_c204, y_c21, y_c253, y_c255, y_c3, y_c30, y_c302, y_c303, y_c304, y_c305, y_c306, y_c307, y_c308, y_c309, y_c310, y_c311, y_c312, y_c313, y_c314, y_c315, y_c316, y_c32, y_c33, y_c353, y_c39, y_c4, y_c40, y_c44, y_c4589, y_c48, y_c49, y_c5, y_c512, y_c54, y_c57, y_c59, y_c6, y_c62, y_c64, y_c7, y_c8, y_c9, y_c99, y_c9999, y_d0, y_d1, y_d10, y_d100, y_d1000000, y_d1442695040888963407, y_d2, y_d20, y_d255, y_d3, y_d4, y_d40, y_d4294967295, y_d48, y_d5, y_d50, y_d54, y_d57, y_d6364136223846793005, y_d7, y_d9, y_d9999, y_dR, y_dS, y_dk, y_nar0, y_nar1, y_Ilt, y_Ile, y_Ieq, y_Iadd, y_Imul, y_Idiv, y_Llt, y_Lle, y_Leq, y_Ladd, y_Lmul, y_Ldiv, y_I2l, y_L2i, y_shn, y_or, y_and, y_bn1, y_bn0, y_inb, y_cl, y_gle, y_gge, y_ggt, y_glt, y_geq, if_pos, if_neg, if_true, if_false, Option.bind_some, f_X9_whyNotDrift, t2]
  · refine ⟨0, 2, 0, w, r, ρ, ?_, ?_, Or.inr ⟨rfl, by omega, by omega, rfl⟩, h, rfl, rfl⟩
    · simp (disch := omega) only [y_c0, y_c1, y_c10, y_c100, y_c1000, y_c10000, y_c100000, y_c106, y_c112, y_c116, y_c127, y_c128, y_c13, y_c14, y_c155, y_c2, y_c20, y_c200, y_c204, y_c21, y_c253, y_c255, y_c3, y_c30, y_c302, y_c303, y_c304, y_c305, y_c306, y_c307, y_c308, y_c309, y_c310, y_c311, y_c312, y_c313, y_c314, y_c315, y_c316, y_c32, y_c33, y_c353, y_c39, y_c4, y_c40, y_c44, y_c4589, y_c48, y_c49, y_c5, y_c512, y_c54, y_c57, y_c59, y_c6, y_c62, y_c64, y_c7, y_c8, y_c9, y_c99, y_c9999, y_d0, y_d1, y_d10, y_d100, y_d1000000, y_d1442695040888963407, y_d2, y_d20, y_d255, y_d3, y_d4, y_d40, y_d4294967295, y_d48, y_d5, y_d50, y_d54, y_d57, y_d6364136223846793005, y_d7, y_d9, y_d9999, y_dR, y_dS, y_dk, y_nar0, y_nar1, y_Ilt, y_Ile, y_Ieq, y_Iadd, y_Imul, y_Idiv, y_Llt, y_Lle, y_Leq, y_Ladd, y_Lmul, y_Ldiv, y_I2l, y_L2i, y_shn, y_or, y_and, y_bn1, y_bn0, y_inb, y_cl, y_gle, y_gge, y_ggt, y_glt, y_geq, if_pos, if_neg, if_true, if_false, Option.bind_some, f_X8_scriptDrifts, t3]
    · unfold f_X9_whyNotDrift
      rw [t2, Option.bind_some, if_neg y_z1, if_pos t0]
      rfl
theorem y_00 : nI (0 + 0) = (0 : Int32) := rfl
/-- the outcome of a command -/
def CMDO (N : Nat) (M : TM) (A : Option (Int32 × (TW × TP × TP))) (B : Option (Int32 × (TM × (Nat → Int64) × (Nat → Int64) × (Nat → Int64) × (Nat → Int64) × (Nat → Int32)))) : Prop :=
  ∃ b w' P1' P2' M' tr' cb' pb' tp' pl' ρ' σ', A = some (nI b, (w', P1', P2')) ∧ B = some (nI b, (M', tr', cb', pb', tp', pl')) ∧ b ≤ 1 ∧ ST (N + 50) w' tr' ρ' σ' ∧ SM M' M
def cmC (w : TW) (P1 P2 : TP) (d1 d2 d3 x : Int32) : Option (Int32 × (TW × TP × TP)) := (if d1 = (1 : Int32) then (if d2 = (0 : Int32) then (if d3 = (0 : Int32) then (if x = (0 : Int32) then (some ((0 : Int32), (w, P1, P2))) else ((f_X7_hasTables w x).bind fun o5 => (if o5.1 = (0 : Int32) then (some ((0 : Int32), (w, P1, P2))) else ((f_X8_runIn P1 P2 w x).bind fun o7 => (if o7.1 < (0 : Int32) then (some ((0 : Int32), (o7.2.2.2, o7.2.1, o7.2.2.1))) else (some ((1 : Int32), (o7.2.2.2, o7.2.1, o7.2.2.1)))))))) else (some ((0 : Int32), (w, P1, P2)))) else (some ((0 : Int32), (w, P1, P2)))) else (if d1 = (2 : Int32) then (if d2 = (0 : Int32) then (if d3 = (0 : Int32) then ((f_X8_isIn x (1 : Int32) (20 : Int32)).bind fun o11 => (if o11.1 = (0 : Int32) then (some ((0 : Int32), (w, P1, P2))) else ((f_X7_passWeeks w x).bind fun o13 => (if o13.1 < (0 : Int32) then (some ((0 : Int32), (o13.2, P1, P2))) else (some ((1 : Int32), (o13.2, P1, P2))))))) else (some ((0 : Int32), (w, P1, P2)))) else (some ((0 : Int32), (w, P1, P2)))) else (if d1 = (3 : Int32) then ((f_X8_scriptDrifts w d2 d3 x).bind fun o15 => (if vp_nar .boolean o15.1 = o15.1 then (some (o15.1, (o15.2, P1, P2))) else none)) else (if d1 = (4 : Int32) then (if d3 = (0 : Int32) then ((f_X8_scriptSets w d2 x).bind fun o18 => (if o18.1 = (0 : Int32) then (some ((0 : Int32), (o18.2, P1, P2))) else (some ((1 : Int32), (o18.2, P1, P2))))) else (some ((0 : Int32), (w, P1, P2)))) else (if d1 = (5 : Int32) then ((f_X8_scriptLinks w d2 d3 x).bind fun o20 => (if vp_nar .boolean o20.1 = o20.1 then (some (o20.1, (o20.2, P1, P2))) else none)) else (if d1 = (6 : Int32) then ((f_X7_hasTables w x).bind fun o22 => (if o22.1 = (0 : Int32) then (some ((0 : Int32), (w, P1, P2))) else ((f_X8_chosenTableIs w P1 d2 x d3).bind fun o24 => (if o24.1 = (0 : Int32) then (some ((0 : Int32), (w, o24.2, P2))) else (some ((1 : Int32), (w, o24.2, P2))))))) else (if d1 = (7 : Int32) then (if (100 : Int32) ≤ x then (some ((0 : Int32), (w, P1, P2))) else ((f_X7_hasTwoTables w d2 d3).bind fun o27 => (if o27.1 = (0 : Int32) then (some ((0 : Int32), (w, P1, P2))) else ((f_X8_pairIndex d2 d3).bind fun o29 => ((f_X7_remembersSince w o29.1 x).bind fun o30 => (if o30.1 = (0 : Int32) then (some ((0 : Int32), (w, P1, P2))) else (some ((1 : Int32), (w, P1, P2))))))))) else (if d1 = (8 : Int32) then (if d2 = (0 : Int32) then (if d3 = (0 : Int32) then (if (100 : Int32) ≤ x then (some ((0 : Int32), (w, P1, P2))) else (if (W_surprises w) < x then (some ((0 : Int32), (w, P1, P2))) else (some ((1 : Int32), (w, P1, P2))))) else (some ((0 : Int32), (w, P1, P2)))) else (some ((0 : Int32), (w, P1, P2)))) else (if d1 = (9 : Int32) then (if d2 = (0 : Int32) then (if d3 = (0 : Int32) then ((f_X7_hasTables w x).bind fun o38 => (if o38.1 = (0 : Int32) then (some ((0 : Int32), (w, P1, P2))) else ((f_X8_regretIn P1 P2 w x).bind fun o40 => (if (lg_cmp o40.1 (0 : Int64)) = (0 : Int32) then (some ((1 : Int32), (w, o40.2.1, o40.2.2))) else (some ((0 : Int32), (w, o40.2.1, o40.2.2))))))) else (some ((0 : Int32), (w, P1, P2)))) else (some ((0 : Int32), (w, P1, P2)))) else (some ((0 : Int32), (w, P1, P2))))))))))))
theorem cmC_1 {w : TW} {P1 P2 : TP} {d2 d3 x : Int32} : cmC w P1 P2 (nI 1) d2 d3 x = (if d2 = (0 : Int32) then (if d3 = (0 : Int32) then (if x = (0 : Int32) then (some ((0 : Int32), (w, P1, P2))) else ((f_X7_hasTables w x).bind fun o5 => (if o5.1 = (0 : Int32) then (some ((0 : Int32), (w, P1, P2))) else ((f_X8_runIn P1 P2 w x).bind fun o7 => (if o7.1 < (0 : Int32) then (some ((0 : Int32), (o7.2.2.2, o7.2.1, o7.2.2.1))) else (some ((1 : Int32), (o7.2.2.2, o7.2.1, o7.2.2.1)))))))) else (some ((0 : Int32), (w, P1, P2)))) else (some ((0 : Int32), (w, P1, P2)))) := by
  unfold cmC
  rw [if_pos (by decide)]
theorem cmC_2 {w : TW} {P1 P2 : TP} {d2 d3 x : Int32} : cmC w P1 P2 (nI 2) d2 d3 x = (if d2 = (0 : Int32) then (if d3 = (0 : Int32) then ((f_X8_isIn x (1 : Int32) (20 : Int32)).bind fun o11 => (if o11.1 = (0 : Int32) then (some ((0 : Int32), (w, P1, P2))) else ((f_X7_passWeeks w x).bind fun o13 => (if o13.1 < (0 : Int32) then (some ((0 : Int32), (o13.2, P1, P2))) else (some ((1 : Int32), (o13.2, P1, P2))))))) else (some ((0 : Int32), (w, P1, P2)))) else (some ((0 : Int32), (w, P1, P2)))) := by
  unfold cmC
  rw [if_neg (by decide), if_pos (by decide)]
theorem cmC_3 {w : TW} {P1 P2 : TP} {d2 d3 x : Int32} : cmC w P1 P2 (nI 3) d2 d3 x = ((f_X8_scriptDrifts w d2 d3 x).bind fun o15 => (if vp_nar .boolean o15.1 = o15.1 then (some (o15.1, (o15.2, P1, P2))) else none)) := by
  unfold cmC
  rw [if_neg (by decide), if_neg (by decide), if_pos (by decide)]
theorem cmC_4 {w : TW} {P1 P2 : TP} {d2 d3 x : Int32} : cmC w P1 P2 (nI 4) d2 d3 x = (if d3 = (0 : Int32) then ((f_X8_scriptSets w d2 x).bind fun o18 => (if o18.1 = (0 : Int32) then (some ((0 : Int32), (o18.2, P1, P2))) else (some ((1 : Int32), (o18.2, P1, P2))))) else (some ((0 : Int32), (w, P1, P2)))) := by
  unfold cmC
  rw [if_neg (by decide), if_neg (by decide), if_neg (by decide), if_pos (by decide)]
theorem cmC_5 {w : TW} {P1 P2 : TP} {d2 d3 x : Int32} : cmC w P1 P2 (nI 5) d2 d3 x = ((f_X8_scriptLinks w d2 d3 x).bind fun o20 => (if vp_nar .boolean o20.1 = o20.1 then (some (o20.1, (o20.2, P1, P2))) else none)) := by
  unfold cmC
  rw [if_neg (by decide), if_neg (by decide), if_neg (by decide), if_neg (by decide), if_pos (by decide)]
theorem cmC_6 {w : TW} {P1 P2 : TP} {d2 d3 x : Int32} : cmC w P1 P2 (nI 6) d2 d3 x = ((f_X7_hasTables w x).bind fun o22 => (if o22.1 = (0 : Int32) then (some ((0 : Int32), (w, P1, P2))) else ((f_X8_chosenTableIs w P1 d2 x d3).bind fun o24 => (if o24.1 = (0 : Int32) then (some ((0 : Int32), (w, o24.2, P2))) else (some ((1 : Int32), (w, o24.2, P2))))))) := by
  unfold cmC
  rw [if_neg (by decide), if_neg (by decide), if_neg (by decide), if_neg (by decide), if_neg (by decide), if_pos (by decide)]
theorem cmC_7 {w : TW} {P1 P2 : TP} {d2 d3 x : Int32} : cmC w P1 P2 (nI 7) d2 d3 x = (if (100 : Int32) ≤ x then (some ((0 : Int32), (w, P1, P2))) else ((f_X7_hasTwoTables w d2 d3).bind fun o27 => (if o27.1 = (0 : Int32) then (some ((0 : Int32), (w, P1, P2))) else ((f_X8_pairIndex d2 d3).bind fun o29 => ((f_X7_remembersSince w o29.1 x).bind fun o30 => (if o30.1 = (0 : Int32) then (some ((0 : Int32), (w, P1, P2))) else (some ((1 : Int32), (w, P1, P2))))))))) := by
  unfold cmC
  rw [if_neg (by decide), if_neg (by decide), if_neg (by decide), if_neg (by decide), if_neg (by decide), if_neg (by decide), if_pos (by decide)]
theorem cmC_8 {w : TW} {P1 P2 : TP} {d2 d3 x : Int32} : cmC w P1 P2 (nI 8) d2 d3 x = (if d2 = (0 : Int32) then (if d3 = (0 : Int32) then (if (100 : Int32) ≤ x then (some ((0 : Int32), (w, P1, P2))) else (if (W_surprises w) < x then (some ((0 : Int32), (w, P1, P2))) else (some ((1 : Int32), (w, P1, P2))))) else (some ((0 : Int32), (w, P1, P2)))) else (some ((0 : Int32), (w, P1, P2)))) := by
  unfold cmC
  rw [if_neg (by decide), if_neg (by decide), if_neg (by decide), if_neg (by decide), if_neg (by decide), if_neg (by decide), if_neg (by decide), if_pos (by decide)]
theorem cmC_9 {w : TW} {P1 P2 : TP} {d2 d3 x : Int32} : cmC w P1 P2 (nI 9) d2 d3 x = (if d2 = (0 : Int32) then (if d3 = (0 : Int32) then ((f_X7_hasTables w x).bind fun o38 => (if o38.1 = (0 : Int32) then (some ((0 : Int32), (w, P1, P2))) else ((f_X8_regretIn P1 P2 w x).bind fun o40 => (if (lg_cmp o40.1 (0 : Int64)) = (0 : Int32) then (some ((1 : Int32), (w, o40.2.1, o40.2.2))) else (some ((0 : Int32), (w, o40.2.1, o40.2.2))))))) else (some ((0 : Int32), (w, P1, P2)))) else (some ((0 : Int32), (w, P1, P2)))) := by
  unfold cmC
  rw [if_neg (by decide), if_neg (by decide), if_neg (by decide), if_neg (by decide), if_neg (by decide), if_neg (by decide), if_neg (by decide), if_neg (by decide), if_pos (by decide)]
theorem cmC_0 {w : TW} {P1 P2 : TP} {d2 d3 x : Int32} : cmC w P1 P2 (nI 0) d2 d3 x = (some ((0 : Int32), (w, P1, P2))) := by
  unfold cmC
  rw [if_neg (by decide), if_neg (by decide), if_neg (by decide), if_neg (by decide), if_neg (by decide), if_neg (by decide), if_neg (by decide), if_neg (by decide), if_neg (by decide)]
theorem cmX_1 {M : TM} {r cb pb tp : Nat → Int64} {pl : Nat → Int32} {d2 d3 x : Int32} : f_X9_command M r cb pb tp pl (nI 1) d2 d3 x = (if (d2 + d3) = (0 : Int32) then ((f_X9_whyNotRun 353 r x).bind fun o3 => (if o3.1 = (0 : Int32) then ((f_X9_runOn 353 M cb pb tp pl r x).bind fun o5 => (if o5.1 < (0 : Int32) then (some ((0 : Int32), (o5.2.1, o5.2.2.2.2.2.2, o5.2.2.1, o5.2.2.2.1, o5.2.2.2.2.1, o5.2.2.2.2.2.1))) else (some ((1 : Int32), (o5.2.1, o5.2.2.2.2.2.2, o5.2.2.1, o5.2.2.2.1, o5.2.2.2.2.1, o5.2.2.2.2.2.1))))) else (some ((0 : Int32), (M, r, cb, pb, tp, pl))))) else (some ((0 : Int32), (M, r, cb, pb, tp, pl)))) := by
  unfold f_X9_command
  rw [if_pos (by decide)]
theorem cmX_2 {M : TM} {r cb pb tp : Nat → Int64} {pl : Nat → Int32} {d2 d3 x : Int32} : f_X9_command M r cb pb tp pl (nI 2) d2 d3 x = (if (d2 + d3) = (0 : Int32) then ((f_X9_in (Int32.toInt64 x) (1 : Int64) (20 : Int64)).bind fun o8 => (if o8.1 = (0 : Int32) then (some ((0 : Int32), (M, r, cb, pb, tp, pl))) else ((f_X9_weeksOn 353 r x).bind fun o10 => (if o10.1 < (0 : Int32) then (some ((0 : Int32), (M, o10.2, cb, pb, tp, pl))) else (some ((1 : Int32), (M, o10.2, cb, pb, tp, pl))))))) else (some ((0 : Int32), (M, r, cb, pb, tp, pl)))) := by
  unfold f_X9_command
  rw [if_neg (by decide), if_pos (by decide)]
theorem cmX_3 {M : TM} {r cb pb tp : Nat → Int64} {pl : Nat → Int32} {d2 d3 x : Int32} : f_X9_command M r cb pb tp pl (nI 3) d2 d3 x = ((f_X9_whyNotDrift 353 r d2 d3 x).bind fun o12 => (if o12.1 = (0 : Int32) then ((f_X9_driftOn 353 r d2 d3 x).bind fun o14 => (if o14.1 ≤ (0 : Int32) then (some ((0 : Int32), (M, o14.2, cb, pb, tp, pl))) else (some ((1 : Int32), (M, o14.2, cb, pb, tp, pl))))) else (some ((0 : Int32), (M, r, cb, pb, tp, pl))))) := by
  unfold f_X9_command
  rw [if_neg (by decide), if_neg (by decide), if_pos (by decide)]
theorem cmX_4 {M : TM} {r cb pb tp : Nat → Int64} {pl : Nat → Int32} {d2 d3 x : Int32} : f_X9_command M r cb pb tp pl (nI 4) d2 d3 x = (if (0 : Int32) < d3 then (some ((0 : Int32), (M, r, cb, pb, tp, pl))) else ((f_X9_isSetting d2 x).bind fun o17 => (if o17.1 = (0 : Int32) then (some ((0 : Int32), (M, r, cb, pb, tp, pl))) else (if inb ((302 : Int32) + d2) 353 = true then (some ((1 : Int32), (M, (vp_updL r ((302 : Int32) + d2).toNatClampNeg (Int32.toInt64 x)), cb, pb, tp, pl))) else none)))) := by
  unfold f_X9_command
  rw [if_neg (by decide), if_neg (by decide), if_neg (by decide), if_pos (by decide)]
theorem cmX_5 {M : TM} {r cb pb tp : Nat → Int64} {pl : Nat → Int32} {d2 d3 x : Int32} : f_X9_command M r cb pb tp pl (nI 5) d2 d3 x = ((f_X9_arePair 353 r d2 d3).bind fun o20 => (if o20.1 = (0 : Int32) then (some ((0 : Int32), (M, r, cb, pb, tp, pl))) else (if d2 = d3 then (some ((0 : Int32), (M, r, cb, pb, tp, pl))) else ((f_X9_isShare x).bind fun o23 => (if o23.1 = (0 : Int32) then (some ((0 : Int32), (M, r, cb, pb, tp, pl))) else ((f_X9_linkOn 353 r d2 d3 x x).bind fun o25 => (if o25.1 ≤ (0 : Int32) then (some ((0 : Int32), (M, o25.2, cb, pb, tp, pl))) else (some ((1 : Int32), (M, o25.2, cb, pb, tp, pl)))))))))) := by
  unfold f_X9_command
  rw [if_neg (by decide), if_neg (by decide), if_neg (by decide), if_neg (by decide), if_pos (by decide)]
theorem cmX_6 {M : TM} {r cb pb tp : Nat → Int64} {pl : Nat → Int32} {d2 d3 x : Int32} : f_X9_command M r cb pb tp pl (nI 6) d2 d3 x = ((f_X9_isChosen M r cb tp pl d2 d3 x).bind fun o27 => (if vp_nar .boolean o27.1 = o27.1 then (some (o27.1, (o27.2.1, r, o27.2.2.1, pb, o27.2.2.2.1, o27.2.2.2.2))) else none)) := by
  unfold f_X9_command
  rw [if_neg (by decide), if_neg (by decide), if_neg (by decide), if_neg (by decide), if_neg (by decide), if_pos (by decide)]
theorem cmX_7 {M : TM} {r cb pb tp : Nat → Int64} {pl : Nat → Int32} {d2 d3 x : Int32} : f_X9_command M r cb pb tp pl (nI 7) d2 d3 x = ((f_X9_arePair 353 r d2 d3).bind fun o29 => (if o29.1 = (0 : Int32) then (some ((0 : Int32), (M, r, cb, pb, tp, pl))) else (if d2 = d3 then (some ((0 : Int32), (M, r, cb, pb, tp, pl))) else (if (100 : Int32) ≤ x then (some ((0 : Int32), (M, r, cb, pb, tp, pl))) else ((f_X9_pairOf d2 d3).bind fun o33 => (if inb ((155 : Int32) + o33.1) 353 = true then (if (lg_cmp (r ((155 : Int32) + o33.1).toNatClampNeg) (0 : Int64)) ≤ (0 : Int32) then (some ((0 : Int32), (M, r, cb, pb, tp, pl))) else ((f_X9_pairOf d2 d3).bind fun o36 => (if inb ((204 : Int32) + o36.1) 353 = true then (if (0 : Int32) < (lg_cmp (r ((204 : Int32) + o36.1).toNatClampNeg) (Int32.toInt64 x)) then (some ((0 : Int32), (M, r, cb, pb, tp, pl))) else (some ((1 : Int32), (M, r, cb, pb, tp, pl)))) else none))) else none)))))) := by
  unfold f_X9_command
  rw [if_neg (by decide), if_neg (by decide), if_neg (by decide), if_neg (by decide), if_neg (by decide), if_neg (by decide), if_pos (by decide)]
theorem cmX_8 {M : TM} {r cb pb tp : Nat → Int64} {pl : Nat → Int32} {d2 d3 x : Int32} : f_X9_command M r cb pb tp pl (nI 8) d2 d3 x = (if (d2 + d3) = (0 : Int32) then (if (100 : Int32) ≤ x then (some ((0 : Int32), (M, r, cb, pb, tp, pl))) else (if inb (307 : Int32) 353 = true then (if (lg_cmp (r (307 : Int32).toNatClampNeg) (Int32.toInt64 x)) < (0 : Int32) then (some ((0 : Int32), (M, r, cb, pb, tp, pl))) else (some ((1 : Int32), (M, r, cb, pb, tp, pl)))) else none)) else (some ((0 : Int32), (M, r, cb, pb, tp, pl)))) := by
  unfold f_X9_command
  rw [if_neg (by decide), if_neg (by decide), if_neg (by decide), if_neg (by decide), if_neg (by decide), if_neg (by decide), if_neg (by decide), if_pos (by decide)]
theorem cmX_9 {M : TM} {r cb pb tp : Nat → Int64} {pl : Nat → Int32} {d2 d3 x : Int32} : f_X9_command M r cb pb tp pl (nI 9) d2 d3 x = (if (d2 + d3) = (0 : Int32) then ((f_X9_isSet 353 r x).bind fun o44 => (if o44.1 = (0 : Int32) then (some ((0 : Int32), (M, r, cb, pb, tp, pl))) else ((f_X9_costOn 353 M cb pb tp pl r x (2 : Int32)).bind fun o46 => (if (lg_cmp o46.1 (0 : Int64)) = (0 : Int32) then (some ((1 : Int32), (o46.2.1, r, o46.2.2.1, o46.2.2.2.1, o46.2.2.2.2.1, o46.2.2.2.2.2))) else (some ((0 : Int32), (o46.2.1, r, o46.2.2.1, o46.2.2.2.1, o46.2.2.2.2.1, o46.2.2.2.2.2))))))) else (some ((0 : Int32), (M, r, cb, pb, tp, pl)))) := by
  unfold f_X9_command
  rw [if_neg (by decide), if_neg (by decide), if_neg (by decide), if_neg (by decide), if_neg (by decide), if_neg (by decide), if_neg (by decide), if_neg (by decide), if_pos (by decide)]
theorem cmX_0 {M : TM} {r cb pb tp : Nat → Int64} {pl : Nat → Int32} {d2 d3 x : Int32} : f_X9_command M r cb pb tp pl (nI 0) d2 d3 x = (some ((0 : Int32), (M, r, cb, pb, tp, pl))) := by
  unfold f_X9_command
  rw [if_neg (by decide), if_neg (by decide), if_neg (by decide), if_neg (by decide), if_neg (by decide), if_neg (by decide), if_neg (by decide), if_neg (by decide), if_neg (by decide)]
theorem c_cmd {w : TW} {P1 P2 : TP} {m : Nat} (hm : m < 1000000) : f_X8_succeeds w P1 P2 (nI m) = cmC w P1 P2 (nI (m / 100000)) (nI (m / 10000 % 10)) (nI (m / 1000 % 10)) (nI (m % 1000)) := by
  have h1 : nI m / (100000 : Int32) = nI (m / 100000) := y_Idiv (b := 100000) (by omega) (by omega)
  have h2 : (nI m / (10000 : Int32)) - (nI m / (10000 : Int32)) / (10 : Int32) * (10 : Int32) = nI (m / 10000 % 10) := by
    rw [show nI m / (10000 : Int32) = nI (m / 10000) from y_Idiv (b := 10000) (by omega) (by omega)]
    exact y_Irem (b := 10) (by omega) (by omega)
  have h3 : (nI m / (1000 : Int32)) - (nI m / (1000 : Int32)) / (10 : Int32) * (10 : Int32) = nI (m / 1000 % 10) := by
    rw [show nI m / (1000 : Int32) = nI (m / 1000) from y_Idiv (b := 1000) (by omega) (by omega)]
    exact y_Irem (b := 10) (by omega) (by omega)
  have h4 : nI m - nI m / (1000 : Int32) * (1000 : Int32) = nI (m % 1000) := y_Irem (b := 1000) (by omega) (by omega)
  unfold f_X8_succeeds
  rw [h1, h2, h3, h4]
  rfl
section
variable {N : Nat} {w : TW} {r cb pb tp : Nat → Int64} {pl : Nat → Int32} {ρ : Nat → Nat} {σ : Nat → Int64} {P1 P2 : TP} {M : TM} {d2 d3 x : Nat} (h : ST N w r ρ σ) (hN : N < 700000) (h2 : d2 < 10) (h3 : d3 < 10) (hx : x < 1000)
theorem CMDO.no (h : ST N w r ρ σ) {A : Option (Int32 × (TW × TP × TP))} {B : Option (Int32 × (TM × (Nat → Int64) × (Nat → Int64) × (Nat → Int64) × (Nat → Int64) × (Nat → Int32)))} (hA : A = some (nI 0, (w, P1, P2))) (hB : B = some (nI 0, (M, r, cb, pb, tp, pl))) : CMDO N M A B :=
  ⟨0, w, P1, P2, M, r, cb, pb, tp, pl, ρ, σ, hA, hB, by omega, h.mono (by omega), ⟨rfl, rfl, rfl⟩⟩
theorem k_cmd1 (h : ST N w r ρ σ) (hN : N < 700000) (h2 : d2 < 10) (h3 : d3 < 10) (hx : x < 1000) : CMDO N M (cmC w P1 P2 (nI 1) (nI d2) (nI d3) (nI x)) (f_X9_command M r cb pb tp pl (nI 1) (nI d2) (nI d3) (nI x)) := by
  rw [cmC_1, cmX_1, y_Iadd]
  by_cases q2 : d2 = 0
  · by_cases q3 : d3 = 0
    · subst q2; subst q3
      rcases y_sts h (nI x) with ⟨j, ej, hj, hj7, t3, -, t2⟩ | ⟨t3, -, t2⟩
      · have ejx : x = j := (y_Ieq (by omega) (by omega)).mp ej
        subst ejx
        by_cases q : x = 0
        · subst q
          refine CMDO.no (P1 := P1) (P2 := P2) (cb := cb) (pb := pb) (tp := tp) (pl := pl) h (by rw [if_pos y_z0, if_pos y_z0, if_pos y_z0]; rfl) ?_
          have e : f_X9_whyNotRun 353 r (nI 0) = some (nI 2, ()) := by
            simp (disch := omega) only [y_c0, y_c1, y_c10, y_c100, y_c1000, y_c10000, y_c100000, y_c106, y_c112, y_c116, y_c127, y_c128, y_c13, y_c14, y_c155, y_c2, y_c20, y_c200, y_c204, y_c21, y_c253, y_c255, y_c3, y_c30, y_c302, y_c303, y_c304, y_c305, y_c306, y_c307, y_c308, y_c309, y_c310, y_c311, y_c312, y_c313, y_c314, y_c315, y_c316, y_c32, y_c33, y_c353, y_c39, y_c4, y_c40, y_c44, y_c4589, y_c48, y_c49, y_c5, y_c512, y_c54, y_c57, y_c59, y_c6, y_c62, y_c64, y_c7, y_c8, y_c9, y_c99, y_c9999, y_d0, y_d1, y_d10, y_d100, y_d1000000, y_d1442695040888963407, y_d2, y_d20, y_d255, y_d3, y_d4, y_d40, y_d4294967295, y_d48, y_d5, y_d50, y_d54, y_d57, y_d6364136223846793005, y_d7, y_d9, y_d9999, y_dR, y_dS, y_dk, y_nar0, y_nar1, y_Ilt, y_Ile, y_Ieq, y_Iadd, y_Imul, y_Idiv, y_Llt, y_Lle, y_Leq, y_Ladd, y_Lmul, y_Ldiv, y_I2l, y_L2i, y_shn, y_or, y_and, y_bn1, y_bn0, y_inb, y_cl, y_gle, y_gge, y_ggt, y_glt, y_geq, if_pos, if_neg, if_true, if_false, Option.bind_some, f_X9_whyNotRun, t2]
          rw [if_pos y_00, e]; first | rfl | (rw [Option.bind_some]; exact if_pos y_nar1) | (rw [Option.bind_some]; exact if_pos y_nar0)
        · obtain ⟨P1', P2', w', n, y, cb', pb', tp', pl', r', k1, k2, k3, k4⟩ := s_run (P1 := P1) (P2 := P2) (M := M) (cb := cb) (pb := pb) (tp := tp) (pl := pl) h (by omega) hj
          have e : f_X9_whyNotRun 353 r (nI x) = some (nI 0, ()) := by
            simp (disch := omega) only [y_c0, y_c1, y_c10, y_c100, y_c1000, y_c10000, y_c100000, y_c106, y_c112, y_c116, y_c127, y_c128, y_c13, y_c14, y_c155, y_c2, y_c20, y_c200, y_c204, y_c21, y_c253, y_c255, y_c3, y_c30, y_c302, y_c303, y_c304, y_c305, y_c306, y_c307, y_c308, y_c309, y_c310, y_c311, y_c312, y_c313, y_c314, y_c315, y_c316, y_c32, y_c33, y_c353, y_c39, y_c4, y_c40, y_c44, y_c4589, y_c48, y_c49, y_c5, y_c512, y_c54, y_c57, y_c59, y_c6, y_c62, y_c64, y_c7, y_c8, y_c9, y_c99, y_c9999, y_d0, y_d1, y_d10, y_d100, y_d1000000, y_d1442695040888963407, y_d2, y_d20, y_d255, y_d3, y_d4, y_d40, y_d4294967295, y_d48, y_d5, y_d50, y_d54, y_d57, y_d6364136223846793005, y_d7, y_d9, y_d9999, y_dR, y_dS, y_dk, y_nar0, y_nar1, y_Ilt, y_Ile, y_Ieq, y_Iadd, y_Imul, y_Idiv, y_Llt, y_Lle, y_Leq, y_Ladd, y_Lmul, y_Ldiv, y_I2l, y_L2i, y_shn, y_or, y_and, y_bn1, y_bn0, y_inb, y_cl, y_gle, y_gge, y_ggt, y_glt, y_geq, if_pos, if_neg, if_true, if_false, Option.bind_some, f_X9_whyNotRun, t2]
          refine ⟨1, w', P1', P2', Mpl M y, r', cb', pb', tp', pl', _, _, ?_, ?_, by omega, k3, ⟨rfl, rfl, rfl⟩⟩
          · rw [if_pos y_z0, if_pos y_z0, if_neg (show ¬ nI x = (0 : Int32) from fun z => q ((y_Ieq (b := 0) (by omega) (by omega)).mp z)), t3, Option.bind_some]
            refine (if_neg y_z1).trans ?_
            rw [k1, Option.bind_some]
            exact if_neg (y_pos (by omega))
          · rw [if_pos y_00, e, Option.bind_some]
            refine (if_pos y_z0).trans ?_
            rw [k2, Option.bind_some]
            exact if_neg (y_pos (by omega))
      · refine CMDO.no (P1 := P1) (P2 := P2) (cb := cb) (pb := pb) (tp := tp) (pl := pl) h ?_ ?_
        · rw [if_pos y_z0, if_pos y_z0]
          split
          · rfl
          · rw [t3]; first | rfl | (rw [Option.bind_some]; exact if_pos y_nar1) | (rw [Option.bind_some]; exact if_pos y_nar0)
        · have e : f_X9_whyNotRun 353 r (nI x) = some (nI 1, ()) := by
            simp (disch := omega) only [y_c0, y_c1, y_c10, y_c100, y_c1000, y_c10000, y_c100000, y_c106, y_c112, y_c116, y_c127, y_c128, y_c13, y_c14, y_c155, y_c2, y_c20, y_c200, y_c204, y_c21, y_c253, y_c255, y_c3, y_c30, y_c302, y_c303, y_c304, y_c305, y_c306, y_c307, y_c308, y_c309, y_c310, y_c311, y_c312, y_c313, y_c314, y_c315, y_c316, y_c32, y_c33, y_c353, y_c39, y_c4, y_c40, y_c44, y_c4589, y_c48, y_c49, y_c5, y_c512, y_c54, y_c57, y_c59, y_c6, y_c62, y_c64, y_c7, y_c8, y_c9, y_c99, y_c9999, y_d0, y_d1, y_d10, y_d100, y_d1000000, y_d1442695040888963407, y_d2, y_d20, y_d255, y_d3, y_d4, y_d40, y_d4294967295, y_d48, y_d5, y_d50, y_d54, y_d57, y_d6364136223846793005, y_d7, y_d9, y_d9999, y_dR, y_dS, y_dk, y_nar0, y_nar1, y_Ilt, y_Ile, y_Ieq, y_Iadd, y_Imul, y_Idiv, y_Llt, y_Lle, y_Leq, y_Ladd, y_Lmul, y_Ldiv, y_I2l, y_L2i, y_shn, y_or, y_and, y_bn1, y_bn0, y_inb, y_cl, y_gle, y_gge, y_ggt, y_glt, y_geq, if_pos, if_neg, if_true, if_false, Option.bind_some, f_X9_whyNotRun, t2]
          rw [if_pos y_00, e]; first | rfl | (rw [Option.bind_some]; exact if_pos y_nar1) | (rw [Option.bind_some]; exact if_pos y_nar0)
    · refine CMDO.no (P1 := P1) (P2 := P2) (cb := cb) (pb := pb) (tp := tp) (pl := pl) h ?_ (if_neg (fun z => by have := (y_Ieq (b := 0) (by omega) (by omega)).mp z; omega))
      subst q2
      rw [if_pos y_z0]
      exact if_neg (fun z => q3 ((y_Ieq (b := 0) (by omega) (by omega)).mp z))
  · exact CMDO.no (P1 := P1) (P2 := P2) (cb := cb) (pb := pb) (tp := tp) (pl := pl) h (if_neg (fun z => q2 ((y_Ieq (b := 0) (by omega) (by omega)).mp z))) (if_neg (fun z => by have := (y_Ieq (b := 0) (by omega) (by omega)).mp z; omega))
theorem k_cmd2 (h : ST N w r ρ σ) (hN : N < 700000) (h2 : d2 < 10) (h3 : d3 < 10) (hx : x < 1000) : CMDO N M (cmC w P1 P2 (nI 2) (nI d2) (nI d3) (nI x)) (f_X9_command M r cb pb tp pl (nI 2) (nI d2) (nI d3) (nI x)) := by
  rw [cmC_2, cmX_2, y_Iadd]
  by_cases q2 : d2 = 0
  · by_cases q3 : d3 = 0
    · subst q2; subst q3
      rcases y_rng (nI x) 1 20 (by omega) (by omega) with ⟨j, ej, hj, hj7, -, t2, t3⟩ | ⟨-, -, t2, t3⟩
      · have ejx : x = j := (y_Ieq (by omega) (by omega)).mp ej
        subst ejx
        obtain ⟨w', r', n, k1, k2, k3, k4⟩ := s_weeks h (by omega) hj7
        refine ⟨1, w', P1, P2, M, r', cb, pb, tp, pl, _, _, ?_, ?_, by omega, k3.mono (by omega), ⟨rfl, rfl, rfl⟩⟩
        · rw [if_pos y_z0, if_pos y_z0, show f_X8_isIn (nI x) (1 : Int32) (20 : Int32) = some (nI 1, ()) from t3, Option.bind_some]
          refine (if_neg y_z1).trans ?_
          rw [k1, Option.bind_some]
          exact if_neg (y_pos (by omega))
        · rw [if_pos y_00, y_I2l (by omega), show f_X9_in (lN x) (1 : Int64) (20 : Int64) = some (nI 1, ()) from t2, Option.bind_some]
          refine (if_neg y_z1).trans ?_
          rw [k2, Option.bind_some]
          exact if_neg (y_pos (by omega))
      · rw [y_I2l (by omega)] at t2
        refine CMDO.no (P1 := P1) (P2 := P2) (cb := cb) (pb := pb) (tp := tp) (pl := pl) h ?_ ?_
        · rw [if_pos y_z0, if_pos y_z0, show f_X8_isIn (nI x) (1 : Int32) (20 : Int32) = some (nI 0, ()) from t3]; first | rfl | (rw [Option.bind_some]; exact if_pos y_nar1) | (rw [Option.bind_some]; exact if_pos y_nar0)
        · rw [if_pos y_00, y_I2l (by omega), show f_X9_in (lN x) (1 : Int64) (20 : Int64) = some (nI 0, ()) from t2]; first | rfl | (rw [Option.bind_some]; exact if_pos y_nar1) | (rw [Option.bind_some]; exact if_pos y_nar0)
    · refine CMDO.no (P1 := P1) (P2 := P2) (cb := cb) (pb := pb) (tp := tp) (pl := pl) h ?_ (if_neg (fun z => by have := (y_Ieq (b := 0) (by omega) (by omega)).mp z; omega))
      subst q2
      rw [if_pos y_z0]
      exact if_neg (fun z => q3 ((y_Ieq (b := 0) (by omega) (by omega)).mp z))
  · exact CMDO.no (P1 := P1) (P2 := P2) (cb := cb) (pb := pb) (tp := tp) (pl := pl) h (if_neg (fun z => q2 ((y_Ieq (b := 0) (by omega) (by omega)).mp z))) (if_neg (fun z => by have := (y_Ieq (b := 0) (by omega) (by omega)).mp z; omega))
theorem k_cmd3 (h : ST N w r ρ σ) : CMDO N M (cmC w P1 P2 (nI 3) (nI d2) (nI d3) (nI x)) (f_X9_command M r cb pb tp pl (nI 3) (nI d2) (nI d3) (nI x)) := by
  rw [cmC_3, cmX_3]
  obtain ⟨b, c, e, w', r', ρ', k1, k2, k3, k4, -⟩ := s_scd h (nI d2) (nI d3) (nI x)
  rcases k3 with ⟨rfl, rfl, g1, g2, g3⟩ | ⟨rfl, g1, g2, rfl⟩
  · refine ⟨1, w', P1, P2, M, r', cb, pb, tp, pl, _, _, ?_, ?_, by omega, k4.mono (by omega), ⟨rfl, rfl, rfl⟩⟩
    · rw [k1]; first | rfl | (rw [Option.bind_some]; exact if_pos y_nar1) | (rw [Option.bind_some]; exact if_pos y_nar0)
    · rw [k2, Option.bind_some]
      refine (if_pos y_z0).trans ?_
      rw [g1, Option.bind_some]
      exact if_neg (fun z => by have := (y_Ile (b := 0) (by omega) (by omega)).mp z; omega)
  · refine ⟨0, w', P1, P2, M, r', cb, pb, tp, pl, _, _, ?_, ?_, by omega, k4.mono (by omega), ⟨rfl, rfl, rfl⟩⟩
    · rw [k1]; first | rfl | (rw [Option.bind_some]; exact if_pos y_nar1) | (rw [Option.bind_some]; exact if_pos y_nar0)
    · rw [k2, Option.bind_some]
      exact if_neg (fun z => by have := (y_Ieq (b := 0) (by omega) (by omega)).mp z; omega)
theorem k_cmd4 (h : ST N w r ρ σ) (h3 : d3 < 10) : CMDO N M (cmC w P1 P2 (nI 4) (nI d2) (nI d3) (nI x)) (f_X9_command M r cb pb tp pl (nI 4) (nI d2) (nI d3) (nI x)) := by
  rw [cmC_4, cmX_4]
  by_cases q3 : d3 = 0
  · subst q3
    rcases y_setg (nI d2) (nI x) with ⟨i, y, e1, e2, hi, hy, hb, t1, t2⟩ | ⟨t1, t2⟩
    · obtain ⟨w', k1, k3⟩ := s_set h hi hb
      refine ⟨1, w', P1, P2, M, _, cb, pb, tp, pl, _, _, ?_, ?_, by omega, k3.mono (by omega), ⟨rfl, rfl, rfl⟩⟩
      · have : f_X8_scriptSets w (nI d2) (nI x) = some (nI 1, w') := by
          unfold f_X8_scriptSets
          rw [t1, Option.bind_some]
          refine (if_neg y_z1).trans ?_
          rw [e1, e2, k1]; first | rfl | (rw [Option.bind_some]; exact if_pos y_nar1) | (rw [Option.bind_some]; exact if_pos y_nar0)
        rw [if_pos y_z0, this]; first | rfl | (rw [Option.bind_some]; exact if_pos y_nar1) | (rw [Option.bind_some]; exact if_pos y_nar0)
      · rw [if_neg (show ¬ (0 : Int32) < nI 0 by decide), t2, Option.bind_some]
        refine (if_neg y_z1).trans ?_
        rw [e1, e2, show (302 : Int32) + nI i = nI (302 + i) from y_Iadd 302 i, if_pos (y_inb (by omega) (by omega)), y_cl (by omega), y_I2l (by omega)]
        rfl
    · refine CMDO.no (P1 := P1) (P2 := P2) (cb := cb) (pb := pb) (tp := tp) (pl := pl) h ?_ ?_
      · have : f_X8_scriptSets w (nI d2) (nI x) = some (nI 0, w) := by
          unfold f_X8_scriptSets
          rw [t1]; first | rfl | (rw [Option.bind_some]; exact if_pos y_nar1) | (rw [Option.bind_some]; exact if_pos y_nar0)
        rw [if_pos y_z0, this]; first | rfl | (rw [Option.bind_some]; exact if_pos y_nar1) | (rw [Option.bind_some]; exact if_pos y_nar0)
      · rw [if_neg (show ¬ (0 : Int32) < nI 0 by decide), t2]; first | rfl | (rw [Option.bind_some]; exact if_pos y_nar1) | (rw [Option.bind_some]; exact if_pos y_nar0)
  · exact CMDO.no (P1 := P1) (P2 := P2) (cb := cb) (pb := pb) (tp := tp) (pl := pl) h (if_neg (fun z => q3 ((y_Ieq (b := 0) (by omega) (by omega)).mp z))) (if_pos ((y_Ilt (a := 0) (by omega) (by omega)).mpr (by omega)))
theorem k_cmd5 (h : ST N w r ρ σ) (hx : x < 1000) : CMDO N M (cmC w P1 P2 (nI 5) (nI d2) (nI d3) (nI x)) (f_X9_command M r cb pb tp pl (nI 5) (nI d2) (nI d3) (nI x)) := by
  rw [cmC_5, cmX_5]
  rcases y_two h (nI d2) (nI d3) with ⟨ta, tb, ea, eb, -, -, ha, hb, hab, hne, -, t2, t3⟩ | ⟨-, t2, t3⟩ | ⟨t0, -, t2, t3⟩
  · rcases y_rng (nI x) 1 1000 (by omega) (by omega) with ⟨s, es, hs1, hs2, -, e2, e3⟩ | ⟨-, -, e2, e3⟩
    · obtain ⟨w', r', n, k1, k2, k3, k4⟩ := s_link h (yci_lt ta ha tb hb hab) ⟨hs1, hs2⟩ ⟨hs1, hs2⟩
      have cp := c_pair ta ha tb hb hab
      have k2' := k2 ta tb ha hb hab rfl
      refine ⟨1, w', P1, P2, M, r', cb, pb, tp, pl, _, _, ?_, ?_, by omega, k3.mono (by omega), ⟨rfl, rfl, rfl⟩⟩
      · have : f_X8_scriptLinks w (nI d2) (nI d3) (nI x) = some (nI 1, w') := by
          unfold f_X8_scriptLinks
          rw [t3, Option.bind_some]
          refine (if_neg y_z1).trans ?_
          rw [show f_X8_isIn (nI x) (1 : Int32) (1000 : Int32) = some (nI 1, ()) from e3, Option.bind_some]
          refine (if_neg y_z1).trans ?_
          rw [ea, eb, cp, Option.bind_some, es]
          show ((f_X7_linkPair w (nI (yci ta tb)) (nI s) (nI s)).bind _) = _
          rw [k1]; first | rfl | (rw [Option.bind_some]; exact if_pos y_nar1) | (rw [Option.bind_some]; exact if_pos y_nar0)
        rw [this]; first | rfl | (rw [Option.bind_some]; exact if_pos y_nar1) | (rw [Option.bind_some]; exact if_pos y_nar0)
      · rw [t2, Option.bind_some, if_neg y_z1, if_neg hne]
        have : f_X9_isShare (nI x) = some (nI 1, ()) := by
          unfold f_X9_isShare
          rw [es, y_I2l (by omega), show f_X9_in (lN s) (1 : Int64) (1000 : Int64) = some (nI 1, ()) from e2]; first | rfl | (rw [Option.bind_some]; exact if_pos y_nar1) | (rw [Option.bind_some]; exact if_pos y_nar0)
        rw [this, Option.bind_some]
        refine (if_neg y_z1).trans ?_
        rw [ea, eb, es, k2', Option.bind_some]
        exact if_neg (fun z => by have := (y_Ile (b := 0) (by omega) (by omega)).mp z; omega)
    · refine CMDO.no (P1 := P1) (P2 := P2) (cb := cb) (pb := pb) (tp := tp) (pl := pl) h ?_ ?_
      · have : f_X8_scriptLinks w (nI d2) (nI d3) (nI x) = some (nI 0, w) := by
          unfold f_X8_scriptLinks
          rw [t3, Option.bind_some]
          refine (if_neg y_z1).trans ?_
          rw [show f_X8_isIn (nI x) (1 : Int32) (1000 : Int32) = some (nI 0, ()) from e3]; first | rfl | (rw [Option.bind_some]; exact if_pos y_nar1) | (rw [Option.bind_some]; exact if_pos y_nar0)
        rw [this]; first | rfl | (rw [Option.bind_some]; exact if_pos y_nar1) | (rw [Option.bind_some]; exact if_pos y_nar0)
      · rw [t2, Option.bind_some, if_neg y_z1, if_neg hne]
        have : f_X9_isShare (nI x) = some (nI 0, ()) := by
          unfold f_X9_isShare
          rw [show f_X9_in (nI x).toInt64 (1 : Int64) (1000 : Int64) = some (nI 0, ()) from e2]; first | rfl | (rw [Option.bind_some]; exact if_pos y_nar1) | (rw [Option.bind_some]; exact if_pos y_nar0)
        rw [this]; first | rfl | (rw [Option.bind_some]; exact if_pos y_nar1) | (rw [Option.bind_some]; exact if_pos y_nar0)
  · refine CMDO.no (P1 := P1) (P2 := P2) (cb := cb) (pb := pb) (tp := tp) (pl := pl) h ?_ ?_
    · have : f_X8_scriptLinks w (nI d2) (nI d3) (nI x) = some (nI 0, w) := by
        unfold f_X8_scriptLinks
        rw [t3]; first | rfl | (rw [Option.bind_some]; exact if_pos y_nar1) | (rw [Option.bind_some]; exact if_pos y_nar0)
      rw [this]; first | rfl | (rw [Option.bind_some]; exact if_pos y_nar1) | (rw [Option.bind_some]; exact if_pos y_nar0)
    · rw [t2]; first | rfl | (rw [Option.bind_some]; exact if_pos y_nar1) | (rw [Option.bind_some]; exact if_pos y_nar0)
  · refine CMDO.no (P1 := P1) (P2 := P2) (cb := cb) (pb := pb) (tp := tp) (pl := pl) h ?_ ?_
    · have : f_X8_scriptLinks w (nI d2) (nI d3) (nI x) = some (nI 0, w) := by
        unfold f_X8_scriptLinks
        rw [t3]; first | rfl | (rw [Option.bind_some]; exact if_pos y_nar1) | (rw [Option.bind_some]; exact if_pos y_nar0)
      rw [this]; first | rfl | (rw [Option.bind_some]; exact if_pos y_nar1) | (rw [Option.bind_some]; exact if_pos y_nar0)
    · rw [t2, Option.bind_some, if_neg y_z1, if_pos t0]; first | rfl | (rw [Option.bind_some]; exact if_pos y_nar1) | (rw [Option.bind_some]; exact if_pos y_nar0)
theorem k_cmd6 (h : ST N w r ρ σ) (h2 : d2 < 10) (h3 : d3 < 10) (hx : x < 1000) : CMDO N M (cmC w P1 P2 (nI 6) (nI d2) (nI d3) (nI x)) (f_X9_command M r cb pb tp pl (nI 6) (nI d2) (nI d3) (nI x)) := by
  rw [cmC_6, cmX_6]
  have h7 := h.2.2.1.1
  have ht := x_isT h.2.1.p h7 (j := d2) (by omega)
  rcases y_sts h (nI x) with ⟨j, ej, hj, hj7, t3, -, t2⟩ | ⟨t3, -, t2⟩
  · obtain ⟨P', a1, a2⟩ := cp_chooseP (P := P1) (k := 1) h.1.1 h.2.2.1 (by omega) hj
    have hl : (yPl ρ 1 j).length ≤ 7 := yP_len 7 0
    have c1 := cp_tab a2.2.2 hl (j := d3) (by omega)
    have hA : f_X8_chosenTableIs w P1 (nI d2) (nI x) (nI d3) = some (if (if d3 < (yPl ρ 1 j).length then nI ((yPl ρ 1 j).getD d3 0) else (-1 : Int32)) = nI d2 then nI 1 else nI 0, P') := by
      unfold f_X8_chosenTableIs
      rw [ej, show f_X3_choose P1 w (nI j) (1 : Int32) = some ((), P') from a1, Option.bind_some]
      show ((f_X3_tableAt P' (nI d3)).bind _) = _
      rw [c1, Option.bind_some]
      by_cases z : (if d3 < (yPl ρ 1 j).length then nI ((yPl ρ 1 j).getD d3 0) else (-1 : Int32)) = nI d2
      · rw [if_pos z, if_pos z]; rfl
      · rw [if_neg z, if_neg z]; rfl
    by_cases q : d3 < (yPl ρ 1 j).length ∧ (yPl ρ 1 j).getD d3 0 = d2
    · have hmem : (yPl ρ 1 j).getD d3 0 ∈ yPl ρ 1 j := by rw [y_getD q.1]; exact List.getElem_mem q.1
      have htl := y_bitlt hj (yP_in 7 0 _ hmem).2
      rw [q.2] at htl
      obtain ⟨cb', tp', pl', b1, b2, b3⟩ := x_choose (M := M) (cb := cb) (tp := tp) (pl := pl) (k := 1) h.2.1.p h.2.2.1 (by omega) hj
      rw [if_pos htl] at ht
      rw [if_pos (by rw [if_pos q.1, q.2])] at hA
      refine ⟨1, w, P', P2, Mpl M (nI (yPl ρ 1 j).length), r, cb', pb, tp', pl', ρ, σ, ?_, ?_, by omega, h.mono (by omega), ⟨rfl, rfl, rfl⟩⟩
      · rw [t3, Option.bind_some]
        refine (if_neg y_z1).trans ?_
        rw [hA]; first | rfl | (rw [Option.bind_some]; exact if_pos y_nar1) | (rw [Option.bind_some]; exact if_pos y_nar0)
      · have hB : f_X9_isChosen M r cb tp pl (nI d2) (nI d3) (nI x) = some (nI 1, (Mpl M (nI (yPl ρ 1 j).length), cb', tp', pl')) := by
          unfold f_X9_isChosen
          rw [ht, Option.bind_some]
          refine (if_neg y_z1).trans ?_
          rw [t2, Option.bind_some]
          refine (if_neg y_z1).trans ?_
          rw [ej, show (1 : Int32) = nI 1 from rfl, b1, Option.bind_some, show M_planned (Mpl M (nI (yPl ρ 1 j).length)) = nI (yPl ρ 1 j).length from rfl, if_neg (fun z => by have := (y_Ile (by omega) (by omega)).mp z; omega), if_pos (y_inb (show d3 < 7 by omega) (by omega))]
          show (if pl' (nI d3).toNatClampNeg = nI d2 then _ else _) = _
          rw [y_cl (by omega), b3 d3 q.1, q.2, if_pos rfl]
        rw [hB]; first | rfl | (rw [Option.bind_some]; exact if_pos y_nar1) | (rw [Option.bind_some]; exact if_pos y_nar0)
    · have hno : ¬ (if d3 < (yPl ρ 1 j).length then nI ((yPl ρ 1 j).getD d3 0) else (-1 : Int32)) = nI d2 := by
        by_cases z : d3 < (yPl ρ 1 j).length
        · rw [if_pos z]
          have hmem : (yPl ρ 1 j).getD d3 0 ∈ yPl ρ 1 j := by rw [y_getD z]; exact List.getElem_mem z
          have hb := (yP_in 7 0 _ hmem).1
          exact fun y => q ⟨z, (y_Ieq (by omega) (by omega)).mp y⟩
        · rw [if_neg z]
          exact fun y => e4_no' d2 (by omega) y.symm
      rw [if_neg hno] at hA
      have hAA : ((f_X7_hasTables w (nI x)).bind fun o22 => (if o22.1 = (0 : Int32) then (some ((0 : Int32), (w, P1, P2))) else ((f_X8_chosenTableIs w P1 (nI d2) (nI x) (nI d3)).bind fun o24 => (if o24.1 = (0 : Int32) then (some ((0 : Int32), (w, o24.2, P2))) else (some ((1 : Int32), (w, o24.2, P2))))))) = some (nI 0, (w, P', P2)) := by
        rw [t3, Option.bind_some]
        refine (if_neg y_z1).trans ?_
        rw [hA]; first | rfl | (rw [Option.bind_some]; exact if_pos y_nar1) | (rw [Option.bind_some]; exact if_pos y_nar0)
      by_cases htl : d2 < ρ 0
      · obtain ⟨cb', tp', pl', b1, b2, b3⟩ := x_choose (M := M) (cb := cb) (tp := tp) (pl := pl) (k := 1) h.2.1.p h.2.2.1 (by omega) hj
        rw [if_pos htl] at ht
        refine ⟨0, w, P', P2, Mpl M (nI (yPl ρ 1 j).length), r, cb', pb, tp', pl', ρ, σ, hAA, ?_, by omega, h.mono (by omega), ⟨rfl, rfl, rfl⟩⟩
        have hB : f_X9_isChosen M r cb tp pl (nI d2) (nI d3) (nI x) = some (nI 0, (Mpl M (nI (yPl ρ 1 j).length), cb', tp', pl')) := by
          unfold f_X9_isChosen
          rw [ht, Option.bind_some]
          refine (if_neg y_z1).trans ?_
          rw [t2, Option.bind_some]
          refine (if_neg y_z1).trans ?_
          rw [ej, show (1 : Int32) = nI 1 from rfl, b1, Option.bind_some, show M_planned (Mpl M (nI (yPl ρ 1 j).length)) = nI (yPl ρ 1 j).length from rfl]
          by_cases z : d3 < (yPl ρ 1 j).length
          · rw [if_neg (fun y => by have := (y_Ile (by omega) (by omega)).mp y; omega), if_pos (y_inb (show d3 < 7 by omega) (by omega))]
            show (if pl' (nI d3).toNatClampNeg = nI d2 then _ else _) = _
            rw [y_cl (by omega), b3 d3 z, if_neg (by rw [if_pos z] at hno; exact hno)]
            rfl
          · rw [if_pos ((y_Ile (by omega) (by omega)).mpr (by omega))]; first | rfl | (rw [Option.bind_some]; exact if_pos y_nar1) | (rw [Option.bind_some]; exact if_pos y_nar0)
        rw [hB]; first | rfl | (rw [Option.bind_some]; exact if_pos y_nar1) | (rw [Option.bind_some]; exact if_pos y_nar0)
      · rw [if_neg htl] at ht
        refine ⟨0, w, P', P2, M, r, cb, pb, tp, pl, ρ, σ, hAA, ?_, by omega, h.mono (by omega), ⟨rfl, rfl, rfl⟩⟩
        have hB : f_X9_isChosen M r cb tp pl (nI d2) (nI d3) (nI x) = some (nI 0, (M, cb, tp, pl)) := by
          unfold f_X9_isChosen
          rw [ht]; first | rfl | (rw [Option.bind_some]; exact if_pos y_nar1) | (rw [Option.bind_some]; exact if_pos y_nar0)
        rw [hB]; first | rfl | (rw [Option.bind_some]; exact if_pos y_nar1) | (rw [Option.bind_some]; exact if_pos y_nar0)
  · refine CMDO.no (P1 := P1) (P2 := P2) (cb := cb) (pb := pb) (tp := tp) (pl := pl) h ?_ ?_
    · rw [t3]; first | rfl | (rw [Option.bind_some]; exact if_pos y_nar1) | (rw [Option.bind_some]; exact if_pos y_nar0)
    · have hB : f_X9_isChosen M r cb tp pl (nI d2) (nI d3) (nI x) = some (nI 0, (M, cb, tp, pl)) := by
        unfold f_X9_isChosen
        by_cases htl : d2 < ρ 0
        · rw [if_pos htl] at ht
          rw [ht, Option.bind_some, if_neg y_z1, t2]; rfl
        · rw [if_neg htl] at ht
          rw [ht]; rfl
      rw [hB]; first | rfl | (rw [Option.bind_some]; exact if_pos y_nar1) | (rw [Option.bind_some]; exact if_pos y_nar0)
theorem k_cmd7 (h : ST N w r ρ σ) (hx : x < 1000) : CMDO N M (cmC w P1 P2 (nI 7) (nI d2) (nI d3) (nI x)) (f_X9_command M r cb pb tp pl (nI 7) (nI d2) (nI d3) (nI x)) := by
  rw [cmC_7, cmX_7]
  rcases y_two h (nI d2) (nI d3) with ⟨ta, tb, ea, eb, -, -, ha, hb, hab, hne, -, t2, t3⟩ | ⟨-, t2, t3⟩ | ⟨t0, -, t2, t3⟩
  · by_cases q : 100 ≤ x
    · refine CMDO.no (P1 := P1) (P2 := P2) (cb := cb) (pb := pb) (tp := tp) (pl := pl) h (if_pos ((y_Ile (a := 100) (by omega) (by omega)).mpr q)) ?_
      rw [t2, Option.bind_some, if_neg y_z1, if_neg hne]
      exact if_pos ((y_Ile (a := 100) (by omega) (by omega)).mpr q)
    · have nq : ¬ (100 : Int32) ≤ nI x := fun z => q ((y_Ile (a := 100) (by omega) (by omega)).mp z)
      have cp := c_pair ta ha tb hb hab
      have xp := x_pairq ta ha tb hb hab
      have hd := yci_lt ta ha tb hb hab
      generalize yci ta tb = d at cp xp hd
      have hq := yq_lt d hd
      have em := c_hasMem h.1.1 h.2.2.1 hd
      have e155 := h.2.1.1 (155 + yq d) (by omega) (by omega)
      have e204 := h.2.1.1 (204 + yq d) (by omega) (by omega)
      have b155 := (h.2.2.1.2.2 d hd).2.2.2.1
      have b204 := (h.2.2.2.2.2.1 d hd).1
      have hb1 : ∃ b, b ≤ 1 ∧ f_X7_remembersSince w (nI d) (nI x) = some (nI b, ()) ∧ (b = 1 ↔ 0 < ρ (155 + yq d) ∧ ρ (204 + yq d) ≤ x) := by
        by_cases qm : 0 < ρ (155 + yq d)
        · rw [if_pos qm] at em
          have ag := h.1.2.2.2.2.2.2.1 d hd qm
          by_cases qa : ρ (204 + yq d) ≤ x
          · refine ⟨1, by omega, ?_, ⟨fun _ => ⟨qm, qa⟩, fun _ => rfl⟩⟩
            simp (disch := omega) only [y_c0, y_c1, y_c10, y_c100, y_c1000, y_c10000, y_c100000, y_c106, y_c112, y_c116, y_c127, y_c128, y_c13, y_c14, y_c155, y_c2, y_c20, y_c200, y_c204, y_c21, y_c253, y_c255, y_c3, y_c30, y_c302, y_c303, y_c304, y_c305, y_c306, y_c307, y_c308, y_c309, y_c310, y_c311, y_c312, y_c313, y_c314, y_c315, y_c316, y_c32, y_c33, y_c353, y_c39, y_c4, y_c40, y_c44, y_c4589, y_c48, y_c49, y_c5, y_c512, y_c54, y_c57, y_c59, y_c6, y_c62, y_c64, y_c7, y_c8, y_c9, y_c99, y_c9999, y_d0, y_d1, y_d10, y_d100, y_d1000000, y_d1442695040888963407, y_d2, y_d20, y_d255, y_d3, y_d4, y_d40, y_d4294967295, y_d48, y_d5, y_d50, y_d54, y_d57, y_d6364136223846793005, y_d7, y_d9, y_d9999, y_dR, y_dS, y_dk, y_nar0, y_nar1, y_Ilt, y_Ile, y_Ieq, y_Iadd, y_Imul, y_Idiv, y_Llt, y_Lle, y_Leq, y_Ladd, y_Lmul, y_Ldiv, y_I2l, y_L2i, y_shn, y_or, y_and, y_bn1, y_bn0, y_inb, y_cl, y_gle, y_gge, y_ggt, y_glt, y_geq, if_pos, if_neg, if_true, if_false, Option.bind_some, f_X7_remembersSince, em, ag]
          · refine ⟨0, by omega, ?_, ⟨fun z => by omega, fun z => absurd z.2 qa⟩⟩
            simp (disch := omega) only [y_c0, y_c1, y_c10, y_c100, y_c1000, y_c10000, y_c100000, y_c106, y_c112, y_c116, y_c127, y_c128, y_c13, y_c14, y_c155, y_c2, y_c20, y_c200, y_c204, y_c21, y_c253, y_c255, y_c3, y_c30, y_c302, y_c303, y_c304, y_c305, y_c306, y_c307, y_c308, y_c309, y_c310, y_c311, y_c312, y_c313, y_c314, y_c315, y_c316, y_c32, y_c33, y_c353, y_c39, y_c4, y_c40, y_c44, y_c4589, y_c48, y_c49, y_c5, y_c512, y_c54, y_c57, y_c59, y_c6, y_c62, y_c64, y_c7, y_c8, y_c9, y_c99, y_c9999, y_d0, y_d1, y_d10, y_d100, y_d1000000, y_d1442695040888963407, y_d2, y_d20, y_d255, y_d3, y_d4, y_d40, y_d4294967295, y_d48, y_d5, y_d50, y_d54, y_d57, y_d6364136223846793005, y_d7, y_d9, y_d9999, y_dR, y_dS, y_dk, y_nar0, y_nar1, y_Ilt, y_Ile, y_Ieq, y_Iadd, y_Imul, y_Idiv, y_Llt, y_Lle, y_Leq, y_Ladd, y_Lmul, y_Ldiv, y_I2l, y_L2i, y_shn, y_or, y_and, y_bn1, y_bn0, y_inb, y_cl, y_gle, y_gge, y_ggt, y_glt, y_geq, if_pos, if_neg, if_true, if_false, Option.bind_some, f_X7_remembersSince, em, ag]
        · rw [if_neg qm] at em
          refine ⟨0, by omega, ?_, ⟨fun z => by omega, fun z => absurd z.1 qm⟩⟩
          simp (disch := omega) only [y_c0, y_c1, y_c10, y_c100, y_c1000, y_c10000, y_c100000, y_c106, y_c112, y_c116, y_c127, y_c128, y_c13, y_c14, y_c155, y_c2, y_c20, y_c200, y_c204, y_c21, y_c253, y_c255, y_c3, y_c30, y_c302, y_c303, y_c304, y_c305, y_c306, y_c307, y_c308, y_c309, y_c310, y_c311, y_c312, y_c313, y_c314, y_c315, y_c316, y_c32, y_c33, y_c353, y_c39, y_c4, y_c40, y_c44, y_c4589, y_c48, y_c49, y_c5, y_c512, y_c54, y_c57, y_c59, y_c6, y_c62, y_c64, y_c7, y_c8, y_c9, y_c99, y_c9999, y_d0, y_d1, y_d10, y_d100, y_d1000000, y_d1442695040888963407, y_d2, y_d20, y_d255, y_d3, y_d4, y_d40, y_d4294967295, y_d48, y_d5, y_d50, y_d54, y_d57, y_d6364136223846793005, y_d7, y_d9, y_d9999, y_dR, y_dS, y_dk, y_nar0, y_nar1, y_Ilt, y_Ile, y_Ieq, y_Iadd, y_Imul, y_Idiv, y_Llt, y_Lle, y_Leq, y_Ladd, y_Lmul, y_Ldiv, y_I2l, y_L2i, y_shn, y_or, y_and, y_bn1, y_bn0, y_inb, y_cl, y_gle, y_gge, y_ggt, y_glt, y_geq, if_pos, if_neg, if_true, if_false, Option.bind_some, f_X7_remembersSince, em]
      obtain ⟨b, hb2, hb3, hb4⟩ := hb1
      refine ⟨b, w, P1, P2, M, r, cb, pb, tp, pl, ρ, σ, ?_, ?_, hb2, h.mono (by omega), ⟨rfl, rfl, rfl⟩⟩
      · rw [if_neg nq, t3, Option.bind_some]
        refine (if_neg y_z1).trans ?_
        rw [ea, eb, cp, Option.bind_some]
        show ((f_X7_remembersSince w (nI d) (nI x)).bind _) = _
        rw [hb3, Option.bind_some]
        have : b = 0 ∨ b = 1 := by omega
        rcases this with rfl | rfl <;> rfl
      · rw [t2, Option.bind_some, if_neg y_z1, if_neg hne, if_neg nq, ea, eb, xp, Option.bind_some, show (155 : Int32) + (nI (yq d), ()).1 = nI (155 + yq d) from y_Iadd 155 (yq d), if_pos (y_inb (by omega) (by omega)), y_cl (by omega), e155]
        by_cases qm : 0 < ρ (155 + yq d)
        · rw [if_neg (show ¬ lg_cmp (lN (ρ (155 + yq d))) (0 : Int64) ≤ (0 : Int32) from fun z => by have := (y_Lle (b := 0) (by omega) (by omega)).mp ((lg_cmp_le _ _).mp z); omega), Option.bind_some, show (204 : Int32) + (nI (yq d), ()).1 = nI (204 + yq d) from y_Iadd 204 (yq d), if_pos (y_inb (by omega) (by omega)), y_cl (by omega), e204, y_I2l (by omega)]
          by_cases qa : ρ (204 + yq d) ≤ x
          · rw [hb4.mpr ⟨qm, qa⟩]
            exact if_neg (fun z => by have := (y_Llt (by omega) (by omega)).mp ((lg_cmp_gt _ _).mp z); omega)
          · rw [show b = 0 from by have : ¬ b = 1 := fun y => qa (hb4.mp y).2
                                   omega]
            exact if_pos ((lg_cmp_gt _ _).mpr ((y_Llt (by omega) (by omega)).mpr (by omega)))
        · rw [show b = 0 from by have : ¬ b = 1 := fun y => qm (hb4.mp y).1
                                 omega]
          exact if_pos ((lg_cmp_le _ _).mpr ((y_Lle (b := 0) (by omega) (by omega)).mpr (by omega)))
  · refine CMDO.no (P1 := P1) (P2 := P2) (cb := cb) (pb := pb) (tp := tp) (pl := pl) h ?_ ?_
    · split
      · rfl
      · rw [t3]; first | rfl | (rw [Option.bind_some]; exact if_pos y_nar1) | (rw [Option.bind_some]; exact if_pos y_nar0)
    · rw [t2]; first | rfl | (rw [Option.bind_some]; exact if_pos y_nar1) | (rw [Option.bind_some]; exact if_pos y_nar0)
  · refine CMDO.no (P1 := P1) (P2 := P2) (cb := cb) (pb := pb) (tp := tp) (pl := pl) h ?_ ?_
    · split
      · rfl
      · rw [t3]; first | rfl | (rw [Option.bind_some]; exact if_pos y_nar1) | (rw [Option.bind_some]; exact if_pos y_nar0)
    · rw [t2, Option.bind_some, if_neg y_z1, if_pos t0]; first | rfl | (rw [Option.bind_some]; exact if_pos y_nar1) | (rw [Option.bind_some]; exact if_pos y_nar0)
theorem k_cmd8 (h : ST N w r ρ σ) (hN : N < 700000) (h2 : d2 < 10) (h3 : d3 < 10) (hx : x < 1000) : CMDO N M (cmC w P1 P2 (nI 8) (nI d2) (nI d3) (nI x)) (f_X9_command M r cb pb tp pl (nI 8) (nI d2) (nI d3) (nI x)) := by
  rw [cmC_8, cmX_8, y_Iadd]
  by_cases q2 : d2 = 0
  · by_cases q3 : d3 = 0
    · subst q2; subst q3
      by_cases q : 100 ≤ x
      · have q' := (y_Ile (a := 100) (b := x) (by omega) (by omega)).mpr q
        exact CMDO.no (P1 := P1) (P2 := P2) (cb := cb) (pb := pb) (tp := tp) (pl := pl) h (by rw [if_pos y_z0, if_pos y_z0]; exact if_pos q') (by rw [if_pos y_00]; exact if_pos q')
      · have nq : ¬ (100 : Int32) ≤ nI x := fun z => q ((y_Ile (a := 100) (by omega) (by omega)).mp z)
        have e307 : r (307 : Int32).toNatClampNeg = lN (ρ 307) := h.2.1.1 307 (by omega) (by omega)
        have bs := h.2.2.2.2.1
        by_cases z : ρ 307 < x
        · refine CMDO.no (P1 := P1) (P2 := P2) (cb := cb) (pb := pb) (tp := tp) (pl := pl) h ?_ ?_
          · rw [if_pos y_z0, if_pos y_z0, if_neg nq, h.1.2.2.2.1]
            exact if_pos ((y_Ilt (by omega) (by omega)).mpr z)
          · rw [if_pos y_00, if_neg nq, if_pos (by decide), e307, y_I2l (by omega)]
            exact if_pos ((lg_cmp_lt _ _).mpr ((y_Llt (by omega) (by omega)).mpr z))
        · refine ⟨1, w, P1, P2, M, r, cb, pb, tp, pl, ρ, σ, ?_, ?_, by omega, h.mono (by omega), ⟨rfl, rfl, rfl⟩⟩
          · rw [if_pos y_z0, if_pos y_z0, if_neg nq, h.1.2.2.2.1]
            exact if_neg (fun y => z ((y_Ilt (by omega) (by omega)).mp y))
          · rw [if_pos y_00, if_neg nq, if_pos (by decide), e307, y_I2l (by omega)]
            exact if_neg (fun y => z ((y_Llt (by omega) (by omega)).mp ((lg_cmp_lt _ _).mp y)))
    · refine CMDO.no (P1 := P1) (P2 := P2) (cb := cb) (pb := pb) (tp := tp) (pl := pl) h ?_ (if_neg (fun z => by have := (y_Ieq (b := 0) (by omega) (by omega)).mp z; omega))
      subst q2
      rw [if_pos y_z0]
      exact if_neg (fun z => q3 ((y_Ieq (b := 0) (by omega) (by omega)).mp z))
  · exact CMDO.no (P1 := P1) (P2 := P2) (cb := cb) (pb := pb) (tp := tp) (pl := pl) h (if_neg (fun z => q2 ((y_Ieq (b := 0) (by omega) (by omega)).mp z))) (if_neg (fun z => by have := (y_Ieq (b := 0) (by omega) (by omega)).mp z; omega))
theorem k_cmd9 (h : ST N w r ρ σ) (h2 : d2 < 10) (h3 : d3 < 10) (hx : x < 1000) : CMDO N M (cmC w P1 P2 (nI 9) (nI d2) (nI d3) (nI x)) (f_X9_command M r cb pb tp pl (nI 9) (nI d2) (nI d3) (nI x)) := by
  rw [cmC_9, cmX_9, y_Iadd]
  by_cases q2 : d2 = 0
  · by_cases q3 : d3 = 0
    · subst q2; subst q3
      rcases y_sts h (nI x) with ⟨j, ej, hj, hj7, t3, -, t2⟩ | ⟨t3, -, t2⟩
      · obtain ⟨Q1, Q2, a1, -, -⟩ := c_regret (P1 := P1) (P2 := P2) h.1.1 h.2.2.1 hj
        obtain ⟨y, cb', pb', tp', pl', c1⟩ := x_cost (M := M) (cb := cb) (pb := pb) (tp := tp) (pl := pl) (what := 2) h.2.1.p h.2.2.1 hj (by omega)
        by_cases z : yCost ρ j 2 = lN 0
        · refine ⟨1, w, Q1, Q2, Mpl M y, r, cb', pb', tp', pl', ρ, σ, ?_, ?_, by omega, h.mono (by omega), ⟨rfl, rfl, rfl⟩⟩
          · rw [if_pos y_z0, if_pos y_z0, t3, Option.bind_some]
            refine (if_neg y_z1).trans ?_
            rw [ej, a1, Option.bind_some]
            exact if_pos ((lg_cmp_eq _ _).mpr z)
          · rw [if_pos y_00, t2, Option.bind_some]
            refine (if_neg y_z1).trans ?_
            rw [ej, show (2 : Int32) = nI 2 from rfl, c1, Option.bind_some]
            exact if_pos ((lg_cmp_eq _ _).mpr z)
        · refine ⟨0, w, Q1, Q2, Mpl M y, r, cb', pb', tp', pl', ρ, σ, ?_, ?_, by omega, h.mono (by omega), ⟨rfl, rfl, rfl⟩⟩
          · rw [if_pos y_z0, if_pos y_z0, t3, Option.bind_some]
            refine (if_neg y_z1).trans ?_
            rw [ej, a1, Option.bind_some]
            exact if_neg (fun y => z ((lg_cmp_eq _ _).mp y))
          · rw [if_pos y_00, t2, Option.bind_some]
            refine (if_neg y_z1).trans ?_
            rw [ej, show (2 : Int32) = nI 2 from rfl, c1, Option.bind_some]
            exact if_neg (fun y => z ((lg_cmp_eq _ _).mp y))
      · refine CMDO.no (P1 := P1) (P2 := P2) (cb := cb) (pb := pb) (tp := tp) (pl := pl) h ?_ ?_
        · rw [if_pos y_z0, if_pos y_z0, t3]; first | rfl | (rw [Option.bind_some]; exact if_pos y_nar1) | (rw [Option.bind_some]; exact if_pos y_nar0)
        · rw [if_pos y_00, t2]; first | rfl | (rw [Option.bind_some]; exact if_pos y_nar1) | (rw [Option.bind_some]; exact if_pos y_nar0)
    · refine CMDO.no (P1 := P1) (P2 := P2) (cb := cb) (pb := pb) (tp := tp) (pl := pl) h ?_ (if_neg (fun z => by have := (y_Ieq (b := 0) (by omega) (by omega)).mp z; omega))
      subst q2
      rw [if_pos y_z0]
      exact if_neg (fun z => q3 ((y_Ieq (b := 0) (by omega) (by omega)).mp z))
  · exact CMDO.no (P1 := P1) (P2 := P2) (cb := cb) (pb := pb) (tp := tp) (pl := pl) h (if_neg (fun z => q2 ((y_Ieq (b := 0) (by omega) (by omega)).mp z))) (if_neg (fun z => by have := (y_Ieq (b := 0) (by omega) (by omega)).mp z; omega))
theorem k_cmd0 (h : ST N w r ρ σ) : CMDO N M (cmC w P1 P2 (nI 0) (nI d2) (nI d3) (nI x)) (f_X9_command M r cb pb tp pl (nI 0) (nI d2) (nI d3) (nI x)) := by
  rw [cmC_0, cmX_0]
  exact CMDO.no (P1 := P1) (P2 := P2) (cb := cb) (pb := pb) (tp := tp) (pl := pl) h rfl rfl
end
theorem s_cmd {N : Nat} {w : TW} {r cb pb tp : Nat → Int64} {pl : Nat → Int32} {ρ : Nat → Nat} {σ : Nat → Int64} {P1 P2 : TP} {M : TM} {m : Nat} (h : ST N w r ρ σ) (hN : N < 700000) (hm : m < 1000000) : CMDO N M (f_X8_succeeds w P1 P2 (nI m)) (f_X9_command M r cb pb tp pl (nI (m / 100000)) (nI (m / 10000 % 10)) (nI (m / 1000 % 10)) (nI (m % 1000))) := by
  rw [c_cmd hm]
  have h2 : m / 10000 % 10 < 10 := Nat.mod_lt _ (by omega)
  have h3 : m / 1000 % 10 < 10 := Nat.mod_lt _ (by omega)
  have hx : m % 1000 < 1000 := Nat.mod_lt _ (by omega)
  generalize m / 10000 % 10 = d2 at h2
  generalize m / 1000 % 10 = d3 at h3
  generalize m % 1000 = x at hx
  have q : m / 100000 = 0 ∨ m / 100000 = 1 ∨ m / 100000 = 2 ∨ m / 100000 = 3 ∨ m / 100000 = 4 ∨ m / 100000 = 5 ∨ m / 100000 = 6 ∨ m / 100000 = 7 ∨ m / 100000 = 8 ∨ m / 100000 = 9 := by omega
  rcases q with q | q | q | q | q | q | q | q | q | q <;> rw [q]
  · exact k_cmd0 h
  · exact k_cmd1 h hN h2 h3 hx
  · exact k_cmd2 h hN h2 h3 hx
  · exact k_cmd3 h
  · exact k_cmd4 h h3
  · exact k_cmd5 h hx
  · exact k_cmd6 h h2 h3 hx
  · exact k_cmd7 h hx
  · exact k_cmd8 h hN h2 h3 hx
  · exact k_cmd9 h h2 h3 hx
