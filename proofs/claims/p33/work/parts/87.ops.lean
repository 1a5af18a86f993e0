def ST (N : Nat) (w : TW) (r : Nat → Int64) (ρ : Nat → Nat) (σ : Nat → Int64) : Prop := WRf w ρ σ ∧ RRf r ρ σ ∧ INf N ρ
theorem c_isLinked {w : TW} {ρ : Nat → Nat} (hw : WRp w ρ) (hi : INp ρ) {c : Nat} (hc : c < 21) : f_X7_isLinked w (nI c) = some (if 0 < ρ (8 + yq c) then nI 1 else nI 0, ()) := by
  obtain ⟨h1, -, -⟩ := hw.2.2 c hc
  obtain ⟨-, i1, -, -, i4, -⟩ := hi.2.2 c hc
  by_cases q : 0 < ρ (8 + yq c)
  · have := i4.mp q
    simp (disch := omega) only [y_c0, y_c1, y_c10, y_c100, y_c1000, y_c10000, y_c100000, y_c106, y_c112, y_c116, y_c127, y_c128, y_c13, y_c14, y_c155, y_c2, y_c20, y_c200, y_c204, y_c21, y_c253, y_c255, y_c3, y_c30, y_c302, y_c303, y_c304, y_c305, y_c306, y_c307, y_c308, y_c309, y_c310, y_c311, y_c312, y_c313, y_c314, y_c315, y_c316, y_c32, y_c33, y_c353, y_c39, y_c4, y_c40, y_c44, y_c4589, y_c48, y_c49, y_c5, y_c512, y_c54, y_c57, y_c59, y_c6, y_c62, y_c64, y_c7, y_c8, y_c9, y_c99, y_c9999, y_d0, y_d1, y_d10, y_d100, y_d1000000, y_d1442695040888963407, y_d2, y_d20, y_d255, y_d3, y_d4, y_d40, y_d4294967295, y_d48, y_d5, y_d50, y_d54, y_d57, y_d6364136223846793005, y_d7, y_d9, y_d9999, y_dR, y_dS, y_dk, y_nar0, y_nar1, y_Ilt, y_Ile, y_Ieq, y_Iadd, y_Imul, y_Idiv, y_Llt, y_Lle, y_Leq, y_Ladd, y_Lmul, y_Ldiv, y_I2l, y_L2i, y_shn, y_or, y_and, y_bn1, y_bn0, y_inb, y_cl, y_gle, y_gge, y_ggt, y_glt, y_geq, if_pos, if_neg, if_true, if_false, Option.bind_some, f_X7_isLinked, c_isIn, h1]
  · have : ¬ 0 < ρ (57 + yq c) := fun z => q (i4.mpr z)
    simp (disch := omega) only [y_c0, y_c1, y_c10, y_c100, y_c1000, y_c10000, y_c100000, y_c106, y_c112, y_c116, y_c127, y_c128, y_c13, y_c14, y_c155, y_c2, y_c20, y_c200, y_c204, y_c21, y_c253, y_c255, y_c3, y_c30, y_c302, y_c303, y_c304, y_c305, y_c306, y_c307, y_c308, y_c309, y_c310, y_c311, y_c312, y_c313, y_c314, y_c315, y_c316, y_c32, y_c33, y_c353, y_c39, y_c4, y_c40, y_c44, y_c4589, y_c48, y_c49, y_c5, y_c512, y_c54, y_c57, y_c59, y_c6, y_c62, y_c64, y_c7, y_c8, y_c9, y_c99, y_c9999, y_d0, y_d1, y_d10, y_d100, y_d1000000, y_d1442695040888963407, y_d2, y_d20, y_d255, y_d3, y_d4, y_d40, y_d4294967295, y_d48, y_d5, y_d50, y_d54, y_d57, y_d6364136223846793005, y_d7, y_d9, y_d9999, y_dR, y_dS, y_dk, y_nar0, y_nar1, y_Ilt, y_Ile, y_Ieq, y_Iadd, y_Imul, y_Idiv, y_Llt, y_Lle, y_Leq, y_Ladd, y_Lmul, y_Ldiv, y_I2l, y_L2i, y_shn, y_or, y_and, y_bn1, y_bn0, y_inb, y_cl, y_gle, y_gge, y_ggt, y_glt, y_geq, if_pos, if_neg, if_true, if_false, Option.bind_some, f_X7_isLinked, c_isIn, h1]
theorem c_hasMem {w : TW} {ρ : Nat → Nat} (hw : WRp w ρ) (hi : INp ρ) {c : Nat} (hc : c < 21) : f_X7_hasMemory w (nI c) = some (if 0 < ρ (155 + yq c) then nI 1 else nI 0, ()) := by
  obtain ⟨-, -, h1⟩ := hw.2.2 c hc
  obtain ⟨-, -, -, i1, -⟩ := hi.2.2 c hc
  by_cases q : 0 < ρ (155 + yq c)
  · simp (disch := omega) only [y_c0, y_c1, y_c10, y_c100, y_c1000, y_c10000, y_c100000, y_c106, y_c112, y_c116, y_c127, y_c128, y_c13, y_c14, y_c155, y_c2, y_c20, y_c200, y_c204, y_c21, y_c253, y_c255, y_c3, y_c30, y_c302, y_c303, y_c304, y_c305, y_c306, y_c307, y_c308, y_c309, y_c310, y_c311, y_c312, y_c313, y_c314, y_c315, y_c316, y_c32, y_c33, y_c353, y_c39, y_c4, y_c40, y_c44, y_c4589, y_c48, y_c49, y_c5, y_c512, y_c54, y_c57, y_c59, y_c6, y_c62, y_c64, y_c7, y_c8, y_c9, y_c99, y_c9999, y_d0, y_d1, y_d10, y_d100, y_d1000000, y_d1442695040888963407, y_d2, y_d20, y_d255, y_d3, y_d4, y_d40, y_d4294967295, y_d48, y_d5, y_d50, y_d54, y_d57, y_d6364136223846793005, y_d7, y_d9, y_d9999, y_dR, y_dS, y_dk, y_nar0, y_nar1, y_Ilt, y_Ile, y_Ieq, y_Iadd, y_Imul, y_Idiv, y_Llt, y_Lle, y_Leq, y_Ladd, y_Lmul, y_Ldiv, y_I2l, y_L2i, y_shn, y_or, y_and, y_bn1, y_bn0, y_inb, y_cl, y_gle, y_gge, y_ggt, y_glt, y_geq, if_pos, if_neg, if_true, if_false, Option.bind_some, f_X7_hasMemory, c_isIn, h1]
  · simp (disch := omega) only [y_c0, y_c1, y_c10, y_c100, y_c1000, y_c10000, y_c100000, y_c106, y_c112, y_c116, y_c127, y_c128, y_c13, y_c14, y_c155, y_c2, y_c20, y_c200, y_c204, y_c21, y_c253, y_c255, y_c3, y_c30, y_c302, y_c303, y_c304, y_c305, y_c306, y_c307, y_c308, y_c309, y_c310, y_c311, y_c312, y_c313, y_c314, y_c315, y_c316, y_c32, y_c33, y_c353, y_c39, y_c4, y_c40, y_c44, y_c4589, y_c48, y_c49, y_c5, y_c512, y_c54, y_c57, y_c59, y_c6, y_c62, y_c64, y_c7, y_c8, y_c9, y_c99, y_c9999, y_d0, y_d1, y_d10, y_d100, y_d1000000, y_d1442695040888963407, y_d2, y_d20, y_d255, y_d3, y_d4, y_d40, y_d4294967295, y_d48, y_d5, y_d50, y_d54, y_d57, y_d6364136223846793005, y_d7, y_d9, y_d9999, y_dR, y_dS, y_dk, y_nar0, y_nar1, y_Ilt, y_Ile, y_Ieq, y_Iadd, y_Imul, y_Idiv, y_Llt, y_Lle, y_Leq, y_Ladd, y_Lmul, y_Ldiv, y_I2l, y_L2i, y_shn, y_or, y_and, y_bn1, y_bn0, y_inb, y_cl, y_gle, y_gge, y_ggt, y_glt, y_geq, if_pos, if_neg, if_true, if_false, Option.bind_some, f_X7_hasMemory, c_isIn, h1]
theorem s_add {N : Nat} {w : TW} {r : Nat → Int64} {ρ : Nat → Nat} {σ : Nat → Int64} (h : ST N w r ρ σ) {z : Nat} (hz : 1 ≤ z ∧ z ≤ 9999) (h7 : ρ 0 < 7) :
    ∃ w' r', f_X7_addTable w (nI z) = some (nI (ρ 0), w') ∧ f_X9_addOn 353 r (nI z) = some (nI (ρ 0), r') ∧ ST N w' r' (pu (pu ρ (1 + ρ 0) z) 0 (ρ 0 + 1)) σ := by
  obtain ⟨⟨⟨w1, w2, w3⟩, w4, w5, w6, w7, w8, w9, w10, w11⟩, ⟨r1, r2⟩, ⟨⟨i1, j2, j3⟩, i2, i3, i4, i5⟩⟩ := h
  have r0 := r1 0 (by omega) (by omega)
  refine ⟨W_mk (nI (ρ 0 + 1)) (W_weeks w) (W_runs w) (W_surprises w) (W_sums w) (W_settings w) (upd (W_sizes w) (ρ 0) (nI z)) (W_guesses w) (W_shares w) (W_memories w) (W_ages w) (W_surprisesOf w) (W_told w), vp_updL (vp_updL r (1 + ρ 0) (lN z)) 0 (lN (ρ 0 + 1)), by simp (disch := omega) only [y_c0, y_c1, y_c10, y_c100, y_c1000, y_c10000, y_c100000, y_c106, y_c112, y_c116, y_c127, y_c128, y_c13, y_c14, y_c155, y_c2, y_c20, y_c200, y_c204, y_c21, y_c253, y_c255, y_c3, y_c30, y_c302, y_c303, y_c304, y_c305, y_c306, y_c307, y_c308, y_c309, y_c310, y_c311, y_c312, y_c313, y_c314, y_c315, y_c316, y_c32, y_c33, y_c353, y_c39, y_c4, y_c40, y_c44, y_c4589, y_c48, y_c49, y_c5, y_c512, y_c54, y_c57, y_c59, y_c6, y_c62, y_c64, y_c7, y_c8, y_c9, y_c99, y_c9999, y_d0, y_d1, y_d10, y_d100, y_d1000000, y_d1442695040888963407, y_d2, y_d20, y_d255, y_d3, y_d4, y_d40, y_d4294967295, y_d48, y_d5, y_d50, y_d54, y_d57, y_d6364136223846793005, y_d7, y_d9, y_d9999, y_dR, y_dS, y_dk, y_nar0, y_nar1, y_Ilt, y_Ile, y_Ieq, y_Iadd, y_Imul, y_Idiv, y_Llt, y_Lle, y_Leq, y_Ladd, y_Lmul, y_Ldiv, y_I2l, y_L2i, y_shn, y_or, y_and, y_bn1, y_bn0, y_inb, y_cl, y_gle, y_gge, y_ggt, y_glt, y_geq, if_pos, if_neg, if_true, if_false, Option.bind_some, f_X7_addTable, c_isIn, w1, y_Isub, Nat.add_sub_cancel], by simp (disch := omega) only [y_c0, y_c1, y_c10, y_c100, y_c1000, y_c10000, y_c100000, y_c106, y_c112, y_c116, y_c127, y_c128, y_c13, y_c14, y_c155, y_c2, y_c20, y_c200, y_c204, y_c21, y_c253, y_c255, y_c3, y_c30, y_c302, y_c303, y_c304, y_c305, y_c306, y_c307, y_c308, y_c309, y_c310, y_c311, y_c312, y_c313, y_c314, y_c315, y_c316, y_c32, y_c33, y_c353, y_c39, y_c4, y_c40, y_c44, y_c4589, y_c48, y_c49, y_c5, y_c512, y_c54, y_c57, y_c59, y_c6, y_c62, y_c64, y_c7, y_c8, y_c9, y_c99, y_c9999, y_d0, y_d1, y_d10, y_d100, y_d1000000, y_d1442695040888963407, y_d2, y_d20, y_d255, y_d3, y_d4, y_d40, y_d4294967295, y_d48, y_d5, y_d50, y_d54, y_d57, y_d6364136223846793005, y_d7, y_d9, y_d9999, y_dR, y_dS, y_dk, y_nar0, y_nar1, y_Ilt, y_Ile, y_Ieq, y_Iadd, y_Imul, y_Idiv, y_Llt, y_Lle, y_Leq, y_Ladd, y_Lmul, y_Ldiv, y_I2l, y_L2i, y_shn, y_or, y_and, y_bn1, y_bn0, y_inb, y_cl, y_gle, y_gge, y_ggt, y_glt, y_geq, if_pos, if_neg, if_true, if_false, Option.bind_some, f_X9_addOn, r0, y_un], ⟨⟨?_, ?_, ?_⟩, ?_, ?_, ?_, ?_, ?_, ?_, ?_, ?_⟩, ⟨?_, ?_⟩, ⟨?_, ?_, ?_⟩, ?_, ?_, ?_, ?_⟩
  · simp (disch := omega) only [W_m_tables, W_m_weeks, W_m_runs, W_m_surprises, W_m_sums, W_m_settings, W_m_sizes, W_m_guesses, W_m_shares, W_m_memories, W_m_ages, W_m_surprisesOf, W_m_told, pu_e, pu_n, y_ue, y_un, y_ve, y_vn, true_and, and_true]
  · intro t ht
    simp (disch := omega) only [W_m_tables, W_m_weeks, W_m_runs, W_m_surprises, W_m_sums, W_m_settings, W_m_sizes, W_m_guesses, W_m_shares, W_m_memories, W_m_ages, W_m_surprisesOf, W_m_told, pu_e, pu_n, y_ue, y_un, y_ve, y_vn, true_and, and_true] at ht
    by_cases e : t = ρ 0
    · simp (disch := omega) only [W_m_tables, W_m_weeks, W_m_runs, W_m_surprises, W_m_sums, W_m_settings, W_m_sizes, W_m_guesses, W_m_shares, W_m_memories, W_m_ages, W_m_surprisesOf, W_m_told, pu_e, pu_n, y_ue, y_un, y_ve, y_vn, true_and, and_true]
    · have := w2 t (by omega)
      simp (disch := omega) only [W_m_tables, W_m_weeks, W_m_runs, W_m_surprises, W_m_sums, W_m_settings, W_m_sizes, W_m_guesses, W_m_shares, W_m_memories, W_m_ages, W_m_surprisesOf, W_m_told, pu_e, pu_n, y_ue, y_un, y_ve, y_vn, true_and, and_true]
      exact this
  · intro c hc
    have := w3 c hc
    have hq := yq_lt c hc
    simp (disch := omega) only [W_m_tables, W_m_weeks, W_m_runs, W_m_surprises, W_m_sums, W_m_settings, W_m_sizes, W_m_guesses, W_m_shares, W_m_memories, W_m_ages, W_m_surprisesOf, W_m_told, pu_e, pu_n, y_ue, y_un, y_ve, y_vn, true_and, and_true]
    exact this
  · simp (disch := omega) only [W_m_tables, W_m_weeks, W_m_runs, W_m_surprises, W_m_sums, W_m_settings, W_m_sizes, W_m_guesses, W_m_shares, W_m_memories, W_m_ages, W_m_surprisesOf, W_m_told, pu_e, pu_n, y_ue, y_un, y_ve, y_vn, true_and, and_true]; exact w4
  · simp (disch := omega) only [W_m_tables, W_m_weeks, W_m_runs, W_m_surprises, W_m_sums, W_m_settings, W_m_sizes, W_m_guesses, W_m_shares, W_m_memories, W_m_ages, W_m_surprisesOf, W_m_told, pu_e, pu_n, y_ue, y_un, y_ve, y_vn, true_and, and_true]; exact w5
  · simp (disch := omega) only [W_m_tables, W_m_weeks, W_m_runs, W_m_surprises, W_m_sums, W_m_settings, W_m_sizes, W_m_guesses, W_m_shares, W_m_memories, W_m_ages, W_m_surprisesOf, W_m_told, pu_e, pu_n, y_ue, y_un, y_ve, y_vn, true_and, and_true]; exact w6
  · exact w7
  · intro i hi; have := w8 i hi; simp (disch := omega) only [W_m_tables, W_m_weeks, W_m_runs, W_m_surprises, W_m_sums, W_m_settings, W_m_sizes, W_m_guesses, W_m_shares, W_m_memories, W_m_ages, W_m_surprisesOf, W_m_told, pu_e, pu_n, y_ue, y_un, y_ve, y_vn, true_and, and_true]; exact this
  · intro c hc
    have := w9 c hc
    have hq := yq_lt c hc
    simp (disch := omega) only [W_m_tables, W_m_weeks, W_m_runs, W_m_surprises, W_m_sums, W_m_settings, W_m_sizes, W_m_guesses, W_m_shares, W_m_memories, W_m_ages, W_m_surprisesOf, W_m_told, pu_e, pu_n, y_ue, y_un, y_ve, y_vn, true_and, and_true]
    exact this
  · intro c hc
    have := w10 c hc
    have hq := yq_lt c hc
    simp (disch := omega) only [W_m_tables, W_m_weeks, W_m_runs, W_m_surprises, W_m_sums, W_m_settings, W_m_sizes, W_m_guesses, W_m_shares, W_m_memories, W_m_ages, W_m_surprisesOf, W_m_told, pu_e, pu_n, y_ue, y_un, y_ve, y_vn, true_and, and_true]
    exact this
  · simp (disch := omega) only [W_m_tables, W_m_weeks, W_m_runs, W_m_surprises, W_m_sums, W_m_settings, W_m_sizes, W_m_guesses, W_m_shares, W_m_memories, W_m_ages, W_m_surprisesOf, W_m_told, pu_e, pu_n, y_ue, y_un, y_ve, y_vn, true_and, and_true]; exact w11
  · intro i hi hi2
    by_cases e0 : i = 0
    · simp (disch := omega) only [W_m_tables, W_m_weeks, W_m_runs, W_m_surprises, W_m_sums, W_m_settings, W_m_sizes, W_m_guesses, W_m_shares, W_m_memories, W_m_ages, W_m_surprisesOf, W_m_told, pu_e, pu_n, y_ue, y_un, y_ve, y_vn, true_and, and_true]
    · by_cases e1 : i = 1 + ρ 0
      · simp (disch := omega) only [W_m_tables, W_m_weeks, W_m_runs, W_m_surprises, W_m_sums, W_m_settings, W_m_sizes, W_m_guesses, W_m_shares, W_m_memories, W_m_ages, W_m_surprisesOf, W_m_told, pu_e, pu_n, y_ue, y_un, y_ve, y_vn, true_and, and_true]
      · have := r1 i hi hi2
        simp (disch := omega) only [W_m_tables, W_m_weeks, W_m_runs, W_m_surprises, W_m_sums, W_m_settings, W_m_sizes, W_m_guesses, W_m_shares, W_m_memories, W_m_ages, W_m_surprisesOf, W_m_told, pu_e, pu_n, y_ue, y_un, y_ve, y_vn, true_and, and_true]
        exact this
  · intro i hi; have := r2 i hi; simp (disch := omega) only [W_m_tables, W_m_weeks, W_m_runs, W_m_surprises, W_m_sums, W_m_settings, W_m_sizes, W_m_guesses, W_m_shares, W_m_memories, W_m_ages, W_m_surprisesOf, W_m_told, pu_e, pu_n, y_ue, y_un, y_ve, y_vn, true_and, and_true]; exact this
  · simp (disch := omega) only [W_m_tables, W_m_weeks, W_m_runs, W_m_surprises, W_m_sums, W_m_settings, W_m_sizes, W_m_guesses, W_m_shares, W_m_memories, W_m_ages, W_m_surprisesOf, W_m_told, pu_e, pu_n, y_ue, y_un, y_ve, y_vn, true_and, and_true]; omega
  · intro t ht
    simp (disch := omega) only [W_m_tables, W_m_weeks, W_m_runs, W_m_surprises, W_m_sums, W_m_settings, W_m_sizes, W_m_guesses, W_m_shares, W_m_memories, W_m_ages, W_m_surprisesOf, W_m_told, pu_e, pu_n, y_ue, y_un, y_ve, y_vn, true_and, and_true] at ht
    by_cases e : t = ρ 0
    · simp (disch := omega) only [W_m_tables, W_m_weeks, W_m_runs, W_m_surprises, W_m_sums, W_m_settings, W_m_sizes, W_m_guesses, W_m_shares, W_m_memories, W_m_ages, W_m_surprisesOf, W_m_told, pu_e, pu_n, y_ue, y_un, y_ve, y_vn, true_and, and_true]; exact hz
    · have := j2 t (by omega)
      simp (disch := omega) only [W_m_tables, W_m_weeks, W_m_runs, W_m_surprises, W_m_sums, W_m_settings, W_m_sizes, W_m_guesses, W_m_shares, W_m_memories, W_m_ages, W_m_surprisesOf, W_m_told, pu_e, pu_n, y_ue, y_un, y_ve, y_vn, true_and, and_true]
      exact this
  · intro c hc
    have := j3 c hc
    have hq := yq_lt c hc
    simp (disch := omega) only [W_m_tables, W_m_weeks, W_m_runs, W_m_surprises, W_m_sums, W_m_settings, W_m_sizes, W_m_guesses, W_m_shares, W_m_memories, W_m_ages, W_m_surprisesOf, W_m_told, pu_e, pu_n, y_ue, y_un, y_ve, y_vn, true_and, and_true]
    exact this
  · simp (disch := omega) only [W_m_tables, W_m_weeks, W_m_runs, W_m_surprises, W_m_sums, W_m_settings, W_m_sizes, W_m_guesses, W_m_shares, W_m_memories, W_m_ages, W_m_surprisesOf, W_m_told, pu_e, pu_n, y_ue, y_un, y_ve, y_vn, true_and, and_true]; exact i2
  · simp (disch := omega) only [W_m_tables, W_m_weeks, W_m_runs, W_m_surprises, W_m_sums, W_m_settings, W_m_sizes, W_m_guesses, W_m_shares, W_m_memories, W_m_ages, W_m_surprisesOf, W_m_told, pu_e, pu_n, y_ue, y_un, y_ve, y_vn, true_and, and_true]; exact i3
  · intro c hc
    have := i4 c hc
    have hq := yq_lt c hc
    simp (disch := omega) only [W_m_tables, W_m_weeks, W_m_runs, W_m_surprises, W_m_sums, W_m_settings, W_m_sizes, W_m_guesses, W_m_shares, W_m_memories, W_m_ages, W_m_surprisesOf, W_m_told, pu_e, pu_n, y_ue, y_un, y_ve, y_vn, true_and, and_true]
    exact this
  · intro q hq hn
    have := i5 q hq hn
    simp (disch := omega) only [W_m_tables, W_m_weeks, W_m_runs, W_m_surprises, W_m_sums, W_m_settings, W_m_sizes, W_m_guesses, W_m_shares, W_m_memories, W_m_ages, W_m_surprisesOf, W_m_told, pu_e, pu_n, y_ue, y_un, y_ve, y_vn, true_and, and_true]
    exact this
theorem s_link {N : Nat} {w : TW} {r : Nat → Int64} {ρ : Nat → Nat} {σ : Nat → Int64} (h : ST N w r ρ σ) {d g s : Nat} (hd : d < 21) (hg : 1 ≤ g ∧ g ≤ 1000) (hs : 1 ≤ s ∧ s ≤ 1000) :
    ∃ w' r' n, f_X7_linkPair w (nI d) (nI g) (nI s) = some (nI n, w') ∧ (∀ a b, a < 7 → b < 7 → a ≠ b → yci a b = d → f_X9_linkOn 353 r (nI a) (nI b) (nI g) (nI s) = some (nI n, r')) ∧ ST N w' r' (pu (pu (pu (pu (pu ρ (8 + yq d) 1) (57 + yq d) g) (106 + yq d) s) (155 + yq d) 0) (204 + yq d) 0) σ ∧ 1 ≤ n ∧ n ≤ 21 := by
  obtain ⟨⟨⟨w1, w2, w3⟩, w4, w5, w6, w7, w8, w9, w10, w11⟩, ⟨r1, r2⟩, ⟨⟨i1, j2, j3⟩, i2, i3, i4, i5⟩⟩ := h
  have hqd := yq_lt d hd
  have C1 : ∀ c, c < 21 → upd (W_guesses w) d (nI g) c = nI (pu (fun c => ρ (57 + yq c)) d g c) ∧ pu (fun c => ρ (57 + yq c)) d g c < 2147483648 := by
    intro c hc
    have h1 := (w3 c hc).1
    have h2 := (j3 c hc).2.1
    by_cases e : c = d
    · simp (disch := omega) only [W_m_tables, W_m_weeks, W_m_runs, W_m_surprises, W_m_sums, W_m_settings, W_m_sizes, W_m_guesses, W_m_shares, W_m_memories, W_m_ages, W_m_surprisesOf, W_m_told, pu_e, pu_n, y_ue, y_un, y_ve, y_vn, true_and, and_true]; omega
    · simp (disch := omega) only [W_m_tables, W_m_weeks, W_m_runs, W_m_surprises, W_m_sums, W_m_settings, W_m_sizes, W_m_guesses, W_m_shares, W_m_memories, W_m_ages, W_m_surprisesOf, W_m_told, pu_e, pu_n, y_ue, y_un, y_ve, y_vn, true_and, and_true]; exact ⟨h1, by omega⟩
  have C2 : ∀ k, k < 49 → (vp_updL (vp_updL (vp_updL (vp_updL (vp_updL r (8 + yq d) (lN 1)) (57 + yq d) (lN g)) (106 + yq d) (lN s)) (155 + yq d) (lN 0)) (204 + yq d) (lN 0)) (8 + k) = lN (pu (fun k => ρ (8 + k)) (yq d) 1 k) ∧ pu (fun k => ρ (8 + k)) (yq d) 1 k < 2147483648 := by
    intro k hk
    have h1 := r1 (8 + k) (by omega) (by omega)
    by_cases e : k = yq d
    · simp (disch := omega) only [W_m_tables, W_m_weeks, W_m_runs, W_m_surprises, W_m_sums, W_m_settings, W_m_sizes, W_m_guesses, W_m_shares, W_m_memories, W_m_ages, W_m_surprisesOf, W_m_told, pu_e, pu_n, y_ue, y_un, y_ve, y_vn, true_and, and_true]; omega
    · simp (disch := omega) only [W_m_tables, W_m_weeks, W_m_runs, W_m_surprises, W_m_sums, W_m_settings, W_m_sizes, W_m_guesses, W_m_shares, W_m_memories, W_m_ages, W_m_surprisesOf, W_m_told, pu_e, pu_n, y_ue, y_un, y_ve, y_vn, true_and, and_true]
      refine ⟨h1, ?_⟩
      by_cases z : ∃ c, c < 21 ∧ yq c = k
      · obtain ⟨c, hc, hck⟩ := z
        have := (j3 c hc).1
        rw [hck] at this
        omega
      · have := (i5 k hk (fun c hc hck => z ⟨c, hc, hck⟩)).1
        omega
  have C3 : yct (pu (fun k => ρ (8 + k)) (yq d) 1) 49 = yct (pu (fun c => ρ (57 + yq c)) d g) 21 := by
    rw [yct_q (fun q hq hn => by
      have := (i5 q hq hn).1
      have hne : ¬ q = yq d := fun z => hn d hd z.symm
      simp (disch := omega) only [W_m_tables, W_m_weeks, W_m_runs, W_m_surprises, W_m_sums, W_m_settings, W_m_sizes, W_m_guesses, W_m_shares, W_m_memories, W_m_ages, W_m_surprisesOf, W_m_told, pu_e, pu_n, y_ue, y_un, y_ve, y_vn, true_and, and_true]
      exact this)]
    have : ∀ n, n ≤ 21 → yct (fun c => pu (fun k => ρ (8 + k)) (yq d) 1 (yq c)) n = yct (pu (fun c => ρ (57 + yq c)) d g) n := by
      intro n
      induction n with
      | zero => intro _; rfl
      | succ n ih =>
        intro hn
        rw [yct, yct, ih (by omega)]
        congr 1
        by_cases e : n = d
        · simp (disch := omega) only [W_m_tables, W_m_weeks, W_m_runs, W_m_surprises, W_m_sums, W_m_settings, W_m_sizes, W_m_guesses, W_m_shares, W_m_memories, W_m_ages, W_m_surprisesOf, W_m_told, pu_e, pu_n, y_ue, y_un, y_ve, y_vn, true_and, and_true, e, yb_1]
        · have hne : ¬ yq n = yq d := fun z => e (yq_inj n (by omega) d hd z)
          have hl := (j3 n (by omega)).2.2.2.2.1
          simp (disch := omega) only [W_m_tables, W_m_weeks, W_m_runs, W_m_surprises, W_m_sums, W_m_settings, W_m_sizes, W_m_guesses, W_m_shares, W_m_memories, W_m_ages, W_m_surprisesOf, W_m_told, pu_e, pu_n, y_ue, y_un, y_ve, y_vn, true_and, and_true]
          by_cases z : 0 < ρ (8 + yq n)
          · rw [yb_1 z, yb_1 (hl.mp z)]
          · rw [yb_0 z, yb_0 (fun y => z (hl.mpr y))]
    exact this 21 (Nat.le_refl _)
  have C4 : 1 ≤ yct (pu (fun c => ρ (57 + yq c)) d g) 21 := by
    have : ∀ n, d < n → 1 ≤ yct (pu (fun c => ρ (57 + yq c)) d g) n := by
      intro n
      induction n with
      | zero => intro z; omega
      | succ n ih =>
        intro z
        rw [yct]
        by_cases e : d = n
        · simp (disch := omega) only [W_m_tables, W_m_weeks, W_m_runs, W_m_surprises, W_m_sums, W_m_settings, W_m_sizes, W_m_guesses, W_m_shares, W_m_memories, W_m_ages, W_m_surprisesOf, W_m_told, pu_e, pu_n, y_ue, y_un, y_ve, y_vn, true_and, and_true, e, yb_1]
          omega
        · have := ih (by omega); omega
    exact this 21 hd
  refine ⟨W_mk (W_tables w) (W_weeks w) (W_runs w) (W_surprises w) (W_sums w) (W_settings w) (W_sizes w) (upd (W_guesses w) d (nI g)) (upd (W_shares w) d (nI s)) (upd (W_memories w) d (nI 0)) (upd (W_ages w) d (nI 0)) (W_surprisesOf w) (W_told w), vp_updL (vp_updL (vp_updL (vp_updL (vp_updL r (8 + yq d) (lN 1)) (57 + yq d) (lN g)) (106 + yq d) (lN s)) (155 + yq d) (lN 0)) (204 + yq d) (lN 0), yct (pu (fun c => ρ (57 + yq c)) d g) 21, ?_, ?_, ⟨⟨⟨?_, ?_, ?_⟩, ?_, ?_, ?_, ?_, ?_, ?_, ?_, ?_⟩, ⟨?_, ?_⟩, ⟨?_, ?_, ?_⟩, ?_, ?_, ?_, ?_⟩, C4, yct_le _ 21⟩
  · have e := c_linkCount (w := W_mk (W_tables w) (W_weeks w) (W_runs w) (W_surprises w) (W_sums w) (W_settings w) (W_sizes w) (upd (W_guesses w) d (nI g)) (upd (W_shares w) d (nI s)) (upd (W_memories w) d (nI 0)) (upd (W_ages w) d (nI 0)) (W_surprisesOf w) (W_told w)) (f := pu (fun c => ρ (57 + yq c)) d g) C1
    simp (disch := omega) only [y_c0, y_c1, y_c10, y_c100, y_c1000, y_c10000, y_c100000, y_c106, y_c112, y_c116, y_c127, y_c128, y_c13, y_c14, y_c155, y_c2, y_c20, y_c200, y_c204, y_c21, y_c253, y_c255, y_c3, y_c30, y_c302, y_c303, y_c304, y_c305, y_c306, y_c307, y_c308, y_c309, y_c310, y_c311, y_c312, y_c313, y_c314, y_c315, y_c316, y_c32, y_c33, y_c353, y_c39, y_c4, y_c40, y_c44, y_c4589, y_c48, y_c49, y_c5, y_c512, y_c54, y_c57, y_c59, y_c6, y_c62, y_c64, y_c7, y_c8, y_c9, y_c99, y_c9999, y_d0, y_d1, y_d10, y_d100, y_d1000000, y_d1442695040888963407, y_d2, y_d20, y_d255, y_d3, y_d4, y_d40, y_d4294967295, y_d48, y_d5, y_d50, y_d54, y_d57, y_d6364136223846793005, y_d7, y_d9, y_d9999, y_dR, y_dS, y_dk, y_nar0, y_nar1, y_Ilt, y_Ile, y_Ieq, y_Iadd, y_Imul, y_Idiv, y_Llt, y_Lle, y_Leq, y_Ladd, y_Lmul, y_Ldiv, y_I2l, y_L2i, y_shn, y_or, y_and, y_bn1, y_bn0, y_inb, y_cl, y_gle, y_gge, y_ggt, y_glt, y_geq, if_pos, if_neg, if_true, if_false, Option.bind_some, f_X7_linkPair, f_X7_linkPair_J29, f_X7_forget, c_isIn, W_m_tables, W_m_weeks, W_m_runs, W_m_surprises, W_m_sums, W_m_settings, W_m_sizes, W_m_guesses, W_m_shares, W_m_memories, W_m_ages, W_m_surprisesOf, W_m_told, pu_e, pu_n, y_ue, y_un, y_ve, y_vn, true_and, and_true, e]
  · intro a b ha hb hab hab2
    have e := x_count (base := 8) (by omega) C2
    have hp := x_pairq a ha b hb hab
    rw [hab2] at hp
    unfold f_X9_linkOn
    simp (disch := omega) only [y_c0, y_c1, y_c10, y_c100, y_c1000, y_c10000, y_c100000, y_c106, y_c112, y_c116, y_c127, y_c128, y_c13, y_c14, y_c155, y_c2, y_c20, y_c200, y_c204, y_c21, y_c253, y_c255, y_c3, y_c30, y_c302, y_c303, y_c304, y_c305, y_c306, y_c307, y_c308, y_c309, y_c310, y_c311, y_c312, y_c313, y_c314, y_c315, y_c316, y_c32, y_c33, y_c353, y_c39, y_c4, y_c40, y_c44, y_c4589, y_c48, y_c49, y_c5, y_c512, y_c54, y_c57, y_c59, y_c6, y_c62, y_c64, y_c7, y_c8, y_c9, y_c99, y_c9999, y_d0, y_d1, y_d10, y_d100, y_d1000000, y_d1442695040888963407, y_d2, y_d20, y_d255, y_d3, y_d4, y_d40, y_d4294967295, y_d48, y_d5, y_d50, y_d54, y_d57, y_d6364136223846793005, y_d7, y_d9, y_d9999, y_dR, y_dS, y_dk, y_nar0, y_nar1, y_Ilt, y_Ile, y_Ieq, y_Iadd, y_Imul, y_Idiv, y_Llt, y_Lle, y_Leq, y_Ladd, y_Lmul, y_Ldiv, y_I2l, y_L2i, y_shn, y_or, y_and, y_bn1, y_bn0, y_inb, y_cl, y_gle, y_gge, y_ggt, y_glt, y_geq, if_pos, if_neg, if_true, if_false, Option.bind_some, hp, e, C3]
  · simp (disch := omega) only [W_m_tables, W_m_weeks, W_m_runs, W_m_surprises, W_m_sums, W_m_settings, W_m_sizes, W_m_guesses, W_m_shares, W_m_memories, W_m_ages, W_m_surprisesOf, W_m_told, pu_e, pu_n, y_ue, y_un, y_ve, y_vn, true_and, and_true]; exact w1
  · intro t ht
    simp (disch := omega) only [W_m_tables, W_m_weeks, W_m_runs, W_m_surprises, W_m_sums, W_m_settings, W_m_sizes, W_m_guesses, W_m_shares, W_m_memories, W_m_ages, W_m_surprisesOf, W_m_told, pu_e, pu_n, y_ue, y_un, y_ve, y_vn, true_and, and_true] at ht
    have := w2 t ht
    simp (disch := omega) only [W_m_tables, W_m_weeks, W_m_runs, W_m_surprises, W_m_sums, W_m_settings, W_m_sizes, W_m_guesses, W_m_shares, W_m_memories, W_m_ages, W_m_surprisesOf, W_m_told, pu_e, pu_n, y_ue, y_un, y_ve, y_vn, true_and, and_true]
    exact this
  · intro c hc
    have := w3 c hc
    have hq := yq_lt c hc
    by_cases e : c = d
    · simp (disch := omega) only [W_m_tables, W_m_weeks, W_m_runs, W_m_surprises, W_m_sums, W_m_settings, W_m_sizes, W_m_guesses, W_m_shares, W_m_memories, W_m_ages, W_m_surprisesOf, W_m_told, pu_e, pu_n, y_ue, y_un, y_ve, y_vn, true_and, and_true, e]
    · have hne : ¬ yq c = yq d := fun z => e (yq_inj c hc d hd z)
      simp (disch := omega) only [W_m_tables, W_m_weeks, W_m_runs, W_m_surprises, W_m_sums, W_m_settings, W_m_sizes, W_m_guesses, W_m_shares, W_m_memories, W_m_ages, W_m_surprisesOf, W_m_told, pu_e, pu_n, y_ue, y_un, y_ve, y_vn, true_and, and_true]
      exact this
  · simp (disch := omega) only [W_m_tables, W_m_weeks, W_m_runs, W_m_surprises, W_m_sums, W_m_settings, W_m_sizes, W_m_guesses, W_m_shares, W_m_memories, W_m_ages, W_m_surprisesOf, W_m_told, pu_e, pu_n, y_ue, y_un, y_ve, y_vn, true_and, and_true]; exact w4
  · simp (disch := omega) only [W_m_tables, W_m_weeks, W_m_runs, W_m_surprises, W_m_sums, W_m_settings, W_m_sizes, W_m_guesses, W_m_shares, W_m_memories, W_m_ages, W_m_surprisesOf, W_m_told, pu_e, pu_n, y_ue, y_un, y_ve, y_vn, true_and, and_true]; exact w5
  · simp (disch := omega) only [W_m_tables, W_m_weeks, W_m_runs, W_m_surprises, W_m_sums, W_m_settings, W_m_sizes, W_m_guesses, W_m_shares, W_m_memories, W_m_ages, W_m_surprisesOf, W_m_told, pu_e, pu_n, y_ue, y_un, y_ve, y_vn, true_and, and_true]; exact w6
  · exact w7
  · intro i hi; have := w8 i hi; simp (disch := omega) only [W_m_tables, W_m_weeks, W_m_runs, W_m_surprises, W_m_sums, W_m_settings, W_m_sizes, W_m_guesses, W_m_shares, W_m_memories, W_m_ages, W_m_surprisesOf, W_m_told, pu_e, pu_n, y_ue, y_un, y_ve, y_vn, true_and, and_true]; exact this
  · intro c hc hm
    have := w9 c hc
    have hq := yq_lt c hc
    by_cases e : c = d
    · simp (disch := omega) only [W_m_tables, W_m_weeks, W_m_runs, W_m_surprises, W_m_sums, W_m_settings, W_m_sizes, W_m_guesses, W_m_shares, W_m_memories, W_m_ages, W_m_surprisesOf, W_m_told, pu_e, pu_n, y_ue, y_un, y_ve, y_vn, true_and, and_true, e]
    · have hne : ¬ yq c = yq d := fun z => e (yq_inj c hc d hd z)
      simp (disch := omega) only [W_m_tables, W_m_weeks, W_m_runs, W_m_surprises, W_m_sums, W_m_settings, W_m_sizes, W_m_guesses, W_m_shares, W_m_memories, W_m_ages, W_m_surprisesOf, W_m_told, pu_e, pu_n, y_ue, y_un, y_ve, y_vn, true_and, and_true] at hm ⊢
      exact this hm
  · intro c hc
    have := w10 c hc
    have hq := yq_lt c hc
    simp (disch := omega) only [W_m_tables, W_m_weeks, W_m_runs, W_m_surprises, W_m_sums, W_m_settings, W_m_sizes, W_m_guesses, W_m_shares, W_m_memories, W_m_ages, W_m_surprisesOf, W_m_told, pu_e, pu_n, y_ue, y_un, y_ve, y_vn, true_and, and_true]
    exact this
  · simp (disch := omega) only [W_m_tables, W_m_weeks, W_m_runs, W_m_surprises, W_m_sums, W_m_settings, W_m_sizes, W_m_guesses, W_m_shares, W_m_memories, W_m_ages, W_m_surprisesOf, W_m_told, pu_e, pu_n, y_ue, y_un, y_ve, y_vn, true_and, and_true]; exact w11
  · intro i hi hi2
    have := r1 i hi hi2
    by_cases e1 : i = 8 + yq d
    · simp (disch := omega) only [W_m_tables, W_m_weeks, W_m_runs, W_m_surprises, W_m_sums, W_m_settings, W_m_sizes, W_m_guesses, W_m_shares, W_m_memories, W_m_ages, W_m_surprisesOf, W_m_told, pu_e, pu_n, y_ue, y_un, y_ve, y_vn, true_and, and_true]
    · by_cases e2 : i = 57 + yq d
      · simp (disch := omega) only [W_m_tables, W_m_weeks, W_m_runs, W_m_surprises, W_m_sums, W_m_settings, W_m_sizes, W_m_guesses, W_m_shares, W_m_memories, W_m_ages, W_m_surprisesOf, W_m_told, pu_e, pu_n, y_ue, y_un, y_ve, y_vn, true_and, and_true]
      · by_cases e3 : i = 106 + yq d
        · simp (disch := omega) only [W_m_tables, W_m_weeks, W_m_runs, W_m_surprises, W_m_sums, W_m_settings, W_m_sizes, W_m_guesses, W_m_shares, W_m_memories, W_m_ages, W_m_surprisesOf, W_m_told, pu_e, pu_n, y_ue, y_un, y_ve, y_vn, true_and, and_true]
        · by_cases e4 : i = 155 + yq d
          · simp (disch := omega) only [W_m_tables, W_m_weeks, W_m_runs, W_m_surprises, W_m_sums, W_m_settings, W_m_sizes, W_m_guesses, W_m_shares, W_m_memories, W_m_ages, W_m_surprisesOf, W_m_told, pu_e, pu_n, y_ue, y_un, y_ve, y_vn, true_and, and_true]
          · by_cases e5 : i = 204 + yq d
            · simp (disch := omega) only [W_m_tables, W_m_weeks, W_m_runs, W_m_surprises, W_m_sums, W_m_settings, W_m_sizes, W_m_guesses, W_m_shares, W_m_memories, W_m_ages, W_m_surprisesOf, W_m_told, pu_e, pu_n, y_ue, y_un, y_ve, y_vn, true_and, and_true]
            · simp (disch := omega) only [W_m_tables, W_m_weeks, W_m_runs, W_m_surprises, W_m_sums, W_m_settings, W_m_sizes, W_m_guesses, W_m_shares, W_m_memories, W_m_ages, W_m_surprisesOf, W_m_told, pu_e, pu_n, y_ue, y_un, y_ve, y_vn, true_and, and_true]; exact this
  · intro i hi; have := r2 i hi; simp (disch := omega) only [W_m_tables, W_m_weeks, W_m_runs, W_m_surprises, W_m_sums, W_m_settings, W_m_sizes, W_m_guesses, W_m_shares, W_m_memories, W_m_ages, W_m_surprisesOf, W_m_told, pu_e, pu_n, y_ue, y_un, y_ve, y_vn, true_and, and_true]; exact this
  · simp (disch := omega) only [W_m_tables, W_m_weeks, W_m_runs, W_m_surprises, W_m_sums, W_m_settings, W_m_sizes, W_m_guesses, W_m_shares, W_m_memories, W_m_ages, W_m_surprisesOf, W_m_told, pu_e, pu_n, y_ue, y_un, y_ve, y_vn, true_and, and_true]; exact i1
  · intro t ht
    simp (disch := omega) only [W_m_tables, W_m_weeks, W_m_runs, W_m_surprises, W_m_sums, W_m_settings, W_m_sizes, W_m_guesses, W_m_shares, W_m_memories, W_m_ages, W_m_surprisesOf, W_m_told, pu_e, pu_n, y_ue, y_un, y_ve, y_vn, true_and, and_true] at ht
    have := j2 t ht
    simp (disch := omega) only [W_m_tables, W_m_weeks, W_m_runs, W_m_surprises, W_m_sums, W_m_settings, W_m_sizes, W_m_guesses, W_m_shares, W_m_memories, W_m_ages, W_m_surprisesOf, W_m_told, pu_e, pu_n, y_ue, y_un, y_ve, y_vn, true_and, and_true]
    exact this
  · intro c hc
    have := j3 c hc
    have hq := yq_lt c hc
    by_cases e : c = d
    · simp (disch := omega) only [W_m_tables, W_m_weeks, W_m_runs, W_m_surprises, W_m_sums, W_m_settings, W_m_sizes, W_m_guesses, W_m_shares, W_m_memories, W_m_ages, W_m_surprisesOf, W_m_told, pu_e, pu_n, y_ue, y_un, y_ve, y_vn, true_and, and_true, e]; omega
    · have hne : ¬ yq c = yq d := fun z => e (yq_inj c hc d hd z)
      simp (disch := omega) only [W_m_tables, W_m_weeks, W_m_runs, W_m_surprises, W_m_sums, W_m_settings, W_m_sizes, W_m_guesses, W_m_shares, W_m_memories, W_m_ages, W_m_surprisesOf, W_m_told, pu_e, pu_n, y_ue, y_un, y_ve, y_vn, true_and, and_true]
      exact this
  · simp (disch := omega) only [W_m_tables, W_m_weeks, W_m_runs, W_m_surprises, W_m_sums, W_m_settings, W_m_sizes, W_m_guesses, W_m_shares, W_m_memories, W_m_ages, W_m_surprisesOf, W_m_told, pu_e, pu_n, y_ue, y_un, y_ve, y_vn, true_and, and_true]; exact i2
  · simp (disch := omega) only [W_m_tables, W_m_weeks, W_m_runs, W_m_surprises, W_m_sums, W_m_settings, W_m_sizes, W_m_guesses, W_m_shares, W_m_memories, W_m_ages, W_m_surprisesOf, W_m_told, pu_e, pu_n, y_ue, y_un, y_ve, y_vn, true_and, and_true]; exact i3
  · intro c hc
    have := i4 c hc
    have hq := yq_lt c hc
    by_cases e : c = d
    · subst e
      simp (disch := omega) only [W_m_tables, W_m_weeks, W_m_runs, W_m_surprises, W_m_sums, W_m_settings, W_m_sizes, W_m_guesses, W_m_shares, W_m_memories, W_m_ages, W_m_surprisesOf, W_m_told, pu_e, pu_n, y_ue, y_un, y_ve, y_vn, true_and, and_true]; exact ⟨Nat.zero_le _, this.2⟩
    · have hne : ¬ yq c = yq d := fun z => e (yq_inj c hc d hd z)
      simp (disch := omega) only [W_m_tables, W_m_weeks, W_m_runs, W_m_surprises, W_m_sums, W_m_settings, W_m_sizes, W_m_guesses, W_m_shares, W_m_memories, W_m_ages, W_m_surprisesOf, W_m_told, pu_e, pu_n, y_ue, y_un, y_ve, y_vn, true_and, and_true]
      exact this
  · intro q hq hn
    have := i5 q hq hn
    have hne : ¬ q = yq d := fun z => hn d hd z.symm
    simp (disch := omega) only [W_m_tables, W_m_weeks, W_m_runs, W_m_surprises, W_m_sums, W_m_settings, W_m_sizes, W_m_guesses, W_m_shares, W_m_memories, W_m_ages, W_m_surprisesOf, W_m_told, pu_e, pu_n, y_ue, y_un, y_ve, y_vn, true_and, and_true]
    exact this
