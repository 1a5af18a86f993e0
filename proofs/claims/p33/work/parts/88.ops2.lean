theorem RRf.u {r : Nat → Int64} {ρ : Nat → Nat} {σ : Nat → Int64} (h : RRf r ρ σ) {i v : Nat} (ho : i < 308 ∨ 312 ≤ i) : RRf (vp_updL r i (lN v)) (pu ρ i v) σ := by
  obtain ⟨r1, r2⟩ := h
  refine ⟨?_, ?_⟩
  · intro j hj hj2
    by_cases e : j = i
    · simp (disch := omega) only [W_m_tables, W_m_weeks, W_m_runs, W_m_surprises, W_m_sums, W_m_settings, W_m_sizes, W_m_guesses, W_m_shares, W_m_memories, W_m_ages, W_m_surprisesOf, W_m_told, pu_e, pu_n, y_ue, y_un, y_ve, y_vn, true_and, and_true]
    · have := r1 j hj hj2
      simp (disch := omega) only [W_m_tables, W_m_weeks, W_m_runs, W_m_surprises, W_m_sums, W_m_settings, W_m_sizes, W_m_guesses, W_m_shares, W_m_memories, W_m_ages, W_m_surprisesOf, W_m_told, pu_e, pu_n, y_ue, y_un, y_ve, y_vn, true_and, and_true]
      exact this
  · intro j hj
    have := r2 j hj
    simp (disch := omega) only [W_m_tables, W_m_weeks, W_m_runs, W_m_surprises, W_m_sums, W_m_settings, W_m_sizes, W_m_guesses, W_m_shares, W_m_memories, W_m_ages, W_m_surprisesOf, W_m_told, pu_e, pu_n, y_ue, y_un, y_ve, y_vn, true_and, and_true]
    exact this
theorem s_size {N : Nat} {w : TW} {r : Nat → Int64} {ρ : Nat → Nat} {σ : Nat → Int64} (h : ST N w r ρ σ) {t z : Nat} (ht : t < ρ 0) (hz : 1 ≤ z ∧ z ≤ 9999) :
    ∃ w', f_X7_changeSize w (nI t) (nI z) = some (nI (ρ (1 + t)), w') ∧ ST N w' (vp_updL r (1 + t) (lN z)) (pu ρ (1 + t) z) σ := by
  obtain ⟨⟨⟨w1, w2, w3⟩, w4, w5, w6, w7, w8, w9, w10, w11⟩, hr, ⟨⟨i1, j2, j3⟩, i2, i3, i4, i5⟩⟩ := h
  refine ⟨W_mk (W_tables w) (W_weeks w) (W_runs w) (W_surprises w) (W_sums w) (W_settings w) (upd (W_sizes w) t (nI z)) (W_guesses w) (W_shares w) (W_memories w) (W_ages w) (W_surprisesOf w) (W_told w), ?_, ⟨⟨?_, ?_, ?_⟩, ?_, ?_, ?_, ?_, ?_, ?_, ?_, ?_⟩, ?_, ⟨?_, ?_, ?_⟩, ?_, ?_, ?_, ?_⟩
  · have e := w2 t ht
    simp (disch := omega) only [y_c0, y_c1, y_c10, y_c100, y_c1000, y_c10000, y_c100000, y_c106, y_c112, y_c116, y_c127, y_c128, y_c13, y_c14, y_c155, y_c2, y_c20, y_c200, y_c204, y_c21, y_c253, y_c255, y_c3, y_c30, y_c302, y_c303, y_c304, y_c305, y_c306, y_c307, y_c308, y_c309, y_c310, y_c311, y_c312, y_c313, y_c314, y_c315, y_c316, y_c32, y_c33, y_c353, y_c39, y_c4, y_c40, y_c44, y_c4589, y_c48, y_c49, y_c5, y_c512, y_c54, y_c57, y_c59, y_c6, y_c62, y_c64, y_c7, y_c8, y_c9, y_c99, y_c9999, y_d0, y_d1, y_d10, y_d100, y_d1000000, y_d1442695040888963407, y_d2, y_d20, y_d255, y_d3, y_d4, y_d40, y_d4294967295, y_d48, y_d5, y_d50, y_d54, y_d57, y_d6364136223846793005, y_d7, y_d9, y_d9999, y_dR, y_dS, y_dk, y_nar0, y_nar1, y_Ilt, y_Ile, y_Ieq, y_Iadd, y_Imul, y_Idiv, y_Llt, y_Lle, y_Leq, y_Ladd, y_Lmul, y_Ldiv, y_I2l, y_L2i, y_shn, y_or, y_and, y_bn1, y_bn0, y_inb, y_cl, y_gle, y_gge, y_ggt, y_glt, y_geq, if_pos, if_neg, if_true, if_false, Option.bind_some, f_X7_changeSize, f_X7_sizeOf, c_isIn, e]
  · simp (disch := omega) only [W_m_tables, W_m_weeks, W_m_runs, W_m_surprises, W_m_sums, W_m_settings, W_m_sizes, W_m_guesses, W_m_shares, W_m_memories, W_m_ages, W_m_surprisesOf, W_m_told, pu_e, pu_n, y_ue, y_un, y_ve, y_vn, true_and, and_true]; exact w1
  · intro u hu
    simp (disch := omega) only [W_m_tables, W_m_weeks, W_m_runs, W_m_surprises, W_m_sums, W_m_settings, W_m_sizes, W_m_guesses, W_m_shares, W_m_memories, W_m_ages, W_m_surprisesOf, W_m_told, pu_e, pu_n, y_ue, y_un, y_ve, y_vn, true_and, and_true] at hu
    by_cases e : u = t
    · simp (disch := omega) only [W_m_tables, W_m_weeks, W_m_runs, W_m_surprises, W_m_sums, W_m_settings, W_m_sizes, W_m_guesses, W_m_shares, W_m_memories, W_m_ages, W_m_surprisesOf, W_m_told, pu_e, pu_n, y_ue, y_un, y_ve, y_vn, true_and, and_true]
    · have := w2 u hu
      simp (disch := omega) only [W_m_tables, W_m_weeks, W_m_runs, W_m_surprises, W_m_sums, W_m_settings, W_m_sizes, W_m_guesses, W_m_shares, W_m_memories, W_m_ages, W_m_surprisesOf, W_m_told, pu_e, pu_n, y_ue, y_un, y_ve, y_vn, true_and, and_true]
      exact this
  · intro c hc
    have := w3 c hc
    have hq := yq_lt c hc
    simp (disch := omega) only [W_m_tables, W_m_weeks, W_m_runs, W_m_surprises, W_m_sums, W_m_settings, W_m_sizes, W_m_guesses, W_m_shares, W_m_memories, W_m_ages, W_m_surprisesOf, W_m_told, pu_e, pu_n, y_ue, y_un, y_ve, y_vn, true_and, and_true]
    exact this
  · simp (disch := omega) only [W_m_tables, W_m_weeks, W_m_runs, W_m_surprises, W_m_sums, W_m_settings, W_m_sizes, W_m_guesses, W_m_shares, W_m_memories, W_m_ages, W_m_surprisesOf, W_m_told, pu_e, pu_n, y_ue, y_un, y_ve, y_vn, true_and, and_true]; exact w4
  · simp (disch := omega) only [W_m_tables, W_m_weeks, W_m_runs, W_m_surprises, W_m_sums, W_m_settings, W_m_sizes, W_m_guesses, W_m_shares, W_m_memories, W_m_ages, W_m_surprisesOf, W_m_told, pu_e, pu_n, y_ue, y_un, y_ve, y_vn, true_and, and_true]; exact w5
  · simp (disch := omega) only [W_m_tables, W_m_weeks, W_m_runs, W_m_surprises, W_m_sums, W_m_settings, W_m_sizes, W_m_guesses, W_m_shares, W_m_memories, W_m_ages, W_m_surprisesOf, W_m_told, pu_e, pu_n, y_ue, y_un, y_ve, y_vn, true_and, and_true]; exact w6
  · exact w7
  · intro i hi; have := w8 i hi; simp (disch := omega) only [W_m_tables, W_m_weeks, W_m_runs, W_m_surprises, W_m_sums, W_m_settings, W_m_sizes, W_m_guesses, W_m_shares, W_m_memories, W_m_ages, W_m_surprisesOf, W_m_told, pu_e, pu_n, y_ue, y_un, y_ve, y_vn, true_and, and_true]; exact this
  · intro c hc hm
    have := w9 c hc
    have hq := yq_lt c hc
    simp (disch := omega) only [W_m_tables, W_m_weeks, W_m_runs, W_m_surprises, W_m_sums, W_m_settings, W_m_sizes, W_m_guesses, W_m_shares, W_m_memories, W_m_ages, W_m_surprisesOf, W_m_told, pu_e, pu_n, y_ue, y_un, y_ve, y_vn, true_and, and_true] at hm ⊢
    exact this hm
  · intro c hc
    have := w10 c hc
    have hq := yq_lt c hc
    simp (disch := omega) only [W_m_tables, W_m_weeks, W_m_runs, W_m_surprises, W_m_sums, W_m_settings, W_m_sizes, W_m_guesses, W_m_shares, W_m_memories, W_m_ages, W_m_surprisesOf, W_m_told, pu_e, pu_n, y_ue, y_un, y_ve, y_vn, true_and, and_true]
    exact this
  · simp (disch := omega) only [W_m_tables, W_m_weeks, W_m_runs, W_m_surprises, W_m_sums, W_m_settings, W_m_sizes, W_m_guesses, W_m_shares, W_m_memories, W_m_ages, W_m_surprisesOf, W_m_told, pu_e, pu_n, y_ue, y_un, y_ve, y_vn, true_and, and_true]; exact w11
  · exact hr.u (by omega)
  · simp (disch := omega) only [W_m_tables, W_m_weeks, W_m_runs, W_m_surprises, W_m_sums, W_m_settings, W_m_sizes, W_m_guesses, W_m_shares, W_m_memories, W_m_ages, W_m_surprisesOf, W_m_told, pu_e, pu_n, y_ue, y_un, y_ve, y_vn, true_and, and_true]; exact i1
  · intro u hu
    simp (disch := omega) only [W_m_tables, W_m_weeks, W_m_runs, W_m_surprises, W_m_sums, W_m_settings, W_m_sizes, W_m_guesses, W_m_shares, W_m_memories, W_m_ages, W_m_surprisesOf, W_m_told, pu_e, pu_n, y_ue, y_un, y_ve, y_vn, true_and, and_true] at hu
    by_cases e : u = t
    · simp (disch := omega) only [W_m_tables, W_m_weeks, W_m_runs, W_m_surprises, W_m_sums, W_m_settings, W_m_sizes, W_m_guesses, W_m_shares, W_m_memories, W_m_ages, W_m_surprisesOf, W_m_told, pu_e, pu_n, y_ue, y_un, y_ve, y_vn, true_and, and_true]; exact hz
    · have := j2 u hu
      simp (disch := omega) only [W_m_tables, W_m_weeks, W_m_runs, W_m_surprises, W_m_sums, W_m_settings, W_m_sizes, W_m_guesses, W_m_shares, W_m_memories, W_m_ages, W_m_surprisesOf, W_m_told, pu_e, pu_n, y_ue, y_un, y_ve, y_vn, true_and, and_true]
      exact this
  · intro c hc
    have := j3 c hc
    have hq := yq_lt c hc
    simp (disch := omega) only [W_m_tables, W_m_weeks, W_m_runs, W_m_surprises, W_m_sums, W_m_settings, W_m_sizes, W_m_guesses, W_m_shares, W_m_memories, W_m_ages, W_m_surprisesOf, W_m_told, pu_e, pu_n, y_ue, y_un, y_ve, y_vn, true_and, and_true]
    exact this
  · simp (disch := omega) only [W_m_tables, W_m_weeks, W_m_runs, W_m_surprises, W_m_sums, W_m_settings, W_m_sizes, W_m_guesses, W_m_shares, W_m_memories, W_m_ages, W_m_surprisesOf, W_m_told, pu_e, pu_n, y_ue, y_un, y_ve, y_vn, true_and, and_true]; exact i2
  · simp (disch := omega) only [W_m_tables, W_m_weeks, W_m_runs, W_m_surprises, W_m_sums, W_m_settings, W_m_sizes, W_m_guesses, W_m_shares, W_m_memories, W_m_ages, W_m_surprisesOf, W_m_told, pu_e, pu_n, y_ue, y_un, y_ve, y_vn, true_and, and_true]; exact i3
  · intro c hc
    have := i4 c hc
    have hq := yq_lt c hc
    simp (disch := omega) only [W_m_tables, W_m_weeks, W_m_runs, W_m_surprises, W_m_sums, W_m_settings, W_m_sizes, W_m_guesses, W_m_shares, W_m_memories, W_m_ages, W_m_surprisesOf, W_m_told, pu_e, pu_n, y_ue, y_un, y_ve, y_vn, true_and, and_true]
    exact this
  · intro q hq hn
    have := i5 q hq hn
    simp (disch := omega) only [W_m_tables, W_m_weeks, W_m_runs, W_m_surprises, W_m_sums, W_m_settings, W_m_sizes, W_m_guesses, W_m_shares, W_m_memories, W_m_ages, W_m_surprisesOf, W_m_told, pu_e, pu_n, y_ue, y_un, y_ve, y_vn, true_and, and_true]
    exact this
theorem s_share {N : Nat} {w : TW} {r : Nat → Int64} {ρ : Nat → Nat} {σ : Nat → Int64} (h : ST N w r ρ σ) {d s : Nat} (hd : d < 21) (hl : 0 < ρ (8 + yq d)) (hs : 1 ≤ s ∧ s ≤ 1000) :
    ∃ w', f_X7_changeShare w (nI d) (nI s) = some (nI (ρ (106 + yq d)), w') ∧ ST N w' (vp_updL r (106 + yq d) (lN s)) (pu ρ (106 + yq d) s) σ := by
  obtain ⟨⟨⟨w1, w2, w3⟩, w4, w5, w6, w7, w8, w9, w10, w11⟩, hr, ⟨⟨i1, j2, j3⟩, i2, i3, i4, i5⟩⟩ := h
  have hqd := yq_lt d hd
  refine ⟨W_mk (W_tables w) (W_weeks w) (W_runs w) (W_surprises w) (W_sums w) (W_settings w) (W_sizes w) (W_guesses w) (upd (W_shares w) d (nI s)) (W_memories w) (W_ages w) (W_surprisesOf w) (W_told w), ?_, ⟨⟨?_, ?_, ?_⟩, ?_, ?_, ?_, ?_, ?_, ?_, ?_, ?_⟩, ?_, ⟨?_, ?_, ?_⟩, ?_, ?_, ?_, ?_⟩
  · have e := (w3 d hd).2.1
    simp (disch := omega) only [y_c0, y_c1, y_c10, y_c100, y_c1000, y_c10000, y_c100000, y_c106, y_c112, y_c116, y_c127, y_c128, y_c13, y_c14, y_c155, y_c2, y_c20, y_c200, y_c204, y_c21, y_c253, y_c255, y_c3, y_c30, y_c302, y_c303, y_c304, y_c305, y_c306, y_c307, y_c308, y_c309, y_c310, y_c311, y_c312, y_c313, y_c314, y_c315, y_c316, y_c32, y_c33, y_c353, y_c39, y_c4, y_c40, y_c44, y_c4589, y_c48, y_c49, y_c5, y_c512, y_c54, y_c57, y_c59, y_c6, y_c62, y_c64, y_c7, y_c8, y_c9, y_c99, y_c9999, y_d0, y_d1, y_d10, y_d100, y_d1000000, y_d1442695040888963407, y_d2, y_d20, y_d255, y_d3, y_d4, y_d40, y_d4294967295, y_d48, y_d5, y_d50, y_d54, y_d57, y_d6364136223846793005, y_d7, y_d9, y_d9999, y_dR, y_dS, y_dk, y_nar0, y_nar1, y_Ilt, y_Ile, y_Ieq, y_Iadd, y_Imul, y_Idiv, y_Llt, y_Lle, y_Leq, y_Ladd, y_Lmul, y_Ldiv, y_I2l, y_L2i, y_shn, y_or, y_and, y_bn1, y_bn0, y_inb, y_cl, y_gle, y_gge, y_ggt, y_glt, y_geq, if_pos, if_neg, if_true, if_false, Option.bind_some, f_X7_changeShare, f_X7_shareOf, c_isIn, e]
  · simp (disch := omega) only [W_m_tables, W_m_weeks, W_m_runs, W_m_surprises, W_m_sums, W_m_settings, W_m_sizes, W_m_guesses, W_m_shares, W_m_memories, W_m_ages, W_m_surprisesOf, W_m_told, pu_e, pu_n, y_ue, y_un, y_ve, y_vn, true_and, and_true]; exact w1
  · intro t ht
    simp (disch := omega) only [W_m_tables, W_m_weeks, W_m_runs, W_m_surprises, W_m_sums, W_m_settings, W_m_sizes, W_m_guesses, W_m_shares, W_m_memories, W_m_ages, W_m_surprisesOf, W_m_told, pu_e, pu_n, y_ue, y_un, y_ve, y_vn, true_and, and_true] at ht
    have := w2 t ht
    simp (disch := omega) only [W_m_tables, W_m_weeks, W_m_runs, W_m_surprises, W_m_sums, W_m_settings, W_m_sizes, W_m_guesses, W_m_shares, W_m_memories, W_m_ages, W_m_surprisesOf, W_m_told, pu_e, pu_n, y_ue, y_un, y_ve, y_vn, true_and, and_true]
    exact this
  · intro c hc
    have := w3 c hc
    have hq := yq_lt c hc
    by_cases e : c = d
    · subst e
      simp (disch := omega) only [W_m_tables, W_m_weeks, W_m_runs, W_m_surprises, W_m_sums, W_m_settings, W_m_sizes, W_m_guesses, W_m_shares, W_m_memories, W_m_ages, W_m_surprisesOf, W_m_told, pu_e, pu_n, y_ue, y_un, y_ve, y_vn, true_and, and_true]; exact ⟨this.1, this.2.2⟩
    · have hne : ¬ yq c = yq d := fun z => e (yq_inj c hc d hd z)
      simp (disch := omega) only [W_m_tables, W_m_weeks, W_m_runs, W_m_surprises, W_m_sums, W_m_settings, W_m_sizes, W_m_guesses, W_m_shares, W_m_memories, W_m_ages, W_m_surprisesOf, W_m_told, pu_e, pu_n, y_ue, y_un, y_ve, y_vn, true_and, and_true]
      exact this
  · simp (disch := omega) only [W_m_tables, W_m_weeks, W_m_runs, W_m_surprises, W_m_sums, W_m_settings, W_m_sizes, W_m_guesses, W_m_shares, W_m_memories, W_m_ages, W_m_surprisesOf, W_m_told, pu_e, pu_n, y_ue, y_un, y_ve, y_vn, true_and, and_true]; exact w4
  · simp (disch := omega) only [W_m_tables, W_m_weeks, W_m_runs, W_m_surprises, W_m_sums, W_m_settings, W_m_sizes, W_m_guesses, W_m_shares, W_m_memories, W_m_ages, W_m_surprisesOf, W_m_told, pu_e, pu_n, y_ue, y_un, y_ve, y_vn, true_and, and_true]; exact w5
  · simp (disch := omega) only [W_m_tables, W_m_weeks, W_m_runs, W_m_surprises, W_m_sums, W_m_settings, W_m_sizes, W_m_guesses, W_m_shares, W_m_memories, W_m_ages, W_m_surprisesOf, W_m_told, pu_e, pu_n, y_ue, y_un, y_ve, y_vn, true_and, and_true]; exact w6
  · exact w7
  · intro i hi; have := w8 i hi; simp (disch := omega) only [W_m_tables, W_m_weeks, W_m_runs, W_m_surprises, W_m_sums, W_m_settings, W_m_sizes, W_m_guesses, W_m_shares, W_m_memories, W_m_ages, W_m_surprisesOf, W_m_told, pu_e, pu_n, y_ue, y_un, y_ve, y_vn, true_and, and_true]; exact this
  · intro c hc hm
    have := w9 c hc
    have hq := yq_lt c hc
    simp (disch := omega) only [W_m_tables, W_m_weeks, W_m_runs, W_m_surprises, W_m_sums, W_m_settings, W_m_sizes, W_m_guesses, W_m_shares, W_m_memories, W_m_ages, W_m_surprisesOf, W_m_told, pu_e, pu_n, y_ue, y_un, y_ve, y_vn, true_and, and_true] at hm ⊢
    exact this hm
  · intro c hc
    have := w10 c hc
    have hq := yq_lt c hc
    simp (disch := omega) only [W_m_tables, W_m_weeks, W_m_runs, W_m_surprises, W_m_sums, W_m_settings, W_m_sizes, W_m_guesses, W_m_shares, W_m_memories, W_m_ages, W_m_surprisesOf, W_m_told, pu_e, pu_n, y_ue, y_un, y_ve, y_vn, true_and, and_true]
    exact this
  · simp (disch := omega) only [W_m_tables, W_m_weeks, W_m_runs, W_m_surprises, W_m_sums, W_m_settings, W_m_sizes, W_m_guesses, W_m_shares, W_m_memories, W_m_ages, W_m_surprisesOf, W_m_told, pu_e, pu_n, y_ue, y_un, y_ve, y_vn, true_and, and_true]; exact w11
  · exact hr.u (by omega)
  · simp (disch := omega) only [W_m_tables, W_m_weeks, W_m_runs, W_m_surprises, W_m_sums, W_m_settings, W_m_sizes, W_m_guesses, W_m_shares, W_m_memories, W_m_ages, W_m_surprisesOf, W_m_told, pu_e, pu_n, y_ue, y_un, y_ve, y_vn, true_and, and_true]; exact i1
  · intro t ht
    simp (disch := omega) only [W_m_tables, W_m_weeks, W_m_runs, W_m_surprises, W_m_sums, W_m_settings, W_m_sizes, W_m_guesses, W_m_shares, W_m_memories, W_m_ages, W_m_surprisesOf, W_m_told, pu_e, pu_n, y_ue, y_un, y_ve, y_vn, true_and, and_true] at ht
    have := j2 t ht
    simp (disch := omega) only [W_m_tables, W_m_weeks, W_m_runs, W_m_surprises, W_m_sums, W_m_settings, W_m_sizes, W_m_guesses, W_m_shares, W_m_memories, W_m_ages, W_m_surprisesOf, W_m_told, pu_e, pu_n, y_ue, y_un, y_ve, y_vn, true_and, and_true]
    exact this
  · intro c hc
    have := j3 c hc
    have hq := yq_lt c hc
    by_cases e : c = d
    · subst e
      simp (disch := omega) only [W_m_tables, W_m_weeks, W_m_runs, W_m_surprises, W_m_sums, W_m_settings, W_m_sizes, W_m_guesses, W_m_shares, W_m_memories, W_m_ages, W_m_surprisesOf, W_m_told, pu_e, pu_n, y_ue, y_un, y_ve, y_vn, true_and, and_true]; omega
    · have hne : ¬ yq c = yq d := fun z => e (yq_inj c hc d hd z)
      simp (disch := omega) only [W_m_tables, W_m_weeks, W_m_runs, W_m_surprises, W_m_sums, W_m_settings, W_m_sizes, W_m_guesses, W_m_shares, W_m_memories, W_m_ages, W_m_surprisesOf, W_m_told, pu_e, pu_n, y_ue, y_un, y_ve, y_vn, true_and, and_true]
      exact this
  · simp (disch := omega) only [W_m_tables, W_m_weeks, W_m_runs, W_m_surprises, W_m_sums, W_m_settings, W_m_sizes, W_m_guesses, W_m_shares, W_m_memories, W_m_ages, W_m_surprisesOf, W_m_told, pu_e, pu_n, y_ue, y_un, y_ve, y_vn, true_and, and_true]; exact i2
  · simp (disch := omega) only [W_m_tables, W_m_weeks, W_m_runs, W_m_surprises, W_m_sums, W_m_settings, W_m_sizes, W_m_guesses, W_m_shares, W_m_memories, W_m_ages, W_m_surprisesOf, W_m_told, pu_e, pu_n, y_ue, y_un, y_ve, y_vn, true_and, and_true]; exact i3
  · intro c hc
    have := i4 c hc
    have hq := yq_lt c hc
    simp (disch := omega) only [W_m_tables, W_m_weeks, W_m_runs, W_m_surprises, W_m_sums, W_m_settings, W_m_sizes, W_m_guesses, W_m_shares, W_m_memories, W_m_ages, W_m_surprisesOf, W_m_told, pu_e, pu_n, y_ue, y_un, y_ve, y_vn, true_and, and_true]
    exact this
  · intro q hq hn
    have := i5 q hq hn
    simp (disch := omega) only [W_m_tables, W_m_weeks, W_m_runs, W_m_surprises, W_m_sums, W_m_settings, W_m_sizes, W_m_guesses, W_m_shares, W_m_memories, W_m_ages, W_m_surprisesOf, W_m_told, pu_e, pu_n, y_ue, y_un, y_ve, y_vn, true_and, and_true]
    exact this
theorem s_set {N : Nat} {w : TW} {r : Nat → Int64} {ρ : Nat → Nat} {σ : Nat → Int64} (h : ST N w r ρ σ) {i v : Nat} (hi : i < 3) (hv : (i = 0 → 1 ≤ v ∧ v ≤ 1000) ∧ (i = 1 → 1 ≤ v ∧ v ≤ 10) ∧ (i = 2 → v ≤ 20)) :
    ∃ w', f_X7_changeSetting w (nI i) (nI v) = some (nI (ρ (302 + i)), w') ∧ ST N w' (vp_updL r (302 + i) (lN v)) (pu ρ (302 + i) v) σ := by
  obtain ⟨⟨⟨w1, w2, w3⟩, w4, w5, w6, w7, w8, w9, w10, w11⟩, hr, ⟨⟨i1, j2, j3⟩, i2, i3, i4, i5⟩⟩ := h
  refine ⟨W_mk (W_tables w) (W_weeks w) (W_runs w) (W_surprises w) (W_sums w) (upd (W_settings w) i (nI v)) (W_sizes w) (W_guesses w) (W_shares w) (W_memories w) (W_ages w) (W_surprisesOf w) (W_told w), ?_, ⟨⟨?_, ?_, ?_⟩, ?_, ?_, ?_, ?_, ?_, ?_, ?_, ?_⟩, ?_, ⟨?_, ?_, ?_⟩, ?_, ?_, ?_, ?_⟩
  · have e := w8 i hi
    simp (disch := omega) only [y_c0, y_c1, y_c10, y_c100, y_c1000, y_c10000, y_c100000, y_c106, y_c112, y_c116, y_c127, y_c128, y_c13, y_c14, y_c155, y_c2, y_c20, y_c200, y_c204, y_c21, y_c253, y_c255, y_c3, y_c30, y_c302, y_c303, y_c304, y_c305, y_c306, y_c307, y_c308, y_c309, y_c310, y_c311, y_c312, y_c313, y_c314, y_c315, y_c316, y_c32, y_c33, y_c353, y_c39, y_c4, y_c40, y_c44, y_c4589, y_c48, y_c49, y_c5, y_c512, y_c54, y_c57, y_c59, y_c6, y_c62, y_c64, y_c7, y_c8, y_c9, y_c99, y_c9999, y_d0, y_d1, y_d10, y_d100, y_d1000000, y_d1442695040888963407, y_d2, y_d20, y_d255, y_d3, y_d4, y_d40, y_d4294967295, y_d48, y_d5, y_d50, y_d54, y_d57, y_d6364136223846793005, y_d7, y_d9, y_d9999, y_dR, y_dS, y_dk, y_nar0, y_nar1, y_Ilt, y_Ile, y_Ieq, y_Iadd, y_Imul, y_Idiv, y_Llt, y_Lle, y_Leq, y_Ladd, y_Lmul, y_Ldiv, y_I2l, y_L2i, y_shn, y_or, y_and, y_bn1, y_bn0, y_inb, y_cl, y_gle, y_gge, y_ggt, y_glt, y_geq, if_pos, if_neg, if_true, if_false, Option.bind_some, f_X7_changeSetting, f_X7_settingOf, c_isIn, e]
  · simp (disch := omega) only [W_m_tables, W_m_weeks, W_m_runs, W_m_surprises, W_m_sums, W_m_settings, W_m_sizes, W_m_guesses, W_m_shares, W_m_memories, W_m_ages, W_m_surprisesOf, W_m_told, pu_e, pu_n, y_ue, y_un, y_ve, y_vn, true_and, and_true]; exact w1
  · intro t ht
    simp (disch := omega) only [W_m_tables, W_m_weeks, W_m_runs, W_m_surprises, W_m_sums, W_m_settings, W_m_sizes, W_m_guesses, W_m_shares, W_m_memories, W_m_ages, W_m_surprisesOf, W_m_told, pu_e, pu_n, y_ue, y_un, y_ve, y_vn, true_and, and_true] at ht
    have := w2 t ht
    simp (disch := omega) only [W_m_tables, W_m_weeks, W_m_runs, W_m_surprises, W_m_sums, W_m_settings, W_m_sizes, W_m_guesses, W_m_shares, W_m_memories, W_m_ages, W_m_surprisesOf, W_m_told, pu_e, pu_n, y_ue, y_un, y_ve, y_vn, true_and, and_true]
    exact this
  · intro c hc
    have := w3 c hc
    have hq := yq_lt c hc
    simp (disch := omega) only [W_m_tables, W_m_weeks, W_m_runs, W_m_surprises, W_m_sums, W_m_settings, W_m_sizes, W_m_guesses, W_m_shares, W_m_memories, W_m_ages, W_m_surprisesOf, W_m_told, pu_e, pu_n, y_ue, y_un, y_ve, y_vn, true_and, and_true]
    exact this
  · simp (disch := omega) only [W_m_tables, W_m_weeks, W_m_runs, W_m_surprises, W_m_sums, W_m_settings, W_m_sizes, W_m_guesses, W_m_shares, W_m_memories, W_m_ages, W_m_surprisesOf, W_m_told, pu_e, pu_n, y_ue, y_un, y_ve, y_vn, true_and, and_true]; exact w4
  · simp (disch := omega) only [W_m_tables, W_m_weeks, W_m_runs, W_m_surprises, W_m_sums, W_m_settings, W_m_sizes, W_m_guesses, W_m_shares, W_m_memories, W_m_ages, W_m_surprisesOf, W_m_told, pu_e, pu_n, y_ue, y_un, y_ve, y_vn, true_and, and_true]; exact w5
  · simp (disch := omega) only [W_m_tables, W_m_weeks, W_m_runs, W_m_surprises, W_m_sums, W_m_settings, W_m_sizes, W_m_guesses, W_m_shares, W_m_memories, W_m_ages, W_m_surprisesOf, W_m_told, pu_e, pu_n, y_ue, y_un, y_ve, y_vn, true_and, and_true]; exact w6
  · exact w7
  · intro k hk
    by_cases e : k = i
    · simp (disch := omega) only [W_m_tables, W_m_weeks, W_m_runs, W_m_surprises, W_m_sums, W_m_settings, W_m_sizes, W_m_guesses, W_m_shares, W_m_memories, W_m_ages, W_m_surprisesOf, W_m_told, pu_e, pu_n, y_ue, y_un, y_ve, y_vn, true_and, and_true]
    · have := w8 k hk
      simp (disch := omega) only [W_m_tables, W_m_weeks, W_m_runs, W_m_surprises, W_m_sums, W_m_settings, W_m_sizes, W_m_guesses, W_m_shares, W_m_memories, W_m_ages, W_m_surprisesOf, W_m_told, pu_e, pu_n, y_ue, y_un, y_ve, y_vn, true_and, and_true]
      exact this
  · intro c hc hm
    have := w9 c hc
    have hq := yq_lt c hc
    simp (disch := omega) only [W_m_tables, W_m_weeks, W_m_runs, W_m_surprises, W_m_sums, W_m_settings, W_m_sizes, W_m_guesses, W_m_shares, W_m_memories, W_m_ages, W_m_surprisesOf, W_m_told, pu_e, pu_n, y_ue, y_un, y_ve, y_vn, true_and, and_true] at hm ⊢
    exact this hm
  · intro c hc
    have := w10 c hc
    have hq := yq_lt c hc
    simp (disch := omega) only [W_m_tables, W_m_weeks, W_m_runs, W_m_surprises, W_m_sums, W_m_settings, W_m_sizes, W_m_guesses, W_m_shares, W_m_memories, W_m_ages, W_m_surprisesOf, W_m_told, pu_e, pu_n, y_ue, y_un, y_ve, y_vn, true_and, and_true]
    exact this
  · simp (disch := omega) only [W_m_tables, W_m_weeks, W_m_runs, W_m_surprises, W_m_sums, W_m_settings, W_m_sizes, W_m_guesses, W_m_shares, W_m_memories, W_m_ages, W_m_surprisesOf, W_m_told, pu_e, pu_n, y_ue, y_un, y_ve, y_vn, true_and, and_true]; exact w11
  · exact hr.u (by omega)
  · simp (disch := omega) only [W_m_tables, W_m_weeks, W_m_runs, W_m_surprises, W_m_sums, W_m_settings, W_m_sizes, W_m_guesses, W_m_shares, W_m_memories, W_m_ages, W_m_surprisesOf, W_m_told, pu_e, pu_n, y_ue, y_un, y_ve, y_vn, true_and, and_true]; exact i1
  · intro t ht
    simp (disch := omega) only [W_m_tables, W_m_weeks, W_m_runs, W_m_surprises, W_m_sums, W_m_settings, W_m_sizes, W_m_guesses, W_m_shares, W_m_memories, W_m_ages, W_m_surprisesOf, W_m_told, pu_e, pu_n, y_ue, y_un, y_ve, y_vn, true_and, and_true] at ht
    have := j2 t ht
    simp (disch := omega) only [W_m_tables, W_m_weeks, W_m_runs, W_m_surprises, W_m_sums, W_m_settings, W_m_sizes, W_m_guesses, W_m_shares, W_m_memories, W_m_ages, W_m_surprisesOf, W_m_told, pu_e, pu_n, y_ue, y_un, y_ve, y_vn, true_and, and_true]
    exact this
  · intro c hc
    have := j3 c hc
    have hq := yq_lt c hc
    simp (disch := omega) only [W_m_tables, W_m_weeks, W_m_runs, W_m_surprises, W_m_sums, W_m_settings, W_m_sizes, W_m_guesses, W_m_shares, W_m_memories, W_m_ages, W_m_surprisesOf, W_m_told, pu_e, pu_n, y_ue, y_un, y_ve, y_vn, true_and, and_true]
    exact this
  · have q : i = 0 ∨ i = 1 ∨ i = 2 := by omega
    rcases q with q | q | q <;> subst q <;> simp (disch := omega) only [W_m_tables, W_m_weeks, W_m_runs, W_m_surprises, W_m_sums, W_m_settings, W_m_sizes, W_m_guesses, W_m_shares, W_m_memories, W_m_ages, W_m_surprisesOf, W_m_told, pu_e, pu_n, y_ue, y_un, y_ve, y_vn, true_and, and_true] <;> omega
  · simp (disch := omega) only [W_m_tables, W_m_weeks, W_m_runs, W_m_surprises, W_m_sums, W_m_settings, W_m_sizes, W_m_guesses, W_m_shares, W_m_memories, W_m_ages, W_m_surprisesOf, W_m_told, pu_e, pu_n, y_ue, y_un, y_ve, y_vn, true_and, and_true]; exact i3
  · intro c hc
    have := i4 c hc
    have hq := yq_lt c hc
    simp (disch := omega) only [W_m_tables, W_m_weeks, W_m_runs, W_m_surprises, W_m_sums, W_m_settings, W_m_sizes, W_m_guesses, W_m_shares, W_m_memories, W_m_ages, W_m_surprisesOf, W_m_told, pu_e, pu_n, y_ue, y_un, y_ve, y_vn, true_and, and_true]
    exact this
  · intro q hq hn
    have := i5 q hq hn
    simp (disch := omega) only [W_m_tables, W_m_weeks, W_m_runs, W_m_surprises, W_m_sums, W_m_settings, W_m_sizes, W_m_guesses, W_m_shares, W_m_memories, W_m_ages, W_m_surprisesOf, W_m_told, pu_e, pu_n, y_ue, y_un, y_ve, y_vn, true_and, and_true]
    exact this
theorem s_forget {N : Nat} {w : TW} {r : Nat → Int64} {ρ : Nat → Nat} {σ : Nat → Int64} (h : ST N w r ρ σ) {d : Nat} (hd : d < 21) :
    ∃ w', f_X7_forget w (nI d) = some ((), w') ∧ ST N w' (vp_updL r (155 + yq d) (lN 0)) (pu ρ (155 + yq d) 0) σ := by
  obtain ⟨⟨⟨w1, w2, w3⟩, w4, w5, w6, w7, w8, w9, w10, w11⟩, hr, ⟨⟨i1, j2, j3⟩, i2, i3, i4, i5⟩⟩ := h
  have hqd := yq_lt d hd
  refine ⟨W_mk (W_tables w) (W_weeks w) (W_runs w) (W_surprises w) (W_sums w) (W_settings w) (W_sizes w) (W_guesses w) (W_shares w) (upd (W_memories w) d (nI 0)) (upd (W_ages w) d (nI 0)) (W_surprisesOf w) (W_told w), ?_, ⟨⟨?_, ?_, ?_⟩, ?_, ?_, ?_, ?_, ?_, ?_, ?_, ?_⟩, ?_, ⟨?_, ?_, ?_⟩, ?_, ?_, ?_, ?_⟩
  · simp (disch := omega) only [y_c0, y_c1, y_c10, y_c100, y_c1000, y_c10000, y_c100000, y_c106, y_c112, y_c116, y_c127, y_c128, y_c13, y_c14, y_c155, y_c2, y_c20, y_c200, y_c204, y_c21, y_c253, y_c255, y_c3, y_c30, y_c302, y_c303, y_c304, y_c305, y_c306, y_c307, y_c308, y_c309, y_c310, y_c311, y_c312, y_c313, y_c314, y_c315, y_c316, y_c32, y_c33, y_c353, y_c39, y_c4, y_c40, y_c44, y_c4589, y_c48, y_c49, y_c5, y_c512, y_c54, y_c57, y_c59, y_c6, y_c62, y_c64, y_c7, y_c8, y_c9, y_c99, y_c9999, y_d0, y_d1, y_d10, y_d100, y_d1000000, y_d1442695040888963407, y_d2, y_d20, y_d255, y_d3, y_d4, y_d40, y_d4294967295, y_d48, y_d5, y_d50, y_d54, y_d57, y_d6364136223846793005, y_d7, y_d9, y_d9999, y_dR, y_dS, y_dk, y_nar0, y_nar1, y_Ilt, y_Ile, y_Ieq, y_Iadd, y_Imul, y_Idiv, y_Llt, y_Lle, y_Leq, y_Ladd, y_Lmul, y_Ldiv, y_I2l, y_L2i, y_shn, y_or, y_and, y_bn1, y_bn0, y_inb, y_cl, y_gle, y_gge, y_ggt, y_glt, y_geq, if_pos, if_neg, if_true, if_false, Option.bind_some, f_X7_forget, c_isIn]
  · simp (disch := omega) only [W_m_tables, W_m_weeks, W_m_runs, W_m_surprises, W_m_sums, W_m_settings, W_m_sizes, W_m_guesses, W_m_shares, W_m_memories, W_m_ages, W_m_surprisesOf, W_m_told, pu_e, pu_n, y_ue, y_un, y_ve, y_vn, true_and, and_true]; exact w1
  · intro t ht
    simp (disch := omega) only [W_m_tables, W_m_weeks, W_m_runs, W_m_surprises, W_m_sums, W_m_settings, W_m_sizes, W_m_guesses, W_m_shares, W_m_memories, W_m_ages, W_m_surprisesOf, W_m_told, pu_e, pu_n, y_ue, y_un, y_ve, y_vn, true_and, and_true] at ht
    have := w2 t ht
    simp (disch := omega) only [W_m_tables, W_m_weeks, W_m_runs, W_m_surprises, W_m_sums, W_m_settings, W_m_sizes, W_m_guesses, W_m_shares, W_m_memories, W_m_ages, W_m_surprisesOf, W_m_told, pu_e, pu_n, y_ue, y_un, y_ve, y_vn, true_and, and_true]
    exact this
  · intro c hc
    have := w3 c hc
    have hq := yq_lt c hc
    by_cases e : c = d
    · subst e
      simp (disch := omega) only [W_m_tables, W_m_weeks, W_m_runs, W_m_surprises, W_m_sums, W_m_settings, W_m_sizes, W_m_guesses, W_m_shares, W_m_memories, W_m_ages, W_m_surprisesOf, W_m_told, pu_e, pu_n, y_ue, y_un, y_ve, y_vn, true_and, and_true]; exact ⟨this.1, this.2.1⟩
    · have hne : ¬ yq c = yq d := fun z => e (yq_inj c hc d hd z)
      simp (disch := omega) only [W_m_tables, W_m_weeks, W_m_runs, W_m_surprises, W_m_sums, W_m_settings, W_m_sizes, W_m_guesses, W_m_shares, W_m_memories, W_m_ages, W_m_surprisesOf, W_m_told, pu_e, pu_n, y_ue, y_un, y_ve, y_vn, true_and, and_true]
      exact this
  · simp (disch := omega) only [W_m_tables, W_m_weeks, W_m_runs, W_m_surprises, W_m_sums, W_m_settings, W_m_sizes, W_m_guesses, W_m_shares, W_m_memories, W_m_ages, W_m_surprisesOf, W_m_told, pu_e, pu_n, y_ue, y_un, y_ve, y_vn, true_and, and_true]; exact w4
  · simp (disch := omega) only [W_m_tables, W_m_weeks, W_m_runs, W_m_surprises, W_m_sums, W_m_settings, W_m_sizes, W_m_guesses, W_m_shares, W_m_memories, W_m_ages, W_m_surprisesOf, W_m_told, pu_e, pu_n, y_ue, y_un, y_ve, y_vn, true_and, and_true]; exact w5
  · simp (disch := omega) only [W_m_tables, W_m_weeks, W_m_runs, W_m_surprises, W_m_sums, W_m_settings, W_m_sizes, W_m_guesses, W_m_shares, W_m_memories, W_m_ages, W_m_surprisesOf, W_m_told, pu_e, pu_n, y_ue, y_un, y_ve, y_vn, true_and, and_true]; exact w6
  · exact w7
  · intro i hi; have := w8 i hi; simp (disch := omega) only [W_m_tables, W_m_weeks, W_m_runs, W_m_surprises, W_m_sums, W_m_settings, W_m_sizes, W_m_guesses, W_m_shares, W_m_memories, W_m_ages, W_m_surprisesOf, W_m_told, pu_e, pu_n, y_ue, y_un, y_ve, y_vn, true_and, and_true]; exact this
  · intro c hc hm
    have := w9 c hc
    have hq := yq_lt c hc
    by_cases e : c = d
    · subst e
      simp (disch := omega) only [W_m_tables, W_m_weeks, W_m_runs, W_m_surprises, W_m_sums, W_m_settings, W_m_sizes, W_m_guesses, W_m_shares, W_m_memories, W_m_ages, W_m_surprisesOf, W_m_told, pu_e, pu_n, y_ue, y_un, y_ve, y_vn, true_and, and_true] at hm
      omega
    · have hne : ¬ yq c = yq d := fun z => e (yq_inj c hc d hd z)
      simp (disch := omega) only [W_m_tables, W_m_weeks, W_m_runs, W_m_surprises, W_m_sums, W_m_settings, W_m_sizes, W_m_guesses, W_m_shares, W_m_memories, W_m_ages, W_m_surprisesOf, W_m_told, pu_e, pu_n, y_ue, y_un, y_ve, y_vn, true_and, and_true] at hm ⊢
      exact this hm
  · intro c hc
    have := w10 c hc
    have hq := yq_lt c hc
    simp (disch := omega) only [W_m_tables, W_m_weeks, W_m_runs, W_m_surprises, W_m_sums, W_m_settings, W_m_sizes, W_m_guesses, W_m_shares, W_m_memories, W_m_ages, W_m_surprisesOf, W_m_told, pu_e, pu_n, y_ue, y_un, y_ve, y_vn, true_and, and_true]
    exact this
  · simp (disch := omega) only [W_m_tables, W_m_weeks, W_m_runs, W_m_surprises, W_m_sums, W_m_settings, W_m_sizes, W_m_guesses, W_m_shares, W_m_memories, W_m_ages, W_m_surprisesOf, W_m_told, pu_e, pu_n, y_ue, y_un, y_ve, y_vn, true_and, and_true]; exact w11
  · exact hr.u (by omega)
  · simp (disch := omega) only [W_m_tables, W_m_weeks, W_m_runs, W_m_surprises, W_m_sums, W_m_settings, W_m_sizes, W_m_guesses, W_m_shares, W_m_memories, W_m_ages, W_m_surprisesOf, W_m_told, pu_e, pu_n, y_ue, y_un, y_ve, y_vn, true_and, and_true]; exact i1
  · intro t ht
    simp (disch := omega) only [W_m_tables, W_m_weeks, W_m_runs, W_m_surprises, W_m_sums, W_m_settings, W_m_sizes, W_m_guesses, W_m_shares, W_m_memories, W_m_ages, W_m_surprisesOf, W_m_told, pu_e, pu_n, y_ue, y_un, y_ve, y_vn, true_and, and_true] at ht
    have := j2 t ht
    simp (disch := omega) only [W_m_tables, W_m_weeks, W_m_runs, W_m_surprises, W_m_sums, W_m_settings, W_m_sizes, W_m_guesses, W_m_shares, W_m_memories, W_m_ages, W_m_surprisesOf, W_m_told, pu_e, pu_n, y_ue, y_un, y_ve, y_vn, true_and, and_true]
    exact this
  · intro c hc
    have := j3 c hc
    have hq := yq_lt c hc
    by_cases e : c = d
    · subst e
      simp (disch := omega) only [W_m_tables, W_m_weeks, W_m_runs, W_m_surprises, W_m_sums, W_m_settings, W_m_sizes, W_m_guesses, W_m_shares, W_m_memories, W_m_ages, W_m_surprisesOf, W_m_told, pu_e, pu_n, y_ue, y_un, y_ve, y_vn, true_and, and_true]; omega
    · have hne : ¬ yq c = yq d := fun z => e (yq_inj c hc d hd z)
      simp (disch := omega) only [W_m_tables, W_m_weeks, W_m_runs, W_m_surprises, W_m_sums, W_m_settings, W_m_sizes, W_m_guesses, W_m_shares, W_m_memories, W_m_ages, W_m_surprisesOf, W_m_told, pu_e, pu_n, y_ue, y_un, y_ve, y_vn, true_and, and_true]
      exact this
  · simp (disch := omega) only [W_m_tables, W_m_weeks, W_m_runs, W_m_surprises, W_m_sums, W_m_settings, W_m_sizes, W_m_guesses, W_m_shares, W_m_memories, W_m_ages, W_m_surprisesOf, W_m_told, pu_e, pu_n, y_ue, y_un, y_ve, y_vn, true_and, and_true]; exact i2
  · simp (disch := omega) only [W_m_tables, W_m_weeks, W_m_runs, W_m_surprises, W_m_sums, W_m_settings, W_m_sizes, W_m_guesses, W_m_shares, W_m_memories, W_m_ages, W_m_surprisesOf, W_m_told, pu_e, pu_n, y_ue, y_un, y_ve, y_vn, true_and, and_true]; exact i3
  · intro c hc
    have := i4 c hc
    have hq := yq_lt c hc
    simp (disch := omega) only [W_m_tables, W_m_weeks, W_m_runs, W_m_surprises, W_m_sums, W_m_settings, W_m_sizes, W_m_guesses, W_m_shares, W_m_memories, W_m_ages, W_m_surprisesOf, W_m_told, pu_e, pu_n, y_ue, y_un, y_ve, y_vn, true_and, and_true]
    exact this
  · intro q hq hn
    have := i5 q hq hn
    have hne : ¬ q = yq d := fun z => hn d hd z.symm
    simp (disch := omega) only [W_m_tables, W_m_weeks, W_m_runs, W_m_surprises, W_m_sums, W_m_settings, W_m_sizes, W_m_guesses, W_m_shares, W_m_memories, W_m_ages, W_m_surprisesOf, W_m_told, pu_e, pu_n, y_ue, y_un, y_ve, y_vn, true_and, and_true]
    exact this
