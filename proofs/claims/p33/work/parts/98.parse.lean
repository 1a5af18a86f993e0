/-- the text of both -/
def TXR (T : TT) (M : TM) (mt : Nat → Int32) (L : Nat) (c : Nat → Nat) : Prop := T_length T = nI L ∧ M_size M = nI L ∧ L ≤ 100 ∧ ∀ k, k < L → T_signs T k = nI (c k) ∧ mt k = nI (c k) ∧ c k ≤ 255
theorem c_sign {T : TT} {L : Nat} {c : Nat → Nat} (h1 : T_length T = nI L) (h2 : L ≤ 100) (h3 : ∀ k, k < L → T_signs T k = nI (c k)) {i : Nat} (hi : i < L) : f_X6_signAt T (nI i) = some (nI (c i), ()) := by
  have e := h3 i hi
  simp (disch := omega) only [y_c0, y_c1, y_c10, y_c100, y_c1000, y_c10000, y_c100000, y_c106, y_c112, y_c116, y_c127, y_c128, y_c13, y_c14, y_c155, y_c2, y_c20, y_c200, y_c204, y_c21, y_c253, y_c255, y_c3, y_c30, y_c302, y_c303, y_c304, y_c305, y_c306, y_c307, y_c308, y_c309, y_c310, y_c311, y_c312, y_c313, y_c314, y_c315, y_c316, y_c32, y_c33, y_c353, y_c39, y_c4, y_c40, y_c44, y_c4589, y_c48, y_c49, y_c5, y_c512, y_c54, y_c57, y_c59, y_c6, y_c62, y_c64, y_c7, y_c8, y_c9, y_c99, y_c9999, y_d0, y_d1, y_d10, y_d100, y_d1000000, y_d1442695040888963407, y_d2, y_d20, y_d255, y_d3, y_d4, y_d40, y_d4294967295, y_d48, y_d5, y_d50, y_d54, y_d57, y_d6364136223846793005, y_d7, y_d9, y_d9999, y_dR, y_dS, y_dk, y_nar0, y_nar1, y_Ilt, y_Ile, y_Ieq, y_Iadd, y_Imul, y_Idiv, y_Llt, y_Lle, y_Leq, y_Ladd, y_Lmul, y_Ldiv, y_I2l, y_L2i, y_shn, y_or, y_and, y_bn1, y_bn0, y_inb, y_cl, y_gle, y_gge, y_ggt, y_glt, y_geq, if_pos, if_neg, if_true, if_false, Option.bind_some, f_X6_signAt, c_isIn, h1, e]
def xK6 (T : TT) : TE → Option (Int32 × TE) := fun (y6g_p1 : TE) => ((f_X0_isComplete y6g_p1).bind fun o7 => (if o7.1 = (0 : Int32) then (some ((T_length T), y6g_p1)) else (some ((-1 : Int32), y6g_p1))))
def CL (T : TT) (L i : Nat) (E : TE) (v : Int32) : Prop := ∀ n, L - i < n → ∃ E', f_X6_firstErrorFor_X0_L6 T (xK6 T) n (nI i) E = some (v, E')
def RLd (T : TT) (L i : Nat) (E : TE) (w : TW) (lo : Nat) (res : Nat) (w' : TW) : Prop := ∀ n, L + 1 - i < n → ∃ E', f_X8_readEntries_L11 T n (nI lo) (nI i) E w = some (nI res, (E', w'))
theorem CL.step {T : TT} {L : Nat} {c : Nat → Nat} (h1 : T_length T = nI L) (h2 : L ≤ 100) (h3 : ∀ k, k < L → T_signs T k = nI (c k)) {i : Nat} {E E1 : TE} {v : Int32} (hi : i < L) (ht : f_X0_takes E (nI (c i)) = some (nI 1, E1)) (h : CL T L (i + 1) E1 v) : CL T L i E v := by
  intro n hn
  obtain ⟨n, rfl⟩ : ∃ m, n = m + 1 := ⟨n - 1, by omega⟩
  obtain ⟨E', e⟩ := h n (by omega)
  have hs := c_sign h1 h2 h3 hi
  refine ⟨E', ?_⟩
  rw [f_X6_firstErrorFor_X0_L6]
  simp (disch := omega) only [y_c0, y_c1, y_c10, y_c100, y_c1000, y_c10000, y_c100000, y_c106, y_c112, y_c116, y_c127, y_c128, y_c13, y_c14, y_c155, y_c2, y_c20, y_c200, y_c204, y_c21, y_c253, y_c255, y_c3, y_c30, y_c302, y_c303, y_c304, y_c305, y_c306, y_c307, y_c308, y_c309, y_c310, y_c311, y_c312, y_c313, y_c314, y_c315, y_c316, y_c32, y_c33, y_c353, y_c39, y_c4, y_c40, y_c44, y_c4589, y_c48, y_c49, y_c5, y_c512, y_c54, y_c57, y_c59, y_c6, y_c62, y_c64, y_c7, y_c8, y_c9, y_c99, y_c9999, y_d0, y_d1, y_d10, y_d100, y_d1000000, y_d1442695040888963407, y_d2, y_d20, y_d255, y_d3, y_d4, y_d40, y_d4294967295, y_d48, y_d5, y_d50, y_d54, y_d57, y_d6364136223846793005, y_d7, y_d9, y_d9999, y_dR, y_dS, y_dk, y_nar0, y_nar1, y_Ilt, y_Ile, y_Ieq, y_Iadd, y_Imul, y_Idiv, y_Llt, y_Lle, y_Leq, y_Ladd, y_Lmul, y_Ldiv, y_I2l, y_L2i, y_shn, y_or, y_and, y_bn1, y_bn0, y_inb, y_cl, y_gle, y_gge, y_ggt, y_glt, y_geq, if_pos, if_neg, if_true, if_false, Option.bind_some, h1, hs, ht]
  exact e
theorem CL.stk {T : TT} {L : Nat} {c : Nat → Nat} (h1 : T_length T = nI L) (h2 : L ≤ 100) (h3 : ∀ k, k < L → T_signs T k = nI (c k)) {j : Nat} {E : TE} (h : STK L c j E) : CL T L j E (nI j) := by
  intro n hn
  obtain ⟨n, rfl⟩ : ∃ m, n = m + 1 := ⟨n - 1, by omega⟩
  rcases h with ⟨a, E', b⟩ | ⟨a, b⟩
  · have hs := c_sign h1 h2 h3 a
    refine ⟨E', ?_⟩
    rw [f_X6_firstErrorFor_X0_L6]
    simp (disch := omega) only [y_c0, y_c1, y_c10, y_c100, y_c1000, y_c10000, y_c100000, y_c106, y_c112, y_c116, y_c127, y_c128, y_c13, y_c14, y_c155, y_c2, y_c20, y_c200, y_c204, y_c21, y_c253, y_c255, y_c3, y_c30, y_c302, y_c303, y_c304, y_c305, y_c306, y_c307, y_c308, y_c309, y_c310, y_c311, y_c312, y_c313, y_c314, y_c315, y_c316, y_c32, y_c33, y_c353, y_c39, y_c4, y_c40, y_c44, y_c4589, y_c48, y_c49, y_c5, y_c512, y_c54, y_c57, y_c59, y_c6, y_c62, y_c64, y_c7, y_c8, y_c9, y_c99, y_c9999, y_d0, y_d1, y_d10, y_d100, y_d1000000, y_d1442695040888963407, y_d2, y_d20, y_d255, y_d3, y_d4, y_d40, y_d4294967295, y_d48, y_d5, y_d50, y_d54, y_d57, y_d6364136223846793005, y_d7, y_d9, y_d9999, y_dR, y_dS, y_dk, y_nar0, y_nar1, y_Ilt, y_Ile, y_Ieq, y_Iadd, y_Imul, y_Idiv, y_Llt, y_Lle, y_Leq, y_Ladd, y_Lmul, y_Ldiv, y_I2l, y_L2i, y_shn, y_or, y_and, y_bn1, y_bn0, y_inb, y_cl, y_gle, y_gge, y_ggt, y_glt, y_geq, if_pos, if_neg, if_true, if_false, Option.bind_some, h1, hs, b]
  · refine ⟨E, ?_⟩
    rw [f_X6_firstErrorFor_X0_L6]
    subst a
    simp (disch := omega) only [y_c0, y_c1, y_c10, y_c100, y_c1000, y_c10000, y_c100000, y_c106, y_c112, y_c116, y_c127, y_c128, y_c13, y_c14, y_c155, y_c2, y_c20, y_c200, y_c204, y_c21, y_c253, y_c255, y_c3, y_c30, y_c302, y_c303, y_c304, y_c305, y_c306, y_c307, y_c308, y_c309, y_c310, y_c311, y_c312, y_c313, y_c314, y_c315, y_c316, y_c32, y_c33, y_c353, y_c39, y_c4, y_c40, y_c44, y_c4589, y_c48, y_c49, y_c5, y_c512, y_c54, y_c57, y_c59, y_c6, y_c62, y_c64, y_c7, y_c8, y_c9, y_c99, y_c9999, y_d0, y_d1, y_d10, y_d100, y_d1000000, y_d1442695040888963407, y_d2, y_d20, y_d255, y_d3, y_d4, y_d40, y_d4294967295, y_d48, y_d5, y_d50, y_d54, y_d57, y_d6364136223846793005, y_d7, y_d9, y_d9999, y_dR, y_dS, y_dk, y_nar0, y_nar1, y_Ilt, y_Ile, y_Ieq, y_Iadd, y_Imul, y_Idiv, y_Llt, y_Lle, y_Leq, y_Ladd, y_Lmul, y_Ldiv, y_I2l, y_L2i, y_shn, y_or, y_and, y_bn1, y_bn0, y_inb, y_cl, y_gle, y_gge, y_ggt, y_glt, y_geq, if_pos, if_neg, if_true, if_false, Option.bind_some, h1, xK6, b]
theorem CL.done {T : TT} {L : Nat} {c : Nat → Nat} (h1 : T_length T = nI L) (h2 : L ≤ 100) (h3 : ∀ k, k < L → T_signs T k = nI (c k)) {E : TE} (b : f_X0_isComplete E = some (nI 1, ())) : CL T L L E (-1) := by
  intro n hn
  obtain ⟨n, rfl⟩ : ∃ m, n = m + 1 := ⟨n - 1, by omega⟩
  refine ⟨E, ?_⟩
  rw [f_X6_firstErrorFor_X0_L6, h1, if_pos ((y_Ile (by omega) (by omega)).mpr (by omega))]
  unfold xK6
  rw [b, Option.bind_some]
  exact if_neg y_z1
theorem CL.run {T : TT} {L : Nat} {c : Nat → Nat} (h1 : T_length T = nI L) (h2 : L ≤ 100) (h3 : ∀ k, k < L → T_signs T k = nI (c k)) : ∀ k i E E' v, RUN c k i E E' → i + k ≤ L → CL T L (i + k) E' v → CL T L i E v := by
  intro k
  induction k with
  | zero =>
    intro i E E' v a _ b
    have : E = E' := a
    subst this
    exact b
  | succ k ih =>
    intro i E E' v a hb b
    obtain ⟨-, E1, a2, a3⟩ := a
    exact CL.step h1 h2 h3 (by omega) a2 (ih (i + 1) E1 E' v a3 (by omega) (by rw [show i + 1 + k = i + (k + 1) by omega]; exact b))
theorem RLd.step {T : TT} {L : Nat} {c : Nat → Nat} (h1 : T_length T = nI L) (h2 : L ≤ 100) (h3 : ∀ k, k < L → T_signs T k = nI (c k)) {i : Nat} {E E1 : TE} {w w' : TW} {lo res f : Nat} (hi : i < L) (h5 : c i ≠ 59) (hc : c i ≤ 255) (ht : f_X0_takes E (nI (c i)) = some (nI f, E1)) (h : RLd T L (i + 1) E1 w lo res w') : RLd T L i E w lo res w' := by
  intro n hn
  obtain ⟨n, rfl⟩ : ∃ m, n = m + 1 := ⟨n - 1, by omega⟩
  obtain ⟨E', e⟩ := h n (by omega)
  have hs := c_sign h1 h2 h3 hi
  refine ⟨E', ?_⟩
  rw [f_X8_readEntries_L11]
  simp (disch := omega) only [y_c0, y_c1, y_c10, y_c100, y_c1000, y_c10000, y_c100000, y_c106, y_c112, y_c116, y_c127, y_c128, y_c13, y_c14, y_c155, y_c2, y_c20, y_c200, y_c204, y_c21, y_c253, y_c255, y_c3, y_c30, y_c302, y_c303, y_c304, y_c305, y_c306, y_c307, y_c308, y_c309, y_c310, y_c311, y_c312, y_c313, y_c314, y_c315, y_c316, y_c32, y_c33, y_c353, y_c39, y_c4, y_c40, y_c44, y_c4589, y_c48, y_c49, y_c5, y_c512, y_c54, y_c57, y_c59, y_c6, y_c62, y_c64, y_c7, y_c8, y_c9, y_c99, y_c9999, y_d0, y_d1, y_d10, y_d100, y_d1000000, y_d1442695040888963407, y_d2, y_d20, y_d255, y_d3, y_d4, y_d40, y_d4294967295, y_d48, y_d5, y_d50, y_d54, y_d57, y_d6364136223846793005, y_d7, y_d9, y_d9999, y_dR, y_dS, y_dk, y_nar0, y_nar1, y_Ilt, y_Ile, y_Ieq, y_Iadd, y_Imul, y_Idiv, y_Llt, y_Lle, y_Leq, y_Ladd, y_Lmul, y_Ldiv, y_I2l, y_L2i, y_shn, y_or, y_and, y_bn1, y_bn0, y_inb, y_cl, y_gle, y_gge, y_ggt, y_glt, y_geq, if_pos, if_neg, if_true, if_false, Option.bind_some, h1, hs, f_X8_readEntries_J46, f_X8_readEntries_J63, ht]
  exact e
theorem RLd.run {T : TT} {L : Nat} {c : Nat → Nat} (h1 : T_length T = nI L) (h2 : L ≤ 100) (h3 : ∀ k, k < L → T_signs T k = nI (c k)) : ∀ k i E E' w w' lo res, RUN c k i E E' → i + k ≤ L → (∀ k, k < L → c k ≤ 255) → RLd T L (i + k) E' w lo res w' → RLd T L i E w lo res w' := by
  intro k
  induction k with
  | zero =>
    intro i E E' w w' lo res a _ _ b
    have : E = E' := a
    subst this
    exact b
  | succ k ih =>
    intro i E E' w w' lo res a hb hc b
    obtain ⟨a0, E1, a2, a3⟩ := a
    exact RLd.step h1 h2 h3 (by omega) a0 (hc i (by omega)) a2 (ih (i + 1) E1 E' w w' lo res a3 (by omega) hc (by rw [show i + 1 + k = i + (k + 1) by omega]; exact b))
/-- at a semicolon, or at the end -/
theorem RLd.semi {T : TT} {L : Nat} {c : Nat → Nat} (h1 : T_length T = nI L) (h2 : L ≤ 100) (h3 : ∀ k, k < L → T_signs T k = nI (c k)) {i : Nat} {E E1 : TE} {w w1 w' : TW} {lo res f b : Nat} (hi : i ≤ L) (h5 : i < L → c i = 59) (hb : b ≤ 1) (hd : f_X8_doEntry E w = some (nI b, w1)) (ht : f_X0_takes E (nI 59) = some (nI f, E1)) (h : RLd T L (i + 1) E1 w1 (lo + (1 - b)) res w') : RLd T L i E w lo res w' := by
  intro n hn
  obtain ⟨n, rfl⟩ : ∃ m, n = m + 1 := ⟨n - 1, by omega⟩
  obtain ⟨E', e⟩ := h n (by omega)
  refine ⟨E', ?_⟩
  rw [f_X8_readEntries_L11]
  have hbb : b = 0 ∨ b = 1 := by omega
  by_cases q : i < L
  · have hs := c_sign h1 h2 h3 q
    rw [h5 q] at hs
    rcases hbb with hbb | hbb
    · subst hbb
      simp (disch := omega) only [y_c0, y_c1, y_c10, y_c100, y_c1000, y_c10000, y_c100000, y_c106, y_c112, y_c116, y_c127, y_c128, y_c13, y_c14, y_c155, y_c2, y_c20, y_c200, y_c204, y_c21, y_c253, y_c255, y_c3, y_c30, y_c302, y_c303, y_c304, y_c305, y_c306, y_c307, y_c308, y_c309, y_c310, y_c311, y_c312, y_c313, y_c314, y_c315, y_c316, y_c32, y_c33, y_c353, y_c39, y_c4, y_c40, y_c44, y_c4589, y_c48, y_c49, y_c5, y_c512, y_c54, y_c57, y_c59, y_c6, y_c62, y_c64, y_c7, y_c8, y_c9, y_c99, y_c9999, y_d0, y_d1, y_d10, y_d100, y_d1000000, y_d1442695040888963407, y_d2, y_d20, y_d255, y_d3, y_d4, y_d40, y_d4294967295, y_d48, y_d5, y_d50, y_d54, y_d57, y_d6364136223846793005, y_d7, y_d9, y_d9999, y_dR, y_dS, y_dk, y_nar0, y_nar1, y_Ilt, y_Ile, y_Ieq, y_Iadd, y_Imul, y_Idiv, y_Llt, y_Lle, y_Leq, y_Ladd, y_Lmul, y_Ldiv, y_I2l, y_L2i, y_shn, y_or, y_and, y_bn1, y_bn0, y_inb, y_cl, y_gle, y_gge, y_ggt, y_glt, y_geq, if_pos, if_neg, if_true, if_false, Option.bind_some, h1, hs, f_X8_readEntries_J46, f_X8_readEntries_J63, hd, ht]
      exact e
    · subst hbb
      simp (disch := omega) only [y_c0, y_c1, y_c10, y_c100, y_c1000, y_c10000, y_c100000, y_c106, y_c112, y_c116, y_c127, y_c128, y_c13, y_c14, y_c155, y_c2, y_c20, y_c200, y_c204, y_c21, y_c253, y_c255, y_c3, y_c30, y_c302, y_c303, y_c304, y_c305, y_c306, y_c307, y_c308, y_c309, y_c310, y_c311, y_c312, y_c313, y_c314, y_c315, y_c316, y_c32, y_c33, y_c353, y_c39, y_c4, y_c40, y_c44, y_c4589, y_c48, y_c49, y_c5, y_c512, y_c54, y_c57, y_c59, y_c6, y_c62, y_c64, y_c7, y_c8, y_c9, y_c99, y_c9999, y_d0, y_d1, y_d10, y_d100, y_d1000000, y_d1442695040888963407, y_d2, y_d20, y_d255, y_d3, y_d4, y_d40, y_d4294967295, y_d48, y_d5, y_d50, y_d54, y_d57, y_d6364136223846793005, y_d7, y_d9, y_d9999, y_dR, y_dS, y_dk, y_nar0, y_nar1, y_Ilt, y_Ile, y_Ieq, y_Iadd, y_Imul, y_Idiv, y_Llt, y_Lle, y_Leq, y_Ladd, y_Lmul, y_Ldiv, y_I2l, y_L2i, y_shn, y_or, y_and, y_bn1, y_bn0, y_inb, y_cl, y_gle, y_gge, y_ggt, y_glt, y_geq, if_pos, if_neg, if_true, if_false, Option.bind_some, h1, hs, f_X8_readEntries_J46, f_X8_readEntries_J63, hd, ht]
      exact e
  · rcases hbb with hbb | hbb
    · subst hbb
      simp (disch := omega) only [y_c0, y_c1, y_c10, y_c100, y_c1000, y_c10000, y_c100000, y_c106, y_c112, y_c116, y_c127, y_c128, y_c13, y_c14, y_c155, y_c2, y_c20, y_c200, y_c204, y_c21, y_c253, y_c255, y_c3, y_c30, y_c302, y_c303, y_c304, y_c305, y_c306, y_c307, y_c308, y_c309, y_c310, y_c311, y_c312, y_c313, y_c314, y_c315, y_c316, y_c32, y_c33, y_c353, y_c39, y_c4, y_c40, y_c44, y_c4589, y_c48, y_c49, y_c5, y_c512, y_c54, y_c57, y_c59, y_c6, y_c62, y_c64, y_c7, y_c8, y_c9, y_c99, y_c9999, y_d0, y_d1, y_d10, y_d100, y_d1000000, y_d1442695040888963407, y_d2, y_d20, y_d255, y_d3, y_d4, y_d40, y_d4294967295, y_d48, y_d5, y_d50, y_d54, y_d57, y_d6364136223846793005, y_d7, y_d9, y_d9999, y_dR, y_dS, y_dk, y_nar0, y_nar1, y_Ilt, y_Ile, y_Ieq, y_Iadd, y_Imul, y_Idiv, y_Llt, y_Lle, y_Leq, y_Ladd, y_Lmul, y_Ldiv, y_I2l, y_L2i, y_shn, y_or, y_and, y_bn1, y_bn0, y_inb, y_cl, y_gle, y_gge, y_ggt, y_glt, y_geq, if_pos, if_neg, if_true, if_false, Option.bind_some, h1, f_X8_readEntries_J46, f_X8_readEntries_J63, hd, ht]
      exact e
    · subst hbb
      simp (disch := omega) only [y_c0, y_c1, y_c10, y_c100, y_c1000, y_c10000, y_c100000, y_c106, y_c112, y_c116, y_c127, y_c128, y_c13, y_c14, y_c155, y_c2, y_c20, y_c200, y_c204, y_c21, y_c253, y_c255, y_c3, y_c30, y_c302, y_c303, y_c304, y_c305, y_c306, y_c307, y_c308, y_c309, y_c310, y_c311, y_c312, y_c313, y_c314, y_c315, y_c316, y_c32, y_c33, y_c353, y_c39, y_c4, y_c40, y_c44, y_c4589, y_c48, y_c49, y_c5, y_c512, y_c54, y_c57, y_c59, y_c6, y_c62, y_c64, y_c7, y_c8, y_c9, y_c99, y_c9999, y_d0, y_d1, y_d10, y_d100, y_d1000000, y_d1442695040888963407, y_d2, y_d20, y_d255, y_d3, y_d4, y_d40, y_d4294967295, y_d48, y_d5, y_d50, y_d54, y_d57, y_d6364136223846793005, y_d7, y_d9, y_d9999, y_dR, y_dS, y_dk, y_nar0, y_nar1, y_Ilt, y_Ile, y_Ieq, y_Iadd, y_Imul, y_Idiv, y_Llt, y_Lle, y_Leq, y_Ladd, y_Lmul, y_Ldiv, y_I2l, y_L2i, y_shn, y_or, y_and, y_bn1, y_bn0, y_inb, y_cl, y_gle, y_gge, y_ggt, y_glt, y_geq, if_pos, if_neg, if_true, if_false, Option.bind_some, h1, f_X8_readEntries_J46, f_X8_readEntries_J63, hd, ht]
      exact e
theorem RLd.done {T : TT} {L : Nat} {c : Nat → Nat} (h1 : T_length T = nI L) (h2 : L ≤ 100) (h3 : ∀ k, k < L → T_signs T k = nI (c k)) {E : TE} {w : TW} {lo : Nat} : RLd T L (L + 1) E w lo lo w := by
  intro n hn
  obtain ⟨n, rfl⟩ : ∃ m, n = m + 1 := ⟨n - 1, by omega⟩
  refine ⟨E, ?_⟩
  rw [f_X8_readEntries_L11]
  simp (disch := omega) only [y_c0, y_c1, y_c10, y_c100, y_c1000, y_c10000, y_c100000, y_c106, y_c112, y_c116, y_c127, y_c128, y_c13, y_c14, y_c155, y_c2, y_c20, y_c200, y_c204, y_c21, y_c253, y_c255, y_c3, y_c30, y_c302, y_c303, y_c304, y_c305, y_c306, y_c307, y_c308, y_c309, y_c310, y_c311, y_c312, y_c313, y_c314, y_c315, y_c316, y_c32, y_c33, y_c353, y_c39, y_c4, y_c40, y_c44, y_c4589, y_c48, y_c49, y_c5, y_c512, y_c54, y_c57, y_c59, y_c6, y_c62, y_c64, y_c7, y_c8, y_c9, y_c99, y_c9999, y_d0, y_d1, y_d10, y_d100, y_d1000000, y_d1442695040888963407, y_d2, y_d20, y_d255, y_d3, y_d4, y_d40, y_d4294967295, y_d48, y_d5, y_d50, y_d54, y_d57, y_d6364136223846793005, y_d7, y_d9, y_d9999, y_dR, y_dS, y_dk, y_nar0, y_nar1, y_Ilt, y_Ile, y_Ieq, y_Iadd, y_Imul, y_Idiv, y_Llt, y_Lle, y_Leq, y_Ladd, y_Lmul, y_Ldiv, y_I2l, y_L2i, y_shn, y_or, y_and, y_bn1, y_bn0, y_inb, y_cl, y_gle, y_gge, y_ggt, y_glt, y_geq, if_pos, if_neg, if_true, if_false, Option.bind_some, h1]
def xK16 : TM → (Nat → Int64) → Option (Int32 × (TM × (Nat → Int64))) := fun (y7g_this : TM) (y7g_p1 : Nat → Int64) => (if (M_size y7g_this) ≤ (M_spot y7g_this) then (some ((-1 : Int32), (y7g_this, y7g_p1))) else (some ((M_spot y7g_this), (y7g_this, y7g_p1))))
theorem CMP.cm {E : TE} (h : CMP E) : f_X0_isComplete E = some (nI 1, ()) := by
  obtain ⟨p, v, a1, a2, a3, a4, a5⟩ := h
  exact cm_pl a1 a2 a3 a4 a5
theorem CMP.tk {E : TE} (h : CMP E) {d : Nat} (hd : d < 48 ∨ 57 < d) (hd2 : d ≤ 255) : f_X0_takes E (nI d) = if d = 59 then some (nI 1, E_mk (nI 0) (E_first E) (E_second E) (E_guess E) (nI 0)) else some (nI 0, E) := by
  obtain ⟨p, v, a1, a2, a3, a4, a5⟩ := h
  rw [t_end a1 a2 a3 a5 hd hd2]
  by_cases q : d = 59
  · rw [if_pos ⟨q, a4⟩, if_pos q]
  · rw [if_neg (fun z => q z.1), if_neg q]
theorem x_16 {N0 L : Nat} {T : TT} {c : Nat → Nat} {mt : Nat → Int32} {σ : Nat → Int64} (h1 : T_length T = nI L) (h2 : L ≤ 100) (h3 : ∀ k, k < L → T_signs T k = nI (c k)) (h4 : ∀ k, k < L → c k ≤ 255) : ∀ rr i o n (M : TM) (r : Nat → Int64) (w : TW) (ρ : Nat → Nat) (E : TE), L - i ≤ rr → rr < n → RTX M mt L c i → M_out M = nI o → E_place E = nI 0 → ST N0 w r ρ σ →
    ∃ v j o' r', f_X9_wrongWorld_L16 353 mt xK16 n (nI 1) M r = some (v, (Msq M j o', r')) ∧ CL T L i E v ∧ (v = -1 → ∃ w' ρ', ST N0 w' r' ρ' σ ∧ ∀ lo, ∃ res, res + o = lo + o' ∧ RLd T L i E w lo res w') := by
  intro rr
  induction rr with
  | zero =>
    intro i o n M r w ρ E hi hn hM ho hE h
    obtain ⟨n, rfl⟩ : ∃ m, n = m + 1 := ⟨n - 1, by omega⟩
    obtain ⟨ok, j, o', r', E', e, e1, e2, e3, e4⟩ := x_entry (N := N0) hM ho hE h
    rcases e4 with ⟨e5, e6⟩ | ⟨e5, e6, e7, e8, -⟩
    · subst e5
      refine ⟨nI j, j, o', r', ?_, ?_, ?_⟩
      · rw [f_X9_wrongWorld_L16, if_neg y_z1, e, Option.bind_some, if_pos y_z0]; rfl
      · exact CL.run h1 h2 h3 (j - i) i E E' _ e3 (by omega) (by rw [show i + (j - i) = j by omega]; exact CL.stk h1 h2 h3 e6)
      · exact fun z => absurd z (e4_no' j (by omega))
    · have := hM.2.2.2.1; omega
  | succ rr ih =>
    intro i o n M r w ρ E hi hn hM ho hE h
    obtain ⟨n, rfl⟩ : ∃ m, n = m + 1 := ⟨n - 1, by omega⟩
    obtain ⟨ok, j, o', r', E', e, e1, e2, e3, e4⟩ := x_entry (N := N0) hM ho hE h
    rcases e4 with ⟨e5, e6⟩ | ⟨e5, e6, e7, e8, w', ρ', b, e9, e10, e11, e12⟩
    · subst e5
      refine ⟨nI j, j, o', r', ?_, ?_, ?_⟩
      · rw [f_X9_wrongWorld_L16, if_neg y_z1, e, Option.bind_some, if_pos y_z0]; rfl
      · exact CL.run h1 h2 h3 (j - i) i E E' _ e3 (by omega) (by rw [show i + (j - i) = j by omega]; exact CL.stk h1 h2 h3 e6)
      · exact fun z => absurd z (e4_no' j (by omega))
    · subst e5
      have hMj : RTX (Msq M j o') mt L c j := ⟨hM.1, rfl, hM.2.2.1, e2, hM.2.2.2.2⟩
      have tk := x_tk (lo := 59) (hi := 59) hMj (by omega) (by omega)
      have f0 : f_X9_wrongWorld_L16 353 mt xK16 (n + 1) (nI 1) M r = ((f_X9_taken (Msq M j o') mt (59 : Int32) (59 : Int32)).bind fun o5 => (if o5.1 = (-1 : Int32) then (f_X9_wrongWorld_L16 353 mt xK16 n (0 : Int32) o5.2 r') else (f_X9_wrongWorld_L16 353 mt xK16 n (1 : Int32) o5.2 r'))) := by
        rw [f_X9_wrongWorld_L16, if_neg y_z1, e, Option.bind_some, if_neg y_z1]
      rw [show (59 : Int32) = nI 59 from rfl, tk] at f0
      by_cases q : j < L ∧ c j = 59
      · rw [if_pos (by omega)] at f0
        simp only [Option.bind_some] at f0
        rw [if_neg (e4_no' (c j - 59) (by omega))] at f0
        have ht := e6.tk (d := 59) (by omega) (by omega)
        rw [if_pos rfl] at ht
        obtain ⟨v, j2, o2, r2, g, g1, g2⟩ := ih (j + 1) o' n (Msp (Msq M j o') (j + 1)) r' w' ρ' (E_mk (nI 0) (E_first E') (E_second E') (E_guess E') (nI 0)) (by omega) (by omega) (hMj.sp (by omega)) rfl rfl e11
        refine ⟨v, j2, o2, r2, f0.trans g, ?_, ?_⟩
        · exact CL.run h1 h2 h3 (j - i) i E E' _ e3 (by omega) (by
            rw [show i + (j - i) = j by omega]
            exact CL.step h1 h2 h3 q.1 (by rw [q.2]; exact ht) g1)
        · intro hv
          obtain ⟨w2, ρ2, k1, k2⟩ := g2 hv
          refine ⟨w2, ρ2, k1, fun lo => ?_⟩
          obtain ⟨res, k3, k4⟩ := k2 (lo + (1 - b))
          refine ⟨res, by omega, RLd.run h1 h2 h3 (j - i) i E E' w w2 lo res e3 (by omega) h4 (by
            rw [show i + (j - i) = j by omega]
            exact RLd.semi h1 h2 h3 (by omega) (fun _ => q.2) e9 e10 ht k4)⟩
      · rw [if_neg (by omega), Option.bind_some] at f0
        replace f0 := f0.trans (if_pos rfl)
        obtain ⟨n, rfl⟩ : ∃ m, n = m + 1 := ⟨n - 1, by omega⟩
        replace f0 := f0.trans (show f_X9_wrongWorld_L16 353 mt xK16 (n + 1) (0 : Int32) (Msq M j o') r' = xK16 (Msq M j o') r' from by rw [f_X9_wrongWorld_L16]; exact if_pos rfl)
        unfold xK16 at f0
        by_cases q2 : j < L
        · have ht := e6.tk (e7 q2) (h4 j q2)
          rw [if_neg (fun z => q ⟨q2, z⟩)] at ht
          refine ⟨nI j, j, o', r', f0.trans ?_, ?_, fun z => absurd z (e4_no' j (by omega))⟩
          · rw [show M_size (Msq M j o') = nI L from hM.1, show M_spot (Msq M j o') = nI j from rfl, if_neg (fun z => by have := (y_Ile (by omega) (by omega)).mp z; omega)]
          · exact CL.run h1 h2 h3 (j - i) i E E' _ e3 (by omega) (by rw [show i + (j - i) = j by omega]; exact CL.stk h1 h2 h3 (Or.inl ⟨q2, _, ht⟩))
        · have hj : j = L := by omega
          refine ⟨-1, j, o', r', f0.trans ?_, ?_, fun _ => ⟨w', ρ', e11, fun lo => ?_⟩⟩
          · rw [show M_size (Msq M j o') = nI L from hM.1, show M_spot (Msq M j o') = nI j from rfl, if_pos ((y_Ile (by omega) (by omega)).mpr (by omega))]
          · exact CL.run h1 h2 h3 (j - i) i E E' _ e3 (by omega) (by rw [show i + (j - i) = j by omega, hj]; exact CL.done h1 h2 h3 e6.cm)
          · have ht := e6.tk (d := 59) (by omega) (by omega)
            rw [if_pos rfl] at ht
            refine ⟨lo + (1 - b), by omega, RLd.run h1 h2 h3 (j - i) i E E' w w' lo _ e3 (by omega) h4 (by
              rw [show i + (j - i) = j by omega]
              refine RLd.semi h1 h2 h3 (by omega) (fun z => absurd z q2) e9 e10 ht ?_
              rw [hj]
              exact RLd.done h1 h2 h3)⟩
theorem x_world {L : Nat} {T : TT} {M : TM} {mt : Nat → Int32} {c : Nat → Nat} (h : TXR T M mt L c) (E : TE) (tr : Nat → Int64) (w0 : TW) (hw0 : WRf w0 y0 (fun _ => 0)) (N : Nat) :
    ∃ v E' j o r', f_X6_firstErrorFor_X0 T E = some (v, E') ∧ f_X9_wrongWorld 353 M mt tr = some (v, (Msq M j o, r')) ∧ (v = -1 → ∃ w' E2' ρ', f_X8_readEntries T E' w0 = some (nI o, (E2', w')) ∧ ST N w' r' ρ' (fun _ => 0)) := by
  obtain ⟨h1, h2, h3, h4⟩ := h
  obtain ⟨F, hF, hF1⟩ := y_fuel
  obtain ⟨r1, b1, b2⟩ := x_begin tr
  have hM : RTX (Msq M 0 0) mt L c 0 := ⟨h2, rfl, h3, by omega, fun k hk => ⟨(h4 k hk).2.1, (h4 k hk).2.2⟩⟩
  have hs : ST N w0 r1 y0 (fun _ => 0) := ⟨hw0, b2, INf0 N⟩
  obtain ⟨v, j, o, r', e, e1, -⟩ := x_16 (N0 := N) (σ := fun _ => 0) (mt := mt) h1 h3 (fun k hk => (h4 k hk).1) (fun k hk => (h4 k hk).2.2) L 0 0 F (Msq M 0 0) r1 w0 y0 (E_mk (nI 0) (E_first E) (E_second E) (E_guess E) (nI 0)) (by omega) (by omega) hM rfl rfl hs
  obtain ⟨E', e2⟩ := e1 F (by omega)
  obtain ⟨v2, j2, o2, r2', f, -, f1⟩ := x_16 (N0 := N) (σ := fun _ => 0) (mt := mt) h1 h3 (fun k hk => (h4 k hk).1) (fun k hk => (h4 k hk).2.2) L 0 0 F (Msq M 0 0) r1 w0 y0 (E_mk (nI 0) (E_first E') (E_second E') (E_guess E') (nI 0)) (by omega) (by omega) hM rfl rfl hs
  have hv : v = v2 := by
    rw [e] at f
    exact congrArg (fun z => z.1) (Option.some.inj f)
  have hw : f_X9_wrongWorld 353 M mt tr = some (v2, (Msq M j2 o2, r2')) := by
    unfold f_X9_wrongWorld
    rw [b1, Option.bind_some, hF]
    exact f
  refine ⟨v, E', j2, o2, r2', ?_, by rw [hv]; exact hw, fun z => ?_⟩
  · unfold f_X6_firstErrorFor_X0
    rw [hF]
    exact e2
  · obtain ⟨w', ρ', g1, g2⟩ := f1 (hv.symm.trans z)
    obtain ⟨res, g3, g4⟩ := g2 0
    obtain ⟨E3, g5⟩ := g4 F (by omega)
    refine ⟨w', E3, ρ', ?_, g1⟩
    unfold f_X8_readEntries
    rw [hF, show o2 = res by omega]
    exact g5
