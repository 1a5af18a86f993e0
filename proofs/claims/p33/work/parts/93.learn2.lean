def yIn (S a : Nat) : Nat → Nat → (Nat → Nat) → (Nat → Nat)
  | 0, _, ρ => ρ
  | r + 1, b, ρ => yIn S a r (b + 1) (if S.testBit a = true ∧ S.testBit b = true ∧ 0 < ρ (8 + (7 * a + b)) then yFn ρ a b else ρ)
def yOt (S : Nat) : Nat → Nat → (Nat → Nat) → (Nat → Nat)
  | 0, _, ρ => ρ
  | r + 1, a, ρ => yOt S r (a + 1) (yIn S a (6 - a) (a + 1) ρ)
def yLn (S : Nat) (ρ : Nat → Nat) : Nat → Nat := yOt S 7 0 ρ
theorem yFn_o {ρ : Nat → Nat} {a b j : Nat} (hb : 7 * a + b < 49) (h : j < 155 ∨ (302 ≤ j ∧ j < 307) ∨ (307 < j ∧ j < 312)) : yFn ρ a b j = ρ j := by
  unfold yFn
  split
  · exact pu_n (by omega)
  · exact yFs_o (by omega) (by omega) (by omega) (by omega)
theorem yFn_7 {ρ : Nat → Nat} {a b : Nat} (hb : 7 * a + b < 49) : yFn ρ a b 307 = if yDf ρ (7 * a + b) < ρ 302 then ρ 307 else ρ 307 + 1 := by
  unfold yFn
  split
  · exact pu_n (by omega)
  · exact yFs_7 hb
theorem yIn_o {S a j : Nat} (ha : a < 7) (h : j < 155 ∨ (302 ≤ j ∧ j < 307) ∨ (307 < j ∧ j < 312)) : ∀ rr b ρ, b + rr = 7 → yIn S a rr b ρ j = ρ j := by
  intro rr
  induction rr with
  | zero => intro b ρ _; rfl
  | succ rr ih =>
    intro b ρ hb
    rw [yIn, ih _ _ (by omega)]
    split
    · exact yFn_o (by omega) h
    · rfl
theorem yIn_7 {S a : Nat} (ha : a < 7) : ∀ rr b ρ, b + rr = 7 → ρ 307 ≤ yIn S a rr b ρ 307 := by
  intro rr
  induction rr with
  | zero => intro b ρ _; exact Nat.le_refl _
  | succ rr ih =>
    intro b ρ hb
    rw [yIn]
    refine Nat.le_trans ?_ (ih _ _ (by omega))
    split
    · rw [yFn_7 (by omega)]; split <;> omega
    · exact Nat.le_refl _
theorem yIn_i {S a : Nat} : ∀ rr b ρ N, b + rr = 7 → a < b → INf N ρ → INf (N + rr) (yIn S a rr b ρ) := by
  intro rr
  induction rr with
  | zero => intro b ρ N _ _ h; exact h
  | succ rr ih =>
    intro b ρ N hb hab h
    rw [yIn, show N + (rr + 1) = (N + 1) + rr by omega]
    refine ih _ _ _ (by omega) (by omega) ?_
    split
    · rename_i z; exact h.fn hab (by omega) z.2.2
    · exact h.mono (by omega)
theorem yOt_o {S j : Nat} (h : j < 155 ∨ (302 ≤ j ∧ j < 307) ∨ (307 < j ∧ j < 312)) : ∀ rr a ρ, a + rr = 7 → yOt S rr a ρ j = ρ j := by
  intro rr
  induction rr with
  | zero => intro b ρ _; rfl
  | succ rr ih =>
    intro a ρ ha
    rw [yOt, ih _ _ (by omega), yIn_o (by omega) h _ _ _ (by omega)]
theorem yOt_7 {S : Nat} : ∀ rr a ρ, a + rr = 7 → ρ 307 ≤ yOt S rr a ρ 307 := by
  intro rr
  induction rr with
  | zero => intro b ρ _; exact Nat.le_refl _
  | succ rr ih =>
    intro a ρ ha
    rw [yOt]
    exact Nat.le_trans (yIn_7 (by omega) _ _ _ (by omega)) (ih _ _ (by omega))
theorem yOt_i {S : Nat} : ∀ rr a ρ N, a + rr = 7 → INf N ρ → INf (N + 7 * rr) (yOt S rr a ρ) := by
  intro rr
  induction rr with
  | zero => intro b ρ N _ h; exact h
  | succ rr ih =>
    intro a ρ N ha h
    rw [yOt, show N + 7 * (rr + 1) = (N + 7) + 7 * rr by omega]
    exact ih _ _ _ (by omega) ((yIn_i _ _ _ _ (by omega) (by omega) h).mono (by omega))
theorem yLn_i {S N : Nat} {ρ : Nat → Nat} (h : INf N ρ) : INf (N + 49) (yLn S ρ) := yOt_i 7 0 ρ N rfl h
theorem yLn_7 (S : Nat) (ρ : Nat → Nat) : ρ 307 ≤ yLn S ρ 307 := yOt_7 7 0 ρ rfl
theorem yLn_o {S j : Nat} (ρ : Nat → Nat) (h : j < 155 ∨ (302 ≤ j ∧ j < 307) ∨ (307 < j ∧ j < 312)) : yLn S ρ j = ρ j := yOt_o h 7 0 ρ rfl
theorem c_holds {S t : Nat} (hS : S < 2147483648) (ht : t < 32) : f_X8_holds (nI S) (nI t) = some (if S.testBit t = true then nI 1 else nI 0, ()) := by
  by_cases q : S.testBit t = true
  · simp (disch := omega) only [y_c0, y_c1, y_c10, y_c100, y_c1000, y_c10000, y_c100000, y_c106, y_c112, y_c116, y_c127, y_c128, y_c13, y_c14, y_c155, y_c2, y_c20, y_c200, y_c204, y_c21, y_c253, y_c255, y_c3, y_c30, y_c302, y_c303, y_c304, y_c305, y_c306, y_c307, y_c308, y_c309, y_c310, y_c311, y_c312, y_c313, y_c314, y_c315, y_c316, y_c32, y_c33, y_c353, y_c39, y_c4, y_c40, y_c44, y_c4589, y_c48, y_c49, y_c5, y_c512, y_c54, y_c57, y_c59, y_c6, y_c62, y_c64, y_c7, y_c8, y_c9, y_c99, y_c9999, y_d0, y_d1, y_d10, y_d100, y_d1000000, y_d1442695040888963407, y_d2, y_d20, y_d255, y_d3, y_d4, y_d40, y_d4294967295, y_d48, y_d5, y_d50, y_d54, y_d57, y_d6364136223846793005, y_d7, y_d9, y_d9999, y_dR, y_dS, y_dk, y_nar0, y_nar1, y_Ilt, y_Ile, y_Ieq, y_Iadd, y_Imul, y_Idiv, y_Llt, y_Lle, y_Leq, y_Ladd, y_Lmul, y_Ldiv, y_I2l, y_L2i, y_shn, y_or, y_and, y_bn1, y_bn0, y_inb, y_cl, y_gle, y_gge, y_ggt, y_glt, y_geq, if_pos, if_neg, if_true, if_false, Option.bind_some, f_X8_holds, q]
  · have : S.testBit t = false := by simpa using q
    simp (disch := omega) only [y_c0, y_c1, y_c10, y_c100, y_c1000, y_c10000, y_c100000, y_c106, y_c112, y_c116, y_c127, y_c128, y_c13, y_c14, y_c155, y_c2, y_c20, y_c200, y_c204, y_c21, y_c253, y_c255, y_c3, y_c30, y_c302, y_c303, y_c304, y_c305, y_c306, y_c307, y_c308, y_c309, y_c310, y_c311, y_c312, y_c313, y_c314, y_c315, y_c316, y_c32, y_c33, y_c353, y_c39, y_c4, y_c40, y_c44, y_c4589, y_c48, y_c49, y_c5, y_c512, y_c54, y_c57, y_c59, y_c6, y_c62, y_c64, y_c7, y_c8, y_c9, y_c99, y_c9999, y_d0, y_d1, y_d10, y_d100, y_d1000000, y_d1442695040888963407, y_d2, y_d20, y_d255, y_d3, y_d4, y_d40, y_d4294967295, y_d48, y_d5, y_d50, y_d54, y_d57, y_d6364136223846793005, y_d7, y_d9, y_d9999, y_dR, y_dS, y_dk, y_nar0, y_nar1, y_Ilt, y_Ile, y_Ieq, y_Iadd, y_Imul, y_Idiv, y_Llt, y_Lle, y_Leq, y_Ladd, y_Lmul, y_Ldiv, y_I2l, y_L2i, y_shn, y_or, y_and, y_bn1, y_bn0, y_inb, y_cl, y_gle, y_gge, y_ggt, y_glt, y_geq, if_pos, if_neg, if_true, if_false, Option.bind_some, f_X8_holds, this]
    rfl
theorem c_l18 {S a : Nat} {bb : Prop} {σ : Nat → Int64} {x2 : Int32} {K : TW → Option (Int32 × TW)} (hS : S < 2147483648) (ha : a < 7) : ∀ rr b n w ρ N, b + rr = 7 → rr < n → a < b → WRb bb w ρ σ → INf N ρ → N + rr < 1000000 → ∃ w', f_X7_learn_L18 (nI S) x2 (nI a) K n (nI b) w = K w' ∧ WRb bb w' (yIn S a rr b ρ) σ := by
  intro rr
  induction rr with
  | zero =>
    intro b n w ρ N hb hn _ h hi _
    obtain ⟨n, rfl⟩ : ∃ m, n = m + 1 := ⟨n - 1, by omega⟩
    refine ⟨w, ?_, h⟩
    rw [f_X7_learn_L18, show b = 7 by omega]
    exact if_pos (by decide)
  | succ rr ih =>
    intro b n w ρ N hb hn hab h hi hN
    obtain ⟨n, rfl⟩ : ∃ m, n = m + 1 := ⟨n - 1, by omega⟩
    obtain ⟨k1, k2⟩ := yq_ab b (by omega) a hab
    rw [yIn]
    have hA := c_holds (t := a) hS (by omega)
    have hB := c_holds (t := b) hS (by omega)
    by_cases q1 : S.testBit a = true
    · rw [if_pos q1] at hA
      by_cases q2 : S.testBit b = true
      · rw [if_pos q2] at hB
        by_cases q3 : 0 < ρ (8 + (7 * a + b))
        · rw [if_pos ⟨q1, q2, q3⟩]
          obtain ⟨w1, e, e1⟩ := c_find h hi (by omega) hab (by omega) q3
          obtain ⟨w', f, f1⟩ := ih (b + 1) n w1 (yFn ρ a b) (N + 1) (by omega) (by omega) (by omega) e1 (hi.fn hab (by omega) q3) (by omega)
          refine ⟨w', ?_, f1⟩
          rw [f_X7_learn_L18]
          simp (disch := omega) only [y_c0, y_c1, y_c10, y_c100, y_c1000, y_c10000, y_c100000, y_c106, y_c112, y_c116, y_c127, y_c128, y_c13, y_c14, y_c155, y_c2, y_c20, y_c200, y_c204, y_c21, y_c253, y_c255, y_c3, y_c30, y_c302, y_c303, y_c304, y_c305, y_c306, y_c307, y_c308, y_c309, y_c310, y_c311, y_c312, y_c313, y_c314, y_c315, y_c316, y_c32, y_c33, y_c353, y_c39, y_c4, y_c40, y_c44, y_c4589, y_c48, y_c49, y_c5, y_c512, y_c54, y_c57, y_c59, y_c6, y_c62, y_c64, y_c7, y_c8, y_c9, y_c99, y_c9999, y_d0, y_d1, y_d10, y_d100, y_d1000000, y_d1442695040888963407, y_d2, y_d20, y_d255, y_d3, y_d4, y_d40, y_d4294967295, y_d48, y_d5, y_d50, y_d54, y_d57, y_d6364136223846793005, y_d7, y_d9, y_d9999, y_dR, y_dS, y_dk, y_nar0, y_nar1, y_Ilt, y_Ile, y_Ieq, y_Iadd, y_Imul, y_Idiv, y_Llt, y_Lle, y_Leq, y_Ladd, y_Lmul, y_Ldiv, y_I2l, y_L2i, y_shn, y_or, y_and, y_bn1, y_bn0, y_inb, y_cl, y_gle, y_gge, y_ggt, y_glt, y_geq, if_pos, if_neg, if_true, if_false, Option.bind_some, hA, hB, e]
          exact f
        · rw [if_neg (fun z => q3 z.2.2)]
          obtain ⟨w', f, f1⟩ := ih (b + 1) n w ρ N (by omega) (by omega) (by omega) h hi (by omega)
          refine ⟨w', ?_, f1⟩
          have ep := c_pair a (by omega) b (by omega) (by omega)
          rw [show yci a b = b * (b - 1) / 2 + a from if_pos hab] at ep
          have el := c_isLinked h.1 hi.1 k1
          rw [k2, if_neg q3] at el
          have e : f_X7_learnPair w (nI a) (nI b) = some ((), w) := by
            unfold f_X7_learnPair
            simp (disch := omega) only [y_c0, y_c1, y_c10, y_c100, y_c1000, y_c10000, y_c100000, y_c106, y_c112, y_c116, y_c127, y_c128, y_c13, y_c14, y_c155, y_c2, y_c20, y_c200, y_c204, y_c21, y_c253, y_c255, y_c3, y_c30, y_c302, y_c303, y_c304, y_c305, y_c306, y_c307, y_c308, y_c309, y_c310, y_c311, y_c312, y_c313, y_c314, y_c315, y_c316, y_c32, y_c33, y_c353, y_c39, y_c4, y_c40, y_c44, y_c4589, y_c48, y_c49, y_c5, y_c512, y_c54, y_c57, y_c59, y_c6, y_c62, y_c64, y_c7, y_c8, y_c9, y_c99, y_c9999, y_d0, y_d1, y_d10, y_d100, y_d1000000, y_d1442695040888963407, y_d2, y_d20, y_d255, y_d3, y_d4, y_d40, y_d4294967295, y_d48, y_d5, y_d50, y_d54, y_d57, y_d6364136223846793005, y_d7, y_d9, y_d9999, y_dR, y_dS, y_dk, y_nar0, y_nar1, y_Ilt, y_Ile, y_Ieq, y_Iadd, y_Imul, y_Idiv, y_Llt, y_Lle, y_Leq, y_Ladd, y_Lmul, y_Ldiv, y_I2l, y_L2i, y_shn, y_or, y_and, y_bn1, y_bn0, y_inb, y_cl, y_gle, y_gge, y_ggt, y_glt, y_geq, if_pos, if_neg, if_true, if_false, Option.bind_some, ep, el]
          rw [f_X7_learn_L18]
          simp (disch := omega) only [y_c0, y_c1, y_c10, y_c100, y_c1000, y_c10000, y_c100000, y_c106, y_c112, y_c116, y_c127, y_c128, y_c13, y_c14, y_c155, y_c2, y_c20, y_c200, y_c204, y_c21, y_c253, y_c255, y_c3, y_c30, y_c302, y_c303, y_c304, y_c305, y_c306, y_c307, y_c308, y_c309, y_c310, y_c311, y_c312, y_c313, y_c314, y_c315, y_c316, y_c32, y_c33, y_c353, y_c39, y_c4, y_c40, y_c44, y_c4589, y_c48, y_c49, y_c5, y_c512, y_c54, y_c57, y_c59, y_c6, y_c62, y_c64, y_c7, y_c8, y_c9, y_c99, y_c9999, y_d0, y_d1, y_d10, y_d100, y_d1000000, y_d1442695040888963407, y_d2, y_d20, y_d255, y_d3, y_d4, y_d40, y_d4294967295, y_d48, y_d5, y_d50, y_d54, y_d57, y_d6364136223846793005, y_d7, y_d9, y_d9999, y_dR, y_dS, y_dk, y_nar0, y_nar1, y_Ilt, y_Ile, y_Ieq, y_Iadd, y_Imul, y_Idiv, y_Llt, y_Lle, y_Leq, y_Ladd, y_Lmul, y_Ldiv, y_I2l, y_L2i, y_shn, y_or, y_and, y_bn1, y_bn0, y_inb, y_cl, y_gle, y_gge, y_ggt, y_glt, y_geq, if_pos, if_neg, if_true, if_false, Option.bind_some, hA, hB, e]
          exact f
      · rw [if_neg (fun z => q2 z.2.1)]
        rw [if_neg q2] at hB
        obtain ⟨w', f, f1⟩ := ih (b + 1) n w ρ N (by omega) (by omega) (by omega) h hi (by omega)
        refine ⟨w', ?_, f1⟩
        rw [f_X7_learn_L18]
        simp (disch := omega) only [y_c0, y_c1, y_c10, y_c100, y_c1000, y_c10000, y_c100000, y_c106, y_c112, y_c116, y_c127, y_c128, y_c13, y_c14, y_c155, y_c2, y_c20, y_c200, y_c204, y_c21, y_c253, y_c255, y_c3, y_c30, y_c302, y_c303, y_c304, y_c305, y_c306, y_c307, y_c308, y_c309, y_c310, y_c311, y_c312, y_c313, y_c314, y_c315, y_c316, y_c32, y_c33, y_c353, y_c39, y_c4, y_c40, y_c44, y_c4589, y_c48, y_c49, y_c5, y_c512, y_c54, y_c57, y_c59, y_c6, y_c62, y_c64, y_c7, y_c8, y_c9, y_c99, y_c9999, y_d0, y_d1, y_d10, y_d100, y_d1000000, y_d1442695040888963407, y_d2, y_d20, y_d255, y_d3, y_d4, y_d40, y_d4294967295, y_d48, y_d5, y_d50, y_d54, y_d57, y_d6364136223846793005, y_d7, y_d9, y_d9999, y_dR, y_dS, y_dk, y_nar0, y_nar1, y_Ilt, y_Ile, y_Ieq, y_Iadd, y_Imul, y_Idiv, y_Llt, y_Lle, y_Leq, y_Ladd, y_Lmul, y_Ldiv, y_I2l, y_L2i, y_shn, y_or, y_and, y_bn1, y_bn0, y_inb, y_cl, y_gle, y_gge, y_ggt, y_glt, y_geq, if_pos, if_neg, if_true, if_false, Option.bind_some, hA, hB]
        exact f
    · rw [if_neg (fun z => q1 z.1)]
      rw [if_neg q1] at hA
      obtain ⟨w', f, f1⟩ := ih (b + 1) n w ρ N (by omega) (by omega) (by omega) h hi (by omega)
      refine ⟨w', ?_, f1⟩
      rw [f_X7_learn_L18]
      simp (disch := omega) only [y_c0, y_c1, y_c10, y_c100, y_c1000, y_c10000, y_c100000, y_c106, y_c112, y_c116, y_c127, y_c128, y_c13, y_c14, y_c155, y_c2, y_c20, y_c200, y_c204, y_c21, y_c253, y_c255, y_c3, y_c30, y_c302, y_c303, y_c304, y_c305, y_c306, y_c307, y_c308, y_c309, y_c310, y_c311, y_c312, y_c313, y_c314, y_c315, y_c316, y_c32, y_c33, y_c353, y_c39, y_c4, y_c40, y_c44, y_c4589, y_c48, y_c49, y_c5, y_c512, y_c54, y_c57, y_c59, y_c6, y_c62, y_c64, y_c7, y_c8, y_c9, y_c99, y_c9999, y_d0, y_d1, y_d10, y_d100, y_d1000000, y_d1442695040888963407, y_d2, y_d20, y_d255, y_d3, y_d4, y_d40, y_d4294967295, y_d48, y_d5, y_d50, y_d54, y_d57, y_d6364136223846793005, y_d7, y_d9, y_d9999, y_dR, y_dS, y_dk, y_nar0, y_nar1, y_Ilt, y_Ile, y_Ieq, y_Iadd, y_Imul, y_Idiv, y_Llt, y_Lle, y_Leq, y_Ladd, y_Lmul, y_Ldiv, y_I2l, y_L2i, y_shn, y_or, y_and, y_bn1, y_bn0, y_inb, y_cl, y_gle, y_gge, y_ggt, y_glt, y_geq, if_pos, if_neg, if_true, if_false, Option.bind_some, hA]
      exact f
theorem c_l7 {S : Nat} {bb : Prop} {σ : Nat → Int64} {x2 : Int32} (hS : S < 2147483648) : ∀ rr a n w ρ N, a + rr = 7 → rr < n → WRb bb w ρ σ → INf N ρ → N + 7 * rr < 1000000 → ∃ w', f_X7_learn_L7 (nI S) x2 n (nI a) w = some (W_surprises w' - x2, w') ∧ WRb bb w' (yOt S rr a ρ) σ := by
  intro rr
  induction rr with
  | zero =>
    intro a n w ρ N ha hn h hi _
    obtain ⟨n, rfl⟩ : ∃ m, n = m + 1 := ⟨n - 1, by omega⟩
    refine ⟨w, ?_, h⟩
    rw [f_X7_learn_L7, show a = 7 by omega]
    exact if_pos (by decide)
  | succ rr ih =>
    intro a n w ρ N ha hn h hi hN
    obtain ⟨n, rfl⟩ : ∃ m, n = m + 1 := ⟨n - 1, by omega⟩
    obtain ⟨F, hF, hF1⟩ := y_fuel
    obtain ⟨w1, e, e1⟩ := c_l18 (x2 := x2) (K := fun (y8g_this : TW) => (f_X7_learn_L7 (nI S) x2 n (nI a + (1 : Int32)) y8g_this)) hS (show a < 7 by omega) (6 - a) (a + 1) F w ρ N (by omega) (by omega) (by omega) h hi (by omega)
    obtain ⟨w', f, f1⟩ := ih (a + 1) n w1 _ (N + 7) (by omega) (by omega) e1 ((yIn_i _ _ _ _ (by omega) (by omega) hi).mono (by omega)) (by omega)
    refine ⟨w', ?_, f1⟩
    rw [f_X7_learn_L7, if_neg (show ¬ (7 : Int32) ≤ nI a from fun z => by have := (y_Ile (a := 7) (by omega) (by omega)).mp z; omega), hF, y_c1, y_Iadd]
    rw [y_c1, y_Iadd] at e
    exact e.trans f
theorem c_learn {S N : Nat} {bb : Prop} {w : TW} {ρ : Nat → Nat} {σ : Nat → Int64} (h : WRb bb w ρ σ) (hi : INf N ρ) (hS : S < 2147483648) (hN : N < 900000) : ∃ w', f_X7_learn w (nI S) = some (nI (yLn S ρ 307 - ρ 307), w') ∧ WRb bb w' (yLn S ρ) σ := by
  obtain ⟨F, hF, hF1⟩ := y_fuel
  obtain ⟨w', e, e1⟩ := c_l7 (x2 := W_surprises w) hS 7 0 F w ρ N (by omega) (by omega) h hi (by omega)
  refine ⟨w', ?_, e1⟩
  unfold f_X7_learn
  rw [hF]
  refine e.trans ?_
  rw [show W_surprises w' = nI (yLn S ρ 307) from e1.2.2.2.1, h.2.2.2.1, y_Isub (yLn_7 S ρ)]
theorem x_77 {S a : Nat} {σ : Nat → Int64} {M : TM} {cb pb tp : Nat → Int64} {pl : Nat → Int32} {K : Int32 → (Nat → Int64) → Option (Int32 × (TM × (Nat → Int64) × (Nat → Int64) × (Nat → Int64) × (Nat → Int32) × (Nat → Int64)))} (hS : S < 2147483648) (ha : a < 7) : ∀ rr b n c r ρ N, b + rr = 7 → rr < n → a < b → RRf r ρ σ → INf N ρ → N + rr < 1000000 → ∃ r' c', f_X9_runOn_L77 353 M cb pb tp pl (nI S) (nI a) K n (nI c) (nI b) r = K (nI c') r' ∧ c' + ρ 307 = c + yIn S a rr b ρ 307 ∧ RRf r' (yIn S a rr b ρ) σ := by
  intro rr
  induction rr with
  | zero =>
    intro b n c r ρ N hb hn _ h hi _
    obtain ⟨n, rfl⟩ : ∃ m, n = m + 1 := ⟨n - 1, by omega⟩
    refine ⟨r, c, ?_, rfl, h⟩
    rw [f_X9_runOn_L77, show b = 7 by omega]
    exact if_pos (by decide)
  | succ rr ih =>
    intro b n c r ρ N hb hn hab h hi hN
    obtain ⟨n, rfl⟩ : ∃ m, n = m + 1 := ⟨n - 1, by omega⟩
    have ep := x_pair hab (show b < 7 by omega)
    have hq : 7 * a + b < 49 := by omega
    have r8 := h.1 (8 + (7 * a + b)) (by omega) (by omega)
    have h8 := (hi.q (7 * a + b) hq).2.2
    rw [yIn]
    by_cases q1 : S.testBit a = true
    · by_cases q2 : S.testBit b = true
      · by_cases q3 : 0 < ρ (8 + (7 * a + b))
        · rw [if_pos ⟨q1, q2, q3⟩]
          obtain ⟨r1, e, e1⟩ := x_find h hi (by omega) hab (by omega) q3
          have h7 := yFn_7 (ρ := ρ) hq
          by_cases q4 : yDf ρ (7 * a + b) < ρ 302
          · rw [if_pos q4] at e h7
            obtain ⟨r', c', f, f0, f1⟩ := ih (b + 1) n c r1 (yFn ρ a b) (N + 1) (by omega) (by omega) (by omega) e1 (hi.fn hab (by omega) q3) (by omega)
            refine ⟨r', c', ?_, by omega, f1⟩
            rw [f_X9_runOn_L77]
            simp (disch := omega) only [y_c0, y_c1, y_c10, y_c100, y_c1000, y_c10000, y_c100000, y_c106, y_c112, y_c116, y_c127, y_c128, y_c13, y_c14, y_c155, y_c2, y_c20, y_c200, y_c204, y_c21, y_c253, y_c255, y_c3, y_c30, y_c302, y_c303, y_c304, y_c305, y_c306, y_c307, y_c308, y_c309, y_c310, y_c311, y_c312, y_c313, y_c314, y_c315, y_c316, y_c32, y_c33, y_c353, y_c39, y_c4, y_c40, y_c44, y_c4589, y_c48, y_c49, y_c5, y_c512, y_c54, y_c57, y_c59, y_c6, y_c62, y_c64, y_c7, y_c8, y_c9, y_c99, y_c9999, y_d0, y_d1, y_d10, y_d100, y_d1000000, y_d1442695040888963407, y_d2, y_d20, y_d255, y_d3, y_d4, y_d40, y_d4294967295, y_d48, y_d5, y_d50, y_d54, y_d57, y_d6364136223846793005, y_d7, y_d9, y_d9999, y_dR, y_dS, y_dk, y_nar0, y_nar1, y_Ilt, y_Ile, y_Ieq, y_Iadd, y_Imul, y_Idiv, y_Llt, y_Lle, y_Leq, y_Ladd, y_Lmul, y_Ldiv, y_I2l, y_L2i, y_shn, y_or, y_and, y_bn1, y_bn0, y_inb, y_cl, y_gle, y_gge, y_ggt, y_glt, y_geq, if_pos, if_neg, if_true, if_false, Option.bind_some, q1, q2, ep, r8, e]
            exact f
          · rw [if_neg q4] at e h7
            obtain ⟨r', c', f, f0, f1⟩ := ih (b + 1) n (c + 1) r1 (yFn ρ a b) (N + 1) (by omega) (by omega) (by omega) e1 (hi.fn hab (by omega) q3) (by omega)
            refine ⟨r', c', ?_, by omega, f1⟩
            rw [f_X9_runOn_L77]
            simp (disch := omega) only [y_c0, y_c1, y_c10, y_c100, y_c1000, y_c10000, y_c100000, y_c106, y_c112, y_c116, y_c127, y_c128, y_c13, y_c14, y_c155, y_c2, y_c20, y_c200, y_c204, y_c21, y_c253, y_c255, y_c3, y_c30, y_c302, y_c303, y_c304, y_c305, y_c306, y_c307, y_c308, y_c309, y_c310, y_c311, y_c312, y_c313, y_c314, y_c315, y_c316, y_c32, y_c33, y_c353, y_c39, y_c4, y_c40, y_c44, y_c4589, y_c48, y_c49, y_c5, y_c512, y_c54, y_c57, y_c59, y_c6, y_c62, y_c64, y_c7, y_c8, y_c9, y_c99, y_c9999, y_d0, y_d1, y_d10, y_d100, y_d1000000, y_d1442695040888963407, y_d2, y_d20, y_d255, y_d3, y_d4, y_d40, y_d4294967295, y_d48, y_d5, y_d50, y_d54, y_d57, y_d6364136223846793005, y_d7, y_d9, y_d9999, y_dR, y_dS, y_dk, y_nar0, y_nar1, y_Ilt, y_Ile, y_Ieq, y_Iadd, y_Imul, y_Idiv, y_Llt, y_Lle, y_Leq, y_Ladd, y_Lmul, y_Ldiv, y_I2l, y_L2i, y_shn, y_or, y_and, y_bn1, y_bn0, y_inb, y_cl, y_gle, y_gge, y_ggt, y_glt, y_geq, if_pos, if_neg, if_true, if_false, Option.bind_some, q1, q2, ep, r8, e]
            exact f
        · rw [if_neg (fun z => q3 z.2.2)]
          obtain ⟨r', c', f, f0, f1⟩ := ih (b + 1) n c r ρ N (by omega) (by omega) (by omega) h hi (by omega)
          refine ⟨r', c', ?_, f0, f1⟩
          rw [f_X9_runOn_L77]
          simp (disch := omega) only [y_c0, y_c1, y_c10, y_c100, y_c1000, y_c10000, y_c100000, y_c106, y_c112, y_c116, y_c127, y_c128, y_c13, y_c14, y_c155, y_c2, y_c20, y_c200, y_c204, y_c21, y_c253, y_c255, y_c3, y_c30, y_c302, y_c303, y_c304, y_c305, y_c306, y_c307, y_c308, y_c309, y_c310, y_c311, y_c312, y_c313, y_c314, y_c315, y_c316, y_c32, y_c33, y_c353, y_c39, y_c4, y_c40, y_c44, y_c4589, y_c48, y_c49, y_c5, y_c512, y_c54, y_c57, y_c59, y_c6, y_c62, y_c64, y_c7, y_c8, y_c9, y_c99, y_c9999, y_d0, y_d1, y_d10, y_d100, y_d1000000, y_d1442695040888963407, y_d2, y_d20, y_d255, y_d3, y_d4, y_d40, y_d4294967295, y_d48, y_d5, y_d50, y_d54, y_d57, y_d6364136223846793005, y_d7, y_d9, y_d9999, y_dR, y_dS, y_dk, y_nar0, y_nar1, y_Ilt, y_Ile, y_Ieq, y_Iadd, y_Imul, y_Idiv, y_Llt, y_Lle, y_Leq, y_Ladd, y_Lmul, y_Ldiv, y_I2l, y_L2i, y_shn, y_or, y_and, y_bn1, y_bn0, y_inb, y_cl, y_gle, y_gge, y_ggt, y_glt, y_geq, if_pos, if_neg, if_true, if_false, Option.bind_some, q1, q2, ep, r8]
          exact f
      · rw [if_neg (fun z => q2 z.2.1)]
        obtain ⟨r', c', f, f0, f1⟩ := ih (b + 1) n c r ρ N (by omega) (by omega) (by omega) h hi (by omega)
        refine ⟨r', c', ?_, f0, f1⟩
        rw [f_X9_runOn_L77]
        simp (disch := omega) only [y_c0, y_c1, y_c10, y_c100, y_c1000, y_c10000, y_c100000, y_c106, y_c112, y_c116, y_c127, y_c128, y_c13, y_c14, y_c155, y_c2, y_c20, y_c200, y_c204, y_c21, y_c253, y_c255, y_c3, y_c30, y_c302, y_c303, y_c304, y_c305, y_c306, y_c307, y_c308, y_c309, y_c310, y_c311, y_c312, y_c313, y_c314, y_c315, y_c316, y_c32, y_c33, y_c353, y_c39, y_c4, y_c40, y_c44, y_c4589, y_c48, y_c49, y_c5, y_c512, y_c54, y_c57, y_c59, y_c6, y_c62, y_c64, y_c7, y_c8, y_c9, y_c99, y_c9999, y_d0, y_d1, y_d10, y_d100, y_d1000000, y_d1442695040888963407, y_d2, y_d20, y_d255, y_d3, y_d4, y_d40, y_d4294967295, y_d48, y_d5, y_d50, y_d54, y_d57, y_d6364136223846793005, y_d7, y_d9, y_d9999, y_dR, y_dS, y_dk, y_nar0, y_nar1, y_Ilt, y_Ile, y_Ieq, y_Iadd, y_Imul, y_Idiv, y_Llt, y_Lle, y_Leq, y_Ladd, y_Lmul, y_Ldiv, y_I2l, y_L2i, y_shn, y_or, y_and, y_bn1, y_bn0, y_inb, y_cl, y_gle, y_gge, y_ggt, y_glt, y_geq, if_pos, if_neg, if_true, if_false, Option.bind_some, q1, q2]
        exact f
    · rw [if_neg (fun z => q1 z.1)]
      obtain ⟨r', c', f, f0, f1⟩ := ih (b + 1) n c r ρ N (by omega) (by omega) (by omega) h hi (by omega)
      refine ⟨r', c', ?_, f0, f1⟩
      rw [f_X9_runOn_L77]
      simp (disch := omega) only [y_c0, y_c1, y_c10, y_c100, y_c1000, y_c10000, y_c100000, y_c106, y_c112, y_c116, y_c127, y_c128, y_c13, y_c14, y_c155, y_c2, y_c20, y_c200, y_c204, y_c21, y_c253, y_c255, y_c3, y_c30, y_c302, y_c303, y_c304, y_c305, y_c306, y_c307, y_c308, y_c309, y_c310, y_c311, y_c312, y_c313, y_c314, y_c315, y_c316, y_c32, y_c33, y_c353, y_c39, y_c4, y_c40, y_c44, y_c4589, y_c48, y_c49, y_c5, y_c512, y_c54, y_c57, y_c59, y_c6, y_c62, y_c64, y_c7, y_c8, y_c9, y_c99, y_c9999, y_d0, y_d1, y_d10, y_d100, y_d1000000, y_d1442695040888963407, y_d2, y_d20, y_d255, y_d3, y_d4, y_d40, y_d4294967295, y_d48, y_d5, y_d50, y_d54, y_d57, y_d6364136223846793005, y_d7, y_d9, y_d9999, y_dR, y_dS, y_dk, y_nar0, y_nar1, y_Ilt, y_Ile, y_Ieq, y_Iadd, y_Imul, y_Idiv, y_Llt, y_Lle, y_Leq, y_Ladd, y_Lmul, y_Ldiv, y_I2l, y_L2i, y_shn, y_or, y_and, y_bn1, y_bn0, y_inb, y_cl, y_gle, y_gge, y_ggt, y_glt, y_geq, if_pos, if_neg, if_true, if_false, Option.bind_some, q1]
      exact f
theorem x_64 {S : Nat} {σ : Nat → Int64} {M : TM} {cb pb tp : Nat → Int64} {pl : Nat → Int32} (hS : S < 2147483648) : ∀ rr a n c r ρ N, a + rr = 7 → rr < n → RRf r ρ σ → INf N ρ → N + 7 * rr < 1000000 → ∃ r' c', f_X9_runOn_L64 353 M cb pb tp pl (nI S) n (nI c) (nI a) r = some (nI c', (M, cb, pb, tp, pl, r')) ∧ c' + ρ 307 = c + yOt S rr a ρ 307 ∧ RRf r' (yOt S rr a ρ) σ := by
  intro rr
  induction rr with
  | zero =>
    intro a n c r ρ N ha hn h hi _
    obtain ⟨n, rfl⟩ : ∃ m, n = m + 1 := ⟨n - 1, by omega⟩
    refine ⟨r, c, ?_, rfl, h⟩
    rw [f_X9_runOn_L64, show a = 7 by omega]
    exact if_pos (by decide)
  | succ rr ih =>
    intro a n c r ρ N ha hn h hi hN
    obtain ⟨n, rfl⟩ : ∃ m, n = m + 1 := ⟨n - 1, by omega⟩
    obtain ⟨F, hF, hF1⟩ := y_fuel
    obtain ⟨r1, c1, e, e0, e1⟩ := x_77 (M := M) (cb := cb) (pb := pb) (tp := tp) (pl := pl) (K := (fun (y20x7 : Int32) (y20g_p1 : Nat → Int64) => (f_X9_runOn_L64 353 M cb pb tp pl (nI S) n y20x7 (nI a + (1 : Int32)) y20g_p1))) hS (show a < 7 by omega) (6 - a) (a + 1) F c r ρ N (by omega) (by omega) (by omega) h hi (by omega)
    obtain ⟨r', c', f, f0, f1⟩ := ih (a + 1) n c1 r1 _ (N + 7) (by omega) (by omega) e1 ((yIn_i _ _ _ _ (by omega) (by omega) hi).mono (by omega)) (by omega)
    refine ⟨r', c', ?_, by rw [yOt]; omega, f1⟩
    rw [f_X9_runOn_L64, if_neg (show ¬ (7 : Int32) ≤ nI a from fun z => by have := (y_Ile (a := 7) (by omega) (by omega)).mp z; omega), hF, y_c1, y_Iadd]
    rw [y_c1, y_Iadd] at e
    exact e.trans f
def AG (ρ ρ' : Nat → Nat) : Prop := ∀ j, j < 204 ∨ j = 302 → ρ' j = ρ j
theorem AG.df {ρ ρ' : Nat → Nat} (h : AG ρ ρ') {q : Nat} (hq : q < 49) : yDf ρ' q = yDf ρ q := by
  unfold yDf yBl ysh
  rw [h (106 + q) (by omega), h (155 + q) (by omega), h (57 + q) (by omega)]
theorem AG.in {S a : Nat} (ha : a < 7) : ∀ rr b ρ ρ', b + rr = 7 → AG ρ ρ' → yIn S a rr b ρ 307 = ρ 307 → AG ρ (yIn S a rr b ρ) ∧ AG ρ (yIn S a rr b ρ') ∧ yIn S a rr b ρ' 307 = ρ' 307 := by
  intro rr
  induction rr with
  | zero => intro b ρ ρ' _ h _; exact ⟨fun _ _ => rfl, h, rfl⟩
  | succ rr ih =>
    intro b ρ ρ' hb h h7
    rw [yIn] at h7
    rw [yIn, yIn]
    have m1 := yIn_7 (S := S) ha rr (b + 1) (if S.testBit a = true ∧ S.testBit b = true ∧ 0 < ρ (8 + (7 * a + b)) then yFn ρ a b else ρ) (by omega)
    rw [h (8 + (7 * a + b)) (by omega)]
    by_cases q : S.testBit a = true ∧ S.testBit b = true ∧ 0 < ρ (8 + (7 * a + b))
    · rw [if_pos q] at m1 h7
      rw [if_pos q, if_pos q]
      have k7 := yFn_7 (ρ := ρ) (a := a) (b := b) (by omega)
      have k7' := yFn_7 (ρ := ρ') (a := a) (b := b) (by omega)
      have z : yDf ρ (7 * a + b) < ρ 302 := by
        by_cases z : yDf ρ (7 * a + b) < ρ 302
        · exact z
        · rw [if_neg z] at k7; omega
      rw [if_pos z] at k7
      rw [h.df (by omega), h 302 (by omega), if_pos z] at k7'
      have e1 : yFn ρ a b = pu ρ (204 + (7 * a + b)) 0 := if_pos z
      have e2 : yFn ρ' a b = pu ρ' (204 + (7 * a + b)) 0 := by
        unfold yFn
        rw [h.df (by omega), h 302 (by omega)]
        exact if_pos z
      have a1 : AG ρ (yFn ρ a b) := by
        intro j hj
        rw [e1, pu_n (by omega)]
      have a2 : AG (yFn ρ a b) (yFn ρ' a b) := by
        intro j hj
        rw [e1, e2, pu_n (by omega), pu_n (by omega)]
        exact h j hj
      obtain ⟨f1, f2, f3⟩ := ih (b + 1) (yFn ρ a b) (yFn ρ' a b) (by omega) a2 (by omega)
      exact ⟨fun j hj => (f1 j hj).trans (a1 j hj), fun j hj => (f2 j hj).trans (a1 j hj), by omega⟩
    · rw [if_neg q] at m1 h7
      rw [if_neg q, if_neg q]
      exact ih (b + 1) ρ ρ' (by omega) h h7
theorem AG.ot {S : Nat} : ∀ rr a ρ ρ', a + rr = 7 → AG ρ ρ' → yOt S rr a ρ 307 = ρ 307 → AG ρ (yOt S rr a ρ) ∧ AG ρ (yOt S rr a ρ') ∧ yOt S rr a ρ' 307 = ρ' 307 := by
  intro rr
  induction rr with
  | zero => intro b ρ ρ' _ h _; exact ⟨fun _ _ => rfl, h, rfl⟩
  | succ rr ih =>
    intro a ρ ρ' ha h h7
    rw [yOt] at h7
    rw [yOt, yOt]
    have m1 := yOt_7 (S := S) rr (a + 1) (yIn S a (6 - a) (a + 1) ρ) (by omega)
    have m2 := yIn_7 (S := S) (show a < 7 by omega) (6 - a) (a + 1) ρ (by omega)
    obtain ⟨f1, f2, f3⟩ := AG.in (S := S) (show a < 7 by omega) (6 - a) (a + 1) ρ ρ' (by omega) h (by omega)
    obtain ⟨g1, g2, g3⟩ := ih (a + 1) _ (yIn S a (6 - a) (a + 1) ρ') (by omega) (fun j hj => (f2 j hj).trans (f1 j hj).symm) (by omega)
    exact ⟨fun j hj => (g1 j hj).trans (f1 j hj), fun j hj => (g2 j hj).trans (f1 j hj), by omega⟩
theorem AG.ln {S : Nat} {ρ ρ' : Nat → Nat} (h : AG ρ ρ') (h7 : yLn S ρ 307 = ρ 307) : AG ρ (yLn S ρ) ∧ AG ρ (yLn S ρ') ∧ yLn S ρ' 307 = ρ' 307 := AG.ot 7 0 ρ ρ' rfl h h7
