theorem y_Irem2 (a b : Nat) : nI a - nI (a / b * b) = nI (a % b) := by
  rw [y_Isub (Nat.div_mul_le_self a b)]
  congr 1
  have := Nat.div_add_mod a b
  have h2 := Nat.mul_comm b (a / b)
  omega
theorem y_Lrem2 (a b : Nat) : lN a - lN (a / b * b) = lN (a % b) := by
  rw [y_Lsub (Nat.div_mul_le_self a b)]
  congr 1
  have := Nat.div_add_mod a b
  have h2 := Nat.mul_comm b (a / b)
  omega
theorem y_abs {x y : Nat} (hx : x ≤ 1000000) (hy : y ≤ 1000000) : (if 0 ≤ nI x - nI y then nI x - nI y else 0 - (nI x - nI y)) = nI (if y ≤ x then x - y else y - x) := by
  have ex : (nI x).toInt = (x : Int) := nI_toInt (by omega)
  have ey : (nI y).toInt = (y : Int) := nI_toInt (by omega)
  have es : (nI x - nI y).toInt = (x : Int) - y := by rw [fb_subI (by rw [ex, ey]; omega) (by rw [ex, ey]; omega), ex, ey]
  have e0 : (0 : Int32).toInt = 0 := rfl
  by_cases h : y ≤ x
  · rw [if_pos (by rw [fa_le, es, e0]; omega), if_pos h, y_Isub h]
  · rw [if_neg (by rw [fa_le, es, e0]; omega), if_neg h, fa_eq, fb_subI (by rw [es, e0]; omega) (by rw [es, e0]; omega), es, e0, show (nI (y - x)).toInt = ((y - x : Nat) : Int) from nI_toInt (by omega)]
    omega
def WRb (b : Prop) (w : TW) (ρ : Nat → Nat) (σ : Nat → Int64) : Prop :=
  WRp w ρ ∧ W_weeks w = nI (ρ 305) ∧ (b → W_runs w = nI (ρ 306)) ∧ W_surprises w = nI (ρ 307) ∧ (b → ∀ i, i < 4 → W_sums w i = σ i) ∧ (∀ i, i < 3 → W_settings w i = nI (ρ (302 + i))) ∧
  (∀ c, c < 21 → 0 < ρ (155 + yq c) → W_ages w c = nI (ρ (204 + yq c))) ∧ (∀ c, c < 21 → W_surprisesOf w c = nI (ρ (253 + yq c))) ∧
  (∀ k, k < 10 → k < ρ 307 → ∀ j, j < 4 → W_told w ((ρ 307 - 1 - k) % 10 * 4 + j) = nI (ρ (313 + 4 * k + j)))
theorem WRf.b {w : TW} {ρ : Nat → Nat} {σ : Nat → Int64} (h : WRf w ρ σ) (b : Prop) : WRb b w ρ σ := ⟨h.1, h.2.1, fun _ => h.2.2.1, h.2.2.2.1, fun _ => h.2.2.2.2.1, h.2.2.2.2.2⟩
theorem WRb.f {w : TW} {ρ : Nat → Nat} {σ : Nat → Int64} (h : WRb True w ρ σ) : WRf w ρ σ := ⟨h.1, h.2.1, h.2.2.1 trivial, h.2.2.2.1, h.2.2.2.2.1 trivial, h.2.2.2.2.2⟩
def yBl (ρ : Nat → Nat) (q : Nat) : Nat := ysh ρ 1 q
def yDf (ρ : Nat → Nat) (q : Nat) : Nat := if ρ (106 + q) ≤ yBl ρ q then yBl ρ q - ρ (106 + q) else ρ (106 + q) - yBl ρ q
def yMv (ρ : Nat → Nat) (q : Nat) : Nat := if 1 < yDf ρ q * ρ 303 / 10 then yDf ρ q * ρ 303 / 10 else 1
def yNv (ρ : Nat → Nat) (q : Nat) : Nat := if ρ (106 + q) ≤ yBl ρ q then yBl ρ q - yMv ρ q else yBl ρ q + yMv ρ q
def yFs (ρ : Nat → Nat) (a b q : Nat) : Nat → Nat := fun j => if j = 155 + q then yNv ρ q else if j = 204 + q then 0 else if j = 253 + q then ρ (253 + q) + 1 else if j = 307 then ρ 307 + 1 else if j = 312 then min 10 (ρ 312 + 1) else if j = 313 then 10 * a + b else if j = 314 then yBl ρ q else if j = 315 then ρ (106 + q) else if j = 316 then ρ 305 else if 317 ≤ j ∧ j < 353 then ρ (j - 4) else ρ j
def yFn (ρ : Nat → Nat) (a b : Nat) : Nat → Nat := if yDf ρ (7 * a + b) < ρ 302 then pu ρ (204 + (7 * a + b)) 0 else yFs ρ a b (7 * a + b)
section
variable {ρ : Nat → Nat} {a b q j : Nat}
theorem yFs_m : yFs ρ a b q (155 + q) = yNv ρ q := if_pos rfl
theorem yFs_a : yFs ρ a b q (204 + q) = 0 := by unfold yFs; rw [if_neg (by omega), if_pos rfl]
theorem yFs_s : yFs ρ a b q (253 + q) = ρ (253 + q) + 1 := by unfold yFs; rw [if_neg (by omega), if_neg (by omega), if_pos rfl]
theorem yFs_o (h : j < 307 ∨ (307 < j ∧ j < 312) ∨ 353 ≤ j) (h1 : j ≠ 155 + q) (h2 : j ≠ 204 + q) (h3 : j ≠ 253 + q) : yFs ρ a b q j = ρ j := by
  unfold yFs
  rw [if_neg h1, if_neg h2, if_neg h3, if_neg (by omega), if_neg (by omega), if_neg (by omega), if_neg (by omega), if_neg (by omega), if_neg (by omega), if_neg (by omega)]
theorem yFs_7 (hq : q < 49) : yFs ρ a b q 307 = ρ 307 + 1 := by unfold yFs; rw [if_neg (by omega), if_neg (by omega), if_neg (by omega), if_pos rfl]
theorem yFs_12 (hq : q < 49) : yFs ρ a b q 312 = min 10 (ρ 312 + 1) := by unfold yFs; rw [if_neg (by omega), if_neg (by omega), if_neg (by omega), if_neg (by omega), if_pos rfl]
theorem yFs_13 (hq : q < 49) : yFs ρ a b q 313 = 10 * a + b := by unfold yFs; rw [if_neg (by omega), if_neg (by omega), if_neg (by omega), if_neg (by omega), if_neg (by omega), if_pos rfl]
theorem yFs_14 (hq : q < 49) : yFs ρ a b q 314 = yBl ρ q := by unfold yFs; rw [if_neg (by omega), if_neg (by omega), if_neg (by omega), if_neg (by omega), if_neg (by omega), if_neg (by omega), if_pos rfl]
theorem yFs_15 (hq : q < 49) : yFs ρ a b q 315 = ρ (106 + q) := by unfold yFs; rw [if_neg (by omega), if_neg (by omega), if_neg (by omega), if_neg (by omega), if_neg (by omega), if_neg (by omega), if_neg (by omega), if_pos rfl]
theorem yFs_16 (hq : q < 49) : yFs ρ a b q 316 = ρ 305 := by unfold yFs; rw [if_neg (by omega), if_neg (by omega), if_neg (by omega), if_neg (by omega), if_neg (by omega), if_neg (by omega), if_neg (by omega), if_neg (by omega), if_pos rfl]
theorem yFs_t (hq : q < 49) (h : 317 ≤ j) (h2 : j < 353) : yFs ρ a b q j = ρ (j - 4) := by unfold yFs; rw [if_neg (by omega), if_neg (by omega), if_neg (by omega), if_neg (by omega), if_neg (by omega), if_neg (by omega), if_neg (by omega), if_neg (by omega), if_neg (by omega), if_pos ⟨h, h2⟩]
end
theorem yDf_le {ρ : Nat → Nat} (hi : INp ρ) {c : Nat} (hc : c < 21) : yBl ρ (yq c) ≤ 1000 ∧ ρ (106 + yq c) ≤ 1000 ∧ yDf ρ (yq c) ≤ 1000 := by
  have h1 := (hi.sh hc 1).1
  have h2 := (hi.2.2 c hc).2.2.1
  have : yBl ρ (yq c) ≤ 1000 := h1
  refine ⟨this, h2, ?_⟩
  unfold yDf
  split <;> omega
theorem yMv_le {N : Nat} {ρ : Nat → Nat} (hi : INf N ρ) {c : Nat} (hc : c < 21) (h : ρ 302 ≤ yDf ρ (yq c)) : 1 ≤ yMv ρ (yq c) ∧ yMv ρ (yq c) ≤ yDf ρ (yq c) := by
  obtain ⟨-, ⟨s1, s2, s3, s4, s5⟩, -⟩ := hi
  have : yDf ρ (yq c) * ρ 303 ≤ yDf ρ (yq c) * 10 := Nat.mul_le_mul_left _ s4
  unfold yMv
  split <;> omega
theorem yNv_bd {N : Nat} {ρ : Nat → Nat} (hi : INf N ρ) {c : Nat} (hc : c < 21) (hl : 0 < ρ (8 + yq c)) (h : ρ 302 ≤ yDf ρ (yq c)) : 1 ≤ yNv ρ (yq c) ∧ yNv ρ (yq c) ≤ 1000 := by
  have h1 := yMv_le hi hc h
  obtain ⟨d1, d2, d3⟩ := yDf_le hi.1 hc
  have h2 := ((hi.1.2.2 c hc).2.2.2.2.2.1).mp hl
  have h3 := ((hi.1.sh hc 1).2).mpr hl
  have h4 : 0 < yBl ρ (yq c) := h3
  unfold yNv
  unfold yDf at h1
  split <;> rename_i z
  · rw [if_pos z] at h1; omega
  · rw [if_neg z] at h1; omega
theorem INf.fn {N : Nat} {ρ : Nat → Nat} (h : INf N ρ) {a b : Nat} (ha : a < b) (hb : b < 7) (hl : 0 < ρ (8 + (7 * a + b))) : INf (N + 1) (yFn ρ a b) := by
  obtain ⟨k1, k2⟩ := yq_ab b hb a ha
  have hd := k1
  generalize hdd : b * (b - 1) / 2 + a = d at k1 k2 hd
  have hqd := yq_lt d hd
  rw [← k2] at hl
  have hh := h
  obtain ⟨⟨i1, j2, j3⟩, i2, i3, i4, i5⟩ := h
  unfold yFn
  rw [← k2]
  by_cases z : yDf ρ (yq d) < ρ 302
  · rw [if_pos z]
    refine ⟨⟨?_, ?_, ?_⟩, ?_, ?_, ?_, ?_⟩
    · simp (disch := omega) only [W_m_tables, W_m_weeks, W_m_runs, W_m_surprises, W_m_sums, W_m_settings, W_m_sizes, W_m_guesses, W_m_shares, W_m_memories, W_m_ages, W_m_surprisesOf, W_m_told, pu_e, pu_n, y_ue, y_un, y_ve, y_vn, true_and, and_true]; exact i1
    · intro t ht
      simp (disch := omega) only [W_m_tables, W_m_weeks, W_m_runs, W_m_surprises, W_m_sums, W_m_settings, W_m_sizes, W_m_guesses, W_m_shares, W_m_memories, W_m_ages, W_m_surprisesOf, W_m_told, pu_e, pu_n, y_ue, y_un, y_ve, y_vn, true_and, and_true] at ht
      have := j2 t ht
      simp (disch := omega) only [W_m_tables, W_m_weeks, W_m_runs, W_m_surprises, W_m_sums, W_m_settings, W_m_sizes, W_m_guesses, W_m_shares, W_m_memories, W_m_ages, W_m_surprisesOf, W_m_told, pu_e, pu_n, y_ue, y_un, y_ve, y_vn, true_and, and_true]
      exact this
    · intro c hc
      have := j3 c hc
      have hq := yq_lt c hc
      simp (disch := omega) only [W_m_tables, W_m_weeks, W_m_runs, W_m_surprises, W_m_sums, W_m_settings, W_m_sizes, W_m_guesses, W_m_shares, W_m_memories, W_m_ages, W_m_surprisesOf, W_m_told, pu_e, pu_n, y_ue, y_un, y_ve, y_vn, true_and, and_true]
      exact this
    · simp (disch := omega) only [W_m_tables, W_m_weeks, W_m_runs, W_m_surprises, W_m_sums, W_m_settings, W_m_sizes, W_m_guesses, W_m_shares, W_m_memories, W_m_ages, W_m_surprisesOf, W_m_told, pu_e, pu_n, y_ue, y_un, y_ve, y_vn, true_and, and_true]; exact i2
    · simp (disch := omega) only [W_m_tables, W_m_weeks, W_m_runs, W_m_surprises, W_m_sums, W_m_settings, W_m_sizes, W_m_guesses, W_m_shares, W_m_memories, W_m_ages, W_m_surprisesOf, W_m_told, pu_e, pu_n, y_ue, y_un, y_ve, y_vn, true_and, and_true]; omega
    · intro c hc
      have := i4 c hc
      have hq := yq_lt c hc
      by_cases e : c = d
      · subst e
        simp (disch := omega) only [W_m_tables, W_m_weeks, W_m_runs, W_m_surprises, W_m_sums, W_m_settings, W_m_sizes, W_m_guesses, W_m_shares, W_m_memories, W_m_ages, W_m_surprisesOf, W_m_told, pu_e, pu_n, y_ue, y_un, y_ve, y_vn, true_and, and_true]; omega
      · have hne : ¬ yq c = yq d := fun z => e (yq_inj c hc d hd z)
        simp (disch := omega) only [W_m_tables, W_m_weeks, W_m_runs, W_m_surprises, W_m_sums, W_m_settings, W_m_sizes, W_m_guesses, W_m_shares, W_m_memories, W_m_ages, W_m_surprisesOf, W_m_told, pu_e, pu_n, y_ue, y_un, y_ve, y_vn, true_and, and_true]
        omega
    · intro q hq hn
      have := i5 q hq hn
      have hne : ¬ q = yq d := fun z => hn d hd z.symm
      simp (disch := omega) only [W_m_tables, W_m_weeks, W_m_runs, W_m_surprises, W_m_sums, W_m_settings, W_m_sizes, W_m_guesses, W_m_shares, W_m_memories, W_m_ages, W_m_surprisesOf, W_m_told, pu_e, pu_n, y_ue, y_un, y_ve, y_vn, true_and, and_true]
      exact this
  · rw [if_neg z]
    have nb := yNv_bd hh hd hl (by omega)
    refine ⟨⟨?_, ?_, ?_⟩, ?_, ?_, ?_, ?_⟩
    · rw [yFs_o (by omega) (by omega) (by omega) (by omega)]; exact i1
    · intro t ht
      rw [yFs_o (by omega) (by omega) (by omega) (by omega)] at ht
      rw [yFs_o (by omega) (by omega) (by omega) (by omega)]; exact j2 t ht
    · intro c hc
      have := j3 c hc
      have hq := yq_lt c hc
      rw [yFs_o (j := 8 + yq c) (by omega) (by omega) (by omega) (by omega), yFs_o (j := 57 + yq c) (by omega) (by omega) (by omega) (by omega), yFs_o (j := 106 + yq c) (by omega) (by omega) (by omega) (by omega)]
      by_cases e : c = d
      · subst e
        rw [yFs_m]; omega
      · have hne : ¬ yq c = yq d := fun z => e (yq_inj c hc d hd z)
        rw [yFs_o (j := 155 + yq c) (by omega) (by omega) (by omega) (by omega)]
        exact this
    · rw [yFs_o (by omega) (by omega) (by omega) (by omega), yFs_o (by omega) (by omega) (by omega) (by omega), yFs_o (by omega) (by omega) (by omega) (by omega)]; exact i2
    · rw [yFs_o (j := 305) (by omega) (by omega) (by omega) (by omega), yFs_o (j := 306) (by omega) (by omega) (by omega) (by omega), yFs_7 hqd, yFs_12 hqd]; omega
    · intro c hc
      have := i4 c hc
      have hq := yq_lt c hc
      by_cases e : c = d
      · subst e
        rw [yFs_a, yFs_s]; omega
      · have hne : ¬ yq c = yq d := fun z => e (yq_inj c hc d hd z)
        rw [yFs_o (by omega) (by omega) (by omega) (by omega), yFs_o (by omega) (by omega) (by omega) (by omega)]
        omega
    · intro q hq hn
      have := i5 q hq hn
      have hne : ¬ q = yq d := fun z => hn d hd z.symm
      rw [yFs_o (by omega) (by omega) (by omega) (by omega), yFs_o (by omega) (by omega) (by omega) (by omega), yFs_o (by omega) (by omega) (by omega) (by omega)]
      exact this
theorem c_diff {w : TW} {ρ : Nat → Nat} (hw : WRp w ρ) (hi : INp ρ) {c : Nat} (hc : c < 21) : f_X7_differenceOf w (nI c) = some (nI (yDf ρ (yq c)), ()) := by
  obtain ⟨d1, d2, d3⟩ := yDf_le hi hc
  have e1 := c_shareOf (k := 1) hw hi hc (by omega)
  have e2 := c_shareOf (k := 2) hw hi hc (by omega)
  unfold f_X7_differenceOf
  rw [y_c1, e1, y_c2, e2]
  show some ((if 0 ≤ nI (yBl ρ (yq c)) - nI (ysh ρ 2 (yq c)) then nI (yBl ρ (yq c)) - nI (ysh ρ 2 (yq c)) else 0 - (nI (yBl ρ (yq c)) - nI (ysh ρ 2 (yq c)))), ()) = _
  have e3 : ysh ρ 2 (yq c) = ρ (106 + yq c) := rfl
  rw [e3, y_abs (by omega) (by omega)]
  rfl
theorem c_find {N : Nat} {bb : Prop} {w : TW} {ρ : Nat → Nat} {σ : Nat → Int64} (h : WRb bb w ρ σ) (hi : INf N ρ) (hN : N < 1000000) {a b : Nat} (ha : a < b) (hb : b < 7) (hl : 0 < ρ (8 + (7 * a + b))) : ∃ w', f_X7_learnPair w (nI a) (nI b) = some ((), w') ∧ WRb bb w' (yFn ρ a b) σ := by
  obtain ⟨k1, k2⟩ := yq_ab b hb a ha
  have hd := k1
  have ep := c_pair a (by omega) b hb (by omega)
  rw [show yci a b = b * (b - 1) / 2 + a from if_pos ha] at ep
  generalize hdd : b * (b - 1) / 2 + a = d at k1 k2 hd ep
  have hqd := yq_lt d hd
  have el := c_isLinked h.1 hi.1 hd
  rw [← k2] at hl
  rw [if_pos hl] at el
  have hdf := c_diff (w := (W_mk (W_tables w) (W_weeks w) (W_runs w) (W_surprises w) (W_sums w) (W_settings w) (W_sizes w) (W_guesses w) (W_shares w) (W_memories w) (upd (W_ages w) d (nI 0)) (W_surprisesOf w) (W_told w))) (ρ := ρ) h.1 hi.1 hd
  have hsh := c_shareOf (w := (W_mk (W_tables w) (W_weeks w) (W_runs w) (W_surprises w) (W_sums w) (W_settings w) (W_sizes w) (W_guesses w) (W_shares w) (W_memories w) (upd (W_ages w) d (nI 0)) (W_surprisesOf w) (W_told w))) (ρ := ρ) (k := 1) h.1 hi.1 hd (by omega)
  rw [show ysh ρ 1 (yq d) = yBl ρ (yq d) from rfl] at hsh
  obtain ⟨b1, b2, b3⟩ := yDf_le hi.1 hd
  have hmv := fun z => yMv_le hi hd z
  obtain ⟨⟨w1, w2, w3⟩, w4, w5, w6, w7, w8, w9, w10, w11⟩ := h
  obtain ⟨⟨i1, j2, j3⟩, i2, i3, i4, i5⟩ := hi
  have s0 : W_settings w 0 = nI (ρ 302) := w8 0 (by omega)
  have s1 : W_settings w 1 = nI (ρ 303) := w8 1 (by omega)
  have sh := (w3 d hd).2.1
  have so := w10 d hd
  have sob := (i4 d hd).2
  unfold yFn
  rw [← k2]
  by_cases z : yDf ρ (yq d) < ρ 302
  · rw [if_pos z]
    refine ⟨(W_mk (W_tables w) (W_weeks w) (W_runs w) (W_surprises w) (W_sums w) (W_settings w) (W_sizes w) (W_guesses w) (W_shares w) (W_memories w) (upd (W_ages w) d (nI 0)) (W_surprisesOf w) (W_told w)), ?_, ⟨?_, ?_, ?_⟩, ?_, ?_, ?_, ?_, ?_, ?_, ?_, ?_⟩
    · unfold f_X7_learnPair
      simp (disch := omega) only [y_c0, y_c1, y_c10, y_c100, y_c1000, y_c10000, y_c100000, y_c106, y_c112, y_c116, y_c127, y_c128, y_c13, y_c14, y_c155, y_c2, y_c20, y_c200, y_c204, y_c21, y_c253, y_c255, y_c3, y_c30, y_c302, y_c303, y_c304, y_c305, y_c306, y_c307, y_c308, y_c309, y_c310, y_c311, y_c312, y_c313, y_c314, y_c315, y_c316, y_c32, y_c33, y_c353, y_c39, y_c4, y_c40, y_c44, y_c4589, y_c48, y_c49, y_c5, y_c512, y_c54, y_c57, y_c59, y_c6, y_c62, y_c64, y_c7, y_c8, y_c9, y_c99, y_c9999, y_d0, y_d1, y_d10, y_d100, y_d1000000, y_d1442695040888963407, y_d2, y_d20, y_d255, y_d3, y_d4, y_d40, y_d4294967295, y_d48, y_d5, y_d50, y_d54, y_d57, y_d6364136223846793005, y_d7, y_d9, y_d9999, y_dR, y_dS, y_dk, y_nar0, y_nar1, y_Ilt, y_Ile, y_Ieq, y_Iadd, y_Imul, y_Idiv, y_Llt, y_Lle, y_Leq, y_Ladd, y_Lmul, y_Ldiv, y_I2l, y_L2i, y_shn, y_or, y_and, y_bn1, y_bn0, y_inb, y_cl, y_gle, y_gge, y_ggt, y_glt, y_geq, if_pos, if_neg, if_true, if_false, Option.bind_some, ep, el, hdf, s0]
    · simp (disch := omega) only [W_m_tables, W_m_weeks, W_m_runs, W_m_surprises, W_m_sums, W_m_settings, W_m_sizes, W_m_guesses, W_m_shares, W_m_memories, W_m_ages, W_m_surprisesOf, W_m_told, pu_e, pu_n, y_ue, y_un, y_ve, y_vn, true_and, and_true]; exact w1
    · intro t ht
      simp (disch := omega) only [W_m_tables, W_m_weeks, W_m_runs, W_m_surprises, W_m_sums, W_m_settings, W_m_sizes, W_m_guesses, W_m_shares, W_m_memories, W_m_ages, W_m_surprisesOf, W_m_told, pu_e, pu_n, y_ue, y_un, y_ve, y_vn, true_and, and_true] at ht
      have := w2 t ht
      simp (disch := omega) only [W_m_tables, W_m_weeks, W_m_runs, W_m_surprises, W_m_sums, W_m_settings, W_m_sizes, W_m_guesses, W_m_shares, W_m_memories, W_m_ages, W_m_surprisesOf, W_m_told, pu_e, pu_n, y_ue, y_un, y_ve, y_vn, true_and, and_true]
      exact this
    · intro c hc
      have := w3 c hc
      have hq := yq_lt c hc
      simp (disch := omega) only [W_m_tables, W_m_weeks, W_m_runs, W_m_surprises, W_m_sums, W_m_settings, W_m_sizes, W_m_guesses, W_m_shares, W_m_memories, W_m_ages, W_m_surprisesOf, W_m_told, pu_e, pu_n, y_ue, y_un, y_ve, y_vn, true_and, and_true]
      exact this
    · simp (disch := omega) only [W_m_tables, W_m_weeks, W_m_runs, W_m_surprises, W_m_sums, W_m_settings, W_m_sizes, W_m_guesses, W_m_shares, W_m_memories, W_m_ages, W_m_surprisesOf, W_m_told, pu_e, pu_n, y_ue, y_un, y_ve, y_vn, true_and, and_true]; exact w4
    · simp (disch := omega) only [W_m_tables, W_m_weeks, W_m_runs, W_m_surprises, W_m_sums, W_m_settings, W_m_sizes, W_m_guesses, W_m_shares, W_m_memories, W_m_ages, W_m_surprisesOf, W_m_told, pu_e, pu_n, y_ue, y_un, y_ve, y_vn, true_and, and_true]; exact w5
    · simp (disch := omega) only [W_m_tables, W_m_weeks, W_m_runs, W_m_surprises, W_m_sums, W_m_settings, W_m_sizes, W_m_guesses, W_m_shares, W_m_memories, W_m_ages, W_m_surprisesOf, W_m_told, pu_e, pu_n, y_ue, y_un, y_ve, y_vn, true_and, and_true]; exact w6
    · exact w7
    · intro i hi; have := w8 i hi; simp (disch := omega) only [W_m_tables, W_m_weeks, W_m_runs, W_m_surprises, W_m_sums, W_m_settings, W_m_sizes, W_m_guesses, W_m_shares, W_m_memories, W_m_ages, W_m_surprisesOf, W_m_told, pu_e, pu_n, y_ue, y_un, y_ve, y_vn, true_and, and_true]; exact this
    · intro c hc hm
      have := w9 c hc
      have hq := yq_lt c hc
      by_cases e : c = d
      · subst e
        simp (disch := omega) only [W_m_tables, W_m_weeks, W_m_runs, W_m_surprises, W_m_sums, W_m_settings, W_m_sizes, W_m_guesses, W_m_shares, W_m_memories, W_m_ages, W_m_surprisesOf, W_m_told, pu_e, pu_n, y_ue, y_un, y_ve, y_vn, true_and, and_true]
      · have hne : ¬ yq c = yq d := fun z => e (yq_inj c hc d hd z)
        simp (disch := omega) only [W_m_tables, W_m_weeks, W_m_runs, W_m_surprises, W_m_sums, W_m_settings, W_m_sizes, W_m_guesses, W_m_shares, W_m_memories, W_m_ages, W_m_surprisesOf, W_m_told, pu_e, pu_n, y_ue, y_un, y_ve, y_vn, true_and, and_true] at hm ⊢
        exact this hm
    · intro c hc
      have := w10 c hc
      have hq := yq_lt c hc
      simp (disch := omega) only [W_m_tables, W_m_weeks, W_m_runs, W_m_surprises, W_m_sums, W_m_settings, W_m_sizes, W_m_guesses, W_m_shares, W_m_memories, W_m_ages, W_m_surprisesOf, W_m_told, pu_e, pu_n, y_ue, y_un, y_ve, y_vn, true_and, and_true]
      exact this
    · simp (disch := omega) only [W_m_tables, W_m_weeks, W_m_runs, W_m_surprises, W_m_sums, W_m_settings, W_m_sizes, W_m_guesses, W_m_shares, W_m_memories, W_m_ages, W_m_surprisesOf, W_m_told, pu_e, pu_n, y_ue, y_un, y_ve, y_vn, true_and, and_true]; exact w11
  · rw [if_neg z]
    obtain ⟨m1, m2⟩ := hmv (by omega)
    have hmul : yDf ρ (yq d) * ρ 303 ≤ 1000 * 10 := Nat.mul_le_mul b3 i2.2.2.2.1
    have hS : ρ 307 % 10 < 10 := Nat.mod_lt _ (by omega)
    have hcm : (if 1 < yDf ρ (yq d) * ρ 303 / 10 then nI (yDf ρ (yq d) * ρ 303 / 10) else nI 1) = nI (yMv ρ (yq d)) := by
      unfold yMv
      by_cases q : 1 < yDf ρ (yq d) * ρ 303 / 10
      · rw [if_pos q, if_pos q]
      · rw [if_neg q, if_neg q]
    have hnv : (if ρ (106 + yq d) ≤ yBl ρ (yq d) then nI (yBl ρ (yq d)) - nI (yMv ρ (yq d)) else nI (yBl ρ (yq d)) + nI (yMv ρ (yq d))) = nI (yNv ρ (yq d)) := by
      unfold yNv
      unfold yDf at m2
      by_cases q : ρ (106 + yq d) ≤ yBl ρ (yq d)
      · rw [if_pos q] at m2
        rw [if_pos q, if_pos q, y_Isub (by omega)]
      · rw [if_neg q, if_neg q, y_Iadd]
    have hns : f_X7_noteSurprise (W_mk (W_tables w) (W_weeks w) (W_runs w) (W_surprises w) (W_sums w) (W_settings w) (W_sizes w) (W_guesses w) (W_shares w) (W_memories w) (upd (W_ages w) d (nI 0)) (W_surprisesOf w) (W_told w)) (nI (10 * a + b)) (nI (yBl ρ (yq d))) (nI (ρ (106 + yq d))) = some ((), (W_mk (W_tables w) (W_weeks w) (W_runs w) (nI (ρ 307 + 1)) (W_sums w) (W_settings w) (W_sizes w) (W_guesses w) (W_shares w) (W_memories w) (upd (W_ages w) d (nI 0)) (W_surprisesOf w) (upd (upd (upd (upd (W_told w) (ρ 307 % 10 * 4) (nI (10 * a + b))) (ρ 307 % 10 * 4 + 1) (nI (yBl ρ (yq d)))) (ρ 307 % 10 * 4 + 2) (nI (ρ (106 + yq d)))) (ρ 307 % 10 * 4 + 3) (nI (ρ 305))))) := by
      unfold f_X7_noteSurprise
      simp (disch := omega) only [y_c0, y_c1, y_c10, y_c100, y_c1000, y_c10000, y_c100000, y_c106, y_c112, y_c116, y_c127, y_c128, y_c13, y_c14, y_c155, y_c2, y_c20, y_c200, y_c204, y_c21, y_c253, y_c255, y_c3, y_c30, y_c302, y_c303, y_c304, y_c305, y_c306, y_c307, y_c308, y_c309, y_c310, y_c311, y_c312, y_c313, y_c314, y_c315, y_c316, y_c32, y_c33, y_c353, y_c39, y_c4, y_c40, y_c44, y_c4589, y_c48, y_c49, y_c5, y_c512, y_c54, y_c57, y_c59, y_c6, y_c62, y_c64, y_c7, y_c8, y_c9, y_c99, y_c9999, y_d0, y_d1, y_d10, y_d100, y_d1000000, y_d1442695040888963407, y_d2, y_d20, y_d255, y_d3, y_d4, y_d40, y_d4294967295, y_d48, y_d5, y_d50, y_d54, y_d57, y_d6364136223846793005, y_d7, y_d9, y_d9999, y_dR, y_dS, y_dk, y_nar0, y_nar1, y_Ilt, y_Ile, y_Ieq, y_Iadd, y_Imul, y_Idiv, y_Llt, y_Lle, y_Leq, y_Ladd, y_Lmul, y_Ldiv, y_I2l, y_L2i, y_shn, y_or, y_and, y_bn1, y_bn0, y_inb, y_cl, y_gle, y_gge, y_ggt, y_glt, y_geq, if_pos, if_neg, if_true, if_false, Option.bind_some, W_m_tables, W_m_weeks, W_m_runs, W_m_surprises, W_m_sums, W_m_settings, W_m_sizes, W_m_guesses, W_m_shares, W_m_memories, W_m_ages, W_m_surprisesOf, W_m_told, pu_e, pu_n, y_ue, y_un, y_ve, y_vn, true_and, and_true, w6, w4, y_Irem2]
    refine ⟨(W_mk (W_tables w) (W_weeks w) (W_runs w) (nI (ρ 307 + 1)) (W_sums w) (W_settings w) (W_sizes w) (W_guesses w) (W_shares w) (upd (W_memories w) d (nI (yNv ρ (yq d)))) (upd (W_ages w) d (nI 0)) (upd (W_surprisesOf w) d (nI (ρ (253 + yq d) + 1))) (upd (upd (upd (upd (W_told w) (ρ 307 % 10 * 4) (nI (10 * a + b))) (ρ 307 % 10 * 4 + 1) (nI (yBl ρ (yq d)))) (ρ 307 % 10 * 4 + 2) (nI (ρ (106 + yq d)))) (ρ 307 % 10 * 4 + 3) (nI (ρ 305)))), ?_, ⟨?_, ?_, ?_⟩, ?_, ?_, ?_, ?_, ?_, ?_, ?_, ?_⟩
    · unfold f_X7_learnPair
      by_cases q : ρ (106 + yq d) ≤ yBl ρ (yq d)
      · rw [if_pos q] at hnv
        simp (disch := omega) only [y_c0, y_c1, y_c10, y_c100, y_c1000, y_c10000, y_c100000, y_c106, y_c112, y_c116, y_c127, y_c128, y_c13, y_c14, y_c155, y_c2, y_c20, y_c200, y_c204, y_c21, y_c253, y_c255, y_c3, y_c30, y_c302, y_c303, y_c304, y_c305, y_c306, y_c307, y_c308, y_c309, y_c310, y_c311, y_c312, y_c313, y_c314, y_c315, y_c316, y_c32, y_c33, y_c353, y_c39, y_c4, y_c40, y_c44, y_c4589, y_c48, y_c49, y_c5, y_c512, y_c54, y_c57, y_c59, y_c6, y_c62, y_c64, y_c7, y_c8, y_c9, y_c99, y_c9999, y_d0, y_d1, y_d10, y_d100, y_d1000000, y_d1442695040888963407, y_d2, y_d20, y_d255, y_d3, y_d4, y_d40, y_d4294967295, y_d48, y_d5, y_d50, y_d54, y_d57, y_d6364136223846793005, y_d7, y_d9, y_d9999, y_dR, y_dS, y_dk, y_nar0, y_nar1, y_Ilt, y_Ile, y_Ieq, y_Iadd, y_Imul, y_Idiv, y_Llt, y_Lle, y_Leq, y_Ladd, y_Lmul, y_Ldiv, y_I2l, y_L2i, y_shn, y_or, y_and, y_bn1, y_bn0, y_inb, y_cl, y_gle, y_gge, y_ggt, y_glt, y_geq, if_pos, if_neg, if_true, if_false, Option.bind_some, ep, el, hdf, s0, hsh, sh, hns, so, s1, W_m_tables, W_m_weeks, W_m_runs, W_m_surprises, W_m_sums, W_m_settings, W_m_sizes, W_m_guesses, W_m_shares, W_m_memories, W_m_ages, W_m_surprisesOf, W_m_told, pu_e, pu_n, y_ue, y_un, y_ve, y_vn, true_and, and_true, hcm, hnv]
      · rw [if_neg q, y_Iadd] at hnv
        simp (disch := omega) only [y_c0, y_c1, y_c10, y_c100, y_c1000, y_c10000, y_c100000, y_c106, y_c112, y_c116, y_c127, y_c128, y_c13, y_c14, y_c155, y_c2, y_c20, y_c200, y_c204, y_c21, y_c253, y_c255, y_c3, y_c30, y_c302, y_c303, y_c304, y_c305, y_c306, y_c307, y_c308, y_c309, y_c310, y_c311, y_c312, y_c313, y_c314, y_c315, y_c316, y_c32, y_c33, y_c353, y_c39, y_c4, y_c40, y_c44, y_c4589, y_c48, y_c49, y_c5, y_c512, y_c54, y_c57, y_c59, y_c6, y_c62, y_c64, y_c7, y_c8, y_c9, y_c99, y_c9999, y_d0, y_d1, y_d10, y_d100, y_d1000000, y_d1442695040888963407, y_d2, y_d20, y_d255, y_d3, y_d4, y_d40, y_d4294967295, y_d48, y_d5, y_d50, y_d54, y_d57, y_d6364136223846793005, y_d7, y_d9, y_d9999, y_dR, y_dS, y_dk, y_nar0, y_nar1, y_Ilt, y_Ile, y_Ieq, y_Iadd, y_Imul, y_Idiv, y_Llt, y_Lle, y_Leq, y_Ladd, y_Lmul, y_Ldiv, y_I2l, y_L2i, y_shn, y_or, y_and, y_bn1, y_bn0, y_inb, y_cl, y_gle, y_gge, y_ggt, y_glt, y_geq, if_pos, if_neg, if_true, if_false, Option.bind_some, ep, el, hdf, s0, hsh, sh, hns, so, s1, W_m_tables, W_m_weeks, W_m_runs, W_m_surprises, W_m_sums, W_m_settings, W_m_sizes, W_m_guesses, W_m_shares, W_m_memories, W_m_ages, W_m_surprisesOf, W_m_told, pu_e, pu_n, y_ue, y_un, y_ve, y_vn, true_and, and_true, hcm, hnv]
    · rw [yFs_o (by omega) (by omega) (by omega) (by omega)]; exact w1
    · intro t ht
      rw [yFs_o (by omega) (by omega) (by omega) (by omega)] at ht
      rw [yFs_o (by omega) (by omega) (by omega) (by omega)]; exact w2 t ht
    · intro c hc
      have := w3 c hc
      have hq := yq_lt c hc
      rw [yFs_o (j := 57 + yq c) (by omega) (by omega) (by omega) (by omega), yFs_o (j := 106 + yq c) (by omega) (by omega) (by omega) (by omega)]
      by_cases e : c = d
      · subst e
        rw [yFs_m]
        simp (disch := omega) only [W_m_tables, W_m_weeks, W_m_runs, W_m_surprises, W_m_sums, W_m_settings, W_m_sizes, W_m_guesses, W_m_shares, W_m_memories, W_m_ages, W_m_surprisesOf, W_m_told, pu_e, pu_n, y_ue, y_un, y_ve, y_vn, true_and, and_true]; exact ⟨this.1, this.2.1⟩
      · have hne : ¬ yq c = yq d := fun z => e (yq_inj c hc d hd z)
        rw [yFs_o (j := 155 + yq c) (by omega) (by omega) (by omega) (by omega)]
        simp (disch := omega) only [W_m_tables, W_m_weeks, W_m_runs, W_m_surprises, W_m_sums, W_m_settings, W_m_sizes, W_m_guesses, W_m_shares, W_m_memories, W_m_ages, W_m_surprisesOf, W_m_told, pu_e, pu_n, y_ue, y_un, y_ve, y_vn, true_and, and_true]
        exact this
    · rw [yFs_o (by omega) (by omega) (by omega) (by omega)]; exact w4
    · rw [yFs_o (by omega) (by omega) (by omega) (by omega)]; exact w5
    · rw [yFs_7 hqd]; rfl
    · exact w7
    · intro i hi
      rw [yFs_o (by omega) (by omega) (by omega) (by omega)]; exact w8 i hi
    · intro c hc hm
      have := w9 c hc
      have hq := yq_lt c hc
      by_cases e : c = d
      · subst e
        rw [yFs_a]
        simp (disch := omega) only [W_m_tables, W_m_weeks, W_m_runs, W_m_surprises, W_m_sums, W_m_settings, W_m_sizes, W_m_guesses, W_m_shares, W_m_memories, W_m_ages, W_m_surprisesOf, W_m_told, pu_e, pu_n, y_ue, y_un, y_ve, y_vn, true_and, and_true]
      · have hne : ¬ yq c = yq d := fun z => e (yq_inj c hc d hd z)
        rw [yFs_o (by omega) (by omega) (by omega) (by omega)] at hm ⊢
        simp (disch := omega) only [W_m_tables, W_m_weeks, W_m_runs, W_m_surprises, W_m_sums, W_m_settings, W_m_sizes, W_m_guesses, W_m_shares, W_m_memories, W_m_ages, W_m_surprisesOf, W_m_told, pu_e, pu_n, y_ue, y_un, y_ve, y_vn, true_and, and_true]
        exact this hm
    · intro c hc
      have := w10 c hc
      have hq := yq_lt c hc
      by_cases e : c = d
      · subst e
        rw [yFs_s]
        simp (disch := omega) only [W_m_tables, W_m_weeks, W_m_runs, W_m_surprises, W_m_sums, W_m_settings, W_m_sizes, W_m_guesses, W_m_shares, W_m_memories, W_m_ages, W_m_surprisesOf, W_m_told, pu_e, pu_n, y_ue, y_un, y_ve, y_vn, true_and, and_true]
      · have hne : ¬ yq c = yq d := fun z => e (yq_inj c hc d hd z)
        rw [yFs_o (by omega) (by omega) (by omega) (by omega)]
        simp (disch := omega) only [W_m_tables, W_m_weeks, W_m_runs, W_m_surprises, W_m_sums, W_m_settings, W_m_sizes, W_m_guesses, W_m_shares, W_m_memories, W_m_ages, W_m_surprisesOf, W_m_told, pu_e, pu_n, y_ue, y_un, y_ve, y_vn, true_and, and_true]
        exact this
    · intro k hk hk2 j hj
      rw [yFs_7 hqd] at hk2 ⊢
      rw [show ρ 307 + 1 - 1 - k = ρ 307 - k by omega]
      by_cases k0 : k = 0
      · subst k0
        have q : j = 0 ∨ j = 1 ∨ j = 2 ∨ j = 3 := by omega
        rcases q with q | q | q | q <;> subst q
        · rw [show 313 + 4 * 0 + 0 = 313 from rfl, yFs_13 hqd, show ρ 307 - 0 = ρ 307 from rfl]; simp (disch := omega) only [W_m_tables, W_m_weeks, W_m_runs, W_m_surprises, W_m_sums, W_m_settings, W_m_sizes, W_m_guesses, W_m_shares, W_m_memories, W_m_ages, W_m_surprisesOf, W_m_told, pu_e, pu_n, y_ue, y_un, y_ve, y_vn, true_and, and_true]
        · rw [show 313 + 4 * 0 + 1 = 314 from rfl, yFs_14 hqd, show ρ 307 - 0 = ρ 307 from rfl]; simp (disch := omega) only [W_m_tables, W_m_weeks, W_m_runs, W_m_surprises, W_m_sums, W_m_settings, W_m_sizes, W_m_guesses, W_m_shares, W_m_memories, W_m_ages, W_m_surprisesOf, W_m_told, pu_e, pu_n, y_ue, y_un, y_ve, y_vn, true_and, and_true]
        · rw [show 313 + 4 * 0 + 2 = 315 from rfl, yFs_15 hqd, show ρ 307 - 0 = ρ 307 from rfl]; simp (disch := omega) only [W_m_tables, W_m_weeks, W_m_runs, W_m_surprises, W_m_sums, W_m_settings, W_m_sizes, W_m_guesses, W_m_shares, W_m_memories, W_m_ages, W_m_surprisesOf, W_m_told, pu_e, pu_n, y_ue, y_un, y_ve, y_vn, true_and, and_true]
        · rw [show 313 + 4 * 0 + 3 = 316 from rfl, yFs_16 hqd, show ρ 307 - 0 = ρ 307 from rfl]; simp (disch := omega) only [W_m_tables, W_m_weeks, W_m_runs, W_m_surprises, W_m_sums, W_m_settings, W_m_sizes, W_m_guesses, W_m_shares, W_m_memories, W_m_ages, W_m_surprisesOf, W_m_told, pu_e, pu_n, y_ue, y_un, y_ve, y_vn, true_and, and_true]
      · have hx : ¬ (ρ 307 - k) % 10 = ρ 307 % 10 := by omega
        rw [yFs_t hqd (by omega) (by omega)]
        simp (disch := omega) only [W_m_tables, W_m_weeks, W_m_runs, W_m_surprises, W_m_sums, W_m_settings, W_m_sizes, W_m_guesses, W_m_shares, W_m_memories, W_m_ages, W_m_surprisesOf, W_m_told, pu_e, pu_n, y_ue, y_un, y_ve, y_vn, true_and, and_true]
        have := w11 (k - 1) (by omega) (by omega) j hj
        rw [show ρ 307 - 1 - (k - 1) = ρ 307 - k by omega, show 313 + 4 * (k - 1) + j = 313 + 4 * k + j - 4 by omega] at this
        exact this
