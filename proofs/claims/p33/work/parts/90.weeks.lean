def yWk (ρ : Nat → Nat) : Nat → Nat := fun j => if 155 ≤ j ∧ j < 204 then (if 0 < ρ j ∧ ρ 304 < ρ (j + 49) + 1 then 0 else ρ j) else if 204 ≤ j ∧ j < 253 then (if 0 < ρ (j - 49) then (if ρ 304 < ρ j + 1 then 0 else ρ j + 1) else 0) else if j = 305 then ρ 305 + 1 else ρ j
theorem yWk_m (ρ : Nat → Nat) {q : Nat} (h : q < 49) : yWk ρ (155 + q) = if 0 < ρ (155 + q) ∧ ρ 304 < ρ (204 + q) + 1 then 0 else ρ (155 + q) := by
  unfold yWk
  rw [if_pos (by omega), show 155 + q + 49 = 204 + q by omega]
theorem yWk_a (ρ : Nat → Nat) {q : Nat} (h : q < 49) : yWk ρ (204 + q) = if 0 < ρ (155 + q) then (if ρ 304 < ρ (204 + q) + 1 then 0 else ρ (204 + q) + 1) else 0 := by
  unfold yWk
  rw [if_neg (by omega), if_pos (by omega), show 204 + q - 49 = 155 + q by omega]
theorem yWk_w (ρ : Nat → Nat) : yWk ρ 305 = ρ 305 + 1 := rfl
theorem yWk_o (ρ : Nat → Nat) {j : Nat} (h : j < 155 ∨ 253 ≤ j) (h2 : j ≠ 305) : yWk ρ j = ρ j := by
  unfold yWk
  rw [if_neg (by omega), if_neg (by omega), if_neg h2]
def yWn (ρ : Nat → Nat) : Nat → Nat → Nat
  | 0 => ρ
  | n + 1 => yWn (yWk ρ) n
theorem yWn_o {j : Nat} (h : j < 155 ∨ 253 ≤ j) (h2 : j ≠ 305) : ∀ n (ρ : Nat → Nat), yWn ρ n j = ρ j := by
  intro n
  induction n with
  | zero => intro ρ; rfl
  | succ n ih => intro ρ; exact (ih (yWk ρ)).trans (yWk_o ρ h h2)
theorem yWn_w : ∀ n (ρ : Nat → Nat), yWn ρ n 305 = ρ 305 + n := by
  intro n
  induction n with
  | zero => intro ρ; rfl
  | succ n ih => intro ρ; rw [yWn, ih, yWk_w]; omega
theorem INf.wk {N : Nat} {ρ : Nat → Nat} (h : INf N ρ) : INf (N + 1) (yWk ρ) := by
  obtain ⟨⟨i1, j2, j3⟩, i2, i3, i4, i5⟩ := h
  refine ⟨⟨?_, ?_, ?_⟩, ?_, ?_, ?_, ?_⟩
  · rw [yWk_o ρ (by omega) (by omega)]; exact i1
  · intro t ht
    rw [yWk_o ρ (by omega) (by omega)] at ht
    rw [yWk_o ρ (by omega) (by omega)]
    exact j2 t ht
  · intro c hc
    have hq := yq_lt c hc
    obtain ⟨b1, b2, b3, b4, b5, b6, b7⟩ := j3 c hc
    rw [yWk_o ρ (by omega) (by omega), yWk_o ρ (by omega) (by omega), yWk_o ρ (by omega) (by omega), yWk_m ρ hq]
    refine ⟨b1, b2, b3, ?_, b5, b6, ?_⟩
    · split <;> omega
    · split
      · omega
      · exact b7
  · rw [yWk_o ρ (by omega) (by omega), yWk_o ρ (by omega) (by omega), yWk_o ρ (by omega) (by omega)]; exact i2
  · rw [yWk_w, yWk_o ρ (by omega) (by omega), yWk_o ρ (by omega) (by omega), yWk_o ρ (by omega) (by omega)]; omega
  · intro c hc
    have hq := yq_lt c hc
    have := i4 c hc
    rw [yWk_a ρ hq, yWk_o ρ (by omega) (by omega)]
    refine ⟨?_, by omega⟩
    split
    · split <;> omega
    · omega
  · intro q hq hn
    obtain ⟨a1, a2, a3⟩ := i5 q hq hn
    rw [yWk_o ρ (by omega) (by omega), yWk_m ρ hq, yWk_a ρ hq, if_neg (by omega), if_neg (by omega)]
    exact ⟨a1, a2, rfl⟩
theorem INf.wn : ∀ n {N : Nat} {ρ : Nat → Nat}, INf N ρ → INf (N + n) (yWn ρ n) := by
  intro n
  induction n with
  | zero => intro N ρ h; exact h
  | succ n ih => intro N ρ h; rw [show N + (n + 1) = (N + 1) + n by omega]; exact ih h.wk
theorem c_wk19 {x1 x2 : Int32} {K : TW → Option (Int32 × TW)} {ρ : Nat → Nat} (hin : ∀ c, c < 21 → ρ (155 + yq c) ≤ 1000 ∧ ρ (204 + yq c) ≤ 20) (h4 : ρ 304 ≤ 20) : ∀ rr c n w, c + rr = 21 → rr < n → W_settings w 2 = nI (ρ 304) → (∀ d, c ≤ d → d < 21 → W_memories w d = nI (ρ (155 + yq d)) ∧ (0 < ρ (155 + yq d) → W_ages w d = nI (ρ (204 + yq d)))) →
    ∃ M A, f_X7_passWeeks_L19 x1 x2 K n (nI c) w = K (W_mk (W_tables w) (W_weeks w) (W_runs w) (W_surprises w) (W_sums w) (W_settings w) (W_sizes w) (W_guesses w) (W_shares w) (M) (A) (W_surprisesOf w) (W_told w)) ∧ (∀ d, c ≤ d → d < 21 → M d = nI (yWk ρ (155 + yq d)) ∧ (0 < yWk ρ (155 + yq d) → A d = nI (yWk ρ (204 + yq d)))) ∧ ∀ d, d < c → M d = W_memories w d ∧ A d = W_ages w d := by
  intro rr
  induction rr with
  | zero =>
    intro c n w hk hn _ _
    obtain ⟨n, rfl⟩ : ∃ m, n = m + 1 := ⟨n - 1, by omega⟩
    refine ⟨W_memories w, W_ages w, ?_, fun d h1 h2 => by omega, fun d _ => ⟨rfl, rfl⟩⟩
    rw [f_X7_passWeeks_L19, show c = 21 by omega]
    exact if_pos (by decide)
  | succ rr ih =>
    intro c n w hk hn hs hm
    obtain ⟨n, rfl⟩ : ∃ m, n = m + 1 := ⟨n - 1, by omega⟩
    have hq := yq_lt c (by omega)
    obtain ⟨m1, m2⟩ := hm c (by omega) (by omega)
    obtain ⟨b1, b2⟩ := hin c (by omega)
    by_cases q : 0 < ρ (155 + yq c)
    · have m3 := m2 q
      by_cases q2 : ρ 304 < ρ (204 + yq c) + 1
      · obtain ⟨M, A, e, e1, e2⟩ := ih (c + 1) n (W_mk (W_tables w) (W_weeks w) (W_runs w) (W_surprises w) (W_sums w) (W_settings w) (W_sizes w) (W_guesses w) (W_shares w) (upd (W_memories w) c (nI 0)) (upd (upd (W_ages w) c (nI (ρ (204 + yq c) + 1))) c (nI 0)) (W_surprisesOf w) (W_told w)) (by omega) (by omega) hs (by
          intro d h1 h2
          have := hm d (by omega) h2
          simp (disch := omega) only [W_m_tables, W_m_weeks, W_m_runs, W_m_surprises, W_m_sums, W_m_settings, W_m_sizes, W_m_guesses, W_m_shares, W_m_memories, W_m_ages, W_m_surprisesOf, W_m_told, pu_e, pu_n, y_ue, y_un, y_ve, y_vn, true_and, and_true]
          exact this)
        refine ⟨M, A, ?_, ?_, ?_⟩
        · rw [f_X7_passWeeks_L19]
          simp (disch := omega) only [y_c0, y_c1, y_c10, y_c100, y_c1000, y_c10000, y_c100000, y_c106, y_c112, y_c116, y_c127, y_c128, y_c13, y_c14, y_c155, y_c2, y_c20, y_c200, y_c204, y_c21, y_c253, y_c255, y_c3, y_c30, y_c302, y_c303, y_c304, y_c305, y_c306, y_c307, y_c308, y_c309, y_c310, y_c311, y_c312, y_c313, y_c314, y_c315, y_c316, y_c32, y_c33, y_c353, y_c39, y_c4, y_c40, y_c44, y_c4589, y_c48, y_c49, y_c5, y_c512, y_c54, y_c57, y_c59, y_c6, y_c62, y_c64, y_c7, y_c8, y_c9, y_c99, y_c9999, y_d0, y_d1, y_d10, y_d100, y_d1000000, y_d1442695040888963407, y_d2, y_d20, y_d255, y_d3, y_d4, y_d40, y_d4294967295, y_d48, y_d5, y_d50, y_d54, y_d57, y_d6364136223846793005, y_d7, y_d9, y_d9999, y_dR, y_dS, y_dk, y_nar0, y_nar1, y_Ilt, y_Ile, y_Ieq, y_Iadd, y_Imul, y_Idiv, y_Llt, y_Lle, y_Leq, y_Ladd, y_Lmul, y_Ldiv, y_I2l, y_L2i, y_shn, y_or, y_and, y_bn1, y_bn0, y_inb, y_cl, y_gle, y_gge, y_ggt, y_glt, y_geq, if_pos, if_neg, if_true, if_false, Option.bind_some, f_X7_makeOlder, f_X7_hasMemory, f_X7_forget, c_isIn, m1, m3, hs, y_ve, W_m_tables, W_m_weeks, W_m_runs, W_m_surprises, W_m_sums, W_m_settings, W_m_sizes, W_m_guesses, W_m_shares, W_m_memories, W_m_ages, W_m_surprisesOf, W_m_told, pu_e, pu_n, y_ue, y_un, y_ve, y_vn, true_and, and_true]
          exact e
        · intro d h1 h2
          by_cases z : d = c
          · have := e2 d (by omega)
            simp (disch := omega) only [W_m_tables, W_m_weeks, W_m_runs, W_m_surprises, W_m_sums, W_m_settings, W_m_sizes, W_m_guesses, W_m_shares, W_m_memories, W_m_ages, W_m_surprisesOf, W_m_told, pu_e, pu_n, y_ue, y_un, y_ve, y_vn, true_and, and_true] at this
            rw [this.1, yWk_m ρ (yq_lt d h2), z, if_pos ⟨q, q2⟩]
            exact ⟨rfl, fun y => by omega⟩
          · exact e1 d (by omega) h2
        · intro d h1
          have := e2 d (by omega)
          simp (disch := omega) only [W_m_tables, W_m_weeks, W_m_runs, W_m_surprises, W_m_sums, W_m_settings, W_m_sizes, W_m_guesses, W_m_shares, W_m_memories, W_m_ages, W_m_surprisesOf, W_m_told, pu_e, pu_n, y_ue, y_un, y_ve, y_vn, true_and, and_true] at this
          exact this
      · obtain ⟨M, A, e, e1, e2⟩ := ih (c + 1) n (W_mk (W_tables w) (W_weeks w) (W_runs w) (W_surprises w) (W_sums w) (W_settings w) (W_sizes w) (W_guesses w) (W_shares w) (W_memories w) (upd (W_ages w) c (nI (ρ (204 + yq c) + 1))) (W_surprisesOf w) (W_told w)) (by omega) (by omega) hs (by
          intro d h1 h2
          have := hm d (by omega) h2
          simp (disch := omega) only [W_m_tables, W_m_weeks, W_m_runs, W_m_surprises, W_m_sums, W_m_settings, W_m_sizes, W_m_guesses, W_m_shares, W_m_memories, W_m_ages, W_m_surprisesOf, W_m_told, pu_e, pu_n, y_ue, y_un, y_ve, y_vn, true_and, and_true]
          exact this)
        refine ⟨M, A, ?_, ?_, ?_⟩
        · rw [f_X7_passWeeks_L19]
          simp (disch := omega) only [y_c0, y_c1, y_c10, y_c100, y_c1000, y_c10000, y_c100000, y_c106, y_c112, y_c116, y_c127, y_c128, y_c13, y_c14, y_c155, y_c2, y_c20, y_c200, y_c204, y_c21, y_c253, y_c255, y_c3, y_c30, y_c302, y_c303, y_c304, y_c305, y_c306, y_c307, y_c308, y_c309, y_c310, y_c311, y_c312, y_c313, y_c314, y_c315, y_c316, y_c32, y_c33, y_c353, y_c39, y_c4, y_c40, y_c44, y_c4589, y_c48, y_c49, y_c5, y_c512, y_c54, y_c57, y_c59, y_c6, y_c62, y_c64, y_c7, y_c8, y_c9, y_c99, y_c9999, y_d0, y_d1, y_d10, y_d100, y_d1000000, y_d1442695040888963407, y_d2, y_d20, y_d255, y_d3, y_d4, y_d40, y_d4294967295, y_d48, y_d5, y_d50, y_d54, y_d57, y_d6364136223846793005, y_d7, y_d9, y_d9999, y_dR, y_dS, y_dk, y_nar0, y_nar1, y_Ilt, y_Ile, y_Ieq, y_Iadd, y_Imul, y_Idiv, y_Llt, y_Lle, y_Leq, y_Ladd, y_Lmul, y_Ldiv, y_I2l, y_L2i, y_shn, y_or, y_and, y_bn1, y_bn0, y_inb, y_cl, y_gle, y_gge, y_ggt, y_glt, y_geq, if_pos, if_neg, if_true, if_false, Option.bind_some, f_X7_makeOlder, f_X7_hasMemory, f_X7_forget, c_isIn, m1, m3, hs, y_ve, W_m_tables, W_m_weeks, W_m_runs, W_m_surprises, W_m_sums, W_m_settings, W_m_sizes, W_m_guesses, W_m_shares, W_m_memories, W_m_ages, W_m_surprisesOf, W_m_told, pu_e, pu_n, y_ue, y_un, y_ve, y_vn, true_and, and_true]
          exact e
        · intro d h1 h2
          by_cases z : d = c
          · have := e2 d (by omega)
            simp (disch := omega) only [W_m_tables, W_m_weeks, W_m_runs, W_m_surprises, W_m_sums, W_m_settings, W_m_sizes, W_m_guesses, W_m_shares, W_m_memories, W_m_ages, W_m_surprisesOf, W_m_told, pu_e, pu_n, y_ue, y_un, y_ve, y_vn, true_and, and_true] at this
            rw [this.1, this.2, yWk_m ρ (yq_lt d h2), yWk_a ρ (yq_lt d h2), z, if_neg (by omega), if_pos q, if_neg q2]
            exact ⟨m1, fun _ => rfl⟩
          · exact e1 d (by omega) h2
        · intro d h1
          have := e2 d (by omega)
          simp (disch := omega) only [W_m_tables, W_m_weeks, W_m_runs, W_m_surprises, W_m_sums, W_m_settings, W_m_sizes, W_m_guesses, W_m_shares, W_m_memories, W_m_ages, W_m_surprisesOf, W_m_told, pu_e, pu_n, y_ue, y_un, y_ve, y_vn, true_and, and_true] at this
          exact this
    · obtain ⟨M, A, e, e1, e2⟩ := ih (c + 1) n w (by omega) (by omega) hs (fun d h1 h2 => hm d (by omega) h2)
      refine ⟨M, A, ?_, ?_, ?_⟩
      · rw [f_X7_passWeeks_L19]
        simp (disch := omega) only [y_c0, y_c1, y_c10, y_c100, y_c1000, y_c10000, y_c100000, y_c106, y_c112, y_c116, y_c127, y_c128, y_c13, y_c14, y_c155, y_c2, y_c20, y_c200, y_c204, y_c21, y_c253, y_c255, y_c3, y_c30, y_c302, y_c303, y_c304, y_c305, y_c306, y_c307, y_c308, y_c309, y_c310, y_c311, y_c312, y_c313, y_c314, y_c315, y_c316, y_c32, y_c33, y_c353, y_c39, y_c4, y_c40, y_c44, y_c4589, y_c48, y_c49, y_c5, y_c512, y_c54, y_c57, y_c59, y_c6, y_c62, y_c64, y_c7, y_c8, y_c9, y_c99, y_c9999, y_d0, y_d1, y_d10, y_d100, y_d1000000, y_d1442695040888963407, y_d2, y_d20, y_d255, y_d3, y_d4, y_d40, y_d4294967295, y_d48, y_d5, y_d50, y_d54, y_d57, y_d6364136223846793005, y_d7, y_d9, y_d9999, y_dR, y_dS, y_dk, y_nar0, y_nar1, y_Ilt, y_Ile, y_Ieq, y_Iadd, y_Imul, y_Idiv, y_Llt, y_Lle, y_Leq, y_Ladd, y_Lmul, y_Ldiv, y_I2l, y_L2i, y_shn, y_or, y_and, y_bn1, y_bn0, y_inb, y_cl, y_gle, y_gge, y_ggt, y_glt, y_geq, if_pos, if_neg, if_true, if_false, Option.bind_some, f_X7_makeOlder, f_X7_hasMemory, c_isIn, m1]
        exact e
      · intro d h1 h2
        by_cases z : d = c
        · have := e2 d (by omega)
          rw [this.1, yWk_m ρ (yq_lt d h2), z, if_neg (by omega), m1]
          exact ⟨rfl, fun y => absurd y q⟩
        · exact e1 d (by omega) h2
      · intro d h1
        exact e2 d (by omega)
theorem c_wk12 {m : Nat} {K : TW → Option (Int32 × TW)} (hm : m ≤ 20) : ∀ rr i n w ρ, i + rr = m → rr < n → (∀ c, c < 21 → ρ (155 + yq c) ≤ 1000 ∧ ρ (204 + yq c) ≤ 20) → ρ 304 ≤ 20 → W_settings w 2 = nI (ρ 304) → (∀ d, d < 21 → W_memories w d = nI (ρ (155 + yq d)) ∧ (0 < ρ (155 + yq d) → W_ages w d = nI (ρ (204 + yq d)))) →
    ∃ M A, f_X7_passWeeks_L12 (nI m) K n (nI i) w = K (W_mk (W_tables w) (W_weeks w) (W_runs w) (W_surprises w) (W_sums w) (W_settings w) (W_sizes w) (W_guesses w) (W_shares w) (M) (A) (W_surprisesOf w) (W_told w)) ∧ ∀ d, d < 21 → M d = nI (yWn ρ rr (155 + yq d)) ∧ (0 < yWn ρ rr (155 + yq d) → A d = nI (yWn ρ rr (204 + yq d))) := by
  intro rr
  induction rr with
  | zero =>
    intro i n w ρ hk hn h1 h2 h3 h4
    obtain ⟨n, rfl⟩ : ∃ m, n = m + 1 := ⟨n - 1, by omega⟩
    refine ⟨W_memories w, W_ages w, ?_, h4⟩
    rw [f_X7_passWeeks_L12]
    exact if_pos ((y_Ile (by omega) (by omega)).mpr (by omega))
  | succ rr ih =>
    intro i n w ρ hk hn h1 h2 h3 h4
    obtain ⟨n, rfl⟩ : ∃ m, n = m + 1 := ⟨n - 1, by omega⟩
    obtain ⟨F, hF, hF1⟩ := y_fuel
    obtain ⟨M, A, e, e1, -⟩ := c_wk19 (x1 := nI m) (x2 := nI i) (K := fun (y4g_this : TW) => (f_X7_passWeeks_L12 (nI m) K n (nI i + (1 : Int32)) y4g_this)) h1 h2 21 0 F w (by omega) (by omega) h3 (fun d _ hd => h4 d hd)
    obtain ⟨M2, A2, f, f1⟩ := ih (i + 1) n (W_mk (W_tables w) (W_weeks w) (W_runs w) (W_surprises w) (W_sums w) (W_settings w) (W_sizes w) (W_guesses w) (W_shares w) (M) (A) (W_surprisesOf w) (W_told w)) (yWk ρ) (by omega) (by omega) (by
      intro c hc
      have := h1 c hc
      rw [yWk_m ρ (yq_lt c hc), yWk_a ρ (yq_lt c hc)]
      constructor
      · split <;> omega
      · split
        · split <;> omega
        · omega) (by rw [yWk_o ρ (by omega) (by omega)]; exact h2) (by rw [yWk_o ρ (by omega) (by omega)]; exact h3) (fun d hd => e1 d (by omega) hd)
    refine ⟨M2, A2, ?_, f1⟩
    rw [f_X7_passWeeks_L12, if_neg (show ¬ nI m ≤ nI i from fun z => by have := (y_Ile (by omega) (by omega)).mp z; omega), hF]
    refine e.trans ?_
    rw [y_c1, y_Iadd]
    exact f
theorem c_weeks {w : TW} {ρ : Nat → Nat} {σ : Nat → Int64} {N m : Nat} (h : WRf w ρ σ) (hi : INf N ρ) (hm : m ≤ 20) : ∃ w', f_X7_passWeeks w (nI m) = some (nI (yct (fun c => yWn ρ m (155 + yq c)) 21), w') ∧ WRf w' (yWn ρ m) σ := by
  obtain ⟨F, hF, hF1⟩ := y_fuel
  have hi2 := hi.wn m
  obtain ⟨⟨w1, w2, w3⟩, w4, w5, w6, w7, w8, w9, w10, w11⟩ := h
  obtain ⟨⟨i1, j2, j3⟩, i2, i3, i4, i5⟩ := hi
  obtain ⟨M, A, e, e1⟩ := c_wk12 (K := fun (y5g_this : TW) => ((f_X7_memoryCount y5g_this).bind fun o6 => (some (o6.1, y5g_this)))) hm m 0 F (W_mk (W_tables w) (W_weeks w + nI m) (W_runs w) (W_surprises w) (W_sums w) (W_settings w) (W_sizes w) (W_guesses w) (W_shares w) (W_memories w) (W_ages w) (W_surprisesOf w) (W_told w)) ρ (by omega) (by omega) (fun c hc => ⟨(j3 c hc).2.2.2.1, (i4 c hc).1⟩) i2.2.2.2.2 (w8 2 (by omega)) (fun d hd => ⟨(w3 d hd).2.2, w9 d hd⟩)
  have e2 := c_memoryCount (w := (W_mk (W_tables w) (W_weeks w + nI m) (W_runs w) (W_surprises w) (W_sums w) (W_settings w) (W_sizes w) (W_guesses w) (W_shares w) (M) (A) (W_surprisesOf w) (W_told w))) (f := fun c => yWn ρ m (155 + yq c)) (fun c hc => ⟨(e1 c hc).1, by have := (hi2.1.2.2 c hc).2.2.2.1; omega⟩)
  refine ⟨(W_mk (W_tables w) (W_weeks w + nI m) (W_runs w) (W_surprises w) (W_sums w) (W_settings w) (W_sizes w) (W_guesses w) (W_shares w) (M) (A) (W_surprisesOf w) (W_told w)), ?_, ⟨?_, ?_, ?_⟩, ?_, ?_, ?_, ?_, ?_, ?_, ?_, ?_⟩
  · unfold f_X7_passWeeks
    rw [hF]
    refine e.trans ?_
    show (f_X7_memoryCount (W_mk (W_tables w) (W_weeks w + nI m) (W_runs w) (W_surprises w) (W_sums w) (W_settings w) (W_sizes w) (W_guesses w) (W_shares w) (M) (A) (W_surprisesOf w) (W_told w))).bind _ = _
    rw [e2]; rfl
  · rw [yWn_o (by omega) (by omega)]; exact w1
  · intro t ht
    rw [yWn_o (by omega) (by omega)] at ht
    rw [yWn_o (by omega) (by omega)]; exact w2 t ht
  · intro c hc
    have hq := yq_lt c hc
    obtain ⟨a1, a2, a3⟩ := w3 c hc
    rw [yWn_o (j := 57 + yq c) (by omega) (by omega), yWn_o (j := 106 + yq c) (by omega) (by omega)]
    exact ⟨a1, a2, (e1 c hc).1⟩
  · rw [yWn_w, ← y_Iadd, ← w4]; rfl
  · rw [yWn_o (by omega) (by omega)]; exact w5
  · rw [yWn_o (by omega) (by omega)]; exact w6
  · exact w7
  · intro i hi
    rw [yWn_o (by omega) (by omega)]; exact w8 i hi
  · intro c hc hm2
    exact (e1 c hc).2 hm2
  · intro c hc
    have hq := yq_lt c hc
    rw [yWn_o (by omega) (by omega)]; exact w10 c hc
  · intro k hk hk2 j hj
    rw [yWn_o (by omega) (by omega)] at hk2
    rw [yWn_o (by omega) (by omega), yWn_o (by omega) (by omega)]
    exact w11 k hk hk2 j hj
theorem x_wk9 {x1 x2 : Int32} {K : (Nat → Int64) → Option (Int32 × (Nat → Int64))} {ρ : Nat → Nat} (hin : ∀ q, q < 49 → ρ (155 + q) ≤ 1000 ∧ ρ (204 + q) ≤ 20) (h4 : ρ 304 ≤ 20) : ∀ rr q n r, q + rr = 49 → rr < n → r 304 = lN (ρ 304) → (∀ p, q ≤ p → p < 49 → r (155 + p) = lN (ρ (155 + p)) ∧ r (204 + p) = lN (ρ (204 + p))) →
    ∃ r', f_X9_weeksOn_L9 353 x1 x2 K n (nI q) r = K r' ∧ (∀ p, q ≤ p → p < 49 → r' (155 + p) = lN (yWk ρ (155 + p)) ∧ r' (204 + p) = lN (yWk ρ (204 + p))) ∧ ∀ j, ¬ (155 + q ≤ j ∧ j < 204) → ¬ (204 + q ≤ j ∧ j < 253) → r' j = r j := by
  intro rr
  induction rr with
  | zero =>
    intro q n r hk hn _ _
    obtain ⟨n, rfl⟩ : ∃ m, n = m + 1 := ⟨n - 1, by omega⟩
    refine ⟨r, ?_, fun d h1 h2 => by omega, fun d _ _ => rfl⟩
    rw [f_X9_weeksOn_L9, show q = 49 by omega]
    exact if_pos (by decide)
  | succ rr ih =>
    intro q n r hk hn hs hm
    obtain ⟨n, rfl⟩ : ∃ m, n = m + 1 := ⟨n - 1, by omega⟩
    obtain ⟨m1, m2⟩ := hm q (by omega) (by omega)
    obtain ⟨b1, b2⟩ := hin q (by omega)
    have goal : ∀ v u, v = yWk ρ (155 + q) → u = yWk ρ (204 + q) → ∀ r1 : Nat → Int64, r1 (155 + q) = lN v → r1 (204 + q) = lN u → (∀ j, j ≠ 155 + q → j ≠ 204 + q → r1 j = r j) → (f_X9_weeksOn_L9 353 x1 x2 K (n + 1) (nI q) r = f_X9_weeksOn_L9 353 x1 x2 K n (nI (q + 1)) r1) → ∃ r', f_X9_weeksOn_L9 353 x1 x2 K (n + 1) (nI q) r = K r' ∧ (∀ p, q ≤ p → p < 49 → r' (155 + p) = lN (yWk ρ (155 + p)) ∧ r' (204 + p) = lN (yWk ρ (204 + p))) ∧ ∀ j, ¬ (155 + q ≤ j ∧ j < 204) → ¬ (204 + q ≤ j ∧ j < 253) → r' j = r j := by
      intro v u hv hu r1 h1 h2 h3 h5
      obtain ⟨r', e, e1, e2⟩ := ih (q + 1) n r1 (by omega) (by omega) (by rw [h3 304 (by omega) (by omega)]; exact hs) (fun p p1 p2 => by
        rw [h3 _ (by omega) (by omega), h3 _ (by omega) (by omega)]
        exact hm p (by omega) p2)
      refine ⟨r', h5.trans e, ?_, ?_⟩
      · intro p p1 p2
        by_cases z : p = q
        · rw [z, e2 _ (by omega) (by omega), e2 _ (by omega) (by omega), h1, h2, hv, hu]
          exact ⟨rfl, rfl⟩
        · exact e1 p (by omega) p2
      · intro j j1 j2
        rw [e2 j (by omega) (by omega), h3 j (by omega) (by omega)]
    by_cases q0 : 0 < ρ (155 + q)
    · by_cases q2 : ρ 304 < ρ (204 + q) + 1
      · refine goal 0 0 ?_ ?_ (vp_updL (vp_updL (vp_updL r (204 + q) (lN (ρ (204 + q) + 1))) (155 + q) (lN 0)) (204 + q) (lN 0)) ?_ ?_ ?_ ?_
        · rw [yWk_m ρ (by omega), if_pos ⟨q0, q2⟩]
        · rw [yWk_a ρ (by omega), if_pos q0, if_pos q2]
        · simp (disch := omega) only [W_m_tables, W_m_weeks, W_m_runs, W_m_surprises, W_m_sums, W_m_settings, W_m_sizes, W_m_guesses, W_m_shares, W_m_memories, W_m_ages, W_m_surprisesOf, W_m_told, pu_e, pu_n, y_ue, y_un, y_ve, y_vn, true_and, and_true]
        · simp (disch := omega) only [W_m_tables, W_m_weeks, W_m_runs, W_m_surprises, W_m_sums, W_m_settings, W_m_sizes, W_m_guesses, W_m_shares, W_m_memories, W_m_ages, W_m_surprisesOf, W_m_told, pu_e, pu_n, y_ue, y_un, y_ve, y_vn, true_and, and_true]
        · intro j j1 j2
          simp (disch := omega) only [W_m_tables, W_m_weeks, W_m_runs, W_m_surprises, W_m_sums, W_m_settings, W_m_sizes, W_m_guesses, W_m_shares, W_m_memories, W_m_ages, W_m_surprisesOf, W_m_told, pu_e, pu_n, y_ue, y_un, y_ve, y_vn, true_and, and_true]
        · rw [f_X9_weeksOn_L9]
          simp (disch := omega) only [y_c0, y_c1, y_c10, y_c100, y_c1000, y_c10000, y_c100000, y_c106, y_c112, y_c116, y_c127, y_c128, y_c13, y_c14, y_c155, y_c2, y_c20, y_c200, y_c204, y_c21, y_c253, y_c255, y_c3, y_c30, y_c302, y_c303, y_c304, y_c305, y_c306, y_c307, y_c308, y_c309, y_c310, y_c311, y_c312, y_c313, y_c314, y_c315, y_c316, y_c32, y_c33, y_c353, y_c39, y_c4, y_c40, y_c44, y_c4589, y_c48, y_c49, y_c5, y_c512, y_c54, y_c57, y_c59, y_c6, y_c62, y_c64, y_c7, y_c8, y_c9, y_c99, y_c9999, y_d0, y_d1, y_d10, y_d100, y_d1000000, y_d1442695040888963407, y_d2, y_d20, y_d255, y_d3, y_d4, y_d40, y_d4294967295, y_d48, y_d5, y_d50, y_d54, y_d57, y_d6364136223846793005, y_d7, y_d9, y_d9999, y_dR, y_dS, y_dk, y_nar0, y_nar1, y_Ilt, y_Ile, y_Ieq, y_Iadd, y_Imul, y_Idiv, y_Llt, y_Lle, y_Leq, y_Ladd, y_Lmul, y_Ldiv, y_I2l, y_L2i, y_shn, y_or, y_and, y_bn1, y_bn0, y_inb, y_cl, y_gle, y_gge, y_ggt, y_glt, y_geq, if_pos, if_neg, if_true, if_false, Option.bind_some, f_X9_weeksOn_J40, f_X9_weeksOn_J75, m1, m2, hs, y_ue, y_un]
      · refine goal (ρ (155 + q)) (ρ (204 + q) + 1) ?_ ?_ (vp_updL (vp_updL (vp_updL r (204 + q) (lN (ρ (204 + q) + 1))) (155 + q) (lN (ρ (155 + q)))) (204 + q) (lN (ρ (204 + q) + 1))) ?_ ?_ ?_ ?_
        · rw [yWk_m ρ (by omega), if_neg (by omega)]
        · rw [yWk_a ρ (by omega), if_pos q0, if_neg q2]
        · simp (disch := omega) only [W_m_tables, W_m_weeks, W_m_runs, W_m_surprises, W_m_sums, W_m_settings, W_m_sizes, W_m_guesses, W_m_shares, W_m_memories, W_m_ages, W_m_surprisesOf, W_m_told, pu_e, pu_n, y_ue, y_un, y_ve, y_vn, true_and, and_true]
        · simp (disch := omega) only [W_m_tables, W_m_weeks, W_m_runs, W_m_surprises, W_m_sums, W_m_settings, W_m_sizes, W_m_guesses, W_m_shares, W_m_memories, W_m_ages, W_m_surprisesOf, W_m_told, pu_e, pu_n, y_ue, y_un, y_ve, y_vn, true_and, and_true]
        · intro j j1 j2
          simp (disch := omega) only [W_m_tables, W_m_weeks, W_m_runs, W_m_surprises, W_m_sums, W_m_settings, W_m_sizes, W_m_guesses, W_m_shares, W_m_memories, W_m_ages, W_m_surprisesOf, W_m_told, pu_e, pu_n, y_ue, y_un, y_ve, y_vn, true_and, and_true]
        · rw [f_X9_weeksOn_L9]
          simp (disch := omega) only [y_c0, y_c1, y_c10, y_c100, y_c1000, y_c10000, y_c100000, y_c106, y_c112, y_c116, y_c127, y_c128, y_c13, y_c14, y_c155, y_c2, y_c20, y_c200, y_c204, y_c21, y_c253, y_c255, y_c3, y_c30, y_c302, y_c303, y_c304, y_c305, y_c306, y_c307, y_c308, y_c309, y_c310, y_c311, y_c312, y_c313, y_c314, y_c315, y_c316, y_c32, y_c33, y_c353, y_c39, y_c4, y_c40, y_c44, y_c4589, y_c48, y_c49, y_c5, y_c512, y_c54, y_c57, y_c59, y_c6, y_c62, y_c64, y_c7, y_c8, y_c9, y_c99, y_c9999, y_d0, y_d1, y_d10, y_d100, y_d1000000, y_d1442695040888963407, y_d2, y_d20, y_d255, y_d3, y_d4, y_d40, y_d4294967295, y_d48, y_d5, y_d50, y_d54, y_d57, y_d6364136223846793005, y_d7, y_d9, y_d9999, y_dR, y_dS, y_dk, y_nar0, y_nar1, y_Ilt, y_Ile, y_Ieq, y_Iadd, y_Imul, y_Idiv, y_Llt, y_Lle, y_Leq, y_Ladd, y_Lmul, y_Ldiv, y_I2l, y_L2i, y_shn, y_or, y_and, y_bn1, y_bn0, y_inb, y_cl, y_gle, y_gge, y_ggt, y_glt, y_geq, if_pos, if_neg, if_true, if_false, Option.bind_some, f_X9_weeksOn_J40, f_X9_weeksOn_J75, m1, m2, hs, y_ue, y_un]
    · have q1 : ρ (155 + q) = 0 := by omega
      have g1 : yWk ρ (155 + q) = 0 := by rw [yWk_m ρ (by omega), if_neg (by omega), q1]
      have g2 : yWk ρ (204 + q) = 0 := by rw [yWk_a ρ (by omega), if_neg q0]
      rw [q1] at m1
      by_cases q2 : ρ 304 < ρ (204 + q)
      · refine goal 0 0 g1.symm g2.symm (vp_updL (vp_updL (vp_updL r (204 + q) (lN (ρ (204 + q) + 0))) (155 + q) (lN 0)) (204 + q) (lN 0)) ?_ ?_ ?_ ?_
        · simp (disch := omega) only [W_m_tables, W_m_weeks, W_m_runs, W_m_surprises, W_m_sums, W_m_settings, W_m_sizes, W_m_guesses, W_m_shares, W_m_memories, W_m_ages, W_m_surprisesOf, W_m_told, pu_e, pu_n, y_ue, y_un, y_ve, y_vn, true_and, and_true]
        · simp (disch := omega) only [W_m_tables, W_m_weeks, W_m_runs, W_m_surprises, W_m_sums, W_m_settings, W_m_sizes, W_m_guesses, W_m_shares, W_m_memories, W_m_ages, W_m_surprisesOf, W_m_told, pu_e, pu_n, y_ue, y_un, y_ve, y_vn, true_and, and_true]
        · intro j j1 j2
          simp (disch := omega) only [W_m_tables, W_m_weeks, W_m_runs, W_m_surprises, W_m_sums, W_m_settings, W_m_sizes, W_m_guesses, W_m_shares, W_m_memories, W_m_ages, W_m_surprisesOf, W_m_told, pu_e, pu_n, y_ue, y_un, y_ve, y_vn, true_and, and_true]
        · rw [f_X9_weeksOn_L9]
          simp (disch := omega) only [y_c0, y_c1, y_c10, y_c100, y_c1000, y_c10000, y_c100000, y_c106, y_c112, y_c116, y_c127, y_c128, y_c13, y_c14, y_c155, y_c2, y_c20, y_c200, y_c204, y_c21, y_c253, y_c255, y_c3, y_c30, y_c302, y_c303, y_c304, y_c305, y_c306, y_c307, y_c308, y_c309, y_c310, y_c311, y_c312, y_c313, y_c314, y_c315, y_c316, y_c32, y_c33, y_c353, y_c39, y_c4, y_c40, y_c44, y_c4589, y_c48, y_c49, y_c5, y_c512, y_c54, y_c57, y_c59, y_c6, y_c62, y_c64, y_c7, y_c8, y_c9, y_c99, y_c9999, y_d0, y_d1, y_d10, y_d100, y_d1000000, y_d1442695040888963407, y_d2, y_d20, y_d255, y_d3, y_d4, y_d40, y_d4294967295, y_d48, y_d5, y_d50, y_d54, y_d57, y_d6364136223846793005, y_d7, y_d9, y_d9999, y_dR, y_dS, y_dk, y_nar0, y_nar1, y_Ilt, y_Ile, y_Ieq, y_Iadd, y_Imul, y_Idiv, y_Llt, y_Lle, y_Leq, y_Ladd, y_Lmul, y_Ldiv, y_I2l, y_L2i, y_shn, y_or, y_and, y_bn1, y_bn0, y_inb, y_cl, y_gle, y_gge, y_ggt, y_glt, y_geq, if_pos, if_neg, if_true, if_false, Option.bind_some, f_X9_weeksOn_J40, f_X9_weeksOn_J75, m1, m2, hs, y_ue, y_un]
      · refine goal 0 0 g1.symm g2.symm (vp_updL (vp_updL (vp_updL r (204 + q) (lN (ρ (204 + q) + 0))) (155 + q) (lN 0)) (204 + q) (lN 0)) ?_ ?_ ?_ ?_
        · simp (disch := omega) only [W_m_tables, W_m_weeks, W_m_runs, W_m_surprises, W_m_sums, W_m_settings, W_m_sizes, W_m_guesses, W_m_shares, W_m_memories, W_m_ages, W_m_surprisesOf, W_m_told, pu_e, pu_n, y_ue, y_un, y_ve, y_vn, true_and, and_true]
        · simp (disch := omega) only [W_m_tables, W_m_weeks, W_m_runs, W_m_surprises, W_m_sums, W_m_settings, W_m_sizes, W_m_guesses, W_m_shares, W_m_memories, W_m_ages, W_m_surprisesOf, W_m_told, pu_e, pu_n, y_ue, y_un, y_ve, y_vn, true_and, and_true]
        · intro j j1 j2
          simp (disch := omega) only [W_m_tables, W_m_weeks, W_m_runs, W_m_surprises, W_m_sums, W_m_settings, W_m_sizes, W_m_guesses, W_m_shares, W_m_memories, W_m_ages, W_m_surprisesOf, W_m_told, pu_e, pu_n, y_ue, y_un, y_ve, y_vn, true_and, and_true]
        · rw [f_X9_weeksOn_L9]
          simp (disch := omega) only [y_c0, y_c1, y_c10, y_c100, y_c1000, y_c10000, y_c100000, y_c106, y_c112, y_c116, y_c127, y_c128, y_c13, y_c14, y_c155, y_c2, y_c20, y_c200, y_c204, y_c21, y_c253, y_c255, y_c3, y_c30, y_c302, y_c303, y_c304, y_c305, y_c306, y_c307, y_c308, y_c309, y_c310, y_c311, y_c312, y_c313, y_c314, y_c315, y_c316, y_c32, y_c33, y_c353, y_c39, y_c4, y_c40, y_c44, y_c4589, y_c48, y_c49, y_c5, y_c512, y_c54, y_c57, y_c59, y_c6, y_c62, y_c64, y_c7, y_c8, y_c9, y_c99, y_c9999, y_d0, y_d1, y_d10, y_d100, y_d1000000, y_d1442695040888963407, y_d2, y_d20, y_d255, y_d3, y_d4, y_d40, y_d4294967295, y_d48, y_d5, y_d50, y_d54, y_d57, y_d6364136223846793005, y_d7, y_d9, y_d9999, y_dR, y_dS, y_dk, y_nar0, y_nar1, y_Ilt, y_Ile, y_Ieq, y_Iadd, y_Imul, y_Idiv, y_Llt, y_Lle, y_Leq, y_Ladd, y_Lmul, y_Ldiv, y_I2l, y_L2i, y_shn, y_or, y_and, y_bn1, y_bn0, y_inb, y_cl, y_gle, y_gge, y_ggt, y_glt, y_geq, if_pos, if_neg, if_true, if_false, Option.bind_some, f_X9_weeksOn_J40, f_X9_weeksOn_J75, m1, m2, hs, y_ue, y_un]
theorem INf.q {N : Nat} {ρ : Nat → Nat} (h : INf N ρ) : ∀ q, q < 49 → ρ (155 + q) ≤ 1000 ∧ ρ (204 + q) ≤ 20 ∧ ρ (8 + q) ≤ 1 := by
  intro q hq
  obtain ⟨⟨i1, j2, j3⟩, i2, i3, i4, i5⟩ := h
  by_cases z : ∃ c, c < 21 ∧ yq c = q
  · obtain ⟨c, hc, rfl⟩ := z
    exact ⟨(j3 c hc).2.2.2.1, (i4 c hc).1, (j3 c hc).1⟩
  · obtain ⟨a1, a2, a3⟩ := i5 q hq (fun c hc hck => z ⟨c, hc, hck⟩)
    omega
theorem x_wk2 {N m : Nat} {K : (Nat → Int64) → Option (Int32 × (Nat → Int64))} {σ : Nat → Int64} (hm : m ≤ 20) (hN : N < 1000000) : ∀ rr i n r ρ, i + rr = m → rr < n → RRf r ρ σ → INf (N + i) ρ → ∃ r', f_X9_weeksOn_L2 353 (nI m) K n (nI i) r = K r' ∧ RRf r' (yWn ρ rr) σ := by
  intro rr
  induction rr with
  | zero =>
    intro i n r ρ hk hn hr hi
    obtain ⟨n, rfl⟩ : ∃ m, n = m + 1 := ⟨n - 1, by omega⟩
    refine ⟨r, ?_, hr⟩
    rw [f_X9_weeksOn_L2]
    exact if_pos ((y_Ile (by omega) (by omega)).mpr (by omega))
  | succ rr ih =>
    intro i n r ρ hk hn hr hi
    obtain ⟨n, rfl⟩ : ∃ m, n = m + 1 := ⟨n - 1, by omega⟩
    obtain ⟨F, hF, hF1⟩ := y_fuel
    obtain ⟨r1, e, e1, e2⟩ := x_wk9 (x1 := nI m) (x2 := nI i) (K := (fun (y17g_p1 : Nat → Int64) => (if inb (305 : Int32) 353 = true then (if inb (305 : Int32) 353 = true then (f_X9_weeksOn_L2 353 (nI m) K n (nI i + (1 : Int32)) (vp_updL y17g_p1 (305 : Int32).toNatClampNeg ((y17g_p1 (305 : Int32).toNatClampNeg) + (1 : Int64)))) else none) else none))) (fun q hq => ⟨(hi.q q hq).1, (hi.q q hq).2.1⟩) hi.2.1.2.2.2.2 49 0 F r (by omega) (by omega) (hr.1 304 (by omega) (by omega)) (fun p _ hp => ⟨hr.1 _ (by omega) (by omega), hr.1 _ (by omega) (by omega)⟩)
    have h5 : r1 305 = lN (ρ 305) := (e2 305 (by omega) (by omega)).trans (hr.1 305 (by omega) (by omega))
    obtain ⟨r', f, f1⟩ := ih (i + 1) n (vp_updL r1 305 (lN (ρ 305 + 1))) (yWk ρ) (by omega) (by omega) (by
      refine ⟨fun j hj hj2 => ?_, fun j hj => ?_⟩
      · by_cases z : j = 305
        · rw [y_ue z, z, yWk_w]
        · rw [y_un z]
          by_cases z1 : 155 ≤ j ∧ j < 204
          · have := (e1 (j - 155) (by omega) (by omega)).1
            rw [show 155 + (j - 155) = j by omega] at this
            exact this
          · by_cases z2 : 204 ≤ j ∧ j < 253
            · have := (e1 (j - 204) (by omega) (by omega)).2
              rw [show 204 + (j - 204) = j by omega] at this
              exact this
            · rw [e2 j (by omega) (by omega), yWk_o ρ (by omega) z]
              exact hr.1 j hj hj2
      · rw [y_un (by omega), e2 _ (by omega) (by omega)]
        exact hr.2 j hj) hi.wk
    refine ⟨r', ?_, f1⟩
    rw [f_X9_weeksOn_L2, if_neg (show ¬ nI m ≤ nI i from fun z => by have := (y_Ile (by omega) (by omega)).mp z; omega), hF]
    refine e.trans ?_
    simp (disch := omega) only [y_c0, y_c1, y_c10, y_c100, y_c1000, y_c10000, y_c100000, y_c106, y_c112, y_c116, y_c127, y_c128, y_c13, y_c14, y_c155, y_c2, y_c20, y_c200, y_c204, y_c21, y_c253, y_c255, y_c3, y_c30, y_c302, y_c303, y_c304, y_c305, y_c306, y_c307, y_c308, y_c309, y_c310, y_c311, y_c312, y_c313, y_c314, y_c315, y_c316, y_c32, y_c33, y_c353, y_c39, y_c4, y_c40, y_c44, y_c4589, y_c48, y_c49, y_c5, y_c512, y_c54, y_c57, y_c59, y_c6, y_c62, y_c64, y_c7, y_c8, y_c9, y_c99, y_c9999, y_d0, y_d1, y_d10, y_d100, y_d1000000, y_d1442695040888963407, y_d2, y_d20, y_d255, y_d3, y_d4, y_d40, y_d4294967295, y_d48, y_d5, y_d50, y_d54, y_d57, y_d6364136223846793005, y_d7, y_d9, y_d9999, y_dR, y_dS, y_dk, y_nar0, y_nar1, y_Ilt, y_Ile, y_Ieq, y_Iadd, y_Imul, y_Idiv, y_Llt, y_Lle, y_Leq, y_Ladd, y_Lmul, y_Ldiv, y_I2l, y_L2i, y_shn, y_or, y_and, y_bn1, y_bn0, y_inb, y_cl, y_gle, y_gge, y_ggt, y_glt, y_geq, if_pos, if_neg, if_true, if_false, Option.bind_some, h5]
    exact f
theorem s_weeks {N : Nat} {w : TW} {r : Nat → Int64} {ρ : Nat → Nat} {σ : Nat → Int64} (h : ST N w r ρ σ) (hN : N < 1000000) {m : Nat} (hm : m ≤ 20) :
    ∃ w' r' n, f_X7_passWeeks w (nI m) = some (nI n, w') ∧ f_X9_weeksOn 353 r (nI m) = some (nI n, r') ∧ ST (N + m) w' r' (yWn ρ m) σ ∧ n ≤ 21 := by
  obtain ⟨hw, hr, hi⟩ := h
  obtain ⟨F, hF, hF1⟩ := y_fuel
  obtain ⟨w', e, e1⟩ := c_weeks hw hi hm
  obtain ⟨r', f, f1⟩ := x_wk2 (K := (fun (y20g_p1 : Nat → Int64) => ((f_X9_count 353 y20g_p1 (155 : Int32)).bind fun o21 => (some ((Int64.toInt32 o21.1), y20g_p1))))) hm hN m 0 F r ρ (by omega) (by omega) hr hi
  have hi2 := hi.wn m
  refine ⟨w', r', yct (fun c => yWn ρ m (155 + yq c)) 21, e, ?_, ⟨e1, f1, hi2⟩, yct_le _ 21⟩
  unfold f_X9_weeksOn
  rw [hF]
  refine f.trans ?_
  have g := x_count (base := 155) (r := r') (f := fun q => yWn ρ m (155 + q)) (by omega) (fun q hq => ⟨f1.1 _ (by omega) (by omega), by have := (hi2.q q hq).1; omega⟩)
  have g2 := yct_q (f := fun q => yWn ρ m (155 + q)) (fun q hq hn => (hi2.2.2.2.2 q hq hn).2.1)
  show (f_X9_count 353 r' (nI 155)).bind _ = _
  rw [g, g2]
  show some ((lN _).toInt32, r') = _
  rw [y_L2i]
