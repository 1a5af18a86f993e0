theorem RRf.congr {r r' : Nat → Int64} {ρ : Nat → Nat} {σ : Nat → Int64} (h : RRf r ρ σ) (e : ∀ i, i < 353 → r' i = r i) : RRf r' ρ σ := by
  obtain ⟨r1, r2⟩ := h
  refine ⟨fun i hi hi2 => ?_, fun i hi => ?_⟩
  · rw [e i hi]; exact r1 i hi hi2
  · rw [e (308 + i) (by omega)]; exact r2 i hi
theorem y_cpy {α : Type} {f g : Nat → α} {n j : Nat} {m : Int32} (hm : m = nI n) (h : j < n) (hn : n < 2147483648) : va_cpy f g (0 : Int32).toNatClampNeg (0 : Int32).toNatClampNeg m.toNatClampNeg j = f j := by
  subst hm
  rw [y_cl hn, show (0 : Int32).toNatClampNeg = 0 from rfl, pk_cpy_in (by omega) (by omega)]
  congr 1
  omega
theorem c_take {w v : TW} {ρ : Nat → Nat} {σ : Nat → Int64} (h : WRf v ρ σ) (h7 : ρ 0 ≤ 7) : ∃ w', f_X7_takeFrom w v = some ((), w') ∧ WRf w' ρ σ := by
  obtain ⟨⟨w1, w2, w3⟩, w4, w5, w6, w7, w8, w9, w10, w11⟩ := h
  refine ⟨_, rfl, ⟨?_, ?_, ?_⟩, ?_, ?_, ?_, ?_, ?_, ?_, ?_, ?_⟩
  · exact w1
  · intro t ht
    exact (y_cpy rfl (show t < 7 by omega) (by omega)).trans (w2 t ht)
  · intro c hc
    obtain ⟨a1, a2, a3⟩ := w3 c hc
    exact ⟨(y_cpy rfl hc (by omega)).trans a1, (y_cpy rfl hc (by omega)).trans a2, (y_cpy rfl hc (by omega)).trans a3⟩
  · exact w4
  · exact w5
  · exact w6
  · intro i hi
    exact (y_cpy rfl hi (by omega)).trans (w7 i hi)
  · intro i hi
    exact (y_cpy rfl hi (by omega)).trans (w8 i hi)
  · intro c hc hm
    exact (y_cpy rfl hc (by omega)).trans (w9 c hc hm)
  · intro c hc
    exact (y_cpy rfl hc (by omega)).trans (w10 c hc)
  · intro k hk hk2 j hj
    have : (ρ 307 - 1 - k) % 10 < 10 := Nat.mod_lt _ (by omega)
    exact (y_cpy rfl (show (ρ 307 - 1 - k) % 10 * 4 + j < 40 by omega) (by omega)).trans (w11 k hk hk2 j hj)
theorem x_cpL {n1 n3 a b : Nat} {g : Nat → Int64} (h1 : a + 353 ≤ n1) (h3 : b + 353 ≤ n3) (b1 : n1 < 100000) (b3 : n3 < 100000) : ∀ rr k n r, k + rr = 353 → rr < n → f_X9_copyWorld_L3 n1 n3 g (nI a) (nI b) n (nI k) r = some ((), fun j => if b + k ≤ j ∧ j < b + 353 then g (a + (j - b)) else r j) := by
  intro rr
  induction rr with
  | zero =>
    intro k n r hk hn
    obtain ⟨n, rfl⟩ : ∃ m, n = m + 1 := ⟨n - 1, by omega⟩
    rw [f_X9_copyWorld_L3, show k = 353 by omega]
    refine (if_pos (by decide)).trans ?_
    congr 2
    funext j
    rw [if_neg (by omega)]
  | succ rr ih =>
    intro k n r hk hn
    obtain ⟨n, rfl⟩ : ∃ m, n = m + 1 := ⟨n - 1, by omega⟩
    have := ih (k + 1) n (vp_updL r (b + k) (g (a + k))) (by omega) (by omega)
    rw [f_X9_copyWorld_L3]
    simp (disch := omega) only [y_c0, y_c1, y_c10, y_c100, y_c1000, y_c10000, y_c100000, y_c106, y_c112, y_c116, y_c127, y_c128, y_c13, y_c14, y_c155, y_c2, y_c20, y_c200, y_c204, y_c21, y_c253, y_c255, y_c3, y_c30, y_c302, y_c303, y_c304, y_c305, y_c306, y_c307, y_c308, y_c309, y_c310, y_c311, y_c312, y_c313, y_c314, y_c315, y_c316, y_c32, y_c33, y_c353, y_c39, y_c4, y_c40, y_c44, y_c4589, y_c48, y_c49, y_c5, y_c512, y_c54, y_c57, y_c59, y_c6, y_c62, y_c64, y_c7, y_c8, y_c9, y_c99, y_c9999, y_d0, y_d1, y_d10, y_d100, y_d1000000, y_d1442695040888963407, y_d2, y_d20, y_d255, y_d3, y_d4, y_d40, y_d4294967295, y_d48, y_d5, y_d50, y_d54, y_d57, y_d6364136223846793005, y_d7, y_d9, y_d9999, y_dR, y_dS, y_dk, y_nar0, y_nar1, y_Ilt, y_Ile, y_Ieq, y_Iadd, y_Imul, y_Idiv, y_Llt, y_Lle, y_Leq, y_Ladd, y_Lmul, y_Ldiv, y_I2l, y_L2i, y_shn, y_or, y_and, y_bn1, y_bn0, y_inb, y_cl, y_gle, y_gge, y_ggt, y_glt, y_geq, if_pos, if_neg, if_true, if_false, Option.bind_some]
    refine this.trans ?_
    congr 2
    funext j
    by_cases e : j = b + k
    · rw [if_neg (by omega), if_pos (by omega), y_ue e, e]
      congr 1; omega
    · by_cases e2 : b + (k + 1) ≤ j ∧ j < b + 353
      · rw [if_pos e2, if_pos (by omega)]
      · rw [if_neg e2, if_neg (by omega), y_un e]
theorem x_copy {n1 n3 a b : Nat} {g r : Nat → Int64} (h1 : a + 353 ≤ n1) (h3 : b + 353 ≤ n3) (b1 : n1 < 100000) (b3 : n3 < 100000) : f_X9_copyWorld n1 n3 g r (nI a) (nI b) = some ((), fun j => if b ≤ j ∧ j < b + 353 then g (a + (j - b)) else r j) := x_cpL h1 h3 b1 b3 353 0 FUEL r rfl (by decide)
def y0 : Nat → Nat := fun j => if j = 302 then 50 else if j = 303 then 10 else if j = 304 then 4 else 0
theorem c_new22 {K : TW → Option (Unit × TW)} : ∀ rr k n w, k + rr = 4 → rr < n → ∃ s', f_X7_makeNew_L22 K n (nI k) w = K (W_mk (W_tables w) (W_weeks w) (W_runs w) (W_surprises w) (s') (W_settings w) (W_sizes w) (W_guesses w) (W_shares w) (W_memories w) (W_ages w) (W_surprisesOf w) (W_told w)) ∧ (∀ i, k ≤ i → i < 4 → s' i = 0) ∧ ∀ i, i < k → s' i = W_sums w i := by
  intro rr
  induction rr with
  | zero =>
    intro k n w hk hn
    obtain ⟨n, rfl⟩ : ∃ m, n = m + 1 := ⟨n - 1, by omega⟩
    refine ⟨W_sums w, ?_, fun i h1 h2 => by omega, fun i _ => rfl⟩
    rw [f_X7_makeNew_L22, show k = 4 by omega]
    exact if_pos (by decide)
  | succ rr ih =>
    intro k n w hk hn
    obtain ⟨n, rfl⟩ : ∃ m, n = m + 1 := ⟨n - 1, by omega⟩
    obtain ⟨s', e, e1, e2⟩ := ih (k + 1) n (W_mk (W_tables w) (W_weeks w) (W_runs w) (W_surprises w) (vp_updL (W_sums w) k (lN 0)) (W_settings w) (W_sizes w) (W_guesses w) (W_shares w) (W_memories w) (W_ages w) (W_surprisesOf w) (W_told w)) (by omega) (by omega)
    refine ⟨s', ?_, ?_, ?_⟩
    · rw [f_X7_makeNew_L22]
      simp (disch := omega) only [y_c0, y_c1, y_c10, y_c100, y_c1000, y_c10000, y_c100000, y_c106, y_c112, y_c116, y_c127, y_c128, y_c13, y_c14, y_c155, y_c2, y_c20, y_c200, y_c204, y_c21, y_c253, y_c255, y_c3, y_c30, y_c302, y_c303, y_c304, y_c305, y_c306, y_c307, y_c308, y_c309, y_c310, y_c311, y_c312, y_c313, y_c314, y_c315, y_c316, y_c32, y_c33, y_c353, y_c39, y_c4, y_c40, y_c44, y_c4589, y_c48, y_c49, y_c5, y_c512, y_c54, y_c57, y_c59, y_c6, y_c62, y_c64, y_c7, y_c8, y_c9, y_c99, y_c9999, y_d0, y_d1, y_d10, y_d100, y_d1000000, y_d1442695040888963407, y_d2, y_d20, y_d255, y_d3, y_d4, y_d40, y_d4294967295, y_d48, y_d5, y_d50, y_d54, y_d57, y_d6364136223846793005, y_d7, y_d9, y_d9999, y_dR, y_dS, y_dk, y_nar0, y_nar1, y_Ilt, y_Ile, y_Ieq, y_Iadd, y_Imul, y_Idiv, y_Llt, y_Lle, y_Leq, y_Ladd, y_Lmul, y_Ldiv, y_I2l, y_L2i, y_shn, y_or, y_and, y_bn1, y_bn0, y_inb, y_cl, y_gle, y_gge, y_ggt, y_glt, y_geq, if_pos, if_neg, if_true, if_false, Option.bind_some]
      exact e
    · intro i h1 h2
      by_cases q : i = k
      · have := e2 i (by omega)
        simp (disch := omega) only [W_m_tables, W_m_weeks, W_m_runs, W_m_surprises, W_m_sums, W_m_settings, W_m_sizes, W_m_guesses, W_m_shares, W_m_memories, W_m_ages, W_m_surprisesOf, W_m_told, pu_e, pu_n, y_ue, y_un, y_ve, y_vn, true_and, and_true] at this
        exact this
      · exact e1 i (by omega) h2
    · intro i h1
      have := e2 i (by omega)
      simp (disch := omega) only [W_m_tables, W_m_weeks, W_m_runs, W_m_surprises, W_m_sums, W_m_settings, W_m_sizes, W_m_guesses, W_m_shares, W_m_memories, W_m_ages, W_m_surprisesOf, W_m_told, pu_e, pu_n, y_ue, y_un, y_ve, y_vn, true_and, and_true] at this
      exact this
theorem c_new55 : ∀ rr k n w, k + rr = 21 → rr < n → ∃ g s m a o, f_X7_makeNew_L55 n (nI k) w = some ((), (W_mk (W_tables w) (W_weeks w) (W_runs w) (W_surprises w) (W_sums w) (W_settings w) (W_sizes w) (g) (s) (m) (a) (o) (W_told w))) ∧ (∀ i, k ≤ i → i < 21 → g i = nI 0 ∧ s i = nI 0 ∧ m i = nI 0 ∧ a i = nI 0 ∧ o i = nI 0) ∧ ∀ i, i < k → g i = W_guesses w i ∧ s i = W_shares w i ∧ m i = W_memories w i ∧ a i = W_ages w i ∧ o i = W_surprisesOf w i := by
  intro rr
  induction rr with
  | zero =>
    intro k n w hk hn
    obtain ⟨n, rfl⟩ : ∃ m, n = m + 1 := ⟨n - 1, by omega⟩
    refine ⟨W_guesses w, W_shares w, W_memories w, W_ages w, W_surprisesOf w, ?_, fun i h1 h2 => by omega, fun i _ => ⟨rfl, rfl, rfl, rfl, rfl⟩⟩
    rw [f_X7_makeNew_L55, show k = 21 by omega]
    exact if_pos (by decide)
  | succ rr ih =>
    intro k n w hk hn
    obtain ⟨n, rfl⟩ : ∃ m, n = m + 1 := ⟨n - 1, by omega⟩
    obtain ⟨g, s, m, a, o, e, e1, e2⟩ := ih (k + 1) n (W_mk (W_tables w) (W_weeks w) (W_runs w) (W_surprises w) (W_sums w) (W_settings w) (W_sizes w) (upd (W_guesses w) k (nI 0)) (upd (W_shares w) k (nI 0)) (upd (W_memories w) k (nI 0)) (upd (W_ages w) k (nI 0)) (upd (W_surprisesOf w) k (nI 0)) (W_told w)) (by omega) (by omega)
    refine ⟨g, s, m, a, o, ?_, ?_, ?_⟩
    · rw [f_X7_makeNew_L55]
      simp (disch := omega) only [y_c0, y_c1, y_c10, y_c100, y_c1000, y_c10000, y_c100000, y_c106, y_c112, y_c116, y_c127, y_c128, y_c13, y_c14, y_c155, y_c2, y_c20, y_c200, y_c204, y_c21, y_c253, y_c255, y_c3, y_c30, y_c302, y_c303, y_c304, y_c305, y_c306, y_c307, y_c308, y_c309, y_c310, y_c311, y_c312, y_c313, y_c314, y_c315, y_c316, y_c32, y_c33, y_c353, y_c39, y_c4, y_c40, y_c44, y_c4589, y_c48, y_c49, y_c5, y_c512, y_c54, y_c57, y_c59, y_c6, y_c62, y_c64, y_c7, y_c8, y_c9, y_c99, y_c9999, y_d0, y_d1, y_d10, y_d100, y_d1000000, y_d1442695040888963407, y_d2, y_d20, y_d255, y_d3, y_d4, y_d40, y_d4294967295, y_d48, y_d5, y_d50, y_d54, y_d57, y_d6364136223846793005, y_d7, y_d9, y_d9999, y_dR, y_dS, y_dk, y_nar0, y_nar1, y_Ilt, y_Ile, y_Ieq, y_Iadd, y_Imul, y_Idiv, y_Llt, y_Lle, y_Leq, y_Ladd, y_Lmul, y_Ldiv, y_I2l, y_L2i, y_shn, y_or, y_and, y_bn1, y_bn0, y_inb, y_cl, y_gle, y_gge, y_ggt, y_glt, y_geq, if_pos, if_neg, if_true, if_false, Option.bind_some]
      exact e
    · intro i h1 h2
      by_cases q : i = k
      · have := e2 i (by omega)
        simp (disch := omega) only [W_m_tables, W_m_weeks, W_m_runs, W_m_surprises, W_m_sums, W_m_settings, W_m_sizes, W_m_guesses, W_m_shares, W_m_memories, W_m_ages, W_m_surprisesOf, W_m_told, pu_e, pu_n, y_ue, y_un, y_ve, y_vn, true_and, and_true] at this
        exact this
      · exact e1 i (by omega) h2
    · intro i h1
      have := e2 i (by omega)
      simp (disch := omega) only [W_m_tables, W_m_weeks, W_m_runs, W_m_surprises, W_m_sums, W_m_settings, W_m_sizes, W_m_guesses, W_m_shares, W_m_memories, W_m_ages, W_m_surprisesOf, W_m_told, pu_e, pu_n, y_ue, y_un, y_ve, y_vn, true_and, and_true] at this
      exact this
theorem y0_z {j : Nat} (h : j < 302 ∨ 304 < j) : y0 j = 0 := by
  unfold y0
  rw [if_neg (by omega), if_neg (by omega), if_neg (by omega)]
theorem INf0 (N : Nat) : INf N y0 := by
  refine ⟨⟨?_, ?_, ?_⟩, ?_, ?_, ?_, ?_⟩
  · rw [y0_z (by omega)]; omega
  · intro t ht; rw [y0_z (by omega)] at ht; omega
  · intro c hc
    have := yq_lt c hc
    rw [y0_z (by omega), y0_z (by omega), y0_z (by omega), y0_z (by omega)]; omega
  · decide
  · rw [y0_z (by omega), y0_z (by omega), y0_z (by omega), y0_z (by omega)]; omega
  · intro c hc
    have := yq_lt c hc
    rw [y0_z (by omega), y0_z (by omega)]; omega
  · intro q hq _
    rw [y0_z (by omega), y0_z (by omega), y0_z (by omega)]; omega
theorem c_new (w : TW) : ∃ w', f_X7_makeNew w = some ((), w') ∧ WRf w' y0 (fun _ => 0) := by
  obtain ⟨F, hF, hF1⟩ := y_fuel
  unfold f_X7_makeNew
  rw [hF]
  obtain ⟨s', e, e1, -⟩ := c_new22 (K := (fun (y3g_this : TW) => (f_X7_makeNew_L55 F (0 : Int32) (W_mk (W_tables y3g_this) (W_weeks y3g_this) (W_runs y3g_this) (W_surprises y3g_this) (W_sums y3g_this) (va_cpy (fun j => ([50, 10, 4] : List Int32).getD j 0) (W_settings y3g_this) (0 : Int32).toNatClampNeg (0 : Int32).toNatClampNeg (3 : Int32).toNatClampNeg) (W_sizes y3g_this) (W_guesses y3g_this) (W_shares y3g_this) (W_memories y3g_this) (W_ages y3g_this) (W_surprisesOf y3g_this) (W_told y3g_this))))) 4 0 F (W_mk (0 : Int32) (0 : Int32) (0 : Int32) (0 : Int32) (W_sums w) (W_settings w) (W_sizes w) (W_guesses w) (W_shares w) (W_memories w) (W_ages w) (W_surprisesOf w) (W_told w)) (by omega) (by omega)
  obtain ⟨g, s, m, a, o, f, f1, -⟩ := c_new55 21 0 F (W_mk (0 : Int32) (0 : Int32) (0 : Int32) (0 : Int32) s' (va_cpy (fun j => ([50, 10, 4] : List Int32).getD j 0) (W_settings w) (0 : Int32).toNatClampNeg (0 : Int32).toNatClampNeg (3 : Int32).toNatClampNeg) (W_sizes w) (W_guesses w) (W_shares w) (W_memories w) (W_ages w) (W_surprisesOf w) (W_told w)) (by omega) (by omega)
  refine ⟨_, e.trans f, ⟨?_, ?_, ?_⟩, ?_, ?_, ?_, ?_, ?_, ?_, ?_, ?_⟩
  · rfl
  · intro t ht; rw [y0_z (by omega)] at ht; omega
  · intro c hc
    have := yq_lt c hc
    rw [y0_z (by omega), y0_z (by omega), y0_z (by omega)]
    obtain ⟨a1, a2, a3, a4, a5⟩ := f1 c (by omega) hc
    exact ⟨a1, a2, a3⟩
  · rfl
  · rfl
  · rfl
  · intro i hi; exact e1 i (by omega) hi
  · intro i hi
    show va_cpy (fun j => ([50, 10, 4] : List Int32).getD j 0) (W_settings w) (0 : Int32).toNatClampNeg (0 : Int32).toNatClampNeg (3 : Int32).toNatClampNeg i = _
    rw [y_cpy (m := (3 : Int32)) (n := 3) rfl hi (by omega)]
    have q : i = 0 ∨ i = 1 ∨ i = 2 := by omega
    rcases q with q | q | q <;> subst q <;> rfl
  · intro c hc hm
    have := yq_lt c hc
    rw [y0_z (by omega)] at hm; omega
  · intro c hc
    have := yq_lt c hc
    rw [y0_z (by omega)]
    exact (f1 c (by omega) hc).2.2.2.2
  · intro k _ hk; rw [y0_z (by omega)] at hk; omega
theorem x_beg2 {K : (Nat → Int64) → Option (Unit × (Nat → Int64))} : ∀ rr k n r, k + rr = 353 → rr < n → f_X9_begin_L2 353 K n (nI k) r = K (fun j => if k ≤ j ∧ j < 353 then lN 0 else r j) := by
  intro rr
  induction rr with
  | zero =>
    intro k n r hk hn
    obtain ⟨n, rfl⟩ : ∃ m, n = m + 1 := ⟨n - 1, by omega⟩
    rw [f_X9_begin_L2, show k = 353 by omega]
    refine (if_pos (by decide)).trans ?_
    congr 1
    funext j
    rw [if_neg (by omega)]
  | succ rr ih =>
    intro k n r hk hn
    obtain ⟨n, rfl⟩ : ∃ m, n = m + 1 := ⟨n - 1, by omega⟩
    have := ih (k + 1) n (vp_updL r k (lN 0)) (by omega) (by omega)
    rw [f_X9_begin_L2]
    simp (disch := omega) only [y_c0, y_c1, y_c10, y_c100, y_c1000, y_c10000, y_c100000, y_c106, y_c112, y_c116, y_c127, y_c128, y_c13, y_c14, y_c155, y_c2, y_c20, y_c200, y_c204, y_c21, y_c253, y_c255, y_c3, y_c30, y_c302, y_c303, y_c304, y_c305, y_c306, y_c307, y_c308, y_c309, y_c310, y_c311, y_c312, y_c313, y_c314, y_c315, y_c316, y_c32, y_c33, y_c353, y_c39, y_c4, y_c40, y_c44, y_c4589, y_c48, y_c49, y_c5, y_c512, y_c54, y_c57, y_c59, y_c6, y_c62, y_c64, y_c7, y_c8, y_c9, y_c99, y_c9999, y_d0, y_d1, y_d10, y_d100, y_d1000000, y_d1442695040888963407, y_d2, y_d20, y_d255, y_d3, y_d4, y_d40, y_d4294967295, y_d48, y_d5, y_d50, y_d54, y_d57, y_d6364136223846793005, y_d7, y_d9, y_d9999, y_dR, y_dS, y_dk, y_nar0, y_nar1, y_Ilt, y_Ile, y_Ieq, y_Iadd, y_Imul, y_Idiv, y_Llt, y_Lle, y_Leq, y_Ladd, y_Lmul, y_Ldiv, y_I2l, y_L2i, y_shn, y_or, y_and, y_bn1, y_bn0, y_inb, y_cl, y_gle, y_gge, y_ggt, y_glt, y_geq, if_pos, if_neg, if_true, if_false, Option.bind_some]
    refine this.trans ?_
    congr 1
    funext j
    by_cases e : j = k
    · rw [if_neg (by omega), if_pos (by omega), y_ue e]
    · by_cases e2 : k + 1 ≤ j ∧ j < 353
      · rw [if_pos e2, if_pos (by omega)]
      · rw [if_neg e2, if_neg (by omega), y_un e]
theorem x_begin (r : Nat → Int64) : ∃ r', f_X9_begin 353 r = some ((), r') ∧ RRf r' y0 (fun _ => 0) := by
  obtain ⟨F, hF, hF1⟩ := y_fuel
  unfold f_X9_begin
  rw [hF]
  refine ⟨_, x_beg2 353 0 F r (by omega) (by omega), ⟨fun i hi hi2 => ?_, fun i hi => ?_⟩⟩
  · have k1 : ((302 : Int32).toNatClampNeg) = 302 := rfl
    have k2 : ((303 : Int32).toNatClampNeg) = 303 := rfl
    have k3 : ((304 : Int32).toNatClampNeg) = 304 := rfl
    rw [k1, k2, k3]
    by_cases q : i = 304
    · subst q; rfl
    · by_cases q2 : i = 303
      · subst q2; rfl
      · by_cases q3 : i = 302
        · subst q3; rfl
        · rw [y_un q, y_un q2, y_un q3, y0_z (by omega), if_pos (by omega)]
  · have k1 : ((302 : Int32).toNatClampNeg) = 302 := rfl
    have k2 : ((303 : Int32).toNatClampNeg) = 303 := rfl
    have k3 : ((304 : Int32).toNatClampNeg) = 304 := rfl
    rw [k1, k2, k3, y_un (by omega), y_un (by omega), y_un (by omega), if_pos (by omega)]
    rfl
