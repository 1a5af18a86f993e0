theorem x_in {a lo hi : Nat} (h1 : a < 9223372036854775808) (h2 : lo < 9223372036854775808) (h3 : hi < 9223372036854775808) : f_X9_in (lN a) (lN lo) (lN hi) = some (if lo ≤ a ∧ a ≤ hi then nI 1 else nI 0, ()) := by
  by_cases q1 : lo ≤ a
  · by_cases q2 : a ≤ hi
    · simp (disch := omega) only [y_c0, y_c1, y_c10, y_c106, y_c128, y_c13, y_c14, y_c155, y_c2, y_c20, y_c204, y_c21, y_c253, y_c3, y_c353, y_c4, y_c40, y_c49, y_c57, y_c6, y_c7, y_c8, y_d0, y_d1, y_d10, y_d3, y_d7, y_dR, y_dS, y_dk, y_Ilt, y_Ile, y_Ieq, y_Iadd, y_Imul, y_Idiv, y_Llt, y_Lle, y_Leq, y_Ladd, y_Lmul, y_Ldiv, y_I2l, y_L2i, y_shn, y_or, y_and, y_bn1, y_bn0, y_inb, y_cl, y_gle, y_gge, y_ggt, y_glt, y_geq, if_pos, if_neg, if_true, if_false, Option.bind_some, f_X9_in]
    · simp (disch := omega) only [y_c0, y_c1, y_c10, y_c106, y_c128, y_c13, y_c14, y_c155, y_c2, y_c20, y_c204, y_c21, y_c253, y_c3, y_c353, y_c4, y_c40, y_c49, y_c57, y_c6, y_c7, y_c8, y_d0, y_d1, y_d10, y_d3, y_d7, y_dR, y_dS, y_dk, y_Ilt, y_Ile, y_Ieq, y_Iadd, y_Imul, y_Idiv, y_Llt, y_Lle, y_Leq, y_Ladd, y_Lmul, y_Ldiv, y_I2l, y_L2i, y_shn, y_or, y_and, y_bn1, y_bn0, y_inb, y_cl, y_gle, y_gge, y_ggt, y_glt, y_geq, if_pos, if_neg, if_true, if_false, Option.bind_some, f_X9_in]
  · simp (disch := omega) only [y_c0, y_c1, y_c10, y_c106, y_c128, y_c13, y_c14, y_c155, y_c2, y_c20, y_c204, y_c21, y_c253, y_c3, y_c353, y_c4, y_c40, y_c49, y_c57, y_c6, y_c7, y_c8, y_d0, y_d1, y_d10, y_d3, y_d7, y_dR, y_dS, y_dk, y_Ilt, y_Ile, y_Ieq, y_Iadd, y_Imul, y_Idiv, y_Llt, y_Lle, y_Leq, y_Ladd, y_Lmul, y_Ldiv, y_I2l, y_L2i, y_shn, y_or, y_and, y_bn1, y_bn0, y_inb, y_cl, y_gle, y_gge, y_ggt, y_glt, y_geq, if_pos, if_neg, if_true, if_false, Option.bind_some, f_X9_in]
theorem x_less (a b : Nat) (h1 : a < 9223372036854775808) (h2 : b < 9223372036854775808) : f_X9_less (lN a) (lN b) = some (lN (min a b), ()) := by
  by_cases q : b ≤ a
  · rw [Nat.min_eq_right q]
    simp (disch := omega) only [y_c0, y_c1, y_c10, y_c106, y_c128, y_c13, y_c14, y_c155, y_c2, y_c20, y_c204, y_c21, y_c253, y_c3, y_c353, y_c4, y_c40, y_c49, y_c57, y_c6, y_c7, y_c8, y_d0, y_d1, y_d10, y_d3, y_d7, y_dR, y_dS, y_dk, y_Ilt, y_Ile, y_Ieq, y_Iadd, y_Imul, y_Idiv, y_Llt, y_Lle, y_Leq, y_Ladd, y_Lmul, y_Ldiv, y_I2l, y_L2i, y_shn, y_or, y_and, y_bn1, y_bn0, y_inb, y_cl, y_gle, y_gge, y_ggt, y_glt, y_geq, if_pos, if_neg, if_true, if_false, Option.bind_some, f_X9_less]
  · rw [Nat.min_eq_left (by omega)]
    simp (disch := omega) only [y_c0, y_c1, y_c10, y_c106, y_c128, y_c13, y_c14, y_c155, y_c2, y_c20, y_c204, y_c21, y_c253, y_c3, y_c353, y_c4, y_c40, y_c49, y_c57, y_c6, y_c7, y_c8, y_d0, y_d1, y_d10, y_d3, y_d7, y_dR, y_dS, y_dk, y_Ilt, y_Ile, y_Ieq, y_Iadd, y_Imul, y_Idiv, y_Llt, y_Lle, y_Leq, y_Ladd, y_Lmul, y_Ldiv, y_I2l, y_L2i, y_shn, y_or, y_and, y_bn1, y_bn0, y_inb, y_cl, y_gle, y_gge, y_ggt, y_glt, y_geq, if_pos, if_neg, if_true, if_false, Option.bind_some, f_X9_less]
theorem x_pair {u t : Nat} (h : u < t) (ht : t < 7) : f_X9_pairOf (nI u) (nI t) = some (nI (7 * u + t), ()) := by
  simp (disch := omega) only [y_c0, y_c1, y_c10, y_c106, y_c128, y_c13, y_c14, y_c155, y_c2, y_c20, y_c204, y_c21, y_c253, y_c3, y_c353, y_c4, y_c40, y_c49, y_c57, y_c6, y_c7, y_c8, y_d0, y_d1, y_d10, y_d3, y_d7, y_dR, y_dS, y_dk, y_Ilt, y_Ile, y_Ieq, y_Iadd, y_Imul, y_Idiv, y_Llt, y_Lle, y_Leq, y_Ladd, y_Lmul, y_Ldiv, y_I2l, y_L2i, y_shn, y_or, y_and, y_bn1, y_bn0, y_inb, y_cl, y_gle, y_gge, y_ggt, y_glt, y_geq, if_pos, if_neg, if_true, if_false, Option.bind_some, f_X9_pairOf]
theorem x_pair2 {u t : Nat} (h : t ≤ u) (ht : u < 7) : f_X9_pairOf (nI u) (nI t) = some (nI (7 * t + u), ()) := by
  simp (disch := omega) only [y_c0, y_c1, y_c10, y_c106, y_c128, y_c13, y_c14, y_c155, y_c2, y_c20, y_c204, y_c21, y_c253, y_c3, y_c353, y_c4, y_c40, y_c49, y_c57, y_c6, y_c7, y_c8, y_d0, y_d1, y_d10, y_d3, y_d7, y_dR, y_dS, y_dk, y_Ilt, y_Ile, y_Ieq, y_Iadd, y_Imul, y_Idiv, y_Llt, y_Lle, y_Leq, y_Ladd, y_Lmul, y_Ldiv, y_I2l, y_L2i, y_shn, y_or, y_and, y_bn1, y_bn0, y_inb, y_cl, y_gle, y_gge, y_ggt, y_glt, y_geq, if_pos, if_neg, if_true, if_false, Option.bind_some, f_X9_pairOf]
theorem x_share {r : Nat → Int64} {ρ : Nat → Nat} (hr : RRp r ρ) (hi : INp ρ) {c k : Nat} (hc : c < 21) (hk : k ≤ 2) : f_X9_shareOf 353 r (nI (yq c)) (nI k) = some (lN (ysh ρ k (yq c)), ()) := by
  have hq := yq_lt c hc
  obtain ⟨-, i2, i3, i4, -⟩ := hi.2.2 c hc
  have r1 := hr (57 + yq c) (by omega)
  have r2 := hr (106 + yq c) (by omega)
  have r3 := hr (155 + yq c) (by omega)
  have e : k = 0 ∨ k = 1 ∨ k = 2 := by omega
  unfold ysh
  rcases e with rfl | rfl | rfl
  · simp (disch := omega) only [y_c0, y_c1, y_c10, y_c106, y_c128, y_c13, y_c14, y_c155, y_c2, y_c20, y_c204, y_c21, y_c253, y_c3, y_c353, y_c4, y_c40, y_c49, y_c57, y_c6, y_c7, y_c8, y_d0, y_d1, y_d10, y_d3, y_d7, y_dR, y_dS, y_dk, y_Ilt, y_Ile, y_Ieq, y_Iadd, y_Imul, y_Idiv, y_Llt, y_Lle, y_Leq, y_Ladd, y_Lmul, y_Ldiv, y_I2l, y_L2i, y_shn, y_or, y_and, y_bn1, y_bn0, y_inb, y_cl, y_gle, y_gge, y_ggt, y_glt, y_geq, if_pos, if_neg, if_true, if_false, Option.bind_some, f_X9_shareOf, r1]
  · by_cases q : 0 < ρ (155 + yq c)
    · simp (disch := omega) only [y_c0, y_c1, y_c10, y_c106, y_c128, y_c13, y_c14, y_c155, y_c2, y_c20, y_c204, y_c21, y_c253, y_c3, y_c353, y_c4, y_c40, y_c49, y_c57, y_c6, y_c7, y_c8, y_d0, y_d1, y_d10, y_d3, y_d7, y_dR, y_dS, y_dk, y_Ilt, y_Ile, y_Ieq, y_Iadd, y_Imul, y_Idiv, y_Llt, y_Lle, y_Leq, y_Ladd, y_Lmul, y_Ldiv, y_I2l, y_L2i, y_shn, y_or, y_and, y_bn1, y_bn0, y_inb, y_cl, y_gle, y_gge, y_ggt, y_glt, y_geq, if_pos, if_neg, if_true, if_false, Option.bind_some, f_X9_shareOf, f_X9_believed, r1, r3]
    · simp (disch := omega) only [y_c0, y_c1, y_c10, y_c106, y_c128, y_c13, y_c14, y_c155, y_c2, y_c20, y_c204, y_c21, y_c253, y_c3, y_c353, y_c4, y_c40, y_c49, y_c57, y_c6, y_c7, y_c8, y_d0, y_d1, y_d10, y_d3, y_d7, y_dR, y_dS, y_dk, y_Ilt, y_Ile, y_Ieq, y_Iadd, y_Imul, y_Idiv, y_Llt, y_Lle, y_Leq, y_Ladd, y_Lmul, y_Ldiv, y_I2l, y_L2i, y_shn, y_or, y_and, y_bn1, y_bn0, y_inb, y_cl, y_gle, y_gge, y_ggt, y_glt, y_geq, if_pos, if_neg, if_true, if_false, Option.bind_some, f_X9_shareOf, f_X9_believed, r1, r3]
  · simp (disch := omega) only [y_c0, y_c1, y_c10, y_c106, y_c128, y_c13, y_c14, y_c155, y_c2, y_c20, y_c204, y_c21, y_c253, y_c3, y_c353, y_c4, y_c40, y_c49, y_c57, y_c6, y_c7, y_c8, y_d0, y_d1, y_d10, y_d3, y_d7, y_dR, y_dS, y_dk, y_Ilt, y_Ile, y_Ieq, y_Iadd, y_Imul, y_Idiv, y_Llt, y_Lle, y_Leq, y_Ladd, y_Lmul, y_Ldiv, y_I2l, y_L2i, y_shn, y_or, y_and, y_bn1, y_bn0, y_inb, y_cl, y_gle, y_gge, y_ggt, y_glt, y_geq, if_pos, if_neg, if_true, if_false, Option.bind_some, f_X9_shareOf, r2]
theorem x_rows43 {r : Nat → Int64} {ρ : Nat → Nat} {k s t : Nat} {K : Int64 → Option (Int64 × Unit)} (hr : RRp r ρ) (hi : INp ρ) (hk : k ≤ 2) (hs : s < 128) (ht : t < 7) : ∀ rr u n v, u + rr = t → rr < n → 1 ≤ v → v ≤ 1000000000000 →
    f_X9_rowsOn_L43 353 r (nI s) (nI k) (nI t) K n (lN (yi (yg ρ k t) s v u)) (nI u) = K (lN (yi (yg ρ k t) s v t)) := by
  intro rr
  induction rr with
  | zero =>
    intro u n v hu hn hv1 hv2
    obtain ⟨n, rfl⟩ : ∃ m, n = m + 1 := ⟨n - 1, by omega⟩
    rw [f_X9_rowsOn_L43, show u = t by omega]
    simp (disch := omega) only [y_c0, y_c1, y_c10, y_c106, y_c128, y_c13, y_c14, y_c155, y_c2, y_c20, y_c204, y_c21, y_c253, y_c3, y_c353, y_c4, y_c40, y_c49, y_c57, y_c6, y_c7, y_c8, y_d0, y_d1, y_d10, y_d3, y_d7, y_dR, y_dS, y_dk, y_Ilt, y_Ile, y_Ieq, y_Iadd, y_Imul, y_Idiv, y_Llt, y_Lle, y_Leq, y_Ladd, y_Lmul, y_Ldiv, y_I2l, y_L2i, y_shn, y_or, y_and, y_bn1, y_bn0, y_inb, y_cl, y_gle, y_gge, y_ggt, y_glt, y_geq, if_pos, if_neg, if_true, if_false, Option.bind_some]
  | succ rr ih =>
    intro u n v hu hn hv1 hv2
    obtain ⟨n, rfl⟩ : ∃ m, n = m + 1 := ⟨n - 1, by omega⟩
    obtain ⟨q1, q2⟩ := yq_ab t ht u (by omega)
    have bg : yg ρ k t u ≤ 1000 := hi.g k ht (by omega)
    have bi := yi_bd (f := yg ρ k t) (s := s) hv1 u (fun t' ht' => hi.g k ht (by omega))
    have bm : yi (yg ρ k t) s v u * yg ρ k t u ≤ 1000000000000 * 1000 := Nat.mul_le_mul (by omega) bg
    have hsh := x_share hr hi q1 hk
    have hl := (hi.sh q1 k).2
    have hl1 := (hi.2.2 _ q1).1
    rw [q2] at hsh hl hl1
    have hsh : f_X9_shareOf 353 r (nI (7 * u + t)) (nI k) = some (lN (yg ρ k t u), ()) := hsh
    have hl : 0 < yg ρ k t u ↔ 0 < ρ (8 + (7 * u + t)) := hl
    have r1 := hr (8 + (7 * u + t)) (by omega)
    have := ih (u + 1) n v (by omega) (by omega) hv1 hv2
    rw [yi] at this
    rw [f_X9_rowsOn_L43, x_pair (show u < t by omega) ht]
    by_cases hb : s.testBit u = true ∧ 0 < yg ρ k t u
    · rw [if_pos hb] at this
      have hb2 := hl.mp hb.2
      by_cases hq : 1 ≤ yi (yg ρ k t) s v u * yg ρ k t u / 1000
      · rw [Nat.max_eq_right hq] at this
        simp (disch := omega) only [y_c0, y_c1, y_c10, y_c106, y_c128, y_c13, y_c14, y_c155, y_c2, y_c20, y_c204, y_c21, y_c253, y_c3, y_c353, y_c4, y_c40, y_c49, y_c57, y_c6, y_c7, y_c8, y_d0, y_d1, y_d10, y_d3, y_d7, y_dR, y_dS, y_dk, y_Ilt, y_Ile, y_Ieq, y_Iadd, y_Imul, y_Idiv, y_Llt, y_Lle, y_Leq, y_Ladd, y_Lmul, y_Ldiv, y_I2l, y_L2i, y_shn, y_or, y_and, y_bn1, y_bn0, y_inb, y_cl, y_gle, y_gge, y_ggt, y_glt, y_geq, if_pos, if_neg, if_true, if_false, Option.bind_some, hsh, hb.1, r1]
        exact this
      · rw [Nat.max_eq_left (by omega)] at this
        simp (disch := omega) only [y_c0, y_c1, y_c10, y_c106, y_c128, y_c13, y_c14, y_c155, y_c2, y_c20, y_c204, y_c21, y_c253, y_c3, y_c353, y_c4, y_c40, y_c49, y_c57, y_c6, y_c7, y_c8, y_d0, y_d1, y_d10, y_d3, y_d7, y_dR, y_dS, y_dk, y_Ilt, y_Ile, y_Ieq, y_Iadd, y_Imul, y_Idiv, y_Llt, y_Lle, y_Leq, y_Ladd, y_Lmul, y_Ldiv, y_I2l, y_L2i, y_shn, y_or, y_and, y_bn1, y_bn0, y_inb, y_cl, y_gle, y_gge, y_ggt, y_glt, y_geq, if_pos, if_neg, if_true, if_false, Option.bind_some, hsh, hb.1, r1]
        exact this
    · rw [if_neg hb] at this
      by_cases hb1 : s.testBit u = true
      · have hb2 : ¬ 0 < ρ (8 + (7 * u + t)) := fun z => hb ⟨hb1, hl.mpr z⟩
        simp (disch := omega) only [y_c0, y_c1, y_c10, y_c106, y_c128, y_c13, y_c14, y_c155, y_c2, y_c20, y_c204, y_c21, y_c253, y_c3, y_c353, y_c4, y_c40, y_c49, y_c57, y_c6, y_c7, y_c8, y_d0, y_d1, y_d10, y_d3, y_d7, y_dR, y_dS, y_dk, y_Ilt, y_Ile, y_Ieq, y_Iadd, y_Imul, y_Idiv, y_Llt, y_Lle, y_Leq, y_Ladd, y_Lmul, y_Ldiv, y_I2l, y_L2i, y_shn, y_or, y_and, y_bn1, y_bn0, y_inb, y_cl, y_gle, y_gge, y_ggt, y_glt, y_geq, if_pos, if_neg, if_true, if_false, Option.bind_some, hb1, r1]
        exact this
      · have hb2 : s.testBit u = false := by simpa using hb1
        simp (disch := omega) only [y_c0, y_c1, y_c10, y_c106, y_c128, y_c13, y_c14, y_c155, y_c2, y_c20, y_c204, y_c21, y_c253, y_c3, y_c353, y_c4, y_c40, y_c49, y_c57, y_c6, y_c7, y_c8, y_d0, y_d1, y_d10, y_d3, y_d7, y_dR, y_dS, y_dk, y_Ilt, y_Ile, y_Ieq, y_Iadd, y_Imul, y_Idiv, y_Llt, y_Lle, y_Leq, y_Ladd, y_Lmul, y_Ldiv, y_I2l, y_L2i, y_shn, y_or, y_and, y_bn1, y_bn0, y_inb, y_cl, y_gle, y_gge, y_ggt, y_glt, y_geq, if_pos, if_neg, if_true, if_false, Option.bind_some, hb2, Bool.false_eq_true]
        exact this
theorem y_fuel : ∃ F, FUEL = F ∧ 9000 < F := ⟨FUEL, rfl, by unfold FUEL; omega⟩
theorem x_rows5 {r : Nat → Int64} {ρ : Nat → Nat} {k s : Nat} (hr : RRp r ρ) (hi : INp ρ) (hk : k ≤ 2) (hs : s < 128) : ∀ rr t n, t + rr = ρ 0 → rr < n →
    f_X9_rowsOn_L5 353 r (nI s) (nI k) n (lN (yr (yz ρ) (yg ρ k) s t)) (nI t) = some (lN (yr (yz ρ) (yg ρ k) s (ρ 0)), ()) := by
  intro rr
  have h7 := hi.1
  have r0 := hr 0 (by omega)
  induction rr with
  | zero =>
    intro t n hu hn
    obtain ⟨n, rfl⟩ : ∃ m, n = m + 1 := ⟨n - 1, by omega⟩
    rw [f_X9_rowsOn_L5, show t = ρ 0 by omega]
    simp (disch := omega) only [y_c0, y_c1, y_c10, y_c106, y_c128, y_c13, y_c14, y_c155, y_c2, y_c20, y_c204, y_c21, y_c253, y_c3, y_c353, y_c4, y_c40, y_c49, y_c57, y_c6, y_c7, y_c8, y_d0, y_d1, y_d10, y_d3, y_d7, y_dR, y_dS, y_dk, y_Ilt, y_Ile, y_Ieq, y_Iadd, y_Imul, y_Idiv, y_Llt, y_Lle, y_Leq, y_Ladd, y_Lmul, y_Ldiv, y_I2l, y_L2i, y_shn, y_or, y_and, y_bn1, y_bn0, y_inb, y_cl, y_gle, y_gge, y_ggt, y_glt, y_geq, if_pos, if_neg, if_true, if_false, Option.bind_some, r0]
  | succ rr ih =>
    intro t n hu hn
    obtain ⟨n, rfl⟩ : ∃ m, n = m + 1 := ⟨n - 1, by omega⟩
    have := ih (t + 1) n (by omega) (by omega)
    rw [yr] at this
    have hz := hi.2.1 t (by omega)
    have bd := yr_bd (z := yz ρ) (g := yg ρ k) (s := s) t (fun t' ht' _ => (hi.2.1 t' (by omega)).1) (fun t' u' h1 h2 => hi.g k (by omega) h2)
    have bm : yr (yz ρ) (yg ρ k) s t * ρ (1 + t) ≤ 1000000000000 * 9999 := Nat.mul_le_mul bd.2 hz.2
    have bm1 : 1 ≤ yr (yz ρ) (yg ρ k) s t * ρ (1 + t) := Nat.mul_pos bd.1 hz.1
    have r1 := hr (1 + t) (by omega)
    rw [f_X9_rowsOn_L5]
    by_cases hb : s.testBit t = true
    · obtain ⟨F, hF, hF1⟩ := y_fuel
      rw [hF]
      rw [if_pos hb] at this
      simp (disch := omega) only [y_c0, y_c1, y_c10, y_c106, y_c128, y_c13, y_c14, y_c155, y_c2, y_c20, y_c204, y_c21, y_c253, y_c3, y_c353, y_c4, y_c40, y_c49, y_c57, y_c6, y_c7, y_c8, y_d0, y_d1, y_d10, y_d3, y_d7, y_dR, y_dS, y_dk, y_Ilt, y_Ile, y_Ieq, y_Iadd, y_Imul, y_Idiv, y_Llt, y_Lle, y_Leq, y_Ladd, y_Lmul, y_Ldiv, y_I2l, y_L2i, y_shn, y_or, y_and, y_bn1, y_bn0, y_inb, y_cl, y_gle, y_gge, y_ggt, y_glt, y_geq, if_pos, if_neg, if_true, if_false, Option.bind_some, r0, r1, hb, x_less]
      have e := x_rows43 (K := fun (y13x3 : Int64) => (f_X9_rowsOn_L5 353 r (nI s) (nI k) n y13x3 (nI (t + 1)))) hr hi hk hs (show t < 7 by omega) t 0 F (min 1000000000000 (yr (yz ρ) (yg ρ k) s t * ρ (1 + t))) (by omega) (by omega) (by omega) (by omega)
      rw [yi] at e
      rw [e]
      exact this
    · rw [if_neg hb] at this
      have hb2 : s.testBit t = false := by simpa using hb
      simp (disch := omega) only [y_c0, y_c1, y_c10, y_c106, y_c128, y_c13, y_c14, y_c155, y_c2, y_c20, y_c204, y_c21, y_c253, y_c3, y_c353, y_c4, y_c40, y_c49, y_c57, y_c6, y_c7, y_c8, y_d0, y_d1, y_d10, y_d3, y_d7, y_dR, y_dS, y_dk, y_Ilt, y_Ile, y_Ieq, y_Iadd, y_Imul, y_Idiv, y_Llt, y_Lle, y_Leq, y_Ladd, y_Lmul, y_Ldiv, y_I2l, y_L2i, y_shn, y_or, y_and, y_bn1, y_bn0, y_inb, y_cl, y_gle, y_gge, y_ggt, y_glt, y_geq, if_pos, if_neg, if_true, if_false, Option.bind_some, r0, hb2, Bool.false_eq_true]
      exact this
theorem x_rows {r : Nat → Int64} {ρ : Nat → Nat} {k s : Nat} (hr : RRp r ρ) (hi : INp ρ) (hk : k ≤ 2) (hs : s < 2 ^ ρ 0) : f_X9_rowsOn 353 r (nI s) (nI k) = some (lN (yrw ρ k s), ()) := by
  have h7 := y_pow7 _ hi.1
  have h8 := hi.1
  unfold f_X9_rowsOn
  refine (x_rows5 hr hi hk (by omega) (ρ 0) 0 FUEL (by omega) (by unfold FUEL; omega)).trans ?_
  have := yr_top (z := yz ρ) (g := yg ρ k) (s := s) (n := ρ 0) (7 - ρ 0) (fun u h1 h2 => Nat.testBit_lt_two_pow (Nat.lt_of_lt_of_le hs (Nat.pow_le_pow_right (by omega) h1)))
  rw [show ρ 0 + (7 - ρ 0) = 7 by omega] at this
  unfold yrw
  rw [this]
theorem x_lay3 {r : Nat → Int64} {ρ : Nat → Nat} {k : Nat} (hr : RRp r ρ) (hi : INp ρ) (hk : k ≤ 2) : ∀ rr s n q, s + rr = 2 ^ ρ 0 → rr < n → (∀ i, i < s → q i = lN (yrw ρ k i)) →
    ∃ q', f_X9_layRows_L3 353 128 r (nI k) n (nI s) q = some ((), q') ∧ ∀ i, i < 2 ^ ρ 0 → q' i = lN (yrw ρ k i) := by
  intro rr
  have h7 := y_pow7 _ hi.1
  have h8 := hi.1
  have r0 := hr 0 (by omega)
  induction rr with
  | zero =>
    intro s n q hs hn hq
    obtain ⟨n, rfl⟩ : ∃ m, n = m + 1 := ⟨n - 1, by omega⟩
    refine ⟨q, ?_, fun i h => hq i (by omega)⟩
    rw [f_X9_layRows_L3]
    simp (disch := omega) only [y_c0, y_c1, y_c10, y_c106, y_c128, y_c13, y_c14, y_c155, y_c2, y_c20, y_c204, y_c21, y_c253, y_c3, y_c353, y_c4, y_c40, y_c49, y_c57, y_c6, y_c7, y_c8, y_d0, y_d1, y_d10, y_d3, y_d7, y_dR, y_dS, y_dk, y_Ilt, y_Ile, y_Ieq, y_Iadd, y_Imul, y_Idiv, y_Llt, y_Lle, y_Leq, y_Ladd, y_Lmul, y_Ldiv, y_I2l, y_L2i, y_shn, y_or, y_and, y_bn1, y_bn0, y_inb, y_cl, y_gle, y_gge, y_ggt, y_glt, y_geq, if_pos, if_neg, if_true, if_false, Option.bind_some, r0]
  | succ rr ih =>
    intro s n q hs hn hq
    obtain ⟨n, rfl⟩ : ∃ m, n = m + 1 := ⟨n - 1, by omega⟩
    obtain ⟨q', e1, e2⟩ := ih (s + 1) n (vp_updL q s (lN (yrw ρ k s))) (by omega) (by omega) (fun i h => by
      show (if i = s then _ else _) = _
      by_cases e : i = s
      · rw [if_pos e, e]
      · rw [if_neg e]; exact hq i (by omega))
    refine ⟨q', ?_, e2⟩
    rw [f_X9_layRows_L3, x_rows hr hi hk (show s < 2 ^ ρ 0 by omega)]
    simp (disch := omega) only [y_c0, y_c1, y_c10, y_c106, y_c128, y_c13, y_c14, y_c155, y_c2, y_c20, y_c204, y_c21, y_c253, y_c3, y_c353, y_c4, y_c40, y_c49, y_c57, y_c6, y_c7, y_c8, y_d0, y_d1, y_d10, y_d3, y_d7, y_dR, y_dS, y_dk, y_Ilt, y_Ile, y_Ieq, y_Iadd, y_Imul, y_Idiv, y_Llt, y_Lle, y_Leq, y_Ladd, y_Lmul, y_Ldiv, y_I2l, y_L2i, y_shn, y_or, y_and, y_bn1, y_bn0, y_inb, y_cl, y_gle, y_gge, y_ggt, y_glt, y_geq, if_pos, if_neg, if_true, if_false, Option.bind_some, r0]
    exact e1
theorem x_lay {r : Nat → Int64} {ρ : Nat → Nat} {k : Nat} (q : Nat → Int64) (hr : RRp r ρ) (hi : INp ρ) (hk : k ≤ 2) : ∃ q', f_X9_layRows 353 128 r q (nI k) = some ((), q') ∧ ∀ i, i < 2 ^ ρ 0 → q' i = lN (yrw ρ k i) := by
  have h7 := y_pow7 _ hi.1
  exact x_lay3 hr hi hk (2 ^ ρ 0) 0 FUEL q (by omega) (by unfold FUEL; omega) (fun i h => by omega)
theorem x_step {r : Nat → Int64} {ρ : Nat → Nat} (hr : RRp r ρ) (hi : INp ρ) {rc rp : Nat → Int64} {RC RP : Nat → Nat} (hc : ∀ i, i < 2 ^ ρ 0 → rc i = lN (RC i) ∧ RC i ≤ 1000000000000) (hp : ∀ i, i < 2 ^ ρ 0 → rp i = lN (RP i) ∧ RP i ≤ 1000000000000) {s t : Nat} (hs : s < 2 ^ ρ 0) (ht : t < ρ 0) (ho : s ||| 2 ^ t < 2 ^ ρ 0) :
    f_X9_stepCost 353 128 128 r rc rp (nI s) (nI t) = some (lN (yst RC RP (yz ρ) s t), ()) := by
  have h7 := y_pow7 _ hi.1
  have h8 := hi.1
  obtain ⟨c1, c2⟩ := hc s hs
  obtain ⟨p1, p2⟩ := hp s hs
  obtain ⟨p3, p4⟩ := hp _ ho
  have hz := hi.2.1 t ht
  have r1 := hr (1 + t) (by omega)
  have m1 : RC s * ρ (1 + t) ≤ 1000000000000 * 9999 := Nat.mul_le_mul c2 hz.2
  have m2 : RP s * ρ (1 + t) ≤ 1000000000000 * 9999 := Nat.mul_le_mul p2 hz.2
  unfold f_X9_stepCost f_X9_stepCost_J44 yst
  by_cases h0 : s = 0
  · rw [if_pos h0, h0]; exact if_pos rfl
  · rw [if_neg h0]
    show _ = some (lN (min _ ((if 3 * (RC s + ρ (1 + t)) < RC s * ρ (1 + t) then 3 * (RP s + ρ (1 + t)) else RP s * ρ (1 + t)) + _)), ())
    by_cases q : 3 * (RC s + ρ (1 + t)) < RC s * ρ (1 + t)
    · simp (disch := omega) only [y_c0, y_c1, y_c10, y_c106, y_c128, y_c13, y_c14, y_c155, y_c2, y_c20, y_c204, y_c21, y_c253, y_c3, y_c353, y_c4, y_c40, y_c49, y_c57, y_c6, y_c7, y_c8, y_d0, y_d1, y_d10, y_d3, y_d7, y_dR, y_dS, y_dk, y_Ilt, y_Ile, y_Ieq, y_Iadd, y_Imul, y_Idiv, y_Llt, y_Lle, y_Leq, y_Ladd, y_Lmul, y_Ldiv, y_I2l, y_L2i, y_shn, y_or, y_and, y_bn1, y_bn0, y_inb, y_cl, y_gle, y_gge, y_ggt, y_glt, y_geq, if_pos, if_neg, if_true, if_false, Option.bind_some, f_X9_isByList, c1, p1, p3, r1, x_less]
    · simp (disch := omega) only [y_c0, y_c1, y_c10, y_c106, y_c128, y_c13, y_c14, y_c155, y_c2, y_c20, y_c204, y_c21, y_c253, y_c3, y_c353, y_c4, y_c40, y_c49, y_c57, y_c6, y_c7, y_c8, y_d0, y_d1, y_d10, y_d3, y_d7, y_dR, y_dS, y_dk, y_Ilt, y_Ile, y_Ieq, y_Iadd, y_Imul, y_Idiv, y_Llt, y_Lle, y_Leq, y_Ladd, y_Lmul, y_Ldiv, y_I2l, y_L2i, y_shn, y_or, y_and, y_bn1, y_bn0, y_inb, y_cl, y_gle, y_gge, y_ggt, y_glt, y_geq, if_pos, if_neg, if_true, if_false, Option.bind_some, f_X9_isByList, c1, p1, p3, r1, x_less]
