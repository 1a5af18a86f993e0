theorem y_top1 : ∀ i, i < 128 → ∀ h, h < 7 → 2 ^ h ≤ i → i < 2 ^ (h + 1) → i.testBit h = true := by decide +kernel
theorem y_top2 : ∀ i, i < 128 → ∀ h, h < 7 → 2 ^ h ≤ i → i < 2 ^ (h + 1) → ∀ u, u < h → i.testBit u = (i - 2 ^ h).testBit u := by decide +kernel
theorem y_top5 : ∀ i, i < 128 → ∀ h, h < 7 → 2 ^ h ≤ i → i < 2 ^ (h + 1) → (i - 2 ^ h) &&& i = i - 2 ^ h := by decide +kernel
theorem y_low : ∀ i, i < 128 → ∀ h, h < 7 → 2 ^ h ≤ i → i < 2 ^ (h + 1) → nI i &&& (((1 : Int32) <<< (nI h &&& 31)) ^^^ (-1 : Int32)) = nI (i - 2 ^ h) := by decide +kernel
theorem y_shr1 : ∀ i, i < 128 → ∀ h, h < 7 → ((nI i >>> (nI h &&& 31) ≤ (1 : Int32)) ↔ i < 2 ^ (h + 1)) := by decide +kernel
theorem y_pw : ∀ h, h < 7 → 1 ≤ 2 ^ h ∧ 2 ^ h ≤ 64 ∧ 2 ^ (h + 1) = 2 * 2 ^ h := by decide +kernel
theorem y_top3 {i h : Nat} (h2 : i < 2 ^ (h + 1)) {u : Nat} (hu : h < u) : i.testBit u = false :=
  Nat.testBit_lt_two_pow (Nat.lt_of_lt_of_le h2 (Nat.pow_le_pow_right (by omega) (by omega)))
theorem y_top4 {i h : Nat} (h1 : 2 ^ h ≤ i) (h2 : i < 2 ^ (h + 1)) {u : Nat} (hu : h ≤ u) : (i - 2 ^ h).testBit u = false := by
  have : 2 ^ (h + 1) = 2 * 2 ^ h := by rw [Nat.pow_succ, Nat.mul_comm]
  exact Nat.testBit_lt_two_pow (Nat.lt_of_lt_of_le (show i - 2 ^ h < 2 ^ h by omega) (Nat.pow_le_pow_right (by omega) hu))
theorem yrw_top {ρ : Nat → Nat} {k i h : Nat} (hi : i < 128) (hh : h < 7) (h1 : 2 ^ h ≤ i) (h2 : i < 2 ^ (h + 1)) : yrw ρ k i = yi (yg ρ k h) (i - 2 ^ h) (min 1000000000000 (yrw ρ k (i - 2 ^ h) * yz ρ h)) h := by
  have t1 := y_top1 i hi h hh h1 h2
  have t2 := y_top2 i hi h hh h1 h2
  have e1 : yrw ρ k i = yr (yz ρ) (yg ρ k) i (h + 1) := by
    unfold yrw
    have := yr_top (z := yz ρ) (g := yg ρ k) (s := i) (n := h + 1) (6 - h) (fun u hu hv => y_top3 h2 (by omega))
    rw [show h + 1 + (6 - h) = 7 by omega] at this
    exact this
  have e2 : yrw ρ k (i - 2 ^ h) = yr (yz ρ) (yg ρ k) (i - 2 ^ h) h := by
    unfold yrw
    have := yr_top (z := yz ρ) (g := yg ρ k) (s := i - 2 ^ h) (n := h) (7 - h) (fun u hu hv => y_top4 h1 h2 hu)
    rw [show h + (7 - h) = 7 by omega] at this
    exact this
  rw [e1, yr, if_pos t1, e2, yr_cong (s := i) (s' := i - 2 ^ h) (z' := yz ρ) (g' := yg ρ k) h t2 (fun _ _ _ => rfl) (fun _ _ _ _ _ _ => rfl)]
  exact yi_cong h t2 (fun _ _ _ => rfl)
theorem y_pc : ∀ h, h < 7 → ((nI h * (nI h - (1 : Int32))) / (2 : Int32)) = nI (h * (h - 1) / 2) := by decide +kernel
theorem cw_join {P : TP} {ρ : Nat → Nat} {k lo h : Nat} (hi : INp ρ) (hlo : lo < 128) (hh : h < 7) (hsh : ∀ c, c < 21 → P_shares P c = nI (ysh ρ k (yq c))) : ∀ r u n v, u + r = h → r < n → 1 ≤ v → v ≤ 1000000000000 →
    f_X3_rowsJoined_L37 P (nI lo) (nI h) n (lN (yi (yg ρ k h) lo v u)) (nI (h * (h - 1) / 2 + u)) (nI u) = some (lN (yi (yg ρ k h) lo v h), ()) := by
  intro r
  induction r with
  | zero =>
    intro u n v hu hn hv1 hv2
    obtain ⟨n, rfl⟩ : ∃ m, n = m + 1 := ⟨n - 1, by omega⟩
    rw [f_X3_rowsJoined_L37, show u = h by omega]
    simp (disch := omega) only [y_c0, y_c1, y_c10, y_c106, y_c128, y_c13, y_c14, y_c155, y_c2, y_c20, y_c204, y_c21, y_c253, y_c3, y_c353, y_c4, y_c40, y_c49, y_c57, y_c6, y_c7, y_c8, y_d0, y_d1, y_d10, y_d3, y_d7, y_dR, y_dS, y_dk, y_Ilt, y_Ile, y_Ieq, y_Iadd, y_Imul, y_Idiv, y_Llt, y_Lle, y_Leq, y_Ladd, y_Lmul, y_Ldiv, y_I2l, y_L2i, y_shn, y_or, y_and, y_bn1, y_bn0, y_inb, y_cl, y_gle, y_gge, y_ggt, y_glt, y_geq, if_pos, if_neg, if_true, if_false, Option.bind_some]
  | succ r ih =>
    intro u n v hu hn hv1 hv2
    obtain ⟨n, rfl⟩ : ∃ m, n = m + 1 := ⟨n - 1, by omega⟩
    obtain ⟨q1, q2⟩ := yq_ab h hh u (by omega)
    have hs := hsh _ q1
    rw [q2] at hs
    have bg : yg ρ k h u ≤ 1000 := hi.g k hh (by omega)
    have hs : P_shares P (h * (h - 1) / 2 + u) = nI (yg ρ k h u) := hs
    have bi := yi_bd (f := yg ρ k h) (s := lo) hv1 u (fun t ht => hi.g k hh (by omega))
    have bm : yi (yg ρ k h) lo v u * yg ρ k h u ≤ 1000000000000 * 1000 := Nat.mul_le_mul (by omega) bg
    have := ih (u + 1) n v (by omega) (by omega) hv1 hv2
    rw [yi] at this
    rw [f_X3_rowsJoined_L37]
    unfold f_X3_rowsJoined_J66
    by_cases hb : lo.testBit u = true ∧ 0 < yg ρ k h u
    · rw [if_pos hb] at this
      by_cases hq : 1 ≤ yi (yg ρ k h) lo v u * yg ρ k h u / 1000
      · rw [Nat.max_eq_right hq] at this
        simp (disch := omega) only [y_c0, y_c1, y_c10, y_c106, y_c128, y_c13, y_c14, y_c155, y_c2, y_c20, y_c204, y_c21, y_c253, y_c3, y_c353, y_c4, y_c40, y_c49, y_c57, y_c6, y_c7, y_c8, y_d0, y_d1, y_d10, y_d3, y_d7, y_dR, y_dS, y_dk, y_Ilt, y_Ile, y_Ieq, y_Iadd, y_Imul, y_Idiv, y_Llt, y_Lle, y_Leq, y_Ladd, y_Lmul, y_Ldiv, y_I2l, y_L2i, y_shn, y_or, y_and, y_bn1, y_bn0, y_inb, y_cl, y_gle, y_gge, y_ggt, y_glt, y_geq, if_pos, if_neg, if_true, if_false, Option.bind_some, hs, hb.1]
        exact this
      · rw [Nat.max_eq_left (by omega)] at this
        simp (disch := omega) only [y_c0, y_c1, y_c10, y_c106, y_c128, y_c13, y_c14, y_c155, y_c2, y_c20, y_c204, y_c21, y_c253, y_c3, y_c353, y_c4, y_c40, y_c49, y_c57, y_c6, y_c7, y_c8, y_d0, y_d1, y_d10, y_d3, y_d7, y_dR, y_dS, y_dk, y_Ilt, y_Ile, y_Ieq, y_Iadd, y_Imul, y_Idiv, y_Llt, y_Lle, y_Leq, y_Ladd, y_Lmul, y_Ldiv, y_I2l, y_L2i, y_shn, y_or, y_and, y_bn1, y_bn0, y_inb, y_cl, y_gle, y_gge, y_ggt, y_glt, y_geq, if_pos, if_neg, if_true, if_false, Option.bind_some, hs, hb.1]
        exact this
    · rw [if_neg hb] at this
      by_cases hb1 : lo.testBit u = true
      · have : ¬ 0 < yg ρ k h u := fun z => hb ⟨hb1, z⟩
        simp (disch := omega) only [y_c0, y_c1, y_c10, y_c106, y_c128, y_c13, y_c14, y_c155, y_c2, y_c20, y_c204, y_c21, y_c253, y_c3, y_c353, y_c4, y_c40, y_c49, y_c57, y_c6, y_c7, y_c8, y_d0, y_d1, y_d10, y_d3, y_d7, y_dR, y_dS, y_dk, y_Ilt, y_Ile, y_Ieq, y_Iadd, y_Imul, y_Idiv, y_Llt, y_Lle, y_Leq, y_Ladd, y_Lmul, y_Ldiv, y_I2l, y_L2i, y_shn, y_or, y_and, y_bn1, y_bn0, y_inb, y_cl, y_gle, y_gge, y_ggt, y_glt, y_geq, if_pos, if_neg, if_true, if_false, Option.bind_some, hs, hb1]
        exact ih (u + 1) n v (by omega) (by omega) hv1 hv2 |> fun e => by rw [yi, if_neg hb] at e; exact e
      · have hb2 : lo.testBit u = false := by simpa using hb1
        simp (disch := omega) only [y_c0, y_c1, y_c10, y_c106, y_c128, y_c13, y_c14, y_c155, y_c2, y_c20, y_c204, y_c21, y_c253, y_c3, y_c353, y_c4, y_c40, y_c49, y_c57, y_c6, y_c7, y_c8, y_d0, y_d1, y_d10, y_d3, y_d7, y_dR, y_dS, y_dk, y_Ilt, y_Ile, y_Ieq, y_Iadd, y_Imul, y_Idiv, y_Llt, y_Lle, y_Leq, y_Ladd, y_Lmul, y_Ldiv, y_I2l, y_L2i, y_shn, y_or, y_and, y_bn1, y_bn0, y_inb, y_cl, y_gle, y_gge, y_ggt, y_glt, y_geq, if_pos, if_neg, if_true, if_false, Option.bind_some, hs, hb2, Bool.false_eq_true]
        exact this
