-- what the reading calls answer
theorem e_sum {N K : Nat} {q : CW} {w : TW} (hw : WK N K w q) {j : Nat} (hj : j ≤ 3) : f_L_trySum w (nI j) = some (q.2 j, ()) := by
  have a := hw.1.2.2.2.2.1 j (by omega)
  have e1 := n_rng (v := j) (lo := 0) (hi := 3) (by omega) hj (by omega)
  have e3 := c_isIn (a := j) (lo := 0) (hi := 3) (by omega) (by omega) (by omega)
  rw [if_pos ⟨Nat.zero_le _, hj⟩] at e3
  have e : f_X8_sum w (nI j) = some (Sum.inr (q.2 j), ()) := by
    simp (disch := omega) only [y_c0, y_c1, y_c10, y_c100, y_c1000, y_c10000, y_c100000, y_c106, y_c112, y_c116, y_c127, y_c128, y_c13, y_c14, y_c155, y_c2, y_c20, y_c200, y_c204, y_c21, y_c253, y_c255, y_c3, y_c30, y_c302, y_c303, y_c304, y_c305, y_c306, y_c307, y_c308, y_c309, y_c310, y_c311, y_c312, y_c313, y_c314, y_c315, y_c316, y_c32, y_c33, y_c353, y_c39, y_c4, y_c40, y_c44, y_c4589, y_c48, y_c49, y_c5, y_c512, y_c54, y_c57, y_c59, y_c6, y_c62, y_c64, y_c7, y_c8, y_c9, y_c99, y_c9999, y_d0, y_d1, y_d10, y_d100, y_d1000000, y_d1442695040888963407, y_d2, y_d20, y_d255, y_d3, y_d4, y_d40, y_d4294967295, y_d48, y_d5, y_d50, y_d54, y_d57, y_d6364136223846793005, y_d7, y_d9, y_d9999, y_dR, y_dS, y_dk, y_nar0, y_nar1, y_Ilt, y_Ile, y_Ieq, y_Iadd, y_Imul, y_Idiv, y_Llt, y_Lle, y_Leq, y_Ladd, y_Lmul, y_Ldiv, y_I2l, y_L2i, y_shn, y_or, y_and, y_bn1, y_bn0, y_inb, y_cl, y_gle, y_gge, y_ggt, y_glt, y_geq, if_pos, if_neg, if_true, if_false, Option.bind_some, f_X8_sum, e1, e3, f_X7_sumOf, a, Sum.elim_inr]
  unfold f_L_trySum
  rw [e]; rfl
/-- a pair's number -/
def pnv (ρ : Nat → Nat) (p j : Nat) : Int32 := if 0 < ρ (8 + p) then (if j = 0 then nI (ρ (57 + p)) else if j = 1 then nI (ρ (106 + p)) else if j = 2 then nI (yBl ρ p) else if j = 3 then (if 0 < ρ (155 + p) then nI (ρ (204 + p)) else -1) else nI (ρ (253 + p))) else -1
theorem e_pair {N K : Nat} {q : CW} {w : TW} (hw : WK N K w q) {a b j : Nat} (hab : a < b) (hb : b < q.1 0) (hj : j ≤ 4) : f_L_tryPair w (nI a) (nI b) (nI j) = some (pnv q.1 (7 * a + b) j, ()) := by
  have h7 := hw.2.1.1.1
  have hne : ¬ nI a = nI b := fun z => by have := (nI_eq (by omega) (by omega)).mp z; omega
  have t1 := n2_ok (nt_ok hw (t := a) (by omega)) (nt_ok hw hb) hne
  have e1 := n_rng (v := j) (lo := 0) (hi := 4) (by omega) hj (by omega)
  have cp := c_pair a (by omega) b (by omega) (by omega)
  have hd := yci_lt a (by omega) b (by omega) (by omega)
  have hy : yq (yci a b) = 7 * a + b := by
    rw [yq_ci a (by omega) b (by omega) (by omega)]
    omega
  generalize yci a b = d at cp hd hy
  have el := c_isLinked hw.1.1 hw.2.1.1 hd
  have em := c_hasMem hw.1.1 hw.2.1.1 hd
  have g : f_X7_pairNumberOf w (nI d) (nI j) = some (pnv q.1 (7 * a + b) j, ()) := by
    rw [← hy]
    unfold pnv
    by_cases q8 : 0 < q.1 (8 + yq d)
    · rw [if_pos q8] at el ⊢
      have qj : j = 0 ∨ j = 1 ∨ j = 2 ∨ j = 3 ∨ j = 4 := by omega
      rcases qj with e | e | e | e | e <;> subst e
      · have s := c_shareOf (k := 0) hw.1.1 hw.2.1.1 hd (by omega)
        rw [show ysh q.1 0 (yq d) = q.1 (57 + yq d) from rfl] at s
        simp (disch := omega) only [y_c0, y_c1, y_c10, y_c100, y_c1000, y_c10000, y_c100000, y_c106, y_c112, y_c116, y_c127, y_c128, y_c13, y_c14, y_c155, y_c2, y_c20, y_c200, y_c204, y_c21, y_c253, y_c255, y_c3, y_c30, y_c302, y_c303, y_c304, y_c305, y_c306, y_c307, y_c308, y_c309, y_c310, y_c311, y_c312, y_c313, y_c314, y_c315, y_c316, y_c32, y_c33, y_c353, y_c39, y_c4, y_c40, y_c44, y_c4589, y_c48, y_c49, y_c5, y_c512, y_c54, y_c57, y_c59, y_c6, y_c62, y_c64, y_c7, y_c8, y_c9, y_c99, y_c9999, y_d0, y_d1, y_d10, y_d100, y_d1000000, y_d1442695040888963407, y_d2, y_d20, y_d255, y_d3, y_d4, y_d40, y_d4294967295, y_d48, y_d5, y_d50, y_d54, y_d57, y_d6364136223846793005, y_d7, y_d9, y_d9999, y_dR, y_dS, y_dk, y_nar0, y_nar1, y_Ilt, y_Ile, y_Ieq, y_Iadd, y_Imul, y_Idiv, y_Llt, y_Lle, y_Leq, y_Ladd, y_Lmul, y_Ldiv, y_I2l, y_L2i, y_shn, y_or, y_and, y_bn1, y_bn0, y_inb, y_cl, y_gle, y_gge, y_ggt, y_glt, y_geq, if_pos, if_neg, if_true, if_false, Option.bind_some, f_X7_pairNumberOf, el, s]
      · have s := c_shareOf (k := 2) hw.1.1 hw.2.1.1 hd (by omega)
        rw [show ysh q.1 2 (yq d) = q.1 (106 + yq d) from rfl] at s
        simp (disch := omega) only [y_c0, y_c1, y_c10, y_c100, y_c1000, y_c10000, y_c100000, y_c106, y_c112, y_c116, y_c127, y_c128, y_c13, y_c14, y_c155, y_c2, y_c20, y_c200, y_c204, y_c21, y_c253, y_c255, y_c3, y_c30, y_c302, y_c303, y_c304, y_c305, y_c306, y_c307, y_c308, y_c309, y_c310, y_c311, y_c312, y_c313, y_c314, y_c315, y_c316, y_c32, y_c33, y_c353, y_c39, y_c4, y_c40, y_c44, y_c4589, y_c48, y_c49, y_c5, y_c512, y_c54, y_c57, y_c59, y_c6, y_c62, y_c64, y_c7, y_c8, y_c9, y_c99, y_c9999, y_d0, y_d1, y_d10, y_d100, y_d1000000, y_d1442695040888963407, y_d2, y_d20, y_d255, y_d3, y_d4, y_d40, y_d4294967295, y_d48, y_d5, y_d50, y_d54, y_d57, y_d6364136223846793005, y_d7, y_d9, y_d9999, y_dR, y_dS, y_dk, y_nar0, y_nar1, y_Ilt, y_Ile, y_Ieq, y_Iadd, y_Imul, y_Idiv, y_Llt, y_Lle, y_Leq, y_Ladd, y_Lmul, y_Ldiv, y_I2l, y_L2i, y_shn, y_or, y_and, y_bn1, y_bn0, y_inb, y_cl, y_gle, y_gge, y_ggt, y_glt, y_geq, if_pos, if_neg, if_true, if_false, Option.bind_some, f_X7_pairNumberOf, el, s]
      · have s := c_shareOf (k := 1) hw.1.1 hw.2.1.1 hd (by omega)
        rw [show ysh q.1 1 (yq d) = yBl q.1 (yq d) from rfl] at s
        simp (disch := omega) only [y_c0, y_c1, y_c10, y_c100, y_c1000, y_c10000, y_c100000, y_c106, y_c112, y_c116, y_c127, y_c128, y_c13, y_c14, y_c155, y_c2, y_c20, y_c200, y_c204, y_c21, y_c253, y_c255, y_c3, y_c30, y_c302, y_c303, y_c304, y_c305, y_c306, y_c307, y_c308, y_c309, y_c310, y_c311, y_c312, y_c313, y_c314, y_c315, y_c316, y_c32, y_c33, y_c353, y_c39, y_c4, y_c40, y_c44, y_c4589, y_c48, y_c49, y_c5, y_c512, y_c54, y_c57, y_c59, y_c6, y_c62, y_c64, y_c7, y_c8, y_c9, y_c99, y_c9999, y_d0, y_d1, y_d10, y_d100, y_d1000000, y_d1442695040888963407, y_d2, y_d20, y_d255, y_d3, y_d4, y_d40, y_d4294967295, y_d48, y_d5, y_d50, y_d54, y_d57, y_d6364136223846793005, y_d7, y_d9, y_d9999, y_dR, y_dS, y_dk, y_nar0, y_nar1, y_Ilt, y_Ile, y_Ieq, y_Iadd, y_Imul, y_Idiv, y_Llt, y_Lle, y_Leq, y_Ladd, y_Lmul, y_Ldiv, y_I2l, y_L2i, y_shn, y_or, y_and, y_bn1, y_bn0, y_inb, y_cl, y_gle, y_gge, y_ggt, y_glt, y_geq, if_pos, if_neg, if_true, if_false, Option.bind_some, f_X7_pairNumberOf, el, s]
      · by_cases qm : 0 < q.1 (155 + yq d)
        · rw [if_pos qm] at em
          have ag := hw.1.2.2.2.2.2.2.1 d hd qm
          simp (disch := omega) only [y_c0, y_c1, y_c10, y_c100, y_c1000, y_c10000, y_c100000, y_c106, y_c112, y_c116, y_c127, y_c128, y_c13, y_c14, y_c155, y_c2, y_c20, y_c200, y_c204, y_c21, y_c253, y_c255, y_c3, y_c30, y_c302, y_c303, y_c304, y_c305, y_c306, y_c307, y_c308, y_c309, y_c310, y_c311, y_c312, y_c313, y_c314, y_c315, y_c316, y_c32, y_c33, y_c353, y_c39, y_c4, y_c40, y_c44, y_c4589, y_c48, y_c49, y_c5, y_c512, y_c54, y_c57, y_c59, y_c6, y_c62, y_c64, y_c7, y_c8, y_c9, y_c99, y_c9999, y_d0, y_d1, y_d10, y_d100, y_d1000000, y_d1442695040888963407, y_d2, y_d20, y_d255, y_d3, y_d4, y_d40, y_d4294967295, y_d48, y_d5, y_d50, y_d54, y_d57, y_d6364136223846793005, y_d7, y_d9, y_d9999, y_dR, y_dS, y_dk, y_nar0, y_nar1, y_Ilt, y_Ile, y_Ieq, y_Iadd, y_Imul, y_Idiv, y_Llt, y_Lle, y_Leq, y_Ladd, y_Lmul, y_Ldiv, y_I2l, y_L2i, y_shn, y_or, y_and, y_bn1, y_bn0, y_inb, y_cl, y_gle, y_gge, y_ggt, y_glt, y_geq, if_pos, if_neg, if_true, if_false, Option.bind_some, f_X7_pairNumberOf, el, em, ag, qm]
        · rw [if_neg qm] at em
          simp (disch := omega) only [y_c0, y_c1, y_c10, y_c100, y_c1000, y_c10000, y_c100000, y_c106, y_c112, y_c116, y_c127, y_c128, y_c13, y_c14, y_c155, y_c2, y_c20, y_c200, y_c204, y_c21, y_c253, y_c255, y_c3, y_c30, y_c302, y_c303, y_c304, y_c305, y_c306, y_c307, y_c308, y_c309, y_c310, y_c311, y_c312, y_c313, y_c314, y_c315, y_c316, y_c32, y_c33, y_c353, y_c39, y_c4, y_c40, y_c44, y_c4589, y_c48, y_c49, y_c5, y_c512, y_c54, y_c57, y_c59, y_c6, y_c62, y_c64, y_c7, y_c8, y_c9, y_c99, y_c9999, y_d0, y_d1, y_d10, y_d100, y_d1000000, y_d1442695040888963407, y_d2, y_d20, y_d255, y_d3, y_d4, y_d40, y_d4294967295, y_d48, y_d5, y_d50, y_d54, y_d57, y_d6364136223846793005, y_d7, y_d9, y_d9999, y_dR, y_dS, y_dk, y_nar0, y_nar1, y_Ilt, y_Ile, y_Ieq, y_Iadd, y_Imul, y_Idiv, y_Llt, y_Lle, y_Leq, y_Ladd, y_Lmul, y_Ldiv, y_I2l, y_L2i, y_shn, y_or, y_and, y_bn1, y_bn0, y_inb, y_cl, y_gle, y_gge, y_ggt, y_glt, y_geq, if_pos, if_neg, if_true, if_false, Option.bind_some, f_X7_pairNumberOf, el, em, qm]
      · have so := hw.1.2.2.2.2.2.2.2.1 d hd
        simp (disch := omega) only [y_c0, y_c1, y_c10, y_c100, y_c1000, y_c10000, y_c100000, y_c106, y_c112, y_c116, y_c127, y_c128, y_c13, y_c14, y_c155, y_c2, y_c20, y_c200, y_c204, y_c21, y_c253, y_c255, y_c3, y_c30, y_c302, y_c303, y_c304, y_c305, y_c306, y_c307, y_c308, y_c309, y_c310, y_c311, y_c312, y_c313, y_c314, y_c315, y_c316, y_c32, y_c33, y_c353, y_c39, y_c4, y_c40, y_c44, y_c4589, y_c48, y_c49, y_c5, y_c512, y_c54, y_c57, y_c59, y_c6, y_c62, y_c64, y_c7, y_c8, y_c9, y_c99, y_c9999, y_d0, y_d1, y_d10, y_d100, y_d1000000, y_d1442695040888963407, y_d2, y_d20, y_d255, y_d3, y_d4, y_d40, y_d4294967295, y_d48, y_d5, y_d50, y_d54, y_d57, y_d6364136223846793005, y_d7, y_d9, y_d9999, y_dR, y_dS, y_dk, y_nar0, y_nar1, y_Ilt, y_Ile, y_Ieq, y_Iadd, y_Imul, y_Idiv, y_Llt, y_Lle, y_Leq, y_Ladd, y_Lmul, y_Ldiv, y_I2l, y_L2i, y_shn, y_or, y_and, y_bn1, y_bn0, y_inb, y_cl, y_gle, y_gge, y_ggt, y_glt, y_geq, if_pos, if_neg, if_true, if_false, Option.bind_some, f_X7_pairNumberOf, el, so]
    · rw [if_neg q8] at el ⊢
      simp (disch := omega) only [y_c0, y_c1, y_c10, y_c100, y_c1000, y_c10000, y_c100000, y_c106, y_c112, y_c116, y_c127, y_c128, y_c13, y_c14, y_c155, y_c2, y_c20, y_c200, y_c204, y_c21, y_c253, y_c255, y_c3, y_c30, y_c302, y_c303, y_c304, y_c305, y_c306, y_c307, y_c308, y_c309, y_c310, y_c311, y_c312, y_c313, y_c314, y_c315, y_c316, y_c32, y_c33, y_c353, y_c39, y_c4, y_c40, y_c44, y_c4589, y_c48, y_c49, y_c5, y_c512, y_c54, y_c57, y_c59, y_c6, y_c62, y_c64, y_c7, y_c8, y_c9, y_c99, y_c9999, y_d0, y_d1, y_d10, y_d100, y_d1000000, y_d1442695040888963407, y_d2, y_d20, y_d255, y_d3, y_d4, y_d40, y_d4294967295, y_d48, y_d5, y_d50, y_d54, y_d57, y_d6364136223846793005, y_d7, y_d9, y_d9999, y_dR, y_dS, y_dk, y_nar0, y_nar1, y_Ilt, y_Ile, y_Ieq, y_Iadd, y_Imul, y_Idiv, y_Llt, y_Lle, y_Leq, y_Ladd, y_Lmul, y_Ldiv, y_I2l, y_L2i, y_shn, y_or, y_and, y_bn1, y_bn0, y_inb, y_cl, y_gle, y_gge, y_ggt, y_glt, y_geq, if_pos, if_neg, if_true, if_false, Option.bind_some, f_X7_pairNumberOf, el]
  have e : f_X8_pair w (nI a) (nI b) (nI j) = some (Sum.inr (pnv q.1 (7 * a + b) j), ()) := by
    simp (disch := omega) only [y_c0, y_c1, y_c10, y_c100, y_c1000, y_c10000, y_c100000, y_c106, y_c112, y_c116, y_c127, y_c128, y_c13, y_c14, y_c155, y_c2, y_c20, y_c200, y_c204, y_c21, y_c253, y_c255, y_c3, y_c30, y_c302, y_c303, y_c304, y_c305, y_c306, y_c307, y_c308, y_c309, y_c310, y_c311, y_c312, y_c313, y_c314, y_c315, y_c316, y_c32, y_c33, y_c353, y_c39, y_c4, y_c40, y_c44, y_c4589, y_c48, y_c49, y_c5, y_c512, y_c54, y_c57, y_c59, y_c6, y_c62, y_c64, y_c7, y_c8, y_c9, y_c99, y_c9999, y_d0, y_d1, y_d10, y_d100, y_d1000000, y_d1442695040888963407, y_d2, y_d20, y_d255, y_d3, y_d4, y_d40, y_d4294967295, y_d48, y_d5, y_d50, y_d54, y_d57, y_d6364136223846793005, y_d7, y_d9, y_d9999, y_dR, y_dS, y_dk, y_nar0, y_nar1, y_Ilt, y_Ile, y_Ieq, y_Iadd, y_Imul, y_Idiv, y_Llt, y_Lle, y_Leq, y_Ladd, y_Lmul, y_Ldiv, y_I2l, y_L2i, y_shn, y_or, y_and, y_bn1, y_bn0, y_inb, y_cl, y_gle, y_gge, y_ggt, y_glt, y_geq, if_pos, if_neg, if_true, if_false, Option.bind_some, f_X8_pair, t1, e1, cp, g, Sum.elim_inr]
  unfold f_L_tryPair
  rw [e]; rfl
theorem ec_pair {N K : Nat} {q : CW} {w : TW} (hw : WK N K w q) {a b j : Nat} (hab : a < b) (hb : b < q.1 0) (hj : j ≤ 4) (T E cc P Q H S) : f_L_call T E w cc P Q H S 4 (nI a) (nI b) (nI j) = some (pnv q.1 (7 * a + b) j, (T, E, w, cc, P, Q, H, S)) := by
  unfold f_L_call
  rw [if_neg (by decide), if_neg (by decide), if_neg (by decide), if_neg (by decide), if_pos rfl, e_pair hw hab hb hj]; rfl
theorem ec_order {N K : Nat} {q : CW} {w : TW} (hw : WK N K w q) {S0 k j : Nat} (hS : S0 < 2 ^ q.1 0) (hk : k ≤ 2) (hj : j < 2147483648) (T E cc P Q H S) : ∃ P', f_L_call T E w cc P Q H S 14 (nI S0) (nI k) (nI j) = some (if j < (yPl q.1 k S0).length then nI ((yPl q.1 k S0).getD j 0) else -1, (T, E, w, cc, P', Q, H, S)) := by
  obtain ⟨P', a1, a2⟩ := cp_chooseP (P := P) hw.1.1 hw.2.1.1 hk hS
  have hl : (yPl q.1 k S0).length ≤ 7 := yP_len 7 0
  have c1 := cp_tab a2.2.2 hl hj
  refine ⟨P', ?_⟩
  have e : f_X8_order w P (nI S0) (nI k) (nI j) = some (Sum.inr (if j < (yPl q.1 k S0).length then nI ((yPl q.1 k S0).getD j 0) else -1), P') := by
    unfold f_X8_order
    rw [ns_ok hw hS, Option.bind_some]
    show ((f_X8_needKind (nI k)).bind _) = _
    rw [c_kind, n_rng (v := k) (lo := 0) (hi := 2) (by omega) hk (by omega), Option.bind_some]
    show ((f_X8_needAtLeast (nI j) (0 : Int32)).bind _) = _
    rw [show f_X8_needAtLeast (nI j) (0 : Int32) = some (Sum.inr (), ()) from by unfold f_X8_needAtLeast; exact if_pos (show (0 : Int32) ≤ nI j from (y_Ile (a := 0) (by omega) (by omega)).mpr (Nat.zero_le _)), Option.bind_some]
    show ((f_X3_choose P w (nI S0) (nI k)).bind _) = _
    rw [a1, Option.bind_some, c1]; rfl
  unfold f_L_call
  rw [if_neg (by decide), if_neg (by decide), if_neg (by decide), if_neg (by decide), if_neg (by decide), if_neg (by decide), if_neg (by decide), if_neg (by decide), if_neg (by decide), if_neg (by decide), if_neg (by decide), if_neg (by decide), if_neg (by decide), if_neg (by decide), if_pos rfl]
  unfold f_L_tryOrder
  rw [e]; rfl
theorem e_cost {N K : Nat} {q : CW} {w : TW} (hw : WK N K w q) {S0 k : Nat} (hS : S0 < 2 ^ q.1 0) (hk : k ≤ 2) (P Q : TP) : ∃ P' Q', f_L_tryCost w P Q (nI S0) (nI k) = some (yCost q.1 S0 k, (P', Q')) := by
  have t1 := ns_ok hw hS
  have e1 := n_rng (v := k) (lo := 0) (hi := 2) (by omega) hk (by omega)
  have g : ∃ P1' P2', f_X8_cost w P Q (nI S0) (nI k) = some (Sum.inr (yCost q.1 S0 k), (P1', P2')) := by
    have qk : k = 0 ∨ k = 1 ∨ k = 2 := by omega
    rcases qk with e | e | e <;> subst e
    · obtain ⟨Q1, a1, a2⟩ := cp_chooseP (P := P) (k := 1) hw.1.1 hw.2.1.1 (by omega) hS
      refine ⟨Q1, Q, ?_⟩
      have a3 := cp_least Q1
      rw [a2.2.1] at a3
      simp (disch := omega) only [y_c0, y_c1, y_c10, y_c100, y_c1000, y_c10000, y_c100000, y_c106, y_c112, y_c116, y_c127, y_c128, y_c13, y_c14, y_c155, y_c2, y_c20, y_c200, y_c204, y_c21, y_c253, y_c255, y_c3, y_c30, y_c302, y_c303, y_c304, y_c305, y_c306, y_c307, y_c308, y_c309, y_c310, y_c311, y_c312, y_c313, y_c314, y_c315, y_c316, y_c32, y_c33, y_c353, y_c39, y_c4, y_c40, y_c44, y_c4589, y_c48, y_c49, y_c5, y_c512, y_c54, y_c57, y_c59, y_c6, y_c62, y_c64, y_c7, y_c8, y_c9, y_c99, y_c9999, y_d0, y_d1, y_d10, y_d100, y_d1000000, y_d1442695040888963407, y_d2, y_d20, y_d255, y_d3, y_d4, y_d40, y_d4294967295, y_d48, y_d5, y_d50, y_d54, y_d57, y_d6364136223846793005, y_d7, y_d9, y_d9999, y_dR, y_dS, y_dk, y_nar0, y_nar1, y_Ilt, y_Ile, y_Ieq, y_Iadd, y_Imul, y_Idiv, y_Llt, y_Lle, y_Leq, y_Ladd, y_Lmul, y_Ldiv, y_I2l, y_L2i, y_shn, y_or, y_and, y_bn1, y_bn0, y_inb, y_cl, y_gle, y_gge, y_ggt, y_glt, y_geq, if_pos, if_neg, if_true, if_false, Option.bind_some, f_X8_cost, t1, e1, a1, a3, Sum.elim_inr]
      rfl
    · obtain ⟨Q1, a1, a2⟩ := cp_chooseP (P := P) (k := 1) hw.1.1 hw.2.1.1 (by omega) hS
      obtain ⟨Q2, b1, b2, b3⟩ := cw_weigh (P := Q) (k := 2) hw.1.1 hw.2.1.1 (by omega) hS
      have c := cp_by (P1 := Q1) (P2 := Q2) (k1 := 1) (k2 := 2) hw.2.1.1 hS a2 b2
      refine ⟨Q1, Q2, ?_⟩
      simp (disch := omega) only [y_c0, y_c1, y_c10, y_c100, y_c1000, y_c10000, y_c100000, y_c106, y_c112, y_c116, y_c127, y_c128, y_c13, y_c14, y_c155, y_c2, y_c20, y_c200, y_c204, y_c21, y_c253, y_c255, y_c3, y_c30, y_c302, y_c303, y_c304, y_c305, y_c306, y_c307, y_c308, y_c309, y_c310, y_c311, y_c312, y_c313, y_c314, y_c315, y_c316, y_c32, y_c33, y_c353, y_c39, y_c4, y_c40, y_c44, y_c4589, y_c48, y_c49, y_c5, y_c512, y_c54, y_c57, y_c59, y_c6, y_c62, y_c64, y_c7, y_c8, y_c9, y_c99, y_c9999, y_d0, y_d1, y_d10, y_d100, y_d1000000, y_d1442695040888963407, y_d2, y_d20, y_d255, y_d3, y_d4, y_d40, y_d4294967295, y_d48, y_d5, y_d50, y_d54, y_d57, y_d6364136223846793005, y_d7, y_d9, y_d9999, y_dR, y_dS, y_dk, y_nar0, y_nar1, y_Ilt, y_Ile, y_Ieq, y_Iadd, y_Imul, y_Idiv, y_Llt, y_Lle, y_Leq, y_Ladd, y_Lmul, y_Ldiv, y_I2l, y_L2i, y_shn, y_or, y_and, y_bn1, y_bn0, y_inb, y_cl, y_gle, y_gge, y_ggt, y_glt, y_geq, if_pos, if_neg, if_true, if_false, Option.bind_some, f_X8_cost, t1, e1, a1, b1, c, Sum.elim_inr]
      rfl
    · obtain ⟨Q1, Q2, a1, a2, a3⟩ := c_regret (P1 := P) (P2 := Q) hw.1.1 hw.2.1.1 hS
      refine ⟨Q1, Q2, ?_⟩
      simp (disch := omega) only [y_c0, y_c1, y_c10, y_c100, y_c1000, y_c10000, y_c100000, y_c106, y_c112, y_c116, y_c127, y_c128, y_c13, y_c14, y_c155, y_c2, y_c20, y_c200, y_c204, y_c21, y_c253, y_c255, y_c3, y_c30, y_c302, y_c303, y_c304, y_c305, y_c306, y_c307, y_c308, y_c309, y_c310, y_c311, y_c312, y_c313, y_c314, y_c315, y_c316, y_c32, y_c33, y_c353, y_c39, y_c4, y_c40, y_c44, y_c4589, y_c48, y_c49, y_c5, y_c512, y_c54, y_c57, y_c59, y_c6, y_c62, y_c64, y_c7, y_c8, y_c9, y_c99, y_c9999, y_d0, y_d1, y_d10, y_d100, y_d1000000, y_d1442695040888963407, y_d2, y_d20, y_d255, y_d3, y_d4, y_d40, y_d4294967295, y_d48, y_d5, y_d50, y_d54, y_d57, y_d6364136223846793005, y_d7, y_d9, y_d9999, y_dR, y_dS, y_dk, y_nar0, y_nar1, y_Ilt, y_Ile, y_Ieq, y_Iadd, y_Imul, y_Idiv, y_Llt, y_Lle, y_Leq, y_Ladd, y_Lmul, y_Ldiv, y_I2l, y_L2i, y_shn, y_or, y_and, y_bn1, y_bn0, y_inb, y_cl, y_gle, y_gge, y_ggt, y_glt, y_geq, if_pos, if_neg, if_true, if_false, Option.bind_some, f_X8_cost, t1, e1, a1, Sum.elim_inr]
  obtain ⟨P1', P2', g⟩ := g
  refine ⟨P1', P2', ?_⟩
  unfold f_L_tryCost
  rw [g]; rfl
theorem yrw_0 (ρ : Nat → Nat) (k : Nat) : yrw ρ k 0 = 1 := by
  have : ∀ n, yr (yz ρ) (yg ρ k) 0 n = 1 := by
    intro n
    induction n with
    | zero => rfl
    | succ n ih => rw [yr, if_neg (by rw [Nat.zero_testBit]; exact Bool.false_ne_true)]; exact ih
  exact this 7
theorem e_rows0 {N K : Nat} {q : CW} {w : TW} (hw : WK N K w q) {k : Nat} (hk : k ≤ 2) (P : TP) : ∃ P', f_L_tryRows w P (0 : Int32) (nI k) = some (1, P') := by
  have hS : 0 < 2 ^ q.1 0 := Nat.two_pow_pos _
  obtain ⟨P', a1, a2, a3⟩ := cw_weigh (P := P) hw.1.1 hw.2.1.1 hk hS
  have b2 := a2.2.2 0 (by omega) (Nat.and_self 0)
  have b3 := cp_rows (P := P') (s := 0) (by omega)
  rw [b2, yrw_0] at b3
  refine ⟨P', ?_⟩
  have e : f_X8_rows w P (0 : Int32) (nI k) = some (Sum.inr 1, P') := by
    unfold f_X8_rows
    rw [show f_X8_needTables w (0 : Int32) = some (Sum.inr (), ()) from ns_ok hw hS, Option.bind_some]
    show ((f_X8_needKind (nI k)).bind _) = _
    rw [c_kind, n_rng (v := k) (lo := 0) (hi := 2) (by omega) hk (by omega), Option.bind_some]
    show ((f_X3_weigh P w (0 : Int32) (nI k)).bind _) = _
    rw [show f_X3_weigh P w (0 : Int32) (nI k) = some ((), P') from a1, Option.bind_some]
    show ((f_X3_rowsOf P' (0 : Int32)).bind _) = _
    rw [show f_X3_rowsOf P' (0 : Int32) = some (lN 1, ()) from b3]; rfl
  unfold f_L_tryRows
  rw [e]; rfl
/-- the first of rr runs, one behind the other, behind none of which there was a regret -/
def LF (S : Nat) : Nat → (Nat → Nat) → Option Nat
  | 0, _ => none
  | rr + 1, ρ => if yCost ρ S 2 = lN 0 then some 0 else (LF S rr (yRn S ρ)).map (· + 1)
def gl (x2 : Nat) : Option Nat → Int32
  | none => -1
  | some j => nI (x2 + j)
theorem gl_s (x2 : Nat) (o : Option Nat) : gl (x2 + 1) o = gl x2 (o.map (· + 1)) := by
  cases o with
  | none => rfl
  | some j => show nI (x2 + 1 + j) = nI (x2 + (j + 1)); congr 1; omega
theorem x_lrn {S : Nat} {now : Nat → Int64} : ∀ rr x2 n M cb pb tp pl r ρ σ N, x2 + rr = 31 → rr < n → RRf r ρ σ → INf N ρ → N + rr * 50 < 700000 → S < 2 ^ ρ 0 →
    ∃ M' tr' cb' pb' tp' pl', f_X9_learnsIn_L32 now (nI S) n (nI x2) M r cb pb tp pl = some (gl x2 (LF S rr ρ), (M', tr', cb', pb', tp', pl')) ∧ SM M' M := by
  intro rr
  induction rr with
  | zero =>
    intro x2 n M cb pb tp pl r ρ σ N hx hn hr hi hN hS
    obtain ⟨n, rfl⟩ : ∃ m, n = m + 1 := ⟨n - 1, by omega⟩
    refine ⟨M, r, cb, pb, tp, pl, ?_, ⟨rfl, rfl, rfl⟩⟩
    rw [f_X9_learnsIn_L32, show x2 = 31 by omega]
    exact if_pos (by decide)
  | succ rr ih =>
    intro x2 n M cb pb tp pl r ρ σ N hx hn hr hi hN hS
    obtain ⟨n, rfl⟩ : ∃ m, n = m + 1 := ⟨n - 1, by omega⟩
    obtain ⟨x, cb1, pb1, tp1, pl1, c1⟩ := x_cost (M := M) (cb := cb) (pb := pb) (tp := tp) (pl := pl) (what := 2) hr.p hi.1 hS (by omega)
    have nx : ¬ (30 : Int32) < nI x2 := fun z => by have := (y_Ilt (a := 30) (by omega) (by omega)).mp z; omega
    rw [f_X9_learnsIn_L32, if_neg nx, show (2 : Int32) = nI 2 from rfl, c1, Option.bind_some, LF]
    by_cases q : yCost ρ S 2 = lN 0
    · rw [if_pos (show lg_cmp (yCost ρ S 2) (0 : Int64) = (0 : Int32) from (lg_cmp_eq _ _).mpr q), if_pos q]
      exact ⟨_, _, _, _, _, _, rfl, ⟨rfl, rfl, rfl⟩⟩
    · rw [if_neg (show ¬ lg_cmp (yCost ρ S 2) (0 : Int64) = (0 : Int32) from fun z => q ((lg_cmp_eq _ _).mp z)), if_neg q]
      obtain ⟨y, cb2, pb2, tp2, pl2, r2, d1, d2⟩ := x_runOn (S := S) (M := Mpl M x) (cb := cb1) (pb := pb1) (tp := tp1) (pl := pl1) hr hi (by omega) hS
      have e0 : yRn S ρ 0 = ρ 0 := yRn_o ρ (by omega)
      obtain ⟨M', tr', cb', pb', tp', pl', e, e1⟩ := ih (x2 + 1) n (Mpl (Mpl M x) y) cb2 pb2 tp2 pl2 r2 (yRn S ρ) (yσ ρ S σ) (N + 50) (by omega) (by omega) d2 hi.rn (by omega) (by rw [e0]; exact hS)
      refine ⟨M', tr', cb', pb', tp', pl', ?_, e1⟩
      show ((f_X9_runOn 353 (Mpl M x) cb1 pb1 tp1 pl1 r (nI S)).bind _) = _
      rw [d1, Option.bind_some, y_c1, y_Iadd, ← gl_s]
      exact e
theorem ec_learns {N K : Nat} {q : CW} {w : TW} (hN : N < 600000) (hw : WK N K w q) {S0 : Nat} (hS : S0 < 2 ^ q.1 0) (h0 : 0 < S0) (T E cc P Q H S) : ∃ c' P' Q', f_L_call T E w cc P Q H S 17 (nI S0) 0 0 = some (gl 0 (LF S0 31 q.1), (T, E, w, c', P', Q', H, S)) := by
  have hb := y_2pow hw.2.1.1 hS
  obtain ⟨res, av, w', P1', P2', M', tr', cb', pb', tp', pl', e1, e2, e3, -⟩ := p_learns (w0 := cc) (P1 := P) (P2 := Q) (tr := z64) (cb := z64) (pb := z64) (tp := z64) (pl := z32) hw.st hN (nI S0) M0
  have r0 := x_ref M0 (c := 0) (by omega)
  rw [if_pos rfl] at r0
  obtain ⟨tr1, d1, d2⟩ := x_trial (now := rr q) (tr := z64)
  obtain ⟨F, hF, hF1⟩ := y_fuel
  obtain ⟨M2, tr2, cb2, pb2, tp2, pl2, f1, f2⟩ := x_lrn (S := S0) (now := rr q) 31 0 F (Mrf M0 0) z64 z64 z64 z32 tr1 q.1 q.2 N rfl (by omega) ((rr_ok q).congr d2) hw.2.1 (by omega) hS
  have hx : f_X9_learnsIn M0 (rr q) z64 z64 z64 z64 z32 (nI S0) = some (gl 0 (LF S0 31 q.1), (M2, tr2, cb2, pb2, tp2, pl2)) := by
    have t2 : f_X9_isSet 353 (rr q) (nI S0) = some (nI 1, ()) := by
      have e := x_isS (rr_ok q).p hw.2.1.1.1 (j := S0) (by omega)
      rw [if_pos hS] at e; exact e
    have e : f_X9_whyNotRun 353 (rr q) (nI S0) = some (nI 0, ()) := by
      simp (disch := omega) only [y_c0, y_c1, y_c10, y_c100, y_c1000, y_c10000, y_c100000, y_c106, y_c112, y_c116, y_c127, y_c128, y_c13, y_c14, y_c155, y_c2, y_c20, y_c200, y_c204, y_c21, y_c253, y_c255, y_c3, y_c30, y_c302, y_c303, y_c304, y_c305, y_c306, y_c307, y_c308, y_c309, y_c310, y_c311, y_c312, y_c313, y_c314, y_c315, y_c316, y_c32, y_c33, y_c353, y_c39, y_c4, y_c40, y_c44, y_c4589, y_c48, y_c49, y_c5, y_c512, y_c54, y_c57, y_c59, y_c6, y_c62, y_c64, y_c7, y_c8, y_c9, y_c99, y_c9999, y_d0, y_d1, y_d10, y_d100, y_d1000000, y_d1442695040888963407, y_d2, y_d20, y_d255, y_d3, y_d4, y_d40, y_d4294967295, y_d48, y_d5, y_d50, y_d54, y_d57, y_d6364136223846793005, y_d7, y_d9, y_d9999, y_dR, y_dS, y_dk, y_nar0, y_nar1, y_Ilt, y_Ile, y_Ieq, y_Iadd, y_Imul, y_Idiv, y_Llt, y_Lle, y_Leq, y_Ladd, y_Lmul, y_Ldiv, y_I2l, y_L2i, y_shn, y_or, y_and, y_bn1, y_bn0, y_inb, y_cl, y_gle, y_gge, y_ggt, y_glt, y_geq, if_pos, if_neg, if_true, if_false, Option.bind_some, f_X9_whyNotRun, t2]
    unfold f_X9_learnsIn
    rw [e, Option.bind_some]
    show ((f_X9_refused M0 (nI 0)).bind _) = _
    rw [r0, Option.bind_some]
    refine (if_pos y_z0).trans ?_
    rw [d1, Option.bind_some, hF]
    exact f1
  have ee := Option.some.inj (e2.symm.trans hx)
  have ea : av = gl 0 (LF S0 31 q.1) := congrArg (fun z => z.1) ee
  have em : M_refusal M' = nI 0 := by
    rw [show M' = M2 from congrArg (fun z => z.2.1) ee, f2.1]; rfl
  have er : res = Sum.inr av := by
    rcases e3 with ⟨a, -⟩ | ⟨-, b, -⟩ | ⟨-, b, b2⟩ | ⟨-, b, -⟩
    · exact a
    · rw [em] at b; exact absurd ((nI_eq (by omega) (by omega)).mp b) (by omega)
    · omega
    · rw [em] at b; exact absurd ((nI_eq (by omega) (by omega)).mp b) (by omega)
  refine ⟨w', P1', P2', ?_⟩
  unfold f_L_call
  rw [if_neg (by decide), if_neg (by decide), if_neg (by decide), if_neg (by decide), if_neg (by decide), if_neg (by decide), if_neg (by decide), if_neg (by decide), if_neg (by decide), if_neg (by decide), if_neg (by decide), if_neg (by decide), if_neg (by decide), if_neg (by decide), if_neg (by decide), if_neg (by decide), if_neg (by decide), if_pos rfl]
  unfold f_L_tryLearns
  rw [e1, er, ea]; rfl
theorem LF_mono {S : Nat} : ∀ rr ρ j, LF S rr ρ = some j → LF S (rr + 1) ρ = some j := by
  intro rr
  induction rr with
  | zero => intro ρ j h; exact nomatch h
  | succ rr ih =>
    intro ρ j h
    rw [LF] at h ⊢
    by_cases q : yCost ρ S 2 = lN 0
    · rw [if_pos q] at h ⊢; exact h
    · rw [if_neg q] at h ⊢
      cases e : LF S rr (yRn S ρ) with
      | none => rw [e] at h; exact nomatch h
      | some i => rw [e] at h; rw [ih _ _ e]; exact h
theorem LF_lt {S : Nat} : ∀ rr ρ j, LF S rr ρ = some j → j < rr := by
  intro rr
  induction rr with
  | zero => intro ρ j h; exact nomatch h
  | succ rr ih =>
    intro ρ j h
    rw [LF] at h
    by_cases q : yCost ρ S 2 = lN 0
    · rw [if_pos q] at h; cases h; omega
    · rw [if_neg q] at h
      cases e : LF S rr (yRn S ρ) with
      | none => rw [e] at h; exact nomatch h
      | some i =>
        rw [e] at h
        have : i + 1 = j := Option.some.inj h
        have := ih _ _ e
        omega
