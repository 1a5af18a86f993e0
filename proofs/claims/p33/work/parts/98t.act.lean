def DD (N K M L : Nat) (k : CO) (f : S8 → Option (Int32 × S8)) : Prop := ∃ v k', ∀ u, GG N K u k → ∃ u', f u = some (v, u') ∧ GG M L u' k'
theorem DD.mono {N K M L M' L' : Nat} {k : CO} {f : S8 → Option (Int32 × S8)} (h : DD N K M L k f) (h1 : M ≤ M') (h2 : L ≤ L') : DD N K M' L' k f := by
  obtain ⟨v, k', h⟩ := h
  exact ⟨v, k', fun u g => by
    obtain ⟨u', e, g'⟩ := h u g
    exact ⟨u', e, g'.mono h1 h2⟩⟩
/-- the value of about -/
def yab (ρ : Nat → Nat) (j : Nat) : Nat := if j = 0 then ρ 0 else if j = 1 then yct (fun c => ρ (57 + yq c)) 21 else if j = 2 then yct (fun c => ρ (155 + yq c)) 21 else ρ (302 + j)
theorem e_numberOf {N K : Nat} {q : CW} {w : TW} (hw : WK N K w q) {j : Nat} (hj : j ≤ 5) : f_X7_numberOf w (nI j) = some (nI (yab q.1 j), ()) := by
  have q5 : j = 0 ∨ j = 1 ∨ j = 2 ∨ j = 3 ∨ j = 4 ∨ j = 5 := by omega
  have hi := hw.2.1
  have hw := hw.1
  rcases q5 with e | e | e | e | e | e <;> subst e
  · have a := hw.1.1
    simp (disch := omega) only [y_c0, y_c1, y_c10, y_c100, y_c1000, y_c10000, y_c100000, y_c106, y_c112, y_c116, y_c127, y_c128, y_c13, y_c14, y_c155, y_c2, y_c20, y_c200, y_c204, y_c21, y_c253, y_c255, y_c3, y_c30, y_c302, y_c303, y_c304, y_c305, y_c306, y_c307, y_c308, y_c309, y_c310, y_c311, y_c312, y_c313, y_c314, y_c315, y_c316, y_c32, y_c33, y_c353, y_c39, y_c4, y_c40, y_c44, y_c4589, y_c48, y_c49, y_c5, y_c512, y_c54, y_c57, y_c59, y_c6, y_c62, y_c64, y_c7, y_c8, y_c9, y_c99, y_c9999, y_d0, y_d1, y_d10, y_d100, y_d1000000, y_d1442695040888963407, y_d2, y_d20, y_d255, y_d3, y_d4, y_d40, y_d4294967295, y_d48, y_d5, y_d50, y_d54, y_d57, y_d6364136223846793005, y_d7, y_d9, y_d9999, y_dR, y_dS, y_dk, y_nar0, y_nar1, y_Ilt, y_Ile, y_Ieq, y_Iadd, y_Imul, y_Idiv, y_Llt, y_Lle, y_Leq, y_Ladd, y_Lmul, y_Ldiv, y_I2l, y_L2i, y_shn, y_or, y_and, y_bn1, y_bn0, y_inb, y_cl, y_gle, y_gge, y_ggt, y_glt, y_geq, if_pos, if_neg, if_true, if_false, Option.bind_some, f_X7_numberOf, a]
    rfl
  · have a := c_linkCount (w := w) (f := fun c => q.1 (57 + yq c)) (fun c hc => ⟨(hw.1.2.2 c hc).1, by have := (hi.1.2.2 c hc).2.1; omega⟩)
    simp (disch := omega) only [y_c0, y_c1, y_c10, y_c100, y_c1000, y_c10000, y_c100000, y_c106, y_c112, y_c116, y_c127, y_c128, y_c13, y_c14, y_c155, y_c2, y_c20, y_c200, y_c204, y_c21, y_c253, y_c255, y_c3, y_c30, y_c302, y_c303, y_c304, y_c305, y_c306, y_c307, y_c308, y_c309, y_c310, y_c311, y_c312, y_c313, y_c314, y_c315, y_c316, y_c32, y_c33, y_c353, y_c39, y_c4, y_c40, y_c44, y_c4589, y_c48, y_c49, y_c5, y_c512, y_c54, y_c57, y_c59, y_c6, y_c62, y_c64, y_c7, y_c8, y_c9, y_c99, y_c9999, y_d0, y_d1, y_d10, y_d100, y_d1000000, y_d1442695040888963407, y_d2, y_d20, y_d255, y_d3, y_d4, y_d40, y_d4294967295, y_d48, y_d5, y_d50, y_d54, y_d57, y_d6364136223846793005, y_d7, y_d9, y_d9999, y_dR, y_dS, y_dk, y_nar0, y_nar1, y_Ilt, y_Ile, y_Ieq, y_Iadd, y_Imul, y_Idiv, y_Llt, y_Lle, y_Leq, y_Ladd, y_Lmul, y_Ldiv, y_I2l, y_L2i, y_shn, y_or, y_and, y_bn1, y_bn0, y_inb, y_cl, y_gle, y_gge, y_ggt, y_glt, y_geq, if_pos, if_neg, if_true, if_false, Option.bind_some, f_X7_numberOf, a]
    rfl
  · have a := c_memoryCount (w := w) (f := fun c => q.1 (155 + yq c)) (fun c hc => ⟨(hw.1.2.2 c hc).2.2, by have := (hi.1.2.2 c hc).2.2.2.1; omega⟩)
    simp (disch := omega) only [y_c0, y_c1, y_c10, y_c100, y_c1000, y_c10000, y_c100000, y_c106, y_c112, y_c116, y_c127, y_c128, y_c13, y_c14, y_c155, y_c2, y_c20, y_c200, y_c204, y_c21, y_c253, y_c255, y_c3, y_c30, y_c302, y_c303, y_c304, y_c305, y_c306, y_c307, y_c308, y_c309, y_c310, y_c311, y_c312, y_c313, y_c314, y_c315, y_c316, y_c32, y_c33, y_c353, y_c39, y_c4, y_c40, y_c44, y_c4589, y_c48, y_c49, y_c5, y_c512, y_c54, y_c57, y_c59, y_c6, y_c62, y_c64, y_c7, y_c8, y_c9, y_c99, y_c9999, y_d0, y_d1, y_d10, y_d100, y_d1000000, y_d1442695040888963407, y_d2, y_d20, y_d255, y_d3, y_d4, y_d40, y_d4294967295, y_d48, y_d5, y_d50, y_d54, y_d57, y_d6364136223846793005, y_d7, y_d9, y_d9999, y_dR, y_dS, y_dk, y_nar0, y_nar1, y_Ilt, y_Ile, y_Ieq, y_Iadd, y_Imul, y_Idiv, y_Llt, y_Lle, y_Leq, y_Ladd, y_Lmul, y_Ldiv, y_I2l, y_L2i, y_shn, y_or, y_and, y_bn1, y_bn0, y_inb, y_cl, y_gle, y_gge, y_ggt, y_glt, y_geq, if_pos, if_neg, if_true, if_false, Option.bind_some, f_X7_numberOf, a]
    rfl
  · have a := hw.2.1
    simp (disch := omega) only [y_c0, y_c1, y_c10, y_c100, y_c1000, y_c10000, y_c100000, y_c106, y_c112, y_c116, y_c127, y_c128, y_c13, y_c14, y_c155, y_c2, y_c20, y_c200, y_c204, y_c21, y_c253, y_c255, y_c3, y_c30, y_c302, y_c303, y_c304, y_c305, y_c306, y_c307, y_c308, y_c309, y_c310, y_c311, y_c312, y_c313, y_c314, y_c315, y_c316, y_c32, y_c33, y_c353, y_c39, y_c4, y_c40, y_c44, y_c4589, y_c48, y_c49, y_c5, y_c512, y_c54, y_c57, y_c59, y_c6, y_c62, y_c64, y_c7, y_c8, y_c9, y_c99, y_c9999, y_d0, y_d1, y_d10, y_d100, y_d1000000, y_d1442695040888963407, y_d2, y_d20, y_d255, y_d3, y_d4, y_d40, y_d4294967295, y_d48, y_d5, y_d50, y_d54, y_d57, y_d6364136223846793005, y_d7, y_d9, y_d9999, y_dR, y_dS, y_dk, y_nar0, y_nar1, y_Ilt, y_Ile, y_Ieq, y_Iadd, y_Imul, y_Idiv, y_Llt, y_Lle, y_Leq, y_Ladd, y_Lmul, y_Ldiv, y_I2l, y_L2i, y_shn, y_or, y_and, y_bn1, y_bn0, y_inb, y_cl, y_gle, y_gge, y_ggt, y_glt, y_geq, if_pos, if_neg, if_true, if_false, Option.bind_some, f_X7_numberOf, a]
    rfl
  · have a := hw.2.2.1
    simp (disch := omega) only [y_c0, y_c1, y_c10, y_c100, y_c1000, y_c10000, y_c100000, y_c106, y_c112, y_c116, y_c127, y_c128, y_c13, y_c14, y_c155, y_c2, y_c20, y_c200, y_c204, y_c21, y_c253, y_c255, y_c3, y_c30, y_c302, y_c303, y_c304, y_c305, y_c306, y_c307, y_c308, y_c309, y_c310, y_c311, y_c312, y_c313, y_c314, y_c315, y_c316, y_c32, y_c33, y_c353, y_c39, y_c4, y_c40, y_c44, y_c4589, y_c48, y_c49, y_c5, y_c512, y_c54, y_c57, y_c59, y_c6, y_c62, y_c64, y_c7, y_c8, y_c9, y_c99, y_c9999, y_d0, y_d1, y_d10, y_d100, y_d1000000, y_d1442695040888963407, y_d2, y_d20, y_d255, y_d3, y_d4, y_d40, y_d4294967295, y_d48, y_d5, y_d50, y_d54, y_d57, y_d6364136223846793005, y_d7, y_d9, y_d9999, y_dR, y_dS, y_dk, y_nar0, y_nar1, y_Ilt, y_Ile, y_Ieq, y_Iadd, y_Imul, y_Idiv, y_Llt, y_Lle, y_Leq, y_Ladd, y_Lmul, y_Ldiv, y_I2l, y_L2i, y_shn, y_or, y_and, y_bn1, y_bn0, y_inb, y_cl, y_gle, y_gge, y_ggt, y_glt, y_geq, if_pos, if_neg, if_true, if_false, Option.bind_some, f_X7_numberOf, a]
    rfl
  · have a := hw.2.2.2.1
    simp (disch := omega) only [y_c0, y_c1, y_c10, y_c100, y_c1000, y_c10000, y_c100000, y_c106, y_c112, y_c116, y_c127, y_c128, y_c13, y_c14, y_c155, y_c2, y_c20, y_c200, y_c204, y_c21, y_c253, y_c255, y_c3, y_c30, y_c302, y_c303, y_c304, y_c305, y_c306, y_c307, y_c308, y_c309, y_c310, y_c311, y_c312, y_c313, y_c314, y_c315, y_c316, y_c32, y_c33, y_c353, y_c39, y_c4, y_c40, y_c44, y_c4589, y_c48, y_c49, y_c5, y_c512, y_c54, y_c57, y_c59, y_c6, y_c62, y_c64, y_c7, y_c8, y_c9, y_c99, y_c9999, y_d0, y_d1, y_d10, y_d100, y_d1000000, y_d1442695040888963407, y_d2, y_d20, y_d255, y_d3, y_d4, y_d40, y_d4294967295, y_d48, y_d5, y_d50, y_d54, y_d57, y_d6364136223846793005, y_d7, y_d9, y_d9999, y_dR, y_dS, y_dk, y_nar0, y_nar1, y_Ilt, y_Ile, y_Ieq, y_Iadd, y_Imul, y_Idiv, y_Llt, y_Lle, y_Leq, y_Ladd, y_Lmul, y_Ldiv, y_I2l, y_L2i, y_shn, y_or, y_and, y_bn1, y_bn0, y_inb, y_cl, y_gle, y_gge, y_ggt, y_glt, y_geq, if_pos, if_neg, if_true, if_false, Option.bind_some, f_X7_numberOf, a]
    rfl
theorem n_rng {v lo hi : Nat} (h1 : lo ≤ v) (h2 : v ≤ hi) (h3 : hi < 100000) : f_X8_needRange (nI v) (nI lo) (nI hi) = some (Sum.inr (), ()) := by
  have e := c_isIn (a := v) (lo := lo) (hi := hi) (by omega) (by omega) (by omega)
  rw [if_pos ⟨h1, h2⟩] at e
  unfold f_X8_needRange
  rw [e, Option.bind_some]
  exact if_neg y_z1
theorem n_rngN {v : Int32} {lo hi : Nat} (h3 : hi < 100000) (h1 : lo < 100000) (h : ∀ j, v = nI j → ¬ (lo ≤ j ∧ j ≤ hi)) : f_X8_needRange v (nI lo) (nI hi) = some (Sum.inl 0, ()) := by
  rcases y_rng v lo hi h1 h3 with ⟨j, e, a, b, -⟩ | ⟨-, e, -⟩
  · exact absurd ⟨a, b⟩ (h j e)
  · exact e
theorem e_about {N K : Nat} {q : CW} {w : TW} (hw : WK N K w q) {j : Nat} (hj : j ≤ 5) : f_L_tryAbout w (nI j) = some (nI (yab q.1 j), ()) := by
  have e : f_X8_about w (nI j) = some (Sum.inr (nI (yab q.1 j)), ()) := by
    unfold f_X8_about
    rw [show f_X8_needRange (nI j) (0 : Int32) (5 : Int32) = some (Sum.inr (), ()) from n_rng (lo := 0) (hi := 5) (by omega) hj (by omega), Option.bind_some]
    show ((f_X7_numberOf w (nI j)).bind _) = _
    rw [e_numberOf hw hj]; rfl
  unfold f_L_tryAbout
  rw [e]; rfl
theorem ec_about {N K : Nat} {q : CW} {w : TW} (hw : WK N K w q) {j : Nat} (hj : j ≤ 5) (T E cc P Q H S) (b c : Int32) : f_L_call T E w cc P Q H S 2 (nI j) b c = some (nI (yab q.1 j), (T, E, w, cc, P, Q, H, S)) := by
  unfold f_L_call
  rw [if_neg (by decide), if_neg (by decide), if_pos rfl, e_about hw hj]; rfl
theorem d_link8 {N K : Nat} (k : CO) (a b c d : Int32) : ∃ v k', ∀ u : S8, GG N K u k → ∃ w' H', f_L_tryLink u.2.2.1 u.2.2.2.2.2.2.1 a b c d = some (v, (w', H')) ∧ GG (N + 50) (K + 1) (u.1, u.2.1, w', u.2.2.2.1, u.2.2.2.2.1, u.2.2.2.2.2.1, H', u.2.2.2.2.2.2.2) k' := by
  refine (Classical.em (∃ u, GG N K u k)).elim (fun hex => ?_) (fun hex => ⟨0, k, fun u hu => absurd ⟨u, hu⟩ hex⟩)
  have hV : INf N k.1.1 ∧ IV K k.1 := hex.elim (fun u h0 => h0.2.1.2)
  obtain ⟨x, q', hs', h⟩ := w_link (N := N) (K := K) k.1 k.2.1 hV a b c d
  refine ⟨x, (q', hs', k.2.2), fun u g => ?_⟩
  obtain ⟨w', H', e, g1, g2⟩ := h _ _ g.2.1 g.2.2.1
  exact ⟨w', H', e, g.1, g1, g2, g.2.2.2.mono (by omega) (by omega)⟩
theorem a_155 {N K : Nat} (k : CO) (hN : N < 400000) {s0 : Int32} (s1 s2 s3 : Int32) (hs : ¬ s0 = 0) : DD N K (N + 50) (K + 1) k (fun u => f_L_act_J155 s0 s1 s2 s3 u.1 u.2.1 u.2.2.1 u.2.2.2.1 u.2.2.2.2.1 u.2.2.2.2.2.1 u.2.2.2.2.2.2.1 u.2.2.2.2.2.2.2) := by
  obtain ⟨v, k', h⟩ := d_call (N := N) (K := K) k hN s3 (s2 + (s1 - s1 / s0 * s0)) 0 0
  refine ⟨v, k', fun u g => ?_⟩
  obtain ⟨u', e, g'⟩ := h u g
  refine ⟨u', ?_, g'⟩
  show f_L_act_J155 s0 s1 s2 s3 u.1 u.2.1 u.2.2.1 u.2.2.2.1 u.2.2.2.2.1 u.2.2.2.2.2.1 u.2.2.2.2.2.2.1 u.2.2.2.2.2.2.2 = _
  unfold f_L_act_J155
  rw [if_neg hs, e]; rfl
theorem a_209 {N K : Nat} (k : CO) {s0 : Int32} (s1 s2 s3 s4 s5 : Int32) (hs : ¬ s0 = 0) : DD N K (N + 50) (K + 1) k (fun u => f_L_act_J209 s0 s1 s2 s3 s4 s5 u.1 u.2.1 u.2.2.1 u.2.2.2.1 u.2.2.2.2.1 u.2.2.2.2.2.1 u.2.2.2.2.2.2.1 u.2.2.2.2.2.2.2) := by
  obtain ⟨v, k', h⟩ := d_link8 (N := N) (K := K) k s5 s4 s3 (s2 + (s1 - s1 / s0 * s0))
  refine ⟨v, k', fun u g => ?_⟩
  obtain ⟨w', H', e, g'⟩ := h u g
  refine ⟨_, ?_, g'⟩
  show f_L_act_J209 s0 s1 s2 s3 s4 s5 u.1 u.2.1 u.2.2.1 u.2.2.2.1 u.2.2.2.2.1 u.2.2.2.2.2.1 u.2.2.2.2.2.2.1 u.2.2.2.2.2.2.2 = _
  unfold f_L_act_J209
  rw [if_neg hs, e]; rfl
theorem a_187 {N K : Nat} (k : CO) (x2 : Int32) {s0 : Int32} (s1 s2 s3 s4 : Int32) (hs : ¬ s0 = 0) : DD N K (N + 50) (K + 1) k (fun u => f_L_act_J187 x2 s0 s1 s2 s3 s4 u.1 u.2.1 u.2.2.1 u.2.2.2.1 u.2.2.2.2.1 u.2.2.2.2.2.1 u.2.2.2.2.2.2.1 u.2.2.2.2.2.2.2) := by
  by_cases c : (x2 - x2 / (5 : Int32) * (5 : Int32)) = (0 : Int32)
  · obtain ⟨v, k', h⟩ := a_209 (N := N) (K := K) k (s0 := 1000) (x2 / (1024 : Int32)) 1 (s2 + (s1 - s1 / s0 * s0)) s3 s4 (by decide)
    refine ⟨v, k', fun u g => ?_⟩
    obtain ⟨u', e, g'⟩ := h u g
    refine ⟨u', ?_, g'⟩
    show f_L_act_J187 x2 s0 s1 s2 s3 s4 u.1 u.2.1 u.2.2.1 u.2.2.2.1 u.2.2.2.2.1 u.2.2.2.2.2.1 u.2.2.2.2.2.2.1 u.2.2.2.2.2.2.2 = _
    unfold f_L_act_J187
    rw [if_neg hs, if_pos c]; exact e
  · obtain ⟨v, k', h⟩ := a_209 (N := N) (K := K) k (s0 := 80) (x2 / (1024 : Int32)) 1 (s2 + (s1 - s1 / s0 * s0)) s3 s4 (by decide)
    refine ⟨v, k', fun u g => ?_⟩
    obtain ⟨u', e, g'⟩ := h u g
    refine ⟨u', ?_, g'⟩
    show f_L_act_J187 x2 s0 s1 s2 s3 s4 u.1 u.2.1 u.2.2.1 u.2.2.2.1 u.2.2.2.2.1 u.2.2.2.2.2.1 u.2.2.2.2.2.2.1 u.2.2.2.2.2.2.2 = _
    unfold f_L_act_J187
    rw [if_neg hs, if_neg c]; exact e
theorem a_241 {N K : Nat} (k : CO) (hN : N < 400000) {s0 : Int32} (s1 s2 s3 s4 s5 : Int32) (hs : ¬ s0 = 0) : DD N K (N + 50) (K + 1) k (fun u => f_L_act_J241 s0 s1 s2 s3 s4 s5 u.1 u.2.1 u.2.2.1 u.2.2.2.1 u.2.2.2.2.1 u.2.2.2.2.2.1 u.2.2.2.2.2.2.1 u.2.2.2.2.2.2.2) := by
  obtain ⟨v, k', h⟩ := d_call (N := N) (K := K) k hN s5 s4 s3 (s2 + (s1 - s1 / s0 * s0))
  refine ⟨v, k', fun u g => ?_⟩
  obtain ⟨u', e, g'⟩ := h u g
  refine ⟨u', ?_, g'⟩
  show f_L_act_J241 s0 s1 s2 s3 s4 s5 u.1 u.2.1 u.2.2.1 u.2.2.2.1 u.2.2.2.2.1 u.2.2.2.2.2.1 u.2.2.2.2.2.2.1 u.2.2.2.2.2.2.2 = _
  unfold f_L_act_J241
  rw [if_neg hs, e]; rfl
theorem a_396 {N K : Nat} (k : CO) (hN : N < 300000) (x2 s0 s1 s3 : Int32) : DD N K (N + 100) (K + 2) k (fun u => f_L_act_J396 x2 s0 s1 s3 u.1 u.2.1 u.2.2.1 u.2.2.2.1 u.2.2.2.2.1 u.2.2.2.2.2.1 u.2.2.2.2.2.2.1 u.2.2.2.2.2.2.2) := by
  obtain ⟨v, k1, h⟩ := d_call (N := N) (K := K) k (by omega) s1 s0 0 0
  by_cases c : (x2 - x2 / (64 : Int32) * (64 : Int32)) = (0 : Int32)
  · obtain ⟨v2, k2, h2⟩ := d_call (N := N + 50) (K := K + 1) k1 (by omega) 1 0 0 0
    refine ⟨(s3 + v) + v2, k2, fun u g => ?_⟩
    obtain ⟨u', e, g'⟩ := h u g
    obtain ⟨u2, e2, g2⟩ := h2 u' g'
    refine ⟨u2, ?_, g2⟩
    show f_L_act_J396 x2 s0 s1 s3 u.1 u.2.1 u.2.2.1 u.2.2.2.1 u.2.2.2.2.1 u.2.2.2.2.2.1 u.2.2.2.2.2.2.1 u.2.2.2.2.2.2.2 = _
    unfold f_L_act_J396
    rw [e, Option.bind_some, if_pos c, e2]; rfl
  · refine ⟨(s3 + v) + 0, k1, fun u g => ?_⟩
    obtain ⟨u', e, g'⟩ := h u g
    refine ⟨u', ?_, g'.mono (by omega) (by omega)⟩
    show f_L_act_J396 x2 s0 s1 s3 u.1 u.2.1 u.2.2.1 u.2.2.2.1 u.2.2.2.2.1 u.2.2.2.2.2.1 u.2.2.2.2.2.2.1 u.2.2.2.2.2.2.2 = _
    unfold f_L_act_J396
    rw [e, Option.bind_some, if_neg c]
theorem a_366 {N K : Nat} (k : CO) (hN : N < 200000) (x2 s0 s1 s3 : Int32) : DD N K (N + 150) (K + 3) k (fun u => f_L_act_J366 x2 s0 s1 s3 u.1 u.2.1 u.2.2.1 u.2.2.2.1 u.2.2.2.2.1 u.2.2.2.2.2.1 u.2.2.2.2.2.2.1 u.2.2.2.2.2.2.2) := by
  obtain ⟨v, k1, h⟩ := d_call (N := N) (K := K) k (by omega) s1 s0 0 0
  by_cases c : (x2 - x2 / (8 : Int32) * (8 : Int32)) = (0 : Int32)
  · obtain ⟨v2, k2, h2⟩ := a_396 (N := N + 50) (K := K + 1) k1 (by omega) x2 59 0 (s3 + v)
    refine ⟨v2, k2, fun u g => ?_⟩
    obtain ⟨u', e, g'⟩ := h u g
    obtain ⟨u2, e2, g2⟩ := h2 u' g'
    refine ⟨u2, ?_, g2.mono (by omega) (by omega)⟩
    show f_L_act_J366 x2 s0 s1 s3 u.1 u.2.1 u.2.2.1 u.2.2.2.1 u.2.2.2.2.1 u.2.2.2.2.2.1 u.2.2.2.2.2.2.1 u.2.2.2.2.2.2.2 = _
    unfold f_L_act_J366
    rw [e, Option.bind_some, if_pos c]; exact e2
  · obtain ⟨v2, k2, h2⟩ := a_396 (N := N + 50) (K := K + 1) k1 (by omega) x2 ((48 : Int32) + ((x2 / (8 : Int32)) - (x2 / (8 : Int32)) / (7 : Int32) * (7 : Int32))) 0 (s3 + v)
    refine ⟨v2, k2, fun u g => ?_⟩
    obtain ⟨u', e, g'⟩ := h u g
    obtain ⟨u2, e2, g2⟩ := h2 u' g'
    refine ⟨u2, ?_, g2.mono (by omega) (by omega)⟩
    show f_L_act_J366 x2 s0 s1 s3 u.1 u.2.1 u.2.2.1 u.2.2.2.1 u.2.2.2.2.1 u.2.2.2.2.2.1 u.2.2.2.2.2.2.1 u.2.2.2.2.2.2.2 = _
    unfold f_L_act_J366
    rw [e, Option.bind_some, if_neg c]; exact e2
theorem a_339 {N K : Nat} (k : CO) (hN : N < 100000) (x2 s0 s1 : Int32) : DD N K (N + 200) (K + 4) k (fun u => f_L_act_J339 x2 s0 s1 u.1 u.2.1 u.2.2.1 u.2.2.2.1 u.2.2.2.2.1 u.2.2.2.2.2.1 u.2.2.2.2.2.2.1 u.2.2.2.2.2.2.2) := by
  obtain ⟨v, k1, h⟩ := d_call (N := N) (K := K) k (by omega) s1 s0 0 0
  by_cases c : (x2 - x2 / (4 : Int32) * (4 : Int32)) = (0 : Int32)
  · obtain ⟨v2, k2, h2⟩ := a_366 (N := N + 50) (K := K + 1) k1 (by omega) x2 ((49 : Int32) + ((x2 / (4 : Int32)) - (x2 / (4 : Int32)) / (9 : Int32) * (9 : Int32))) 0 v
    refine ⟨v2, k2, fun u g => ?_⟩
    obtain ⟨u', e, g'⟩ := h u g
    obtain ⟨u2, e2, g2⟩ := h2 u' g'
    refine ⟨u2, ?_, g2.mono (by omega) (by omega)⟩
    show f_L_act_J339 x2 s0 s1 u.1 u.2.1 u.2.2.1 u.2.2.2.1 u.2.2.2.2.1 u.2.2.2.2.2.1 u.2.2.2.2.2.2.1 u.2.2.2.2.2.2.2 = _
    unfold f_L_act_J339
    rw [e, Option.bind_some, if_pos c]; exact e2
  · obtain ⟨v2, k2, h2⟩ := a_366 (N := N + 50) (K := K + 1) k1 (by omega) x2 62 0 v
    refine ⟨v2, k2, fun u g => ?_⟩
    obtain ⟨u', e, g'⟩ := h u g
    obtain ⟨u2, e2, g2⟩ := h2 u' g'
    refine ⟨u2, ?_, g2.mono (by omega) (by omega)⟩
    show f_L_act_J339 x2 s0 s1 u.1 u.2.1 u.2.2.1 u.2.2.2.1 u.2.2.2.2.1 u.2.2.2.2.2.1 u.2.2.2.2.2.2.1 u.2.2.2.2.2.2.2 = _
    unfold f_L_act_J339
    rw [e, Option.bind_some, if_neg c]; exact e2
theorem a_sel {N K M L : Nat} {k : CO} {f g : S8 → Option (Int32 × S8)} (h : DD N K M L k f) (e : ∀ u, g u = f u) : DD N K M L k g := by
  obtain ⟨v, k', h⟩ := h
  exact ⟨v, k', fun u hu => by rw [e u]; exact h u hu⟩
theorem a_call {N K : Nat} (k : CO) (hN : N < 100000) (a b c d : Int32) : DD N K (N + 200) (K + 4) k (fun u => f_L_call u.1 u.2.1 u.2.2.1 u.2.2.2.1 u.2.2.2.2.1 u.2.2.2.2.2.1 u.2.2.2.2.2.2.1 u.2.2.2.2.2.2.2 a b c d) := by
  obtain ⟨v, k', h⟩ := d_call (N := N) (K := K) k (by omega) a b c d
  refine ⟨v, k', fun u g => ?_⟩
  obtain ⟨u', e, g'⟩ := h u g
  exact ⟨u', e, g'.mono (by omega) (by omega)⟩
theorem y_call (x : Option (Int32 × S8)) : (x.bind fun o => (some (o.1, (o.2.1, o.2.2.1, o.2.2.2.1, o.2.2.2.2.1, o.2.2.2.2.2.1, o.2.2.2.2.2.2.1, o.2.2.2.2.2.2.2.1, o.2.2.2.2.2.2.2.2)))) = x := by
  cases x <;> rfl
theorem a_36 {N K : Nat} (k : CO) (hN : N < 100000) (x1 x2 x3 x4 s0 : Int32) (h3 : ¬ ((1 : Int32) <<< (x3 &&& 31)) = 0) : DD N K (N + 200) (K + 4) k (fun u => f_L_act_J36 x1 x2 x3 x4 s0 u.1 u.2.1 u.2.2.1 u.2.2.2.1 u.2.2.2.2.1 u.2.2.2.2.2.1 u.2.2.2.2.2.2.1 u.2.2.2.2.2.2.2) := by
  by_cases m0 : (x1 - x1 / (16 : Int32) * (16 : Int32)) = (0 : Int32)
  · skip
    by_cases g1 : x3 ≤ (4 : Int32)
    · skip
      by_cases g2 : (x2 - x2 / (3 : Int32) * (3 : Int32)) = (0 : Int32)
      · skip
        refine a_sel (DD.mono (a_155 k (by omega) x2 1 7 (s0 := 9999) (by decide)) (by omega) (by omega)) (fun u => ?_)
        show f_L_act_J36 x1 x2 x3 x4 s0 u.1 u.2.1 u.2.2.1 u.2.2.2.1 u.2.2.2.2.1 u.2.2.2.2.2.1 u.2.2.2.2.2.2.1 u.2.2.2.2.2.2.2 = _
        unfold f_L_act_J36
        rw [if_pos m0, if_pos g1, if_pos g2]
      refine a_sel (DD.mono (a_155 k (by omega) x2 1 7 (s0 := 300) (by decide)) (by omega) (by omega)) (fun u => ?_)
      show f_L_act_J36 x1 x2 x3 x4 s0 u.1 u.2.1 u.2.2.1 u.2.2.2.1 u.2.2.2.2.1 u.2.2.2.2.2.1 u.2.2.2.2.2.2.1 u.2.2.2.2.2.2.2 = _
      unfold f_L_act_J36
      rw [if_pos m0, if_pos g1, if_neg g2]
    refine a_sel (a_call k hN 8 x4 ((1 : Int32) + ((x2 / (8 : Int32)) - (x2 / (8 : Int32)) / (900 : Int32) * (900 : Int32))) 0) (fun u => ?_)
    show f_L_act_J36 x1 x2 x3 x4 s0 u.1 u.2.1 u.2.2.1 u.2.2.2.1 u.2.2.2.2.1 u.2.2.2.2.2.1 u.2.2.2.2.2.2.1 u.2.2.2.2.2.2.2 = _
    unfold f_L_act_J36
    rw [if_pos m0, if_neg g1]
    exact y_call _
  by_cases m1 : (x1 - x1 / (16 : Int32) * (16 : Int32)) = (1 : Int32)
  · skip
    by_cases g3 : x3 ≤ (4 : Int32)
    · skip
      by_cases g4 : (x2 - x2 / (3 : Int32) * (3 : Int32)) = (0 : Int32)
      · skip
        refine a_sel (DD.mono (a_155 k (by omega) x2 1 7 (s0 := 9999) (by decide)) (by omega) (by omega)) (fun u => ?_)
        show f_L_act_J36 x1 x2 x3 x4 s0 u.1 u.2.1 u.2.2.1 u.2.2.2.1 u.2.2.2.2.1 u.2.2.2.2.2.1 u.2.2.2.2.2.2.1 u.2.2.2.2.2.2.2 = _
        unfold f_L_act_J36
        rw [if_neg m0, if_pos m1, if_pos g3, if_pos g4]
      refine a_sel (DD.mono (a_155 k (by omega) x2 1 7 (s0 := 300) (by decide)) (by omega) (by omega)) (fun u => ?_)
      show f_L_act_J36 x1 x2 x3 x4 s0 u.1 u.2.1 u.2.2.1 u.2.2.2.1 u.2.2.2.2.1 u.2.2.2.2.2.1 u.2.2.2.2.2.2.1 u.2.2.2.2.2.2.2 = _
      unfold f_L_act_J36
      rw [if_neg m0, if_pos m1, if_pos g3, if_neg g4]
    refine a_sel (a_call k hN 8 x4 ((1 : Int32) + ((x2 / (8 : Int32)) - (x2 / (8 : Int32)) / (900 : Int32) * (900 : Int32))) 0) (fun u => ?_)
    show f_L_act_J36 x1 x2 x3 x4 s0 u.1 u.2.1 u.2.2.1 u.2.2.2.1 u.2.2.2.2.1 u.2.2.2.2.2.1 u.2.2.2.2.2.2.1 u.2.2.2.2.2.2.2 = _
    unfold f_L_act_J36
    rw [if_neg m0, if_pos m1, if_neg g3]
    exact y_call _
  by_cases m2 : (x1 - x1 / (16 : Int32) * (16 : Int32)) = (2 : Int32)
  · skip
    by_cases g5 : (x2 - x2 / (3 : Int32) * (3 : Int32)) = (0 : Int32)
    · skip
      refine a_sel (DD.mono (a_187 k x2 (x2 / (64 : Int32)) 1 s0 x4 (s0 := 1000) (by decide)) (by omega) (by omega)) (fun u => ?_)
      show f_L_act_J36 x1 x2 x3 x4 s0 u.1 u.2.1 u.2.2.1 u.2.2.2.1 u.2.2.2.2.1 u.2.2.2.2.2.1 u.2.2.2.2.2.2.1 u.2.2.2.2.2.2.2 = _
      unfold f_L_act_J36
      rw [if_neg m0, if_neg m1, if_pos m2, if_pos g5]
    refine a_sel (DD.mono (a_187 k x2 (x2 / (64 : Int32)) 1 s0 x4 (s0 := 50) (by decide)) (by omega) (by omega)) (fun u => ?_)
    show f_L_act_J36 x1 x2 x3 x4 s0 u.1 u.2.1 u.2.2.1 u.2.2.2.1 u.2.2.2.2.1 u.2.2.2.2.2.1 u.2.2.2.2.2.2.1 u.2.2.2.2.2.2.2 = _
    unfold f_L_act_J36
    rw [if_neg m0, if_neg m1, if_pos m2, if_neg g5]
  by_cases m3 : (x1 - x1 / (16 : Int32) * (16 : Int32)) = (3 : Int32)
  · skip
    by_cases g6 : (x2 - x2 / (3 : Int32) * (3 : Int32)) = (0 : Int32)
    · skip
      refine a_sel (DD.mono (a_187 k x2 (x2 / (64 : Int32)) 1 s0 x4 (s0 := 1000) (by decide)) (by omega) (by omega)) (fun u => ?_)
      show f_L_act_J36 x1 x2 x3 x4 s0 u.1 u.2.1 u.2.2.1 u.2.2.2.1 u.2.2.2.2.1 u.2.2.2.2.2.1 u.2.2.2.2.2.2.1 u.2.2.2.2.2.2.2 = _
      unfold f_L_act_J36
      rw [if_neg m0, if_neg m1, if_neg m2, if_pos m3, if_pos g6]
    refine a_sel (DD.mono (a_187 k x2 (x2 / (64 : Int32)) 1 s0 x4 (s0 := 50) (by decide)) (by omega) (by omega)) (fun u => ?_)
    show f_L_act_J36 x1 x2 x3 x4 s0 u.1 u.2.1 u.2.2.1 u.2.2.2.1 u.2.2.2.2.1 u.2.2.2.2.2.1 u.2.2.2.2.2.2.1 u.2.2.2.2.2.2.2 = _
    unfold f_L_act_J36
    rw [if_neg m0, if_neg m1, if_neg m2, if_pos m3, if_neg g6]
  by_cases m4 : (x1 - x1 / (16 : Int32) * (16 : Int32)) = (4 : Int32)
  · skip
    by_cases g7 : (x2 - x2 / (3 : Int32) * (3 : Int32)) = (0 : Int32)
    · skip
      refine a_sel (DD.mono (a_187 k x2 (x2 / (64 : Int32)) 1 s0 x4 (s0 := 1000) (by decide)) (by omega) (by omega)) (fun u => ?_)
      show f_L_act_J36 x1 x2 x3 x4 s0 u.1 u.2.1 u.2.2.1 u.2.2.2.1 u.2.2.2.2.1 u.2.2.2.2.2.1 u.2.2.2.2.2.2.1 u.2.2.2.2.2.2.2 = _
      unfold f_L_act_J36
      rw [if_neg m0, if_neg m1, if_neg m2, if_neg m3, if_pos m4, if_pos g7]
    refine a_sel (DD.mono (a_187 k x2 (x2 / (64 : Int32)) 1 s0 x4 (s0 := 50) (by decide)) (by omega) (by omega)) (fun u => ?_)
    show f_L_act_J36 x1 x2 x3 x4 s0 u.1 u.2.1 u.2.2.1 u.2.2.2.1 u.2.2.2.2.1 u.2.2.2.2.2.1 u.2.2.2.2.2.2.1 u.2.2.2.2.2.2.2 = _
    unfold f_L_act_J36
    rw [if_neg m0, if_neg m1, if_neg m2, if_neg m3, if_pos m4, if_neg g7]
  by_cases m5 : (x1 - x1 / (16 : Int32) * (16 : Int32)) = (5 : Int32)
  · skip
    by_cases g8 : (x2 - x2 / (3 : Int32) * (3 : Int32)) = (0 : Int32)
    · skip
      refine a_sel (DD.mono (a_241 k (by omega) (x2 / (64 : Int32)) 1 s0 x4 9 (s0 := 1000) (by decide)) (by omega) (by omega)) (fun u => ?_)
      show f_L_act_J36 x1 x2 x3 x4 s0 u.1 u.2.1 u.2.2.1 u.2.2.2.1 u.2.2.2.2.1 u.2.2.2.2.2.1 u.2.2.2.2.2.2.1 u.2.2.2.2.2.2.2 = _
      unfold f_L_act_J36
      rw [if_neg m0, if_neg m1, if_neg m2, if_neg m3, if_neg m4, if_pos m5, if_pos g8]
    refine a_sel (DD.mono (a_241 k (by omega) (x2 / (64 : Int32)) 1 s0 x4 9 (s0 := 90) (by decide)) (by omega) (by omega)) (fun u => ?_)
    show f_L_act_J36 x1 x2 x3 x4 s0 u.1 u.2.1 u.2.2.1 u.2.2.2.1 u.2.2.2.2.1 u.2.2.2.2.2.1 u.2.2.2.2.2.2.1 u.2.2.2.2.2.2.2 = _
    unfold f_L_act_J36
    rw [if_neg m0, if_neg m1, if_neg m2, if_neg m3, if_neg m4, if_pos m5, if_neg g8]
  by_cases m6 : (x1 - x1 / (16 : Int32) * (16 : Int32)) = (6 : Int32)
  · skip
    by_cases g9 : (x2 - x2 / (3 : Int32) * (3 : Int32)) = (0 : Int32)
    · skip
      refine a_sel (DD.mono (a_241 k (by omega) (x2 / (64 : Int32)) 1 s0 x4 9 (s0 := 1000) (by decide)) (by omega) (by omega)) (fun u => ?_)
      show f_L_act_J36 x1 x2 x3 x4 s0 u.1 u.2.1 u.2.2.1 u.2.2.2.1 u.2.2.2.2.1 u.2.2.2.2.2.1 u.2.2.2.2.2.2.1 u.2.2.2.2.2.2.2 = _
      unfold f_L_act_J36
      rw [if_neg m0, if_neg m1, if_neg m2, if_neg m3, if_neg m4, if_neg m5, if_pos m6, if_pos g9]
    refine a_sel (DD.mono (a_241 k (by omega) (x2 / (64 : Int32)) 1 s0 x4 9 (s0 := 90) (by decide)) (by omega) (by omega)) (fun u => ?_)
    show f_L_act_J36 x1 x2 x3 x4 s0 u.1 u.2.1 u.2.2.1 u.2.2.2.1 u.2.2.2.2.1 u.2.2.2.2.2.1 u.2.2.2.2.2.2.1 u.2.2.2.2.2.2.2 = _
    unfold f_L_act_J36
    rw [if_neg m0, if_neg m1, if_neg m2, if_neg m3, if_neg m4, if_neg m5, if_pos m6, if_neg g9]
  by_cases m7 : (x1 - x1 / (16 : Int32) * (16 : Int32)) = (7 : Int32)
  · skip
    refine a_sel (a_call k hN 11 ((1 : Int32) + (x2 - x2 / (3 : Int32) * (3 : Int32))) 0 0) (fun u => ?_)
    show f_L_act_J36 x1 x2 x3 x4 s0 u.1 u.2.1 u.2.2.1 u.2.2.2.1 u.2.2.2.2.1 u.2.2.2.2.2.1 u.2.2.2.2.2.2.1 u.2.2.2.2.2.2.2 = _
    unfold f_L_act_J36
    rw [if_neg m0, if_neg m1, if_neg m2, if_neg m3, if_neg m4, if_neg m5, if_neg m6, if_pos m7]
    exact y_call _
  by_cases m8 : (x1 - x1 / (16 : Int32) * (16 : Int32)) = (8 : Int32)
  · skip
    refine a_sel (a_call k hN 12 (x2 - x2 / (3 : Int32) * (3 : Int32)) ((1 : Int32) + ((x2 / (4 : Int32)) - (x2 / (4 : Int32)) / (10 : Int32) * (10 : Int32))) 0) (fun u => ?_)
    show f_L_act_J36 x1 x2 x3 x4 s0 u.1 u.2.1 u.2.2.1 u.2.2.2.1 u.2.2.2.2.1 u.2.2.2.2.2.1 u.2.2.2.2.2.2.1 u.2.2.2.2.2.2.2 = _
    unfold f_L_act_J36
    rw [if_neg m0, if_neg m1, if_neg m2, if_neg m3, if_neg m4, if_neg m5, if_neg m6, if_neg m7, if_pos m8]
    exact y_call _
  by_cases m9 : (x1 - x1 / (16 : Int32) * (16 : Int32)) = (9 : Int32)
  · skip
    refine a_sel (a_call k hN 13 0 0 0) (fun u => ?_)
    show f_L_act_J36 x1 x2 x3 x4 s0 u.1 u.2.1 u.2.2.1 u.2.2.2.1 u.2.2.2.2.1 u.2.2.2.2.2.1 u.2.2.2.2.2.2.1 u.2.2.2.2.2.2.2 = _
    unfold f_L_act_J36
    rw [if_neg m0, if_neg m1, if_neg m2, if_neg m3, if_neg m4, if_neg m5, if_neg m6, if_neg m7, if_neg m8, if_pos m9]
    exact y_call _
  by_cases m10 : (x1 - x1 / (16 : Int32) * (16 : Int32)) = (10 : Int32)
  · skip
    refine a_sel (a_call k hN 18 (x2 - x2 / (2 : Int32) * (2 : Int32)) 0 0) (fun u => ?_)
    show f_L_act_J36 x1 x2 x3 x4 s0 u.1 u.2.1 u.2.2.1 u.2.2.2.1 u.2.2.2.2.1 u.2.2.2.2.2.1 u.2.2.2.2.2.2.1 u.2.2.2.2.2.2.2 = _
    unfold f_L_act_J36
    rw [if_neg m0, if_neg m1, if_neg m2, if_neg m3, if_neg m4, if_neg m5, if_neg m6, if_neg m7, if_neg m8, if_neg m9, if_pos m10]
    exact y_call _
  by_cases m11 : (x1 - x1 / (16 : Int32) * (16 : Int32)) = (11 : Int32)
  · skip
    refine a_sel (a_call k hN 19 (x2 - x2 / (2 : Int32) * (2 : Int32)) 0 0) (fun u => ?_)
    show f_L_act_J36 x1 x2 x3 x4 s0 u.1 u.2.1 u.2.2.1 u.2.2.2.1 u.2.2.2.2.1 u.2.2.2.2.2.1 u.2.2.2.2.2.2.1 u.2.2.2.2.2.2.2 = _
    unfold f_L_act_J36
    rw [if_neg m0, if_neg m1, if_neg m2, if_neg m3, if_neg m4, if_neg m5, if_neg m6, if_neg m7, if_neg m8, if_neg m9, if_neg m10, if_pos m11]
    exact y_call _
  by_cases m12 : (x1 - x1 / (16 : Int32) * (16 : Int32)) = (12 : Int32)
  · skip
    have hc : ∀ (s : Int32), DD N K (N + 200) (K + 4) k (fun u => (f_X8_clearText u.1).bind fun o31 => f_L_act_J339 x2 s 0 o31.2 u.2.1 u.2.2.1 u.2.2.2.1 u.2.2.2.2.1 u.2.2.2.2.2.1 u.2.2.2.2.2.2.1 u.2.2.2.2.2.2.2) := by
      intro s
      obtain ⟨v, k', h⟩ := a_339 (N := N) (K := K) (k.1, k.2.1, k.2.2.1, 0, k.2.2.2.2) hN x2 s 0
      refine ⟨v, k', fun u g => ?_⟩
      obtain ⟨T', e, gT⟩ := e_clear g.1
      obtain ⟨u', e2, g'⟩ := h (T', u.2) ⟨gT, g.2⟩
      refine ⟨u', ?_, g'⟩
      show (f_X8_clearText u.1).bind _ = _
      rw [e, Option.bind_some]; exact e2
    by_cases g99 : (x2 - x2 / (4 : Int32) * (4 : Int32)) = (0 : Int32)
    · refine a_sel (hc 116) (fun u => ?_)
      show f_L_act_J36 x1 x2 x3 x4 s0 u.1 u.2.1 u.2.2.1 u.2.2.2.1 u.2.2.2.2.1 u.2.2.2.2.2.1 u.2.2.2.2.2.2.1 u.2.2.2.2.2.2.2 = _
      unfold f_L_act_J36
      rw [if_neg m0, if_neg m1, if_neg m2, if_neg m3, if_neg m4, if_neg m5, if_neg m6, if_neg m7, if_neg m8, if_neg m9, if_neg m10, if_neg m11, if_pos m12]
      congr 1
      funext o
      exact if_pos g99
    · refine a_sel (hc ((48 : Int32) + (x2 - x2 / (7 : Int32) * (7 : Int32)))) (fun u => ?_)
      show f_L_act_J36 x1 x2 x3 x4 s0 u.1 u.2.1 u.2.2.1 u.2.2.2.1 u.2.2.2.2.1 u.2.2.2.2.2.1 u.2.2.2.2.2.2.1 u.2.2.2.2.2.2.2 = _
      unfold f_L_act_J36
      rw [if_neg m0, if_neg m1, if_neg m2, if_neg m3, if_neg m4, if_neg m5, if_neg m6, if_neg m7, if_neg m8, if_neg m9, if_neg m10, if_neg m11, if_pos m12]
      congr 1
      funext o
      exact if_neg g99
  refine a_sel (a_call k hN 10 (x2 - x2 / ((1 : Int32) <<< (x3 &&& 31)) * ((1 : Int32) <<< (x3 &&& 31))) 0 0) (fun u => ?_)
  show f_L_act_J36 x1 x2 x3 x4 s0 u.1 u.2.1 u.2.2.1 u.2.2.2.1 u.2.2.2.2.1 u.2.2.2.2.2.1 u.2.2.2.2.2.2.1 u.2.2.2.2.2.2.2 = _
  unfold f_L_act_J36
  rw [if_neg m0, if_neg m1, if_neg m2, if_neg m3, if_neg m4, if_neg m5, if_neg m6, if_neg m7, if_neg m8, if_neg m9, if_neg m10, if_neg m11, if_neg m12, if_neg h3]
  exact y_call _
theorem y_sh0 : ∀ n, n ≤ 7 → ¬ ((1 : Int32) <<< (nI n &&& 31)) = 0 := by decide +kernel
theorem d_act {N K : Nat} (k : CO) (hN : N < 100000) (x1 x2 : Int32) : DD N K (N + 200) (K + 4) k (fun u => f_L_act u.1 u.2.1 u.2.2.1 u.2.2.2.1 u.2.2.2.2.1 u.2.2.2.2.2.1 u.2.2.2.2.2.2.1 u.2.2.2.2.2.2.2 x1 x2) := by
  refine (Classical.em (∃ u, GG N K u k)).elim (fun hex => ?_) (fun hex => ⟨0, k, fun u hu => absurd ⟨u, hu⟩ hex⟩)
  have h7 : k.1.1 0 ≤ 7 := hex.elim (fun u h0 => h0.2.1.2.1.1.1)
  have hz := y_sh0 (k.1.1 0) h7
  have hh : ∀ s4, DD N K (N + 200) (K + 4) k (fun u => f_L_act_J20 x1 x2 (nI (k.1.1 0)) s4 u.1 u.2.1 u.2.2.1 u.2.2.2.1 u.2.2.2.2.1 u.2.2.2.2.2.1 u.2.2.2.2.2.2.1 u.2.2.2.2.2.2.2) := by
    intro s4
    by_cases c : nI (k.1.1 0) = (0 : Int32)
    · refine a_sel (a_36 k hN x1 x2 (nI (k.1.1 0)) s4 0 hz) (fun u => ?_)
      show f_L_act_J20 x1 x2 (nI (k.1.1 0)) s4 u.1 u.2.1 u.2.2.1 u.2.2.2.1 u.2.2.2.2.1 u.2.2.2.2.2.1 u.2.2.2.2.2.2.1 u.2.2.2.2.2.2.2 = _
      unfold f_L_act_J20
      exact if_pos c
    · refine a_sel (a_36 k hN x1 x2 (nI (k.1.1 0)) s4 ((x2 / (8 : Int32)) - (x2 / (8 : Int32)) / (nI (k.1.1 0)) * (nI (k.1.1 0))) hz) (fun u => ?_)
      show f_L_act_J20 x1 x2 (nI (k.1.1 0)) s4 u.1 u.2.1 u.2.2.1 u.2.2.2.1 u.2.2.2.2.1 u.2.2.2.2.2.1 u.2.2.2.2.2.2.1 u.2.2.2.2.2.2.2 = _
      unfold f_L_act_J20
      rw [if_neg c]; exact if_neg c
  by_cases c : nI (k.1.1 0) = (0 : Int32)
  · obtain ⟨v, k', h⟩ := hh 0
    refine ⟨v, k', fun u g => ?_⟩
    obtain ⟨u', e, g'⟩ := h u g
    refine ⟨u', ?_, g'⟩
    show f_L_act u.1 u.2.1 u.2.2.1 u.2.2.2.1 u.2.2.2.2.1 u.2.2.2.2.2.1 u.2.2.2.2.2.2.1 u.2.2.2.2.2.2.2 x1 x2 = _
    unfold f_L_act
    rw [show f_L_call u.1 u.2.1 u.2.2.1 u.2.2.2.1 u.2.2.2.2.1 u.2.2.2.2.2.1 u.2.2.2.2.2.2.1 u.2.2.2.2.2.2.2 (2 : Int32) (0 : Int32) (0 : Int32) (0 : Int32) = some (nI (k.1.1 0), u) from ec_about g.2.1 (j := 0) (by omega) _ _ _ _ _ _ _ 0 0, Option.bind_some]
    exact (if_pos c).trans e
  · obtain ⟨v, k', h⟩ := hh (x2 - x2 / nI (k.1.1 0) * nI (k.1.1 0))
    refine ⟨v, k', fun u g => ?_⟩
    obtain ⟨u', e, g'⟩ := h u g
    refine ⟨u', ?_, g'⟩
    show f_L_act u.1 u.2.1 u.2.2.1 u.2.2.2.1 u.2.2.2.2.1 u.2.2.2.2.2.1 u.2.2.2.2.2.2.1 u.2.2.2.2.2.2.2 x1 x2 = _
    unfold f_L_act
    rw [show f_L_call u.1 u.2.1 u.2.2.1 u.2.2.2.1 u.2.2.2.2.1 u.2.2.2.2.2.1 u.2.2.2.2.2.2.1 u.2.2.2.2.2.2.2 (2 : Int32) (0 : Int32) (0 : Int32) (0 : Int32) = some (nI (k.1.1 0), u) from ec_about g.2.1 (j := 0) (by omega) _ _ _ _ _ _ _ 0 0, Option.bind_some]
    exact (if_neg c).trans ((if_neg c).trans e)
