theorem WK.hI {N K : Nat} {w : TW} {q : CW} (h : WK N K w q) : INf N q.1 ∧ IV K q := h.2
theorem d_add {N K : Nat} (q : CW) (hs : List CW) (hV : INf N q.1 ∧ IV K q) (v : Int32) : WH N K q hs 1 2 0 (fun w H => f_X8_add w H v) := by
  rcases y_rng v 1 9999 (by omega) (by omega) with ⟨j, rfl, hj1, hj2, e1, -, -⟩ | ⟨-, e1, -, -⟩
  · by_cases z : q.1 0 < 7
    · refine ⟨Sum.inr (nI (q.1 0)), (pu (pu q.1 (1 + q.1 0) j) 0 (q.1 0 + 1), q.2), rem q hs, OKR.ok, fun w H hw hH => ?_⟩
      obtain ⟨w', r', k1, -, k3⟩ := s_add hw.st ⟨hj1, hj2⟩ z
      obtain ⟨H', m1, m3⟩ := h_rem hH hw
      have t0 := hw.1.1.1
      refine ⟨w', H', ?_, (WK.of k3 (iv_add hV.2 z)).mono (by omega) (by omega), m3.mono (by omega) (by omega)⟩
      simp (disch := omega) only [y_c0, y_c1, y_c10, y_c100, y_c1000, y_c10000, y_c100000, y_c106, y_c112, y_c116, y_c127, y_c128, y_c13, y_c14, y_c155, y_c2, y_c20, y_c200, y_c204, y_c21, y_c253, y_c255, y_c3, y_c30, y_c302, y_c303, y_c304, y_c305, y_c306, y_c307, y_c308, y_c309, y_c310, y_c311, y_c312, y_c313, y_c314, y_c315, y_c316, y_c32, y_c33, y_c353, y_c39, y_c4, y_c40, y_c44, y_c4589, y_c48, y_c49, y_c5, y_c512, y_c54, y_c57, y_c59, y_c6, y_c62, y_c64, y_c7, y_c8, y_c9, y_c99, y_c9999, y_d0, y_d1, y_d10, y_d100, y_d1000000, y_d1442695040888963407, y_d2, y_d20, y_d255, y_d3, y_d4, y_d40, y_d4294967295, y_d48, y_d5, y_d50, y_d54, y_d57, y_d6364136223846793005, y_d7, y_d9, y_d9999, y_dR, y_dS, y_dk, y_nar0, y_nar1, y_Ilt, y_Ile, y_Ieq, y_Iadd, y_Imul, y_Idiv, y_Llt, y_Lle, y_Leq, y_Ladd, y_Lmul, y_Ldiv, y_I2l, y_L2i, y_shn, y_or, y_and, y_bn1, y_bn0, y_inb, y_cl, y_gle, y_gge, y_ggt, y_glt, y_geq, if_pos, if_neg, if_true, if_false, Option.bind_some, f_X8_add, e1, f_X7_isFull, t0, m1, k1, Sum.elim_inr]
    · refine WH.no (k := 1) (OKR.s (by omega)) (fun w H hw hH => ?_)
      have t0 := hw.1.1.1
      have h7 := hw.2.1.1.1
      simp (disch := omega) only [y_c0, y_c1, y_c10, y_c100, y_c1000, y_c10000, y_c100000, y_c106, y_c112, y_c116, y_c127, y_c128, y_c13, y_c14, y_c155, y_c2, y_c20, y_c200, y_c204, y_c21, y_c253, y_c255, y_c3, y_c30, y_c302, y_c303, y_c304, y_c305, y_c306, y_c307, y_c308, y_c309, y_c310, y_c311, y_c312, y_c313, y_c314, y_c315, y_c316, y_c32, y_c33, y_c353, y_c39, y_c4, y_c40, y_c44, y_c4589, y_c48, y_c49, y_c5, y_c512, y_c54, y_c57, y_c59, y_c6, y_c62, y_c64, y_c7, y_c8, y_c9, y_c99, y_c9999, y_d0, y_d1, y_d10, y_d100, y_d1000000, y_d1442695040888963407, y_d2, y_d20, y_d255, y_d3, y_d4, y_d40, y_d4294967295, y_d48, y_d5, y_d50, y_d54, y_d57, y_d6364136223846793005, y_d7, y_d9, y_d9999, y_dR, y_dS, y_dk, y_nar0, y_nar1, y_Ilt, y_Ile, y_Ieq, y_Iadd, y_Imul, y_Idiv, y_Llt, y_Lle, y_Leq, y_Ladd, y_Lmul, y_Ldiv, y_I2l, y_L2i, y_shn, y_or, y_and, y_bn1, y_bn0, y_inb, y_cl, y_gle, y_gge, y_ggt, y_glt, y_geq, if_pos, if_neg, if_true, if_false, Option.bind_some, f_X8_add, e1, f_X7_isFull, t0, Sum.elim_inr]
  · refine WH.no (k := 0) (OKR.a (by omega)) (fun w H hw hH => ?_)
    simp (disch := omega) only [y_c0, y_c1, y_c10, y_c100, y_c1000, y_c10000, y_c100000, y_c106, y_c112, y_c116, y_c127, y_c128, y_c13, y_c14, y_c155, y_c2, y_c20, y_c200, y_c204, y_c21, y_c253, y_c255, y_c3, y_c30, y_c302, y_c303, y_c304, y_c305, y_c306, y_c307, y_c308, y_c309, y_c310, y_c311, y_c312, y_c313, y_c314, y_c315, y_c316, y_c32, y_c33, y_c353, y_c39, y_c4, y_c40, y_c44, y_c4589, y_c48, y_c49, y_c5, y_c512, y_c54, y_c57, y_c59, y_c6, y_c62, y_c64, y_c7, y_c8, y_c9, y_c99, y_c9999, y_d0, y_d1, y_d10, y_d100, y_d1000000, y_d1442695040888963407, y_d2, y_d20, y_d255, y_d3, y_d4, y_d40, y_d4294967295, y_d48, y_d5, y_d50, y_d54, y_d57, y_d6364136223846793005, y_d7, y_d9, y_d9999, y_dR, y_dS, y_dk, y_nar0, y_nar1, y_Ilt, y_Ile, y_Ieq, y_Iadd, y_Imul, y_Idiv, y_Llt, y_Lle, y_Leq, y_Ladd, y_Lmul, y_Ldiv, y_I2l, y_L2i, y_shn, y_or, y_and, y_bn1, y_bn0, y_inb, y_cl, y_gle, y_gge, y_ggt, y_glt, y_geq, if_pos, if_neg, if_true, if_false, Option.bind_some, f_X8_add, e1, Sum.elim_inl]
theorem d_resize {N K : Nat} (q : CW) (hs : List CW) (hV : INf N q.1 ∧ IV K q) (v1 v2 : Int32) : WH N K q hs 2 0 1 (fun w H => f_X8_resize w H v1 v2) := by
  rcases n_tbl q v1 with ⟨t, rfl, ht, t1⟩ | t1
  · rcases y_rng v2 1 9999 (by omega) (by omega) with ⟨j, rfl, hj1, hj2, e1, -, -⟩ | ⟨-, e1, -, -⟩
    · have h7 := hV.1.1.1
      refine ⟨Sum.inr (nI (q.1 (1 + t))), (pu q.1 (1 + t) j, q.2), rem q hs, OKR.ok, fun w H hw hH => ?_⟩
      obtain ⟨w', k1, k3⟩ := s_size hw.st ht ⟨hj1, hj2⟩
      obtain ⟨H', m1, m3⟩ := h_rem hH hw
      have t1 := t1 N K w hw
      refine ⟨w', H', ?_, (WK.of k3 (iv_pu hV.2 (by omega))).mono (by omega) (by omega), m3.mono (by omega) (by omega)⟩
      simp (disch := omega) only [y_c0, y_c1, y_c10, y_c100, y_c1000, y_c10000, y_c100000, y_c106, y_c112, y_c116, y_c127, y_c128, y_c13, y_c14, y_c155, y_c2, y_c20, y_c200, y_c204, y_c21, y_c253, y_c255, y_c3, y_c30, y_c302, y_c303, y_c304, y_c305, y_c306, y_c307, y_c308, y_c309, y_c310, y_c311, y_c312, y_c313, y_c314, y_c315, y_c316, y_c32, y_c33, y_c353, y_c39, y_c4, y_c40, y_c44, y_c4589, y_c48, y_c49, y_c5, y_c512, y_c54, y_c57, y_c59, y_c6, y_c62, y_c64, y_c7, y_c8, y_c9, y_c99, y_c9999, y_d0, y_d1, y_d10, y_d100, y_d1000000, y_d1442695040888963407, y_d2, y_d20, y_d255, y_d3, y_d4, y_d40, y_d4294967295, y_d48, y_d5, y_d50, y_d54, y_d57, y_d6364136223846793005, y_d7, y_d9, y_d9999, y_dR, y_dS, y_dk, y_nar0, y_nar1, y_Ilt, y_Ile, y_Ieq, y_Iadd, y_Imul, y_Idiv, y_Llt, y_Lle, y_Leq, y_Ladd, y_Lmul, y_Ldiv, y_I2l, y_L2i, y_shn, y_or, y_and, y_bn1, y_bn0, y_inb, y_cl, y_gle, y_gge, y_ggt, y_glt, y_geq, if_pos, if_neg, if_true, if_false, Option.bind_some, f_X8_resize, t1, e1, m1, k1, Sum.elim_inr]
    · refine WH.no (k := 0) (OKR.a (by omega)) (fun w H hw hH => ?_)
      have t1 := t1 N K w hw
      simp (disch := omega) only [y_c0, y_c1, y_c10, y_c100, y_c1000, y_c10000, y_c100000, y_c106, y_c112, y_c116, y_c127, y_c128, y_c13, y_c14, y_c155, y_c2, y_c20, y_c200, y_c204, y_c21, y_c253, y_c255, y_c3, y_c30, y_c302, y_c303, y_c304, y_c305, y_c306, y_c307, y_c308, y_c309, y_c310, y_c311, y_c312, y_c313, y_c314, y_c315, y_c316, y_c32, y_c33, y_c353, y_c39, y_c4, y_c40, y_c44, y_c4589, y_c48, y_c49, y_c5, y_c512, y_c54, y_c57, y_c59, y_c6, y_c62, y_c64, y_c7, y_c8, y_c9, y_c99, y_c9999, y_d0, y_d1, y_d10, y_d100, y_d1000000, y_d1442695040888963407, y_d2, y_d20, y_d255, y_d3, y_d4, y_d40, y_d4294967295, y_d48, y_d5, y_d50, y_d54, y_d57, y_d6364136223846793005, y_d7, y_d9, y_d9999, y_dR, y_dS, y_dk, y_nar0, y_nar1, y_Ilt, y_Ile, y_Ieq, y_Iadd, y_Imul, y_Idiv, y_Llt, y_Lle, y_Leq, y_Ladd, y_Lmul, y_Ldiv, y_I2l, y_L2i, y_shn, y_or, y_and, y_bn1, y_bn0, y_inb, y_cl, y_gle, y_gge, y_ggt, y_glt, y_geq, if_pos, if_neg, if_true, if_false, Option.bind_some, f_X8_resize, t1, e1, Sum.elim_inl, Sum.elim_inr]
  · refine WH.no (k := 2) (OKR.x (by omega)) (fun w H hw hH => ?_)
    have t1 := t1 N K w hw
    simp (disch := omega) only [y_c0, y_c1, y_c10, y_c100, y_c1000, y_c10000, y_c100000, y_c106, y_c112, y_c116, y_c127, y_c128, y_c13, y_c14, y_c155, y_c2, y_c20, y_c200, y_c204, y_c21, y_c253, y_c255, y_c3, y_c30, y_c302, y_c303, y_c304, y_c305, y_c306, y_c307, y_c308, y_c309, y_c310, y_c311, y_c312, y_c313, y_c314, y_c315, y_c316, y_c32, y_c33, y_c353, y_c39, y_c4, y_c40, y_c44, y_c4589, y_c48, y_c49, y_c5, y_c512, y_c54, y_c57, y_c59, y_c6, y_c62, y_c64, y_c7, y_c8, y_c9, y_c99, y_c9999, y_d0, y_d1, y_d10, y_d100, y_d1000000, y_d1442695040888963407, y_d2, y_d20, y_d255, y_d3, y_d4, y_d40, y_d4294967295, y_d48, y_d5, y_d50, y_d54, y_d57, y_d6364136223846793005, y_d7, y_d9, y_d9999, y_dR, y_dS, y_dk, y_nar0, y_nar1, y_Ilt, y_Ile, y_Ieq, y_Iadd, y_Imul, y_Idiv, y_Llt, y_Lle, y_Leq, y_Ladd, y_Lmul, y_Ldiv, y_I2l, y_L2i, y_shn, y_or, y_and, y_bn1, y_bn0, y_inb, y_cl, y_gle, y_gge, y_ggt, y_glt, y_geq, if_pos, if_neg, if_true, if_false, Option.bind_some, f_X8_resize, t1, Sum.elim_inl]
theorem d_link {N K : Nat} (q : CW) (hs : List CW) (hV : INf N q.1 ∧ IV K q) (v1 v2 v3 v4 : Int32) : WH N K q hs 2 0 1 (fun w H => f_X8_link w H v1 v2 v3 v4) := by
  rcases n_two q v1 v2 with ⟨ta, tb, rfl, rfl, ha0, hb0, hab, t1⟩ | t1 | t1
  · have h7 := hV.1.1.1
    have ha : ta < 7 := by omega
    have hb : tb < 7 := by omega
    rcases y_rng v3 1 1000 (by omega) (by omega) with ⟨g, rfl, hg1, hg2, e1, -, -⟩ | ⟨-, e1, -, -⟩
    · rcases y_rng v4 1 1000 (by omega) (by omega) with ⟨s, rfl, hs1, hs2, d1, -, -⟩ | ⟨-, d1, -, -⟩
      · have cp := c_pair ta ha tb hb hab
        have hd := yci_lt ta ha tb hb hab
        have hq := yq_lt _ hd
        have hiv : IV K (pu (pu (pu (pu (pu q.1 (8 + yq (yci ta tb)) 1) (57 + yq (yci ta tb)) g) (106 + yq (yci ta tb)) s) (155 + yq (yci ta tb)) 0) (204 + yq (yci ta tb)) 0, q.2) := by
          have h0 := iv_pu (i := 204 + yq (yci ta tb)) (v := 0) (iv_pu (i := 106 + yq (yci ta tb)) (v := s) (iv_pu (i := 57 + yq (yci ta tb)) (v := g) (iv_link hV.2 ha hb hab ha0 hb0) (by omega)) (by omega)) (by omega)
          refine h0.ext (fun i => ?_)
          unfold pu
          by_cases z1 : i = 204 + yq (yci ta tb)
          · rw [if_pos z1, if_pos z1]
          · rw [if_neg z1, if_neg z1]
            by_cases z2 : i = 155 + yq (yci ta tb)
            · rw [if_pos z2, if_neg (by omega), if_neg (by omega), if_pos z2]
            · rw [if_neg z2]
              by_cases z3 : i = 106 + yq (yci ta tb)
              · rw [if_pos z3, if_pos z3]
              · rw [if_neg z3, if_neg z3]
                by_cases z4 : i = 57 + yq (yci ta tb)
                · rw [if_pos z4, if_pos z4]
                · rw [if_neg z4, if_neg z4, if_neg z2]
        by_cases hex : ∃ w, WK N K w q
        · obtain ⟨w0, hw0⟩ := hex
          obtain ⟨w0', r0', n, k0, x0, -⟩ := s_link hw0.st hd ⟨hg1, hg2⟩ ⟨hs1, hs2⟩
          have x0 := x0 ta tb ha hb hab rfl
          refine ⟨Sum.inr (nI n), (pu (pu (pu (pu (pu q.1 (8 + yq (yci ta tb)) 1) (57 + yq (yci ta tb)) g) (106 + yq (yci ta tb)) s) (155 + yq (yci ta tb)) 0) (204 + yq (yci ta tb)) 0, q.2), rem q hs, OKR.ok, fun w H hw hH => ?_⟩
          obtain ⟨w', r', n', k1, x1, k3, -⟩ := s_link hw.st hd ⟨hg1, hg2⟩ ⟨hs1, hs2⟩
          have x1 := x1 ta tb ha hb hab rfl
          have en : nI n' = nI n := congrArg (fun z => z.1) (Option.some.inj (x1.symm.trans x0))
          obtain ⟨H', m1, m3⟩ := h_rem hH hw
          have t1 := t1 N K w hw
          refine ⟨w', H', ?_, (WK.of k3 hiv).mono (by omega) (by omega), m3.mono (by omega) (by omega)⟩
          simp (disch := omega) only [y_c0, y_c1, y_c10, y_c100, y_c1000, y_c10000, y_c100000, y_c106, y_c112, y_c116, y_c127, y_c128, y_c13, y_c14, y_c155, y_c2, y_c20, y_c200, y_c204, y_c21, y_c253, y_c255, y_c3, y_c30, y_c302, y_c303, y_c304, y_c305, y_c306, y_c307, y_c308, y_c309, y_c310, y_c311, y_c312, y_c313, y_c314, y_c315, y_c316, y_c32, y_c33, y_c353, y_c39, y_c4, y_c40, y_c44, y_c4589, y_c48, y_c49, y_c5, y_c512, y_c54, y_c57, y_c59, y_c6, y_c62, y_c64, y_c7, y_c8, y_c9, y_c99, y_c9999, y_d0, y_d1, y_d10, y_d100, y_d1000000, y_d1442695040888963407, y_d2, y_d20, y_d255, y_d3, y_d4, y_d40, y_d4294967295, y_d48, y_d5, y_d50, y_d54, y_d57, y_d6364136223846793005, y_d7, y_d9, y_d9999, y_dR, y_dS, y_dk, y_nar0, y_nar1, y_Ilt, y_Ile, y_Ieq, y_Iadd, y_Imul, y_Idiv, y_Llt, y_Lle, y_Leq, y_Ladd, y_Lmul, y_Ldiv, y_I2l, y_L2i, y_shn, y_or, y_and, y_bn1, y_bn0, y_inb, y_cl, y_gle, y_gge, y_ggt, y_glt, y_geq, if_pos, if_neg, if_true, if_false, Option.bind_some, f_X8_link, t1, e1, d1, m1, cp, k1, Sum.elim_inr, en]
        · exact ⟨Sum.inr 0, q, hs, OKR.ok, fun w H hw _ => absurd ⟨w, hw⟩ hex⟩
      · refine WH.no (k := 0) (OKR.a (by omega)) (fun w H hw hH => ?_)
        have t1 := t1 N K w hw
        simp (disch := omega) only [y_c0, y_c1, y_c10, y_c100, y_c1000, y_c10000, y_c100000, y_c106, y_c112, y_c116, y_c127, y_c128, y_c13, y_c14, y_c155, y_c2, y_c20, y_c200, y_c204, y_c21, y_c253, y_c255, y_c3, y_c30, y_c302, y_c303, y_c304, y_c305, y_c306, y_c307, y_c308, y_c309, y_c310, y_c311, y_c312, y_c313, y_c314, y_c315, y_c316, y_c32, y_c33, y_c353, y_c39, y_c4, y_c40, y_c44, y_c4589, y_c48, y_c49, y_c5, y_c512, y_c54, y_c57, y_c59, y_c6, y_c62, y_c64, y_c7, y_c8, y_c9, y_c99, y_c9999, y_d0, y_d1, y_d10, y_d100, y_d1000000, y_d1442695040888963407, y_d2, y_d20, y_d255, y_d3, y_d4, y_d40, y_d4294967295, y_d48, y_d5, y_d50, y_d54, y_d57, y_d6364136223846793005, y_d7, y_d9, y_d9999, y_dR, y_dS, y_dk, y_nar0, y_nar1, y_Ilt, y_Ile, y_Ieq, y_Iadd, y_Imul, y_Idiv, y_Llt, y_Lle, y_Leq, y_Ladd, y_Lmul, y_Ldiv, y_I2l, y_L2i, y_shn, y_or, y_and, y_bn1, y_bn0, y_inb, y_cl, y_gle, y_gge, y_ggt, y_glt, y_geq, if_pos, if_neg, if_true, if_false, Option.bind_some, f_X8_link, t1, e1, d1, Sum.elim_inl, Sum.elim_inr]
    · refine WH.no (k := 0) (OKR.a (by omega)) (fun w H hw hH => ?_)
      have t1 := t1 N K w hw
      simp (disch := omega) only [y_c0, y_c1, y_c10, y_c100, y_c1000, y_c10000, y_c100000, y_c106, y_c112, y_c116, y_c127, y_c128, y_c13, y_c14, y_c155, y_c2, y_c20, y_c200, y_c204, y_c21, y_c253, y_c255, y_c3, y_c30, y_c302, y_c303, y_c304, y_c305, y_c306, y_c307, y_c308, y_c309, y_c310, y_c311, y_c312, y_c313, y_c314, y_c315, y_c316, y_c32, y_c33, y_c353, y_c39, y_c4, y_c40, y_c44, y_c4589, y_c48, y_c49, y_c5, y_c512, y_c54, y_c57, y_c59, y_c6, y_c62, y_c64, y_c7, y_c8, y_c9, y_c99, y_c9999, y_d0, y_d1, y_d10, y_d100, y_d1000000, y_d1442695040888963407, y_d2, y_d20, y_d255, y_d3, y_d4, y_d40, y_d4294967295, y_d48, y_d5, y_d50, y_d54, y_d57, y_d6364136223846793005, y_d7, y_d9, y_d9999, y_dR, y_dS, y_dk, y_nar0, y_nar1, y_Ilt, y_Ile, y_Ieq, y_Iadd, y_Imul, y_Idiv, y_Llt, y_Lle, y_Leq, y_Ladd, y_Lmul, y_Ldiv, y_I2l, y_L2i, y_shn, y_or, y_and, y_bn1, y_bn0, y_inb, y_cl, y_gle, y_gge, y_ggt, y_glt, y_geq, if_pos, if_neg, if_true, if_false, Option.bind_some, f_X8_link, t1, e1, Sum.elim_inl, Sum.elim_inr]
  · refine WH.no (k := 2) (OKR.x (by omega)) (fun w H hw hH => ?_)
    have t1 := t1 N K w hw
    simp (disch := omega) only [y_c0, y_c1, y_c10, y_c100, y_c1000, y_c10000, y_c100000, y_c106, y_c112, y_c116, y_c127, y_c128, y_c13, y_c14, y_c155, y_c2, y_c20, y_c200, y_c204, y_c21, y_c253, y_c255, y_c3, y_c30, y_c302, y_c303, y_c304, y_c305, y_c306, y_c307, y_c308, y_c309, y_c310, y_c311, y_c312, y_c313, y_c314, y_c315, y_c316, y_c32, y_c33, y_c353, y_c39, y_c4, y_c40, y_c44, y_c4589, y_c48, y_c49, y_c5, y_c512, y_c54, y_c57, y_c59, y_c6, y_c62, y_c64, y_c7, y_c8, y_c9, y_c99, y_c9999, y_d0, y_d1, y_d10, y_d100, y_d1000000, y_d1442695040888963407, y_d2, y_d20, y_d255, y_d3, y_d4, y_d40, y_d4294967295, y_d48, y_d5, y_d50, y_d54, y_d57, y_d6364136223846793005, y_d7, y_d9, y_d9999, y_dR, y_dS, y_dk, y_nar0, y_nar1, y_Ilt, y_Ile, y_Ieq, y_Iadd, y_Imul, y_Idiv, y_Llt, y_Lle, y_Leq, y_Ladd, y_Lmul, y_Ldiv, y_I2l, y_L2i, y_shn, y_or, y_and, y_bn1, y_bn0, y_inb, y_cl, y_gle, y_gge, y_ggt, y_glt, y_geq, if_pos, if_neg, if_true, if_false, Option.bind_some, f_X8_link, t1, Sum.elim_inl]
  · refine WH.no (k := 0) (OKR.a (by omega)) (fun w H hw hH => ?_)
    have t1 := t1 N K w hw
    simp (disch := omega) only [y_c0, y_c1, y_c10, y_c100, y_c1000, y_c10000, y_c100000, y_c106, y_c112, y_c116, y_c127, y_c128, y_c13, y_c14, y_c155, y_c2, y_c20, y_c200, y_c204, y_c21, y_c253, y_c255, y_c3, y_c30, y_c302, y_c303, y_c304, y_c305, y_c306, y_c307, y_c308, y_c309, y_c310, y_c311, y_c312, y_c313, y_c314, y_c315, y_c316, y_c32, y_c33, y_c353, y_c39, y_c4, y_c40, y_c44, y_c4589, y_c48, y_c49, y_c5, y_c512, y_c54, y_c57, y_c59, y_c6, y_c62, y_c64, y_c7, y_c8, y_c9, y_c99, y_c9999, y_d0, y_d1, y_d10, y_d100, y_d1000000, y_d1442695040888963407, y_d2, y_d20, y_d255, y_d3, y_d4, y_d40, y_d4294967295, y_d48, y_d5, y_d50, y_d54, y_d57, y_d6364136223846793005, y_d7, y_d9, y_d9999, y_dR, y_dS, y_dk, y_nar0, y_nar1, y_Ilt, y_Ile, y_Ieq, y_Iadd, y_Imul, y_Idiv, y_Llt, y_Lle, y_Leq, y_Ladd, y_Lmul, y_Ldiv, y_I2l, y_L2i, y_shn, y_or, y_and, y_bn1, y_bn0, y_inb, y_cl, y_gle, y_gge, y_ggt, y_glt, y_geq, if_pos, if_neg, if_true, if_false, Option.bind_some, f_X8_link, t1, Sum.elim_inl]
theorem d_drift {N K : Nat} (q : CW) (hs : List CW) (hV : INf N q.1 ∧ IV K q) (v1 v2 v3 : Int32) : WH N K q hs 2 3 1 (fun w H => f_X8_drift w H v1 v2 v3) := by
  rcases n_two q v1 v2 with ⟨ta, tb, rfl, rfl, ha0, hb0, hab, t1⟩ | t1 | t1
  · have h7 := hV.1.1.1
    have ha : ta < 7 := by omega
    have hb : tb < 7 := by omega
    rcases y_rng v3 1 1000 (by omega) (by omega) with ⟨s, rfl, hs1, hs2, d1, -, -⟩ | ⟨-, d1, -, -⟩
    · have cp := c_pair ta ha tb hb hab
      have hd := yci_lt ta ha tb hb hab
      have hq := yq_lt _ hd
      by_cases z : 0 < q.1 (8 + yq (yci ta tb))
      · refine ⟨Sum.inr (nI (q.1 (106 + yq (yci ta tb)))), (pu q.1 (106 + yq (yci ta tb)) s, q.2), rem q hs, OKR.ok, fun w H hw hH => ?_⟩
        have el := c_isLinked hw.1.1 hw.2.1.1 hd
        rw [if_pos z] at el
        obtain ⟨w', k1, k3⟩ := s_share hw.st hd z ⟨hs1, hs2⟩
        obtain ⟨H', m1, m3⟩ := h_rem hH hw
        have t1 := t1 N K w hw
        refine ⟨w', H', ?_, (WK.of k3 (iv_pu hV.2 (by omega))).mono (by omega) (by omega), m3.mono (by omega) (by omega)⟩
        simp (disch := omega) only [y_c0, y_c1, y_c10, y_c100, y_c1000, y_c10000, y_c100000, y_c106, y_c112, y_c116, y_c127, y_c128, y_c13, y_c14, y_c155, y_c2, y_c20, y_c200, y_c204, y_c21, y_c253, y_c255, y_c3, y_c30, y_c302, y_c303, y_c304, y_c305, y_c306, y_c307, y_c308, y_c309, y_c310, y_c311, y_c312, y_c313, y_c314, y_c315, y_c316, y_c32, y_c33, y_c353, y_c39, y_c4, y_c40, y_c44, y_c4589, y_c48, y_c49, y_c5, y_c512, y_c54, y_c57, y_c59, y_c6, y_c62, y_c64, y_c7, y_c8, y_c9, y_c99, y_c9999, y_d0, y_d1, y_d10, y_d100, y_d1000000, y_d1442695040888963407, y_d2, y_d20, y_d255, y_d3, y_d4, y_d40, y_d4294967295, y_d48, y_d5, y_d50, y_d54, y_d57, y_d6364136223846793005, y_d7, y_d9, y_d9999, y_dR, y_dS, y_dk, y_nar0, y_nar1, y_Ilt, y_Ile, y_Ieq, y_Iadd, y_Imul, y_Idiv, y_Llt, y_Lle, y_Leq, y_Ladd, y_Lmul, y_Ldiv, y_I2l, y_L2i, y_shn, y_or, y_and, y_bn1, y_bn0, y_inb, y_cl, y_gle, y_gge, y_ggt, y_glt, y_geq, if_pos, if_neg, if_true, if_false, Option.bind_some, f_X8_drift, t1, d1, cp, el, m1, k1, Sum.elim_inr]
      · refine WH.no (k := 1) (OKR.s (by omega)) (fun w H hw hH => ?_)
        have el := c_isLinked hw.1.1 hw.2.1.1 hd
        rw [if_neg z] at el
        have t1 := t1 N K w hw
        simp (disch := omega) only [y_c0, y_c1, y_c10, y_c100, y_c1000, y_c10000, y_c100000, y_c106, y_c112, y_c116, y_c127, y_c128, y_c13, y_c14, y_c155, y_c2, y_c20, y_c200, y_c204, y_c21, y_c253, y_c255, y_c3, y_c30, y_c302, y_c303, y_c304, y_c305, y_c306, y_c307, y_c308, y_c309, y_c310, y_c311, y_c312, y_c313, y_c314, y_c315, y_c316, y_c32, y_c33, y_c353, y_c39, y_c4, y_c40, y_c44, y_c4589, y_c48, y_c49, y_c5, y_c512, y_c54, y_c57, y_c59, y_c6, y_c62, y_c64, y_c7, y_c8, y_c9, y_c99, y_c9999, y_d0, y_d1, y_d10, y_d100, y_d1000000, y_d1442695040888963407, y_d2, y_d20, y_d255, y_d3, y_d4, y_d40, y_d4294967295, y_d48, y_d5, y_d50, y_d54, y_d57, y_d6364136223846793005, y_d7, y_d9, y_d9999, y_dR, y_dS, y_dk, y_nar0, y_nar1, y_Ilt, y_Ile, y_Ieq, y_Iadd, y_Imul, y_Idiv, y_Llt, y_Lle, y_Leq, y_Ladd, y_Lmul, y_Ldiv, y_I2l, y_L2i, y_shn, y_or, y_and, y_bn1, y_bn0, y_inb, y_cl, y_gle, y_gge, y_ggt, y_glt, y_geq, if_pos, if_neg, if_true, if_false, Option.bind_some, f_X8_drift, t1, d1, cp, el, Sum.elim_inr]
    · refine WH.no (k := 0) (OKR.a (by omega)) (fun w H hw hH => ?_)
      have t1 := t1 N K w hw
      simp (disch := omega) only [y_c0, y_c1, y_c10, y_c100, y_c1000, y_c10000, y_c100000, y_c106, y_c112, y_c116, y_c127, y_c128, y_c13, y_c14, y_c155, y_c2, y_c20, y_c200, y_c204, y_c21, y_c253, y_c255, y_c3, y_c30, y_c302, y_c303, y_c304, y_c305, y_c306, y_c307, y_c308, y_c309, y_c310, y_c311, y_c312, y_c313, y_c314, y_c315, y_c316, y_c32, y_c33, y_c353, y_c39, y_c4, y_c40, y_c44, y_c4589, y_c48, y_c49, y_c5, y_c512, y_c54, y_c57, y_c59, y_c6, y_c62, y_c64, y_c7, y_c8, y_c9, y_c99, y_c9999, y_d0, y_d1, y_d10, y_d100, y_d1000000, y_d1442695040888963407, y_d2, y_d20, y_d255, y_d3, y_d4, y_d40, y_d4294967295, y_d48, y_d5, y_d50, y_d54, y_d57, y_d6364136223846793005, y_d7, y_d9, y_d9999, y_dR, y_dS, y_dk, y_nar0, y_nar1, y_Ilt, y_Ile, y_Ieq, y_Iadd, y_Imul, y_Idiv, y_Llt, y_Lle, y_Leq, y_Ladd, y_Lmul, y_Ldiv, y_I2l, y_L2i, y_shn, y_or, y_and, y_bn1, y_bn0, y_inb, y_cl, y_gle, y_gge, y_ggt, y_glt, y_geq, if_pos, if_neg, if_true, if_false, Option.bind_some, f_X8_drift, t1, d1, Sum.elim_inl, Sum.elim_inr]
  · refine WH.no (k := 2) (OKR.x (by omega)) (fun w H hw hH => ?_)
    have t1 := t1 N K w hw
    simp (disch := omega) only [y_c0, y_c1, y_c10, y_c100, y_c1000, y_c10000, y_c100000, y_c106, y_c112, y_c116, y_c127, y_c128, y_c13, y_c14, y_c155, y_c2, y_c20, y_c200, y_c204, y_c21, y_c253, y_c255, y_c3, y_c30, y_c302, y_c303, y_c304, y_c305, y_c306, y_c307, y_c308, y_c309, y_c310, y_c311, y_c312, y_c313, y_c314, y_c315, y_c316, y_c32, y_c33, y_c353, y_c39, y_c4, y_c40, y_c44, y_c4589, y_c48, y_c49, y_c5, y_c512, y_c54, y_c57, y_c59, y_c6, y_c62, y_c64, y_c7, y_c8, y_c9, y_c99, y_c9999, y_d0, y_d1, y_d10, y_d100, y_d1000000, y_d1442695040888963407, y_d2, y_d20, y_d255, y_d3, y_d4, y_d40, y_d4294967295, y_d48, y_d5, y_d50, y_d54, y_d57, y_d6364136223846793005, y_d7, y_d9, y_d9999, y_dR, y_dS, y_dk, y_nar0, y_nar1, y_Ilt, y_Ile, y_Ieq, y_Iadd, y_Imul, y_Idiv, y_Llt, y_Lle, y_Leq, y_Ladd, y_Lmul, y_Ldiv, y_I2l, y_L2i, y_shn, y_or, y_and, y_bn1, y_bn0, y_inb, y_cl, y_gle, y_gge, y_ggt, y_glt, y_geq, if_pos, if_neg, if_true, if_false, Option.bind_some, f_X8_drift, t1, Sum.elim_inl]
  · refine WH.no (k := 0) (OKR.a (by omega)) (fun w H hw hH => ?_)
    have t1 := t1 N K w hw
    simp (disch := omega) only [y_c0, y_c1, y_c10, y_c100, y_c1000, y_c10000, y_c100000, y_c106, y_c112, y_c116, y_c127, y_c128, y_c13, y_c14, y_c155, y_c2, y_c20, y_c200, y_c204, y_c21, y_c253, y_c255, y_c3, y_c30, y_c302, y_c303, y_c304, y_c305, y_c306, y_c307, y_c308, y_c309, y_c310, y_c311, y_c312, y_c313, y_c314, y_c315, y_c316, y_c32, y_c33, y_c353, y_c39, y_c4, y_c40, y_c44, y_c4589, y_c48, y_c49, y_c5, y_c512, y_c54, y_c57, y_c59, y_c6, y_c62, y_c64, y_c7, y_c8, y_c9, y_c99, y_c9999, y_d0, y_d1, y_d10, y_d100, y_d1000000, y_d1442695040888963407, y_d2, y_d20, y_d255, y_d3, y_d4, y_d40, y_d4294967295, y_d48, y_d5, y_d50, y_d54, y_d57, y_d6364136223846793005, y_d7, y_d9, y_d9999, y_dR, y_dS, y_dk, y_nar0, y_nar1, y_Ilt, y_Ile, y_Ieq, y_Iadd, y_Imul, y_Idiv, y_Llt, y_Lle, y_Leq, y_Ladd, y_Lmul, y_Ldiv, y_I2l, y_L2i, y_shn, y_or, y_and, y_bn1, y_bn0, y_inb, y_cl, y_gle, y_gge, y_ggt, y_glt, y_geq, if_pos, if_neg, if_true, if_false, Option.bind_some, f_X8_drift, t1, Sum.elim_inl]
/-- weeks, told in full -/
theorem e_weeks {N K : Nat} {q : CW} {hs : List CW} {w : TW} {H : TH} {j : Nat} (hN : N < 500000) (hj : 1 ≤ j ∧ j ≤ 20) (hw : WK N K w q) (hH : HK3 N K H hs) : ∃ w' H', f_X8_weeks w H (nI j) = some (Sum.inr (nI (yct (fun c => yWn q.1 j (155 + yq c)) 21)), (w', H')) ∧ WK (N + 20) K w' (yWn q.1 j, q.2) ∧ HK3 N K H' (rem q hs) := by
  obtain ⟨w', k1, k3⟩ := c_weeks hw.1 hw.2.1 hj.2
  obtain ⟨H', m1, m3⟩ := h_rem hH hw
  refine ⟨w', H', ?_, ⟨k3, (hw.2.1.wn j).mono (by omega), iv_weeks hw.2.2⟩, m3⟩
  have e1 := c_isIn (a := j) (lo := 1) (hi := 20) (by omega) (by omega) (by omega)
  rw [if_pos hj] at e1
  have e2 : f_X8_needRange (nI j) (1 : Int32) (20 : Int32) = some (Sum.inr (), ()) := by
    unfold f_X8_needRange
    rw [show f_X8_isIn (nI j) (1 : Int32) (20 : Int32) = some (nI 1, ()) from e1, Option.bind_some]
    exact if_neg y_z1
  unfold f_X8_weeks
  rw [e2, Option.bind_some]
  show ((f_X1_remember H w).bind _) = _
  rw [m1, Option.bind_some, k1]
  rfl
theorem d_weeks {N K : Nat} (q : CW) (hs : List CW) (hN : N < 500000) (hV : INf N q.1 ∧ IV K q) (v : Int32) : WH N K q hs 1 0 0 (fun w H => f_X8_weeks w H v) := by
  rcases y_rng v 1 20 (by omega) (by omega) with ⟨j, rfl, hj1, hj2, e1, -, -⟩ | ⟨-, e1, -, -⟩
  · refine ⟨Sum.inr (nI (yct (fun c => yWn q.1 j (155 + yq c)) 21)), (yWn q.1 j, q.2), rem q hs, OKR.ok, fun w H hw hH => ?_⟩
    obtain ⟨w', H', a, b, c⟩ := e_weeks hN ⟨hj1, hj2⟩ hw hH
    exact ⟨w', H', a, b.mono (by omega) (by omega), c.mono (by omega) (by omega)⟩
  · refine WH.no (k := 0) (OKR.a (by omega)) (fun w H hw hH => ?_)
    simp (disch := omega) only [y_c0, y_c1, y_c10, y_c100, y_c1000, y_c10000, y_c100000, y_c106, y_c112, y_c116, y_c127, y_c128, y_c13, y_c14, y_c155, y_c2, y_c20, y_c200, y_c204, y_c21, y_c253, y_c255, y_c3, y_c30, y_c302, y_c303, y_c304, y_c305, y_c306, y_c307, y_c308, y_c309, y_c310, y_c311, y_c312, y_c313, y_c314, y_c315, y_c316, y_c32, y_c33, y_c353, y_c39, y_c4, y_c40, y_c44, y_c4589, y_c48, y_c49, y_c5, y_c512, y_c54, y_c57, y_c59, y_c6, y_c62, y_c64, y_c7, y_c8, y_c9, y_c99, y_c9999, y_d0, y_d1, y_d10, y_d100, y_d1000000, y_d1442695040888963407, y_d2, y_d20, y_d255, y_d3, y_d4, y_d40, y_d4294967295, y_d48, y_d5, y_d50, y_d54, y_d57, y_d6364136223846793005, y_d7, y_d9, y_d9999, y_dR, y_dS, y_dk, y_nar0, y_nar1, y_Ilt, y_Ile, y_Ieq, y_Iadd, y_Imul, y_Idiv, y_Llt, y_Lle, y_Leq, y_Ladd, y_Lmul, y_Ldiv, y_I2l, y_L2i, y_shn, y_or, y_and, y_bn1, y_bn0, y_inb, y_cl, y_gle, y_gge, y_ggt, y_glt, y_geq, if_pos, if_neg, if_true, if_false, Option.bind_some, f_X8_weeks, e1, Sum.elim_inl]
theorem d_set {N K : Nat} (q : CW) (hs : List CW) (hV : INf N q.1 ∧ IV K q) (v1 v2 : Int32) : WH N K q hs 1 0 0 (fun w H => f_X8_set w H v1 v2) := by
  rcases y_setg v1 v2 with ⟨i, y, rfl, rfl, hi, hy, hb, e1, -⟩ | ⟨e1, -⟩
  · refine ⟨Sum.inr (nI (q.1 (302 + i))), (pu q.1 (302 + i) y, q.2), rem q hs, OKR.ok, fun w H hw hH => ?_⟩
    obtain ⟨w', k1, k3⟩ := s_set hw.st hi hb
    obtain ⟨H', m1, m3⟩ := h_rem hH hw
    refine ⟨w', H', ?_, (WK.of k3 (iv_pu hV.2 (by omega))).mono (by omega) (by omega), m3.mono (by omega) (by omega)⟩
    simp (disch := omega) only [y_c0, y_c1, y_c10, y_c100, y_c1000, y_c10000, y_c100000, y_c106, y_c112, y_c116, y_c127, y_c128, y_c13, y_c14, y_c155, y_c2, y_c20, y_c200, y_c204, y_c21, y_c253, y_c255, y_c3, y_c30, y_c302, y_c303, y_c304, y_c305, y_c306, y_c307, y_c308, y_c309, y_c310, y_c311, y_c312, y_c313, y_c314, y_c315, y_c316, y_c32, y_c33, y_c353, y_c39, y_c4, y_c40, y_c44, y_c4589, y_c48, y_c49, y_c5, y_c512, y_c54, y_c57, y_c59, y_c6, y_c62, y_c64, y_c7, y_c8, y_c9, y_c99, y_c9999, y_d0, y_d1, y_d10, y_d100, y_d1000000, y_d1442695040888963407, y_d2, y_d20, y_d255, y_d3, y_d4, y_d40, y_d4294967295, y_d48, y_d5, y_d50, y_d54, y_d57, y_d6364136223846793005, y_d7, y_d9, y_d9999, y_dR, y_dS, y_dk, y_nar0, y_nar1, y_Ilt, y_Ile, y_Ieq, y_Iadd, y_Imul, y_Idiv, y_Llt, y_Lle, y_Leq, y_Ladd, y_Lmul, y_Ldiv, y_I2l, y_L2i, y_shn, y_or, y_and, y_bn1, y_bn0, y_inb, y_cl, y_gle, y_gge, y_ggt, y_glt, y_geq, if_pos, if_neg, if_true, if_false, Option.bind_some, f_X8_set, e1, m1, k1]
  · refine WH.no (k := 0) (OKR.a (by omega)) (fun w H hw hH => ?_)
    simp (disch := omega) only [y_c0, y_c1, y_c10, y_c100, y_c1000, y_c10000, y_c100000, y_c106, y_c112, y_c116, y_c127, y_c128, y_c13, y_c14, y_c155, y_c2, y_c20, y_c200, y_c204, y_c21, y_c253, y_c255, y_c3, y_c30, y_c302, y_c303, y_c304, y_c305, y_c306, y_c307, y_c308, y_c309, y_c310, y_c311, y_c312, y_c313, y_c314, y_c315, y_c316, y_c32, y_c33, y_c353, y_c39, y_c4, y_c40, y_c44, y_c4589, y_c48, y_c49, y_c5, y_c512, y_c54, y_c57, y_c59, y_c6, y_c62, y_c64, y_c7, y_c8, y_c9, y_c99, y_c9999, y_d0, y_d1, y_d10, y_d100, y_d1000000, y_d1442695040888963407, y_d2, y_d20, y_d255, y_d3, y_d4, y_d40, y_d4294967295, y_d48, y_d5, y_d50, y_d54, y_d57, y_d6364136223846793005, y_d7, y_d9, y_d9999, y_dR, y_dS, y_dk, y_nar0, y_nar1, y_Ilt, y_Ile, y_Ieq, y_Iadd, y_Imul, y_Idiv, y_Llt, y_Lle, y_Leq, y_Ladd, y_Lmul, y_Ldiv, y_I2l, y_L2i, y_shn, y_or, y_and, y_bn1, y_bn0, y_inb, y_cl, y_gle, y_gge, y_ggt, y_glt, y_geq, if_pos, if_neg, if_true, if_false, Option.bind_some, f_X8_set, e1]
theorem e_undo {N K : Nat} {q p : CW} {hs : List CW} {w : TW} {H : TH} (hH : HK3 N K H (p :: hs)) : ∃ w' H', f_X8_undo w H = some (Sum.inr (nI hs.length), (w', H')) ∧ WK N K w' p ∧ HK3 N K H' hs := by
  obtain ⟨H', w', a, b, c⟩ := h_undo (w := w) hH
  refine ⟨w', H', ?_, c, b⟩
  unfold f_X8_undo
  rw [h_some hH, Option.bind_some]
  refine (if_pos y_z0).trans ?_
  rw [a]; rfl
theorem d_undo {N K : Nat} (q : CW) (hs : List CW) : WH N K q hs 0 1 0 (fun w H => f_X8_undo w H) := by
  cases hs with
  | nil =>
    refine WH.no (k := 1) (OKR.s (by omega)) (fun w H hw hH => ?_)
    show f_X8_undo w H = _
    unfold f_X8_undo
    rw [h_none hH, Option.bind_some]
    exact if_neg y_z1
  | cons p hs =>
    refine ⟨Sum.inr (nI hs.length), p, hs, OKR.ok, fun w H hw hH => ?_⟩
    obtain ⟨w', H', a, b, c⟩ := e_undo (q := q) (w := w) hH
    exact ⟨w', H', a, b.mono (by omega) (by omega), c.mono (by omega) (by omega)⟩
/-- a run, told in full -/
theorem e_run {N K : Nat} {q : CW} {hs : List CW} {w : TW} {H : TH} {P Q : TP} {S : Nat} (hN : N < 500000) (hS : S < 2 ^ q.1 0) (h0 : 0 < S) (hw : WK N K w q) (hH : HK3 N K H hs) : ∃ w' P' Q' H', f_X8_run w P Q H (nI S) = some (Sum.inr (nI (yRn S q.1 307 - q.1 307)), (w', P', Q', H')) ∧ WK (N + 50) (K + 1) w' (yRn S q.1, yσ q.1 S q.2) ∧ HK3 N K H' (rem q hs) := by
  obtain ⟨P', Q', w', k1, k3⟩ := c_runIn (P1 := P) (P2 := Q) hw.1 hw.2.1 (by omega) hS
  obtain ⟨H', m1, m3⟩ := h_rem hH hw
  have hb := y_2pow hw.2.1.1 hS
  refine ⟨w', P', Q', H', ?_, ⟨k3, hw.2.1.rn, iv_run hw.2.2⟩, m3⟩
  have e := c_hasTs hw.1.1 hw.2.1.1.1 (j := S) (by omega)
  rw [if_pos hS] at e
  have e1 : f_X8_needTables w (nI S) = some (Sum.inr (), ()) := by
    unfold f_X8_needTables
    rw [e, Option.bind_some]; exact if_neg y_z1
  have e2 : f_X8_needSomeTable (nI S) = some (Sum.inr (), ()) := by
    unfold f_X8_needSomeTable
    exact if_neg (fun z => by have := (y_Ieq (b := 0) (by omega) (by omega)).mp z; omega)
  unfold f_X8_run
  rw [e1, Option.bind_some]
  show ((f_X8_needSomeTable (nI S)).bind _) = _
  rw [e2, Option.bind_some]
  show ((f_X1_remember H w).bind _) = _
  rw [m1, Option.bind_some, k1]
  rfl
theorem d_run {N K : Nat} (q : CW) (hs : List CW) (hN : N < 500000) (v : Int32) : ∃ res q' hs', OKR 2 0 1 res ∧ ∀ w P Q H, WK N K w q → HK3 N K H hs → ∃ w' P' Q' H', f_X8_run w P Q H v = some (res, (w', P', Q', H')) ∧ WK (N + 50) (K + 1) w' q' ∧ HK3 (N + 50) (K + 1) H' hs' := by
  rcases n_sts q v with ⟨S, rfl, hS, hS2, t1⟩ | t1
  · by_cases h0 : S = 0
    · subst h0
      refine ⟨Sum.inl 0, q, hs, OKR.a (by omega), fun w P Q H hw hH => ⟨w, P, Q, H, ?_, hw.mono (by omega) (by omega), hH.mono (by omega) (by omega)⟩⟩
      have t1 := t1 N K w hw
      unfold f_X8_run
      rw [t1]; rfl
    · refine ⟨Sum.inr (nI (yRn S q.1 307 - q.1 307)), (yRn S q.1, yσ q.1 S q.2), rem q hs, OKR.ok, fun w P Q H hw hH => ?_⟩
      obtain ⟨w', P', Q', H', a, b, c⟩ := e_run (P := P) (Q := Q) hN hS (by omega) hw hH
      exact ⟨w', P', Q', H', a, b, c.mono (by omega) (by omega)⟩
  · refine ⟨Sum.inl 2, q, hs, OKR.x (by omega), fun w P Q H hw hH => ⟨w, P, Q, H, ?_, hw.mono (by omega) (by omega), hH.mono (by omega) (by omega)⟩⟩
    have t1 := t1 N K w hw
    unfold f_X8_run
    rw [t1]; rfl
