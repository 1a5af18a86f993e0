def xK7 (T : TT) : TR → Option (Int32 × TR) := fun (y6g_p1 : TR) => ((f_X2_isComplete y6g_p1).bind fun o7 => (if o7.1 = (0 : Int32) then (some ((T_length T), y6g_p1)) else (some ((-1 : Int32), y6g_p1))))
def CPd (T : TT) (L i : Nat) (R : TR) (v : Int32) (R' : TR) : Prop := ∀ n, L - i < n → f_X6_firstErrorFor_X2_L6 T (xK7 T) n (nI i) R = some (v, R')
theorem CPd.step {T : TT} {L : Nat} {c : Nat → Nat} (h1 : T_length T = nI L) (h2 : L ≤ 100) (h3 : ∀ k, k < L → T_signs T k = nI (c k)) {i : Nat} {R R1 R' : TR} {v : Int32} (hi : i < L) (ht : f_X2_takes R (nI (c i)) = some (nI 1, R1)) (h : CPd T L (i + 1) R1 v R') : CPd T L i R v R' := by
  intro n hn
  obtain ⟨n, rfl⟩ : ∃ m, n = m + 1 := ⟨n - 1, by omega⟩
  have e := h n (by omega)
  have hs := c_sign h1 h2 h3 hi
  rw [f_X6_firstErrorFor_X2_L6]
  simp (disch := omega) only [y_c0, y_c1, y_c10, y_c100, y_c1000, y_c10000, y_c100000, y_c106, y_c112, y_c116, y_c127, y_c128, y_c13, y_c14, y_c155, y_c2, y_c20, y_c200, y_c204, y_c21, y_c253, y_c255, y_c3, y_c30, y_c302, y_c303, y_c304, y_c305, y_c306, y_c307, y_c308, y_c309, y_c310, y_c311, y_c312, y_c313, y_c314, y_c315, y_c316, y_c32, y_c33, y_c353, y_c39, y_c4, y_c40, y_c44, y_c4589, y_c48, y_c49, y_c5, y_c512, y_c54, y_c57, y_c59, y_c6, y_c62, y_c64, y_c7, y_c8, y_c9, y_c99, y_c9999, y_d0, y_d1, y_d10, y_d100, y_d1000000, y_d1442695040888963407, y_d2, y_d20, y_d255, y_d3, y_d4, y_d40, y_d4294967295, y_d48, y_d5, y_d50, y_d54, y_d57, y_d6364136223846793005, y_d7, y_d9, y_d9999, y_dR, y_dS, y_dk, y_nar0, y_nar1, y_Ilt, y_Ile, y_Ieq, y_Iadd, y_Imul, y_Idiv, y_Llt, y_Lle, y_Leq, y_Ladd, y_Lmul, y_Ldiv, y_I2l, y_L2i, y_shn, y_or, y_and, y_bn1, y_bn0, y_inb, y_cl, y_gle, y_gge, y_ggt, y_glt, y_geq, if_pos, if_neg, if_true, if_false, Option.bind_some, h1, hs, ht]
  exact e
theorem CPd.fail {T : TT} {L : Nat} {c : Nat → Nat} (h1 : T_length T = nI L) (h2 : L ≤ 100) (h3 : ∀ k, k < L → T_signs T k = nI (c k)) {i : Nat} {R R1 : TR} (hi : i < L) (ht : f_X2_takes R (nI (c i)) = some (nI 0, R1)) : CPd T L i R (nI i) R1 := by
  intro n hn
  obtain ⟨n, rfl⟩ : ∃ m, n = m + 1 := ⟨n - 1, by omega⟩
  have hs := c_sign h1 h2 h3 hi
  rw [f_X6_firstErrorFor_X2_L6]
  simp (disch := omega) only [y_c0, y_c1, y_c10, y_c100, y_c1000, y_c10000, y_c100000, y_c106, y_c112, y_c116, y_c127, y_c128, y_c13, y_c14, y_c155, y_c2, y_c20, y_c200, y_c204, y_c21, y_c253, y_c255, y_c3, y_c30, y_c302, y_c303, y_c304, y_c305, y_c306, y_c307, y_c308, y_c309, y_c310, y_c311, y_c312, y_c313, y_c314, y_c315, y_c316, y_c32, y_c33, y_c353, y_c39, y_c4, y_c40, y_c44, y_c4589, y_c48, y_c49, y_c5, y_c512, y_c54, y_c57, y_c59, y_c6, y_c62, y_c64, y_c7, y_c8, y_c9, y_c99, y_c9999, y_d0, y_d1, y_d10, y_d100, y_d1000000, y_d1442695040888963407, y_d2, y_d20, y_d255, y_d3, y_d4, y_d40, y_d4294967295, y_d48, y_d5, y_d50, y_d54, y_d57, y_d6364136223846793005, y_d7, y_d9, y_d9999, y_dR, y_dS, y_dk, y_nar0, y_nar1, y_Ilt, y_Ile, y_Ieq, y_Iadd, y_Imul, y_Idiv, y_Llt, y_Lle, y_Leq, y_Ladd, y_Lmul, y_Ldiv, y_I2l, y_L2i, y_shn, y_or, y_and, y_bn1, y_bn0, y_inb, y_cl, y_gle, y_gge, y_ggt, y_glt, y_geq, if_pos, if_neg, if_true, if_false, Option.bind_some, h1, hs, ht]
theorem CPd.done {T : TT} {L : Nat} (h1 : T_length T = nI L) (h2 : L ≤ 100) {R : TR} : CPd T L L R (if R_expectsTable R = (0 : Int32) then -1 else nI L) R := by
  intro n hn
  obtain ⟨n, rfl⟩ : ∃ m, n = m + 1 := ⟨n - 1, by omega⟩
  rw [f_X6_firstErrorFor_X2_L6, h1, if_pos ((y_Ile (by omega) (by omega)).mpr (by omega))]
  unfold xK7 f_X2_isComplete
  rw [h1]
  by_cases q : R_expectsTable R = (0 : Int32)
  · rw [if_pos q, if_pos q]; rfl
  · rw [if_neg q, if_neg q]; rfl
/-- the reader after k tables, with a table to come -/
def PS (R : TR) (c : Nat → Nat) (k s x : Nat) : Prop := R_count R = nI k ∧ R_seen R = nI s ∧ R_expectsTable R = nI x ∧ k + ymiss 127 s = 7 ∧ s < 128 ∧ ∀ m, m < k → R_order R m = nI (c (2 * m) - 48) ∧ 48 ≤ c (2 * m) ∧ c (2 * m) ≤ 54
theorem ycd_127 {s t : Nat} (ht : t < 7) (h : s.testBit t = false) : ycd 127 s t = true := by
  unfold ycd
  rw [h, (by decide : ∀ t, t < 7 → (127 : Nat).testBit t = true) t ht]; rfl
theorem t_tab {R : TR} {c : Nat → Nat} {k s d : Nat} (h : PS R c k s 1) (hd : 48 ≤ d ∧ d ≤ 54) (hb : s.testBit (d - 48) = false) : f_X2_takes R (nI d) = some (nI 1, R_mk (nI (k + 1)) (nI (s ||| 2 ^ (d - 48))) (nI 0) (upd (R_order R) k (nI (d - 48)))) := by
  obtain ⟨a1, a2, a3, a4, a5, a6⟩ := h
  have hk := ymiss_step (show d - 48 < 7 by omega) (ycd_127 (show d - 48 < 7 by omega) hb)
  have hh := c_holds (S := s) (t := d - 48) (by omega) (by omega)
  rw [if_neg (by rw [hb]; decide)] at hh
  unfold f_X2_takes
  rw [a3, if_neg y_z1, y_dg48 (by omega), if_pos hd, Option.bind_some, if_neg y_z1, a1, a2, y_c48, y_Isub hd.1, hh, Option.bind_some, if_pos y_z0]
  simp (disch := omega) only [y_c0, y_c1, y_c10, y_c100, y_c1000, y_c10000, y_c100000, y_c106, y_c112, y_c116, y_c127, y_c128, y_c13, y_c14, y_c155, y_c2, y_c20, y_c200, y_c204, y_c21, y_c253, y_c255, y_c3, y_c30, y_c302, y_c303, y_c304, y_c305, y_c306, y_c307, y_c308, y_c309, y_c310, y_c311, y_c312, y_c313, y_c314, y_c315, y_c316, y_c32, y_c33, y_c353, y_c39, y_c4, y_c40, y_c44, y_c4589, y_c48, y_c49, y_c5, y_c512, y_c54, y_c57, y_c59, y_c6, y_c62, y_c64, y_c7, y_c8, y_c9, y_c99, y_c9999, y_d0, y_d1, y_d10, y_d100, y_d1000000, y_d1442695040888963407, y_d2, y_d20, y_d255, y_d3, y_d4, y_d40, y_d4294967295, y_d48, y_d5, y_d50, y_d54, y_d57, y_d6364136223846793005, y_d7, y_d9, y_d9999, y_dR, y_dS, y_dk, y_nar0, y_nar1, y_Ilt, y_Ile, y_Ieq, y_Iadd, y_Imul, y_Idiv, y_Llt, y_Lle, y_Leq, y_Ladd, y_Lmul, y_Ldiv, y_I2l, y_L2i, y_shn, y_or, y_and, y_bn1, y_bn0, y_inb, y_cl, y_gle, y_gge, y_ggt, y_glt, y_geq, if_pos, if_neg, if_true, if_false, Option.bind_some, c_isIn, y_shn]
theorem t_tabN {R : TR} {c : Nat → Nat} {k s d : Nat} (h : PS R c k s 1) (hd2 : d ≤ 255) (hd : ¬ (48 ≤ d ∧ d ≤ 54 ∧ s.testBit (d - 48) = false)) : f_X2_takes R (nI d) = some (nI 0, R) := by
  obtain ⟨a1, a2, a3, a4, a5, a6⟩ := h
  unfold f_X2_takes
  rw [a3, if_neg y_z1, y_dg48 hd2]
  by_cases q : 48 ≤ d ∧ d ≤ 54
  · have hb : s.testBit (d - 48) = true := by
      cases hh : s.testBit (d - 48)
      · exact absurd ⟨q.1, q.2, hh⟩ hd
      · rfl
    have hh := c_holds (S := s) (t := d - 48) (by omega) (by omega)
    rw [if_pos hb] at hh
    rw [if_pos q, Option.bind_some, if_neg y_z1, a2, y_c48, y_Isub q.1, hh, Option.bind_some, if_neg y_z1]; rfl
  · rw [if_neg q, Option.bind_some, if_pos y_z0]; rfl
theorem t_gt {R : TR} {c : Nat → Nat} {k s d : Nat} (h : PS R c k s 0) (hd2 : d ≤ 255) : ∃ R', f_X2_takes R (nI d) = some (if d = 62 ∧ k < 7 then nI 1 else nI 0, R') ∧ (d = 62 ∧ k < 7 → PS R' c k s 1) := by
  obtain ⟨a1, a2, a3, a4, a5, a6⟩ := h
  by_cases q : d = 62
  · by_cases q2 : k < 7
    · refine ⟨R_mk (R_count R) (R_seen R) (nI 1) (R_order R), ?_, fun _ => ⟨a1, a2, rfl, a4, a5, a6⟩⟩
      rw [if_pos ⟨q, q2⟩]
      unfold f_X2_takes
      simp (disch := omega) only [y_c0, y_c1, y_c10, y_c100, y_c1000, y_c10000, y_c100000, y_c106, y_c112, y_c116, y_c127, y_c128, y_c13, y_c14, y_c155, y_c2, y_c20, y_c200, y_c204, y_c21, y_c253, y_c255, y_c3, y_c30, y_c302, y_c303, y_c304, y_c305, y_c306, y_c307, y_c308, y_c309, y_c310, y_c311, y_c312, y_c313, y_c314, y_c315, y_c316, y_c32, y_c33, y_c353, y_c39, y_c4, y_c40, y_c44, y_c4589, y_c48, y_c49, y_c5, y_c512, y_c54, y_c57, y_c59, y_c6, y_c62, y_c64, y_c7, y_c8, y_c9, y_c99, y_c9999, y_d0, y_d1, y_d10, y_d100, y_d1000000, y_d1442695040888963407, y_d2, y_d20, y_d255, y_d3, y_d4, y_d40, y_d4294967295, y_d48, y_d5, y_d50, y_d54, y_d57, y_d6364136223846793005, y_d7, y_d9, y_d9999, y_dR, y_dS, y_dk, y_nar0, y_nar1, y_Ilt, y_Ile, y_Ieq, y_Iadd, y_Imul, y_Idiv, y_Llt, y_Lle, y_Leq, y_Ladd, y_Lmul, y_Ldiv, y_I2l, y_L2i, y_shn, y_or, y_and, y_bn1, y_bn0, y_inb, y_cl, y_gle, y_gge, y_ggt, y_glt, y_geq, if_pos, if_neg, if_true, if_false, Option.bind_some, a1, a3, q]
    · refine ⟨R_mk (R_count R) (R_seen R) (nI 0) (R_order R), ?_, fun z => absurd z.2 q2⟩
      rw [if_neg (fun z => q2 z.2)]
      unfold f_X2_takes
      simp (disch := omega) only [y_c0, y_c1, y_c10, y_c100, y_c1000, y_c10000, y_c100000, y_c106, y_c112, y_c116, y_c127, y_c128, y_c13, y_c14, y_c155, y_c2, y_c20, y_c200, y_c204, y_c21, y_c253, y_c255, y_c3, y_c30, y_c302, y_c303, y_c304, y_c305, y_c306, y_c307, y_c308, y_c309, y_c310, y_c311, y_c312, y_c313, y_c314, y_c315, y_c316, y_c32, y_c33, y_c353, y_c39, y_c4, y_c40, y_c44, y_c4589, y_c48, y_c49, y_c5, y_c512, y_c54, y_c57, y_c59, y_c6, y_c62, y_c64, y_c7, y_c8, y_c9, y_c99, y_c9999, y_d0, y_d1, y_d10, y_d100, y_d1000000, y_d1442695040888963407, y_d2, y_d20, y_d255, y_d3, y_d4, y_d40, y_d4294967295, y_d48, y_d5, y_d50, y_d54, y_d57, y_d6364136223846793005, y_d7, y_d9, y_d9999, y_dR, y_dS, y_dk, y_nar0, y_nar1, y_Ilt, y_Ile, y_Ieq, y_Iadd, y_Imul, y_Idiv, y_Llt, y_Lle, y_Leq, y_Ladd, y_Lmul, y_Ldiv, y_I2l, y_L2i, y_shn, y_or, y_and, y_bn1, y_bn0, y_inb, y_cl, y_gle, y_gge, y_ggt, y_glt, y_geq, if_pos, if_neg, if_true, if_false, Option.bind_some, a1, a3, q]
  · refine ⟨R_mk (R_count R) (R_seen R) (nI 0) (R_order R), ?_, fun z => absurd z.1 q⟩
    rw [if_neg (fun z => q z.1)]
    unfold f_X2_takes
    simp (disch := omega) only [y_c0, y_c1, y_c10, y_c100, y_c1000, y_c10000, y_c100000, y_c106, y_c112, y_c116, y_c127, y_c128, y_c13, y_c14, y_c155, y_c2, y_c20, y_c200, y_c204, y_c21, y_c253, y_c255, y_c3, y_c30, y_c302, y_c303, y_c304, y_c305, y_c306, y_c307, y_c308, y_c309, y_c310, y_c311, y_c312, y_c313, y_c314, y_c315, y_c316, y_c32, y_c33, y_c353, y_c39, y_c4, y_c40, y_c44, y_c4589, y_c48, y_c49, y_c5, y_c512, y_c54, y_c57, y_c59, y_c6, y_c62, y_c64, y_c7, y_c8, y_c9, y_c99, y_c9999, y_d0, y_d1, y_d10, y_d100, y_d1000000, y_d1442695040888963407, y_d2, y_d20, y_d255, y_d3, y_d4, y_d40, y_d4294967295, y_d48, y_d5, y_d50, y_d54, y_d57, y_d6364136223846793005, y_d7, y_d9, y_d9999, y_dR, y_dS, y_dk, y_nar0, y_nar1, y_Ilt, y_Ile, y_Ieq, y_Iadd, y_Imul, y_Idiv, y_Llt, y_Lle, y_Leq, y_Ladd, y_Lmul, y_Ldiv, y_I2l, y_L2i, y_shn, y_or, y_and, y_bn1, y_bn0, y_inb, y_cl, y_gle, y_gge, y_ggt, y_glt, y_geq, if_pos, if_neg, if_true, if_false, Option.bind_some, a1, a3]
def xK104 : TM → Option (Int32 × TM) := fun (y11g_this : TM) => (if (M_size y11g_this) ≤ (M_spot y11g_this) then (some ((-1 : Int32), y11g_this)) else (some ((M_spot y11g_this), y11g_this)))
theorem x_K104 {M : TM} {mt : Nat → Int32} {L i : Nat} {c : Nat → Nat} (h : RTX M mt L c i) : xK104 M = some (if L ≤ i then -1 else nI i, M) := by
  obtain ⟨a1, a2, a3, a4, a5⟩ := h
  unfold xK104
  rw [a1, a2]
  by_cases q : L ≤ i
  · rw [if_pos q, if_pos ((y_Ile (by omega) (by omega)).mpr q)]
  · rw [if_neg q, if_neg (fun z => q ((y_Ile (by omega) (by omega)).mp z))]
theorem x_pl9 {L : Nat} {T : TT} {c : Nat → Nat} {mt : Nat → Int32} (h1 : T_length T = nI L) (h2 : L ≤ 100) (h3 : ∀ k, k < L → T_signs T k = nI (c k)) (h4 : ∀ k, k < L → c k ≤ 255) : ∀ rr k s n (M : TM) (R : TR), 7 - k ≤ rr → rr + 1 < n → RTX M mt L c (2 * k) → PS R c k s 1 →
    ∃ v j R', f_X9_wrongPlan_L9 mt xK104 n (nI s) (nI 1) M = some (v, Msp M j) ∧ CPd T L (2 * k) R v R' ∧ (v = -1 → ∃ m s' x, k < m ∧ L + 1 = 2 * m ∧ PS R' c m s' x ∧ ∀ t, t < 7 → (s'.testBit t = true ↔ s.testBit t = true ∨ ∃ i, k ≤ i ∧ i < m ∧ c (2 * i) - 48 = t)) := by
  intro rr
  induction rr with
  | zero =>
    intro k s n M R hk hn hM hR
    obtain ⟨n, rfl⟩ : ∃ m, n = m + 1 := ⟨n - 1, by omega⟩
    have hkl := hM.2.2.2.1
    have hs := x_sign hM
    have hR2 := hR
    obtain ⟨a1, a2, a3, a4, a5, a6⟩ := hR
    have hz : ymiss 127 s = 0 := by omega
    have h127 : s = 127 := by
      by_cases q : s = 127
      · exact q
      · have := ymiss_pos (w := 127) (s := s) (by rw [show (127 : Nat) = 2 ^ 7 - 1 from rfl, Nat.and_two_pow_sub_one_eq_mod, Nat.mod_eq_of_lt a5]) (by omega) q
        omega
    subst h127
    have hMM : Msp M (2 * k) = M := by unfold Msp; rw [← hM.2.1]; rfl
    refine ⟨nI (2 * k), 2 * k, R, ?_, ?_, fun z => absurd z (e4_no' _ (by omega))⟩
    · rw [f_X9_wrongPlan_L9, if_neg y_z1, hs]
      by_cases q : 2 * k < L
      · have hc := h4 _ q
        rw [if_pos q, Option.bind_some, y_I2l (by omega), y_d48, y_d54, x_in (by omega) (by omega) (by omega)]
        by_cases q2 : 48 ≤ c (2 * k) ∧ c (2 * k) ≤ 54
        · rw [if_pos q2, Option.bind_some, if_neg y_z1, Option.bind_some, y_c48, y_Isub q2.1]
          unfold f_X9_wrongPlan_J41
          rw [if_neg (e4_no' _ (by omega)), if_pos ((y_bit1 (by omega) (by omega)).mpr ((by decide : ∀ t, t < 7 → (127 : Nat).testBit t = true) _ (by omega))), hM.2.1, hMM]
        · rw [if_neg q2, Option.bind_some, if_pos y_z0]
          unfold f_X9_wrongPlan_J41
          rw [if_pos rfl, hM.2.1, hMM]
      · rw [if_neg q, Option.bind_some, y_d48, x_inN y_m1n (by omega), Option.bind_some, if_pos y_z0]
        unfold f_X9_wrongPlan_J41
        rw [if_pos rfl, hM.2.1, hMM]
    · by_cases q : 2 * k < L
      · refine CPd.fail h1 h2 h3 q (t_tabN hR2 (h4 _ q) (fun z => ?_))
        have := (by decide : ∀ t, t < 7 → (127 : Nat).testBit t = true) (c (2 * k) - 48) (by omega)
        rw [this] at z
        exact nomatch z.2.2
      · have := CPd.done (R := R) h1 h2
        rw [a3, if_neg y_z1] at this
        rw [show 2 * k = L by omega]
        exact this
  | succ rr ih =>
    intro k s n M R hk hn hM hR
    obtain ⟨n, rfl⟩ : ∃ m, n = m + 1 := ⟨n - 1, by omega⟩
    have hkl := hM.2.2.2.1
    have hs := x_sign hM
    have hR2 := hR
    obtain ⟨a1, a2, a3, a4, a5, a6⟩ := hR
    have hMM : Msp M (2 * k) = M := by unfold Msp; rw [← hM.2.1]; rfl
    by_cases q : 2 * k < L ∧ 48 ≤ c (2 * k) ∧ c (2 * k) ≤ 54 ∧ s.testBit (c (2 * k) - 48) = false
    · obtain ⟨q1, q2, q3, q4⟩ := q
      have ht := t_tab hR2 ⟨q2, q3⟩ q4
      have hms := ymiss_step (show c (2 * k) - 48 < 7 by omega) (ycd_127 (show c (2 * k) - 48 < 7 by omega) q4)
      generalize htd : c (2 * k) - 48 = t at ht q4 hms
      have ht7 : t < 7 := by omega
      have hs1 : s ||| 2 ^ t < 128 := Nat.or_lt_two_pow (n := 7) a5 (Nat.pow_lt_pow_right (by omega) ht7)
      have hR1 : PS (R_mk (nI (k + 1)) (nI (s ||| 2 ^ t)) (nI 0) (upd (R_order R) k (nI t))) c (k + 1) (s ||| 2 ^ t) 0 := by
        refine ⟨rfl, rfl, rfl, by omega, hs1, fun m hm => ?_⟩
        by_cases z : m = k
        · subst z
          refine ⟨?_, q2, q3⟩
          show upd (R_order R) m (nI t) m = _
          rw [y_ve rfl, htd]
        · have := a6 m (by omega)
          refine ⟨?_, this.2⟩
          show upd (R_order R) k (nI t) m = _
          rw [y_vn z]
          exact this.1
      have hbits : ∀ u, u < 7 → ((s ||| 2 ^ t).testBit u = true ↔ s.testBit u = true ∨ t = u) := by
        intro u _
        rw [Nat.testBit_or, Nat.testBit_two_pow]
        simp
      have hM1 := hM.sp (show 2 * k + 1 ≤ L by omega)
      have f0 : f_X9_wrongPlan_L9 mt xK104 (n + 1) (nI s) (nI 1) M = (if nI (s ||| 2 ^ t) = (127 : Int32) then (f_X9_wrongPlan_L9 mt xK104 n (nI (s ||| 2 ^ t)) (0 : Int32) (Msp M (2 * k + 1))) else ((f_X9_taken (Msp M (2 * k + 1)) mt (62 : Int32) (62 : Int32)).bind fun o8 => (if o8.1 = (-1 : Int32) then (f_X9_wrongPlan_L9 mt xK104 n (nI (s ||| 2 ^ t)) (0 : Int32) o8.2) else (f_X9_wrongPlan_L9 mt xK104 n (nI (s ||| 2 ^ t)) (1 : Int32) o8.2)))) := by
        rw [f_X9_wrongPlan_L9, if_neg y_z1, hs, if_pos q1, Option.bind_some, y_I2l (by omega), y_d48, y_d54, x_in (by omega) (by omega) (by omega), if_pos ⟨q2, q3⟩, Option.bind_some, if_neg y_z1, Option.bind_some, y_c48, y_Isub q2, htd]
        unfold f_X9_wrongPlan_J41
        rw [if_neg (e4_no' _ (by omega)), if_neg (fun z => by have := (y_bit1 (by omega) (by omega)).mp z; rw [q4] at this; exact nomatch this), y_or1 (x := 0) (by omega), hM.2.1, y_c1, y_Iadd]
        rfl
      obtain ⟨n, rfl⟩ : ∃ m, n = m + 1 := ⟨n - 1, by omega⟩
      have hend : f_X9_wrongPlan_L9 mt xK104 (n + 1) (nI (s ||| 2 ^ t)) (0 : Int32) (Msp M (2 * k + 1)) = some (if L ≤ 2 * k + 1 then -1 else nI (2 * k + 1), Msp M (2 * k + 1)) := by
        rw [f_X9_wrongPlan_L9]
        refine (if_pos rfl).trans ?_
        exact x_K104 hM1
      have hfin : ¬ (2 * k + 1 < L ∧ c (2 * k + 1) = 62 ∧ k + 1 < 7) → ∃ R', CPd T L (2 * k) R (if L ≤ 2 * k + 1 then -1 else nI (2 * k + 1)) R' ∧ ((if L ≤ 2 * k + 1 then -1 else nI (2 * k + 1)) = (-1 : Int32) → ∃ m s' x, k < m ∧ L + 1 = 2 * m ∧ PS R' c m s' x ∧ ∀ t, t < 7 → (s'.testBit t = true ↔ s.testBit t = true ∨ ∃ i, k ≤ i ∧ i < m ∧ c (2 * i) - 48 = t)) := by
        intro hno
        by_cases z : L ≤ 2 * k + 1
        · rw [if_pos z]
          refine ⟨_, CPd.step h1 h2 h3 q1 ht ?_, fun _ => ⟨k + 1, s ||| 2 ^ t, 0, by omega, by omega, hR1, fun u hu => ?_⟩⟩
          · have := CPd.done (R := R_mk (nI (k + 1)) (nI (s ||| 2 ^ t)) (nI 0) (upd (R_order R) k (nI t))) h1 h2
            rw [show R_expectsTable (R_mk (nI (k + 1)) (nI (s ||| 2 ^ t)) (nI 0) (upd (R_order R) k (nI t))) = nI 0 from rfl, if_pos y_z0] at this
            rw [show 2 * k + 1 = L by omega]
            exact this
          · rw [hbits u hu]
            constructor
            · rintro (y | y)
              · exact Or.inl y
              · exact Or.inr ⟨k, Nat.le_refl _, by omega, by rw [htd]; exact y⟩
            · rintro (y | ⟨i, i1, i2, i3⟩)
              · exact Or.inl y
              · rw [show i = k by omega, htd] at i3
                exact Or.inr i3
        · rw [if_neg z]
          obtain ⟨R2, g1, -⟩ := t_gt (d := c (2 * k + 1)) hR1 (h4 _ (by omega))
          rw [if_neg (fun y => hno ⟨by omega, y⟩)] at g1
          exact ⟨R2, CPd.step h1 h2 h3 q1 ht (CPd.fail h1 h2 h3 (by omega) g1), fun y => absurd y (e4_no' _ (by omega))⟩
      by_cases p : s ||| 2 ^ t = 127
      · have hk7 : k + 1 = 7 := by
          have : ymiss 127 127 = 0 := by decide +kernel
          rw [p, this] at hms
          omega
        rw [if_pos (show nI (s ||| 2 ^ t) = (127 : Int32) from by rw [p]; rfl), hend] at f0
        obtain ⟨R', g1, g2⟩ := hfin (fun y => by omega)
        exact ⟨_, 2 * k + 1, R', f0, g1, g2⟩
      · have hpos := ymiss_pos (w := 127) (s := s ||| 2 ^ t) (by rw [show (127 : Nat) = 2 ^ 7 - 1 from rfl, Nat.and_two_pow_sub_one_eq_mod, Nat.mod_eq_of_lt hs1]) (by omega) p
        have tk := x_tk (lo := 62) (hi := 62) hM1 (by omega) (by omega)
        rw [if_neg (show ¬ nI (s ||| 2 ^ t) = (127 : Int32) from fun y => p ((y_Ieq (b := 127) (by omega) (by omega)).mp y)), show (62 : Int32) = nI 62 from rfl, tk] at f0
        by_cases p2 : 2 * k + 1 < L ∧ c (2 * k + 1) = 62
        · rw [if_pos (by omega)] at f0
          simp only [Option.bind_some] at f0
          rw [if_neg (e4_no' (c (2 * k + 1) - 62) (by omega))] at f0
          obtain ⟨R2, g1, g2⟩ := t_gt (d := c (2 * k + 1)) hR1 (h4 _ p2.1)
          rw [if_pos ⟨p2.2, by omega⟩] at g1
          obtain ⟨v, j, R', k1, k2, k3⟩ := ih (k + 1) (s ||| 2 ^ t) (n + 1) (Msp (Msp M (2 * k + 1)) (2 * k + 1 + 1)) R2 (by omega) (by omega) (hM1.sp (by omega)) (g2 ⟨p2.2, by omega⟩)
          refine ⟨v, j, R', f0.trans k1, CPd.step h1 h2 h3 q1 ht (CPd.step h1 h2 h3 p2.1 g1 k2), fun hv => ?_⟩
          obtain ⟨m, s', x, m1, m2, m3, m4⟩ := k3 hv
          refine ⟨m, s', x, by omega, m2, m3, fun u hu => ?_⟩
          rw [m4 u hu, hbits u hu]
          constructor
          · rintro ((y | y) | ⟨i, i1, i2, i3⟩)
            · exact Or.inl y
            · exact Or.inr ⟨k, Nat.le_refl _, by omega, by rw [htd]; exact y⟩
            · exact Or.inr ⟨i, by omega, i2, i3⟩
          · rintro (y | ⟨i, i1, i2, i3⟩)
            · exact Or.inl (Or.inl y)
            · by_cases z : i = k
              · rw [z, htd] at i3
                exact Or.inl (Or.inr i3)
              · exact Or.inr ⟨i, by omega, i2, i3⟩
        · rw [if_neg (by omega), Option.bind_some] at f0
          replace f0 := f0.trans (if_pos rfl)
          obtain ⟨R', g1, g2⟩ := hfin (fun y => p2 ⟨y.1, y.2.1⟩)
          exact ⟨_, 2 * k + 1, R', f0.trans hend, g1, g2⟩
    · refine ⟨nI (2 * k), 2 * k, R, ?_, ?_, fun z => absurd z (e4_no' _ (by omega))⟩
      · rw [f_X9_wrongPlan_L9, if_neg y_z1, hs]
        by_cases q0 : 2 * k < L
        · have hc := h4 _ q0
          rw [if_pos q0, Option.bind_some, y_I2l (by omega), y_d48, y_d54, x_in (by omega) (by omega) (by omega)]
          by_cases q2 : 48 ≤ c (2 * k) ∧ c (2 * k) ≤ 54
          · rw [if_pos q2, Option.bind_some, if_neg y_z1, Option.bind_some, y_c48, y_Isub q2.1]
            have hb : s.testBit (c (2 * k) - 48) = true := by
              cases hh : s.testBit (c (2 * k) - 48)
              · exact absurd ⟨q0, q2.1, q2.2, hh⟩ q
              · rfl
            unfold f_X9_wrongPlan_J41
            rw [if_neg (e4_no' _ (by omega)), if_pos ((y_bit1 (by omega) (by omega)).mpr hb), hM.2.1, hMM]
          · rw [if_neg q2, Option.bind_some, if_pos y_z0]
            unfold f_X9_wrongPlan_J41
            rw [if_pos rfl, hM.2.1, hMM]
        · rw [if_neg q0, Option.bind_some, y_d48, x_inN y_m1n (by omega), Option.bind_some, if_pos y_z0]
          unfold f_X9_wrongPlan_J41
          rw [if_pos rfl, hM.2.1, hMM]
      · by_cases q0 : 2 * k < L
        · exact CPd.fail h1 h2 h3 q0 (t_tabN hR2 (h4 _ q0) (fun z => q ⟨q0, z⟩))
        · have := CPd.done (R := R) h1 h2
          rw [a3, if_neg y_z1] at this
          rw [show 2 * k = L by omega]
          exact this
theorem x_plan {L : Nat} {T : TT} {M : TM} {mt : Nat → Int32} {c : Nat → Nat} (h : TXR T M mt L c) (R : TR) :
    ∃ v j R', f_X6_firstErrorFor_X2 T R = some (v, R') ∧ f_X9_wrongPlan M mt = some (v, Msp M j) ∧ (v = -1 → ∃ m s' x, 0 < m ∧ L + 1 = 2 * m ∧ PS R' c m s' x ∧ ∀ t, t < 7 → (s'.testBit t = true ↔ ∃ i, i < m ∧ c (2 * i) - 48 = t)) := by
  obtain ⟨h1, h2, h3, h4⟩ := h
  obtain ⟨F, hF, hF1⟩ := y_fuel
  have hM : RTX (Msp M 0) mt L c (2 * 0) := ⟨h2, rfl, h3, by omega, fun k hk => ⟨(h4 k hk).2.1, (h4 k hk).2.2⟩⟩
  obtain ⟨v, j, R', e, e1, e2⟩ := x_pl9 (mt := mt) h1 h3 (fun k hk => (h4 k hk).1) (fun k hk => (h4 k hk).2.2) 7 0 0 F (Msp M 0) (R_mk (0 : Int32) (0 : Int32) (1 : Int32) (R_order R)) (by omega) (by omega) hM ⟨rfl, rfl, rfl, by decide +kernel, by omega, fun m hm => by omega⟩
  refine ⟨v, j, R', ?_, ?_, fun hv => ?_⟩
  · unfold f_X6_firstErrorFor_X2
    rw [hF]
    exact e1 F (by omega)
  · unfold f_X9_wrongPlan
    rw [hF]
    exact e
  · obtain ⟨m, s', x, m1, m2, m3, m4⟩ := e2 hv
    refine ⟨m, s', x, m1, m2, m3, fun t ht => ?_⟩
    rw [m4 t ht]
    constructor
    · rintro (y | ⟨i, -, i2, i3⟩)
      · rw [Nat.zero_testBit] at y; exact nomatch y
      · exact ⟨i, i2, i3⟩
    · rintro ⟨i, i2, i3⟩
      exact Or.inr ⟨i, by omega, i2, i3⟩
