def ptl (c : Nat → Nat) (m : Nat) : List Nat := (List.range m).map (fun i => c (2 * i) - 48)
theorem ptl_len (c : Nat → Nat) (m : Nat) : (ptl c m).length = m := by unfold ptl; rw [List.length_map, List.length_range]
theorem ptl_get {c : Nat → Nat} {m i : Nat} (h : i < m) : (ptl c m).getD i 0 = c (2 * i) - 48 := by
  unfold ptl
  rw [List.getD_eq_getElem?_getD, List.getElem?_map, List.getElem?_range h]
  rfl
theorem ptl_mem {c : Nat → Nat} {m t : Nat} : t ∈ ptl c m ↔ ∃ i, i < m ∧ c (2 * i) - 48 = t := by
  unfold ptl
  rw [List.mem_map]
  constructor
  · rintro ⟨i, a, b⟩
    exact ⟨i, List.mem_range.mp a, b⟩
  · rintro ⟨i, a, b⟩
    exact ⟨i, List.mem_range.mpr a, b⟩
theorem y_subset : ∀ n, n ≤ 7 → ∀ s, s < 128 → ((∀ t, t < 7 → s.testBit t = true → t < n) → s < 2 ^ n) := by decide +kernel
theorem cp_rd8 {P : TP} {R : TR} {ρ : Nat → Nat} {k wh : Nat} (hi : INp ρ) (hw : wh < 2 ^ ρ 0) (hp : PWG P ρ k wh) :
    ∀ l i n s acc, l.length < n → R_count R = nI (i + l.length) → i + l.length ≤ 7 → (∀ m, m < l.length → R_order R (i + m) = nI (l.getD m 0)) → (∀ t, t ∈ l → wh.testBit t = true) → s &&& wh = s →
    f_X3_costOfRead_L8 P R n (lN acc) (nI s) (nI i) = some (lN (acc + yC (yst (yrw ρ k) (yrw ρ k) (yz ρ)) s l), ()) := by
  have h7 := y_pow7 _ hi.1
  have h8 := hi.1
  intro l
  induction l with
  | nil =>
    intro i n s acc hn hM h hp2 hin hs
    obtain ⟨n, rfl⟩ : ∃ m, n = m + 1 := ⟨n - 1, by omega⟩
    rw [List.length_nil, Nat.add_zero] at hM h
    rw [f_X3_costOfRead_L8, hM, if_pos (show nI i ≤ nI i from (y_Ile (by omega) (by omega)).mpr (Nat.le_refl _))]
    split <;> rfl
  | cons t l ih =>
    intro i n s acc hn hM h hp2 hin hs
    obtain ⟨n, rfl⟩ : ∃ m, n = m + 1 := ⟨n - 1, by omega⟩
    rw [List.length_cons] at hn hM h
    have htb := hin t List.mem_cons_self
    have ht := y_bitlt hw htb
    have hs1 := y_sub_lt hs hw
    have ho := y_sub_or hs htb
    have ho1 := y_sub_lt ho hw
    have hpl := hp2 0 (by rw [List.length_cons]; omega)
    rw [Nat.add_zero] at hpl
    have hpl : R_order R i = nI t := hpl
    have hta : f_X2_tableAt R (nI i) = some (nI t, ()) := by simp (disch := omega) only [y_c0, y_c1, y_c10, y_c100, y_c1000, y_c10000, y_c100000, y_c106, y_c112, y_c116, y_c127, y_c128, y_c13, y_c14, y_c155, y_c2, y_c20, y_c200, y_c204, y_c21, y_c253, y_c255, y_c3, y_c30, y_c302, y_c303, y_c304, y_c305, y_c306, y_c307, y_c308, y_c309, y_c310, y_c311, y_c312, y_c313, y_c314, y_c315, y_c316, y_c32, y_c33, y_c353, y_c39, y_c4, y_c40, y_c44, y_c4589, y_c48, y_c49, y_c5, y_c512, y_c54, y_c57, y_c59, y_c6, y_c62, y_c64, y_c7, y_c8, y_c9, y_c99, y_c9999, y_d0, y_d1, y_d10, y_d100, y_d1000000, y_d1442695040888963407, y_d2, y_d20, y_d255, y_d3, y_d4, y_d40, y_d4294967295, y_d48, y_d5, y_d50, y_d54, y_d57, y_d6364136223846793005, y_d7, y_d9, y_d9999, y_dR, y_dS, y_dk, y_nar0, y_nar1, y_Ilt, y_Ile, y_Ieq, y_Iadd, y_Imul, y_Idiv, y_Llt, y_Lle, y_Leq, y_Ladd, y_Lmul, y_Ldiv, y_I2l, y_L2i, y_shn, y_or, y_and, y_bn1, y_bn0, y_inb, y_cl, y_gle, y_gge, y_ggt, y_glt, y_geq, if_pos, if_neg, if_true, if_false, Option.bind_some, f_X2_tableAt, c_isIn, hM, hpl]
    have b1 := yrw_bd hi k hs1
    have b2 := yrw_bd hi k ho1
    have b3 := hi.2.1 t ht
    have hwa := cp_way (P := P) (show s < 128 by omega) (show t < 7 by omega) (hp.2.2 s (by omega) hs) (hp.2.1 t ht) b1.2 b3.2
    have hst := cp_step (P := P) (w := if 3 * (yrw ρ k s + yz ρ t) < yrw ρ k s * yz ρ t then 1 else 0) (show s < 128 by omega) (show t < 7 by omega) (by omega) (hp.2.2 s (by omega) hs) (hp.2.1 t ht) (hp.2.2 _ (by omega) ho) b1.2 b3.2 b2.2 (by split <;> omega)
    rw [show ρ (1 + t) = yz ρ t from rfl] at hwa
    rw [show ρ (1 + t) = yz ρ t from rfl, yst_w (RC := yrw ρ k) (RP := yrw ρ k)] at hst
    have e := ih (i + 1) n (s ||| 2 ^ t) (acc + yst (yrw ρ k) (yrw ρ k) (yz ρ) s t) (by omega) (by rw [hM]; congr 1; omega) (by omega) (fun m hm => by
      have := hp2 (m + 1) (by rw [List.length_cons]; omega)
      rw [show i + 1 + m = i + (m + 1) by omega]
      exact this) (fun t' ht' => hin t' (List.mem_cons_of_mem _ ht')) ho
    rw [yC, ← Nat.add_assoc]
    rw [f_X3_costOfRead_L8, hta, hM]
    simp (disch := omega) only [y_c0, y_c1, y_c10, y_c100, y_c1000, y_c10000, y_c100000, y_c106, y_c112, y_c116, y_c127, y_c128, y_c13, y_c14, y_c155, y_c2, y_c20, y_c200, y_c204, y_c21, y_c253, y_c255, y_c3, y_c30, y_c302, y_c303, y_c304, y_c305, y_c306, y_c307, y_c308, y_c309, y_c310, y_c311, y_c312, y_c313, y_c314, y_c315, y_c316, y_c32, y_c33, y_c353, y_c39, y_c4, y_c40, y_c44, y_c4589, y_c48, y_c49, y_c5, y_c512, y_c54, y_c57, y_c59, y_c6, y_c62, y_c64, y_c7, y_c8, y_c9, y_c99, y_c9999, y_d0, y_d1, y_d10, y_d100, y_d1000000, y_d1442695040888963407, y_d2, y_d20, y_d255, y_d3, y_d4, y_d40, y_d4294967295, y_d48, y_d5, y_d50, y_d54, y_d57, y_d6364136223846793005, y_d7, y_d9, y_d9999, y_dR, y_dS, y_dk, y_nar0, y_nar1, y_Ilt, y_Ile, y_Ieq, y_Iadd, y_Imul, y_Idiv, y_Llt, y_Lle, y_Leq, y_Ladd, y_Lmul, y_Ldiv, y_I2l, y_L2i, y_shn, y_or, y_and, y_bn1, y_bn0, y_inb, y_cl, y_gle, y_gge, y_ggt, y_glt, y_geq, if_pos, if_neg, if_true, if_false, Option.bind_some, hwa, hst]
    exact e
theorem x_lt19 {mt : Nat → Int32} {now : Nat → Int64} {ρ : Nat → Nat} {L m : Nat} {c : Nat → Nat} (hr : RRp now ρ) (h7 : ρ 0 ≤ 7) (hL : L + 1 = 2 * m) (hm : m ≤ 7) (hc : ∀ i, i < m → mt (2 * i) = nI (c (2 * i)) ∧ 48 ≤ c (2 * i) ∧ c (2 * i) ≤ 54) :
    ∀ rr i n b (M : TM) (pl : Nat → Int32), i + rr = m → rr < n → b ≤ 1 → M_size M = nI L → M_planned M = nI i →
    ∃ b' pl', f_X9_layText_L19 mt now n (nI b) (nI (2 * i)) M pl = some (nI b', (Mpl M (nI m), pl')) ∧ b' ≤ 1 ∧ (b' = 1 ↔ b = 1 ∧ ∀ j, i ≤ j → j < m → c (2 * j) - 48 < ρ 0) ∧ (∀ j, i ≤ j → j < m → pl' j = nI (c (2 * j) - 48)) ∧ ∀ j, j < i → pl' j = pl j := by
  intro rr
  induction rr with
  | zero =>
    intro i n b M pl hi hn hb hs hp
    obtain ⟨n, rfl⟩ : ∃ m, n = m + 1 := ⟨n - 1, by omega⟩
    refine ⟨b, pl, ?_, hb, ⟨fun z => ⟨z, fun j a b => by omega⟩, fun z => z.1⟩, fun j a b => by omega, fun _ _ => rfl⟩
    rw [f_X9_layText_L19, hs, if_pos ((y_Ile (by omega) (by omega)).mpr (by omega))]
    have hbb : b = 0 ∨ b = 1 := by omega
    have hM : Mpl M (nI m) = M := by unfold Mpl; rw [show m = i by omega, ← hp]; rfl
    rw [hM]
    rcases hbb with hbb | hbb <;> subst hbb <;> exact if_pos rfl
  | succ rr ih =>
    intro i n b M pl hi hn hb hs hp
    obtain ⟨n, rfl⟩ : ∃ m, n = m + 1 := ⟨n - 1, by omega⟩
    obtain ⟨c1, c2, c3⟩ := hc i (by omega)
    have hx : mt (nI (2 * i)).toNatClampNeg - (48 : Int32) = nI (c (2 * i) - 48) := by
      rw [y_cl (by omega), c1, y_c48, y_Isub c2]
    have hgo : ∀ b1, b1 ≤ 1 → (b1 = 1 ↔ b = 1 ∧ c (2 * i) - 48 < ρ 0) → f_X9_layText_L19 mt now (n + 1) (nI b) (nI (2 * i)) M pl = f_X9_layText_L19 mt now n (nI b1) (nI (2 * (i + 1))) (Mpl M (nI (i + 1))) (upd pl i (nI (c (2 * i) - 48))) → ∃ b' pl', f_X9_layText_L19 mt now (n + 1) (nI b) (nI (2 * i)) M pl = some (nI b', (Mpl M (nI m), pl')) ∧ b' ≤ 1 ∧ (b' = 1 ↔ b = 1 ∧ ∀ j, i ≤ j → j < m → c (2 * j) - 48 < ρ 0) ∧ (∀ j, i ≤ j → j < m → pl' j = nI (c (2 * j) - 48)) ∧ ∀ j, j < i → pl' j = pl j := by
      intro b1 hb1 hb2 he
      obtain ⟨b', pl', f, f1, f2, f3, f4⟩ := ih (i + 1) n b1 (Mpl M (nI (i + 1))) (upd pl i (nI (c (2 * i) - 48))) (by omega) (by omega) hb1 hs rfl
      refine ⟨b', pl', he.trans f, f1, ?_, ?_, ?_⟩
      · rw [f2, hb2]
        constructor
        · rintro ⟨⟨y1, y2⟩, y3⟩
          refine ⟨y1, fun j j1 j2 => ?_⟩
          by_cases z : j = i
          · rw [z]; exact y2
          · exact y3 j (by omega) j2
        · rintro ⟨y1, y2⟩
          exact ⟨⟨y1, y2 i (Nat.le_refl _) (by omega)⟩, fun j j1 j2 => y2 j (by omega) j2⟩
      · intro j j1 j2
        by_cases z : j = i
        · rw [f4 j (by omega), y_ve z, z]
        · exact f3 j (by omega) j2
      · intro j j1
        rw [f4 j (by omega), y_vn (by omega)]
    have hbb : b = 0 ∨ b = 1 := by omega
    have ht := x_isT hr h7 (j := c (2 * i) - 48) (by omega)
    have h2 : 2 * i + 2 = 2 * (i + 1) := by omega
    rcases hbb with hbb | hbb
    · subst hbb
      refine hgo 0 (by omega) (by omega) ?_
      rw [f_X9_layText_L19, hs, hx, hp]
      unfold f_X9_layText_J72 f_X9_layText_J73
      rw [hp]
      simp (disch := omega) only [y_c0, y_c1, y_c10, y_c100, y_c1000, y_c10000, y_c100000, y_c106, y_c112, y_c116, y_c127, y_c128, y_c13, y_c14, y_c155, y_c2, y_c20, y_c200, y_c204, y_c21, y_c253, y_c255, y_c3, y_c30, y_c302, y_c303, y_c304, y_c305, y_c306, y_c307, y_c308, y_c309, y_c310, y_c311, y_c312, y_c313, y_c314, y_c315, y_c316, y_c32, y_c33, y_c353, y_c39, y_c4, y_c40, y_c44, y_c4589, y_c48, y_c49, y_c5, y_c512, y_c54, y_c57, y_c59, y_c6, y_c62, y_c64, y_c7, y_c8, y_c9, y_c99, y_c9999, y_d0, y_d1, y_d10, y_d100, y_d1000000, y_d1442695040888963407, y_d2, y_d20, y_d255, y_d3, y_d4, y_d40, y_d4294967295, y_d48, y_d5, y_d50, y_d54, y_d57, y_d6364136223846793005, y_d7, y_d9, y_d9999, y_dR, y_dS, y_dk, y_nar0, y_nar1, y_Ilt, y_Ile, y_Ieq, y_Iadd, y_Imul, y_Idiv, y_Llt, y_Lle, y_Leq, y_Ladd, y_Lmul, y_Ldiv, y_I2l, y_L2i, y_shn, y_or, y_and, y_bn1, y_bn0, y_inb, y_cl, y_gle, y_gge, y_ggt, y_glt, y_geq, if_pos, if_neg, if_true, if_false, Option.bind_some, h2]
      rfl
    · subst hbb
      by_cases q : c (2 * i) - 48 < ρ 0
      · rw [if_pos q] at ht
        refine hgo 1 (by omega) (by omega) ?_
        rw [f_X9_layText_L19, hs, hx, hp]
        unfold f_X9_layText_J72 f_X9_layText_J73
        rw [hp]
        simp (disch := omega) only [y_c0, y_c1, y_c10, y_c100, y_c1000, y_c10000, y_c100000, y_c106, y_c112, y_c116, y_c127, y_c128, y_c13, y_c14, y_c155, y_c2, y_c20, y_c200, y_c204, y_c21, y_c253, y_c255, y_c3, y_c30, y_c302, y_c303, y_c304, y_c305, y_c306, y_c307, y_c308, y_c309, y_c310, y_c311, y_c312, y_c313, y_c314, y_c315, y_c316, y_c32, y_c33, y_c353, y_c39, y_c4, y_c40, y_c44, y_c4589, y_c48, y_c49, y_c5, y_c512, y_c54, y_c57, y_c59, y_c6, y_c62, y_c64, y_c7, y_c8, y_c9, y_c99, y_c9999, y_d0, y_d1, y_d10, y_d100, y_d1000000, y_d1442695040888963407, y_d2, y_d20, y_d255, y_d3, y_d4, y_d40, y_d4294967295, y_d48, y_d5, y_d50, y_d54, y_d57, y_d6364136223846793005, y_d7, y_d9, y_d9999, y_dR, y_dS, y_dk, y_nar0, y_nar1, y_Ilt, y_Ile, y_Ieq, y_Iadd, y_Imul, y_Idiv, y_Llt, y_Lle, y_Leq, y_Ladd, y_Lmul, y_Ldiv, y_I2l, y_L2i, y_shn, y_or, y_and, y_bn1, y_bn0, y_inb, y_cl, y_gle, y_gge, y_ggt, y_glt, y_geq, if_pos, if_neg, if_true, if_false, Option.bind_some, h2, y_ve, ht]
        rfl
      · rw [if_neg q] at ht
        refine hgo 0 (by omega) (by omega) ?_
        rw [f_X9_layText_L19, hs, hx, hp]
        unfold f_X9_layText_J72 f_X9_layText_J73
        rw [hp]
        simp (disch := omega) only [y_c0, y_c1, y_c10, y_c100, y_c1000, y_c10000, y_c100000, y_c106, y_c112, y_c116, y_c127, y_c128, y_c13, y_c14, y_c155, y_c2, y_c20, y_c200, y_c204, y_c21, y_c253, y_c255, y_c3, y_c30, y_c302, y_c303, y_c304, y_c305, y_c306, y_c307, y_c308, y_c309, y_c310, y_c311, y_c312, y_c313, y_c314, y_c315, y_c316, y_c32, y_c33, y_c353, y_c39, y_c4, y_c40, y_c44, y_c4589, y_c48, y_c49, y_c5, y_c512, y_c54, y_c57, y_c59, y_c6, y_c62, y_c64, y_c7, y_c8, y_c9, y_c99, y_c9999, y_d0, y_d1, y_d10, y_d100, y_d1000000, y_d1442695040888963407, y_d2, y_d20, y_d255, y_d3, y_d4, y_d40, y_d4294967295, y_d48, y_d5, y_d50, y_d54, y_d57, y_d6364136223846793005, y_d7, y_d9, y_d9999, y_dR, y_dS, y_dk, y_nar0, y_nar1, y_Ilt, y_Ile, y_Ieq, y_Iadd, y_Imul, y_Idiv, y_Llt, y_Lle, y_Leq, y_Ladd, y_Lmul, y_Ldiv, y_I2l, y_L2i, y_shn, y_or, y_and, y_bn1, y_bn0, y_inb, y_cl, y_gle, y_gge, y_ggt, y_glt, y_geq, if_pos, if_neg, if_true, if_false, Option.bind_some, h2, y_ve, ht]
        rfl
def SM (M' M : TM) : Prop := M_refusal M' = M_refusal M ∧ M_size M' = M_size M ∧ M_acts M' = M_acts M
theorem x_layText {L : Nat} {T : TT} {M : TM} {mt : Nat → Int32} {c : Nat → Nat} {now : Nat → Int64} {ρ : Nat → Nat} (h : TXR T M mt L c) (hr : RRp now ρ) (h7 : ρ 0 ≤ 7) (R : TR) (pl : Nat → Int32) :
    ∃ v R' b M' pl', f_X6_firstErrorFor_X2 T R = some (v, R') ∧ f_X9_layText M mt now pl = some (nI b, (M', pl')) ∧ SM M' M ∧ b ≤ 1 ∧
      (b = 0 → ¬ v = -1 ∨ (v = -1 ∧ ∃ s, R_seen R' = nI s ∧ s < 128 ∧ ¬ s < 2 ^ ρ 0)) ∧
      (b = 1 → v = -1 ∧ ∃ s l, R_seen R' = nI s ∧ s < 2 ^ ρ 0 ∧ l.length ≤ 7 ∧ R_count R' = nI l.length ∧ (∀ i, i < l.length → R_order R' i = nI (l.getD i 0)) ∧ (∀ t, t ∈ l → s.testBit t = true) ∧ XP M' pl' l) := by
  obtain ⟨v, j, R', e, e1, e2⟩ := x_plan (M := Mpl M (nI 0)) h R
  obtain ⟨F, hF, hF1⟩ := y_fuel
  have f0 : f_X9_layText M mt now pl = (if v = (-1 : Int32) then (f_X9_layText_L19 mt now F (1 : Int32) (0 : Int32) (Msp (Mpl M (nI 0)) j) pl) else (some ((0 : Int32), (Msp (Mpl M (nI 0)) j, pl)))) := by
    unfold f_X9_layText
    rw [show M_mk (M_refusal M) (M_size M) (M_acts M) (0 : Int32) (M_spot M) (M_out M) = Mpl M (nI 0) from rfl, e1, Option.bind_some, hF]
  by_cases hv : v = -1
  · obtain ⟨m, s, x, m1, m2, ⟨p1, p2, p3, p4, p5, p6⟩, m4⟩ := e2 hv
    have hm7 : m ≤ 7 := by omega
    obtain ⟨b, pl', f, f1, f2, f3, -⟩ := x_lt19 (mt := mt) (now := now) (c := c) hr h7 m2 hm7 (fun i hi => ⟨(h.2.2.2 (2 * i) (by omega)).2.1, (p6 i hi).2⟩) m 0 F 1 (Msp (Mpl M (nI 0)) j) pl (by omega) (by omega) (by omega) h.2.1 rfl
    rw [if_pos hv] at f0
    refine ⟨v, R', b, _, pl', e, f0.trans f, ⟨rfl, rfl, rfl⟩, f1, fun z => Or.inr ⟨hv, s, p2, p5, fun y => ?_⟩, fun z => ⟨hv, s, ptl c m, p2, ?_, ?_, ?_, ?_, ?_, ?_, ?_⟩⟩
    · have : b = 1 := f2.mpr ⟨rfl, fun i _ i2 => by
        have hq := (p6 i i2).2
        exact y_bitlt y ((m4 (c (2 * i) - 48) (by omega)).mpr ⟨i, i2, rfl⟩)⟩
      omega
    · refine y_subset _ h7 s p5 (fun t ht hb => ?_)
      obtain ⟨i, i1, i2⟩ := (m4 t ht).mp hb
      rw [← i2]
      exact (f2.mp z).2 i (Nat.zero_le _) i1
    · rw [ptl_len]; exact hm7
    · rw [ptl_len]; exact p1
    · intro i hi
      rw [ptl_len] at hi
      rw [ptl_get hi]
      exact (p6 i hi).1
    · intro t ht
      obtain ⟨i, i1, i2⟩ := ptl_mem.mp ht
      have hq := (p6 i i1).2
      exact (m4 t (by omega)).mpr ⟨i, i1, i2⟩
    · rw [ptl_len]; rfl
    · intro i hi
      rw [ptl_len] at hi
      rw [ptl_get hi]
      exact f3 i (Nat.zero_le _) hi
  · rw [if_neg hv] at f0
    exact ⟨v, R', 0, _, pl, e, f0, ⟨rfl, rfl, rfl⟩, by omega, fun _ => Or.inl hv, fun z => by omega⟩
