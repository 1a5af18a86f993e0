theorem cp_tab {P : TP} {L M : List Nat} (h : PL P 0 L M) (hL : L.length ≤ 7) {j : Nat} (hj : j < 2147483648) : f_X3_tableAt P (nI j) = some (if j < L.length then nI (L.getD j 0) else -1, ()) := by
  obtain ⟨h1, h2⟩ := h
  rw [Nat.zero_add] at h1
  by_cases q : j < L.length
  · have h3 := (h2 j q).1
    rw [Nat.zero_add] at h3
    simp (disch := omega) only [y_c0, y_c1, y_c10, y_c106, y_c128, y_c13, y_c14, y_c155, y_c2, y_c20, y_c204, y_c21, y_c253, y_c3, y_c353, y_c4, y_c40, y_c49, y_c57, y_c6, y_c7, y_c8, y_d0, y_d1, y_d10, y_d3, y_d7, y_dR, y_dS, y_dk, y_Ilt, y_Ile, y_Ieq, y_Iadd, y_Imul, y_Idiv, y_Llt, y_Lle, y_Leq, y_Ladd, y_Lmul, y_Ldiv, y_I2l, y_L2i, y_shn, y_or, y_and, y_bn1, y_bn0, y_inb, y_cl, y_gle, y_gge, y_ggt, y_glt, y_geq, if_pos, if_neg, if_true, if_false, Option.bind_some, f_X3_tableAt, h1, h3]
  · simp (disch := omega) only [y_c0, y_c1, y_c10, y_c106, y_c128, y_c13, y_c14, y_c155, y_c2, y_c20, y_c204, y_c21, y_c253, y_c3, y_c353, y_c4, y_c40, y_c49, y_c57, y_c6, y_c7, y_c8, y_d0, y_d1, y_d10, y_d3, y_d7, y_dR, y_dS, y_dk, y_Ilt, y_Ile, y_Ieq, y_Iadd, y_Imul, y_Idiv, y_Llt, y_Lle, y_Leq, y_Ladd, y_Lmul, y_Ldiv, y_I2l, y_L2i, y_shn, y_or, y_and, y_bn1, y_bn0, y_inb, y_cl, y_gle, y_gge, y_ggt, y_glt, y_geq, if_pos, if_neg, if_true, if_false, Option.bind_some, f_X3_tableAt, h1]
theorem cp_wayat {P : TP} {L M : List Nat} (h : PL P 0 L M) (hL : L.length ≤ 7) {j : Nat} (hj : j < 2147483648) : f_X3_wayAt P (nI j) = some (if j < L.length then nI (M.getD j 0) else -1, ()) := by
  obtain ⟨h1, h2⟩ := h
  rw [Nat.zero_add] at h1
  by_cases q : j < L.length
  · have h3 := (h2 j q).2
    rw [Nat.zero_add] at h3
    simp (disch := omega) only [y_c0, y_c1, y_c10, y_c106, y_c128, y_c13, y_c14, y_c155, y_c2, y_c20, y_c204, y_c21, y_c253, y_c3, y_c353, y_c4, y_c40, y_c49, y_c57, y_c6, y_c7, y_c8, y_d0, y_d1, y_d10, y_d3, y_d7, y_dR, y_dS, y_dk, y_Ilt, y_Ile, y_Ieq, y_Iadd, y_Imul, y_Idiv, y_Llt, y_Lle, y_Leq, y_Ladd, y_Lmul, y_Ldiv, y_I2l, y_L2i, y_shn, y_or, y_and, y_bn1, y_bn0, y_inb, y_cl, y_gle, y_gge, y_ggt, y_glt, y_geq, if_pos, if_neg, if_true, if_false, Option.bind_some, f_X3_wayAt, h1, h3]
  · simp (disch := omega) only [y_c0, y_c1, y_c10, y_c106, y_c128, y_c13, y_c14, y_c155, y_c2, y_c20, y_c204, y_c21, y_c253, y_c3, y_c353, y_c4, y_c40, y_c49, y_c57, y_c6, y_c7, y_c8, y_d0, y_d1, y_d10, y_d3, y_d7, y_dR, y_dS, y_dk, y_Ilt, y_Ile, y_Ieq, y_Iadd, y_Imul, y_Idiv, y_Llt, y_Lle, y_Leq, y_Ladd, y_Lmul, y_Ldiv, y_I2l, y_L2i, y_shn, y_or, y_and, y_bn1, y_bn0, y_inb, y_cl, y_gle, y_gge, y_ggt, y_glt, y_geq, if_pos, if_neg, if_true, if_false, Option.bind_some, f_X3_wayAt, h1]
theorem cp_least (P : TP) : f_X3_leastCost P = some (P_restOf P 0, ()) := rfl
theorem yst_w {RC RP z : Nat → Nat} {s t : Nat} : (if s = 0 then 0 else min 1000000000000000 ((if (if 3 * (RC s + z t) < RC s * z t then 1 else 0) = 0 then RP s * z t else 3 * (RP s + z t)) + RP (s ||| 2 ^ t))) = yst RC RP z s t := by
  unfold yst
  by_cases h0 : s = 0
  · rw [if_pos h0, if_pos h0]
  rw [if_neg h0, if_neg h0]
  by_cases h1 : 3 * (RC s + z t) < RC s * z t
  · rw [if_pos h1, if_pos h1, if_neg (by omega)]
  · rw [if_neg h1, if_neg h1, if_pos rfl]
theorem cp_by8 {P1 P2 : TP} {ρ : Nat → Nat} {k1 k2 wh : Nat} (hi : INp ρ) (hw : wh < 2 ^ ρ 0) (hp : PWG P2 ρ k2 wh) :
    ∀ l i n s acc, l.length < n → P_count P1 = nI (i + l.length) → i + l.length ≤ 7 → (∀ m, m < l.length → P_tableAt P1 (i + m) = nI (l.getD m 0) ∧ P_wayAt P1 (i + m) = nI ((yW ρ k1 s l).getD m 0)) → (∀ t, t ∈ l → wh.testBit t = true) → s &&& wh = s →
    f_X3_costAsPlannedBy_L8 P2 P1 n (lN acc) (nI s) (nI i) = some (lN (acc + yC (yst (yrw ρ k1) (yrw ρ k2) (yz ρ)) s l), ()) := by
  have h7 := y_pow7 _ hi.1
  have h8 := hi.1
  intro l
  induction l with
  | nil =>
    intro i n s acc hn hM h hp2 hin hs
    obtain ⟨n, rfl⟩ : ∃ m, n = m + 1 := ⟨n - 1, by omega⟩
    rw [List.length_nil, Nat.add_zero] at hM h
    rw [f_X3_costAsPlannedBy_L8, hM, if_pos (show nI i ≤ nI i from (y_Ile (by omega) (by omega)).mpr (Nat.le_refl _))]
    split <;> rfl
  | cons t l ih =>
    intro i n s acc hn hM h hp2 hin hs
    obtain ⟨n, rfl⟩ : ∃ m, n = m + 1 := ⟨n - 1, by omega⟩
    rw [List.length_cons] at hn hM h
    have htb := hin t List.mem_cons_self
    have ht := y_bitlt hw htb
    have hs1 := y_sub_lt hs hw
    have ho := y_sub_or hs htb
    have ho1 := y_sub_lt ho hw
    obtain ⟨hpl, hwy⟩ := hp2 0 (by rw [List.length_cons]; omega)
    rw [Nat.add_zero] at hpl hwy
    have hpl : P_tableAt P1 i = nI t := hpl
    have hwy : P_wayAt P1 i = nI (if 3 * (yrw ρ k1 s + yz ρ t) < yrw ρ k1 s * yz ρ t then 1 else 0) := hwy
    have hta : f_X3_tableAt P1 (nI i) = some (nI t, ()) := by simp (disch := omega) only [y_c0, y_c1, y_c10, y_c106, y_c128, y_c13, y_c14, y_c155, y_c2, y_c20, y_c204, y_c21, y_c253, y_c3, y_c353, y_c4, y_c40, y_c49, y_c57, y_c6, y_c7, y_c8, y_d0, y_d1, y_d10, y_d3, y_d7, y_dR, y_dS, y_dk, y_Ilt, y_Ile, y_Ieq, y_Iadd, y_Imul, y_Idiv, y_Llt, y_Lle, y_Leq, y_Ladd, y_Lmul, y_Ldiv, y_I2l, y_L2i, y_shn, y_or, y_and, y_bn1, y_bn0, y_inb, y_cl, y_gle, y_gge, y_ggt, y_glt, y_geq, if_pos, if_neg, if_true, if_false, Option.bind_some, f_X3_tableAt, hM, hpl]
    have hwa : f_X3_wayAt P1 (nI i) = some (nI (if 3 * (yrw ρ k1 s + yz ρ t) < yrw ρ k1 s * yz ρ t then 1 else 0), ()) := by simp (disch := omega) only [y_c0, y_c1, y_c10, y_c106, y_c128, y_c13, y_c14, y_c155, y_c2, y_c20, y_c204, y_c21, y_c253, y_c3, y_c353, y_c4, y_c40, y_c49, y_c57, y_c6, y_c7, y_c8, y_d0, y_d1, y_d10, y_d3, y_d7, y_dR, y_dS, y_dk, y_Ilt, y_Ile, y_Ieq, y_Iadd, y_Imul, y_Idiv, y_Llt, y_Lle, y_Leq, y_Ladd, y_Lmul, y_Ldiv, y_I2l, y_L2i, y_shn, y_or, y_and, y_bn1, y_bn0, y_inb, y_cl, y_gle, y_gge, y_ggt, y_glt, y_geq, if_pos, if_neg, if_true, if_false, Option.bind_some, f_X3_wayAt, hM, hwy]
    have b1 := yrw_bd hi k2 hs1
    have b2 := yrw_bd hi k2 ho1
    have b3 := hi.2.1 t ht
    have hst := cp_step (P := P2) (w := if 3 * (yrw ρ k1 s + yz ρ t) < yrw ρ k1 s * yz ρ t then 1 else 0) (show s < 128 by omega) (show t < 7 by omega) (by omega) (hp.2.2 s (by omega) hs) (hp.2.1 t ht) (hp.2.2 _ (by omega) ho) b1.2 b3.2 b2.2 (by split <;> omega)
    rw [show ρ (1 + t) = yz ρ t from rfl, yst_w (RC := yrw ρ k1) (RP := yrw ρ k2)] at hst
    have e := ih (i + 1) n (s ||| 2 ^ t) (acc + yst (yrw ρ k1) (yrw ρ k2) (yz ρ) s t) (by omega) (by rw [hM]; congr 1; omega) (by omega) (fun m hm => by
      have := hp2 (m + 1) (by rw [List.length_cons]; omega)
      rw [show i + 1 + m = i + (m + 1) by omega]
      exact this) (fun t' ht' => hin t' (List.mem_cons_of_mem _ ht')) ho
    rw [yC, ← Nat.add_assoc]
    rw [f_X3_costAsPlannedBy_L8, hta, hwa, hM]
    simp (disch := omega) only [y_c0, y_c1, y_c10, y_c106, y_c128, y_c13, y_c14, y_c155, y_c2, y_c20, y_c204, y_c21, y_c253, y_c3, y_c353, y_c4, y_c40, y_c49, y_c57, y_c6, y_c7, y_c8, y_d0, y_d1, y_d10, y_d3, y_d7, y_dR, y_dS, y_dk, y_Ilt, y_Ile, y_Ieq, y_Iadd, y_Imul, y_Idiv, y_Llt, y_Lle, y_Leq, y_Ladd, y_Lmul, y_Ldiv, y_I2l, y_L2i, y_shn, y_or, y_and, y_bn1, y_bn0, y_inb, y_cl, y_gle, y_gge, y_ggt, y_glt, y_geq, if_pos, if_neg, if_true, if_false, Option.bind_some, hst]
    exact e
/-- a planner that has chosen by a kind -/
def PCH (P : TP) (ρ : Nat → Nat) (k wh : Nat) : Prop := PWG P ρ k wh ∧ P_restOf P 0 = lN (yD (yst1 ρ k) wh 0) ∧ PL P 0 (yPl ρ k wh) (yW ρ k 0 (yPl ρ k wh))
theorem cp_chooseP {P : TP} {w : TW} {ρ : Nat → Nat} {k wh : Nat} (hw : WRp w ρ) (hi : INp ρ) (hk : k ≤ 2) (hwh : wh < 2 ^ ρ 0) : ∃ P', f_X3_choose P w (nI wh) (nI k) = some ((), P') ∧ PCH P' ρ k wh := by
  obtain ⟨P', a1, a2, a3, a4⟩ := cw_choose (P := P) hw hi hk hwh
  exact ⟨P', a1, a2, a3, a4⟩
theorem cp_by {P1 P2 : TP} {ρ : Nat → Nat} {k1 k2 wh : Nat} (hi : INp ρ) (hw : wh < 2 ^ ρ 0) (h1 : PCH P1 ρ k1 wh) (hp : PWG P2 ρ k2 wh) : f_X3_costAsPlannedBy P2 P1 = some (lN (yTr ρ k1 k2 wh), ()) := by
  have hl := yP_len (st := yst1 ρ k1) (w := wh) 7 0
  obtain ⟨c1, c2⟩ := h1.2.2
  have e := cp_by8 (P1 := P1) (P2 := P2) (k1 := k1) hi hw hp (yPl ρ k1 wh) 0 FUEL 0 0 (by have : (yPl ρ k1 wh).length ≤ 7 := hl; unfold FUEL; omega) c1 (by rw [Nat.zero_add]; exact hl) c2 (fun t ht => (yP_in 7 0 t ht).2) (Nat.zero_and _)
  rw [Nat.zero_add] at e
  exact e
theorem yP_cnt {st : Nat → Nat → Nat} {w : Nat} (hw : w < 128) : ∀ rr s, ymiss w s ≤ rr → s &&& w = s → (yP st w rr s).length = ymiss w s := by
  intro rr
  induction rr with
  | zero => intro s h hs; rw [yP]; exact (Nat.le_zero.mp h).symm
  | succ rr ih =>
    intro s h hs
    by_cases e : s = w
    · rw [yP, e, yFd_whole]
      rcases Nat.eq_zero_or_pos (ymiss w w) with q | q
      · exact q.symm
      · obtain ⟨i, hi, hp⟩ := fb_ct_pos.mp q
        have := ycd_s hp
        rw [this.1] at this
        exact nomatch this.2
    · obtain ⟨x, b1, b2, b3, -⟩ := yFd_some (st := st) hs hw e
      have hms := ymiss_step b2 b3
      rw [yP, b1]
      show (x :: yP st w rr (s ||| 2 ^ x)).length = _
      rw [List.length_cons, ih (s ||| 2 ^ x) (by omega) (y_sub_or hs (ycd_s b3).1)]
      exact hms
theorem yPl_cnt (ρ : Nat → Nat) (k : Nat) {wh : Nat} (hw : wh < 128) : (yPl ρ k wh).length = ymiss wh 0 := yP_cnt hw 7 0 (ymiss_le _ _) (Nat.zero_and _)
theorem y_getD {L : List Nat} {i : Nat} (h : i < L.length) : L.getD i 0 = L[i] := by
  rw [List.getD_eq_getElem?_getD, List.getElem?_eq_getElem h]; rfl
theorem cp_ord {P1 P2 : TP} {L1 L2 M1 M2 : List Nat} (h1 : PL P1 0 L1 M1) (h2 : PL P2 0 L2 M2) (hL1 : L1.length ≤ 7) (hL2 : L1.length = L2.length) (g1 : ∀ t, t ∈ L1 → t < 7) (g2 : ∀ t, t ∈ L2 → t < 7) :
    ∀ rr j n, j + rr = 7 → rr < n → (∀ i, i < j → i < L1.length → L1.getD i 0 = L2.getD i 0) → f_X3_hasOrderOf_L2 P1 P2 n (nI j) = some (if L1 = L2 then 1 else 0, ()) := by
  intro rr
  induction rr with
  | zero =>
    intro j n hj hn he
    obtain ⟨n, rfl⟩ : ∃ m, n = m + 1 := ⟨n - 1, by omega⟩
    have e : L1 = L2 := by
      apply List.ext_getElem hL2
      intro i q1 q2
      have := he i (by omega) q1
      rw [y_getD q1, y_getD q2] at this
      exact this
    rw [f_X3_hasOrderOf_L2, show j = 7 by omega, if_pos e]
    exact if_pos (by decide)
  | succ rr ih =>
    intro j n hj hn he
    obtain ⟨n, rfl⟩ : ∃ m, n = m + 1 := ⟨n - 1, by omega⟩
    rw [f_X3_hasOrderOf_L2, cp_tab h1 hL1 (show j < 2147483648 by omega), cp_tab h2 (by omega) (show j < 2147483648 by omega), ← hL2, if_neg (show ¬ (7 : Int32) ≤ nI j by rw [y_c7, y_Ile (by omega) (by omega)]; omega), Option.bind_some, Option.bind_some, show nI j + (1 : Int32) = nI (j + 1) from nI_1 j]
    by_cases q : j < L1.length
    · have m1 := g1 _ (List.getElem_mem q)
      have m2 := g2 _ (List.getElem_mem (show j < L2.length by omega))
      rw [← y_getD] at m1 m2
      rw [if_pos q, if_pos q]
      by_cases e : L1.getD j 0 = L2.getD j 0
      · rw [if_pos (by rw [e])]
        exact ih (j + 1) n (by omega) (by omega) (fun i z1 z2 => by
          rcases Nat.lt_or_ge i j with z | z
          · exact he i z z2
          · rw [show i = j by omega]; exact e)
      · rw [if_neg (show ¬ nI (L1.getD j 0) = nI (L2.getD j 0) by rw [y_Ieq (by omega) (by omega)]; exact e), if_neg (fun z => e (by rw [z]))]
    · rw [if_neg q, if_neg q, if_pos rfl]
      exact ih (j + 1) n (by omega) (by omega) (fun i z1 z2 => he i (by omega) z2)
