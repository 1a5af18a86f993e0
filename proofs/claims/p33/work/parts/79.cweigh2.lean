theorem cw_13 {w : TW} {x3 : Int32} {K : TP → Option (Unit × TP)} : ∀ r j n P, j + r = 7 → r < n → ∃ P', f_X3_weigh_L13 w x3 K n (nI j) P = K P' ∧ (∀ t, j ≤ t → t < 7 → P_sizes P' t = W_sizes w t) ∧ (∀ t, t < j → P_sizes P' t = P_sizes P t) ∧ P_whole P' = P_whole P ∧ P_count P' = P_count P := by
  intro r
  induction r with
  | zero =>
    intro j n P hj hn
    obtain ⟨n, rfl⟩ : ∃ m, n = m + 1 := ⟨n - 1, by omega⟩
    refine ⟨P, ?_, fun t h1 h2 => by omega, fun t _ => rfl, rfl, rfl⟩
    rw [f_X3_weigh_L13, show j = 7 by omega]
    exact if_pos (by decide)
  | succ r ih =>
    intro j n P hj hn
    obtain ⟨n, rfl⟩ : ∃ m, n = m + 1 := ⟨n - 1, by omega⟩
    obtain ⟨P', e1, e2, e3, e4, e5⟩ := ih (j + 1) n (P_mk (upd (P_sizes P) j (W_sizes w j)) (P_shares P) (P_rowsOf P) (P_restOf P) (P_nextOf P) (P_tableAt P) (P_wayAt P) (P_whole P) (P_count P)) (by omega) (by omega)
    refine ⟨P', ?_, fun t h1 h2 => ?_, fun t h1 => (e3 t (by omega)).trans (if_neg (by omega)), e4, e5⟩
    · rw [f_X3_weigh_L13]
      simp (disch := omega) only [y_c0, y_c1, y_c10, y_c106, y_c128, y_c13, y_c14, y_c155, y_c2, y_c20, y_c204, y_c21, y_c253, y_c3, y_c353, y_c4, y_c40, y_c49, y_c57, y_c6, y_c7, y_c8, y_d0, y_d1, y_d10, y_d3, y_d7, y_dR, y_dS, y_dk, y_Ilt, y_Ile, y_Ieq, y_Iadd, y_Imul, y_Idiv, y_Llt, y_Lle, y_Leq, y_Ladd, y_Lmul, y_Ldiv, y_I2l, y_L2i, y_shn, y_or, y_and, y_bn1, y_bn0, y_inb, y_cl, y_gle, y_gge, y_ggt, y_glt, y_geq, if_pos, if_neg, if_true, if_false, Option.bind_some, c_sizeOf]
      exact e1
    · rcases Nat.lt_or_ge j t with h | h
      · exact e2 t h h2
      · rw [show t = j by omega]; exact (e3 j (by omega)).trans (if_pos rfl)
theorem cw_42 {w : TW} {ρ : Nat → Nat} {k : Nat} {K : TP → Option (Unit × TP)} (hw : WRp w ρ) (hi : INp ρ) (hk : k ≤ 2) : ∀ r j n P, j + r = 21 → r < n → ∃ P', f_X3_weigh_L42 w (nI k) K n (nI j) P = K P' ∧ (∀ c, j ≤ c → c < 21 → P_shares P' c = nI (ysh ρ k (yq c))) ∧ (∀ c, c < j → P_shares P' c = P_shares P c) ∧ P_whole P' = P_whole P ∧ P_count P' = P_count P ∧ P_sizes P' = P_sizes P := by
  intro r
  induction r with
  | zero =>
    intro j n P hj hn
    obtain ⟨n, rfl⟩ : ∃ m, n = m + 1 := ⟨n - 1, by omega⟩
    refine ⟨P, ?_, fun t h1 h2 => by omega, fun t _ => rfl, rfl, rfl, rfl⟩
    rw [f_X3_weigh_L42, show j = 21 by omega]
    exact if_pos (by decide)
  | succ r ih =>
    intro j n P hj hn
    obtain ⟨n, rfl⟩ : ∃ m, n = m + 1 := ⟨n - 1, by omega⟩
    have hj1 : j < 21 := by omega
    obtain ⟨P', e1, e2, e3, e4, e5, e6⟩ := ih (j + 1) n (P_mk (P_sizes P) (upd (P_shares P) j (nI (ysh ρ k (yq j)))) (P_rowsOf P) (P_restOf P) (P_nextOf P) (P_tableAt P) (P_wayAt P) (P_whole P) (P_count P)) (by omega) (by omega)
    refine ⟨P', ?_, fun t h1 h2 => ?_, fun t h1 => (e3 t (by omega)).trans (if_neg (by omega)), e4, e5, e6⟩
    · rw [f_X3_weigh_L42, c_shareOf hw hi hj1 hk]
      simp (disch := omega) only [y_c0, y_c1, y_c10, y_c106, y_c128, y_c13, y_c14, y_c155, y_c2, y_c20, y_c204, y_c21, y_c253, y_c3, y_c353, y_c4, y_c40, y_c49, y_c57, y_c6, y_c7, y_c8, y_d0, y_d1, y_d10, y_d3, y_d7, y_dR, y_dS, y_dk, y_Ilt, y_Ile, y_Ieq, y_Iadd, y_Imul, y_Idiv, y_Llt, y_Lle, y_Leq, y_Ladd, y_Lmul, y_Ldiv, y_I2l, y_L2i, y_shn, y_or, y_and, y_bn1, y_bn0, y_inb, y_cl, y_gle, y_gge, y_ggt, y_glt, y_geq, if_pos, if_neg, if_true, if_false, Option.bind_some]
      exact e1
    · rcases Nat.lt_or_ge j t with h | h
      · exact e2 t h h2
      · rw [show t = j by omega]; exact (e3 j (by omega)).trans (if_pos rfl)
theorem cw_J {P : TP} {ρ : Nat → Nat} {k lo h : Nat} (hi : INp ρ) (hlo : lo < 128) (hh : h < 7) (hsh : ∀ c, c < 21 → P_shares P c = nI (ysh ρ k (yq c))) (hz : P_sizes P h = nI (yz ρ h)) (hz1 : 1 ≤ yz ρ h ∧ yz ρ h ≤ 9999) (hr : P_rowsOf P lo = lN (yrw ρ k lo)) (hb : 1 ≤ yrw ρ k lo ∧ yrw ρ k lo ≤ 1000000000000) :
    f_X3_rowsJoined P (nI lo) (nI h) = some (lN (yi (yg ρ k h) lo (min 1000000000000 (yrw ρ k lo * yz ρ h)) h), ()) := by
  have hm : yrw ρ k lo * yz ρ h ≤ 1000000000000 * 9999 := Nat.mul_le_mul hb.2 hz1.2
  have hm1 : 1 ≤ yrw ρ k lo * yz ρ h := Nat.mul_pos hb.1 hz1.1
  have j := cw_join (P := P) (k := k) hi hlo hh hsh h 0 FUEL (min 1000000000000 (yrw ρ k lo * yz ρ h)) (by omega) (by unfold FUEL; omega) (by omega) (by omega)
  rw [← j]
  unfold f_X3_rowsJoined f_X3_rowsJoined_J25
  rw [cp_rows hlo, cp_size hh, Option.bind_some, Option.bind_some, hr, hz, y_pc h hh, y_I2l (by omega), y_Lmul]
  show (if lg_cmp (lN _) (lN 1000000000000) ≤ (0 : Int32) then _ else _) = _
  have hc : (lg_cmp (lN (yrw ρ k lo * yz ρ h)) (lN 1000000000000) ≤ (0 : Int32)) ↔ yrw ρ k lo * yz ρ h ≤ 1000000000000 := by rw [lg_cmp_le, y_Lle (by omega) (by omega)]
  by_cases q : yrw ρ k lo * yz ρ h ≤ 1000000000000
  · rw [if_pos (hc.mpr q), Nat.min_eq_right q]; rfl
  · rw [if_neg (fun z => q (hc.mp z)), Nat.min_eq_left (by omega)]; rfl
theorem cw_82 {w : TW} {ρ : Nat → Nat} {k wh : Nat} (hi : INp ρ) (hw : wh < 2 ^ ρ 0) : ∀ r i h n P, i + r = 128 → r < n → h < 7 → 2 ^ h ≤ i → i ≤ 2 ^ (h + 1) → P_whole P = nI wh → (∀ t, t < ρ 0 → P_sizes P t = nI (ρ (1 + t))) → (∀ c, c < 21 → P_shares P c = nI (ysh ρ k (yq c))) → (∀ s, s < i → s &&& wh = s → P_rowsOf P s = lN (yrw ρ k s)) →
    ∃ P', f_X3_weigh_L82 w n (nI h) (nI i) P = some ((), P') ∧ PWG P' ρ k wh ∧ P_count P' = P_count P := by
  intro r
  induction r with
  | zero =>
    intro i h n P hir hn hh h1 h2 g1 g2 g3 g4
    obtain ⟨n, rfl⟩ : ∃ m, n = m + 1 := ⟨n - 1, by omega⟩
    refine ⟨P, ?_, ⟨g1, g2, fun s q1 q2 => g4 s (by omega) q2⟩, rfl⟩
    rw [f_X3_weigh_L82, show i = 128 by omega]
    exact if_pos (by decide)
  | succ r ih =>
    intro i h n P hir hn hh h1 h2 g1 g2 g3 g4
    obtain ⟨n, rfl⟩ : ∃ m, n = m + 1 := ⟨n - 1, by omega⟩
    have hi128 : i < 128 := by omega
    have step : ∀ h, h < 7 → 2 ^ h ≤ i → i < 2 ^ (h + 1) → ∃ P', f_X3_weigh_J102 w (fun x4 x5 g => f_X3_weigh_L82 w n x4 x5 g) (nI h) (nI i) P = some ((), P') ∧ PWG P' ρ k wh ∧ P_count P' = P_count P := by
      intro h hh h1 h2
      unfold f_X3_weigh_J102
      rw [g1, y_and]
      have hle : i &&& wh ≤ i := Nat.and_le_left
      by_cases hs : i &&& wh = i
      · have t1 := y_top1 i hi128 h hh h1 h2
        have hbit := y_subbit hs t1
        have htn : h < ρ 0 := y_lowbits (ρ 0) hi.1 wh hw h hh hbit
        have hlow : (i - 2 ^ h) &&& wh = i - 2 ^ h := by
          have := y_top5 i hi128 h hh h1 h2
          rw [← this, Nat.and_assoc, hs]
        have hp := (y_pw h hh).1
        have b1 := yrw_bd hi k (y_sub_lt hlow hw)
        have b2 := hi.2.1 h htn
        rw [hs, if_pos rfl, y_low i hi128 h hh h1 h2, cw_J (k := k) hi (by omega) hh g3 (g2 h htn) b2 (g4 _ (by omega) hlow) b1, Option.bind_some, y_inb hi128 (by omega), if_pos rfl, show nI i + (1 : Int32) = nI (i + 1) from nI_1 i, y_cl (by omega)]
        refine ih (i + 1) h n _ (by omega) (by omega) hh (by omega) (by omega) rfl g2 g3 (fun s q1 q2 => ?_)
        show (if s = i then _ else _) = _
        by_cases e : s = i
        · rw [if_pos e, e, yrw_top hi128 hh h1 h2]
        · rw [if_neg e]; exact g4 s (by omega) q2
      · rw [if_neg (show ¬ nI (i &&& wh) = nI i by rw [y_Ieq (by omega) (by omega)]; exact hs), show nI i + (1 : Int32) = nI (i + 1) from nI_1 i]
        exact ih (i + 1) h n P (by omega) (by omega) hh (by omega) (by omega) g1 g2 g3 (fun s q1 q2 => by
          rcases Nat.lt_or_ge s i with q | q
          · exact g4 s q q2
          · exact absurd (by rw [show i = s by omega]; exact q2) hs)
    rw [f_X3_weigh_L82, if_neg (show ¬ (128 : Int32) ≤ nI i by rw [y_c128, y_Ile (by omega) (by omega)]; omega)]
    have hq := y_shr1 i hi128 h hh
    by_cases q : i < 2 ^ (h + 1)
    · rw [if_pos (hq.mpr q)]
      exact step h hh h1 q
    · rw [if_neg (fun z => q (hq.mp z)), show nI h + (1 : Int32) = nI (h + 1) from nI_1 h]
      have hp := (y_pw h hh).2.2
      have h6 : h + 1 < 7 := by
        rcases Nat.lt_or_ge (h + 1) 7 with z | z
        · exact z
        · have : h = 6 := by omega
          rw [this] at q
          omega
      have hp2 := (y_pw (h + 1) h6).2.2
      have hp3 := (y_pw (h + 1) h6).1
      exact step (h + 1) h6 (by omega) (by omega)
theorem cw_weigh {P : TP} {w : TW} {ρ : Nat → Nat} {k wh : Nat} (hw : WRp w ρ) (hi : INp ρ) (hk : k ≤ 2) (hwh : wh < 2 ^ ρ 0) : ∃ P', f_X3_weigh P w (nI wh) (nI k) = some ((), P') ∧ PWG P' ρ k wh ∧ P_count P' = 0 := by
  unfold f_X3_weigh
  obtain ⟨P1, a1, a2, -, a4, a5⟩ := cw_13 (w := w) (x3 := nI k) (K := fun (y4g_this : TP) => (f_X3_weigh_L42 w (nI k) (fun (y8g_this : TP) => (if inb (0 : Int32) 128 = true then (f_X3_weigh_L82 w FUEL (0 : Int32) (1 : Int32) (P_mk (P_sizes y8g_this) (P_shares y8g_this) (vp_updL (P_rowsOf y8g_this) (0 : Int32).toNatClampNeg (1 : Int64)) (P_restOf y8g_this) (P_nextOf y8g_this) (P_tableAt y8g_this) (P_wayAt y8g_this) (P_whole y8g_this) (P_count y8g_this))) else none)) FUEL (0 : Int32) y4g_this)) 7 0 FUEL (P_mk (P_sizes P) (P_shares P) (P_rowsOf P) (P_restOf P) (P_nextOf P) (P_tableAt P) (P_wayAt P) (nI wh) (0 : Int32)) rfl (by decide)
  obtain ⟨P2, b1, b2, -, b4, b5, b6⟩ := cw_42 (K := fun (y8g_this : TP) => (if inb (0 : Int32) 128 = true then (f_X3_weigh_L82 w FUEL (0 : Int32) (1 : Int32) (P_mk (P_sizes y8g_this) (P_shares y8g_this) (vp_updL (P_rowsOf y8g_this) (0 : Int32).toNatClampNeg (1 : Int64)) (P_restOf y8g_this) (P_nextOf y8g_this) (P_tableAt y8g_this) (P_wayAt y8g_this) (P_whole y8g_this) (P_count y8g_this))) else none)) hw hi hk 21 0 FUEL P1 rfl (by decide)
  have h7 := hi.1
  obtain ⟨P3, c1, c2, c3⟩ := cw_82 (w := w) (k := k) hi hwh 127 1 0 FUEL (P_mk (P_sizes P2) (P_shares P2) (vp_updL (P_rowsOf P2) 0 (1 : Int64)) (P_restOf P2) (P_nextOf P2) (P_tableAt P2) (P_wayAt P2) (P_whole P2) (P_count P2)) rfl (by decide) (by omega) (by decide) (by decide) (b4.trans a4) (fun t ht => by
    show P_sizes P2 t = _
    rw [b6, a2 t (Nat.zero_le _) (by omega)]
    exact hw.2.1 t ht) (fun c hc => b2 c (Nat.zero_le _) hc) (fun s hs _ => by
    have : s = 0 := by omega
    subst this
    exact (if_pos rfl : (if (0 : Nat) = 0 then (1 : Int64) else P_rowsOf P2 0) = 1))
  refine ⟨P3, ?_, c2, c3.trans (b5.trans a5)⟩
  exact a1.trans (b1.trans ((if_pos (show inb (0 : Int32) 128 = true from rfl)).trans c1))
theorem cw_choose {P : TP} {w : TW} {ρ : Nat → Nat} {k wh : Nat} (hw : WRp w ρ) (hi : INp ρ) (hk : k ≤ 2) (hwh : wh < 2 ^ ρ 0) : ∃ P', f_X3_choose P w (nI wh) (nI k) = some ((), P') ∧ PWG P' ρ k wh ∧ P_restOf P' 0 = lN (yD (yst1 ρ k) wh 0) ∧ PL P' 0 (yP (yst1 ρ k) wh 7 0) (yW ρ k 0 (yP (yst1 ρ k) wh 7 0)) := by
  unfold f_X3_choose
  obtain ⟨P1, a1, a2, a3⟩ := cw_weigh (P := P) hw hi hk hwh
  obtain ⟨P2, b1, b2, b3, b4⟩ := cp_chL (w := w) (K := fun (y5g_this : TP) => ((f_X3_followNext y5g_this).bind fun o6 => (some ((), o6.2)))) hi hwh 128 FUEL P1 (by omega) (by decide) a2 (fun s q1 q2 => by omega)
  obtain ⟨P3, c1, c2, c3, c4, -⟩ := cp_fol hi hwh 7 0 FUEL P2 0 rfl (by decide) (Nat.zero_and _) b2 b3 (b4.trans a3)
  refine ⟨P3, ?_, c2, (c3 0 (Nat.zero_le _) (by omega) (Nat.zero_and _)).1, c4⟩
  rw [a1, Option.bind_some]
  refine (show f_X3_choose_L11 w _ FUEL (127 : Int32) P1 = _ from b1).trans ?_
  show (f_X3_followNext P2).bind _ = _
  unfold f_X3_followNext
  rw [show f_X3_followNext_L4 FUEL (0 : Int32) (0 : Int32) P2 = some ((), P3) from c1]
  rfl
