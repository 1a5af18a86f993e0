theorem x_180 {M : TM} {cb tp : Nat → Int64} {pl : Nat → Int32} {r : Nat → Int64} {ρ : Nat → Nat} {k wh s x : Nat} {K : Int32 → Option (Int64 × (TM × (Nat → Int64) × (Nat → Int64) × (Nat → Int32)))} (h : XR r ρ k cb) (hw : wh < 2 ^ ρ 0) (hs : s &&& wh = s) (hx : x < 7) (hxc : ycd wh s x = true)
    (hd : tp s = lN (yst1 ρ k s x + yD (yst1 ρ k) wh (s ||| 2 ^ x))) (hr : ∀ t, t < 7 → ycd wh s t = true → tp (s ||| 2 ^ t) = lN (yD (yst1 ρ k) wh (s ||| 2 ^ t))) (hm : ∀ t, t < x → ycd wh s t = true → yst1 ρ k s x + yD (yst1 ρ k) wh (s ||| 2 ^ x) < yst1 ρ k s t + yD (yst1 ρ k) wh (s ||| 2 ^ t)) :
    ∀ rr j n, j + rr = x → rr < n → f_X9_choose_L180 353 M cb tp pl r (nI wh) (nI s) K n (nI j) = K (nI x) := by
  have hi := h.2.1
  have h7 := y_pow7 _ hi.1
  have hs1 := y_sub_lt hs hw
  have bd3 := yst1_bd ρ k s x
  have ho2 := y_orlt s (by omega) x hx (ycd_s hxc).2
  have bd4 := yD_bd (st := yst1 ρ k) (w := wh) (K := 1000000000000000) (yst1_bd ρ k) 128 (s ||| 2 ^ x) ho2.2 (by omega)
  intro rr
  induction rr with
  | zero =>
    intro j n hj hn
    obtain ⟨n, rfl⟩ : ∃ m, n = m + 1 := ⟨n - 1, by omega⟩
    have e : j = x := by omega
    subst e
    have hst := x_st h hs1 (y_bitlt hw (ycd_s hxc).1)
    have hD := hr j hx hxc
    rw [f_X9_choose_L180]
    simp (disch := omega) only [y_c0, y_c1, y_c10, y_c106, y_c128, y_c13, y_c14, y_c155, y_c2, y_c20, y_c204, y_c21, y_c253, y_c3, y_c353, y_c4, y_c40, y_c49, y_c57, y_c6, y_c7, y_c8, y_d0, y_d1, y_d10, y_d3, y_d7, y_dR, y_dS, y_dk, y_Ilt, y_Ile, y_Ieq, y_Iadd, y_Imul, y_Idiv, y_Llt, y_Lle, y_Leq, y_Ladd, y_Lmul, y_Ldiv, y_I2l, y_L2i, y_shn, y_or, y_and, y_bn1, y_bn0, y_inb, y_cl, y_gle, y_gge, y_ggt, y_glt, y_geq, if_pos, if_neg, if_true, if_false, Option.bind_some, (ycd_s hxc).1, (ycd_s hxc).2, hst, hD, hd, Bool.true_eq_false, Bool.false_eq_true]
  | succ rr ih =>
    intro j n hj hn
    obtain ⟨n, rfl⟩ : ∃ m, n = m + 1 := ⟨n - 1, by omega⟩
    have := ih (j + 1) n (by omega) (by omega)
    rw [f_X9_choose_L180]
    by_cases hwb : wh.testBit j = true
    · by_cases hb : s.testBit j = true
      · simp (disch := omega) only [y_c0, y_c1, y_c10, y_c106, y_c128, y_c13, y_c14, y_c155, y_c2, y_c20, y_c204, y_c21, y_c253, y_c3, y_c353, y_c4, y_c40, y_c49, y_c57, y_c6, y_c7, y_c8, y_d0, y_d1, y_d10, y_d3, y_d7, y_dR, y_dS, y_dk, y_Ilt, y_Ile, y_Ieq, y_Iadd, y_Imul, y_Idiv, y_Llt, y_Lle, y_Leq, y_Ladd, y_Lmul, y_Ldiv, y_I2l, y_L2i, y_shn, y_or, y_and, y_bn1, y_bn0, y_inb, y_cl, y_gle, y_gge, y_ggt, y_glt, y_geq, if_pos, if_neg, if_true, if_false, Option.bind_some, hwb, hb, Bool.true_eq_false]
        exact this
      · have hb' : s.testBit j = false := by simpa using hb
        have hc : ycd wh s j = true := by unfold ycd; rw [hwb, hb']; rfl
        have ho := y_orlt s (by omega) j (by omega) hb'
        have hst := x_st h hs1 (y_bitlt hw hwb)
        have hD := hr j (by omega) hc
        have hl := hm j (by omega) hc
        have bd := yst1_bd ρ k s j
        have bd2 := yD_bd (st := yst1 ρ k) (w := wh) (K := 1000000000000000) (yst1_bd ρ k) 128 (s ||| 2 ^ j) ho.2 (by omega)
        simp (disch := omega) only [y_c0, y_c1, y_c10, y_c106, y_c128, y_c13, y_c14, y_c155, y_c2, y_c20, y_c204, y_c21, y_c253, y_c3, y_c353, y_c4, y_c40, y_c49, y_c57, y_c6, y_c7, y_c8, y_d0, y_d1, y_d10, y_d3, y_d7, y_dR, y_dS, y_dk, y_Ilt, y_Ile, y_Ieq, y_Iadd, y_Imul, y_Idiv, y_Llt, y_Lle, y_Leq, y_Ladd, y_Lmul, y_Ldiv, y_I2l, y_L2i, y_shn, y_or, y_and, y_bn1, y_bn0, y_inb, y_cl, y_gle, y_gge, y_ggt, y_glt, y_geq, if_pos, if_neg, if_true, if_false, Option.bind_some, hwb, hb', hst, hD, hd, Bool.true_eq_false, Bool.false_eq_true]
        exact this
    · have hwb' : wh.testBit j = false := by simpa using hwb
      simp (disch := omega) only [y_c0, y_c1, y_c10, y_c106, y_c128, y_c13, y_c14, y_c155, y_c2, y_c20, y_c204, y_c21, y_c253, y_c3, y_c353, y_c4, y_c40, y_c49, y_c57, y_c6, y_c7, y_c8, y_d0, y_d1, y_d10, y_d3, y_d7, y_dR, y_dS, y_dk, y_Ilt, y_Ile, y_Ieq, y_Iadd, y_Imul, y_Idiv, y_Llt, y_Lle, y_Leq, y_Ladd, y_Lmul, y_Ldiv, y_I2l, y_L2i, y_shn, y_or, y_and, y_bn1, y_bn0, y_inb, y_cl, y_gle, y_gge, y_ggt, y_glt, y_geq, if_pos, if_neg, if_true, if_false, Option.bind_some, hwb']
      exact this
def ymiss (w s : Nat) : Nat := fb_ct (ycd w s) 7
theorem ymiss_le (w s : Nat) : ymiss w s ≤ 7 := fb_ct_le _ 7
theorem ymiss_step {w s x : Nat} (hx : x < 7) (h : ycd w s x = true) : ymiss w (s ||| 2 ^ x) + 1 = ymiss w s := by
  have h1 := fb_ct_upd (ycd w s) false hx
  rw [if_pos h, if_neg Bool.false_ne_true] at h1
  have h2 : fb_ct (ycd w (s ||| 2 ^ x)) 7 = fb_ct (fun k => if k = x then false else ycd w s k) 7 := by
    apply fb_ct_cong
    intro i hi
    unfold ycd
    rw [Nat.testBit_or, Nat.testBit_two_pow]
    by_cases e : i = x
    · subst e; simp
    · rw [if_neg e, decide_eq_false (show ¬ x = i from fun q => e q.symm), Bool.or_false]
  show fb_ct _ 7 + 1 = fb_ct _ 7
  rw [h2]
  omega
theorem ymiss_pos {w s : Nat} (hs : s &&& w = s) (hw : w < 128) (hne : s ≠ w) : 0 < ymiss w s := by
  rcases Nat.eq_zero_or_pos (ymiss w s) with h | h
  · exact absurd (y_full hs hw (fb_ct_zero.mp h)) hne
  · exact h
def Mpl (M : TM) (x : Int32) : TM := M_mk (M_refusal M) (M_size M) (M_acts M) x (M_spot M) (M_out M)
theorem x_171 {cb tp : Nat → Int64} {r : Nat → Int64} {ρ : Nat → Nat} {k wh : Nat} (h : XR r ρ k cb) (hw : wh < 2 ^ ρ 0) (hr : ∀ s, s ≤ wh → s &&& wh = s → tp s = lN (yD (yst1 ρ k) wh s)) :
    ∀ rr j n s M pl, ymiss wh s ≤ rr → rr < n → s &&& wh = s → M_planned M = nI j → j + ymiss wh s ≤ 7 →
    ∃ pl', f_X9_choose_L171 353 cb tp r (nI wh) n (nI s) M pl = some (lN (yD (yst1 ρ k) wh 0), (Mpl M (nI (j + (yP (yst1 ρ k) wh rr s).length)), cb, tp, pl')) ∧ (∀ i, i < (yP (yst1 ρ k) wh rr s).length → pl' (j + i) = nI ((yP (yst1 ρ k) wh rr s).getD i 0)) ∧ (∀ i, i < j → pl' i = pl i) := by
  have hi := h.2.1
  have h7 := y_pow7 _ hi.1
  have hr0 := hr 0 (Nat.zero_le _) (Nat.zero_and _)
  intro rr
  induction rr with
  | zero =>
    intro j n s M pl hm hn hs hj hj7
    obtain ⟨n, rfl⟩ : ∃ m, n = m + 1 := ⟨n - 1, by omega⟩
    have e : s = wh := by
      by_cases q : s = wh
      · exact q
      · have := ymiss_pos hs (by omega) q; omega
    have hMp : Mpl M (nI (j + (yP (yst1 ρ k) wh 0 s).length)) = M := by
      unfold Mpl
      rw [show (yP (yst1 ρ k) wh 0 s).length = 0 from rfl, Nat.add_zero, ← hj]; rfl
    refine ⟨pl, ?_, fun i q => absurd q (Nat.not_lt_zero _), fun _ _ => rfl⟩
    rw [hMp, f_X9_choose_L171, if_pos (by rw [e]), if_pos (show inb (0 : Int32) 128 = true from rfl), show tp (0 : Int32).toNatClampNeg = _ from hr0]
  | succ rr ih =>
    intro j n s M pl hm hn hs hj hj7
    obtain ⟨n, rfl⟩ : ∃ m, n = m + 1 := ⟨n - 1, by omega⟩
    have hs1 := y_sub_lt hs hw
    by_cases e : s = wh
    · have hP : yP (yst1 ρ k) wh (rr + 1) s = [] := by rw [yP, e, yFd_whole]
      have hMp : Mpl M (nI (j + (yP (yst1 ρ k) wh (rr + 1) s).length)) = M := by
        unfold Mpl
        rw [hP, List.length_nil, Nat.add_zero, ← hj]; rfl
      refine ⟨pl, ?_, fun i q => by rw [hP] at q; exact absurd q (Nat.not_lt_zero _), fun _ _ => rfl⟩
      rw [hMp, f_X9_choose_L171, if_pos (by rw [e]), if_pos (show inb (0 : Int32) 128 = true from rfl), show tp (0 : Int32).toNatClampNeg = _ from hr0]
    · obtain ⟨x, b1, b2, b3, b4⟩ := yFd_some (st := yst1 ρ k) hs (by omega) e
      have hms := ymiss_step b2 b3
      have hbit := ycd_s b3
      have hle : s ≤ wh := by rw [← hs]; exact Nat.and_le_right
      have hP : yP (yst1 ρ k) wh (rr + 1) s = x :: yP (yst1 ρ k) wh rr (s ||| 2 ^ x) := by rw [yP, b1]
      have hds := hr s hle hs
      rw [yD_eq (by omega), b1] at hds
      obtain ⟨F, hF, hF1⟩ := y_fuel
      obtain ⟨pl', e1, e2, e3⟩ := ih (j + 1) n (s ||| 2 ^ x) (Mpl M (nI (j + 1))) (upd pl j (nI x)) (by omega) (by omega) (y_sub_or hs hbit.1) rfl (by omega)
      refine ⟨pl', ?_, fun i q => ?_, fun i q => (e3 i (by omega)).trans (if_neg (by omega))⟩
      · rw [f_X9_choose_L171, hF, if_neg (show ¬ nI s = nI wh by rw [y_Ieq (by omega) (by omega)]; exact e), y_c0, x_180 h hw hs b2 b3 hds (fun t ht hct => hr _ (by rw [← y_sub_or hs (ycd_s hct).1]; exact Nat.and_le_right) (y_sub_or hs (ycd_s hct).1)) b4 x 0 F (by omega) (by omega)]
        rw [hj, y_inb (show j < 7 by omega) (by omega), if_pos rfl, y_shl x (by omega), y_or, y_cl (show j < 2147483648 by omega), show nI j + (1 : Int32) = nI (j + 1) from nI_1 j]
        refine (show f_X9_choose_L171 353 cb tp r (nI wh) n (nI (s ||| 2 ^ x)) (Mpl M (nI (j + 1))) (upd pl j (nI x)) = _ from e1).trans ?_
        rw [hP, List.length_cons, show j + 1 + (yP (yst1 ρ k) wh rr (s ||| 2 ^ x)).length = j + ((yP (yst1 ρ k) wh rr (s ||| 2 ^ x)).length + 1) by omega]
        rfl
      · rw [hP] at q ⊢
        cases i with
        | zero => exact (e3 j (by omega)).trans (if_pos rfl)
        | succ i =>
          have := e2 i (by rw [List.length_cons] at q; omega)
          rw [show j + (i + 1) = j + 1 + i by omega]
          exact this
theorem y_m1 : ∀ n, n < 128 → nI n - (1 : Int32) = nI n + (-1 : Int32) := by decide +kernel
/-- the reference's plan stands in its fields -/
def XP (M : TM) (pl : Nat → Int32) (L : List Nat) : Prop := M_planned M = nI L.length ∧ ∀ i, i < L.length → pl i = nI (L.getD i 0)
abbrev yPl (ρ : Nat → Nat) (k wh : Nat) : List Nat := yP (yst1 ρ k) wh 7 0
theorem x_choose {M : TM} {cb tp : Nat → Int64} {pl : Nat → Int32} {r : Nat → Int64} {ρ : Nat → Nat} {k wh : Nat} (hr : RRp r ρ) (hi : INp ρ) (hk : k ≤ 2) (hw : wh < 2 ^ ρ 0) :
    ∃ cb' tp' pl', f_X9_choose 353 M cb tp pl r (nI wh) (nI k) = some (lN (yD (yst1 ρ k) wh 0), (Mpl M (nI (yPl ρ k wh).length), cb', tp', pl')) ∧ (∀ i, i < 2 ^ ρ 0 → cb' i = lN (yrw ρ k i)) ∧ ∀ i, i < (yPl ρ k wh).length → pl' i = nI ((yPl ρ k wh).getD i 0) := by
  have h7 := y_pow7 _ hi.1
  obtain ⟨cb', a1, a2⟩ := x_lay cb hr hi hk
  have h : XR r ρ k cb' := ⟨hr, hi, a2⟩
  have hmi := ymiss_le wh 0
  obtain ⟨F, hF, hF1⟩ := y_fuel
  obtain ⟨tp', b1, b2⟩ := x_27 (M := Mpl M (nI 0)) (pl := pl) (K := fun (y20g_this_toPay : Nat → Int64) => (f_X9_choose_L171 353 cb' y20g_this_toPay r (nI wh) F (nI 0) (Mpl M (nI 0)) pl)) h hw wh F (vp_updL tp wh (lN 0)) (Nat.le_refl _) (by omega) (fun s q1 q2 q3 => by
    have e : s = wh := by omega
    rw [e, yD_eq (by omega), yFd_whole]
    exact if_pos rfl)
  obtain ⟨pl', c1, c2, -⟩ := x_171 h hw b2 7 0 F 0 (Mpl M (nI 0)) pl hmi (by omega) (Nat.zero_and _) rfl (by omega)
  refine ⟨cb', tp', pl', ?_, a2, fun i hil => ?_⟩
  · unfold f_X9_choose
    rw [a1, Option.bind_some, y_inb (show wh < 128 by omega) (by omega), if_pos rfl, y_m1 wh (by omega), y_cl (by omega), hF]
    refine (show f_X9_choose_L27 353 (Mpl M (nI 0)) cb' pl r (nI wh) _ F (nI wh + (-1 : Int32)) (vp_updL tp wh (lN 0)) = _ from b1).trans (c1.trans ?_)
    rw [Nat.zero_add]; rfl
  · have := c2 i hil
    rw [Nat.zero_add] at this
    exact this
