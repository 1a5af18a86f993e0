def e5 (o : Option (Nat × Nat)) : Int64 := match o with
  | none => -1
  | some x => lN x.1
theorem e5_neg : (-1 : Int64) < lN 0 := by decide
theorem y_subz : ∀ s, s < 128 → ∀ w, w < 128 → ((nI s &&& (nI w ^^^ (-1 : Int32))) = nI 0 ↔ s &&& w = s) := by decide +kernel
/-- the reference's rows at hand -/
def XR (r : Nat → Int64) (ρ : Nat → Nat) (k : Nat) (cb : Nat → Int64) : Prop := RRp r ρ ∧ INp ρ ∧ ∀ i, i < 2 ^ ρ 0 → cb i = lN (yrw ρ k i)
theorem XR.bd {r : Nat → Int64} {ρ : Nat → Nat} {k : Nat} {cb : Nat → Int64} (h : XR r ρ k cb) : ∀ i, i < 2 ^ ρ 0 → cb i = lN (yrw ρ k i) ∧ yrw ρ k i ≤ 1000000000000 := fun i hi => ⟨h.2.2 i hi, (yrw_bd h.2.1 k hi).2⟩
theorem y_or_lt {s t n : Nat} (hs : s < 2 ^ n) (ht : t < n) : s ||| 2 ^ t < 2 ^ n := Nat.or_lt_two_pow hs (Nat.pow_lt_pow_right (by omega) ht)
theorem y_bitlt {w t n : Nat} (hw : w < 2 ^ n) (ht : w.testBit t = true) : t < n := by
  rcases Nat.lt_or_ge t n with h | h
  · exact h
  · rw [Nat.testBit_lt_two_pow (show w < 2 ^ t from Nat.lt_of_lt_of_le hw (Nat.pow_le_pow_right (by omega) h))] at ht
    exact nomatch ht
theorem x_st {r : Nat → Int64} {ρ : Nat → Nat} {k : Nat} {cb : Nat → Int64} (h : XR r ρ k cb) {s t : Nat} (hs : s < 2 ^ ρ 0) (ht : t < ρ 0) : f_X9_stepCost_p2 353 128 r cb (nI s) (nI t) = some (lN (yst1 ρ k s t), ()) :=
  x_step h.1 h.2.1 h.bd h.bd hs ht (y_or_lt hs ht)
theorem x_54 {M : TM} {cb : Nat → Int64} {pl : Nat → Int32} {r : Nat → Int64} {ρ : Nat → Nat} {k wh s : Nat} {K : (Nat → Int64) → Option (Int64 × (TM × (Nat → Int64) × (Nat → Int64) × (Nat → Int32)))} (h : XR r ρ k cb) (hw : wh < 2 ^ ρ 0) (hs : s &&& wh = s) :
    ∀ rr j n tp, j + rr = 7 → rr < n → tp s = e5 (yf (ycd wh s) (fun t => yst1 ρ k s t + yD (yst1 ρ k) wh (s ||| 2 ^ t)) j) → (∀ t, t < 7 → ycd wh s t = true → tp (s ||| 2 ^ t) = lN (yD (yst1 ρ k) wh (s ||| 2 ^ t))) →
    ∃ tp', f_X9_choose_L54 353 M cb pl r (nI wh) (nI s) K n (nI j) tp = K tp' ∧ tp' s = e5 (yFd (yst1 ρ k) wh s) ∧ ∀ i, i ≠ s → tp' i = tp i := by
  have hi := h.2.1
  have h7 := y_pow7 _ hi.1
  have hs1 := y_sub_lt hs hw
  intro rr
  induction rr with
  | zero =>
    intro j n tp hj hn h1 h2
    obtain ⟨n, rfl⟩ : ∃ m, n = m + 1 := ⟨n - 1, by omega⟩
    refine ⟨tp, ?_, ?_, fun _ _ => rfl⟩
    · rw [f_X9_choose_L54, show j = 7 by omega]
      exact if_pos (by decide)
    · rw [h1, show j = 7 by omega]; rfl
  | succ rr ih =>
    intro j n tp hj hn h1 h2
    obtain ⟨n, rfl⟩ : ∃ m, n = m + 1 := ⟨n - 1, by omega⟩
    have hj7 : j < 7 := by omega
    rw [f_X9_choose_L54]
    by_cases hwb : wh.testBit j = true
    · by_cases hb : s.testBit j = true
      · have hc : ycd wh s j = false := by unfold ycd; rw [hb]; simp
        obtain ⟨tp', e1, e2, e3⟩ := ih (j + 1) n tp (by omega) (by omega) (by rw [yf_no hc]; exact h1) h2
        refine ⟨tp', ?_, e2, e3⟩
        simp (disch := omega) only [y_c0, y_c1, y_c10, y_c106, y_c128, y_c13, y_c14, y_c155, y_c2, y_c20, y_c204, y_c21, y_c253, y_c3, y_c353, y_c4, y_c40, y_c49, y_c57, y_c6, y_c7, y_c8, y_d0, y_d1, y_d10, y_d3, y_d7, y_dR, y_dS, y_dk, y_Ilt, y_Ile, y_Ieq, y_Iadd, y_Imul, y_Idiv, y_Llt, y_Lle, y_Leq, y_Ladd, y_Lmul, y_Ldiv, y_I2l, y_L2i, y_shn, y_or, y_and, y_bn1, y_bn0, y_inb, y_cl, y_gle, y_gge, y_ggt, y_glt, y_geq, if_pos, if_neg, if_true, if_false, Option.bind_some, hwb, hb, Bool.true_eq_false]
        exact e1
      · have hb' : s.testBit j = false := by simpa using hb
        have hc : ycd wh s j = true := by unfold ycd; rw [hwb, hb']; rfl
        have ho := y_orlt s (by omega) j hj7 hb'
        have hst := x_st h hs1 (y_bitlt hw hwb)
        have hD := h2 j hj7 hc
        have bd := yst1_bd ρ k s j
        have bd2 := yD_bd (st := yst1 ρ k) (w := wh) (K := 1000000000000000) (yst1_bd ρ k) 128 (s ||| 2 ^ j) ho.2 (by omega)
        have keep : ∀ (v : Int64) (t : Nat), t < 7 → ycd wh s t = true → vp_updL tp s v (s ||| 2 ^ t) = lN (yD (yst1 ρ k) wh (s ||| 2 ^ t)) := fun v t ht hct => by
          have := y_orlt s (by omega) t ht (ycd_s hct).2
          exact (if_neg (show ¬ s ||| 2 ^ t = s by omega)).trans (h2 t ht hct)
        have kee2 : ∀ (v : Int64) (i : Nat), i ≠ s → vp_updL tp s v i = tp i := fun v i hne => if_neg hne
        cases hq : yf (ycd wh s) (fun t => yst1 ρ k s t + yD (yst1 ρ k) wh (s ||| 2 ^ t)) j with
        | none =>
          rw [hq] at h1
          have h1 : tp s = -1 := h1
          obtain ⟨tp', e1, e2, e3⟩ := ih (j + 1) n (vp_updL tp s (lN (yst1 ρ k s j + yD (yst1 ρ k) wh (s ||| 2 ^ j)))) (by omega) (by omega) (by rw [yf_new hc hq]; exact if_pos rfl) (keep _)
          refine ⟨tp', ?_, e2, fun i hne => (e3 i hne).trans (kee2 _ i hne)⟩
          simp (disch := omega) only [y_c0, y_c1, y_c10, y_c106, y_c128, y_c13, y_c14, y_c155, y_c2, y_c20, y_c204, y_c21, y_c253, y_c3, y_c353, y_c4, y_c40, y_c49, y_c57, y_c6, y_c7, y_c8, y_d0, y_d1, y_d10, y_d3, y_d7, y_dR, y_dS, y_dk, y_Ilt, y_Ile, y_Ieq, y_Iadd, y_Imul, y_Idiv, y_Llt, y_Lle, y_Leq, y_Ladd, y_Lmul, y_Ldiv, y_I2l, y_L2i, y_shn, y_or, y_and, y_bn1, y_bn0, y_inb, y_cl, y_gle, y_gge, y_ggt, y_glt, y_geq, if_pos, if_neg, if_true, if_false, Option.bind_some, hwb, hb', hst, hD, h1, e5_neg]
          exact e1
        | some x =>
          rw [hq] at h1
          have h1 : tp s = lN x.1 := h1
          rcases yf_sp (p := ycd wh s) (c := fun t => yst1 ρ k s t + yD (yst1 ρ k) wh (s ||| 2 ^ t)) j with ⟨q1, -⟩ | ⟨y, q1, q2, q3, -⟩
          · rw [q1] at hq; exact nomatch hq
          have hx : x = (yst1 ρ k s y + yD (yst1 ρ k) wh (s ||| 2 ^ y), y) := (Option.some.inj (hq.symm.trans q1))
          have bd3 := yst1_bd ρ k s y
          have ho2 := y_orlt s (by omega) y (by omega) (ycd_s q3).2
          have bd4 := yD_bd (st := yst1 ρ k) (w := wh) (K := 1000000000000000) (yst1_bd ρ k) 128 (s ||| 2 ^ y) ho2.2 (by omega)
          have hx1 : x.1 = yst1 ρ k s y + yD (yst1 ρ k) wh (s ||| 2 ^ y) := by rw [hx]
          by_cases hl : x.1 ≤ yst1 ρ k s j + yD (yst1 ρ k) wh (s ||| 2 ^ j)
          · obtain ⟨tp', e1, e2, e3⟩ := ih (j + 1) n (vp_updL tp s (lN x.1)) (by omega) (by omega) (by rw [yf_keep hq (fun _ => by show ¬ yst1 ρ k s j + yD (yst1 ρ k) wh (s ||| 2 ^ j) < x.1; omega)]; exact if_pos rfl) (keep _)
            refine ⟨tp', ?_, e2, fun i hne => (e3 i hne).trans (kee2 _ i hne)⟩
            simp (disch := omega) only [y_c0, y_c1, y_c10, y_c106, y_c128, y_c13, y_c14, y_c155, y_c2, y_c20, y_c204, y_c21, y_c253, y_c3, y_c353, y_c4, y_c40, y_c49, y_c57, y_c6, y_c7, y_c8, y_d0, y_d1, y_d10, y_d3, y_d7, y_dR, y_dS, y_dk, y_Ilt, y_Ile, y_Ieq, y_Iadd, y_Imul, y_Idiv, y_Llt, y_Lle, y_Leq, y_Ladd, y_Lmul, y_Ldiv, y_I2l, y_L2i, y_shn, y_or, y_and, y_bn1, y_bn0, y_inb, y_cl, y_gle, y_gge, y_ggt, y_glt, y_geq, if_pos, if_neg, if_true, if_false, Option.bind_some, hwb, hb', hst, hD, h1]
            exact e1
          · obtain ⟨tp', e1, e2, e3⟩ := ih (j + 1) n (vp_updL tp s (lN (yst1 ρ k s j + yD (yst1 ρ k) wh (s ||| 2 ^ j)))) (by omega) (by omega) (by rw [yf_less hc hq (by show yst1 ρ k s j + yD (yst1 ρ k) wh (s ||| 2 ^ j) < x.1; omega)]; exact if_pos rfl) (keep _)
            refine ⟨tp', ?_, e2, fun i hne => (e3 i hne).trans (kee2 _ i hne)⟩
            simp (disch := omega) only [y_c0, y_c1, y_c10, y_c106, y_c128, y_c13, y_c14, y_c155, y_c2, y_c20, y_c204, y_c21, y_c253, y_c3, y_c353, y_c4, y_c40, y_c49, y_c57, y_c6, y_c7, y_c8, y_d0, y_d1, y_d10, y_d3, y_d7, y_dR, y_dS, y_dk, y_Ilt, y_Ile, y_Ieq, y_Iadd, y_Imul, y_Idiv, y_Llt, y_Lle, y_Leq, y_Ladd, y_Lmul, y_Ldiv, y_I2l, y_L2i, y_shn, y_or, y_and, y_bn1, y_bn0, y_inb, y_cl, y_gle, y_gge, y_ggt, y_glt, y_geq, if_pos, if_neg, if_true, if_false, Option.bind_some, hwb, hb', hst, hD, h1]
            exact e1
    · have hwb' : wh.testBit j = false := by simpa using hwb
      have hc : ycd wh s j = false := by unfold ycd; rw [hwb']; rfl
      obtain ⟨tp', e1, e2, e3⟩ := ih (j + 1) n tp (by omega) (by omega) (by rw [yf_no hc]; exact h1) h2
      refine ⟨tp', ?_, e2, e3⟩
      simp (disch := omega) only [y_c0, y_c1, y_c10, y_c106, y_c128, y_c13, y_c14, y_c155, y_c2, y_c20, y_c204, y_c21, y_c253, y_c3, y_c353, y_c4, y_c40, y_c49, y_c57, y_c6, y_c7, y_c8, y_d0, y_d1, y_d10, y_d3, y_d7, y_dR, y_dS, y_dk, y_Ilt, y_Ile, y_Ieq, y_Iadd, y_Imul, y_Idiv, y_Llt, y_Lle, y_Leq, y_Ladd, y_Lmul, y_Ldiv, y_I2l, y_L2i, y_shn, y_or, y_and, y_bn1, y_bn0, y_inb, y_cl, y_gle, y_gge, y_ggt, y_glt, y_geq, if_pos, if_neg, if_true, if_false, Option.bind_some, hwb', Bool.false_eq_true]
      exact e1
theorem y_full {s w : Nat} (hs : s &&& w = s) (hw : w < 128) (h : ∀ t, t < 7 → ycd w s t = false) : s = w := by
  apply Nat.eq_of_testBit_eq
  intro i
  rcases Nat.lt_or_ge i 7 with q | q
  · have := h i q
    unfold ycd at this
    have h2 := congrArg (fun x => x.testBit i) hs
    simp only [Nat.testBit_and] at h2
    cases e1 : w.testBit i <;> cases e2 : s.testBit i <;> simp_all
  · have hle : s ≤ w := by rw [← hs]; exact Nat.and_le_right
    have h3 : 2 ^ 7 ≤ 2 ^ i := Nat.pow_le_pow_right (by omega) q
    rw [Nat.testBit_lt_two_pow (by omega), Nat.testBit_lt_two_pow (by omega)]
theorem yFd_whole (st : Nat → Nat → Nat) (w : Nat) : yFd st w w = none := by
  unfold yFd
  rcases yf_sp (p := ycd w w) (c := fun t => st w t + yD st w (w ||| 2 ^ t)) 7 with ⟨e, -⟩ | ⟨x, -, -, h, -⟩
  · exact e
  · have := ycd_s h
    rw [this.1] at this
    exact nomatch this.2
theorem yFd_some {st : Nat → Nat → Nat} {w s : Nat} (hs : s &&& w = s) (hw : w < 128) (hne : s ≠ w) : ∃ x, yFd st w s = some (st s x + yD st w (s ||| 2 ^ x), x) ∧ x < 7 ∧ ycd w s x = true ∧ ∀ t, t < x → ycd w s t = true → st s x + yD st w (s ||| 2 ^ x) < st s t + yD st w (s ||| 2 ^ t) := by
  unfold yFd
  rcases yf_sp (p := ycd w s) (c := fun t => st s t + yD st w (s ||| 2 ^ t)) 7 with ⟨-, e⟩ | ⟨x, h1, h2, h3, -, h5⟩
  · exact absurd (y_full hs hw e) hne
  · exact ⟨x, h1, h2, h3, h5⟩
theorem x_27 {M : TM} {cb : Nat → Int64} {pl : Nat → Int32} {r : Nat → Int64} {ρ : Nat → Nat} {k wh : Nat} {K : (Nat → Int64) → Option (Int64 × (TM × (Nat → Int64) × (Nat → Int64) × (Nat → Int32)))} (h : XR r ρ k cb) (hw : wh < 2 ^ ρ 0) :
    ∀ m n tp, m ≤ wh → m < n → (∀ s, m ≤ s → s ≤ wh → s &&& wh = s → tp s = lN (yD (yst1 ρ k) wh s)) →
    ∃ tp', f_X9_choose_L27 353 M cb pl r (nI wh) K n (nI m + (-1 : Int32)) tp = K tp' ∧ ∀ s, s ≤ wh → s &&& wh = s → tp' s = lN (yD (yst1 ρ k) wh s) := by
  have hi := h.2.1
  have h7 := y_pow7 _ hi.1
  intro m
  induction m with
  | zero =>
    intro n tp hm hn h1
    obtain ⟨n, rfl⟩ : ∃ m, n = m + 1 := ⟨n - 1, by omega⟩
    exact ⟨tp, by rw [f_X9_choose_L27]; exact if_pos (by decide), fun s h2 h3 => h1 s (Nat.zero_le _) h2 h3⟩
  | succ m ih =>
    intro n tp hm hn h1
    obtain ⟨n, rfl⟩ : ∃ m, n = m + 1 := ⟨n - 1, by omega⟩
    obtain ⟨F, hF, hF1⟩ := y_fuel
    rw [y_dec m (by omega), f_X9_choose_L27, if_neg (y_pos (by omega)), hF]
    have hz := y_subz m (by omega) wh (by omega)
    by_cases hs : m &&& wh = m
    · obtain ⟨tp1, a1, a2, a3⟩ := x_54 (M := M) (pl := pl) (K := fun (y19g_this_toPay : Nat → Int64) => (f_X9_choose_L27 353 M cb pl r (nI wh) K n (nI m + (-1 : Int32)) y19g_this_toPay)) h hw hs 7 0 F (vp_updL tp m (-1 : Int64)) rfl (by omega) (if_pos rfl) (fun t ht hc => by
        have := y_orlt m (by omega) t ht (ycd_s hc).2
        have hle : m ||| 2 ^ t ≤ wh := by rw [← y_sub_or hs (ycd_s hc).1]; exact Nat.and_le_right
        exact (if_neg (show ¬ m ||| 2 ^ t = m by omega)).trans (h1 _ (by omega) hle (y_sub_or hs (ycd_s hc).1)))
      obtain ⟨x, b1, -⟩ := yFd_some (st := yst1 ρ k) hs (by omega) (by omega)
      obtain ⟨tp2, c1, c2⟩ := ih n tp1 (by omega) (by omega) (fun s q1 q2 q3 => by
        by_cases e : s = m
        · rw [e, a2, yD_eq (by omega), b1]; rfl
        · exact (a3 s e).trans ((if_neg e).trans (h1 s (by omega) q2 q3)))
      refine ⟨tp2, ?_, c2⟩
      rw [if_pos (show (nI m &&& (nI wh ^^^ (-1 : Int32))) = (0 : Int32) from hz.mpr hs), y_inb (show m < 128 by omega) (by omega), if_pos rfl, y_cl (by omega)]
      exact a1.trans c1
    · obtain ⟨tp2, c1, c2⟩ := ih n tp (by omega) (by omega) (fun s q1 q2 q3 => by
        rcases Nat.lt_or_ge m s with q | q
        · exact h1 s (by omega) q2 q3
        · exact absurd (by rw [show m = s by omega]; exact q3) hs)
      refine ⟨tp2, ?_, c2⟩
      rw [if_neg (show ¬ (nI m &&& (nI wh ^^^ (-1 : Int32))) = (0 : Int32) from fun z => hs (hz.mp z))]
      exact c1
