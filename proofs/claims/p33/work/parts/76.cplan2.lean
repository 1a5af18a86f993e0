/-- a planner that has weighed -/
def PWG (P : TP) (ρ : Nat → Nat) (k wh : Nat) : Prop := P_whole P = nI wh ∧ (∀ t, t < ρ 0 → P_sizes P t = nI (ρ (1 + t))) ∧ (∀ s, s < 128 → s &&& wh = s → P_rowsOf P s = lN (yrw ρ k s))
theorem y_subbit {s w t : Nat} (h : s &&& w = s) (hs : s.testBit t = true) : w.testBit t = true := by
  have := congrArg (fun x => x.testBit t) h
  simp only [Nat.testBit_and, hs, Bool.true_and] at this
  exact this
theorem y_sub_lt {s w n : Nat} (h : s &&& w = s) (hw : w < 2 ^ n) : s < 2 ^ n := by
  have : s ≤ w := by rw [← h]; exact Nat.and_le_right
  omega
theorem y_sub_or {s w t : Nat} (h : s &&& w = s) (ht : w.testBit t = true) : (s ||| 2 ^ t) &&& w = s ||| 2 ^ t := by
  apply Nat.eq_of_testBit_eq
  intro i
  have h1 := congrArg (fun x => x.testBit i) h
  simp only [Nat.testBit_and] at h1
  rw [Nat.testBit_and, Nat.testBit_or, Nat.testBit_two_pow]
  by_cases e : t = i
  · subst e; simp [ht]
  · simp only [e, decide_false, Bool.or_false]; exact h1
theorem y_or_self {s t : Nat} (h : s.testBit t = true) : s ||| 2 ^ t = s := by
  apply Nat.eq_of_testBit_eq
  intro i
  rw [Nat.testBit_or, Nat.testBit_two_pow]
  by_cases e : t = i
  · subst e; simp [h]
  · simp [e]
theorem y_or_bit {s t : Nat} : (s ||| 2 ^ t).testBit t = true := by
  rw [Nat.testBit_or, Nat.testBit_two_pow]; simp
theorem y_pow7 : ∀ n, n ≤ 7 → 2 ^ n ≤ 128 := by decide +kernel
/-- the two numbers that the class keeps of the best so far -/
def e2 (o : Option (Nat × Nat)) : Int64 := match o with
  | none => 0
  | some x => lN x.1
def e4 (o : Option (Nat × Nat)) : Int32 := match o with
  | none => -1
  | some x => nI x.2
theorem e4_no (n : Nat) (h : n < 7) : ¬ nI n = (-1 : Int32) := (by decide +kernel : ∀ n, n < 7 → ¬ nI n = (-1 : Int32)) n h
/-- the step's cost as a set's rows of one kind have it -/
def yst1 (ρ : Nat → Nat) (k : Nat) (s t : Nat) : Nat := yst (yrw ρ k) (yrw ρ k) (yz ρ) s t
theorem cp_st {P : TP} {ρ : Nat → Nat} {k wh s t : Nat} (hi : INp ρ) (hp : PWG P ρ k wh) (hw : wh < 2 ^ ρ 0) (hs : s &&& wh = s) (ht : wh.testBit t = true) :
    f_X3_cheaperWay P (nI s) (nI t) = some (nI (if 3 * (yrw ρ k s + yz ρ t) < yrw ρ k s * yz ρ t then 1 else 0), ()) ∧ f_X3_stepCost P (nI s) (nI t) (nI (if 3 * (yrw ρ k s + yz ρ t) < yrw ρ k s * yz ρ t then 1 else 0)) = some (lN (yst1 ρ k s t), ()) := by
  have h7 := y_pow7 _ hi.1
  have hs1 := y_sub_lt hs hw
  have ho := y_sub_or hs ht
  have ho1 := y_sub_lt ho hw
  have ht7 : t < 7 := by
    rcases Nat.lt_or_ge t 7 with h | h
    · exact h
    · rw [Nat.testBit_lt_two_pow (show wh < 2 ^ t from Nat.lt_of_lt_of_le hw (Nat.pow_le_pow_right (by omega) (Nat.le_trans hi.1 h)))] at ht
      exact nomatch ht
  have htn : t < ρ 0 := y_lowbits (ρ 0) hi.1 wh hw t ht7 ht
  have b1 := yrw_bd hi k hs1
  have b2 := yrw_bd hi k ho1
  have b3 := hi.2.1 t htn
  have r1 := hp.2.2 s (by omega) hs
  have r2 := hp.2.2 (s ||| 2 ^ t) (by omega) ho
  have r3 := hp.2.1 t htn
  refine ⟨cp_way (by omega) ht7 r1 r3 b1.2 b3.2, ?_⟩
  rw [cp_step (by omega) ht7 (by omega) r1 r3 r2 b1.2 b3.2 b2.2 (by split <;> omega)]
  unfold yst1 yst
  by_cases h0 : s = 0
  · rw [if_pos h0, if_pos h0]
  rw [if_neg h0, if_neg h0]
  show some (lN (min _ ((if (if 3 * (yrw ρ k s + yz ρ t) < yrw ρ k s * yz ρ t then 1 else 0) = 0 then yrw ρ k s * yz ρ t else 3 * (yrw ρ k s + yz ρ t)) + _)), ()) = _
  by_cases h1 : 3 * (yrw ρ k s + yz ρ t) < yrw ρ k s * yz ρ t
  · rw [if_pos h1, if_pos h1, if_neg (by omega)]
  · rw [if_neg h1, if_neg h1, if_pos rfl]
theorem yst1_bd (ρ : Nat → Nat) (k s t : Nat) : yst1 ρ k s t ≤ 1000000000000000 := yst_bd _ _ _ s t
theorem cp_find_L {P : TP} {ρ : Nat → Nat} {k wh s : Nat} {K : Int64 → Int32 → Option (Unit × TP)} (hi : INp ρ) (hp : PWG P ρ k wh) (hw : wh < 2 ^ ρ 0) (hs : s &&& wh = s)
    (hr : ∀ t, t < 7 → ycd wh s t = true → P_restOf P (s ||| 2 ^ t) = lN (yD (yst1 ρ k) wh (s ||| 2 ^ t))) :
    ∀ r j n, j + r = 7 → r < n → f_X3_findNext_L8 P (nI s) K n (e2 (yf (ycd wh s) (fun t => yst1 ρ k s t + yD (yst1 ρ k) wh (s ||| 2 ^ t)) j)) (e4 (yf (ycd wh s) (fun t => yst1 ρ k s t + yD (yst1 ρ k) wh (s ||| 2 ^ t)) j)) (nI j) = K (e2 (yFd (yst1 ρ k) wh s)) (e4 (yFd (yst1 ρ k) wh s)) := by
  intro r
  have h7 := y_pow7 _ hi.1
  have hs1 := y_sub_lt hs hw
  induction r with
  | zero =>
    intro j n hj hn
    obtain ⟨n, rfl⟩ : ∃ m, n = m + 1 := ⟨n - 1, by omega⟩
    rw [f_X3_findNext_L8, show j = 7 by omega]
    exact if_pos (by decide)
  | succ r ih =>
    intro j n hj hn
    obtain ⟨n, rfl⟩ : ∃ m, n = m + 1 := ⟨n - 1, by omega⟩
    have hj7 : j < 7 := by omega
    rw [f_X3_findNext_L8, if_neg (show ¬ (7 : Int32) ≤ nI j by rw [y_c7, y_Ile (by omega) (by omega)]; omega), y_shl j (by omega), y_or, show nI j + (1 : Int32) = nI (j + 1) from nI_1 j]
    by_cases hb : s.testBit j = true
    · have e := y_or_self hb
      rw [e, if_pos rfl]
      have hc : ycd wh s j = false := by unfold ycd; rw [hb]; simp
      rw [← yf_no (p := ycd wh s) (c := fun t => yst1 ρ k s t + yD (yst1 ρ k) wh (s ||| 2 ^ t)) hc]
      exact ih (j + 1) n (by omega) (by omega)
    · have hb' : s.testBit j = false := by simpa using hb
      have ho := y_orlt s (by omega) j hj7 hb'
      rw [if_neg (show ¬ nI (s ||| 2 ^ j) = nI s by rw [y_Ieq (by omega) (by omega)]; omega), hp.1, y_and]
      by_cases hwb : wh.testBit j = true
      · have e := y_sub_or hs hwb
        rw [e, if_pos rfl]
        obtain ⟨c1, c2⟩ := cp_st hi hp hw hs hwb
        have hc : ycd wh s j = true := by unfold ycd; rw [hwb, hb']; rfl
        rw [c1, Option.bind_some, c2, Option.bind_some, cp_rest ho.2, Option.bind_some, hr j hj7 hc]
        show (if e4 _ = (-1 : Int32) then f_X3_findNext_L8 P (nI s) K n (lN _ + lN _) (nI j) (nI (j + 1)) else if (0 : Int32) ≤ lg_cmp (lN _ + lN _) (e2 _) then _ else _) = _
        rw [y_Ladd]
        have bd := yst1_bd ρ k s j
        have bd2 := yD_bd (st := yst1 ρ k) (w := wh) (K := 1000000000000000) (yst1_bd ρ k) 128 (s ||| 2 ^ j) ho.2 (by omega)
        cases hq : yf (ycd wh s) (fun t => yst1 ρ k s t + yD (yst1 ρ k) wh (s ||| 2 ^ t)) j with
        | none =>
          rw [if_pos (show e4 none = (-1 : Int32) from rfl)]
          have := ih (j + 1) n (by omega) (by omega)
          rw [yf_new hc hq] at this
          exact this
        | some x =>
          rcases yf_sp (p := ycd wh s) (c := fun t => yst1 ρ k s t + yD (yst1 ρ k) wh (s ||| 2 ^ t)) j with ⟨q1, -⟩ | ⟨y, q1, q2, q3, -⟩
          · rw [q1] at hq; exact nomatch hq
          rw [q1] at hq
          have hx : x = (yst1 ρ k s y + yD (yst1 ρ k) wh (s ||| 2 ^ y), y) := (Option.some.inj hq).symm
          have bd3 := yst1_bd ρ k s y
          have ho2 := y_orlt s (by omega) y (by omega) (ycd_s q3).2
          have bd4 := yD_bd (st := yst1 ρ k) (w := wh) (K := 1000000000000000) (yst1_bd ρ k) 128 (s ||| 2 ^ y) ho2.2 (by omega)
          have hx1 : x.1 = yst1 ρ k s y + yD (yst1 ρ k) wh (s ||| 2 ^ y) := by rw [hx]
          have hx2 : x.2 = y := by rw [hx]
          rw [if_neg (show ¬ e4 (some x) = (-1 : Int32) from by show ¬ nI x.2 = _; rw [hx2]; exact e4_no y (by omega))]
          show (if (0 : Int32) ≤ lg_cmp (lN _) (lN x.1) then f_X3_findNext_L8 P (nI s) K n (e2 (some x)) (e4 (some x)) (nI (j + 1)) else _) = _
          have hge : ((0 : Int32) ≤ lg_cmp (lN (yst1 ρ k s j + yD (yst1 ρ k) wh (s ||| 2 ^ j))) (lN x.1)) ↔ x.1 ≤ yst1 ρ k s j + yD (yst1 ρ k) wh (s ||| 2 ^ j) := by
            rw [lg_cmp_ge, y_Lle (by omega) (by omega)]
          have hq' : yf (ycd wh s) (fun t => yst1 ρ k s t + yD (yst1 ρ k) wh (s ||| 2 ^ t)) j = some x := by rw [q1, hx]
          have := ih (j + 1) n (by omega) (by omega)
          by_cases hl : x.1 ≤ yst1 ρ k s j + yD (yst1 ρ k) wh (s ||| 2 ^ j)
          · rw [if_pos (hge.mpr hl)]
            rw [yf_keep hq' (fun _ => by show ¬ yst1 ρ k s j + yD (yst1 ρ k) wh (s ||| 2 ^ j) < x.1; omega)] at this
            exact this
          · rw [if_neg (fun z => hl (hge.mp z))]
            rw [yf_less hc hq' (by show yst1 ρ k s j + yD (yst1 ρ k) wh (s ||| 2 ^ j) < x.1; omega)] at this
            exact this
      · have hc : ycd wh s j = false := by
          unfold ycd
          rw [show wh.testBit j = false by simpa using hwb]; rfl
        have hne : ¬ (s ||| 2 ^ j) &&& wh = s ||| 2 ^ j := fun q => hwb (y_subbit q y_or_bit)
        have hle : (s ||| 2 ^ j) &&& wh ≤ s ||| 2 ^ j := Nat.and_le_left
        rw [if_neg (show ¬ nI ((s ||| 2 ^ j) &&& wh) = nI (s ||| 2 ^ j) by rw [y_Ieq (by omega) (by omega)]; exact hne)]
        rw [← yf_no (p := ycd wh s) (c := fun t => yst1 ρ k s t + yD (yst1 ρ k) wh (s ||| 2 ^ t)) hc]
        exact ih (j + 1) n (by omega) (by omega)
