-- a plan is an order of its set
theorem dnb_end : ∀ (l : List Nat) (s j : Nat), l.length ≤ j → dnb s l j = dnb s l l.length := by
  intro l
  induction l with
  | nil => intro s j _; cases j <;> rfl
  | cons t l ih =>
    intro s j hj
    cases j with
    | zero => rw [List.length_cons] at hj; omega
    | succ j => exact ih (s ||| 2 ^ t) j (by rw [List.length_cons] at hj; omega)
theorem pl_facts {st : Nat → Nat → Nat} {w : Nat} (hw : w < 128) : ∀ n s, ymiss w s ≤ n → s &&& w = s → (∀ j, j < (yP st w n s).length → (yP st w n s).getD j 0 < 7 ∧ w.testBit ((yP st w n s).getD j 0) = true ∧ (dnb s (yP st w n s) j).testBit ((yP st w n s).getD j 0) = false) ∧ dnb s (yP st w n s) (yP st w n s).length = w := by
  intro n
  induction n with
  | zero =>
    intro s hm hs
    refine ⟨fun j hj => absurd hj (Nat.not_lt_zero _), ?_⟩
    show s = w
    by_cases e : s = w
    · exact e
    · have := ymiss_pos hs hw e; omega
  | succ n ih =>
    intro s hm hs
    by_cases e : s = w
    · rw [yP, e, yFd_whole]
      exact ⟨fun j hj => absurd hj (Nat.not_lt_zero _), rfl⟩
    · obtain ⟨x, b1, b2, b3, -⟩ := yFd_some (st := st) hs hw e
      have hms := ymiss_step b2 b3
      rw [yP, b1]
      obtain ⟨i1, i2⟩ := ih (s ||| 2 ^ x) (by omega) (y_sub_or hs (ycd_s b3).1)
      show (∀ j, j < (x :: yP st w n (s ||| 2 ^ x)).length → (x :: yP st w n (s ||| 2 ^ x)).getD j 0 < 7 ∧ w.testBit ((x :: yP st w n (s ||| 2 ^ x)).getD j 0) = true ∧ (dnb s (x :: yP st w n (s ||| 2 ^ x)) j).testBit ((x :: yP st w n (s ||| 2 ^ x)).getD j 0) = false) ∧ dnb s (x :: yP st w n (s ||| 2 ^ x)) (x :: yP st w n (s ||| 2 ^ x)).length = w
      refine ⟨fun j hj => ?_, i2⟩
      cases j with
      | zero => exact ⟨b2, (ycd_s b3).1, (ycd_s b3).2⟩
      | succ j => exact i1 j (by rw [List.length_cons] at hj; omega)
theorem k_38 {N K : Nat} {q : CW} {w : TW} (hw : WK N K w q) {R : Option (Int32 × S8) → Prop} {S0 k : Nat} (hS : S0 < 2 ^ q.1 0) (hk : k ≤ 2) (T E cc Q H S) (x1 : Int32) {KK : Int32 → TT → TE → TW → TW → TP → TP → TH → TS → Option (Int32 × S8)} (hK : ∀ P, R (KK 1 T E w cc P Q H S)) : ∀ r n j, j + r = 8 → r < n → ∀ P, R (f_L_holds_L38 x1 (nI (q.1 0)) (nI S0) (nI k) KK n 1 (nI (dnb 0 (yPl q.1 k S0) j)) (nI j) T E w cc P Q H S) := by
  have h7 := hw.2.1.1.1
  have hb := y_2pow hw.2.1.1 hS
  obtain ⟨p1, p2⟩ := pl_facts (st := yst1 q.1 k) hb 7 0 (ymiss_le _ _) (Nat.zero_and _)
  have hl : (yPl q.1 k S0).length ≤ 7 := yP_len 7 0
  intro r
  induction r with
  | zero =>
    intro n j hj hn P
    obtain ⟨n, rfl⟩ : ∃ m, n = m + 1 := ⟨n - 1, by omega⟩
    rw [f_L_holds_L38, if_pos (show (8 : Int32) ≤ nI j from (y_Ile (a := 8) (by omega) (by omega)).mpr (by omega))]
    exact hK P
  | succ r ih =>
    intro n j hj hn P
    obtain ⟨n, rfl⟩ : ∃ m, n = m + 1 := ⟨n - 1, by omega⟩
    obtain ⟨P', e⟩ := ec_order hw hS hk (j := j) (by omega) T E cc P Q H S
    have i1 : ¬ (1 : Int32) = 0 := by decide
    rw [f_L_holds_L38, if_neg (show ¬ (8 : Int32) ≤ nI j from fun z => by have := (y_Ile (a := 8) (by omega) (by omega)).mp z; omega), e, Option.bind_some, if_neg i1]
    by_cases hlt : j < (yPl q.1 k S0).length
    · obtain ⟨t1, t2, t3⟩ := p1 j hlt
      have hd := dnb_step (yPl q.1 k S0) 0 j hlt
      have ht : (yPl q.1 k S0).getD j 0 < q.1 0 := y_bitlt hS t2
      have hdl : dnb 0 (yPl q.1 k S0) j &&& S0 = dnb 0 (yPl q.1 k S0) j := dnb_sub (yPl q.1 k S0) 0 j (Nat.zero_and _) (fun t h => (yP_in 7 0 t h).2)
      have hd1 := y_sub_lt hdl hS
      have hp := y_pow7 _ h7
      change (yPl q.1 k S0).getD j 0 < 7 at t1
      change S0.testBit ((yPl q.1 k S0).getD j 0) = true at t2
      change (dnb 0 (yPl q.1 k S0) j).testBit ((yPl q.1 k S0).getD j 0) = false at t3
      rw [if_pos hlt]
      generalize (yPl q.1 k S0).getD j 0 = t at *
      have n1 : ¬ nI t = (-1 : Int32) := e4_no t t1
      rw [if_neg (show ¬ nI t = (-1 : Int32) from n1), if_neg (show ¬ nI t < (0 : Int32) from y_pos (by omega)), if_neg (show ¬ nI (q.1 0) ≤ nI t from fun z => by have := (y_Ile (by omega) (by omega)).mp z; omega), if_pos (show ((nI S0 >>> (nI t &&& 31)) &&& (1 : Int32)) = (1 : Int32) from (y_bn1 (by omega) (by omega)).mpr t2), if_pos (show ((nI (dnb 0 (yPl q.1 k S0) j) >>> (nI t &&& 31)) &&& (1 : Int32)) = (0 : Int32) from (y_bn0 (by omega) (by omega)).mpr t3)]
      unfold f_L_holds_J109 f_L_holds_J114
      rw [if_neg (show ¬ nI t = (-1 : Int32) from n1)]
      show R (f_L_holds_L38 x1 (nI (q.1 0)) (nI S0) (nI k) KK n 1 (nI (dnb 0 (yPl q.1 k S0) j) ||| ((1 : Int32) <<< (nI t &&& 31))) (nI j + (1 : Int32)) T E w cc P' Q H S)
      rw [y_or1 (x := 0) (by omega), ← hd, show (1 : Int32) = nI 1 from rfl, y_Iadd]
      exact ih n (j + 1) (by omega) (by omega) P'
    · have hend := dnb_end (yPl q.1 k S0) 0 j (by omega)
      have hfull : dnb 0 (yPl q.1 k S0) j = S0 := hend.trans p2
      have hend2 : dnb 0 (yPl q.1 k S0) (j + 1) = dnb 0 (yPl q.1 k S0) j := (dnb_end (yPl q.1 k S0) 0 (j + 1) (by omega)).trans hend.symm
      rw [if_neg hlt, if_pos rfl, if_pos (congrArg nI hfull)]
      unfold f_L_holds_J109 f_L_holds_J114
      rw [if_pos rfl]
      show R (f_L_holds_L38 x1 (nI (q.1 0)) (nI S0) (nI k) KK n 1 (nI (dnb 0 (yPl q.1 k S0) j) ||| (0 : Int32)) (nI j + (1 : Int32)) T E w cc P' Q H S)
      rw [show nI (dnb 0 (yPl q.1 k S0) j) ||| (0 : Int32) = nI (dnb 0 (yPl q.1 k S0) j) from by rw [show (0 : Int32) = nI 0 from rfl, y_or, Nat.or_zero], ← hend2, show nI j + (1 : Int32) = nI (j + 1) from y_Iadd j 1]
      exact ih n (j + 1) (by omega) (by omega) P'

theorem k_21 {N K : Nat} {q : CW} {w : TW} (hw : WK N K w q) {R : Option (Int32 × S8) → Prop} {S0 : Nat} (hS : S0 < 2 ^ q.1 0) (T E cc Q H S) (x1 : Int32) {KK : Int32 → TT → TE → TW → TW → TP → TP → TH → TS → Option (Int32 × S8)} (hK : ∀ P, R (KK 1 T E w cc P Q H S)) : ∀ r n k, k + r = 3 → r < n → ∀ P, R (f_L_holds_L21 x1 (nI (q.1 0)) (nI S0) KK n 1 (nI k) T E w cc P Q H S) := by
  intro r
  induction r with
  | zero =>
    intro n k hk hn P
    obtain ⟨n, rfl⟩ : ∃ m, n = m + 1 := ⟨n - 1, by omega⟩
    rw [f_L_holds_L21, if_pos (show (3 : Int32) ≤ nI k from (y_Ile (a := 3) (by omega) (by omega)).mpr (by omega))]
    exact hK P
  | succ r ih =>
    intro n k hk hn P
    obtain ⟨n, rfl⟩ : ∃ m, n = m + 1 := ⟨n - 1, by omega⟩
    have i1 : ¬ (1 : Int32) = 0 := by decide
    rw [f_L_holds_L21, if_neg (show ¬ (3 : Int32) ≤ nI k from fun z => by have := (y_Ile (a := 3) (by omega) (by omega)).mp z; omega), if_neg i1]
    refine k_38 hw hS (k := k) (by omega) T E cc Q H S x1 (fun P => ?_) 8 9 0 (by omega) (by omega) P
    show R (f_L_holds_L21 x1 (nI (q.1 0)) (nI S0) KK n 1 (nI k + (1 : Int32)) T E w cc P Q H S)
    rw [show nI k + (1 : Int32) = nI (k + 1) from y_Iadd k 1]
    exact ih n (k + 1) (by omega) (by omega) P
-- the pairs
theorem pnv_un {ρ : Nat → Nat} {p : Nat} (h : ¬ 0 < ρ (8 + p)) (j : Nat) : pnv ρ p j = -1 := if_neg h
theorem y_k1 {n : Nat} (h : n ≤ 1000) : ¬ nI n = (-1 : Int32) := fun z => absurd (by rw [z]; exact y_m1n) (y_pos (n := n) (by omega))
theorem pr_facts {N K : Nat} {q : CW} {w : TW} (hw : WK N K w q) {a b : Nat} (hab : a < b) (hb : b < q.1 0) : ∃ c, c < 21 ∧ yq c = 7 * a + b ∧ q.1 (8 + (7 * a + b)) ≤ 1 ∧ q.1 (57 + (7 * a + b)) ≤ 1000 ∧ q.1 (106 + (7 * a + b)) ≤ 1000 ∧ yBl q.1 (7 * a + b) ≤ 1000 ∧ q.1 (204 + (7 * a + b)) ≤ 20 ∧ yDf q.1 (7 * a + b) ≤ 1000 ∧ q.1 (253 + (7 * a + b)) ≤ N ∧ (0 < q.1 (155 + (7 * a + b)) → 0 < q.1 (8 + (7 * a + b)) ∧ 0 < q.1 (253 + (7 * a + b))) := by
  have h7 := hw.2.1.1.1
  obtain ⟨h1, h2⟩ := yq_ab b (by omega) a hab
  obtain ⟨i1, i2, i3, i4, i5, i6, i7⟩ := hw.2.1.1.2.2 _ h1
  obtain ⟨d1, d2, d3⟩ := yDf_le hw.2.1.1 h1
  obtain ⟨a1, a2⟩ := hw.2.1.2.2.2.1 _ h1
  have v := hw.2.2.1 _ h1
  rw [h2] at i1 i2 i3 i7 d1 d2 d3 a1 a2 v
  exact ⟨_, h1, h2, i1, i2, i3, d1, a1, d3, a2, fun z => ⟨i7 z, v z⟩⟩
theorem k_464 {N K : Nat} {q : CW} {w : TW} (hw : WK N K w q) {R : Option (Int32 × S8) → Prop} {a b : Nat} (hab : a < b) (hb : b < q.1 0) (T E cc P Q H S) (x2 x3 : Int32) (x7 x9 : Int64) (x11 x12 x13 : Int32) (hN : N < 2147483648) {KK : Int32 → Int32 → Int32 → Int32 → Int32 → TT → TE → TW → TW → TP → TP → TH → TS → Option (Int32 × S8)} (hK : R (KK 1 x11 x12 x13 (nI b + (1 : Int32)) T E w cc P Q H S)) : R (f_L_holds_J464 KK x2 x3 x7 x9 x11 x12 x13 (nI a) (nI b) (pnv q.1 (7 * a + b) 3) T E w cc P Q H S) := by
  unfold f_L_holds_J464
  by_cases c : pnv q.1 (7 * a + b) 3 = (-1 : Int32)
  · rw [if_pos c]; exact hK
  · rw [if_neg c, show f_L_call T E w cc P Q H S (4 : Int32) (nI a) (nI b) (4 : Int32) = _ from ec_pair hw hab hb (j := 4) (by omega) T E cc P Q H S, Option.bind_some]
    obtain ⟨c0, -, -, -, -, -, -, -, -, hs, hm⟩ := pr_facts hw hab hb
    have hl : 0 < q.1 (8 + (7 * a + b)) := by
      by_cases z : 0 < q.1 (8 + (7 * a + b))
      · exact z
      · exact absurd (pnv_un z 3) c
    have hmem : 0 < q.1 (155 + (7 * a + b)) := by
      by_cases z : 0 < q.1 (155 + (7 * a + b))
      · exact z
      · refine absurd ?_ c
        unfold pnv
        rw [if_pos hl, if_neg (by omega), if_neg (by omega), if_neg (by omega), if_pos rfl, if_neg z]
    have e4 : pnv q.1 (7 * a + b) 4 = nI (q.1 (253 + (7 * a + b))) := by
      unfold pnv
      rw [if_pos hl, if_neg (by omega), if_neg (by omega), if_neg (by omega), if_neg (by omega)]
    have := (hm hmem).2
    rw [e4, if_neg (show ¬ nI (q.1 (253 + (7 * a + b))) ≤ (0 : Int32) from fun z => by have := (y_Ile (b := 0) (by omega) (by omega)).mp z; omega)]
    exact hK
theorem pnv_20 {ρ : Nat → Nat} {p : Nat} (h : pnv ρ p 3 = (-1 : Int32)) (ha : ρ (204 + p) ≤ 20) : pnv ρ p 2 = pnv ρ p 0 := by
  by_cases z : 0 < ρ (8 + p)
  · unfold pnv at h ⊢
    rw [if_pos z, if_neg (by omega), if_neg (by omega), if_neg (by omega), if_pos rfl] at h
    rw [if_pos z, if_neg (by omega), if_neg (by omega), if_pos rfl, if_pos z, if_pos rfl]
    by_cases m : 0 < ρ (155 + p)
    · rw [if_pos m] at h
      exact absurd h (y_k1 (by omega))
    · unfold yBl ysh
      rw [if_neg (by omega), if_pos rfl, if_neg m]
  · rw [pnv_un z, pnv_un z]
theorem k_435 {N K : Nat} {q : CW} {w : TW} (hw : WK N K w q) {R : Option (Int32 × S8) → Prop} {a b : Nat} (hab : a < b) (hb : b < q.1 0) (T E cc P Q H S) (x2 x3 : Int32) (x7 x9 : Int64) (x11 x12 x13 : Int32) (hN : N < 2147483648) {KK : Int32 → Int32 → Int32 → Int32 → Int32 → TT → TE → TW → TW → TP → TP → TH → TS → Option (Int32 × S8)} (hK : R (KK 1 x11 x12 x13 (nI b + (1 : Int32)) T E w cc P Q H S)) : R (f_L_holds_J435 KK x2 x3 x7 x9 x11 x12 x13 (nI a) (nI b) (pnv q.1 (7 * a + b) 3) T E w cc P Q H S) := by
  obtain ⟨c0, -, -, -, -, -, -, ha, -, -, -⟩ := pr_facts hw hab hb
  unfold f_L_holds_J435
  by_cases c : pnv q.1 (7 * a + b) 3 = (-1 : Int32)
  · rw [if_pos c, show f_L_call T E w cc P Q H S (4 : Int32) (nI a) (nI b) (2 : Int32) = _ from ec_pair hw hab hb (j := 2) (by omega) T E cc P Q H S, Option.bind_some]
    rw [show f_L_call T E w cc P Q H S (4 : Int32) (nI a) (nI b) (0 : Int32) = _ from ec_pair hw hab hb (j := 0) (by omega) T E cc P Q H S, Option.bind_some, if_pos (pnv_20 c ha)]
    exact k_464 hw hab hb T E cc P Q H S x2 x3 x7 x9 x11 x12 x13 hN hK
  · rw [if_neg c]
    exact k_464 hw hab hb T E cc P Q H S x2 x3 x7 x9 x11 x12 x13 hN hK
theorem k_417 {N K : Nat} {q : CW} {w : TW} (hw : WK N K w q) {R : Option (Int32 × S8) → Prop} {a b : Nat} (hab : a < b) (hb : b < q.1 0) (T E cc P Q H S) (x2 x3 : Int32) (x7 x9 : Int64) (x11 x12 x16 s0 : Int32) (hN : N < 2147483648) {KK : Int32 → Int32 → Int32 → Int32 → Int32 → TT → TE → TW → TW → TP → TP → TH → TS → Option (Int32 × S8)} (hK : R (KK 1 x11 x12 s0 (nI b + (1 : Int32)) T E w cc P Q H S)) : R (f_L_holds_J417 KK x2 x3 x7 x9 x11 x12 (nI a) (nI b) x16 1 (pnv q.1 (7 * a + b) 3) s0 T E w cc P Q H S) := by
  have i1 : ¬ (1 : Int32) = 0 := by decide
  unfold f_L_holds_J417
  rw [if_neg i1]
  exact k_435 hw hab hb T E cc P Q H S x2 x3 x7 x9 x11 x12 s0 hN hK
/-- a difference, told by its sign -/
theorem y_ab {x y : Nat} (hx : x ≤ 1000) (hy : y ≤ 1000) : ((0 : Int32) ≤ nI x - nI y ∧ nI x - nI y = nI (if y ≤ x then x - y else y - x)) ∨ (¬ (0 : Int32) ≤ nI x - nI y ∧ -(nI x - nI y) = nI (if y ≤ x then x - y else y - x)) := by
  by_cases c : y ≤ x
  · rw [if_pos c, y_Isub c]
    exact Or.inl ⟨(y_Ile (a := 0) (by omega) (by omega)).mpr (Nat.zero_le _), rfl⟩
  · rw [if_neg c]
    refine Or.inr ⟨?_, ?_⟩
    · exact (y_neg (y_subn (by omega) (by omega)) (n := 0) (by omega)).2.1
    · rw [Int32.neg_sub, y_Isub (by omega)]
theorem k_394 {N K : Nat} {q : CW} {w : TW} (hw : WK N K w q) {R : Option (Int32 × S8) → Prop} {a b : Nat} (hab : a < b) (hb : b < q.1 0) (T E cc P Q H S) (x2 x3 : Int32) (x7 x9 : Int64) (x11 x12 x16 : Int32) (hN : N < 2147483648) {s : Option (Nat × Nat)} (hs : VB q.1 s) (hl : 0 < q.1 (8 + (7 * a + b))) (hx : ((0 : Int32) ≤ x16 ∧ x16 = nI (yDf q.1 (7 * a + b))) ∨ (¬ (0 : Int32) ≤ x16 ∧ -x16 = nI (yDf q.1 (7 * a + b)))) {KK : Int32 → Int32 → Int32 → Int32 → Int32 → TT → TE → TW → TW → TP → TP → TH → TS → Option (Int32 × S8)} (hK : R (KK 1 x11 x12 (gd q.1 (stp q.1 a b s)) (nI b + (1 : Int32)) T E w cc P Q H S)) : R (f_L_holds_J394 KK x2 x3 x7 x9 x11 x12 (gd q.1 s) (nI a) (nI b) x16 1 (pnv q.1 (7 * a + b) 3) (nI (yDf q.1 (7 * a + b))) T E w cc P Q H S) := by
  have h7 := hw.2.1.1.1
  obtain ⟨g1, g2⟩ := gd_le hw.2.1 hab (by omega) hs hl
  unfold f_L_holds_J394
  by_cases z : nI (yDf q.1 (7 * a + b)) ≤ gd q.1 s
  · rw [if_pos z]
    rw [g1 z] at hK
    unfold f_L_holds_J415
    exact k_417 hw hab hb T E cc P Q H S x2 x3 x7 x9 x11 x12 x16 _ hN hK
  · rw [if_neg z]
    rw [g2 z] at hK
    rcases hx with ⟨c1, c2⟩ | ⟨c1, c2⟩
    · rw [if_pos c1]
      refine k_417 hw hab hb T E cc P Q H S x2 x3 x7 x9 x11 x12 x16 x16 hN ?_
      rw [c2]; exact hK
    · rw [if_neg c1]
      refine k_417 hw hab hb T E cc P Q H S x2 x3 x7 x9 x11 x12 x16 (-x16) hN ?_
      rw [c2]; exact hK
theorem k_373 {N K : Nat} {q : CW} {w : TW} (hw : WK N K w q) {R : Option (Int32 × S8) → Prop} {a b : Nat} (hab : a < b) (hb : b < q.1 0) (T E cc P Q H S) (x2 x3 : Int32) (x7 x9 : Int64) (x11 x16 s1 : Int32) (hN : N < 2147483648) {s : Option (Nat × Nat)} (hs : VB q.1 s) (hl : 0 < q.1 (8 + (7 * a + b))) (hx : ((0 : Int32) ≤ x16 ∧ x16 = nI (yDf q.1 (7 * a + b))) ∨ (¬ (0 : Int32) ≤ x16 ∧ -x16 = nI (yDf q.1 (7 * a + b)))) {KK : Int32 → Int32 → Int32 → Int32 → Int32 → TT → TE → TW → TW → TP → TP → TH → TS → Option (Int32 × S8)} (hK : R (KK 1 x11 (s1 + nI (yDf q.1 (7 * a + b))) (gd q.1 (stp q.1 a b s)) (nI b + (1 : Int32)) T E w cc P Q H S)) : R (f_L_holds_J373 KK x2 x3 x7 x9 x11 (gd q.1 s) (nI a) (nI b) x16 1 (pnv q.1 (7 * a + b) 3) (nI (yDf q.1 (7 * a + b))) s1 T E w cc P Q H S) := by
  have i1 : ¬ (1 : Int32) = 0 := by decide
  unfold f_L_holds_J373
  rw [if_neg i1]
  rcases hx with ⟨c1, c2⟩ | ⟨c1, c2⟩
  · rw [if_pos c1]
    have := k_394 hw hab hb T E cc P Q H S x2 x3 x7 x9 x11 (s1 + nI (yDf q.1 (7 * a + b))) x16 hN hs hl (Or.inl ⟨c1, c2⟩) (KK := KK) hK
    rw [← c2] at this ⊢
    exact this
  · rw [if_neg c1, c2]
    exact k_394 hw hab hb T E cc P Q H S x2 x3 x7 x9 x11 (s1 + nI (yDf q.1 (7 * a + b))) x16 hN hs hl (Or.inr ⟨c1, c2⟩) (KK := KK) hK
theorem k_355 {N K : Nat} {q : CW} {w : TW} (hw : WK N K w q) {R : Option (Int32 × S8) → Prop} {a b : Nat} (hab : a < b) (hb : b < q.1 0) (T E cc P Q H S) (x2 x3 : Int32) (x7 x9 : Int64) (s0 s1 x12 x16 : Int32) (hN : N < 2147483648) {s : Option (Nat × Nat)} (hs : VB q.1 s) (hl : 0 < q.1 (8 + (7 * a + b))) (hx : ((0 : Int32) ≤ x16 ∧ x16 = nI (yDf q.1 (7 * a + b))) ∨ (¬ (0 : Int32) ≤ x16 ∧ -x16 = nI (yDf q.1 (7 * a + b)))) {KK : Int32 → Int32 → Int32 → Int32 → Int32 → TT → TE → TW → TW → TP → TP → TH → TS → Option (Int32 × S8)} (hK : R (KK 1 (s1 + s0) (x12 + nI (yDf q.1 (7 * a + b))) (gd q.1 (stp q.1 a b s)) (nI b + (1 : Int32)) T E w cc P Q H S)) : R (f_L_holds_J355 KK x2 x3 x7 x9 x12 (gd q.1 s) (nI a) (nI b) x16 1 (pnv q.1 (7 * a + b) 3) s0 s1 T E w cc P Q H S) := by
  unfold f_L_holds_J355
  rcases hx with ⟨c1, c2⟩ | ⟨c1, c2⟩
  · rw [if_pos c1]
    have := k_373 hw hab hb T E cc P Q H S x2 x3 x7 x9 (s1 + s0) x16 x12 hN hs hl (Or.inl ⟨c1, c2⟩) (KK := KK) hK
    rw [← c2] at this
    exact this
  · rw [if_neg c1, c2]
    exact k_373 hw hab hb T E cc P Q H S x2 x3 x7 x9 (s1 + s0) x16 x12 hN hs hl (Or.inr ⟨c1, c2⟩) (KK := KK) hK
/-- one pair -/
theorem k_pair {N K : Nat} {q : CW} {w : TW} (hw : WK N K w q) {R : Option (Int32 × S8) → Prop} {a b : Nat} (hab : a < b) (hb : b < q.1 0) (T E cc P Q H S) (x2 x3 : Int32) (x7 x9 : Int64) (hN : N < 2147483648) (m o : Nat) {s : Option (Nat × Nat)} (hs : VB q.1 s) {KK : Int32 → Int32 → Int32 → Int32 → TT → TE → TW → TW → TP → TP → TH → TS → Option (Int32 × S8)} (n : Nat) (hK : R (f_L_holds_L275 x2 x3 x7 x9 (nI a) KK n 1 (nI (m + yb (q.1 (155 + (7 * a + b))))) (nI (o + yDo q.1 (7 * a + b))) (gd q.1 (stp q.1 a b s)) (nI (b + 1)) T E w cc P Q H S)) (h2 : x2 = nI (q.1 0)) : R (f_L_holds_L275 x2 x3 x7 x9 (nI a) KK (n + 1) 1 (nI m) (nI o) (gd q.1 s) (nI b) T E w cc P Q H S) := by
  have h7 := hw.2.1.1.1
  subst h2
  have i1 : ¬ (1 : Int32) = 0 := by decide
  have e2 := ec_pair hw hab hb (j := 2) (by omega) T E cc P Q H S
  have e1 := ec_pair hw hab hb (j := 1) (by omega) T E cc P Q H S
  have e0 := ec_pair hw hab hb (j := 0) (by omega) T E cc P Q H S
  have e3 := ec_pair hw hab hb (j := 3) (by omega) T E cc P Q H S
  obtain ⟨c0, hc0, hcq, p8, p57, p106, pbl, p204, pdf, p253, pm⟩ := pr_facts hw hab hb
  rw [f_L_holds_L275, if_neg (show ¬ nI (q.1 0) ≤ nI b from fun z => by have := (y_Ile (by omega) (by omega)).mp z; omega), if_neg i1]
  rw [show f_L_call T E w cc P Q H S (4 : Int32) (nI a) (nI b) (2 : Int32) = _ from e2, Option.bind_some]
  rw [show f_L_call T E w cc P Q H S (4 : Int32) (nI a) (nI b) (1 : Int32) = _ from e1, Option.bind_some]
  rw [show f_L_call T E w cc P Q H S (4 : Int32) (nI a) (nI b) (0 : Int32) = _ from e0, Option.bind_some]
  rw [← show nI b + (1 : Int32) = nI (b + 1) from y_Iadd b 1] at hK
  by_cases hl : 0 < q.1 (8 + (7 * a + b))
  · have v2 : pnv q.1 (7 * a + b) 2 = nI (yBl q.1 (7 * a + b)) := by
      unfold pnv
      rw [if_pos hl, if_neg (by omega), if_neg (by omega), if_pos rfl]
    have v1 : pnv q.1 (7 * a + b) 1 = nI (q.1 (106 + (7 * a + b))) := by
      unfold pnv
      rw [if_pos hl, if_neg (by omega), if_pos rfl]
    have v0 : pnv q.1 (7 * a + b) 0 = nI (q.1 (57 + (7 * a + b))) := by
      unfold pnv
      rw [if_pos hl, if_pos rfl]
    have hdo : yDo q.1 (7 * a + b) = yDf q.1 (7 * a + b) := if_pos hl
    have hx := y_ab pbl p106
    rw [show (if q.1 (106 + (7 * a + b)) ≤ yBl q.1 (7 * a + b) then yBl q.1 (7 * a + b) - q.1 (106 + (7 * a + b)) else q.1 (106 + (7 * a + b)) - yBl q.1 (7 * a + b)) = yDf q.1 (7 * a + b) from rfl] at hx
    rw [v2, v1, v0, if_neg (y_k1 (by omega))]
    unfold f_L_holds_J328
    rw [show f_L_call T E w cc P Q H S (4 : Int32) (nI a) (nI b) (3 : Int32) = _ from e3, Option.bind_some]
    rw [hdo, ← y_Iadd m, ← y_Iadd o] at hK
    by_cases hm : 0 < q.1 (155 + (7 * a + b))
    · have v3 : pnv q.1 (7 * a + b) 3 = nI (q.1 (204 + (7 * a + b))) := by
        unfold pnv
        rw [if_pos hl, if_neg (by omega), if_neg (by omega), if_neg (by omega), if_pos rfl, if_pos hm]
      have c3 : ¬ pnv q.1 (7 * a + b) 3 = (-1 : Int32) := by rw [v3]; exact y_k1 (by omega)
      rw [yb_1 hm] at hK
      rw [if_neg c3]
      exact k_355 hw hab hb T E cc P Q H S _ x3 x7 x9 1 (nI m) (nI o) _ hN hs hl hx (KK := fun x4 x11 x12 x13 x15 T E w cc P Q H S => f_L_holds_L275 (nI (q.1 0)) x3 x7 x9 (nI a) KK n x4 x11 x12 x13 x15 T E w cc P Q H S) hK
    · have c3 : pnv q.1 (7 * a + b) 3 = (-1 : Int32) := by
        unfold pnv
        rw [if_pos hl, if_neg (by omega), if_neg (by omega), if_neg (by omega), if_pos rfl, if_neg hm]
      rw [yb_0 hm] at hK
      rw [if_pos c3]
      exact k_355 hw hab hb T E cc P Q H S _ x3 x7 x9 0 (nI m) (nI o) _ hN hs hl hx (KK := fun x4 x11 x12 x13 x15 T E w cc P Q H S => f_L_holds_L275 (nI (q.1 0)) x3 x7 x9 (nI a) KK n x4 x11 x12 x13 x15 T E w cc P Q H S) hK
  · have hm : ¬ 0 < q.1 (155 + (7 * a + b)) := fun z => hl (pm z).1
    have hdo : yDo q.1 (7 * a + b) = 0 := if_neg hl
    have hst : stp q.1 a b s = s := if_neg hl
    rw [hdo, yb_0 hm, hst, Nat.add_zero, Nat.add_zero] at hK
    have u2 := pnv_un hl 2
    have u1 := pnv_un hl 1
    have u0 := pnv_un hl 0
    have u3 := pnv_un hl 3
    have d0 : (-1 : Int32) - (-1 : Int32) = 0 := by decide
    have z0 : (0 : Int32) ≤ 0 := by decide
    have a0 : ∀ x : Int32, x + 0 = x := fun x => Int32.add_zero x
    rw [u2, u1, u0, if_pos rfl, d0]
    unfold f_L_holds_J328
    rw [show f_L_call T E w cc P Q H S (4 : Int32) (nI a) (nI b) (3 : Int32) = _ from e3, Option.bind_some, if_pos u3]
    unfold f_L_holds_J355
    rw [if_pos z0]
    unfold f_L_holds_J373
    rw [if_pos rfl, a0, a0]
    unfold f_L_holds_J415 f_L_holds_J417
    rw [if_pos rfl, if_pos rfl, if_pos u3]
    exact k_435 hw hab hb T E cc P Q H S _ x3 x7 x9 (nI m) (nI o) (gd q.1 s) hN (KK := fun x4 x11 x12 x13 x15 T E w cc P Q H S => f_L_holds_L275 (nI (q.1 0)) x3 x7 x9 (nI a) KK n x4 x11 x12 x13 x15 T E w cc P Q H S) hK
theorem k_275 {N K : Nat} {q : CW} {w : TW} (hw : WK N K w q) {R : Option (Int32 × S8) → Prop} {a : Nat} (T E cc P Q H S) (x3 : Int32) (x7 x9 : Int64) (hN : N < 2147483648) {KK : Int32 → Int32 → Int32 → Int32 → TT → TE → TW → TW → TP → TP → TH → TS → Option (Int32 × S8)} : ∀ r n b m o s, b + r = q.1 0 → r < n → a < b → VB q.1 s → R (KK 1 (nI (m + s2i (fun p => yb (q.1 (155 + p))) a r b)) (nI (o + s2i (yDo q.1) a r b)) (gd q.1 (inn q.1 a r b s)) T E w cc P Q H S) → R (f_L_holds_L275 (nI (q.1 0)) x3 x7 x9 (nI a) KK n 1 (nI m) (nI o) (gd q.1 s) (nI b) T E w cc P Q H S) := by
  have h7 := hw.2.1.1.1
  intro r
  induction r with
  | zero =>
    intro n b m o s hb hn _ _ hK
    obtain ⟨n, rfl⟩ : ∃ m, n = m + 1 := ⟨n - 1, by omega⟩
    rw [f_L_holds_L275, if_pos (show nI (q.1 0) ≤ nI b from (y_Ile (by omega) (by omega)).mpr (by omega))]
    exact hK
  | succ r ih =>
    intro n b m o s hb hn hab hs hK
    obtain ⟨n, rfl⟩ : ∃ m, n = m + 1 := ⟨n - 1, by omega⟩
    refine k_pair hw hab (by omega) T E cc P Q H S _ x3 x7 x9 hN m o hs n ?_ rfl
    refine ih n (b + 1) _ _ _ (by omega) (by omega) (by omega) (vb_stp hs hab (by omega)) ?_
    rw [s2i, s2i, ← Nat.add_assoc m, ← Nat.add_assoc o] at hK
    exact hK
theorem k_258 {N K : Nat} {q : CW} {w : TW} (hw : WK N K w q) {R : Option (Int32 × S8) → Prop} (T E cc P Q H S) (x3 : Int32) (x7 x9 : Int64) (hN : N < 2147483648) {KK : Int32 → Int32 → Int32 → Int32 → TT → TE → TW → TW → TP → TP → TH → TS → Option (Int32 × S8)} : ∀ r n a m o s, a + r = q.1 0 → r < n → VB q.1 s → R (KK 1 (nI (m + s2o (fun p => yb (q.1 (155 + p))) (q.1 0) r a)) (nI (o + s2o (yDo q.1) (q.1 0) r a)) (gd q.1 (otr q.1 (q.1 0) r a s)) T E w cc P Q H S) → R (f_L_holds_L258 (nI (q.1 0)) x3 x7 x9 KK n 1 (nI m) (nI o) (gd q.1 s) (nI a) T E w cc P Q H S) := by
  have h7 := hw.2.1.1.1
  intro r
  induction r with
  | zero =>
    intro n a m o s ha hn _ hK
    obtain ⟨n, rfl⟩ : ∃ m, n = m + 1 := ⟨n - 1, by omega⟩
    rw [f_L_holds_L258, if_pos (show nI (q.1 0) ≤ nI a from (y_Ile (by omega) (by omega)).mpr (by omega))]
    exact hK
  | succ r ih =>
    intro n a m o s ha hn hs hK
    obtain ⟨n, rfl⟩ : ∃ m, n = m + 1 := ⟨n - 1, by omega⟩
    have i1 : ¬ (1 : Int32) = 0 := by decide
    rw [f_L_holds_L258, if_neg (show ¬ nI (q.1 0) ≤ nI a from fun z => by have := (y_Ile (by omega) (by omega)).mp z; omega), if_neg i1, show nI a + (1 : Int32) = nI (a + 1) from y_Iadd a 1]
    refine k_275 hw T E cc P Q H S x3 x7 x9 hN (q.1 0 - (a + 1)) 8 (a + 1) m o s (by omega) (by omega) (by omega) hs ?_
    refine ih n (a + 1) _ _ _ (by omega) (by omega) (vb_inn _ _ _ (by omega) (by omega) hs) ?_
    rw [s2o, s2o, ← Nat.add_assoc m, ← Nat.add_assoc o] at hK
    exact hK
