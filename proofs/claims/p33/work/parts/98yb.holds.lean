-- calls of the class that act, told in full
theorem HK3.len {N K : Nat} {H : TH} {hs : List CW} (h : HK3 N K H hs) : hs.length ≤ 14 := by
  obtain ⟨x, -, h2, -⟩ := h
  exact h2
theorem HK3.low {N K M L n : Nat} {H H' : TH} {hs : List CW} (h0 : HK3 N K H hs) (h : HK3 M L H' (hs.take n)) : HK3 N K H' (hs.take n) := by
  obtain ⟨x0, a1, a2, a3, a4, a5⟩ := h0
  obtain ⟨x, h1, h2, h3, h4, h5⟩ := h
  refine ⟨x, h1, h2, h3, h4, fun i hi => ⟨(h5 i hi).1, ?_⟩⟩
  rw [List.length_take] at hi
  have e : (hs.take n).getD i q00 = hs.getD i q00 := by
    rw [List.getD_eq_getElem?_getD, List.getD_eq_getElem?_getD, List.getElem?_take_of_lt (by omega)]
  rw [e]
  exact (a5 i (by omega)).2
theorem rem_c (q : CW) (hs : List CW) : rem q hs = q :: hs.take 13 := rfl
theorem rem_c2 (q p : CW) (hs : List CW) : rem p (q :: hs.take 13) = p :: q :: hs.take 12 := by
  rw [rem_c]
  show p :: q :: (hs.take 13).take 12 = _
  rw [List.take_take, Nat.min_eq_left (by omega)]
theorem ec_weeks {N K : Nat} {q : CW} {hs : List CW} {w : TW} {H : TH} {j : Nat} (hN : N < 500000) (hj : 1 ≤ j ∧ j ≤ 20) (hw : WK N K w q) (hH : HK3 N K H hs) (T : TT) (E : TE) (cc : TW) (P Q : TP) (S : TS) (b c : Int32) : ∃ w' H', f_L_call T E w cc P Q H S 11 (nI j) b c = some (nI (yct (fun c => yWn q.1 j (155 + yq c)) 21), (T, E, w', cc, P, Q, H', S)) ∧ WK (N + 20) K w' (yWn q.1 j, q.2) ∧ HK3 N K H' (rem q hs) := by
  obtain ⟨w', H', a, b1, c1⟩ := e_weeks hN hj hw hH
  refine ⟨w', H', ?_, b1, c1⟩
  unfold f_L_call
  rw [if_neg (by decide), if_neg (by decide), if_neg (by decide), if_neg (by decide), if_neg (by decide), if_neg (by decide), if_neg (by decide), if_neg (by decide), if_neg (by decide), if_neg (by decide), if_neg (by decide), if_pos rfl]
  unfold f_L_tryWeeks
  rw [a]; rfl
theorem ec_undo {N K : Nat} {p : CW} {hs : List CW} {w : TW} {H : TH} (hH : HK3 N K H (p :: hs)) (T : TT) (E : TE) (cc : TW) (P Q : TP) (S : TS) (b c d : Int32) : ∃ w' H', f_L_call T E w cc P Q H S 13 b c d = some (nI hs.length, (T, E, w', cc, P, Q, H', S)) ∧ WK N K w' p ∧ HK3 N K H' hs := by
  obtain ⟨w', H', a, b1, c1⟩ := e_undo (q := p) (w := w) hH
  refine ⟨w', H', ?_, b1, c1⟩
  unfold f_L_call
  rw [if_neg (by decide), if_neg (by decide), if_neg (by decide), if_neg (by decide), if_neg (by decide), if_neg (by decide), if_neg (by decide), if_neg (by decide), if_neg (by decide), if_neg (by decide), if_neg (by decide), if_neg (by decide), if_neg (by decide), if_pos rfl]
  unfold f_L_tryUndo
  rw [a]; rfl
theorem ec_run {N K : Nat} {q : CW} {hs : List CW} {w : TW} {H : TH} {S0 : Nat} (hN : N < 500000) (hS : S0 < 2 ^ q.1 0) (h0 : 0 < S0) (hw : WK N K w q) (hH : HK3 N K H hs) (T : TT) (E : TE) (cc : TW) (P Q : TP) (S : TS) (b c : Int32) : ∃ w' P' Q' H', f_L_call T E w cc P Q H S 10 (nI S0) b c = some (nI (yRn S0 q.1 307 - q.1 307), (T, E, w', cc, P', Q', H', S)) ∧ WK (N + 50) (K + 1) w' (yRn S0 q.1, yσ q.1 S0 q.2) ∧ HK3 N K H' (rem q hs) := by
  obtain ⟨w', P', Q', H', a, b1, c1⟩ := e_run (P := P) (Q := Q) hN hS h0 hw hH
  refine ⟨w', P', Q', H', ?_, b1, c1⟩
  unfold f_L_call
  rw [if_neg (by decide), if_neg (by decide), if_neg (by decide), if_neg (by decide), if_neg (by decide), if_neg (by decide), if_neg (by decide), if_neg (by decide), if_neg (by decide), if_neg (by decide), if_pos rfl]
  unfold f_L_tryRun
  rw [a]; rfl
-- after twenty-one weeks no memory is left
theorem yWk_y {ρ : Nat → Nat} {p : Nat} (hp : p < 49) (h : 0 < yWk ρ (155 + p)) : 0 < ρ (155 + p) ∧ ρ (204 + p) + 1 ≤ ρ 304 ∧ yWk ρ (204 + p) = ρ (204 + p) + 1 := by
  rw [yWk_m ρ hp] at h
  by_cases z : 0 < ρ (155 + p) ∧ ρ 304 < ρ (204 + p) + 1
  · rw [if_pos z] at h; omega
  · rw [if_neg z] at h
    have z2 : ¬ ρ 304 < ρ (204 + p) + 1 := fun y => z ⟨h, y⟩
    rw [yWk_a ρ hp, if_pos h, if_neg z2]
    exact ⟨h, by omega, rfl⟩
theorem yWn_y {p : Nat} (hp : p < 49) : ∀ n (ρ : Nat → Nat), 0 < yWn ρ n (155 + p) → 0 < ρ (155 + p) ∧ yWn ρ n (204 + p) = ρ (204 + p) + n := by
  intro n
  induction n with
  | zero => intro ρ h; exact ⟨h, rfl⟩
  | succ n ih =>
    intro ρ h
    obtain ⟨a, b⟩ := ih (yWk ρ) h
    obtain ⟨c, -, d⟩ := yWk_y hp a
    refine ⟨c, ?_⟩
    show yWn (yWk ρ) n (204 + p) = _
    rw [b, d]; omega
theorem yWn_1 (ρ : Nat → Nat) : yWn ρ 1 = yWk ρ := rfl
theorem yWn_end {N : Nat} {ρ : Nat → Nat} (hi : INf N ρ) : yct (fun c => yWn (yWn ρ 20) 1 (155 + yq c)) 21 = 0 := by
  rw [yct_zero]
  intro c hc
  have hq := yq_lt c hc
  rw [yWn_1]
  by_cases h : 0 < yWk (yWn ρ 20) (155 + yq c)
  · exfalso
    obtain ⟨a, b, -⟩ := yWk_y hq h
    obtain ⟨-, d⟩ := yWn_y hq 20 ρ a
    have e : yWn ρ 20 304 = ρ 304 := yWn_o (by omega) (by omega) 20 ρ
    have := hi.2.1.2.2.2.2
    omega
  · omega
theorem k_895 {N K : Nat} {q : CW} {hs : List CW} {w : TW} {H : TH} (hN : N < 100000) (hw : WK N K w q) (hH : HK3 N K H hs) {S0 : Nat} (hS : S0 < 2 ^ q.1 0) (T : TT) (E : TE) (cc : TW) (P Q : TP) (S : TS) {R : Option (Int32 × S8) → Prop} (hR : ∀ w' cc' P' Q' H', WK (N + 20) (K + 0) w' q → HK3 (N + 20) (K + 0) H' (hs.take 12) → R (some (1, (T, E, w', cc', P', Q', H', S)))) : R (f_L_holds_J895 (nI S0) 1 (yCost q.1 S0 1) (nI (yab q.1 2)) T E w cc P Q H S) := by
  have i1 : ¬ (1 : Int32) = 0 := by decide
  obtain ⟨w1, H1, a1, b1, c1⟩ := ec_weeks (j := 20) (by omega) (by omega) hw hH T E cc P Q S 0 0
  rw [rem_c] at c1
  obtain ⟨w2, H2, a2, b2, c2⟩ := ec_weeks (j := 1) (by omega) (by omega) b1 (c1.mono (by omega) (Nat.le_refl _)) T E cc P Q S 0 0
  rw [rem_c2] at c2
  have e0 : yct (fun c => yWn (yWn q.1 20, q.2).1 1 (155 + yq c)) 21 = 0 := yWn_end hw.2.1
  rw [e0] at a2
  obtain ⟨w3, H3, a3, b3, c3⟩ := ec_undo (w := w2) c2 T E cc P Q S 0 0 0
  obtain ⟨w4, H4, a4, b4, c4⟩ := ec_undo (w := w3) c3 T E cc P Q S 0 0 0
  have a5 := ec_about b4 (j := 2) (by omega) T E cc P Q H4 S 0 0
  obtain ⟨P', Q', a6⟩ := e_cost b4 hS (k := 1) (by omega) P Q
  have n1 := yct_le (fun c => yWn q.1 20 (155 + yq c)) 21
  have n3 := c3.len
  have n4 := c4.len
  have m1 : ¬ nI (yct (fun c => yWn q.1 20 (155 + yq c)) 21) < (0 : Int32) := y_pos (by omega)
  have m3 : ¬ nI (q :: hs.take 12).length < (0 : Int32) := y_pos (by omega)
  have m4 : ¬ nI (hs.take 12).length < (0 : Int32) := y_pos (by omega)
  unfold f_L_holds_J895
  rw [if_neg i1, show f_L_call T E w cc P Q H S (11 : Int32) (20 : Int32) (0 : Int32) (0 : Int32) = _ from a1, Option.bind_some, if_neg m1]
  rw [show f_L_call T E w1 cc P Q H1 S (11 : Int32) (1 : Int32) (0 : Int32) (0 : Int32) = _ from a2, Option.bind_some, if_pos (show nI 0 = (0 : Int32) from rfl)]
  rw [show f_L_call T E w2 cc P Q H2 S (13 : Int32) (0 : Int32) (0 : Int32) (0 : Int32) = _ from a3, Option.bind_some, if_neg m3]
  rw [show f_L_call T E w3 cc P Q H3 S (13 : Int32) (0 : Int32) (0 : Int32) (0 : Int32) = _ from a4, Option.bind_some, if_neg m4]
  rw [show f_L_call T E w4 cc P Q H4 S (2 : Int32) (2 : Int32) (0 : Int32) (0 : Int32) = _ from a5, Option.bind_some, if_pos rfl]
  rw [show f_L_tryCost w4 P Q (nI S0) (1 : Int32) = _ from a6, Option.bind_some, if_pos (show lg_cmp (yCost q.1 S0 1) (yCost q.1 S0 1) = (0 : Int32) from (lg_cmp_eq _ _).mpr rfl)]
  exact hR w4 cc P' Q' H4 (b4.mono (by omega) (by omega)) (c4.mono (by omega) (by omega))
-- how wrongly all pairs are believed, asked pair by pair
theorem k_790 {N K : Nat} {q : CW} {w : TW} (hw : WK N K w q) {R : Option (Int32 × S8) → Prop} {n a : Nat} (hn : n = q.1 0) (T : TT) (E : TE) (cc : TW) (P Q : TP) (H : TH) (S : TS) (x3 x4 : Int32) (x7 : Int64) (x11 x12 x17 : Int32) {KK : Int32 → TT → TE → TW → TW → TP → TP → TH → TS → Option (Int32 × S8)} : ∀ r m b o, b + r = n → r < m → a < b → R (KK (nI (o + s2i (yDo q.1) a r b)) T E w cc P Q H S) → R (f_L_holds_L790 (nI n) x3 x4 x7 x11 x12 x17 (nI a) KK m (nI o) (nI b) T E w cc P Q H S) := by
  have h7 := hw.2.1.1.1
  intro r
  induction r with
  | zero =>
    intro m b o hb hm _ hK
    obtain ⟨m, rfl⟩ : ∃ x, m = x + 1 := ⟨m - 1, by omega⟩
    rw [f_L_holds_L790, if_pos (show nI n ≤ nI b from (y_Ile (by omega) (by omega)).mpr (by omega))]
    exact hK
  | succ r ih =>
    intro m b o hb hm hab hK
    obtain ⟨m, rfl⟩ : ∃ x, m = x + 1 := ⟨m - 1, by omega⟩
    have e2 := ec_pair hw hab (show b < q.1 0 by omega) (j := 2) (by omega) T E cc P Q H S
    have e1 := ec_pair hw hab (show b < q.1 0 by omega) (j := 1) (by omega) T E cc P Q H S
    obtain ⟨c0, hc0, hcq, p8, p57, p106, pbl, p204, pdf, p253, pm⟩ := pr_facts hw hab (show b < q.1 0 by omega)
    rw [s2i, ← Nat.add_assoc o] at hK
    have hR := ih m (b + 1) (o + yDo q.1 (7 * a + b)) (by omega) (by omega) (by omega) hK
    rw [f_L_holds_L790, if_neg (show ¬ nI n ≤ nI b from fun z => by have := (y_Ile (by omega) (by omega)).mp z; omega)]
    rw [show f_L_call T E w cc P Q H S (4 : Int32) (nI a) (nI b) (2 : Int32) = _ from e2, Option.bind_some]
    rw [show f_L_call T E w cc P Q H S (4 : Int32) (nI a) (nI b) (1 : Int32) = _ from e1, Option.bind_some]
    rw [← show nI b + (1 : Int32) = nI (b + 1) from y_Iadd b 1, ← y_Iadd o] at hR
    by_cases hl : 0 < q.1 (8 + (7 * a + b))
    · have v2 : pnv q.1 (7 * a + b) 2 = nI (yBl q.1 (7 * a + b)) := by
        unfold pnv
        rw [if_pos hl, if_neg (by omega), if_neg (by omega), if_pos rfl]
      have v1 : pnv q.1 (7 * a + b) 1 = nI (q.1 (106 + (7 * a + b))) := by
        unfold pnv
        rw [if_pos hl, if_neg (by omega), if_pos rfl]
      have hdo : yDo q.1 (7 * a + b) = yDf q.1 (7 * a + b) := if_pos hl
      have hx := y_ab pbl p106
      rw [show (if q.1 (106 + (7 * a + b)) ≤ yBl q.1 (7 * a + b) then yBl q.1 (7 * a + b) - q.1 (106 + (7 * a + b)) else q.1 (106 + (7 * a + b)) - yBl q.1 (7 * a + b)) = yDf q.1 (7 * a + b) from rfl, ← v2, ← v1] at hx
      rw [hdo] at hR
      rcases hx with ⟨c1, c2⟩ | ⟨c1, c2⟩
      · rw [if_pos c1, c2]; exact hR
      · rw [if_neg c1, c2]; exact hR
    · have hdo : yDo q.1 (7 * a + b) = 0 := if_neg hl
      have u2 := pnv_un hl 2
      have u1 := pnv_un hl 1
      have c1 : (0 : Int32) ≤ pnv q.1 (7 * a + b) 2 - pnv q.1 (7 * a + b) 1 := by rw [u2, u1]; decide
      have c2 : pnv q.1 (7 * a + b) 2 - pnv q.1 (7 * a + b) 1 = nI 0 := by rw [u2, u1]; decide
      rw [hdo] at hR
      rw [if_pos c1, c2]; exact hR
theorem k_778 {N K : Nat} {q : CW} {w : TW} (hw : WK N K w q) {R : Option (Int32 × S8) → Prop} {n : Nat} (hn : n = q.1 0) (T : TT) (E : TE) (cc : TW) (P Q : TP) (H : TH) (S : TS) (x3 x4 : Int32) (x7 : Int64) (x11 x12 x17 : Int32) {KK : Int32 → TT → TE → TW → TW → TP → TP → TH → TS → Option (Int32 × S8)} : ∀ r m a o, a + r = n → r < m → R (KK (nI (o + s2o (yDo q.1) n r a)) T E w cc P Q H S) → R (f_L_holds_L778 (nI n) x3 x4 x7 x11 x12 x17 KK m (nI o) (nI a) T E w cc P Q H S) := by
  have h7 := hw.2.1.1.1
  intro r
  induction r with
  | zero =>
    intro m a o ha hm hK
    obtain ⟨m, rfl⟩ : ∃ x, m = x + 1 := ⟨m - 1, by omega⟩
    rw [f_L_holds_L778, if_pos (show nI n ≤ nI a from (y_Ile (by omega) (by omega)).mpr (by omega))]
    exact hK
  | succ r ih =>
    intro m a o ha hm hK
    obtain ⟨m, rfl⟩ : ∃ x, m = x + 1 := ⟨m - 1, by omega⟩
    rw [s2o, ← Nat.add_assoc o] at hK
    have hR := ih m (a + 1) (o + s2i (yDo q.1) a (n - (a + 1)) (a + 1)) (by omega) (by omega) hK
    rw [f_L_holds_L778, if_neg (show ¬ nI n ≤ nI a from fun z => by have := (y_Ile (by omega) (by omega)).mp z; omega), show nI a + (1 : Int32) = nI (a + 1) from y_Iadd a 1]
    exact k_790 hw hn T E cc P Q H S x3 x4 x7 x11 x12 x17 (n - (a + 1)) 8 (a + 1) o (by omega) (by omega) (by omega) hR
theorem phi_S2 {K : Nat} {q : CW} (h7 : q.1 0 ≤ 7) (hv : IV K q) : s2o (yDo q.1) (q.1 0) (q.1 0) 0 = PHI q.1 := by
  refine S2_ext h7 (fun a b hab hb hn => ?_)
  have z := hv.2.1 a b hab hb hn
  exact if_neg (by omega)
theorem mem_S2 {K N : Nat} {q : CW} (hi : INf N q.1) (hv : IV K q) : s2o (fun p => yb (q.1 (155 + p))) (q.1 0) (q.1 0) 0 = yab q.1 2 := by
  have e : yab q.1 2 = yct (fun c => q.1 (155 + yq c)) 21 := by
    unfold yab
    rw [if_neg (by omega), if_neg (by omega), if_pos rfl]
  rw [e, yct_ysm]
  refine S2_ext hi.1.1 (fun a b hab hb hn => ?_)
  have z := hv.2.1 a b hab hb hn
  obtain ⟨h1, h2⟩ := yq_ab b hb a hab
  obtain ⟨-, -, -, -, -, -, i7⟩ := hi.1.2.2 _ h1
  rw [h2] at i7
  refine yb_0 (fun y => ?_)
  have := i7 y
  omega
theorem yab_5 (ρ : Nat → Nat) : yab ρ 5 = ρ 307 := by
  unfold yab
  rw [if_neg (by omega), if_neg (by omega), if_neg (by omega)]
theorem yab_0 (ρ : Nat → Nat) : yab ρ 0 = ρ 0 := if_pos rfl
theorem PHI_le {N : Nat} {ρ : Nat → Nat} (hi : INf N ρ) : PHI ρ ≤ 21000 := by
  have : ∀ n, n ≤ 21 → ysm (fun c => yDo ρ (yq c)) n ≤ n * 1000 := by
    intro n
    induction n with
    | zero => intro _; exact Nat.le_refl _
    | succ n ih =>
      intro hn
      have h1 := ih (by omega)
      have h2 := (yDf_le hi.1 (show n < 21 by omega)).2.2
      have h3 : yDo ρ (yq n) ≤ 1000 := by
        unfold yDo
        split <;> omega
      rw [ysm]
      show ysm (fun c => yDo ρ (yq c)) n + yDo ρ (yq n) ≤ _
      omega
  exact this 21 (Nat.le_refl _)
theorem k_876 {N K : Nat} {q p : CW} {hs : List CW} {w : TW} {H : TH} (hN : N < 100000) (hH : HK3 N K H (q :: hs.take 13)) {S0 : Nat} (hS : S0 < 2 ^ q.1 0) (T : TT) (E : TE) (cc : TW) (P Q : TP) (S : TS) {R : Option (Int32 × S8) → Prop} (hR : ∀ w' cc' P' Q' H', WK (N + 20) (K + 0) w' q → HK3 (N + 20) (K + 0) H' (hs.take 12) → R (some (1, (T, E, w', cc', P', Q', H', S)))) : R (f_L_holds_J876 (nI S0) (yCost q.1 S0 1) (nI (yab q.1 2)) T E w cc P Q H S) := by
  obtain ⟨w1, H1, a1, b1, c1⟩ := ec_undo (w := w) hH T E cc P Q S 0 0 0
  have n1 := c1.len
  have m1 : ¬ nI (hs.take 13).length < (0 : Int32) := y_pos (by omega)
  unfold f_L_holds_J876
  rw [show f_L_call T E w cc P Q H S (13 : Int32) (0 : Int32) (0 : Int32) (0 : Int32) = _ from a1, Option.bind_some, if_neg m1]
  unfold f_L_holds_J893
  refine k_895 hN b1 c1 hS T E cc P Q S (fun w2 cc2 P2 Q2 H2 d1 d2 => ?_)
  rw [List.take_take, Nat.min_eq_left (by omega)] at d2
  exact hR w2 cc2 P2 Q2 H2 d1 d2
theorem k_765 {N K : Nat} {q : CW} {hs : List CW} {w : TW} {H : TH} (hN : N < 99900) {S0 : Nat} (hS : S0 < 2 ^ q.1 0) (hi : INf N q.1) (hv : IV K q) (hw : WK (N + 50) (K + 1) w (yRn S0 q.1, yσ q.1 S0 q.2)) (hH : HK3 N K H (q :: hs.take 13)) (T : TT) (E : TE) (cc : TW) (P Q : TP) (S : TS) {R : Option (Int32 × S8) → Prop} (hR : ∀ w' cc' P' Q' H', WK (N + 20) (K + 0) w' q → HK3 (N + 20) (K + 0) H' (hs.take 12) → R (some (1, (T, E, w', cc', P', Q', H', S)))) : R (f_L_holds_J765 (nI (q.1 0)) (nI S0) (yCost q.1 S0 1) (nI (yab q.1 2)) (nI (PHI q.1)) (nI (yRn S0 q.1 307 - q.1 307)) T E w cc P Q H S) := by
  have i1 : ¬ (1 : Int32) = 0 := by decide
  obtain ⟨f1, f2⟩ := run_phi (S := S0) hi
  have f3 := yRn_7 S0 q.1
  have e0 : yRn S0 q.1 0 = q.1 0 := yRn_o q.1 (by omega)
  have b1 := PHI_le hi
  have b2 := PHI_le hw.2.1
  change PHI (yRn S0 q.1) ≤ 21000 at b2
  have b3 := hw.2.1.2.2.1.2.2.1
  change yRn S0 q.1 307 ≤ N + 50 at b3
  have hs2 : s2o (yDo (yRn S0 q.1)) (q.1 0) (q.1 0) 0 = PHI (yRn S0 q.1) := by
    have h := phi_S2 hw.2.1.1.1 hw.2.2
    change s2o (yDo (yRn S0 q.1)) (yRn S0 q.1 0) (yRn S0 q.1 0) 0 = PHI (yRn S0 q.1) at h
    rw [e0] at h
    exact h
  unfold f_L_holds_J765 f_L_holds_J770
  refine k_778 hw (n := q.1 0) e0.symm T E cc P Q H S (nI S0) 1 _ _ _ _ (q.1 0) 8 0 0 (by omega) (by have := hi.1.1; omega) ?_
  have hfin : R (f_L_holds_J876 (nI S0) (yCost q.1 S0 1) (nI (yab q.1 2)) T E w cc P Q H S) := k_876 (p := q) (by omega) hH hS T E cc P Q S hR
  show R (if (1 : Int32) = 0 then _ else _)
  rw [if_neg i1, show (0 : Nat) + s2o (yDo (yRn S0 q.1, yσ q.1 S0 q.2).1) (q.1 0) (q.1 0) 0 = PHI (yRn S0 q.1) from by rw [Nat.zero_add]; exact hs2]
  by_cases z : yRn S0 q.1 307 = q.1 307
  · rw [if_pos (show nI (yRn S0 q.1 307 - q.1 307) = (0 : Int32) from (congrArg nI (show yRn S0 q.1 307 - q.1 307 = 0 by omega)).trans rfl), if_pos (show nI (PHI (yRn S0 q.1)) = nI (PHI q.1) from by rw [f2 z])]
    exact hfin
  · rw [if_neg (show ¬ nI (yRn S0 q.1 307 - q.1 307) = (0 : Int32) from fun y => by have := (y_Ieq (b := 0) (by omega) (by omega)).mp y; omega), if_neg (show ¬ nI (PHI q.1) ≤ nI (PHI (yRn S0 q.1)) from fun y => by have := (y_Ile (by omega) (by omega)).mp y; omega)]
    exact hfin
theorem gl_0 {S : Nat} {ρ : Nat → Nat} : (gl 0 (LF S 31 ρ) = (0 : Int32)) ↔ yCost ρ S 2 = lN 0 := by
  rw [LF]
  constructor
  · intro h
    by_cases z : yCost ρ S 2 = lN 0
    · exact z
    · exfalso
      rw [if_neg z] at h
      cases e : LF S 30 (yRn S ρ) with
      | none => rw [e] at h; exact absurd h (by decide)
      | some j =>
        have hj := LF_lt _ _ _ e
        rw [e] at h
        have h : nI (0 + (j + 1)) = nI 0 := h
        have := (y_Ieq (by omega) (by omega)).mp h
        omega
  · intro z
    rw [if_pos z]; rfl
/-- with each run the first run without regret comes nearer by one -/
theorem gl_next {S : Nat} {ρ : Nat → Nat} (h : ¬ gl 0 (LF S 31 ρ) < (1 : Int32)) : ¬ gl 0 (LF S 31 ρ) - (1 : Int32) < gl 0 (LF S 31 (yRn S ρ)) := by
  rw [LF] at h ⊢
  by_cases z : yCost ρ S 2 = lN 0
  · rw [if_pos z] at h
    exact absurd (show gl 0 (some 0) < (1 : Int32) by decide) h
  · rw [if_neg z] at h ⊢
    cases e : LF S 30 (yRn S ρ) with
    | none => rw [e] at h; exact absurd (show gl 0 (Option.map (· + 1) none) < (1 : Int32) by decide) h
    | some j =>
      have hj := LF_lt _ _ _ e
      rw [LF_mono _ _ _ e]
      show ¬ nI (0 + (j + 1)) - nI 1 < nI (0 + j)
      rw [y_Isub (by omega)]
      intro y
      have := (y_Ilt (by omega) (by omega)).mp y
      omega
theorem k_740 {N K : Nat} {q : CW} {hs : List CW} {w : TW} {H : TH} (hN : N < 99900) {S0 : Nat} (hS : S0 < 2 ^ q.1 0) (h0 : 0 < S0) (hi : INf N q.1) (hv : IV K q) (hw : WK (N + 50) (K + 1) w (yRn S0 q.1, yσ q.1 S0 q.2)) (hH : HK3 N K H (q :: hs.take 13)) (T : TT) (E : TE) (cc : TW) (P Q : TP) (S : TS) {R : Option (Int32 × S8) → Prop} (hR : ∀ w' cc' P' Q' H', WK (N + 20) (K + 0) w' q → HK3 (N + 20) (K + 0) H' (hs.take 12) → R (some (1, (T, E, w', cc', P', Q', H', S)))) (s : Int32) : R (f_L_holds_J740 (nI (q.1 0)) (nI S0) (yCost q.1 S0 1) (nI (yab q.1 2)) (nI (PHI q.1)) (gl 0 (LF S0 31 q.1)) (nI (yRn S0 q.1 307 - q.1 307)) s s T E w cc P Q H S) := by
  have e0 : yRn S0 q.1 0 = q.1 0 := yRn_o q.1 (by omega)
  unfold f_L_holds_J740
  rw [if_pos rfl]
  by_cases z : gl 0 (LF S0 31 q.1) < (1 : Int32)
  · rw [if_pos z]
    exact k_765 hN hS hi hv hw hH T E cc P Q S hR
  · rw [if_neg z]
    obtain ⟨c', P', Q', a1⟩ := ec_learns (by omega) hw (S0 := S0) (by show S0 < 2 ^ yRn S0 q.1 0; rw [e0]; exact hS) h0 T E cc P Q H S
    rw [show f_L_call T E w cc P Q H S (17 : Int32) (nI S0) (0 : Int32) (0 : Int32) = _ from a1, Option.bind_some, if_neg (show ¬ gl 0 (LF S0 31 q.1) - (1 : Int32) < gl 0 (LF S0 31 (yRn S0 q.1)) from gl_next z)]
    exact k_765 hN hS hi hv hw hH T E c' P' Q' S hR
theorem k_634 {N K : Nat} {q : CW} {hs : List CW} {w : TW} {H : TH} (hN : N < 99900) (hw : WK N K w q) (hH : HK3 N K H hs) {S0 : Nat} (hS : S0 < 2 ^ q.1 0) (T : TT) (E : TE) (cc : TW) (P Q : TP) (S : TS) {R : Option (Int32 × S8) → Prop} (hR : ∀ w' cc' P' Q' H', WK (N + 20) (K + 0) w' q → HK3 (N + 20) (K + 0) H' (hs.take 12) → R (some (1, (T, E, w', cc', P', Q', H', S)))) : R (f_L_holds_J634 (nI (q.1 0)) (nI S0) 1 (yCost q.1 S0 1) (yCost q.1 S0 2) (nI (yab q.1 2)) (nI (PHI q.1)) T E w cc P Q H S) := by
  have i1 : ¬ (1 : Int32) = 0 := by decide
  have hb := y_2pow hw.2.1.1 hS
  unfold f_L_holds_J634
  by_cases h0 : S0 = 0
  · rw [if_pos (show nI S0 ≤ (0 : Int32) from (y_Ile (b := 0) (by omega) (by omega)).mpr (by omega))]
    exact k_895 (by omega) hw hH hS T E cc P Q S hR
  · rw [if_neg (show ¬ nI S0 ≤ (0 : Int32) from fun z => by have := (y_Ile (b := 0) (by omega) (by omega)).mp z; omega), if_neg i1]
    obtain ⟨c1, P1, Q1, a1⟩ := ec_learns (by omega) hw hS (by omega) T E cc P Q H S
    have a2 := ec_about hw (j := 5) (by omega) T E c1 P1 Q1 H S 0 0
    obtain ⟨w3, P3, Q3, H3, a3, b3, d3⟩ := ec_run (by omega) hS (by omega) hw hH T E c1 P1 Q1 S 0 0
    rw [rem_c] at d3
    have a4 := ec_about b3 (j := 5) (by omega) T E c1 P3 Q3 H3 S 0 0
    have a5 := e_sum b3 (j := 2) (by omega)
    have a6 := e_sum b3 (j := 3) (by omega)
    have f3 := yRn_7 S0 q.1
    have b9 := b3.2.1.2.2.1.2.2.1
    change yRn S0 q.1 307 ≤ N + 50 at b9
    have m3 : ¬ nI (yRn S0 q.1 307 - q.1 307) < (0 : Int32) := y_pos (by omega)
    rw [show f_L_call T E w cc P Q H S (17 : Int32) (nI S0) (0 : Int32) (0 : Int32) = _ from a1, Option.bind_some]
    rw [show f_L_call T E w c1 P1 Q1 H S (2 : Int32) (5 : Int32) (0 : Int32) (0 : Int32) = _ from a2, Option.bind_some]
    rw [show f_L_call T E w c1 P1 Q1 H S (10 : Int32) (nI S0) (0 : Int32) (0 : Int32) = _ from a3, Option.bind_some, if_neg m3]
    rw [show f_L_call T E w3 c1 P3 Q3 H3 S (2 : Int32) (5 : Int32) (0 : Int32) (0 : Int32) = _ from a4, Option.bind_some, if_pos (show nI (yab (yRn S0 q.1) 5) = nI (yab q.1 5) + nI (yRn S0 q.1 307 - q.1 307) from by rw [yab_5, yab_5, y_Iadd]; congr 1; omega)]
    rw [show f_L_trySum w3 (2 : Int32) = some (yCost q.1 S0 1, ()) from a5, Option.bind_some, if_pos (show lg_cmp (yCost q.1 S0 1) (yCost q.1 S0 1) = (0 : Int32) from (lg_cmp_eq _ _).mpr rfl)]
    rw [show f_L_trySum w3 (3 : Int32) = some (yCost q.1 S0 2, ()) from a6, Option.bind_some, if_pos (show lg_cmp (yCost q.1 S0 2) (yCost q.1 S0 2) = (0 : Int32) from (lg_cmp_eq _ _).mpr rfl)]
    by_cases z : gl 0 (LF S0 31 q.1) = (0 : Int32)
    · rw [if_pos z]
      unfold f_L_holds_J728
      rw [if_pos (show lg_cmp (yCost q.1 S0 2) (0 : Int64) = (0 : Int32) from (lg_cmp_eq _ _).mpr (gl_0.mp z))]
      exact k_740 hN hS (by omega) hw.2.1 hw.2.2 b3 d3 T E c1 P3 Q3 S hR 1
    · rw [if_neg z]
      unfold f_L_holds_J728
      rw [if_neg (show ¬ lg_cmp (yCost q.1 S0 2) (0 : Int64) = (0 : Int32) from fun y => z (gl_0.mpr ((lg_cmp_eq _ _).mp y)))]
      exact k_740 hN hS (by omega) hw.2.1 hw.2.2 b3 d3 T E c1 P3 Q3 S hR 0
theorem g10_d : ∀ a, a < 7 → ∀ b, b < 7 → nI (10 * a + b) / (10 : Int32) = nI a ∧ nI (10 * a + b) - nI (10 * a + b) / (10 : Int32) * (10 : Int32) = nI b ∧ ¬ nI (10 * a + b) = (-1 : Int32) := by decide +kernel
theorem best_vb (ρ : Nat → Nat) {n : Nat} (hn : n ≤ 7) : VB ρ (best ρ n) := vb_otr hn n 0 none (by omega) (fun p hp => nomatch hp)
theorem k_561 {N K : Nat} {q : CW} {hs : List CW} {w : TW} {H : TH} (hN : N < 99900) (hw : WK N K w q) (hH : HK3 N K H hs) {S0 : Nat} (hS : S0 < 2 ^ q.1 0) (T : TT) (E : TE) (cc : TW) (P Q : TP) (S : TS) {R : Option (Int32 × S8) → Prop} (hR : ∀ w' cc' P' Q' H', WK (N + 20) (K + 0) w' q → HK3 (N + 20) (K + 0) H' (hs.take 12) → R (some (1, (T, E, w', cc', P', Q', H', S)))) : R (f_L_holds_J561 (nI (q.1 0)) (nI S0) (yCost q.1 S0 1) (yCost q.1 S0 2) (nI (yab q.1 2)) (nI (PHI q.1)) (gd q.1 (best q.1 (q.1 0))) (g10 (best q.1 (q.1 0))) 1 T E w cc P Q H S) := by
  have i1 : ¬ (1 : Int32) = 0 := by decide
  have h7 := hw.2.1.1.1
  have hfin := k_634 hN hw hH hS T E cc P Q S hR
  have hvb := best_vb q.1 h7
  unfold f_L_holds_J561
  cases e : best q.1 (q.1 0) with
  | none =>
    rw [if_pos (show g10 none = (-1 : Int32) from rfl)]
    exact hfin
  | some p =>
    obtain ⟨v1, v2, v3⟩ := hvb p e
    obtain ⟨a, b⟩ := p
    change a < b at v1
    change b < 7 at v2
    change 0 < q.1 (8 + (7 * a + b)) at v3
    obtain ⟨g1, g2, g3⟩ := g10_d a (by omega) b (by omega)
    have hb : b < q.1 0 := by
      by_cases z : b < q.1 0
      · exact z
      · have := hw.2.2.2.1 a b v1 v2 (by omega)
        omega
    have e2 := ec_pair hw v1 hb (j := 2) (by omega) T E cc P Q H S
    have e1 := ec_pair hw v1 hb (j := 1) (by omega) T E cc P Q H S
    obtain ⟨c0, hc0, hcq, p8, p57, p106, pbl, p204, pdf, p253, pm⟩ := pr_facts hw v1 hb
    rw [if_neg (show ¬ g10 (some (a, b)) = (-1 : Int32) from g3), if_neg i1]
    rw [show g10 (some (a, b)) = nI (10 * a + b) from rfl, g2, g1]
    rw [show f_L_call T E w cc P Q H S (4 : Int32) (nI a) (nI b) (2 : Int32) = _ from e2, Option.bind_some]
    rw [show f_L_call T E w cc P Q H S (4 : Int32) (nI a) (nI b) (1 : Int32) = _ from e1, Option.bind_some]
    have u2 : pnv q.1 (7 * a + b) 2 = nI (yBl q.1 (7 * a + b)) := by
      unfold pnv
      rw [if_pos v3, if_neg (by omega), if_neg (by omega), if_pos rfl]
    have u1 : pnv q.1 (7 * a + b) 1 = nI (q.1 (106 + (7 * a + b))) := by
      unfold pnv
      rw [if_pos v3, if_neg (by omega), if_pos rfl]
    have hx := y_ab pbl p106
    rw [show (if q.1 (106 + (7 * a + b)) ≤ yBl q.1 (7 * a + b) then yBl q.1 (7 * a + b) - q.1 (106 + (7 * a + b)) else q.1 (106 + (7 * a + b)) - yBl q.1 (7 * a + b)) = yDf q.1 (7 * a + b) from rfl, ← u2, ← u1] at hx
    have hg : gd q.1 (some (a, b)) = nI (yDf q.1 (7 * a + b)) := rfl
    rcases hx with ⟨c1, c2⟩ | ⟨c1, c2⟩
    · rw [if_pos c1, c2]
      unfold f_L_holds_J622 f_L_holds_J632
      rw [if_pos hg.symm]
      exact hfin
    · rw [if_neg c1, c2]
      unfold f_L_holds_J622 f_L_holds_J632
      rw [if_pos hg.symm]
      exact hfin
theorem k_502 {N K : Nat} {q : CW} {hs : List CW} {w : TW} {H : TH} (hN : N < 99900) (hw : WK N K w q) (hH : HK3 N K H hs) {S0 : Nat} (hS : S0 < 2 ^ q.1 0) (T : TT) (E : TE) (cc : TW) (P Q : TP) (S : TS) {R : Option (Int32 × S8) → Prop} (hR : ∀ w' cc' P' Q' H', WK (N + 20) (K + 0) w' q → HK3 (N + 20) (K + 0) H' (hs.take 12) → R (some (1, (T, E, w', cc', P', Q', H', S)))) : R (f_L_holds_J502 (nI (q.1 0)) (nI S0) 1 (yCost q.1 S0 1) (yCost q.1 S0 2) (nI (yab q.1 2)) (nI (PHI q.1)) (gd q.1 (best q.1 (q.1 0))) T E w cc P Q H S) := by
  have i1 : ¬ (1 : Int32) = 0 := by decide
  have h7 := hw.2.1.1.1
  have a2 := ec_about hw (j := 2) (by omega) T E cc P Q H S 0 0
  have a1 := ec_about hw (j := 1) (by omega) T E cc P Q H S 0 0
  have hbn := best_none hw.2.1
  rw [best_ext h7 hw.2.2.2.1] at hbn
  have y1 : yab q.1 1 = yct (fun c => q.1 (57 + yq c)) 21 := by
    unfold yab
    rw [if_neg (by omega), if_pos rfl]
  rw [← y1] at hbn
  have y2 : yab q.1 1 ≤ 21 := by rw [y1]; exact yct_le _ 21
  have hfin := k_561 hN hw hH hS T E cc P Q S hR
  unfold f_L_holds_J502
  rw [e_worst hw, Option.bind_some, if_neg i1]
  rw [show f_L_call T E w cc P Q H S (2 : Int32) (2 : Int32) (0 : Int32) (0 : Int32) = _ from a2, Option.bind_some, if_pos rfl]
  cases e : best q.1 (q.1 0) with
  | none =>
    rw [e] at hfin
    rw [if_pos (show g10 none = (-1 : Int32) from rfl)]
    unfold f_L_holds_J537
    rw [show f_L_call T E w cc P Q H S (2 : Int32) (1 : Int32) (0 : Int32) (0 : Int32) = _ from a1, Option.bind_some, if_pos (show nI (yab q.1 1) = (0 : Int32) from (congrArg nI (hbn.mp e)).trans rfl)]
    unfold f_L_holds_J553
    rw [if_pos rfl]
    exact hfin
  | some p =>
    rw [e] at hfin
    obtain ⟨v1, v2, v3⟩ := best_vb q.1 h7 p e
    have g3 : ¬ g10 (some p) = (-1 : Int32) := (g10_d p.1 (by omega) p.2 v2).2.2
    have nz : ¬ yab q.1 1 = 0 := fun z => by
      have := hbn.mpr z
      rw [e] at this
      exact nomatch this
    rw [if_neg g3]
    unfold f_L_holds_J537
    rw [show f_L_call T E w cc P Q H S (2 : Int32) (1 : Int32) (0 : Int32) (0 : Int32) = _ from a1, Option.bind_some, if_neg (show ¬ nI (yab q.1 1) = (0 : Int32) from fun z => nz ((y_Ieq (b := 0) (by omega) (by omega)).mp z))]
    unfold f_L_holds_J553
    rw [if_pos rfl]
    exact hfin
theorem k_244 {N K : Nat} {q : CW} {hs : List CW} {w : TW} {H : TH} (hN : N < 99900) (hw : WK N K w q) (hH : HK3 N K H hs) {S0 : Nat} (hS : S0 < 2 ^ q.1 0) (T : TT) (E : TE) (cc : TW) (P Q : TP) (S : TS) {R : Option (Int32 × S8) → Prop} (hR : ∀ w' cc' P' Q' H', WK (N + 20) (K + 0) w' q → HK3 (N + 20) (K + 0) H' (hs.take 12) → R (some (1, (T, E, w', cc', P', Q', H', S)))) : R (f_L_holds_J244 (nI (q.1 0)) (nI S0) (yCost q.1 S0 1) (yCost q.1 S0 2) 1 T E w cc P Q H S) := by
  have h7 := hw.2.1.1.1
  unfold f_L_holds_J244
  refine k_258 hw T E cc P Q H S (nI S0) _ _ (by omega) (q.1 0) 8 0 0 0 none (by omega) (by omega) (fun p hp => nomatch hp) ?_
  rw [Nat.zero_add, Nat.zero_add, mem_S2 hw.2.1 hw.2.2, phi_S2 h7 hw.2.2]
  exact k_502 hN hw hH hS T E cc P Q S hR
theorem k_147 {N K : Nat} {q : CW} {hs : List CW} {w : TW} {H : TH} (hN : N < 99900) (hK9 : K < 900) (hw : WK N K w q) (hH : HK3 N K H hs) {S0 X : Nat} (hX : X < 2147483648) (hS : S0 < 2 ^ q.1 0) (T : TT) (E : TE) (cc : TW) (P Q : TP) (S : TS) {R : Option (Int32 × S8) → Prop} (hR : ∀ w' cc' P' Q' H', WK (N + 20) (K + 0) w' q → HK3 (N + 20) (K + 0) H' (hs.take 12) → R (some (1, (T, E, w', cc', P', Q', H', S)))) : R (f_L_holds_J147 (nI X) (nI (q.1 0)) (nI S0) 1 T E w cc P Q H S) := by
  have i1 : ¬ (1 : Int32) = 0 := by decide
  obtain ⟨P0, Q0, a0⟩ := e_cost hw hS (k := 0) (by omega) P Q
  obtain ⟨P1, Q1, a1⟩ := e_cost hw hS (k := 1) (by omega) P0 Q0
  obtain ⟨P2, Q2, a2⟩ := e_cost hw hS (k := 2) (by omega) P1 Q1
  have hr : nI X - nI X / (3 : Int32) * (3 : Int32) = nI (X % 3) := y_Irem (b := 3) hX (by omega)
  have hm : X % 3 < 3 := Nat.mod_lt _ (by omega)
  obtain ⟨P3, a3⟩ := e_rows0 hw (k := X % 3) (by omega) P2
  obtain ⟨-, -, k6, s0, s1, s2, s3, t0, t1, t2, t3, t4, t5, t6, t7⟩ := hw.2.2
  obtain ⟨l1, l2⟩ := yTr_le q.1 S0
  have l3 := yD_le_yC (st := yst1 q.1 1) (st' := yst1 q.1 1) (st0 := yst1 q.1 1) (w := S0) (fun s t => Nat.le_refl _) 7 0 (by omega) (ymiss_le S0 0)
  have l4 := yC_bd (st := yst1 q.1 1) (B := 1000000000000000) (fun s t => yst1_bd q.1 1 s t) (yP (yst1 q.1 1) S0 7 0) 0
  have l5 : (yP (yst1 q.1 1) S0 7 0).length ≤ 7 := yP_len 7 0
  have s6 : s0 ≤ 900 * 7000000000000000 := Nat.le_trans t6 (Nat.mul_le_mul_right _ (by omega))
  have c0 : ¬ lg_cmp (yCost q.1 S0 0) (0 : Int64) < (0 : Int32) := fun z => by
    have := (lg_cmp_lt _ _).mp z
    have := (y_Llt (b := 0) (by omega) (by omega)).mp (show lN (yD (yst1 q.1 1) S0 0) < lN 0 from this)
    omega
  have c2 : ¬ lg_cmp (yCost q.1 S0 2) (0 : Int64) < (0 : Int32) := fun z => by
    have h := (lg_cmp_lt _ _).mp z
    rw [yCost_2] at h
    have := (y_Llt (b := 0) (by omega) (by omega)).mp (show lN (yTr q.1 1 2 S0 - yD (yst1 q.1 2) S0 0) < lN 0 from h)
    omega
  have c3 : ¬ (0 : Int32) < lg_cmp (yCost q.1 S0 2) (yCost q.1 S0 1) := fun z => by
    have h := (lg_cmp_gt _ _).mp z
    rw [yCost_1, yCost_2] at h
    have := (y_Llt (by omega) (by omega)).mp h
    omega
  have b0 := e_sum hw (j := 0) (by omega)
  have b1 := e_sum hw (j := 1) (by omega)
  have b2 := e_sum hw (j := 2) (by omega)
  have b3 := e_sum hw (j := 3) (by omega)
  have d1 : ¬ (0 : Int32) < lg_cmp (q.2 1) (q.2 0) := fun z => by
    have h := (lg_cmp_gt _ _).mp z
    rw [t0, t1] at h
    have := (y_Llt (by omega) (by omega)).mp h
    omega
  have d3 : ¬ (0 : Int32) < lg_cmp (q.2 3) (q.2 2) := fun z => by
    have h := (lg_cmp_gt _ _).mp z
    rw [t2, t3] at h
    have := (y_Llt (by omega) (by omega)).mp h
    omega
  unfold f_L_holds_J147
  rw [show f_L_tryCost w P Q (nI S0) (0 : Int32) = _ from a0, Option.bind_some]
  rw [show f_L_tryCost w P0 Q0 (nI S0) (1 : Int32) = _ from a1, Option.bind_some]
  rw [show f_L_tryCost w P1 Q1 (nI S0) (2 : Int32) = _ from a2, Option.bind_some]
  rw [if_neg i1, if_neg c0, if_neg c2, if_neg c3, hr]
  rw [show f_L_tryRows w P2 (0 : Int32) (nI (X % 3)) = _ from a3, Option.bind_some, if_pos (show lg_cmp (1 : Int64) (1 : Int64) = (0 : Int32) from (lg_cmp_eq _ _).mpr rfl)]
  rw [show f_L_trySum w (1 : Int32) = _ from b1, Option.bind_some]
  rw [show f_L_trySum w (0 : Int32) = _ from b0, Option.bind_some, if_neg d1]
  rw [show f_L_trySum w (3 : Int32) = _ from b3, Option.bind_some]
  rw [show f_L_trySum w (2 : Int32) = _ from b2, Option.bind_some, if_neg d3]
  exact k_244 hN hw hH hS T E cc P3 Q2 S hR
/-- the asked laws hold, in every state -/
theorem d_holds {N K : Nat} (k : CO) (hN : N < 99900) (hK : K < 900) {X : Nat} (hX : X < 2147483648) : ∀ u, GG N K u k → ∃ u', f_L_holds u.1 u.2.1 u.2.2.1 u.2.2.2.1 u.2.2.2.2.1 u.2.2.2.2.2.1 u.2.2.2.2.2.2.1 u.2.2.2.2.2.2.2 (nI X) = some (1, u') ∧ GG N K u' (k.1, k.2.1.take 12, k.2.2) := by
  rintro ⟨T, E, w, cc, P, Q, H, S⟩ ⟨hT, hw, hH, hS⟩
  obtain ⟨q, hs, sl, L, c⟩ := k
  change WK N K w q at hw
  change HK3 N K H hs at hH
  have h7 := hw.2.1.1.1
  have a0 := ec_about hw (j := 0) (by omega) T E cc P Q H S 0 0
  rw [yab_0] at a0
  have hp := y_pow7 _ h7
  have hp0 : 0 < 2 ^ q.1 0 := Nat.two_pow_pos _
  have e1 : (1 : Int32) <<< (nI (q.1 0) &&& 31) = nI (2 ^ q.1 0) := y_shl _ (by omega)
  have e2 : nI X - nI X / nI (2 ^ q.1 0) * nI (2 ^ q.1 0) = nI (X % 2 ^ q.1 0) := y_Irem hX (by omega)
  have hm : X % 2 ^ q.1 0 < 2 ^ q.1 0 := Nat.mod_lt _ hp0
  show ∃ u', f_L_holds T E w cc P Q H S (nI X) = some (1, u') ∧ GG N K u' (q, hs.take 12, sl, L, c)
  generalize hR : (fun x : Option (Int32 × S8) => ∃ u', x = some (1, u') ∧ GG N K u' (q, hs.take 12, sl, L, c)) = R
  have hg : R (f_L_holds T E w cc P Q H S (nI X)) := by
    unfold f_L_holds
    rw [show f_L_call T E w cc P Q H S (2 : Int32) (0 : Int32) (0 : Int32) (0 : Int32) = _ from a0, Option.bind_some, if_neg (show ¬ (1 : Int32) <<< (nI (q.1 0) &&& 31) = 0 from y_sh0 _ h7)]
    show R (f_L_holds_L21 (nI X) (nI (q.1 0)) (nI X - nI X / ((1 : Int32) <<< (nI (q.1 0) &&& 31)) * ((1 : Int32) <<< (nI (q.1 0) &&& 31))) (fun x4 T E w cc P Q H S => f_L_holds_J147 (nI X) (nI (q.1 0)) (nI X - nI X / ((1 : Int32) <<< (nI (q.1 0) &&& 31)) * ((1 : Int32) <<< (nI (q.1 0) &&& 31))) x4 T E w cc P Q H S) 4 1 0 T E w cc P Q H S)
    rw [e1, e2]
    refine k_21 hw hm T E cc Q H S (nI X) (fun P => ?_) 3 4 0 (by omega) (by omega) P
    refine k_147 hN hK hw hH hX hm T E cc P Q S (fun w' cc' P' Q' H' g1 g2 => ?_)
    rw [← hR]
    exact ⟨_, rfl, hT, ⟨g1.1, hw.2⟩, hH.low g2, hS⟩
  rw [← hR] at hg
  exact hg
