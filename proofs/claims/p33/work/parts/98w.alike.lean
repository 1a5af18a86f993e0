theorem lcx (x : Int64) : lg_cmp x x = 0 := by
  unfold lg_cmp
  simp
abbrev T18 : Type := TT × TE × TR × TW × TW × TP × TP × TH × TS × TT × TE × TR × TW × TW × TP × TP × TH × TS
/-- said yes, and the two objects are as before, but for what they reckon with -/
def AK (T1 : TT) (w1 : TW) (H1 : TH) (S1 : TS) (T2 : TT) (w2 : TW) (H2 : TH) (S2 : TS) (f : Option (Int32 × T18)) : Prop := ∃ E1 R1 c1 P1 Q1 E2 R2 c2 P2 Q2, f = some (1, (T1, E1, R1, w1, c1, P1, Q1, H1, S1, T2, E2, R2, w2, c2, P2, Q2, H2, S2))
theorem u_331 {N K : Nat} {q : CW} {T1 T2 : TT} {w1 w2 : TW} {H1 H2 : TH} {S1 S2 : TS} (hN : N < 600000) (h1 : WK N K w1 q) (h2 : WK N K w2 q) (x2 : Int32) (E1 : TE) (R1 : TR) (c1 : TW) (P1 Q1 : TP) (E2 : TE) (R2 : TR) (c2 : TW) (P2 Q2 : TP) : AK T1 w1 H1 S1 T2 w2 H2 S2 (f_L_alike_J331 x2 1 (nI (q.1 0)) T1 E1 R1 w1 c1 P1 Q1 H1 S1 T2 E2 R2 w2 c2 P2 Q2 H2 S2) := by
  have hz := y_sh0 (q.1 0) h1.2.1.1.1
  obtain ⟨a1, f1⟩ := rc_order (N := N) (K := K) q hN (x2 - x2 / ((1 : Int32) <<< (nI (q.1 0) &&& 31)) * ((1 : Int32) <<< (nI (q.1 0) &&& 31))) (x2 - x2 / (3 : Int32) * (3 : Int32)) ((x2 / (16 : Int32)) - (x2 / (16 : Int32)) / (4 : Int32) * (4 : Int32))
  obtain ⟨c11, P11, Q11, e11⟩ := f1 T1 E1 w1 c1 P1 Q1 H1 S1 h1
  obtain ⟨c21, P21, Q21, e21⟩ := f1 T2 E2 w2 c2 P2 Q2 H2 S2 h2
  obtain ⟨a2, f2⟩ := rc_way (N := N) (K := K) q hN (x2 - x2 / ((1 : Int32) <<< (nI (q.1 0) &&& 31)) * ((1 : Int32) <<< (nI (q.1 0) &&& 31))) ((1 : Int32) + ((x2 / (16 : Int32)) - (x2 / (16 : Int32)) / (4 : Int32) * (4 : Int32))) 0
  obtain ⟨c12, P12, Q12, e12⟩ := f2 T1 E1 w1 c11 P11 Q11 H1 S1 h1
  obtain ⟨c22, P22, Q22, e22⟩ := f2 T2 E2 w2 c21 P21 Q21 H2 S2 h2
  obtain ⟨a9, f9⟩ := r_cost (N := N) (K := K) q hN (x2 - x2 / ((1 : Int32) <<< (nI (q.1 0) &&& 31)) * ((1 : Int32) <<< (nI (q.1 0) &&& 31))) (x2 - x2 / (3 : Int32) * (3 : Int32))
  obtain ⟨P19, Q19, e19⟩ := f9 w1 P12 Q12 h1
  obtain ⟨P29, Q29, e29⟩ := f9 w2 P22 Q22 h2
  obtain ⟨a8, f8⟩ := r_rows (N := N) (K := K) q hN (x2 - x2 / ((1 : Int32) <<< (nI (q.1 0) &&& 31)) * ((1 : Int32) <<< (nI (q.1 0) &&& 31))) ((x2 / (4 : Int32)) - (x2 / (4 : Int32)) / (3 : Int32) * (3 : Int32))
  obtain ⟨P18, e18⟩ := f8 w1 P19 h1
  obtain ⟨P28, e28⟩ := f8 w2 P29 h2
  unfold f_L_alike_J331
  rw [if_neg hz, if_neg (by decide), e11, Option.bind_some, e21, Option.bind_some, if_pos rfl]
  rw [e12, Option.bind_some, e22, Option.bind_some, if_pos rfl]
  rw [e19, Option.bind_some, e29, Option.bind_some, if_pos (lcx _)]
  rw [e18, Option.bind_some, e28, Option.bind_some, if_pos (lcx _)]
  exact ⟨_, _, _, _, _, _, _, _, _, _, rfl⟩
theorem u_283 {N K : Nat} {q : CW} {T1 T2 : TT} {w1 w2 : TW} {H1 H2 : TH} {S1 S2 : TS} (hN : N < 600000) (h1 : WK N K w1 q) (h2 : WK N K w2 q) (R1 R2 : TR) (x2 : Int32) (x4 : Int32) {KK : Int32 → TT → TE → TW → TW → TP → TP → TH → TS → TT → TE → TW → TW → TP → TP → TH → TS → Option (Int32 × T18)} (hK : ∀ (E1 : TE) (c1 : TW) (P1 Q1 : TP) (E2 : TE) (c2 : TW) (P2 Q2 : TP), AK T1 w1 H1 S1 T2 w2 H2 S2 (KK 1 T1 E1 w1 c1 P1 Q1 H1 S1 T2 E2 w2 c2 P2 Q2 H2 S2)) : ∀ r n j, j + r = 10 → r < n → ∀ (E1 : TE) (c1 : TW) (P1 Q1 : TP) (E2 : TE) (c2 : TW) (P2 Q2 : TP), AK T1 w1 H1 S1 T2 w2 H2 S2 (f_L_alike_L283 R1 R2 x2 x4 KK n 1 (nI j) T1 E1 w1 c1 P1 Q1 H1 S1 T2 E2 w2 c2 P2 Q2 H2 S2) := by
  intro r
  induction r with
  | zero =>
    intro n j hj hn E1 c1 P1 Q1 E2 c2 P2 Q2
    obtain ⟨n, rfl⟩ : ∃ m, n = m + 1 := ⟨n - 1, by omega⟩
    rw [f_L_alike_L283, if_pos (show (10 : Int32) ≤ nI j from (y_Ile (a := 10) (by omega) (by omega)).mpr (by omega))]
    exact hK E1 c1 P1 Q1 E2 c2 P2 Q2
  | succ r ih =>
    intro n j hj hn E1 c1 P1 Q1 E2 c2 P2 Q2
    obtain ⟨n, rfl⟩ : ∃ m, n = m + 1 := ⟨n - 1, by omega⟩
    obtain ⟨a3, f3⟩ := rc_surprise (N := N) (K := K) q hN (nI j) (x2 - x2 / (4 : Int32) * (4 : Int32)) 0
    obtain ⟨c13, P13, Q13, e13⟩ := f3 T1 E1 w1 c1 P1 Q1 H1 S1 h1
    obtain ⟨c23, P23, Q23, e23⟩ := f3 T2 E2 w2 c2 P2 Q2 H2 S2 h2
    rw [f_L_alike_L283, if_neg (show ¬ (10 : Int32) ≤ nI j from fun z => by have := (y_Ile (a := 10) (by omega) (by omega)).mp z; omega), if_neg (by decide)]
    rw [e13, Option.bind_some, e23, Option.bind_some, if_pos rfl, y_c1, y_Iadd]
    exact ih n (j + 1) (by omega) (by omega) E1 c13 P13 Q13 E2 c23 P23 Q23
theorem u_201 {N K : Nat} {q : CW} {T1 T2 : TT} {w1 w2 : TW} {H1 H2 : TH} {S1 S2 : TS} (hN : N < 600000) (h1 : WK N K w1 q) (h2 : WK N K w2 q) {a : Nat} (ha : a ≤ 7) (R1 R2 : TR) (x2 : Int32) (x4 : Int32) {KK : Int32 → TT → TE → TW → TW → TP → TP → TH → TS → TT → TE → TW → TW → TP → TP → TH → TS → Option (Int32 × T18)} (hK : ∀ (E1 : TE) (c1 : TW) (P1 Q1 : TP) (E2 : TE) (c2 : TW) (P2 Q2 : TP), AK T1 w1 H1 S1 T2 w2 H2 S2 (KK 1 T1 E1 w1 c1 P1 Q1 H1 S1 T2 E2 w2 c2 P2 Q2 H2 S2)) : ∀ r n j, j + r = a → r < n → ∀ (E1 : TE) (c1 : TW) (P1 Q1 : TP) (E2 : TE) (c2 : TW) (P2 Q2 : TP), AK T1 w1 H1 S1 T2 w2 H2 S2 (f_L_alike_L201 R1 R2 x2 x4 (nI a) KK n 1 (nI j) T1 E1 w1 c1 P1 Q1 H1 S1 T2 E2 w2 c2 P2 Q2 H2 S2) := by
  intro r
  induction r with
  | zero =>
    intro n j hj hn E1 c1 P1 Q1 E2 c2 P2 Q2
    obtain ⟨n, rfl⟩ : ∃ m, n = m + 1 := ⟨n - 1, by omega⟩
    rw [f_L_alike_L201, if_pos (show nI a ≤ nI j from (y_Ile (by omega) (by omega)).mpr (by omega))]
    exact hK E1 c1 P1 Q1 E2 c2 P2 Q2
  | succ r ih =>
    intro n j hj hn E1 c1 P1 Q1 E2 c2 P2 Q2
    obtain ⟨n, rfl⟩ : ∃ m, n = m + 1 := ⟨n - 1, by omega⟩
    obtain ⟨a4, f4⟩ := rc_pair (N := N) (K := K) q hN (nI a) (nI j) (x2 - x2 / (5 : Int32) * (5 : Int32))
    obtain ⟨c14, P14, Q14, e14⟩ := f4 T1 E1 w1 c1 P1 Q1 H1 S1 h1
    obtain ⟨c24, P24, Q24, e24⟩ := f4 T2 E2 w2 c2 P2 Q2 H2 S2 h2
    obtain ⟨a5, f5⟩ := rc_pair (N := N) (K := K) q hN (nI a) (nI j) 2
    obtain ⟨c15, P15, Q15, e15⟩ := f5 T1 E1 w1 c14 P14 Q14 H1 S1 h1
    obtain ⟨c25, P25, Q25, e25⟩ := f5 T2 E2 w2 c24 P24 Q24 H2 S2 h2
    rw [f_L_alike_L201, if_neg (show ¬ nI a ≤ nI j from fun z => by have := (y_Ile (by omega) (by omega)).mp z; omega), if_neg (by decide)]
    rw [e14, Option.bind_some, e24, Option.bind_some, if_pos rfl, e15, Option.bind_some, e25, Option.bind_some, if_pos rfl, y_c1, y_Iadd]
    exact ih n (j + 1) (by omega) (by omega) E1 c15 P15 Q15 E2 c25 P25 Q25
theorem u_160 {N K : Nat} {q : CW} {T1 T2 : TT} {w1 w2 : TW} {H1 H2 : TH} {S1 S2 : TS} (hN : N < 600000) (h1 : WK N K w1 q) (h2 : WK N K w2 q) {m : Nat} (hm : m ≤ 7) (R1 R2 : TR) (x2 : Int32) {KK : Int32 → TT → TE → TW → TW → TP → TP → TH → TS → TT → TE → TW → TW → TP → TP → TH → TS → Option (Int32 × T18)} (hK : ∀ (E1 : TE) (c1 : TW) (P1 Q1 : TP) (E2 : TE) (c2 : TW) (P2 Q2 : TP), AK T1 w1 H1 S1 T2 w2 H2 S2 (KK 1 T1 E1 w1 c1 P1 Q1 H1 S1 T2 E2 w2 c2 P2 Q2 H2 S2)) : ∀ r n j, j + r = m → r < n → ∀ (E1 : TE) (c1 : TW) (P1 Q1 : TP) (E2 : TE) (c2 : TW) (P2 Q2 : TP), AK T1 w1 H1 S1 T2 w2 H2 S2 (f_L_alike_L160 R1 R2 x2 (nI m) KK n 1 (nI j) T1 E1 w1 c1 P1 Q1 H1 S1 T2 E2 w2 c2 P2 Q2 H2 S2) := by
  intro r
  induction r with
  | zero =>
    intro n j hj hn E1 c1 P1 Q1 E2 c2 P2 Q2
    obtain ⟨n, rfl⟩ : ∃ m, n = m + 1 := ⟨n - 1, by omega⟩
    rw [f_L_alike_L160, if_pos (show nI m ≤ nI j from (y_Ile (by omega) (by omega)).mpr (by omega))]
    exact hK E1 c1 P1 Q1 E2 c2 P2 Q2
  | succ r ih =>
    intro n j hj hn E1 c1 P1 Q1 E2 c2 P2 Q2
    obtain ⟨n, rfl⟩ : ∃ m, n = m + 1 := ⟨n - 1, by omega⟩
    obtain ⟨a6, f6⟩ := rc_size (N := N) (K := K) q hN (nI j) 0 0
    obtain ⟨c16, P16, Q16, e16⟩ := f6 T1 E1 w1 c1 P1 Q1 H1 S1 h1
    obtain ⟨c26, P26, Q26, e26⟩ := f6 T2 E2 w2 c2 P2 Q2 H2 S2 h2
    rw [f_L_alike_L160, if_neg (show ¬ nI m ≤ nI j from fun z => by have := (y_Ile (by omega) (by omega)).mp z; omega), if_neg (by decide)]
    rw [e16, Option.bind_some, e26, Option.bind_some, if_pos rfl]
    unfold f_L_alike_J197
    refine u_201 hN h1 h2 (a := j) (by omega) R1 R2 x2 (nI m) (fun E1 c1 P1 Q1 E2 c2 P2 Q2 => ?_) j 8 0 (by omega) (by omega) E1 c16 P16 Q16 E2 c26 P26 Q26
    show AK T1 w1 H1 S1 T2 w2 H2 S2 (f_L_alike_L160 R1 R2 x2 (nI m) KK n 1 (nI j + (1 : Int32)) T1 E1 w1 c1 P1 Q1 H1 S1 T2 E2 w2 c2 P2 Q2 H2 S2)
    rw [y_c1, y_Iadd]
    exact ih n (j + 1) (by omega) (by omega) E1 c1 P1 Q1 E2 c2 P2 Q2
theorem u_64 {N K : Nat} {q : CW} {T1 T2 : TT} {w1 w2 : TW} {H1 H2 : TH} {S1 S2 : TS} (hN : N < 600000) (h1 : WK N K w1 q) (h2 : WK N K w2 q) (R1 R2 : TR) (x2 : Int32) {KK : Int32 → TT → TE → TW → TW → TP → TP → TH → TS → TT → TE → TW → TW → TP → TP → TH → TS → Option (Int32 × T18)} (hK : ∀ (E1 : TE) (c1 : TW) (P1 Q1 : TP) (E2 : TE) (c2 : TW) (P2 Q2 : TP), AK T1 w1 H1 S1 T2 w2 H2 S2 (KK 1 T1 E1 w1 c1 P1 Q1 H1 S1 T2 E2 w2 c2 P2 Q2 H2 S2)) : ∀ r n j, j + r = 6 → r < n → ∀ (E1 : TE) (c1 : TW) (P1 Q1 : TP) (E2 : TE) (c2 : TW) (P2 Q2 : TP), AK T1 w1 H1 S1 T2 w2 H2 S2 (f_L_alike_L64 R1 R2 x2 KK n 1 (nI j) T1 E1 w1 c1 P1 Q1 H1 S1 T2 E2 w2 c2 P2 Q2 H2 S2) := by
  intro r
  induction r with
  | zero =>
    intro n j hj hn E1 c1 P1 Q1 E2 c2 P2 Q2
    obtain ⟨n, rfl⟩ : ∃ m, n = m + 1 := ⟨n - 1, by omega⟩
    rw [f_L_alike_L64, if_pos (show (6 : Int32) ≤ nI j from (y_Ile (a := 6) (by omega) (by omega)).mpr (by omega))]
    exact hK E1 c1 P1 Q1 E2 c2 P2 Q2
  | succ r ih =>
    intro n j hj hn E1 c1 P1 Q1 E2 c2 P2 Q2
    obtain ⟨n, rfl⟩ : ∃ m, n = m + 1 := ⟨n - 1, by omega⟩
    obtain ⟨a7, f7⟩ := rc_about (N := N) (K := K) q hN (nI j) 0 0
    obtain ⟨c17, P17, Q17, e17⟩ := f7 T1 E1 w1 c1 P1 Q1 H1 S1 h1
    obtain ⟨c27, P27, Q27, e27⟩ := f7 T2 E2 w2 c2 P2 Q2 H2 S2 h2
    obtain ⟨a7, f7⟩ := r_sum (N := N) (K := K) q hN (nI j)
    obtain ⟨a8, f8⟩ := rc_setting (N := N) (K := K) q hN (nI j) 0 0
    obtain ⟨c18, P18, Q18, e18⟩ := f8 T1 E1 w1 c17 P17 Q17 H1 S1 h1
    obtain ⟨c28, P28, Q28, e28⟩ := f8 T2 E2 w2 c27 P27 Q27 H2 S2 h2
    rw [f_L_alike_L64, if_neg (show ¬ (6 : Int32) ≤ nI j from fun z => by have := (y_Ile (a := 6) (by omega) (by omega)).mp z; omega), if_neg (by decide)]
    rw [e17, Option.bind_some, e27, Option.bind_some, if_pos rfl, f7 w1 h1, Option.bind_some, f7 w2 h2, Option.bind_some, if_pos (lcx _), e18, Option.bind_some, e28, Option.bind_some, if_pos rfl, y_c1, y_Iadd]
    exact ih n (j + 1) (by omega) (by omega) E1 c18 P18 Q18 E2 c28 P28 Q28
theorem u_147 {N K : Nat} {q : CW} {T1 T2 : TT} {w1 w2 : TW} {H1 H2 : TH} {S1 S2 : TS} (hN : N < 600000) (h1 : WK N K w1 q) (h2 : WK N K w2 q) (x2 : Int32) (E1 : TE) (R1 : TR) (c1 : TW) (P1 Q1 : TP) (E2 : TE) (R2 : TR) (c2 : TW) (P2 Q2 : TP) : AK T1 w1 H1 S1 T2 w2 H2 S2 (f_L_alike_J147 x2 1 T1 E1 R1 w1 c1 P1 Q1 H1 S1 T2 E2 R2 w2 c2 P2 Q2 H2 S2) := by
  have h7 := h1.2.1.1.1
  unfold f_L_alike_J147
  rw [ec_about0 h1 T1 E1 c1 P1 Q1 H1 S1, Option.bind_some]
  refine u_160 hN h1 h2 (m := q.1 0) h7 R1 R2 x2 (fun E1 c1 P1 Q1 E2 c2 P2 Q2 => ?_) (q.1 0) 8 0 (by omega) (by omega) E1 c1 P1 Q1 E2 c2 P2 Q2
  show AK T1 w1 H1 S1 T2 w2 H2 S2 (f_L_alike_J280 x2 1 (nI (q.1 0)) T1 E1 R1 w1 c1 P1 Q1 H1 S1 T2 E2 R2 w2 c2 P2 Q2 H2 S2)
  unfold f_L_alike_J280
  refine u_283 hN h1 h2 R1 R2 x2 (nI (q.1 0)) (fun E1 c1 P1 Q1 E2 c2 P2 Q2 => ?_) 10 11 0 (by omega) (by omega) E1 c1 P1 Q1 E2 c2 P2 Q2
  exact u_331 hN h1 h2 x2 E1 R1 c1 P1 Q1 E2 R2 c2 P2 Q2
theorem d_alike {N K : Nat} {q : CW} {T1 T2 : TT} {w1 w2 : TW} {H1 H2 : TH} {S1 S2 : TS} (hN : N < 600000) (h1 : WK N K w1 q) (h2 : WK N K w2 q) {L : Nat} {c : Nat → Nat} (hT1 : TK T1 L c) (hT2 : TK T2 L c) (x2 : Int32) (E1 : TE) (R1 : TR) (c1 : TW) (P1 Q1 : TP) (E2 : TE) (R2 : TR) (c2 : TW) (P2 Q2 : TP) : AK T1 w1 H1 S1 T2 w2 H2 S2 (f_L_alike T1 E1 R1 w1 c1 P1 Q1 H1 S1 T2 E2 R2 w2 c2 P2 Q2 H2 S2 x2) := by
  obtain ⟨a1, f1⟩ := r_err1 L c
  obtain ⟨R11, e11⟩ := f1 T1 E1 R1 hT1
  obtain ⟨R21, e21⟩ := f1 T2 E2 R2 hT2
  obtain ⟨a2, f2⟩ := r_err0 L c
  obtain ⟨E12, e12⟩ := f2 T1 E1 R11 hT1
  obtain ⟨E22, e22⟩ := f2 T2 E2 R21 hT2
  obtain ⟨a3, f3⟩ := r_worst (N := N) (K := K) q
  obtain ⟨a4, f4⟩ := r_costOfText (N := N) (K := K) q (L := L) (c := c) hN (x2 - x2 / (3 : Int32) * (3 : Int32))
  obtain ⟨R14, P14, e14⟩ := f4 T1 R11 w1 P1 hT1 h1
  obtain ⟨R24, P24, e24⟩ := f4 T2 R21 w2 P2 hT2 h2
  unfold f_L_alike
  rw [e11, Option.bind_some, e21, Option.bind_some, if_pos rfl, e12, Option.bind_some, e22, Option.bind_some, if_pos rfl, f3 w1 h1, Option.bind_some, f3 w2 h2, Option.bind_some, if_pos rfl, e14, Option.bind_some, e24, Option.bind_some, if_pos (lcx _)]
  unfold f_L_alike_J60
  refine u_64 hN h1 h2 R14 R24 x2 (fun E1 c1 P1 Q1 E2 c2 P2 Q2 => ?_) 6 7 0 (by omega) (by omega) E12 c1 P14 Q1 E22 c2 P24 Q2
  exact u_147 hN h1 h2 x2 E1 R14 c1 P1 Q1 E2 R24 c2 P2 Q2
