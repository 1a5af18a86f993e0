-- the law's own loop
theorem y_mask (v : Int32) : ∃ X, X < 2147483648 ∧ v &&& 2147483647 = nI X := by
  rcases y_of (v &&& 2147483647) with h | ⟨j, h1, h2⟩
  · exfalso
    rw [Int32.lt_iff_toInt_lt] at h
    have h2 : (v &&& 2147483647).toBitVec.msb = true := by
      rw [BitVec.msb_eq_toInt]
      exact decide_eq_true (show (v &&& 2147483647).toBitVec.toInt < 0 from h)
    rw [Int32.toBitVec_and, BitVec.msb_and, show (2147483647 : Int32).toBitVec.msb = false from by decide, Bool.and_false] at h2
    exact absurd h2 (by decide)
  · exact ⟨j, h1, h2⟩
theorem cell_ok (xs : Nat → Int32) {L j : Nat} (hL : L ≤ 260) (hj : j < 1000) : ∃ X, X < 2147483648 ∧ f_L_cell xs L (nI j) = some (nI X, ()) := by
  unfold f_L_cell
  by_cases h : L ≤ j
  · obtain ⟨X, hX, e⟩ := y_mask ((15518357 : Int32) * (nI j + (3 : Int32)) + (10627 : Int32))
    refine ⟨X, hX, ?_⟩
    rw [if_pos (show Int32.ofNat L ≤ nI j from (y_Ile (by omega) (by omega)).mpr h), e]
  · obtain ⟨X, hX, e⟩ := y_mask (xs j)
    refine ⟨X, hX, ?_⟩
    rw [if_neg (show ¬ Int32.ofNat L ≤ nI j from fun z => h ((y_Ile (by omega) (by omega)).mp z)), if_pos (y_inb (by omega) (by omega)), y_cl (by omega), e]
theorem y_law {xs : Nat → Int32} {L : Nat} (hL : L ≤ 260) : ∀ r n i N K (k : CO), i + r = 28 → r < n → N + 200 * r < 90000 → K + 4 * r < 890 → ∀ (u v : S8) (R1 R2 : TR), GG N K u k → GG N K v k → f_law_L21 xs L n 1 (nI i) u.1 u.2.1 R1 u.2.2.1 u.2.2.2.1 u.2.2.2.2.1 u.2.2.2.2.2.1 v.1 v.2.1 R2 v.2.2.1 v.2.2.2.1 v.2.2.2.2.1 v.2.2.2.2.2.1 u.2.2.2.2.2.2.1 u.2.2.2.2.2.2.2 v.2.2.2.2.2.2.1 v.2.2.2.2.2.2.2 = some () := by
  intro r
  induction r with
  | zero =>
    intro n i N K k hi hn _ _ u v R1 R2 _ _
    obtain ⟨n, rfl⟩ : ∃ m, n = m + 1 := ⟨n - 1, by omega⟩
    rw [f_law_L21, if_pos (show (28 : Int32) ≤ nI i from (y_Ile (a := 28) (by omega) (by omega)).mpr (by omega))]
    exact if_pos rfl
  | succ r ih =>
    rintro n i N K k hi hn hN hK ⟨T1, E1, w1, c1, P1, Q1, H1, S1⟩ ⟨T2, E2, w2, c2, P2, Q2, H2, S2⟩ R1 R2 hu hv
    obtain ⟨n, rfl⟩ : ∃ m, n = m + 1 := ⟨n - 1, by omega⟩
    have i1 : ¬ (1 : Int32) = 0 := by decide
    have i28 : ¬ (28 : Int32) ≤ nI i := fun z => by have := (y_Ile (a := 28) (by omega) (by omega)).mp z; omega
    have i4 : nI i + (1 : Int32) = nI (i + 1) := y_Iadd i 1
    obtain ⟨X, hX, ex⟩ := cell_ok xs (j := 2 * i) hL (by omega)
    obtain ⟨Y, hY, ey⟩ := cell_ok xs (j := 2 * i + 1) hL (by omega)
    have ex : f_L_cell xs L ((2 : Int32) * nI i) = some (nI X, ()) := by rw [show (2 : Int32) * nI i = nI (2 * i) from y_Imul 2 i]; exact ex
    have ey : f_L_cell xs L ((2 : Int32) * nI i + (1 : Int32)) = some (nI Y, ()) := by rw [show (2 : Int32) * nI i + (1 : Int32) = nI (2 * i + 1) from by rw [show (2 : Int32) * nI i = nI (2 * i) from y_Imul 2 i]; exact y_Iadd (2 * i) 1]; exact ey
    obtain ⟨E3, e5⟩ := d_refuses hu.1 hu.2.1 hX E1 R1 c1 P1 Q1 H1 S1
    obtain ⟨va, k', ha⟩ := d_act (N := N) (K := K) k (by omega) (nI X) (nI Y)
    obtain ⟨⟨T3, E4, w3, c3, P3, Q3, H3, S3⟩, e9, g9⟩ := ha (T1, E3, w1, c1, P1, Q1, H1, S1) hu
    obtain ⟨⟨T4, E5, w4, c4, P4, Q4, H4, S4⟩, e10, gp⟩ := ha (T2, E2, w2, c2, P2, Q2, H2, S2) hv
    change f_L_act T1 E3 w1 c1 P1 Q1 H1 S1 (nI X) (nI Y) = _ at e9
    change f_L_act T2 E2 w2 c2 P2 Q2 H2 S2 (nI X) (nI Y) = _ at e10
    obtain ⟨E6, e14⟩ := d_refuses g9.1 g9.2.1 hY E4 R1 c3 P3 Q3 H3 S3
    obtain ⟨E7, R7, c7, P7, Q7, E8, R8, c8, P8, Q8, e18⟩ := d_alike (H1 := H3) (S1 := S3) (H2 := H4) (S2 := S4) (by omega) g9.2.1 gp.2.1 g9.1 gp.1 (nI X) E6 R1 c3 P3 Q3 E5 R2 c4 P4 Q4
    show f_law_L21 xs L (n + 1) 1 (nI i) T1 E1 R1 w1 c1 P1 Q1 T2 E2 R2 w2 c2 P2 Q2 H1 S1 H2 S2 = some ()
    change f_L_refuses T1 E1 R1 w1 c1 P1 Q1 H1 S1 (nI X) = _ at e5
    change f_L_refuses T3 E4 R1 w3 c3 P3 Q3 H3 S3 (nI Y) = _ at e14
    change f_L_alike T3 E6 R1 w3 c3 P3 Q3 H3 S3 T4 E5 R2 w4 c4 P4 Q4 H4 S4 (nI X) = _ at e18
    rw [f_law_L21, if_neg i28, if_neg i1, ex, Option.bind_some, ey, Option.bind_some, e5, Option.bind_some, if_neg i1, e9, Option.bind_some, e10, Option.bind_some, if_pos rfl, e14, Option.bind_some, if_neg i1, e18, Option.bind_some, if_neg i1]
    by_cases hm : nI i - nI i / (4 : Int32) * (4 : Int32) = (3 : Int32)
    · obtain ⟨⟨T5, E9, w5, c9, P9, Q9, H5, S5⟩, e24, g24⟩ := d_holds k' (by omega) (by omega) hY (T3, E7, w3, c7, P7, Q7, H3, S3) g9
      obtain ⟨⟨T6, E10, w6, c10, P10, Q10, H6, S6⟩, e28, g28⟩ := d_holds k' (by omega) (by omega) hY (T4, E8, w4, c8, P8, Q8, H4, S4) gp
      change f_L_holds T3 E7 w3 c7 P7 Q7 H3 S3 (nI Y) = _ at e24
      change f_L_holds T4 E8 w4 c8 P8 Q8 H4 S4 (nI Y) = _ at e28
      obtain ⟨x1, hx1⟩ := r_simulate (N := N + 200) (K := K + 4) k'.1 (by omega) ((Int32.toInt64 (nI X)) * (3434256485 : Int64) - (821 : Int64)) ((1 : Int32) + (nI Y - nI Y / (10 : Int32) * (10 : Int32)))
      obtain ⟨c11, P11, Q11, e32⟩ := hx1 w5 c9 P9 Q9 g24.2.1
      obtain ⟨c12, P12, Q12, e34⟩ := hx1 w6 c10 P10 Q10 g28.2.1
      obtain ⟨x2, hx2⟩ := r_runScript (N := N + 200) (K := K + 4) k'.1 (by omega) (2 : Int32) ((Int32.toInt64 (nI Y)) * (400 : Int64))
      obtain ⟨c13, P13, Q13, e36⟩ := hx2 w5 c11 P11 Q11 g24.2.1
      obtain ⟨c14, P14, Q14, e37⟩ := hx2 w6 c12 P12 Q12 g28.2.1
      obtain ⟨E15, R15, c15, P15, Q15, E16, R16, c16, P16, Q16, e39⟩ := d_alike (H1 := H5) (S1 := S5) (H2 := H6) (S2 := S6) (by omega) g24.2.1 g28.2.1 g24.1 g28.1 (nI Y) E9 R7 c13 P13 Q13 E10 R8 c14 P14 Q14
      change f_L_alike T5 E9 R7 w5 c13 P13 Q13 H5 S5 T6 E10 R8 w6 c14 P14 Q14 H6 S6 (nI Y) = _ at e39
      rw [if_pos hm, e24, Option.bind_some, if_neg i1, e28, Option.bind_some, if_neg i1, e32, Option.bind_some, e34, Option.bind_some, if_pos rfl, e36, Option.bind_some, e37, Option.bind_some, if_pos rfl, e39, Option.bind_some, if_neg i1, i4]
      exact ih n (i + 1) (N + 200) (K + 4) (k'.1, k'.2.1.take 12, k'.2.2) (by omega) (by omega) (by omega) (by omega) (T5, E15, w5, c15, P15, Q15, H5, S5) (T6, E16, w6, c16, P16, Q16, H6, S6) R15 R16 g24 g28
    · rw [if_neg hm, i4]
      exact ih n (i + 1) (N + 200) (K + 4) k' (by omega) (by omega) (by omega) (by omega) (T3, E7, w3, c7, P7, Q7, H3, S3) (T4, E8, w4, c8, P8, Q8, H4, S4) R7 R8 g9 gp
