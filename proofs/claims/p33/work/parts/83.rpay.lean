theorem yC_in {ρ : Nat → Nat} {wh : Nat} {k : Nat} (hi : INp ρ) (hw : wh < 2 ^ ρ 0) : ∀ t, t ∈ yPl ρ k wh → t < ρ 0 := fun t ht => y_bitlt hw (yP_in 7 0 t ht).2
theorem x_pay18 {M : TM} {cb pb : Nat → Int64} {pl : Nat → Int32} {r : Nat → Int64} {ρ RC RP : Nat → Nat} (hr : RRp r ρ) (hi : INp ρ) (hc : ∀ i, i < 2 ^ ρ 0 → cb i = lN (RC i) ∧ RC i ≤ 1000000000000) (hp : ∀ i, i < 2 ^ ρ 0 → pb i = lN (RP i) ∧ RP i ≤ 1000000000000) :
    ∀ l i n s acc, l.length < n → M_planned M = nI (i + l.length) → i + l.length ≤ 7 → (∀ m, m < l.length → pl (i + m) = nI (l.getD m 0)) → (∀ t, t ∈ l → t < ρ 0) → s < 2 ^ ρ 0 →
    f_X9_payFor_L18 353 M cb pb pl r n (lN acc) (nI s) (nI i) = some (lN (acc + yC (yst RC RP (yz ρ)) s l), pb) := by
  have h7 := y_pow7 _ hi.1
  have h8 := hi.1
  intro l
  induction l with
  | nil =>
    intro i n s acc hn hM h hp2 hin hs
    obtain ⟨n, rfl⟩ : ∃ m, n = m + 1 := ⟨n - 1, by omega⟩
    rw [f_X9_payFor_L18, hM]
    exact if_pos (by rw [List.length_nil]; exact (y_Ile (by omega) (by omega)).mpr (by omega))
  | cons t l ih =>
    intro i n s acc hn hM h hp2 hin hs
    obtain ⟨n, rfl⟩ : ∃ m, n = m + 1 := ⟨n - 1, by omega⟩
    rw [List.length_cons] at hn hM h
    have ht := hin t List.mem_cons_self
    have hpl := hp2 0 (by rw [List.length_cons]; omega)
    rw [Nat.add_zero] at hpl
    have hpl : pl i = nI t := hpl
    have hst := x_step hr hi hc hp hs ht (y_or_lt hs ht)
    have e := ih (i + 1) n (s ||| 2 ^ t) (acc + yst RC RP (yz ρ) s t) (by omega) (by rw [hM]; congr 1; omega) (by omega) (fun m hm => by
      have := hp2 (m + 1) (by rw [List.length_cons]; omega)
      rw [show i + 1 + m = i + (m + 1) by omega]
      exact this) (fun t' ht' => hin t' (List.mem_cons_of_mem _ ht')) (y_or_lt hs ht)
    rw [yC, ← Nat.add_assoc]
    rw [f_X9_payFor_L18, hM]
    simp (disch := omega) only [y_c0, y_c1, y_c10, y_c106, y_c128, y_c13, y_c14, y_c155, y_c2, y_c20, y_c204, y_c21, y_c253, y_c3, y_c353, y_c4, y_c40, y_c49, y_c57, y_c6, y_c7, y_c8, y_d0, y_d1, y_d10, y_d3, y_d7, y_dR, y_dS, y_dk, y_Ilt, y_Ile, y_Ieq, y_Iadd, y_Imul, y_Idiv, y_Llt, y_Lle, y_Leq, y_Ladd, y_Lmul, y_Ldiv, y_I2l, y_L2i, y_shn, y_or, y_and, y_bn1, y_bn0, y_inb, y_cl, y_gle, y_gge, y_ggt, y_glt, y_geq, if_pos, if_neg, if_true, if_false, Option.bind_some, hpl, hst]
    exact e
theorem x_pay {M : TM} {cb pb : Nat → Int64} {pl : Nat → Int32} {r : Nat → Int64} {ρ RC : Nat → Nat} {k : Nat} {L : List Nat} (hr : RRp r ρ) (hi : INp ρ) (hk : k ≤ 2) (hc : ∀ i, i < 2 ^ ρ 0 → cb i = lN (RC i) ∧ RC i ≤ 1000000000000) (hM : XP M pl L) (hL : L.length ≤ 7) (hin : ∀ t, t ∈ L → t < ρ 0) :
    ∃ pb', f_X9_payFor 353 M cb pb pl r (nI k) = some (lN (yC (yst RC (yrw ρ k) (yz ρ)) 0 L), pb') := by
  obtain ⟨pb', a1, a2⟩ := x_lay pb hr hi hk
  obtain ⟨F, hF, hF1⟩ := y_fuel
  refine ⟨pb', ?_⟩
  unfold f_X9_payFor
  rw [a1, Option.bind_some, hF]
  have e := x_pay18 (M := M) (pl := pl) (RC := RC) (RP := yrw ρ k) (pb := pb') hr hi hc (fun i h => ⟨a2 i h, (yrw_bd hi k h).2⟩) L 0 F 0 0 (by omega) (by rw [hM.1, Nat.zero_add]) (by omega) (fun m hm => by rw [Nat.zero_add]; exact hM.2 m hm) hin (Nat.pow_pos (by omega))
  rw [Nat.zero_add] at e
  exact e
/-- what the plan by one kind costs by another -/
def yTr (ρ : Nat → Nat) (k k2 wh : Nat) : Nat := yC (yst (yrw ρ k) (yrw ρ k2) (yz ρ)) 0 (yPl ρ k wh)
theorem x_payP {M : TM} {cb pb : Nat → Int64} {pl : Nat → Int32} {r : Nat → Int64} {ρ : Nat → Nat} {k k2 wh : Nat} (hr : RRp r ρ) (hi : INp ρ) (hk : k2 ≤ 2) (hw : wh < 2 ^ ρ 0) (hc : ∀ i, i < 2 ^ ρ 0 → cb i = lN (yrw ρ k i)) (hM : XP M pl (yPl ρ k wh)) :
    ∃ pb', f_X9_payFor 353 M cb pb pl r (nI k2) = some (lN (yTr ρ k k2 wh), pb') :=
  x_pay hr hi hk (fun i h => ⟨hc i h, (yrw_bd hi k h).2⟩) hM (yP_len 7 0) (yC_in hi hw)
/-- the reference's costs of a set -/
def yCost (ρ : Nat → Nat) (wh what : Nat) : Int64 := if what = 0 then lN (yD (yst1 ρ 1) wh 0) else if what = 1 then lN (yTr ρ 1 2 wh) else lN (yTr ρ 1 2 wh) - lN (yD (yst1 ρ 2) wh 0)
theorem x_cost {M : TM} {cb pb tp : Nat → Int64} {pl : Nat → Int32} {r : Nat → Int64} {ρ : Nat → Nat} {wh what : Nat} (hr : RRp r ρ) (hi : INp ρ) (hw : wh < 2 ^ ρ 0) (hwh : what ≤ 2) :
    ∃ x cb' pb' tp' pl', f_X9_costOn 353 M cb pb tp pl r (nI wh) (nI what) = some (yCost ρ wh what, (Mpl M x, cb', pb', tp', pl')) := by
  obtain ⟨cb1, tp1, pl1, a1, a2, a3⟩ := x_choose (M := M) (cb := cb) (tp := tp) (pl := pl) (k := 1) hr hi (by omega) hw
  obtain ⟨pb1, b1⟩ := x_payP (M := Mpl M (nI (yPl ρ 1 wh).length)) (pb := pb) (k := 1) (k2 := 2) hr hi (by omega) hw a2 ⟨rfl, a3⟩
  obtain ⟨cb2, tp2, pl2, c1, -⟩ := x_choose (M := Mpl M (nI (yPl ρ 1 wh).length)) (cb := cb1) (tp := tp1) (pl := pl1) (k := 2) hr hi (by omega) hw
  have e : what = 0 ∨ what = 1 ∨ what = 2 := by omega
  unfold f_X9_costOn
  rw [show (1 : Int32) = nI 1 from rfl, show (2 : Int32) = nI 2 from rfl, a1, Option.bind_some]
  rcases e with rfl | rfl | rfl
  · exact ⟨nI (yPl ρ 1 wh).length, cb1, pb, tp1, pl1, if_pos rfl⟩
  · refine ⟨nI (yPl ρ 1 wh).length, cb1, pb1, tp1, pl1, ?_⟩
    rw [if_neg (by decide), b1, Option.bind_some]
    exact if_pos rfl
  · refine ⟨nI (yPl ρ 2 wh).length, cb2, pb1, tp2, pl2, ?_⟩
    rw [if_neg (by decide), b1, Option.bind_some, if_neg (by decide), c1]
    rfl
