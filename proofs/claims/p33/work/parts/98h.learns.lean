def g32 : Option Nat → Int32
  | none => -1
  | some k => nI k
def g64 : Option Nat → Int64
  | none => -1
  | some k => lN k
theorem g32_le {D : Nat} (hD : D ≤ 1000000) {m : Option Nat} (hm : ∀ k, m = some k → k ≤ 1000000) : nI D ≤ g32 m ↔ ∃ k, m = some k ∧ D ≤ k := by
  cases m with
  | none =>
    constructor
    · intro h
      exact absurd h (by
        rw [fa_le, show (nI D).toInt = (D : Int) from nI_toInt (by omega), show (g32 none).toInt = -1 from rfl]
        omega)
    · rintro ⟨k, h, -⟩; exact nomatch h
  | some k =>
    have hk := hm k rfl
    constructor
    · intro h; exact ⟨k, rfl, (y_Ile (by omega) (by omega)).mp h⟩
    · rintro ⟨k', h, h2⟩
      have : k = k' := Option.some.inj h
      exact (y_Ile (by omega) (by omega)).mpr (by omega)
theorem g64_le {D : Nat} (hD : D ≤ 1000000) {m : Option Nat} (hm : ∀ k, m = some k → k ≤ 1000000) : lN D ≤ g64 m ↔ ∃ k, m = some k ∧ D ≤ k := by
  cases m with
  | none =>
    constructor
    · intro h
      exact absurd h (by
        rw [fa_le64, show (lN D).toInt = (D : Int) from Int64.toInt_ofNat_of_lt (by omega), show (g64 none).toInt = -1 from rfl]
        omega)
    · rintro ⟨k, h, -⟩; exact nomatch h
  | some k =>
    have hk := hm k rfl
    constructor
    · intro h; exact ⟨k, rfl, (y_Lle (by omega) (by omega)).mp h⟩
    · rintro ⟨k', h, h2⟩
      have : k = k' := Option.some.inj h
      exact (y_Lle (by omega) (by omega)).mpr (by omega)
theorem x_wst {M : TM} {now : Nat → Int64} {ρ : Nat → Nat} {a b d : Nat} {K : Int32 → Int64 → Option (Int32 × TM)} (hr : RRp now ρ) (hi : INp ρ) (hab : a < b) (hb : b < 7) (hd : d = b * (b - 1) / 2 + a) (n : Nat) (x1 : Int32) (x2 : Int64) :
    f_X9_worst_L27 M now (nI a) K (n + 1) x1 x2 (nI b) = if 0 < ρ (8 + yq d) ∧ ¬ lN (yDf ρ (yq d)) ≤ x2 then f_X9_worst_L27 M now (nI a) K n ((10 : Int32) * nI a + nI b) (lN (yDf ρ (yq d))) (nI (b + 1)) else f_X9_worst_L27 M now (nI a) K n x1 x2 (nI (b + 1)) := by
  obtain ⟨k1, k2⟩ := yq_ab b hb a hab
  rw [← hd] at k1 k2
  have ep := x_pair hab hb
  rw [← k2] at ep
  have hq := yq_lt d k1
  have bl := x_bel hr hi k1
  have e106 := hr (106 + yq d) (by omega)
  have e8 := hr (8 + yq d) (by omega)
  obtain ⟨d1, d2, d3⟩ := yDf_le hi k1
  have b8 := (hi.2.2 d k1).1
  have j80 : ∀ s0 : Int64, s0 = lN (yDf ρ (yq d)) → f_X9_worst_J80 now (fun x1 x2 x5 => f_X9_worst_L27 M now (nI a) K n x1 x2 x5) x1 x2 (nI a) (nI b) (nI (yq d)) s0 M = if 0 < ρ (8 + yq d) ∧ ¬ lN (yDf ρ (yq d)) ≤ x2 then f_X9_worst_L27 M now (nI a) K n ((10 : Int32) * nI a + nI b) (lN (yDf ρ (yq d))) (nI (b + 1)) else f_X9_worst_L27 M now (nI a) K n x1 x2 (nI (b + 1)) := by
    intro s0 h0
    subst h0
    unfold f_X9_worst_J80
    rw [show (8 : Int32) + nI (yq d) = nI (8 + yq d) from y_Iadd 8 (yq d), if_pos (y_inb (by omega) (by omega)), y_cl (by omega), e8, y_c1, y_Iadd, show (0 : Int64) = lN 0 from rfl]
    by_cases q : 0 < ρ (8 + yq d)
    · rw [if_neg (show ¬ lg_cmp (lN (ρ (8 + yq d))) (lN 0) ≤ (0 : Int32) from fun z => by have := (y_Lle (by omega) (by omega)).mp ((lg_cmp_le _ _).mp z); omega)]
      by_cases q2 : lN (yDf ρ (yq d)) ≤ x2
      · rw [if_pos ((lg_cmp_le _ _).mpr q2), if_neg (fun z => z.2 q2)]
      · rw [if_neg (fun z => q2 ((lg_cmp_le _ _).mp z)), if_pos ⟨q, q2⟩]
    · rw [if_pos ((lg_cmp_le _ _).mpr ((y_Lle (by omega) (by omega)).mpr (by omega))), if_neg (fun z => q z.1)]
  rw [f_X9_worst_L27, if_neg (show ¬ (7 : Int32) ≤ nI b from fun z => by have := (y_Ile (a := 7) (by omega) (by omega)).mp z; omega), ep, Option.bind_some]
  show ((f_X9_believed 353 now (nI (yq d))).bind _) = _
  rw [bl, Option.bind_some, show (106 : Int32) + (nI (yq d), ()).1 = nI (106 + yq d) from y_Iadd 106 (yq d), if_pos (y_inb (by omega) (by omega)), y_cl (by omega), e106]
  have ex : (lN (yBl ρ (yq d))).toInt = (yBl ρ (yq d) : Int) := Int64.toInt_ofNat_of_lt (by omega)
  have ey : (lN (ρ (106 + yq d))).toInt = (ρ (106 + yq d) : Int) := Int64.toInt_ofNat_of_lt (by omega)
  have e0 : (0 : Int64).toInt = 0 := rfl
  have es : (lN (yBl ρ (yq d)) - lN (ρ (106 + yq d))).toInt = (yBl ρ (yq d) : Int) - ρ (106 + yq d) := by rw [fb_subL (by rw [ex, ey]; omega) (by rw [ex, ey]; omega), ex, ey]
  by_cases q : ρ (106 + yq d) ≤ yBl ρ (yq d)
  · refine (if_pos ((lg_cmp_ge _ _).mpr (by rw [fa_le64, e0]; show (0 : Int) ≤ (lN (yBl ρ (yq d)) - lN (ρ (106 + yq d))).toInt; rw [es]; omega))).trans ?_
    refine j80 _ ?_
    show lN (yBl ρ (yq d)) - lN (ρ (106 + yq d)) = _
    unfold yDf
    rw [if_pos q, y_Lsub q]
  · refine (if_neg (fun z => by
      have := (lg_cmp_ge _ _).mp z
      rw [fa_le64, e0] at this
      have h2 : (0 : Int) ≤ (lN (yBl ρ (yq d)) - lN (ρ (106 + yq d))).toInt := this
      rw [es] at h2
      omega)).trans ?_
    refine j80 _ ?_
    show -(lN (yBl ρ (yq d)) - lN (ρ (106 + yq d))) = _
    unfold yDf
    rw [if_neg q, Int64.neg_sub, y_Lsub (by omega)]
theorem c_wst {w : TW} {ρ : Nat → Nat} {a b d : Nat} {K : Int32 → Int32 → Option (Int32 × Unit)} (hw : WRp w ρ) (hi : INp ρ) (hab : a < b) (hb : b < 7) (hd : d = b * (b - 1) / 2 + a) (n : Nat) (x1 x2 : Int32) :
    f_X7_mostWronglyBelieved_L17 w (nI a) K (n + 1) x1 x2 (nI b) = if 0 < ρ (8 + yq d) ∧ ¬ nI (yDf ρ (yq d)) ≤ x2 then f_X7_mostWronglyBelieved_L17 w (nI a) K n ((10 : Int32) * nI a + nI b) (nI (yDf ρ (yq d))) (nI (b + 1)) else f_X7_mostWronglyBelieved_L17 w (nI a) K n x1 x2 (nI (b + 1)) := by
  obtain ⟨k1, k2⟩ := yq_ab b hb a hab
  rw [← hd] at k1 k2
  have cp := c_pair a (by omega) b (by omega) (by omega)
  rw [show yci a b = b * (b - 1) / 2 + a from if_pos hab, ← hd] at cp
  have el := c_isLinked hw hi k1
  have df := c_diff hw hi k1
  rw [f_X7_mostWronglyBelieved_L17, if_neg (show ¬ (7 : Int32) ≤ nI b from fun z => by have := (y_Ile (a := 7) (by omega) (by omega)).mp z; omega), cp, Option.bind_some]
  show ((f_X7_isLinked w (nI d)).bind _) = _
  rw [el, Option.bind_some]
  by_cases q : 0 < ρ (8 + yq d)
  · rw [if_pos q]
    refine (if_neg y_z1).trans ?_
    show ((f_X7_differenceOf w (nI d)).bind _) = _
    rw [df, Option.bind_some]
    by_cases q2 : nI (yDf ρ (yq d)) ≤ x2
    · refine (if_pos q2).trans ?_
      rw [if_neg (fun z => z.2 q2), y_c1, y_Iadd]
    · refine (if_neg q2).trans ?_
      rw [Option.bind_some, if_pos ⟨q, q2⟩, y_c1, y_Iadd]
  · rw [if_neg q]
    refine (if_pos y_z0).trans ?_
    rw [if_neg (fun z => q z.1), y_c1, y_Iadd]
theorem s_wst1 {w : TW} {M : TM} {now : Nat → Int64} {ρ : Nat → Nat} {a : Nat} {K1 : Int32 → Int32 → Option (Int32 × Unit)} {K2 : Int32 → Int64 → Option (Int32 × TM)} (hw : WRp w ρ) (hr : RRp now ρ) (hi : INp ρ) : ∀ rr b n1 n2 x1 m, b + rr = 7 → rr < n1 → rr < n2 → a < b → (∀ k, m = some k → k ≤ 1000000) →
    ∃ x1' m', f_X7_mostWronglyBelieved_L17 w (nI a) K1 n1 x1 (g32 m) (nI b) = K1 x1' (g32 m') ∧ f_X9_worst_L27 M now (nI a) K2 n2 x1 (g64 m) (nI b) = K2 x1' (g64 m') ∧ ∀ k, m' = some k → k ≤ 1000000 := by
  intro rr
  induction rr with
  | zero =>
    intro b n1 n2 x1 m hb h1 h2 _ hm
    obtain ⟨n1, rfl⟩ : ∃ m, n1 = m + 1 := ⟨n1 - 1, by omega⟩
    obtain ⟨n2, rfl⟩ : ∃ m, n2 = m + 1 := ⟨n2 - 1, by omega⟩
    refine ⟨x1, m, ?_, ?_, hm⟩
    · rw [f_X7_mostWronglyBelieved_L17, show b = 7 by omega]; exact if_pos (by decide)
    · rw [f_X9_worst_L27, show b = 7 by omega]; exact if_pos (by decide)
  | succ rr ih =>
    intro b n1 n2 x1 m hb h1 h2 hab hm
    obtain ⟨n1, rfl⟩ : ∃ m, n1 = m + 1 := ⟨n1 - 1, by omega⟩
    obtain ⟨n2, rfl⟩ : ∃ m, n2 = m + 1 := ⟨n2 - 1, by omega⟩
    obtain ⟨k1, k2⟩ := yq_ab b (by omega) a hab
    have d3 := (yDf_le hi k1).2.2
    rw [c_wst hw hi hab (by omega) rfl, x_wst hr hi hab (by omega) rfl]
    have l1 := g32_le (D := yDf ρ (yq (b * (b - 1) / 2 + a))) (by omega) hm
    have l2 := g64_le (D := yDf ρ (yq (b * (b - 1) / 2 + a))) (by omega) hm
    by_cases q : 0 < ρ (8 + yq (b * (b - 1) / 2 + a)) ∧ ¬ ∃ k, m = some k ∧ yDf ρ (yq (b * (b - 1) / 2 + a)) ≤ k
    · rw [if_pos ⟨q.1, fun z => q.2 (l1.mp z)⟩, if_pos ⟨q.1, fun z => q.2 (l2.mp z)⟩]
      exact ih (b + 1) n1 n2 _ (some (yDf ρ (yq (b * (b - 1) / 2 + a)))) (by omega) (by omega) (by omega) (by omega) (fun k hk => by have := Option.some.inj hk; omega)
    · rw [if_neg (fun z => q ⟨z.1, fun y => z.2 (l1.mpr y)⟩), if_neg (fun z => q ⟨z.1, fun y => z.2 (l2.mpr y)⟩)]
      exact ih (b + 1) n1 n2 x1 m (by omega) (by omega) (by omega) (by omega) hm
theorem s_wst2 {w : TW} {M : TM} {now : Nat → Int64} {ρ : Nat → Nat} (hw : WRp w ρ) (hr : RRp now ρ) (hi : INp ρ) : ∀ rr a n1 n2 x1 m, a + rr = 7 → rr < n1 → rr < n2 → (∀ k, m = some k → k ≤ 1000000) →
    ∃ x1', f_X7_mostWronglyBelieved_L6 w n1 x1 (g32 m) (nI a) = some (x1', ()) ∧ f_X9_worst_L14 M now n2 x1 (g64 m) (nI a) = some (x1', M) := by
  intro rr
  induction rr with
  | zero =>
    intro a n1 n2 x1 m hb h1 h2 hm
    obtain ⟨n1, rfl⟩ : ∃ m, n1 = m + 1 := ⟨n1 - 1, by omega⟩
    obtain ⟨n2, rfl⟩ : ∃ m, n2 = m + 1 := ⟨n2 - 1, by omega⟩
    refine ⟨x1, ?_, ?_⟩
    · rw [f_X7_mostWronglyBelieved_L6, show a = 7 by omega]; exact if_pos (by decide)
    · rw [f_X9_worst_L14, show a = 7 by omega]; exact if_pos (by decide)
  | succ rr ih =>
    intro a n1 n2 x1 m hb h1 h2 hm
    obtain ⟨n1, rfl⟩ : ∃ m, n1 = m + 1 := ⟨n1 - 1, by omega⟩
    obtain ⟨n2, rfl⟩ : ∃ m, n2 = m + 1 := ⟨n2 - 1, by omega⟩
    obtain ⟨F, hF, hF1⟩ := y_fuel
    obtain ⟨x1', m', e1, e2, e3⟩ := s_wst1 (M := M) (a := a) (K1 := (fun (y9x1 : Int32) (y9x2 : Int32) => (f_X7_mostWronglyBelieved_L6 w n1 y9x1 y9x2 (nI a + (1 : Int32))))) (K2 := (fun (y10x1 : Int32) (y10x2 : Int64) => (f_X9_worst_L14 M now n2 y10x1 y10x2 (nI a + (1 : Int32))))) hw hr hi (6 - a) (a + 1) F F x1 m (by omega) (by omega) (by omega) (by omega) hm
    obtain ⟨x2, f1, f2⟩ := ih (a + 1) n1 n2 x1' m' (by omega) (by omega) (by omega) e3
    refine ⟨x2, ?_, ?_⟩
    · rw [f_X7_mostWronglyBelieved_L6, if_neg (show ¬ (7 : Int32) ≤ nI a from fun z => by have := (y_Ile (a := 7) (by omega) (by omega)).mp z; omega), hF, y_c1, y_Iadd]
      rw [y_c1, y_Iadd] at e1
      exact e1.trans f1
    · rw [f_X9_worst_L14, if_neg (show ¬ (7 : Int32) ≤ nI a from fun z => by have := (y_Ile (a := 7) (by omega) (by omega)).mp z; omega), hF, y_c1, y_Iadd]
      rw [y_c1, y_Iadd] at e2
      exact e2.trans f2
theorem p_worst {N : Nat} {w : TW} {r : Nat → Int64} {ρ : Nat → Nat} {σ : Nat → Int64} (h : ST N w r ρ σ) (M : TM) : ∃ x M', f_X8_worst w = some (x, ()) ∧ f_X9_worst M r = some (x, M') ∧ SM2 M' M := by
  obtain ⟨F, hF, hF1⟩ := y_fuel
  obtain ⟨x, e1, e2⟩ := s_wst2 (M := Mrf M 0) h.1.1 h.2.1.p h.2.2.1 7 0 F F (-1) none rfl (by omega) (by omega) (fun k hk => nomatch hk)
  refine ⟨x, Mrf M 0, ?_, ?_, SM2.rf M 0⟩
  · unfold f_X8_worst f_X7_mostWronglyBelieved
    rw [hF, show f_X7_mostWronglyBelieved_L6 w F (-1 : Int32) (-1 : Int32) (0 : Int32) = _ from e1]; rfl
  · unfold f_X9_worst
    rw [hF]
    exact e2
theorem yA_cong {st st' : Nat → Nat → Nat} {w : Nat} (h : ∀ s t, t < 7 → st s t = st' s t) : ∀ n s, yA st w n s = yA st' w n s := by
  intro n
  induction n with
  | zero => intro s; rfl
  | succ n ih =>
    intro s
    rw [yA, yA]
    rw [yf_cong (p := ycd w s) (c := fun t => st s t + yA st w n (s ||| 2 ^ t)) (c' := fun t => st' s t + yA st' w n (s ||| 2 ^ t)) 7 (fun t ht _ => by
      show st s t + yA st w n (s ||| 2 ^ t) = st' s t + yA st' w n (s ||| 2 ^ t)
      rw [h s t ht, ih])]
theorem yrw_cong {ρ ρ' : Nat → Nat} (h : ∀ j, (j < 8 ∨ (106 ≤ j ∧ j < 155)) → ρ' j = ρ j) (s : Nat) : yrw ρ' 2 s = yrw ρ 2 s := by
  unfold yrw
  refine yr_cong 7 (fun _ _ => rfl) (fun t ht _ => h (1 + t) (by omega)) (fun t ht _ u hu _ => ?_)
  unfold yg ysh
  rw [if_neg (by omega), if_neg (by omega), if_neg (by omega), if_neg (by omega)]
  exact h _ (by omega)
theorem yD_cong2 {ρ ρ' : Nat → Nat} (h : ∀ j, (j < 8 ∨ (106 ≤ j ∧ j < 155)) → ρ' j = ρ j) (w s : Nat) : yD (yst1 ρ' 2) w s = yD (yst1 ρ 2) w s := by
  refine yA_cong (fun u t ht => ?_) 128 s
  have e : yz ρ' t = yz ρ t := h (1 + t) (by omega)
  unfold yst1 yst
  rw [e, yrw_cong h, yrw_cong h]
theorem PCH.co {P : TP} {ρ ρ' : Nat → Nat} {S : Nat} (hp : PCH P ρ 2 S) (h : ∀ j, (j < 8 ∨ (106 ≤ j ∧ j < 155)) → ρ' j = ρ j) (h7 : ρ 0 ≤ 7) : PWG P ρ' 2 S ∧ P_restOf P 0 = lN (yD (yst1 ρ' 2) S 0) := by
  obtain ⟨⟨a1, a2, a3⟩, a4, -⟩ := hp
  refine ⟨⟨a1, fun t ht => ?_, fun s hs hss => ?_⟩, ?_⟩
  · rw [h 0 (by omega)] at ht
    rw [h (1 + t) (by omega)]
    exact a2 t ht
  · rw [yrw_cong h]; exact a3 s hs hss
  · rw [yD_cong2 h]; exact a4
/-- nothing learnt: nothing changes any more -/
theorem x_stuck {S N0 : Nat} {now : Nat → Int64} {ρ : Nat → Nat} (hi0 : INf N0 ρ) (hN0 : N0 + 31 * 50 < 700000) (hS : S < 2 ^ ρ 0) (hns : yLn S ρ 307 = ρ 307) (hc : ¬ yCost ρ S 2 = lN 0) : ∀ rr x2 n M cb pb tp pl r ρ' σ N, x2 + rr = 31 → rr < n → RRf r ρ' σ → INf N ρ' → N + rr * 50 < 700000 → AG ρ ρ' → ρ' 0 = ρ 0 →
    ∃ M' tr' cb' pb' tp' pl', f_X9_learnsIn_L32 now (nI S) n (nI x2) M r cb pb tp pl = some (-1, (M', tr', cb', pb', tp', pl')) ∧ SM M' M := by
  intro rr
  induction rr with
  | zero =>
    intro x2 n M cb pb tp pl r ρ' σ N hx hn hr hi hN hag h0
    obtain ⟨n, rfl⟩ : ∃ m, n = m + 1 := ⟨n - 1, by omega⟩
    refine ⟨M, r, cb, pb, tp, pl, ?_, ⟨rfl, rfl, rfl⟩⟩
    rw [f_X9_learnsIn_L32, show x2 = 31 by omega]
    exact if_pos (by decide)
  | succ rr ih =>
    intro x2 n M cb pb tp pl r ρ' σ N hx hn hr hi hN hag h0
    obtain ⟨n, rfl⟩ : ∃ m, n = m + 1 := ⟨n - 1, by omega⟩
    have hrp : RRp r ρ := fun i hi2 => by rw [← hag i (by omega)]; exact hr.p i hi2
    obtain ⟨x, cb1, pb1, tp1, pl1, c1⟩ := x_cost (M := M) (cb := cb) (pb := pb) (tp := tp) (pl := pl) (what := 2) hrp hi0.1 hS (by omega)
    obtain ⟨y, cb2, pb2, tp2, pl2, r2, d1, d2⟩ := x_runOn (S := S) (M := Mpl M x) (cb := cb1) (pb := pb1) (tp := tp1) (pl := pl1) hr hi (by omega) (by rw [h0]; exact hS)
    have hag2 : AG ρ (yR0 ρ') := fun j hj => (pu_n (by omega)).trans (hag j hj)
    obtain ⟨-, l2, l3⟩ := hag2.ln hns
    obtain ⟨M', tr', cb', pb', tp', pl', e, e1⟩ := ih (x2 + 1) n (Mpl (Mpl M x) y) cb2 pb2 tp2 pl2 r2 (yRn S ρ') (yσ ρ' S σ) (N + 50) (by omega) (by omega) d2 hi.rn (by omega) l2 (by
      rw [show yRn S ρ' 0 = yR0 ρ' 0 from yLn_o _ (by omega), show yR0 ρ' 0 = ρ' 0 from pu_n (by omega)]; exact h0)
    refine ⟨M', tr', cb', pb', tp', pl', ?_, e1⟩
    rw [f_X9_learnsIn_L32, if_neg (show ¬ (30 : Int32) < nI x2 from fun z => by have := (y_Ilt (a := 30) (by omega) (by omega)).mp z; omega), show (2 : Int32) = nI 2 from rfl, c1, Option.bind_some, if_neg (show ¬ lg_cmp (yCost ρ S 2) (0 : Int64) = (0 : Int32) from fun z => hc ((lg_cmp_eq _ _).mp z))]
    show ((f_X9_runOn 353 (Mpl M x) cb1 pb1 tp1 pl1 r (nI S)).bind _) = _
    rw [d1, Option.bind_some, y_c1, y_Iadd]
    exact e
theorem s_lrn {S : Nat} {w0 : TW} {now : Nat → Int64} {P2 : TP} {ρ0 : Nat → Nat} (hP : PCH P2 ρ0 2 S) (h07 : ρ0 0 ≤ 7) : ∀ rr x2 n1 n2 w P1 M cb pb tp pl r ρ σ τ N, x2 + rr = 31 → rr < n1 → rr < n2 → WRb False w ρ τ → RRf r ρ σ → INf N ρ → N + rr * 50 + 2000 < 700000 → S < 2 ^ ρ 0 → (∀ j, (j < 8 ∨ (106 ≤ j ∧ j < 155)) → ρ j = ρ0 j) →
    ∃ av w' P1' M' tr' cb' pb' tp' pl', f_X8_learnsIn_L35 w0 P2 (nI S) n1 (nI x2) w P1 = some (Sum.inr av, (w', P1', P2)) ∧ f_X9_learnsIn_L32 now (nI S) n2 (nI x2) M r cb pb tp pl = some (av, (M', tr', cb', pb', tp', pl')) ∧ SM M' M := by
  intro rr
  induction rr with
  | zero =>
    intro x2 n1 n2 w P1 M cb pb tp pl r ρ σ τ N hx h1 h2 hw hr hi hN hS hco
    obtain ⟨n1, rfl⟩ : ∃ m, n1 = m + 1 := ⟨n1 - 1, by omega⟩
    obtain ⟨n2, rfl⟩ : ∃ m, n2 = m + 1 := ⟨n2 - 1, by omega⟩
    refine ⟨-1, w, P1, M, r, cb, pb, tp, pl, ?_, ?_, ⟨rfl, rfl, rfl⟩⟩
    · rw [f_X8_learnsIn_L35, show x2 = 31 by omega]; exact if_pos (by decide)
    · rw [f_X9_learnsIn_L32, show x2 = 31 by omega]; exact if_pos (by decide)
  | succ rr ih =>
    intro x2 n1 n2 w P1 M cb pb tp pl r ρ σ τ N hx h1 h2 hw hr hi hN hS hco
    obtain ⟨n1, rfl⟩ : ∃ m, n1 = m + 1 := ⟨n1 - 1, by omega⟩
    obtain ⟨n2, rfl⟩ : ∃ m, n2 = m + 1 := ⟨n2 - 1, by omega⟩
    obtain ⟨Q1, a1, a2⟩ := cp_chooseP (P := P1) (k := 1) hw.1 hi.1 (by omega) hS
    obtain ⟨hp1, hp2⟩ := hP.co hco h07
    have cb1 := cp_by (P1 := Q1) (P2 := P2) (k1 := 1) (k2 := 2) hi.1 hS a2 hp1
    obtain ⟨x, cb2, pb2, tp2, pl2, c1⟩ := x_cost (M := M) (cb := cb) (pb := pb) (tp := tp) (pl := pl) (what := 2) hr.p hi.1 hS (by omega)
    have nx : ¬ (30 : Int32) < nI x2 := fun z => by have := (y_Ilt (a := 30) (by omega) (by omega)).mp z; omega
    have hcl : f_X8_learnsIn_L35 w0 P2 (nI S) (n1 + 1) (nI x2) w P1 = (if (lg_cmp (lN (yTr ρ 1 2 S)) (lN (yD (yst1 ρ 2) S 0))) = (0 : Int32) then (some ((Sum.inr (nI x2)), (w, Q1, P2))) else ((f_X7_learn w (nI S)).bind fun o10 => (if o10.1 = (0 : Int32) then (some ((Sum.inr (-1 : Int32)), (o10.2, Q1, P2))) else (f_X8_learnsIn_L35 w0 P2 (nI S) n1 (nI x2 + (1 : Int32)) o10.2 Q1)))) := by
      rw [f_X8_learnsIn_L35, if_neg nx, show (1 : Int32) = nI 1 from rfl, a1, Option.bind_some]
      show ((f_X3_costAsPlannedBy P2 Q1).bind _) = _
      rw [cb1, Option.bind_some, cp_least, Option.bind_some, hp2]
    have hcr : yCost ρ S 2 = lN (yTr ρ 1 2 S) - lN (yD (yst1 ρ 2) S 0) := rfl
    have hce : yCost ρ S 2 = lN 0 ↔ lN (yTr ρ 1 2 S) = lN (yD (yst1 ρ 2) S 0) := by rw [hcr]; exact y_sub0 _ _
    have hxr : f_X9_learnsIn_L32 now (nI S) (n2 + 1) (nI x2) M r cb pb tp pl = (if (lg_cmp (yCost ρ S 2) (0 : Int64)) = (0 : Int32) then (some (nI x2, (Mpl M x, r, cb2, pb2, tp2, pl2))) else ((f_X9_runOn 353 (Mpl M x) cb2 pb2 tp2 pl2 r (nI S)).bind fun o8 => (f_X9_learnsIn_L32 now (nI S) n2 (nI x2 + (1 : Int32)) o8.2.1 o8.2.2.2.2.2.2 o8.2.2.1 o8.2.2.2.1 o8.2.2.2.2.1 o8.2.2.2.2.2.1))) := by
      rw [f_X9_learnsIn_L32, if_neg nx, show (2 : Int32) = nI 2 from rfl, c1, Option.bind_some]
    by_cases q : yCost ρ S 2 = lN 0
    · rw [if_pos ((lg_cmp_eq _ _).mpr (hce.mp q))] at hcl
      rw [if_pos (show lg_cmp (yCost ρ S 2) (0 : Int64) = (0 : Int32) from (lg_cmp_eq _ _).mpr q)] at hxr
      exact ⟨_, _, _, _, _, _, _, _, _, hcl, hxr, ⟨rfl, rfl, rfl⟩⟩
    · rw [if_neg (fun z => q (hce.mpr ((lg_cmp_eq _ _).mp z)))] at hcl
      rw [if_neg (show ¬ lg_cmp (yCost ρ S 2) (0 : Int64) = (0 : Int32) from fun z => q ((lg_cmp_eq _ _).mp z))] at hxr
      have hS7 := y_2pow hi.1 hS
      have hw0 : WRb False w (yR0 ρ) σ := hw.r0 hi.1.1
      obtain ⟨w1, k1, k2⟩ := c_learn (S := S) hw0 hi.r0 (by omega) (by omega)
      obtain ⟨y, cb3, pb3, tp3, pl3, r3, d1, d2⟩ := x_runOn (S := S) (M := Mpl M x) (cb := cb2) (pb := pb2) (tp := tp2) (pl := pl2) hr hi (by omega) hS
      rw [k1, Option.bind_some] at hcl
      rw [d1, Option.bind_some, y_c1, y_Iadd] at hxr
      have hi1 := hi.rn (S := S)
      have h306 := hi1.2.2.1
      have e0 : yRn S ρ 0 = ρ 0 := by rw [show yRn S ρ 0 = yR0 ρ 0 from yLn_o _ (by omega)]; exact pu_n (by omega)
      by_cases z : yLn S (yR0 ρ) 307 = yR0 ρ 307
      · rw [if_pos (show nI (yLn S (yR0 ρ) 307 - yR0 ρ 307) = (0 : Int32) from by rw [z, Nat.sub_self]; rfl)] at hcl
        have hag : AG ρ (yR0 ρ) := fun j hj => pu_n (by omega)
        have hag3 : AG (yR0 ρ) ρ := fun j hj => (hag j hj).symm
        obtain ⟨l1, l2, l3⟩ := hag3.ln z
        have hns : yLn S ρ 307 = ρ 307 := l3
        obtain ⟨-, m2, -⟩ := hag.ln hns
        obtain ⟨M', tr', cb', pb', tp', pl', f, f1⟩ := x_stuck (now := now) hi (by omega) hS hns q rr (x2 + 1) n2 (Mpl (Mpl M x) y) cb3 pb3 tp3 pl3 r3 (yRn S ρ) (yσ ρ S σ) (N + 50) (by omega) (by omega) d2 hi1 (by omega) m2 e0
        exact ⟨-1, w1, Q1, M', tr', cb', pb', tp', pl', hcl, hxr.trans f, f1⟩
      · have h77 := yLn_7 S (yR0 ρ)
        rw [if_neg (show ¬ nI (yLn S (yR0 ρ) 307 - yR0 ρ 307) = (0 : Int32) from fun g => by
          have h5 : yLn S (yR0 ρ) 307 ≤ N + 50 := h306.2.2.1
          have := (y_Ieq (b := 0) (by omega) (by omega)).mp g
          omega), y_c1, y_Iadd] at hcl
        obtain ⟨av, w', P1', M', tr', cb', pb', tp', pl', f, f1, f2⟩ := ih (x2 + 1) n1 n2 w1 Q1 (Mpl (Mpl M x) y) cb3 pb3 tp3 pl3 r3 (yRn S ρ) (yσ ρ S σ) σ (N + 50) (by omega) (by omega) (by omega) k2 d2 hi1 (by omega) (by rw [e0]; exact hS) (fun j hj => by
          rw [show yRn S ρ j = yR0 ρ j from yLn_o _ (by omega), show yR0 ρ j = ρ j from pu_n (by omega)]
          exact hco j hj)
        exact ⟨av, w', P1', M', tr', cb', pb', tp', pl', hcl.trans f, hxr.trans f1, f2⟩
theorem p_learns {N : Nat} {w w0 : TW} {r tr cb pb tp : Nat → Int64} {pl : Nat → Int32} {ρ : Nat → Nat} {σ : Nat → Int64} {P1 P2 : TP} (h : ST N w r ρ σ) (hN : N < 600000) (v : Int32) (M : TM) :
    ∃ res av w' P1' P2' M' tr' cb' pb' tp' pl', f_X8_learnsIn w w0 P1 P2 v = some (res, (w', P1', P2')) ∧ f_X9_learnsIn M r tr cb pb tp pl v = some (av, (M', tr', cb', pb', tp', pl')) ∧ RS 2 0 1 res av (M_refusal M') ∧ SM2 M' M := by
  have r0 := x_ref M (c := 0) (by omega)
  have r1 := x_ref M (c := 1) (by omega)
  have r2 := x_ref M (c := 2) (by omega)
  rw [if_pos rfl] at r0
  rw [if_neg (by omega)] at r1 r2
  rcases y_sts h v with ⟨j, rfl, hj, hj7, -, t1, t2⟩ | ⟨-, t1, t2⟩
  · by_cases q : j = 0
    · subst q
      refine ⟨Sum.inl 0, 0, w0, P1, P2, Mrf M 2, tr, cb, pb, tp, pl, ?_, ?_, RS.a (by omega), SM2.rf M 2⟩
      · simp (disch := omega) only [y_c0, y_c1, y_c10, y_c100, y_c1000, y_c10000, y_c100000, y_c106, y_c112, y_c116, y_c127, y_c128, y_c13, y_c14, y_c155, y_c2, y_c20, y_c200, y_c204, y_c21, y_c253, y_c255, y_c3, y_c30, y_c302, y_c303, y_c304, y_c305, y_c306, y_c307, y_c308, y_c309, y_c310, y_c311, y_c312, y_c313, y_c314, y_c315, y_c316, y_c32, y_c33, y_c353, y_c39, y_c4, y_c40, y_c44, y_c4589, y_c48, y_c49, y_c5, y_c512, y_c54, y_c57, y_c59, y_c6, y_c62, y_c64, y_c7, y_c8, y_c9, y_c99, y_c9999, y_d0, y_d1, y_d10, y_d100, y_d1000000, y_d1442695040888963407, y_d2, y_d20, y_d255, y_d3, y_d4, y_d40, y_d4294967295, y_d48, y_d5, y_d50, y_d54, y_d57, y_d6364136223846793005, y_d7, y_d9, y_d9999, y_dR, y_dS, y_dk, y_nar0, y_nar1, y_Ilt, y_Ile, y_Ieq, y_Iadd, y_Imul, y_Idiv, y_Llt, y_Lle, y_Leq, y_Ladd, y_Lmul, y_Ldiv, y_I2l, y_L2i, y_shn, y_or, y_and, y_bn1, y_bn0, y_inb, y_cl, y_gle, y_gge, y_ggt, y_glt, y_geq, if_pos, if_neg, if_true, if_false, Option.bind_some, f_X8_learnsIn, t1, f_X8_needSomeTable, Sum.elim_inl, Sum.elim_inr]
      · have e : f_X9_whyNotRun 353 r (nI 0) = some (nI 2, ()) := by
          simp (disch := omega) only [y_c0, y_c1, y_c10, y_c100, y_c1000, y_c10000, y_c100000, y_c106, y_c112, y_c116, y_c127, y_c128, y_c13, y_c14, y_c155, y_c2, y_c20, y_c200, y_c204, y_c21, y_c253, y_c255, y_c3, y_c30, y_c302, y_c303, y_c304, y_c305, y_c306, y_c307, y_c308, y_c309, y_c310, y_c311, y_c312, y_c313, y_c314, y_c315, y_c316, y_c32, y_c33, y_c353, y_c39, y_c4, y_c40, y_c44, y_c4589, y_c48, y_c49, y_c5, y_c512, y_c54, y_c57, y_c59, y_c6, y_c62, y_c64, y_c7, y_c8, y_c9, y_c99, y_c9999, y_d0, y_d1, y_d10, y_d100, y_d1000000, y_d1442695040888963407, y_d2, y_d20, y_d255, y_d3, y_d4, y_d40, y_d4294967295, y_d48, y_d5, y_d50, y_d54, y_d57, y_d6364136223846793005, y_d7, y_d9, y_d9999, y_dR, y_dS, y_dk, y_nar0, y_nar1, y_Ilt, y_Ile, y_Ieq, y_Iadd, y_Imul, y_Idiv, y_Llt, y_Lle, y_Leq, y_Ladd, y_Lmul, y_Ldiv, y_I2l, y_L2i, y_shn, y_or, y_and, y_bn1, y_bn0, y_inb, y_cl, y_gle, y_gge, y_ggt, y_glt, y_geq, if_pos, if_neg, if_true, if_false, Option.bind_some, f_X9_whyNotRun, t2]
        simp (disch := omega) only [y_c0, y_c1, y_c10, y_c100, y_c1000, y_c10000, y_c100000, y_c106, y_c112, y_c116, y_c127, y_c128, y_c13, y_c14, y_c155, y_c2, y_c20, y_c200, y_c204, y_c21, y_c253, y_c255, y_c3, y_c30, y_c302, y_c303, y_c304, y_c305, y_c306, y_c307, y_c308, y_c309, y_c310, y_c311, y_c312, y_c313, y_c314, y_c315, y_c316, y_c32, y_c33, y_c353, y_c39, y_c4, y_c40, y_c44, y_c4589, y_c48, y_c49, y_c5, y_c512, y_c54, y_c57, y_c59, y_c6, y_c62, y_c64, y_c7, y_c8, y_c9, y_c99, y_c9999, y_d0, y_d1, y_d10, y_d100, y_d1000000, y_d1442695040888963407, y_d2, y_d20, y_d255, y_d3, y_d4, y_d40, y_d4294967295, y_d48, y_d5, y_d50, y_d54, y_d57, y_d6364136223846793005, y_d7, y_d9, y_d9999, y_dR, y_dS, y_dk, y_nar0, y_nar1, y_Ilt, y_Ile, y_Ieq, y_Iadd, y_Imul, y_Idiv, y_Llt, y_Lle, y_Leq, y_Ladd, y_Lmul, y_Ldiv, y_I2l, y_L2i, y_shn, y_or, y_and, y_bn1, y_bn0, y_inb, y_cl, y_gle, y_gge, y_ggt, y_glt, y_geq, if_pos, if_neg, if_true, if_false, Option.bind_some, f_X9_learnsIn, e, r2]
    · obtain ⟨w1, k1, k2⟩ := c_copy (w0 := w0) h
      obtain ⟨Q2, c1, c2⟩ := cp_chooseP (P := P2) (k := 2) k2.1.1 h.2.2.1 (by omega) hj
      obtain ⟨tr', d1, d2⟩ := x_trial (now := r) (tr := tr)
      obtain ⟨F, hF, hF1⟩ := y_fuel
      obtain ⟨av, w', P1', M', tr2, cb', pb', tp', pl', f, f1, f2⟩ := s_lrn (w0 := w) (now := r) c2 h.2.2.1.1 31 0 F F w1 P1 (Mrf M 0) cb pb tp pl tr' ρ σ σ N rfl (by omega) (by omega) (k2.1.b False) (h.2.1.congr d2) h.2.2 (by omega) hj (fun j _ => rfl)
      refine ⟨Sum.inr av, av, w', P1', Q2, M', tr2, cb', pb', tp', pl', ?_, ?_, ?_, ⟨f2.2.1, f2.2.2⟩⟩
      · unfold f_X8_learnsIn
        rw [t1, Option.bind_some]
        show ((f_X8_needSomeTable (nI j)).bind _) = _
        rw [show f_X8_needSomeTable (nI j) = some (Sum.inr (), ()) from if_neg (fun z => q ((y_Ieq (b := 0) (by omega) (by omega)).mp z)), Option.bind_some]
        show ((f_X7_takeFrom w0 w).bind fun o3 => (f_X3_choose P2 o3.2 (nI j) (2 : Int32)).bind fun o4 => f_X8_learnsIn_L35 w o4.2 (nI j) FUEL (0 : Int32) o3.2 P1) = _
        rw [k1, Option.bind_some, show (2 : Int32) = nI 2 from rfl]
        show ((f_X3_choose P2 w1 (nI j) (nI 2)).bind fun o4 => f_X8_learnsIn_L35 w o4.2 (nI j) FUEL (0 : Int32) w1 P1) = _
        rw [c1, Option.bind_some, hF]
        exact f
      · have e : f_X9_whyNotRun 353 r (nI j) = some (nI 0, ()) := by
          simp (disch := omega) only [y_c0, y_c1, y_c10, y_c100, y_c1000, y_c10000, y_c100000, y_c106, y_c112, y_c116, y_c127, y_c128, y_c13, y_c14, y_c155, y_c2, y_c20, y_c200, y_c204, y_c21, y_c253, y_c255, y_c3, y_c30, y_c302, y_c303, y_c304, y_c305, y_c306, y_c307, y_c308, y_c309, y_c310, y_c311, y_c312, y_c313, y_c314, y_c315, y_c316, y_c32, y_c33, y_c353, y_c39, y_c4, y_c40, y_c44, y_c4589, y_c48, y_c49, y_c5, y_c512, y_c54, y_c57, y_c59, y_c6, y_c62, y_c64, y_c7, y_c8, y_c9, y_c99, y_c9999, y_d0, y_d1, y_d10, y_d100, y_d1000000, y_d1442695040888963407, y_d2, y_d20, y_d255, y_d3, y_d4, y_d40, y_d4294967295, y_d48, y_d5, y_d50, y_d54, y_d57, y_d6364136223846793005, y_d7, y_d9, y_d9999, y_dR, y_dS, y_dk, y_nar0, y_nar1, y_Ilt, y_Ile, y_Ieq, y_Iadd, y_Imul, y_Idiv, y_Llt, y_Lle, y_Leq, y_Ladd, y_Lmul, y_Ldiv, y_I2l, y_L2i, y_shn, y_or, y_and, y_bn1, y_bn0, y_inb, y_cl, y_gle, y_gge, y_ggt, y_glt, y_geq, if_pos, if_neg, if_true, if_false, Option.bind_some, f_X9_whyNotRun, t2]
        unfold f_X9_learnsIn
        rw [e, Option.bind_some]
        show ((f_X9_refused M (nI 0)).bind _) = _
        rw [r0, Option.bind_some]
        refine (if_pos y_z0).trans ?_
        rw [d1, Option.bind_some, hF]
        exact f1
      · rw [f2.1]; exact RS.ok
  · refine ⟨Sum.inl 2, 0, w0, P1, P2, Mrf M 1, tr, cb, pb, tp, pl, ?_, ?_, RS.x (by omega), SM2.rf M 1⟩
    · simp (disch := omega) only [y_c0, y_c1, y_c10, y_c100, y_c1000, y_c10000, y_c100000, y_c106, y_c112, y_c116, y_c127, y_c128, y_c13, y_c14, y_c155, y_c2, y_c20, y_c200, y_c204, y_c21, y_c253, y_c255, y_c3, y_c30, y_c302, y_c303, y_c304, y_c305, y_c306, y_c307, y_c308, y_c309, y_c310, y_c311, y_c312, y_c313, y_c314, y_c315, y_c316, y_c32, y_c33, y_c353, y_c39, y_c4, y_c40, y_c44, y_c4589, y_c48, y_c49, y_c5, y_c512, y_c54, y_c57, y_c59, y_c6, y_c62, y_c64, y_c7, y_c8, y_c9, y_c99, y_c9999, y_d0, y_d1, y_d10, y_d100, y_d1000000, y_d1442695040888963407, y_d2, y_d20, y_d255, y_d3, y_d4, y_d40, y_d4294967295, y_d48, y_d5, y_d50, y_d54, y_d57, y_d6364136223846793005, y_d7, y_d9, y_d9999, y_dR, y_dS, y_dk, y_nar0, y_nar1, y_Ilt, y_Ile, y_Ieq, y_Iadd, y_Imul, y_Idiv, y_Llt, y_Lle, y_Leq, y_Ladd, y_Lmul, y_Ldiv, y_I2l, y_L2i, y_shn, y_or, y_and, y_bn1, y_bn0, y_inb, y_cl, y_gle, y_gge, y_ggt, y_glt, y_geq, if_pos, if_neg, if_true, if_false, Option.bind_some, f_X8_learnsIn, t1, Sum.elim_inl]
    · have e : f_X9_whyNotRun 353 r v = some (nI 1, ()) := by
        simp (disch := omega) only [y_c0, y_c1, y_c10, y_c100, y_c1000, y_c10000, y_c100000, y_c106, y_c112, y_c116, y_c127, y_c128, y_c13, y_c14, y_c155, y_c2, y_c20, y_c200, y_c204, y_c21, y_c253, y_c255, y_c3, y_c30, y_c302, y_c303, y_c304, y_c305, y_c306, y_c307, y_c308, y_c309, y_c310, y_c311, y_c312, y_c313, y_c314, y_c315, y_c316, y_c32, y_c33, y_c353, y_c39, y_c4, y_c40, y_c44, y_c4589, y_c48, y_c49, y_c5, y_c512, y_c54, y_c57, y_c59, y_c6, y_c62, y_c64, y_c7, y_c8, y_c9, y_c99, y_c9999, y_d0, y_d1, y_d10, y_d100, y_d1000000, y_d1442695040888963407, y_d2, y_d20, y_d255, y_d3, y_d4, y_d40, y_d4294967295, y_d48, y_d5, y_d50, y_d54, y_d57, y_d6364136223846793005, y_d7, y_d9, y_d9999, y_dR, y_dS, y_dk, y_nar0, y_nar1, y_Ilt, y_Ile, y_Ieq, y_Iadd, y_Imul, y_Idiv, y_Llt, y_Lle, y_Leq, y_Ladd, y_Lmul, y_Ldiv, y_I2l, y_L2i, y_shn, y_or, y_and, y_bn1, y_bn0, y_inb, y_cl, y_gle, y_gge, y_ggt, y_glt, y_geq, if_pos, if_neg, if_true, if_false, Option.bind_some, f_X9_whyNotRun, t2]
      simp (disch := omega) only [y_c0, y_c1, y_c10, y_c100, y_c1000, y_c10000, y_c100000, y_c106, y_c112, y_c116, y_c127, y_c128, y_c13, y_c14, y_c155, y_c2, y_c20, y_c200, y_c204, y_c21, y_c253, y_c255, y_c3, y_c30, y_c302, y_c303, y_c304, y_c305, y_c306, y_c307, y_c308, y_c309, y_c310, y_c311, y_c312, y_c313, y_c314, y_c315, y_c316, y_c32, y_c33, y_c353, y_c39, y_c4, y_c40, y_c44, y_c4589, y_c48, y_c49, y_c5, y_c512, y_c54, y_c57, y_c59, y_c6, y_c62, y_c64, y_c7, y_c8, y_c9, y_c99, y_c9999, y_d0, y_d1, y_d10, y_d100, y_d1000000, y_d1442695040888963407, y_d2, y_d20, y_d255, y_d3, y_d4, y_d40, y_d4294967295, y_d48, y_d5, y_d50, y_d54, y_d57, y_d6364136223846793005, y_d7, y_d9, y_d9999, y_dR, y_dS, y_dk, y_nar0, y_nar1, y_Ilt, y_Ile, y_Ieq, y_Iadd, y_Imul, y_Idiv, y_Llt, y_Lle, y_Leq, y_Ladd, y_Lmul, y_Ldiv, y_I2l, y_L2i, y_shn, y_or, y_and, y_bn1, y_bn0, y_inb, y_cl, y_gle, y_gge, y_ggt, y_glt, y_geq, if_pos, if_neg, if_true, if_false, Option.bind_some, f_X9_learnsIn, e, r1]
