def yP6 : Nat → Nat
  | 0 => 1
  | n + 1 => yP6 n * 1000000
theorem yP6_le : ∀ n, n ≤ 3 → 1 ≤ yP6 n ∧ yP6 n ≤ 1000000000000000000 := by decide
theorem c_pow12 {w w0 : TW} {P1 P2 : TP} {n : Nat} {s : Int64} {K : Int64 → Option ((Nat ⊕ Int32) × (TW × TP × TP))} (hn : n ≤ 3) : ∀ rr i f, i + rr = n → rr < f → f_X8_runScript_L12 w w0 P1 P2 (nI n) s K f (lN (yP6 i)) (nI i) = K (lN (yP6 n)) := by
  intro rr
  induction rr with
  | zero =>
    intro i f hi hf
    obtain ⟨f, rfl⟩ : ∃ m, f = m + 1 := ⟨f - 1, by omega⟩
    rw [f_X8_runScript_L12, if_pos ((y_Ile (by omega) (by omega)).mpr (by omega)), show i = n by omega]
  | succ rr ih =>
    intro i f hi hf
    obtain ⟨f, rfl⟩ : ∃ m, f = m + 1 := ⟨f - 1, by omega⟩
    rw [f_X8_runScript_L12, if_neg (fun z => by have := (y_Ile (by omega) (by omega)).mp z; omega), show (1000000 : Int64) = lN 1000000 from rfl, y_Lmul, y_c1, y_Iadd]
    exact ih (i + 1) f (by omega) (by omega)
theorem x_pow6 {M : TM} {now tr cb pb tp : Nat → Int64} {pl : Nat → Int32} {n : Nat} {s : Int64} {K : Int64 → Option (Int32 × (TM × (Nat → Int64) × (Nat → Int64) × (Nat → Int64) × (Nat → Int64) × (Nat → Int32)))} (hn : n ≤ 3) : ∀ rr i f, i + rr = n → rr < f → f_X9_runScript_L6 M now tr cb pb tp pl (nI n) s K f (lN (yP6 i)) (nI i) = K (lN (yP6 n)) := by
  intro rr
  induction rr with
  | zero =>
    intro i f hi hf
    obtain ⟨f, rfl⟩ : ∃ m, f = m + 1 := ⟨f - 1, by omega⟩
    rw [f_X9_runScript_L6, if_pos ((y_Ile (by omega) (by omega)).mpr (by omega)), show i = n by omega]
  | succ rr ih =>
    intro i f hi hf
    obtain ⟨f, rfl⟩ : ∃ m, f = m + 1 := ⟨f - 1, by omega⟩
    rw [f_X9_runScript_L6, if_neg (fun z => by have := (y_Ile (by omega) (by omega)).mp z; omega), if_neg (show ¬ (3 : Int32) ≤ nI i from fun z => by have := (y_Ile (a := 3) (by omega) (by omega)).mp z; omega), show (1000000 : Int64) = lN 1000000 from rfl, y_Lmul, y_c1, y_Iadd]
    exact ih (i + 1) f (by omega) (by omega)
/-- the reference's first loop ends for every count -/
theorem x_pow6any {M : TM} {now tr cb pb tp : Nat → Int64} {pl : Nat → Int32} {v : Int32} {s : Int64} {K : Int64 → Option (Int32 × (TM × (Nat → Int64) × (Nat → Int64) × (Nat → Int64) × (Nat → Int64) × (Nat → Int32)))} : ∀ rr i f y, i + rr = 3 → rr < f → ∃ y', f_X9_runScript_L6 M now tr cb pb tp pl v s K f y (nI i) = K y' := by
  intro rr
  induction rr with
  | zero =>
    intro i f y hi hf
    obtain ⟨f, rfl⟩ : ∃ m, f = m + 1 := ⟨f - 1, by omega⟩
    refine ⟨y, ?_⟩
    rw [f_X9_runScript_L6, if_pos (show (3 : Int32) ≤ nI i from (y_Ile (a := 3) (by omega) (by omega)).mpr (by omega))]
    split <;> rfl
  | succ rr ih =>
    intro i f y hi hf
    obtain ⟨f, rfl⟩ : ∃ m, f = m + 1 := ⟨f - 1, by omega⟩
    by_cases q : v ≤ nI i
    · refine ⟨y, ?_⟩
      rw [f_X9_runScript_L6, if_pos q]
    · obtain ⟨y', e⟩ := ih (i + 1) f (y * (1000000 : Int64)) (by omega) (by omega)
      refine ⟨y', ?_⟩
      rw [f_X9_runScript_L6, if_neg q, if_neg (show ¬ (3 : Int32) ≤ nI i from fun z => by have := (y_Ile (a := 3) (by omega) (by omega)).mp z; omega), y_c1, y_Iadd]
      exact e
theorem s_scr {w00 : TW} {now : Nat → Int64} {n s : Nat} (hn : n ≤ 3) (hs : s < 9000000000000000000) : ∀ rr i f1 f2 w P1 P2 M tr cb pb tp pl ρ σ N, i + rr = n → rr < f1 → rr < f2 → ST N w tr ρ σ → N + rr * 50 < 700000 →
    ∃ av w' P1' P2' M' tr' cb' pb' tp' pl', f_X8_runScript_L70 w00 (nI n) (lN s) f1 (lN (yP6 rr)) (nI i) w P1 P2 = some (Sum.inr av, (w', P1', P2')) ∧ f_X9_runScript_L86 now (nI n) (lN s) f2 (lN (yP6 rr)) (nI i) M tr cb pb tp pl = some (av, (M', tr', cb', pb', tp', pl')) ∧ SM M' M := by
  intro rr
  induction rr with
  | zero =>
    intro i f1 f2 w P1 P2 M tr cb pb tp pl ρ σ N hi h1 h2 h hN
    obtain ⟨f1, rfl⟩ : ∃ m, f1 = m + 1 := ⟨f1 - 1, by omega⟩
    obtain ⟨f2, rfl⟩ : ∃ m, f2 = m + 1 := ⟨f2 - 1, by omega⟩
    refine ⟨-1, w, P1, P2, M, tr, cb, pb, tp, pl, ?_, ?_, ⟨rfl, rfl, rfl⟩⟩
    · rw [f_X8_runScript_L70, if_pos ((y_Ile (by omega) (by omega)).mpr (by omega))]
    · rw [f_X9_runScript_L86, if_pos ((y_Ile (by omega) (by omega)).mpr (by omega))]
  | succ rr ih =>
    intro i f1 f2 w P1 P2 M tr cb pb tp pl ρ σ N hi h1 h2 h hN
    obtain ⟨f1, rfl⟩ : ∃ m, f1 = m + 1 := ⟨f1 - 1, by omega⟩
    obtain ⟨f2, rfl⟩ : ∃ m, f2 = m + 1 := ⟨f2 - 1, by omega⟩
    obtain ⟨p1, p2⟩ := yP6_le rr (by omega)
    obtain ⟨q1, q2⟩ := yP6_le (rr + 1) (by omega)
    have hdiv : lN (yP6 (rr + 1)) / (1000000 : Int64) = lN (yP6 rr) := by
      rw [show (1000000 : Int64) = lN 1000000 from rfl, y_Ldiv (by omega) (by omega)]
      congr 1
      show yP6 rr * 1000000 / 1000000 = yP6 rr
      omega
    have hm : s / yP6 rr % 1000000 < 1000000 := Nat.mod_lt _ (by omega)
    have hsd : s / yP6 rr ≤ s := Nat.div_le_self _ _
    have hcmd : Int64.toInt32 ((lN s / lN (yP6 rr)) - (lN s / lN (yP6 rr)) / (1000000 : Int64) * (1000000 : Int64)) = nI (s / yP6 rr % 1000000) := by
      rw [show (1000000 : Int64) = lN 1000000 from rfl, y_Ldiv (by omega) (by omega), y_Lrem (by omega) (by omega), y_L2i]
    have hne : ¬ lN (yP6 rr) = 0 := fun z => by have := (y_Leq (b := 0) (by omega) (by omega)).mp z; omega
    have hnl : ¬ lg_cmp (lN (yP6 rr)) (1 : Int64) < (0 : Int32) := fun z => by have := (y_Llt (b := 1) (by omega) (by omega)).mp ((lg_cmp_lt _ _).mp z); omega
    generalize hmm : s / yP6 rr % 1000000 = m at hm hcmd
    obtain ⟨b, w1, P1', P2', M1, tr1, cb1, pb1, tp1, pl1, ρ1, σ1, k1, k2, k3, k4, k5⟩ := s_cmd (P1 := P1) (P2 := P2) (M := M) (cb := cb) (pb := pb) (tp := tp) (pl := pl) h (by omega) hm
    have hcl : f_X8_runScript_L70 w00 (nI n) (lN s) (f1 + 1) (lN (yP6 (rr + 1))) (nI i) w P1 P2 = (if nI b = (0 : Int32) then (some ((Sum.inr (nI i)), (w1, P1', P2'))) else (f_X8_runScript_L70 w00 (nI n) (lN s) f1 (lN (yP6 rr)) (nI (i + 1)) w1 P1' P2')) := by
      rw [f_X8_runScript_L70, if_neg (fun z => by have := (y_Ile (by omega) (by omega)).mp z; omega), hdiv, if_neg hnl, if_neg hne, hcmd, k1, Option.bind_some, y_c1, y_Iadd]
    have hxr : f_X9_runScript_L86 now (nI n) (lN s) (f2 + 1) (lN (yP6 (rr + 1))) (nI i) M tr cb pb tp pl = (if nI b = (0 : Int32) then (some (nI i, (M1, tr1, cb1, pb1, tp1, pl1))) else (f_X9_runScript_L86 now (nI n) (lN s) f2 (lN (yP6 rr)) (nI (i + 1)) M1 tr1 cb1 pb1 tp1 pl1)) := by
      rw [f_X9_runScript_L86, if_neg (fun z => by have := (y_Ile (by omega) (by omega)).mp z; omega), hdiv, if_neg hne, hcmd]
      rw [show nI m / (100000 : Int32) = nI (m / 100000) from y_Idiv (b := 100000) (by omega) (by omega), show nI m / (10000 : Int32) = nI (m / 10000) from y_Idiv (b := 10000) (by omega) (by omega), show nI m - nI m / (1000 : Int32) * (1000 : Int32) = nI (m % 1000) from y_Irem (b := 1000) (by omega) (by omega), show nI m / (1000 : Int32) = nI (m / 1000) from y_Idiv (b := 1000) (by omega) (by omega), show nI (m / 10000) - nI (m / 10000) / (10 : Int32) * (10 : Int32) = nI (m / 10000 % 10) from y_Irem (b := 10) (by omega) (by omega), show nI (m / 1000) - nI (m / 1000) / (10 : Int32) * (10 : Int32) = nI (m / 1000 % 10) from y_Irem (b := 10) (by omega) (by omega), k2, Option.bind_some, y_c1, y_Iadd]
    by_cases z : b = 0
    · rw [if_pos (show nI b = (0 : Int32) from by rw [z]; rfl)] at hcl hxr
      exact ⟨_, _, _, _, _, _, _, _, _, _, hcl, hxr, k5⟩
    · have nz : ¬ nI b = (0 : Int32) := fun y => z ((y_Ieq (b := 0) (by omega) (by omega)).mp y)
      rw [if_neg nz] at hcl hxr
      obtain ⟨av, w', Q1, Q2, M', tr', cb', pb', tp', pl', g1, g2, g3⟩ := ih (i + 1) f1 f2 w1 P1' P2' M1 tr1 cb1 pb1 tp1 pl1 ρ1 σ1 (N + 50) (by omega) (by omega) (by omega) k4 (by omega)
      exact ⟨av, w', Q1, Q2, M', tr', cb', pb', tp', pl', hcl.trans g1, hxr.trans g2, ⟨g3.1.trans k5.1, g3.2.1.trans k5.2.1, g3.2.2.trans k5.2.2⟩⟩
theorem y_of64 (v : Int64) : v < 0 ∨ ∃ j, j < 9223372036854775808 ∧ v = lN j := by
  by_cases h : v < 0
  · exact Or.inl h
  · refine Or.inr ⟨v.toInt.toNat, ?_, ?_⟩
    · have := fb_rngL v
      omega
    · have h0 : 0 ≤ v.toInt := by
        rw [fa_lt64] at h
        have : (0 : Int64).toInt = 0 := rfl
        omega
      have hr := fb_rngL v
      rw [fa_eq64, show (lN v.toInt.toNat).toInt = ((v.toInt.toNat : Nat) : Int) from Int64.toInt_ofNat_of_lt (by omega)]
      omega
theorem p_script {N : Nat} {w w0 : TW} {r tr cb pb tp : Nat → Int64} {pl : Nat → Int32} {ρ : Nat → Nat} {σ : Nat → Int64} {P1 P2 : TP} (h : ST N w r ρ σ) (hN : N < 600000) (v1 : Int32) (v2 : Int64) (M : TM) :
    ∃ res av w' P1' P2' M' tr' cb' pb' tp' pl', f_X8_runScript w w0 P1 P2 v1 v2 = some (res, (w', P1', P2')) ∧ f_X9_runScript M r tr cb pb tp pl v1 v2 = some (av, (M', tr', cb', pb', tp', pl')) ∧ RS 1 0 0 res av (M_refusal M') ∧ SM2 M' M := by
  have r0 := x_ref M (c := 0) (by omega)
  have r1 := x_ref M (c := 1) (by omega)
  rw [if_pos rfl] at r0
  rw [if_neg (by omega)] at r1
  obtain ⟨F, hF, hF1⟩ := y_fuel
  have no62 : ∀ y, f_X9_runScript_J61 r v1 v2 y M tr cb pb tp pl = some (0, (Mrf M 1, tr, cb, pb, tp, pl)) := by
    intro y
    unfold f_X9_runScript_J61 f_X9_runScript_J62
    rw [show (1 : Int32) = nI 1 from rfl, r1, Option.bind_some]
    exact if_neg y_z1
  rcases y_rng v1 1 3 (by omega) (by omega) with ⟨n, rfl, hn1, hn3, e1, e2, -⟩ | ⟨-, e1, e2, -⟩
  · obtain ⟨p1, p2⟩ := yP6_le n hn3
    have hx : f_X9_runScript M r tr cb pb tp pl (nI n) v2 = f_X9_runScript_J32 r (nI n) v2 (lN (yP6 n)) M tr cb pb tp pl := by
      unfold f_X9_runScript
      rw [hF]
      exact x_pow6 (K := fun (y3x4 : Int64) => (f_X9_runScript_J32 r (nI n) v2 y3x4 M tr cb pb tp pl)) hn3 n 0 F (by omega) (by omega)
    have hc : f_X8_runScript w w0 P1 P2 (nI n) v2 = (if (lg_cmp v2 (0 : Int64)) < (0 : Int32) then (f_X8_runScript_J45 w w0 P1 P2) else (if (lg_cmp v2 (lN (yP6 n))) < (0 : Int32) then ((f_X7_takeFrom w0 w).bind fun o6 => (f_X8_runScript_L70 w (nI n) v2 F (lN (yP6 n)) (0 : Int32) o6.2 P1 P2)) else (f_X8_runScript_J45 w w0 P1 P2))) := by
      unfold f_X8_runScript
      rw [show f_X8_needRange (nI n) (1 : Int32) (3 : Int32) = some (Sum.inr (), ()) from e1, Option.bind_some, hF]
      exact c_pow12 (K := fun (y3x4 : Int64) => (if (lg_cmp v2 (0 : Int64)) < (0 : Int32) then (f_X8_runScript_J45 w w0 P1 P2) else (if (lg_cmp v2 y3x4) < (0 : Int32) then ((f_X7_takeFrom w0 w).bind fun o6 => (f_X8_runScript_L70 w (nI n) v2 F y3x4 (0 : Int32) o6.2 P1 P2)) else (f_X8_runScript_J45 w w0 P1 P2)))) hn3 n 0 F (by omega) (by omega)
    unfold f_X9_runScript_J32 at hx
    rw [y_I2l (by omega), show f_X9_in (lN n) (1 : Int64) (3 : Int64) = some (nI 1, ()) from e2, Option.bind_some, if_neg y_z1, show lN (yP6 n) - (1 : Int64) = lN (yP6 n - 1) from y_Lsub (b := 1) (by omega)] at hx
    rcases y_of64 v2 with hv | ⟨s, hs, rfl⟩
    · have hin : f_X9_in v2 (0 : Int64) (lN (yP6 n - 1)) = some (nI 0, ()) := by
        unfold f_X9_in
        rw [if_pos ((lg_cmp_lt _ _).mpr hv)]; rfl
      rw [hin, Option.bind_some, if_pos y_z0, no62] at hx
      rw [if_pos ((lg_cmp_lt _ _).mpr hv)] at hc
      exact ⟨_, _, _, _, _, _, _, _, _, _, _, hc, hx, RS.a (by omega), SM2.rf M 1⟩
    · have nneg : ¬ lg_cmp (lN s) (0 : Int64) < (0 : Int32) := fun z => by have := (y_Llt (b := 0) (by omega) (by omega)).mp ((lg_cmp_lt _ _).mp z); omega
      rw [if_neg nneg] at hc
      have hin := x_in (a := s) (lo := 0) (hi := yP6 n - 1) (by omega) (by omega) (by omega)
      rw [show f_X9_in (lN s) (0 : Int64) (lN (yP6 n - 1)) = _ from hin, Option.bind_some] at hx
      by_cases q : s < yP6 n
      · rw [if_pos (show 0 ≤ s ∧ s ≤ yP6 n - 1 by omega), if_neg y_z1] at hx
        rw [if_pos ((lg_cmp_lt _ _).mpr ((y_Llt (by omega) (by omega)).mpr q))] at hc
        unfold f_X9_runScript_J62 at hx
        obtain ⟨w1, k1, k2⟩ := c_copy (w0 := w0) h
        obtain ⟨tr', d1, d2⟩ := x_trial (now := r) (tr := tr)
        rw [show (0 : Int32) = nI 0 from rfl, r0, Option.bind_some, if_pos rfl, show f_X9_copyWorld 353 353 r tr (nI 0) (nI 0) = some ((), tr') from d1, Option.bind_some, hF] at hx
        rw [k1, Option.bind_some] at hc
        obtain ⟨av, w', Q1, Q2, M', tr2, cb', pb', tp', pl', g1, g2, g3⟩ := s_scr (w00 := w) (now := r) (n := n) (s := s) hn3 (by omega) n 0 F F w1 P1 P2 (Mrf M 0) tr' cb pb tp pl ρ σ N (by omega) (by omega) (by omega) (k2.congr d2) (by omega)
        refine ⟨Sum.inr av, av, w', Q1, Q2, M', tr2, cb', pb', tp', pl', hc.trans g1, hx.trans g2, ?_, ⟨g3.2.1, g3.2.2⟩⟩
        rw [g3.1]; exact RS.ok
      · rw [if_neg (show ¬ (0 ≤ s ∧ s ≤ yP6 n - 1) by omega), if_pos y_z0, no62] at hx
        rw [if_neg (fun z => q ((y_Llt (by omega) (by omega)).mp ((lg_cmp_lt _ _).mp z)))] at hc
        exact ⟨_, _, _, _, _, _, _, _, _, _, _, hc, hx, RS.a (by omega), SM2.rf M 1⟩
  · obtain ⟨y', ey⟩ := x_pow6any (M := M) (now := r) (tr := tr) (cb := cb) (pb := pb) (tp := tp) (pl := pl) (v := v1) (s := v2) (K := fun (y3x4 : Int64) => (f_X9_runScript_J32 r v1 v2 y3x4 M tr cb pb tp pl)) 3 0 F (1 : Int64) rfl (by omega)
    refine ⟨Sum.inl 0, 0, w0, P1, P2, Mrf M 1, tr, cb, pb, tp, pl, ?_, ?_, RS.a (by omega), SM2.rf M 1⟩
    · unfold f_X8_runScript
      rw [show f_X8_needRange v1 (1 : Int32) (3 : Int32) = some (Sum.inl 0, ()) from e1, Option.bind_some]; rfl
    · unfold f_X9_runScript
      rw [hF]
      refine ey.trans ?_
      unfold f_X9_runScript_J32
      rw [show f_X9_in v1.toInt64 (1 : Int64) (3 : Int64) = some (nI 0, ()) from e2, Option.bind_some, if_pos y_z0, no62]
theorem y_shr33 (x : Int64) : ∃ u, u < 2147483648 ∧ Int64.toInt32 ((Int64.toUInt64 x >>> (Int64.toUInt64 (Int32.toInt64 (33 : Int32)) &&& Int64.toUInt64 63)).toInt64) = nI u := by
  have e : (Int64.toUInt64 (Int32.toInt64 (33 : Int32)) &&& Int64.toUInt64 63) = 33 := by decide
  rw [e]
  have h : (x.toUInt64 >>> 33).toNat = x.toUInt64.toNat >>> 33 := by
    rw [UInt64.toNat_shiftRight]; rfl
  have hb := x.toUInt64.toNat_lt
  refine ⟨(x.toUInt64 >>> 33).toNat, ?_, ?_⟩
  · rw [h, Nat.shiftRight_eq_div_pow]
    omega
  · have : (x.toUInt64 >>> 33).toInt64 = lN (x.toUInt64 >>> 33).toNat := by
      show (⟨x.toUInt64 >>> 33⟩ : Int64) = ⟨UInt64.ofNat (x.toUInt64 >>> 33).toNat⟩
      rw [UInt64.ofNat_toNat]
    rw [this, y_L2i]
/-- a turn of a simulation -/
theorem s_turn {N u : Nat} {w : TW} {r cb pb tp : Nat → Int64} {pl : Nat → Int32} {ρ : Nat → Nat} {σ : Nat → Int64} {P1 P2 : TP} {M : TM} (h : ST N w r ρ σ) (hN : N < 700000) (h1 : 1 ≤ ρ 0) (hu : u < 2147483648) :
    ∃ w' P1' P2' M' r' cb' pb' tp' pl' ρ' σ', f_X8_takeTurn w P1 P2 (nI u) = some ((), (w', P1', P2')) ∧ f_X9_turn M r cb pb tp pl (nI u) = some ((), (M', r', cb', pb', tp', pl')) ∧ ST (N + 50) w' r' ρ' σ' ∧ SM M' M ∧ ρ' 0 = ρ 0 ∧ ρ 307 ≤ ρ' 307 := by
  have h7 := h.2.2.1.1
  have t0 := h.1.1.1
  have r0 : r (0 : Int32).toNatClampNeg = lN (ρ 0) := h.2.1.1 0 (by omega) (by omega)
  have e8 : nI u - nI u / (8 : Int32) * (8 : Int32) = nI (u % 8) := y_Irem (b := 8) (by omega) (by omega)
  have d8 : nI u / (8 : Int32) = nI (u / 8) := y_Idiv (b := 8) (by omega) (by omega)
  have d64 : nI u / (64 : Int32) = nI (u / 64) := y_Idiv (b := 64) (by omega) (by omega)
  have d512 : nI u / (512 : Int32) = nI (u / 512) := y_Idiv (b := 512) (by omega) (by omega)
  have m1 : nI (u / 8) - nI (u / 8) / nI (ρ 0) * nI (ρ 0) = nI (u / 8 % ρ 0) := y_Irem (by omega) (by omega)
  have m2 : nI (u / 64) - nI (u / 64) / nI (ρ 0) * nI (ρ 0) = nI (u / 64 % ρ 0) := y_Irem (by omega) (by omega)
  have m3 : (1 : Int32) + (nI (u / 512) - nI (u / 512) / (1000 : Int32) * (1000 : Int32)) = nI (1 + u / 512 % 1000) := by
    rw [show nI (u / 512) - nI (u / 512) / (1000 : Int32) * (1000 : Int32) = nI (u / 512 % 1000) from y_Irem (b := 1000) (by omega) (by omega), y_c1, y_Iadd]
  have m4 : (1 : Int32) + (nI (u / 8) - nI (u / 8) / (200 : Int32) * (200 : Int32)) = nI (1 + u / 8 % 200) := by
    rw [show nI (u / 8) - nI (u / 8) / (200 : Int32) * (200 : Int32) = nI (u / 8 % 200) from y_Irem (b := 200) (by omega) (by omega), y_c1, y_Iadd]
  have hp1 : 2 ≤ 2 ^ ρ 0 := by
    have := Nat.pow_le_pow_right (n := 2) (by omega) h1
    omega
  have hp2 := y_pow7 _ h7
  have hsh : ((1 : Int32) <<< (nI (ρ 0) &&& 31)) - (1 : Int32) = nI (2 ^ ρ 0 - 1) := by
    rw [y_shl _ (by omega), y_c1, y_Isub (by omega)]
  have m5 : (1 : Int32) + (nI (u / 8) - nI (u / 8) / nI (2 ^ ρ 0 - 1) * nI (2 ^ ρ 0 - 1)) = nI (1 + u / 8 % (2 ^ ρ 0 - 1)) := by
    rw [y_Irem (by omega) (by omega), y_c1, y_Iadd]
  have nz : ¬ nI (ρ 0) = 0 := fun z => by have := (y_Ieq (b := 0) (by omega) (by omega)).mp z; omega
  have nz2 : ¬ nI (2 ^ ρ 0 - 1) = 0 := fun z => by have := (y_Ieq (b := 0) (by omega) (by omega)).mp z; omega
  have c1 : ¬ nI (ρ 0) < (1 : Int32) := fun z => by have := (y_Ilt (b := 1) (by omega) (by omega)).mp z; omega
  have c7 : nI (ρ 0) ≤ (7 : Int32) := (y_Ile (b := 7) (by omega) (by omega)).mpr h7
  have hk : u % 8 < 8 := Nat.mod_lt _ (by omega)
  have cEq : ∀ k, k < 8 → (nI (u % 8) = nI k ↔ u % 8 = k) := fun k hk2 => y_Ieq (by omega) (by omega)
  by_cases k4 : u % 8 = 4
  · obtain ⟨w', r', n, a1, a2, a3, -⟩ := s_weeks h (by omega) (m := 1) (by omega)
    refine ⟨w', P1, P2, M, r', cb, pb, tp, pl, _, σ, ?_, ?_, a3.mono (by omega), ⟨rfl, rfl, rfl⟩, yWn_o (by omega) (by omega) 1 ρ, ?_⟩
    · unfold f_X8_takeTurn
      rw [t0, if_neg c1, if_pos c7, e8, if_pos (show nI (u % 8) = (4 : Int32) from by rw [k4]; rfl), show (1 : Int32) = nI 1 from rfl, a1]; rfl
    · unfold f_X9_turn
      rw [if_pos (by decide), r0, y_L2i, if_neg nz, if_neg nz, e8, if_pos (show (4 : Int32) ≤ nI (u % 8) from by rw [k4]; decide), if_pos (show nI (u % 8) = (4 : Int32) from by rw [k4]; rfl), show (1 : Int32) = nI 1 from rfl, a2]; rfl
    · rw [yWn_o (by omega) (by omega) 1 ρ]; exact Nat.le_refl _
  by_cases k7 : u % 8 = 7
  · have hv : u / 8 % 200 < 200 := Nat.mod_lt _ (by omega)
    rcases y_setg (nI 0) (nI (1 + u / 8 % 200)) with ⟨i, y, e1, e2, hi, hy, hb, t1, -⟩ | ⟨-, t2⟩
    · have hi0 : 0 = i := (y_Ieq (by omega) (by omega)).mp e1
      have hyy : 1 + u / 8 % 200 = y := (y_Ieq (by omega) (by omega)).mp e2
      subst hi0; subst hyy
      obtain ⟨w', a1, a3⟩ := s_set h hi hb
      refine ⟨w', P1, P2, M, _, cb, pb, tp, pl, _, σ, ?_, ?_, a3.mono (by omega), ⟨rfl, rfl, rfl⟩, pu_n (by omega), ?_⟩
      · unfold f_X8_takeTurn
        rw [t0, if_neg c1, if_pos c7, e8, if_neg (show ¬ nI (u % 8) = (4 : Int32) from fun z => k4 ((cEq 4 (by omega)).mp z)), if_neg (show ¬ nI (u % 8) = (5 : Int32) from fun z => by have := (cEq 5 (by omega)).mp z; omega), if_neg (show ¬ nI (u % 8) = (6 : Int32) from fun z => by have := (cEq 6 (by omega)).mp z; omega), if_pos (show nI (u % 8) = (7 : Int32) from by rw [k7]; rfl), d8, m4]
        have : f_X8_scriptSets w (0 : Int32) (nI (1 + u / 8 % 200)) = some (nI 1, w') := by
          unfold f_X8_scriptSets
          rw [show f_X8_settingTakes (0 : Int32) (nI (1 + u / 8 % 200)) = some (nI 1, ()) from t1, Option.bind_some]
          refine (if_neg y_z1).trans ?_
          rw [show f_X7_changeSetting w (0 : Int32) (nI (1 + u / 8 % 200)) = _ from a1]; rfl
        rw [this]; rfl
      · unfold f_X9_turn
        rw [if_pos (by decide), r0, y_L2i, if_neg nz, if_neg nz, e8, if_pos (show (4 : Int32) ≤ nI (u % 8) from by rw [k7]; decide), if_neg (show ¬ nI (u % 8) = (4 : Int32) from fun z => k4 ((cEq 4 (by omega)).mp z)), if_pos (show nI (u % 8) = (7 : Int32) from by rw [k7]; rfl), if_pos (by decide), d8, m4, y_I2l (by omega)]
        rfl
      · rw [pu_n (by omega)]; exact Nat.le_refl _
    · exfalso
      have e := x_in (a := 1 + u / 8 % 200) (lo := 1) (hi := 1000) (by omega) (by omega) (by omega)
      rw [if_pos (by omega)] at e
      unfold f_X9_isSetting at t2
      rw [if_pos y_z0, y_I2l (by omega), show f_X9_in (lN (1 + u / 8 % 200)) (1 : Int64) (1000 : Int64) = some (nI 1, ()) from e, Option.bind_some, if_neg y_z1] at t2
      exact absurd t2 (by decide)
  by_cases k56 : u % 8 = 5 ∨ u % 8 = 6
  · obtain ⟨b, c, e, w', r', ρ', a1, a2, a3, a4, a5, a6⟩ := s_scd h (nI (u / 8 % ρ 0)) (nI (u / 64 % ρ 0)) (nI (1 + u / 512 % 1000))
    refine ⟨w', P1, P2, M, r', cb, pb, tp, pl, ρ', σ, ?_, ?_, a4.mono (by omega), ⟨rfl, rfl, rfl⟩, a5, by omega⟩
    · unfold f_X8_takeTurn
      rw [t0, if_neg c1, if_pos c7, e8, if_neg (show ¬ nI (u % 8) = (4 : Int32) from fun z => k4 ((cEq 4 (by omega)).mp z))]
      by_cases k5 : u % 8 = 5
      · rw [if_pos (show nI (u % 8) = (5 : Int32) from by rw [k5]; rfl), if_neg nz, if_neg nz, d8, d64, d512, m1, m2, m3, a1]; rfl
      · rw [if_neg (show ¬ nI (u % 8) = (5 : Int32) from fun z => k5 ((cEq 5 (by omega)).mp z)), if_pos (show nI (u % 8) = (6 : Int32) from by rw [show u % 8 = 6 by omega]; rfl), if_neg nz, if_neg nz, d8, d64, d512, m1, m2, m3, a1]; rfl
    · unfold f_X9_turn
      rw [if_pos (by decide), r0, y_L2i, if_neg nz, if_neg nz, e8, if_pos (show (4 : Int32) ≤ nI (u % 8) from (y_Ile (a := 4) (by omega) (by omega)).mpr (by omega)), if_neg (show ¬ nI (u % 8) = (4 : Int32) from fun z => k4 ((cEq 4 (by omega)).mp z)), if_neg (show ¬ nI (u % 8) = (7 : Int32) from fun z => k7 ((cEq 7 (by omega)).mp z)), d8, d64, d512, m1, m2, m3, a2, Option.bind_some]
      rcases a3 with ⟨-, rfl, g1, -, -⟩ | ⟨-, g1, g2, rfl⟩
      · refine (if_pos y_z0).trans ?_
        rw [g1]; rfl
      · exact if_neg (fun z => by have := (y_Ieq (b := 0) (by omega) (by omega)).mp z; omega)
  · have hS : 1 + u / 8 % (2 ^ ρ 0 - 1) < 2 ^ ρ 0 := by
      have := Nat.mod_lt (u / 8) (show 0 < 2 ^ ρ 0 - 1 by omega)
      omega
    obtain ⟨P1', P2', w', n, y, cb', pb', tp', pl', r', a1, a2, a3, -⟩ := s_run (P1 := P1) (P2 := P2) (M := M) (cb := cb) (pb := pb) (tp := tp) (pl := pl) h (by omega) hS
    refine ⟨w', P1', P2', Mpl M y, r', cb', pb', tp', pl', _, _, ?_, ?_, a3, ⟨rfl, rfl, rfl⟩, ?_, yRn_7 _ _⟩
    · unfold f_X8_takeTurn
      rw [t0, if_neg c1, if_pos c7, e8, if_neg (show ¬ nI (u % 8) = (4 : Int32) from fun z => k4 ((cEq 4 (by omega)).mp z)), if_neg (show ¬ nI (u % 8) = (5 : Int32) from fun z => by have := (cEq 5 (by omega)).mp z; omega), if_neg (show ¬ nI (u % 8) = (6 : Int32) from fun z => by have := (cEq 6 (by omega)).mp z; omega), if_neg (show ¬ nI (u % 8) = (7 : Int32) from fun z => k7 ((cEq 7 (by omega)).mp z)), hsh, if_neg (show ¬ nI (2 ^ ρ 0 - 1) ≤ (0 : Int32) from fun z => by have := (y_Ile (b := 0) (by omega) (by omega)).mp z; omega), if_neg nz2, d8, m5, a1]
      rfl
    · unfold f_X9_turn
      rw [if_pos (by decide), r0, y_L2i, if_neg nz, if_neg nz, e8, if_neg (show ¬ (4 : Int32) ≤ nI (u % 8) from fun z => by have := (y_Ile (a := 4) (by omega) (by omega)).mp z; omega), hsh, if_neg nz2, d8, m5, a2]
      rfl
    · rw [show yRn (1 + u / 8 % (2 ^ ρ 0 - 1)) ρ 0 = yR0 ρ 0 from yLn_o _ (by omega)]; exact pu_n (by omega)
def xA : Int64 := 6364136223846793005
def xC : Int64 := 1442695040888963407
theorem s_sim {w00 : TW} {now : Nat → Int64} {m : Nat} {K1 : TW → TP → TP → Option ((Nat ⊕ Int32) × (TW × TP × TP))} {K2 : TM → (Nat → Int64) → (Nat → Int64) → (Nat → Int64) → (Nat → Int64) → (Nat → Int32) → Option (Int32 × (TM × (Nat → Int64) × (Nat → Int64) × (Nat → Int64) × (Nat → Int64) × (Nat → Int32)))} (hm : m ≤ 40) : ∀ rr i f1 f2 x w P1 P2 M tr cb pb tp pl ρ σ N, i + rr = m → rr < f1 → rr < f2 → ST N w tr ρ σ → N + rr * 50 < 700000 →
    ∃ w' P1' P2' M' tr' cb' pb' tp' pl' ρ' σ', f_X8_simulate_L24 w00 (nI m) K1 f1 x (nI i) w P1 P2 = K1 w' P1' P2' ∧ f_X9_simulate_L45 now (nI m) K2 f2 x (nI i) M tr cb pb tp pl = K2 M' tr' cb' pb' tp' pl' ∧ ST (N + rr * 50) w' tr' ρ' σ' ∧ SM M' M ∧ ρ 307 ≤ ρ' 307 := by
  intro rr
  induction rr with
  | zero =>
    intro i f1 f2 x w P1 P2 M tr cb pb tp pl ρ σ N hi h1 h2 h hN
    obtain ⟨f1, rfl⟩ : ∃ m, f1 = m + 1 := ⟨f1 - 1, by omega⟩
    obtain ⟨f2, rfl⟩ : ∃ m, f2 = m + 1 := ⟨f2 - 1, by omega⟩
    refine ⟨w, P1, P2, M, tr, cb, pb, tp, pl, ρ, σ, ?_, ?_, h.mono (by omega), ⟨rfl, rfl, rfl⟩, Nat.le_refl _⟩
    · rw [f_X8_simulate_L24, if_pos ((y_Ile (by omega) (by omega)).mpr (by omega))]
    · rw [f_X9_simulate_L45, if_pos ((y_Ile (by omega) (by omega)).mpr (by omega))]
  | succ rr ih =>
    intro i f1 f2 x w P1 P2 M tr cb pb tp pl ρ σ N hi h1 h2 h hN
    obtain ⟨f1, rfl⟩ : ∃ m, f1 = m + 1 := ⟨f1 - 1, by omega⟩
    obtain ⟨f2, rfl⟩ : ∃ m, f2 = m + 1 := ⟨f2 - 1, by omega⟩
    have ni : ¬ nI m ≤ nI i := fun z => by have := (y_Ile (by omega) (by omega)).mp z; omega
    have r0 : tr (0 : Int32).toNatClampNeg = lN (ρ 0) := h.2.1.1 0 (by omega) (by omega)
    have h7 := h.2.2.1.1
    by_cases q : ρ 0 = 0
    · have hidle : ∀ rr2 j f y, j + rr2 = m → rr2 < f → f_X8_simulate_L24 w00 (nI m) K1 f y (nI j) w P1 P2 = K1 w P1 P2 := by
        intro rr2
        induction rr2 with
        | zero =>
          intro j f y hj hf
          obtain ⟨f, rfl⟩ : ∃ m, f = m + 1 := ⟨f - 1, by omega⟩
          rw [f_X8_simulate_L24, if_pos ((y_Ile (by omega) (by omega)).mpr (by omega))]
        | succ rr2 ih2 =>
          intro j f y hj hf
          obtain ⟨f, rfl⟩ : ∃ m, f = m + 1 := ⟨f - 1, by omega⟩
          have ht : ∀ v, f_X8_takeTurn w P1 P2 v = some ((), (w, P1, P2)) := by
            intro v
            unfold f_X8_takeTurn
            rw [h.1.1.1, q]
            exact if_pos (by decide)
          rw [f_X8_simulate_L24, if_neg (fun z => by have := (y_Ile (by omega) (by omega)).mp z; omega), ht, Option.bind_some, y_c1, y_Iadd]
          exact ih2 (j + 1) f _ (by omega) (by omega)
      refine ⟨w, P1, P2, M, tr, cb, pb, tp, pl, ρ, σ, hidle (rr + 1) i (f1 + 1) x hi h1, ?_, h.mono (by omega), ⟨rfl, rfl, rfl⟩, Nat.le_refl _⟩
      rw [f_X9_simulate_L45, if_neg ni, if_pos (by decide), r0, q, if_pos (by decide)]
    · obtain ⟨u, hu, hU⟩ := y_shr33 ((x * (6364136223846793005 : Int64)) + (1442695040888963407 : Int64))
      obtain ⟨w1, Q1, Q2, M1, r1, cb1, pb1, tp1, pl1, ρ1, σ1, k1, k2, k3, k4, k5, k6⟩ := s_turn (P1 := P1) (P2 := P2) (M := M) (cb := cb) (pb := pb) (tp := tp) (pl := pl) h (by omega) (by omega) hu
      obtain ⟨w', P1', P2', M', tr', cb', pb', tp', pl', ρ', σ', g1, g2, g3, g4, g5⟩ := ih (i + 1) f1 f2 ((x * (6364136223846793005 : Int64)) + (1442695040888963407 : Int64)) w1 Q1 Q2 M1 r1 cb1 pb1 tp1 pl1 ρ1 σ1 (N + 50) (by omega) (by omega) (by omega) k3 (by omega)
      refine ⟨w', P1', P2', M', tr', cb', pb', tp', pl', ρ', σ', ?_, ?_, g3.mono (by omega), ⟨g4.1.trans k4.1, g4.2.1.trans k4.2.1, g4.2.2.trans k4.2.2⟩, by omega⟩
      · rw [f_X8_simulate_L24, if_neg ni, hU, k1, Option.bind_some, y_c1, y_Iadd]
        exact g1
      · rw [f_X9_simulate_L45, if_neg ni, if_pos (by decide), r0, if_neg (show ¬ lg_cmp (lN (ρ 0)) (0 : Int64) ≤ (0 : Int32) from fun z => by have := (y_Lle (b := 0) (by omega) (by omega)).mp ((lg_cmp_le _ _).mp z); omega), hU, k2, Option.bind_some, y_c1, y_Iadd]
        exact g2
theorem p_sim {N : Nat} {w w0 : TW} {r tr cb pb tp : Nat → Int64} {pl : Nat → Int32} {ρ : Nat → Nat} {σ : Nat → Int64} {P1 P2 : TP} (h : ST N w r ρ σ) (hN : N < 600000) (v1 : Int64) (v3 : Int32) (M : TM) :
    ∃ res av w' P1' P2' M' tr' cb' pb' tp' pl', f_X8_simulate w w0 P1 P2 v1 v3 = some (res, (w', P1', P2')) ∧ f_X9_simulate M r tr cb pb tp pl v1 v3 = some (av, (M', tr', cb', pb', tp', pl')) ∧ RS 1 0 0 res av (M_refusal M') ∧ SM2 M' M := by
  have r0 := x_ref M (c := 0) (by omega)
  have r1 := x_ref M (c := 1) (by omega)
  rw [if_pos rfl] at r0
  rw [if_neg (by omega)] at r1
  obtain ⟨F, hF, hF1⟩ := y_fuel
  rcases y_rng v3 1 40 (by omega) (by omega) with ⟨m, rfl, hm1, hm3, e1, e2, -⟩ | ⟨-, e1, e2, -⟩
  · obtain ⟨w1, k1, k2⟩ := c_copy (w0 := w0) h
    obtain ⟨tr', d1, d2⟩ := x_trial (now := r) (tr := tr)
    obtain ⟨w', P1', P2', M', tr2, cb', pb', tp', pl', ρ', σ', g1, g2, g3, g4, g5⟩ := s_sim (w00 := w) (now := r) (K1 := (fun (y5g_this_copy : TW) (y5g_this_chosen : TP) (y5g_this_other : TP) => ((f_X7_memoryCount y5g_this_copy).bind fun o6 => (some ((Sum.inr (((100 : Int32) * ((W_surprises y5g_this_copy) - (W_surprises w))) + o6.1)), (y5g_this_copy, y5g_this_chosen, y5g_this_other)))))) (K2 := (fun (y10g_this : TM) (y10g_this_trial : Nat → Int64) (y10g_this_chosenBy : Nat → Int64) (y10g_this_paidBy : Nat → Int64) (y10g_this_toPay : Nat → Int64) (y10g_this_plan : Nat → Int32) => (f_X9_simulate_J90 r y10g_this y10g_this_trial y10g_this_chosenBy y10g_this_paidBy y10g_this_toPay y10g_this_plan))) hm3 m 0 F F v1 w1 P1 P2 (Mrf M 0) tr' cb pb tp pl ρ σ N (by omega) (by omega) (by omega) (k2.congr d2) (by omega)
    have hi := g3.2.2
    have cm := c_memoryCount (w := w') (f := fun c => ρ' (155 + yq c)) (fun c hc => ⟨(g3.1.1.2.2 c hc).2.2, by have := (hi.1.2.2 c hc).2.2.2.1; omega⟩)
    have xm := x_count (r := tr2) (base := 155) (f := fun q => ρ' (155 + q)) (by omega) (fun q hq => ⟨g3.2.1.1 _ (by omega) (by omega), by have := (hi.q q hq).1; omega⟩)
    rw [yct_q (f := fun q => ρ' (155 + q)) (fun q hq hn => (hi.2.2.2.2 q hq hn).2.1)] at xm
    have s1 : W_surprises w' = nI (ρ' 307) := g3.1.2.2.2.1
    have s2 : W_surprises w = nI (ρ 307) := h.1.2.2.2.1
    have x1 : tr2 (307 : Int32).toNatClampNeg = lN (ρ' 307) := g3.2.1.1 307 (by omega) (by omega)
    have x2 : r (307 : Int32).toNatClampNeg = lN (ρ 307) := h.2.1.1 307 (by omega) (by omega)
    have hb1 := hi.2.2.1.2.2.1
    have hle := yct_le (fun c => ρ' (155 + yq c)) 21
    refine ⟨Sum.inr (nI (100 * (ρ' 307 - ρ 307) + yct (fun c => ρ' (155 + yq c)) 21)), nI (100 * (ρ' 307 - ρ 307) + yct (fun c => ρ' (155 + yq c)) 21), w', P1', P2', M', tr2, cb', pb', tp', pl', ?_, ?_, ?_, ⟨g4.2.1, g4.2.2⟩⟩
    · unfold f_X8_simulate
      rw [show f_X8_needRange (nI m) (1 : Int32) (40 : Int32) = some (Sum.inr (), ()) from e1, Option.bind_some, hF]
      show ((f_X7_takeFrom w0 w).bind fun o2 => (f_X8_simulate_L24 w (nI m) (fun (y5g_this_copy : TW) (y5g_this_chosen : TP) (y5g_this_other : TP) => ((f_X7_memoryCount y5g_this_copy).bind fun o6 => (some ((Sum.inr (((100 : Int32) * ((W_surprises y5g_this_copy) - (W_surprises w))) + o6.1)), (y5g_this_copy, y5g_this_chosen, y5g_this_other))))) F v1 (0 : Int32) o2.2 P1 P2)) = _
      rw [k1, Option.bind_some]
      refine g1.trans ?_
      rw [cm, Option.bind_some, s1, s2, y_Isub g5, show (100 : Int32) = nI 100 from rfl, y_Imul]
      show some (Sum.inr (nI _ + nI _), _) = _
      rw [y_Iadd]
    · unfold f_X9_simulate
      rw [y_I2l (by omega), show f_X9_in (lN m) (1 : Int64) (40 : Int64) = some (nI 1, ()) from e2, Option.bind_some, if_neg y_z1]
      unfold f_X9_simulate_J18
      rw [show (0 : Int32) = nI 0 from rfl, r0, Option.bind_some, if_pos rfl, show f_X9_copyWorld 353 353 r tr (nI 0) (nI 0) = some ((), tr') from d1, Option.bind_some, hF]
      refine g2.trans ?_
      unfold f_X9_simulate_J90
      rw [if_pos (by decide), if_pos (by decide), x1, x2, y_Lsub g5, show (100 : Int64) = lN 100 from rfl, y_Lmul, show f_X9_count 353 tr2 (155 : Int32) = _ from xm, Option.bind_some]
      show some (Int64.toInt32 (lN _ + lN _), _) = _
      rw [y_Ladd, y_L2i]
    · rw [g4.1]; exact RS.ok
  · refine ⟨Sum.inl 0, 0, w0, P1, P2, Mrf M 1, tr, cb, pb, tp, pl, ?_, ?_, RS.a (by omega), SM2.rf M 1⟩
    · unfold f_X8_simulate
      rw [show f_X8_needRange v3 (1 : Int32) (40 : Int32) = some (Sum.inl 0, ()) from e1, Option.bind_some]; rfl
    · unfold f_X9_simulate
      rw [show f_X9_in v3.toInt64 (1 : Int64) (40 : Int64) = some (nI 0, ()) from e2, Option.bind_some, if_pos y_z0]
      unfold f_X9_simulate_J18
      rw [show (1 : Int32) = nI 1 from rfl, r1, Option.bind_some]
      exact if_neg y_z1
