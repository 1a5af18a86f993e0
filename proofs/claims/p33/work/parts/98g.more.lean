theorem p_text {N L : Nat} {T : TT} {R : TR} {w : TW} {M : TM} {mt : Nat → Int32} {c : Nat → Nat} {r cb pb : Nat → Int64} {pl : Nat → Int32} {ρ : Nat → Nat} {σ : Nat → Int64} {P : TP} (ht : TXR T M mt L c) (h : ST N w r ρ σ) (v : Int32) :
    ∃ res av R' P' M' cb' pb' pl', f_X8_costOfText T R w P v = some (res, (R', P')) ∧ f_X9_costOfText M mt r cb pb pl v = some (av, (M', cb', pb', pl')) ∧ RS 1 2 0 res av (M_refusal M') ∧ SM2 M' M := by
  have h7 := h.2.2.1.1
  rcases y_rng v 0 2 (by omega) (by omega) with ⟨k, rfl, -, hk, e1, e2, -⟩ | ⟨-, e1, e2, -⟩
  · obtain ⟨v', R', b, M1, pl1, f1, f2, f3, f4, f5, f6⟩ := x_layText (M := M) (now := r) ht h.2.1.p h7 R pl
    have hb : b = 0 ∨ b = 1 := by omega
    rcases hb with hb | hb
    · subst hb
      have r2 := x_ref M1 (c := 2) (by omega)
      rw [if_neg (by omega)] at r2
      refine ⟨Sum.inl 1, 0, R', P, Mrf M1 2, cb, pb, pl1, ?_, ?_, RS.s (by omega), ⟨f3.2.1, f3.2.2⟩⟩
      · unfold f_X8_costOfText
        rw [c_kind, e1, Option.bind_some]
        show ((f_X6_firstErrorFor_X2 T R).bind _) = _
        rw [f1, Option.bind_some]
        rcases f5 rfl with g | ⟨g, s, g1, g2, g3⟩
        · exact if_neg g
        · refine (if_pos g).trans ?_
          have hs := c_hasTs h.1.1 h7 (j := s) (by omega)
          rw [if_neg g3] at hs
          show ((f_X7_hasTables w (R_seen R')).bind _) = _
          rw [g1, hs, Option.bind_some]
          exact if_pos y_z0
      · unfold f_X9_costOfText
        rw [y_I2l (by omega), y_d0, y_d2, e2, Option.bind_some, if_neg y_z1, f2, Option.bind_some, if_pos y_z0]
        unfold f_X9_costOfText_J29
        rw [show (2 : Int32) = nI 2 from rfl, r2, Option.bind_some]
        exact if_neg y_z1
    · subst hb
      obtain ⟨g, s, l, g1, g2, g3, g4, g5, g6, g7⟩ := f6 rfl
      have r0 := x_ref M1 (c := 0) (by omega)
      rw [if_pos rfl] at r0
      have hs7 := y_2pow h.2.2.1 g2
      obtain ⟨P', a1, a2, -⟩ := cw_weigh (P := P) h.1.1 h.2.2.1 hk g2
      have a3 := cp_rd8 (R := R') h.2.2.1 g2 a2 l 0 FUEL 0 0 (by unfold FUEL; omega) (by rw [Nat.zero_add]; exact g4) (by omega) (fun m hm => by rw [Nat.zero_add]; exact g5 m hm) g6 (Nat.zero_and _)
      rw [Nat.zero_add] at a3
      obtain ⟨cb', b1, b2⟩ := x_lay cb h.2.1.p h.2.2.1 hk
      obtain ⟨pb', b3⟩ := x_pay (M := Mrf M1 0) (pb := pb) (RC := yrw ρ k) h.2.1.p h.2.2.1 hk (fun i hi => ⟨b2 i hi, (yrw_bd h.2.2.1 k hi).2⟩) (show XP (Mrf M1 0) pl1 l from g7) g3 (fun t htl => y_bitlt g2 (g6 t htl))
      refine ⟨Sum.inr _, _, R', P', Mrf M1 0, cb', pb', pl1, ?_, (?_ : f_X9_costOfText M mt r cb pb pl (nI k) = some (lN (yC (yst (yrw ρ k) (yrw ρ k) (yz ρ)) 0 l), (Mrf M1 0, cb', pb', pl1))), RS.ok, ⟨f3.2.1, f3.2.2⟩⟩
      · unfold f_X8_costOfText
        rw [c_kind, e1, Option.bind_some]
        show ((f_X6_firstErrorFor_X2 T R).bind _) = _
        rw [f1, Option.bind_some]
        refine (if_pos g).trans ?_
        have hs := c_hasTs h.1.1 h7 (j := s) (by omega)
        rw [if_pos g2] at hs
        show ((f_X7_hasTables w (R_seen R')).bind _) = _
        rw [g1, hs, Option.bind_some]
        refine (if_neg y_z1).trans ?_
        show ((f_X3_weigh P w (R_seen R') (nI k)).bind _) = _
        rw [g1, a1, Option.bind_some]
        show ((f_X3_costOfRead_L8 P' R' FUEL (0 : Int64) (0 : Int32) (0 : Int32)).bind _) = _
        rw [show f_X3_costOfRead_L8 P' R' FUEL (0 : Int64) (0 : Int32) (0 : Int32) = _ from a3]
        rfl
      · unfold f_X9_costOfText
        rw [y_I2l (by omega), y_d0, y_d2, e2, Option.bind_some, if_neg y_z1, f2, Option.bind_some, if_neg y_z1]
        unfold f_X9_costOfText_J29
        rw [show (0 : Int32) = nI 0 from rfl, r0, Option.bind_some, if_pos rfl, b1, Option.bind_some]
        show ((f_X9_payFor 353 (Mrf M1 0) cb' pb pl1 r (nI k)).bind _) = _
        rw [b3]; rfl
  · have r1 := x_ref M (c := 1) (by omega)
    rw [if_neg (by omega)] at r1
    refine ⟨Sum.inl 0, 0, R, P, Mrf M 1, cb, pb, pl, ?_, ?_, RS.a (by omega), SM2.rf M 1⟩
    · unfold f_X8_costOfText
      rw [c_kind, e1, Option.bind_some]; rfl
    · unfold f_X9_costOfText
      rw [y_d0, y_d2, e2, Option.bind_some, if_pos y_z0]
      unfold f_X9_costOfText_J29
      rw [show (1 : Int32) = nI 1 from rfl, r1, Option.bind_some]
      exact if_neg y_z1
theorem x_m85 {M : TM} {now tr cb tp : Nat → Int64} {pl : Nat → Int32} {x3 x4 : Int32} {len : Nat} {K : (Nat → Int32) → Option (Int32 × (TM × (Nat → Int64) × (Nat → Int64) × (Nat → Int64) × (Nat → Int32) × (Nat → Int32)))} (hM : M_planned M = nI len) (hl : len ≤ 7) : ∀ rr i n oth, i + rr = len → rr < n → ∃ oth', f_X9_matters_L85 M now tr cb tp pl x3 x4 K n (nI i) oth = K oth' ∧ (∀ m, i ≤ m → m < len → oth' m = pl m) ∧ ∀ m, m < i → oth' m = oth m := by
  intro rr
  induction rr with
  | zero =>
    intro i n oth hi hn
    obtain ⟨n, rfl⟩ : ∃ m, n = m + 1 := ⟨n - 1, by omega⟩
    refine ⟨oth, ?_, fun m a b => by omega, fun _ _ => rfl⟩
    rw [f_X9_matters_L85, hM, if_pos ((y_Ile (by omega) (by omega)).mpr (by omega))]
  | succ rr ih =>
    intro i n oth hi hn
    obtain ⟨n, rfl⟩ : ∃ m, n = m + 1 := ⟨n - 1, by omega⟩
    obtain ⟨oth', e, e1, e2⟩ := ih (i + 1) n (upd oth i (pl i)) (by omega) (by omega)
    refine ⟨oth', ?_, ?_, ?_⟩
    · rw [f_X9_matters_L85, hM, if_neg (fun z => by have := (y_Ile (by omega) (by omega)).mp z; omega), if_pos (y_inb (by omega) (by omega)), if_pos (y_inb (by omega) (by omega)), y_cl (by omega), y_c1, y_Iadd]
      exact e
    · intro m a b
      by_cases z : m = i
      · rw [e2 m (by omega), y_ve z, z]
      · exact e1 m (by omega) b
    · intro m a
      rw [e2 m (by omega), y_vn (by omega)]
theorem x_m156 {M : TM} {now tr cb tp : Nat → Int64} {pl oth : Nat → Int32} {len : Nat} {K : Int32 → Option (Int32 × (TM × (Nat → Int64) × (Nat → Int64) × (Nat → Int64) × (Nat → Int32) × (Nat → Int32)))} (hM : M_planned M = nI len) (hl : len ≤ 7) : ∀ rr i n b, i + rr = len → rr < n → b ≤ 1 → ∃ b', f_X9_matters_L156 M now tr cb tp pl oth K n (nI b) (nI i) = K (nI b') ∧ b' ≤ 1 ∧ (b' = 1 ↔ b = 1 ∧ ∀ m, i ≤ m → m < len → oth m = pl m) := by
  intro rr
  induction rr with
  | zero =>
    intro i n b hi hn hb
    obtain ⟨n, rfl⟩ : ∃ m, n = m + 1 := ⟨n - 1, by omega⟩
    refine ⟨b, ?_, hb, ⟨fun z => ⟨z, fun m a b => by omega⟩, fun z => z.1⟩⟩
    rw [f_X9_matters_L156, hM, if_pos ((y_Ile (by omega) (by omega)).mpr (by omega))]
  | succ rr ih =>
    intro i n b hi hn hb
    obtain ⟨n, rfl⟩ : ∃ m, n = m + 1 := ⟨n - 1, by omega⟩
    have key : ∀ b1, b1 ≤ 1 → (b1 = 1 ↔ b = 1 ∧ oth i = pl i) → f_X9_matters_L156 M now tr cb tp pl oth K (n + 1) (nI b) (nI i) = f_X9_matters_L156 M now tr cb tp pl oth K n (nI b1) (nI (i + 1)) → ∃ b', f_X9_matters_L156 M now tr cb tp pl oth K (n + 1) (nI b) (nI i) = K (nI b') ∧ b' ≤ 1 ∧ (b' = 1 ↔ b = 1 ∧ ∀ m, i ≤ m → m < len → oth m = pl m) := by
      intro b1 h1 h2 h3
      obtain ⟨b', e, e1, e2⟩ := ih (i + 1) n b1 (by omega) (by omega) h1
      refine ⟨b', h3.trans e, e1, ?_⟩
      rw [e2, h2]
      constructor
      · rintro ⟨⟨y1, y2⟩, y3⟩
        refine ⟨y1, fun m m1 m2 => ?_⟩
        by_cases z : m = i
        · rw [z]; exact y2
        · exact y3 m (by omega) m2
      · rintro ⟨y1, y2⟩
        exact ⟨⟨y1, y2 i (Nat.le_refl _) (by omega)⟩, fun m m1 m2 => y2 m (by omega) m2⟩
    have hbb : b = 0 ∨ b = 1 := by omega
    rcases hbb with hbb | hbb
    · subst hbb
      refine key 0 (by omega) (by omega) ?_
      rw [f_X9_matters_L156, hM, if_neg (fun z => by have := (y_Ile (by omega) (by omega)).mp z; omega), if_pos y_z0, y_c1, y_Iadd]
      rfl
    · subst hbb
      by_cases q : oth i = pl i
      · refine key 1 (by omega) ⟨fun _ => ⟨rfl, q⟩, fun _ => rfl⟩ ?_
        rw [f_X9_matters_L156, hM, if_neg (fun z => by have := (y_Ile (by omega) (by omega)).mp z; omega), if_neg y_z1, if_pos (y_inb (by omega) (by omega)), if_pos (y_inb (by omega) (by omega)), y_cl (by omega), if_pos q, y_c1, y_Iadd]
      · refine key 0 (by omega) ⟨fun z => by omega, fun z => absurd z.2 q⟩ ?_
        rw [f_X9_matters_L156, hM, if_neg (fun z => by have := (y_Ile (by omega) (by omega)).mp z; omega), if_neg y_z1, if_pos (y_inb (by omega) (by omega)), if_pos (y_inb (by omega) (by omega)), y_cl (by omega), if_neg q, y_c1, y_Iadd]
        rfl
theorem y_lext {L1 L2 : List Nat} (h : L1.length = L2.length) (e : ∀ m, m < L1.length → L1.getD m 0 = L2.getD m 0) : L1 = L2 := by
  refine List.ext_getElem h (fun i h1 h2 => ?_)
  rw [← y_getD h1, ← y_getD h2]
  exact e i h1
/-- the reference's trial, after a copy of a row -/
theorem x_trial {now tr : Nat → Int64} : ∃ tr', f_X9_copyWorld 353 353 now tr (0 : Int32) (0 : Int32) = some ((), tr') ∧ ∀ i, i < 353 → tr' i = now i := by
  refine ⟨fun j => if 0 ≤ j ∧ j < 0 + 353 then now (0 + (j - 0)) else tr j, x_copy (a := 0) (b := 0) (by omega) (by omega) (by omega) (by omega), fun i hi => ?_⟩
  show (if 0 ≤ i ∧ i < 0 + 353 then now (0 + (i - 0)) else tr i) = _
  rw [if_pos (by omega)]
  congr 1; omega
theorem c_copy {N : Nat} {w w0 : TW} {r : Nat → Int64} {ρ : Nat → Nat} {σ : Nat → Int64} (h : ST N w r ρ σ) : ∃ w', f_X7_takeFrom w0 w = some ((), w') ∧ ST N w' r ρ σ := by
  obtain ⟨w', e, e1⟩ := c_take (w := w0) h.1 h.2.2.1.1
  exact ⟨w', e, e1, h.2.1, h.2.2⟩
theorem m38n {now tr cb tp : Nat → Int64} {pl oth : Nat → Int32} {v1 v2 v3 : Int32} {M : TM} {c : Nat} (h : 0 < c) (h2 : c < 10) : f_X9_matters_J38 now v1 v2 v3 (nI c) M tr cb tp pl oth = some (0, (Mrf M c, tr, cb, tp, pl, oth)) := by
  unfold f_X9_matters_J38
  rw [x_ref M h2, if_neg (by omega), Option.bind_some]
  exact if_neg y_z1
theorem p_matters {N : Nat} {w w0 : TW} {r tr cb tp : Nat → Int64} {pl oth : Nat → Int32} {ρ : Nat → Nat} {σ : Nat → Int64} {P1 P2 : TP} (h : ST N w r ρ σ) (v1 v2 v3 : Int32) (M : TM) :
    ∃ res av w' P1' P2' M' tr' cb' tp' pl' oth', f_X8_matters w w0 P1 P2 v1 v2 v3 = some (res, (w', P1', P2')) ∧ f_X9_matters M r tr cb tp pl oth v1 v2 v3 = some (av, (M', tr', cb', tp', pl', oth')) ∧ RS 2 0 1 res av (M_refusal M') ∧ SM2 M' M := by
  have r0 := x_ref M (c := 0) (by omega)
  rw [if_pos rfl] at r0
  rcases y_tbl h v1 with ⟨a, ea, ha, -, a2, a3⟩ | ⟨-, a2, a3⟩
  · rcases y_tbl h v2 with ⟨b, eb, hb, -, b2, b3⟩ | ⟨-, b2, b3⟩
    · rcases y_sts h v3 with ⟨s, es, hs, hs7, -, t1, t2⟩ | ⟨-, t1, t2⟩
      · have ar : f_X9_arePair 353 r v1 v2 = some (nI 1, ()) := by simp (disch := omega) only [y_c0, y_c1, y_c10, y_c100, y_c1000, y_c10000, y_c100000, y_c106, y_c112, y_c116, y_c127, y_c128, y_c13, y_c14, y_c155, y_c2, y_c20, y_c200, y_c204, y_c21, y_c253, y_c255, y_c3, y_c30, y_c302, y_c303, y_c304, y_c305, y_c306, y_c307, y_c308, y_c309, y_c310, y_c311, y_c312, y_c313, y_c314, y_c315, y_c316, y_c32, y_c33, y_c353, y_c39, y_c4, y_c40, y_c44, y_c4589, y_c48, y_c49, y_c5, y_c512, y_c54, y_c57, y_c59, y_c6, y_c62, y_c64, y_c7, y_c8, y_c9, y_c99, y_c9999, y_d0, y_d1, y_d10, y_d100, y_d1000000, y_d1442695040888963407, y_d2, y_d20, y_d255, y_d3, y_d4, y_d40, y_d4294967295, y_d48, y_d5, y_d50, y_d54, y_d57, y_d6364136223846793005, y_d7, y_d9, y_d9999, y_dR, y_dS, y_dk, y_nar0, y_nar1, y_Ilt, y_Ile, y_Ieq, y_Iadd, y_Imul, y_Idiv, y_Llt, y_Lle, y_Leq, y_Ladd, y_Lmul, y_Ldiv, y_I2l, y_L2i, y_shn, y_or, y_and, y_bn1, y_bn0, y_inb, y_cl, y_gle, y_gge, y_ggt, y_glt, y_geq, if_pos, if_neg, if_true, if_false, Option.bind_some, f_X9_arePair, a3, b3]
        have hpre : f_X8_matters w w0 P1 P2 v1 v2 v3 = (if v1 = v2 then (some (Sum.inl 0, (w0, P1, P2))) else ((f_X8_pairIndex v1 v2).bind fun o5 => ((f_X7_hasMemory w o5.1).bind fun o6 => (if o6.1 = (0 : Int32) then (some ((Sum.inr (0 : Int32)), (w0, P1, P2))) else ((f_X7_takeFrom w0 w).bind fun o8 => ((f_X7_forget o8.2 o5.1).bind fun o9 => ((f_X3_choose P1 w v3 (1 : Int32)).bind fun o10 => ((f_X3_choose P2 o9.2 v3 (1 : Int32)).bind fun o11 => ((f_X3_hasOrderOf o10.2 o11.2).bind fun o12 => (if o12.1 = (0 : Int32) then (some ((Sum.inr (1 : Int32)), (o9.2, o10.2, o11.2))) else (some ((Sum.inr (0 : Int32)), (o9.2, o10.2, o11.2))))))))))))) := by
          unfold f_X8_matters
          rw [a2, Option.bind_some]
          show ((f_X8_needTable w v2).bind _) = _
          rw [b2, Option.bind_some]
          show ((f_X8_needTables w v3).bind _) = _
          rw [t1, Option.bind_some]
          rfl
        have hpreX : f_X9_matters M r tr cb tp pl oth v1 v2 v3 = (if v1 = v2 then (f_X9_matters_J38 r v1 v2 v3 (2 : Int32) M tr cb tp pl oth) else (f_X9_matters_J38 r v1 v2 v3 (0 : Int32) M tr cb tp pl oth)) := by
          unfold f_X9_matters
          rw [ar, Option.bind_some, if_neg y_z1, t2, Option.bind_some, if_neg y_z1]
        by_cases q : v1 = v2
        · rw [if_pos q] at hpre hpreX
          exact ⟨_, _, _, _, _, _, _, _, _, _, _, hpre, hpreX.trans (m38n (c := 2) (by omega) (by omega)), RS.a (by omega), SM2.rf M 2⟩
        · rw [if_neg q] at hpre hpreX
          have h7 := h.2.2.1.1
          have hab : a ≠ b := fun z => q (by rw [ea, eb, z])
          have cp := c_pair a (by omega) b (by omega) hab
          have xp := x_pairq a (by omega) b (by omega) hab
          have hd := yci_lt a (by omega) b (by omega) hab
          rw [ea, eb] at hpre hpreX
          generalize yci a b = d at cp xp hd
          have hq := yq_lt d hd
          have em := c_hasMem h.1.1 h.2.2.1 hd
          have e155 := h.2.1.1 (155 + yq d) (by omega) (by omega)
          have b155 := (h.2.2.1.2.2 d hd).2.2.2.1
          rw [cp, Option.bind_some] at hpre
          replace hpre := hpre.trans (show _ = ((f_X7_hasMemory w (nI d)).bind fun o6 => (if o6.1 = (0 : Int32) then (some ((Sum.inr (0 : Int32)), (w0, P1, P2))) else ((f_X7_takeFrom w0 w).bind fun o8 => ((f_X7_forget o8.2 (nI d)).bind fun o9 => ((f_X3_choose P1 w v3 (1 : Int32)).bind fun o10 => ((f_X3_choose P2 o9.2 v3 (1 : Int32)).bind fun o11 => ((f_X3_hasOrderOf o10.2 o11.2).bind fun o12 => (if o12.1 = (0 : Int32) then (some ((Sum.inr (1 : Int32)), (o9.2, o10.2, o11.2))) else (some ((Sum.inr (0 : Int32)), (o9.2, o10.2, o11.2))))))))))) from rfl)
          unfold f_X9_matters_J38 at hpreX
          rw [show (0 : Int32) = nI 0 from rfl, r0, Option.bind_some, if_pos rfl, xp, Option.bind_some, show (155 : Int32) + (nI (yq d), ()).1 = nI (155 + yq d) from y_Iadd 155 (yq d), if_pos (y_inb (by omega) (by omega)), y_cl (by omega), e155, show (0 : Int64) = lN 0 from rfl] at hpreX
          by_cases qm : 0 < ρ (155 + yq d)
          · rw [if_pos qm] at em
            rw [em, Option.bind_some, if_neg y_z1] at hpre
            rw [if_neg (show ¬ lg_cmp (lN (ρ (155 + yq d))) (lN 0) = nI 0 from fun z => by have := (y_Leq (by omega) (by omega)).mp ((y_geq _ _).mp z); omega)] at hpreX
            obtain ⟨w1, k1, k2⟩ := c_copy (w0 := w0) h
            obtain ⟨w2, k3, k4⟩ := s_forget k2 hd
            obtain ⟨Q1, c1, c2⟩ := cp_chooseP (P := P1) (k := 1) h.1.1 h.2.2.1 (by omega) hs
            obtain ⟨Q2, c3, c4⟩ := cp_chooseP (P := P2) (k := 1) k4.1.1 k4.2.2.1 (by omega) (wh := s) (by rw [pu_n (by omega)]; exact hs)
            obtain ⟨tr', d1, d2⟩ := x_trial (now := r) (tr := tr)
            have hr2 : RRf (vp_updL tr' (155 + yq d) (lN 0)) (pu ρ (155 + yq d) 0) σ := (h.2.1.congr d2).u (by omega)
            obtain ⟨cb1, tp1, pl1, x1, x2, x3⟩ := x_choose (M := Mrf M 0) (cb := cb) (tp := tp) (pl := pl) (k := 1) h.2.1.p h.2.2.1 (by omega) hs
            obtain ⟨cb2, tp2, pl2, y1, y2, y3⟩ := x_choose (M := Mpl (Mrf M 0) (nI (yPl ρ 1 s).length)) (cb := cb1) (tp := tp1) (pl := pl1) (k := 1) hr2.p k4.2.2.1 (by omega) (wh := s) (by rw [pu_n (by omega)]; exact hs)
            have hl1 : (yPl ρ 1 s).length ≤ 7 := yP_len 7 0
            have hl2 : (yPl (pu ρ (155 + yq d) 0) 1 s).length ≤ 7 := yP_len 7 0
            have hll : (yPl ρ 1 s).length = (yPl (pu ρ (155 + yq d) 0) 1 s).length := by rw [yPl_cnt ρ 1 hs7, yPl_cnt _ 1 hs7]
            obtain ⟨F, hF, hF1⟩ := y_fuel
            have ho := cp_ord c2.2.2 c4.2.2 hl1 hll (fun t ht => (yP_in 7 0 t ht).1) (fun t ht => (yP_in 7 0 t ht).1) 7 0 F rfl (by omega) (fun i hi _ => absurd hi (Nat.not_lt_zero _))
            have hord : f_X3_hasOrderOf Q1 Q2 = some (if yPl ρ 1 s = yPl (pu ρ (155 + yq d) 0) 1 s then 1 else 0, ()) := by
              unfold f_X3_hasOrderOf
              rw [hF]; exact ho
            have hfin : f_X8_matters w w0 P1 P2 (nI a) (nI b) v3 = some (Sum.inr (if yPl ρ 1 s = yPl (pu ρ (155 + yq d) 0) 1 s then nI 0 else nI 1), (w2, Q1, Q2)) := by
              rw [hpre, k1, Option.bind_some]
              show ((f_X7_forget w1 (nI d)).bind _) = _
              rw [k3, Option.bind_some, es, y_c1, c1, Option.bind_some]
              show ((f_X3_choose P2 w2 (nI s) (nI 1)).bind _) = _
              rw [c3, Option.bind_some]
              show ((f_X3_hasOrderOf Q1 Q2).bind _) = _
              rw [hord, Option.bind_some]
              by_cases z : yPl ρ 1 s = yPl (pu ρ (155 + yq d) 0) 1 s
              · rw [if_pos z, if_pos z]; exact if_neg y_z1
              · rw [if_neg z, if_neg z]; exact if_pos y_z0
            obtain ⟨oth1, o1, o2, -⟩ := x_m85 (M := Mpl (Mrf M 0) (nI (yPl ρ 1 s).length)) (now := r) (tr := tr) (cb := cb1) (tp := tp1) (pl := pl1) (x3 := nI s) (x4 := nI (yq d)) (len := (yPl ρ 1 s).length) (K := (fun (y12g_this_other : Nat → Int32) => ((f_X9_copyWorld 353 353 r tr (nI 0) (nI 0)).bind fun o13 => (if inb (nI (155 + yq d)) 353 = true then ((f_X9_choose 353 (Mpl (Mrf M 0) (nI (yPl ρ 1 s).length)) cb1 tp1 pl1 (vp_updL o13.2 (155 + yq d) (lN 0)) (nI s) (nI 1)).bind fun o15 => (f_X9_matters_L156 o15.2.1 r (vp_updL o13.2 (155 + yq d) (lN 0)) o15.2.2.1 o15.2.2.2.1 o15.2.2.2.2 y12g_this_other (fun (y21x5 : Int32) => (if y21x5 = nI 0 then (some ((nI 1), (o15.2.1, (vp_updL o13.2 (155 + yq d) (lN 0)), o15.2.2.1, o15.2.2.2.1, o15.2.2.2.2, y12g_this_other))) else (some ((nI 0), (o15.2.1, (vp_updL o13.2 (155 + yq d) (lN 0)), o15.2.2.1, o15.2.2.2.1, o15.2.2.2.2, y12g_this_other))))) F (nI 1) (nI 0))) else none)))) rfl hl1 (yPl ρ 1 s).length 0 F oth (by omega) (by omega)
            obtain ⟨b', z1, z2, z3⟩ := x_m156 (M := Mpl (Mpl (Mrf M 0) (nI (yPl ρ 1 s).length)) (nI (yPl (pu ρ (155 + yq d) 0) 1 s).length)) (now := r) (tr := vp_updL tr' (155 + yq d) (lN 0)) (cb := cb2) (tp := tp2) (pl := pl2) (oth := oth1) (len := (yPl (pu ρ (155 + yq d) 0) 1 s).length) (K := (fun (y21x5 : Int32) => (if y21x5 = (0 : Int32) then (some ((1 : Int32), (Mpl (Mpl (Mrf M 0) (nI (yPl ρ 1 s).length)) (nI (yPl (pu ρ (155 + yq d) 0) 1 s).length), (vp_updL tr' (155 + yq d) (lN 0)), cb2, tp2, pl2, oth1))) else (some ((0 : Int32), (Mpl (Mpl (Mrf M 0) (nI (yPl ρ 1 s).length)) (nI (yPl (pu ρ (155 + yq d) 0) 1 s).length), (vp_updL tr' (155 + yq d) (lN 0)), cb2, tp2, pl2, oth1)))))) rfl hl2 (yPl (pu ρ (155 + yq d) 0) 1 s).length 0 F 1 (by omega) (by omega) (by omega)
            have hbb : b' = 1 ↔ yPl ρ 1 s = yPl (pu ρ (155 + yq d) 0) 1 s := by
              rw [z3]
              constructor
              · rintro ⟨-, g⟩
                refine y_lext hll (fun m hm => ?_)
                have g1 := g m (Nat.zero_le _) (by omega)
                rw [o2 m (Nat.zero_le _) hm, x3 m hm, y3 m (by omega)] at g1
                have hm1 : (yPl ρ 1 s).getD m 0 ∈ yPl ρ 1 s := by rw [y_getD hm]; exact List.getElem_mem hm
                have hm2 : (yPl (pu ρ (155 + yq d) 0) 1 s).getD m 0 ∈ yPl (pu ρ (155 + yq d) 0) 1 s := by rw [y_getD (by omega)]; exact List.getElem_mem (by omega)
                have l1 := (yP_in 7 0 _ hm1).1
                have l2 := (yP_in 7 0 _ hm2).1
                exact (y_Ieq (by omega) (by omega)).mp g1
              · intro g
                refine ⟨rfl, fun m _ hm => ?_⟩
                rw [o2 m (Nat.zero_le _) (by omega), x3 m (by omega), y3 m hm, g]
            have hfinX : f_X9_matters M r tr cb tp pl oth (nI a) (nI b) v3 = some (if yPl ρ 1 s = yPl (pu ρ (155 + yq d) 0) 1 s then nI 0 else nI 1, (Mpl (Mpl (Mrf M 0) (nI (yPl ρ 1 s).length)) (nI (yPl (pu ρ (155 + yq d) 0) 1 s).length), (vp_updL tr' (155 + yq d) (lN 0)), cb2, tp2, pl2, oth1)) := by
              rw [hpreX, es, y_c1]
              show ((f_X9_choose 353 (Mrf M 0) cb tp pl r (nI s) (nI 1)).bind _) = _
              rw [x1, Option.bind_some, hF]
              refine o1.trans ?_
              rw [show f_X9_copyWorld 353 353 r tr (nI 0) (nI 0) = some ((), tr') from d1, Option.bind_some, if_pos (y_inb (by omega) (by omega))]
              show ((f_X9_choose 353 (Mpl (Mrf M 0) (nI (yPl ρ 1 s).length)) cb1 tp1 pl1 (vp_updL tr' (155 + yq d) (lN 0)) (nI s) (nI 1)).bind _) = _
              rw [y1, Option.bind_some]
              refine z1.trans ?_
              by_cases z : yPl ρ 1 s = yPl (pu ρ (155 + yq d) 0) 1 s
              · rw [if_pos z, hbb.mpr z]; exact if_neg y_z1
              · have : b' = 0 := by
                  have : ¬ b' = 1 := fun y => z (hbb.mp y)
                  omega
                rw [if_neg z, this]; exact if_pos y_z0
            rw [ea, eb]
            exact ⟨_, _, _, _, _, _, _, _, _, _, _, hfin, hfinX, RS.ok, ⟨rfl, rfl⟩⟩
          · rw [if_neg qm] at em
            rw [em, Option.bind_some, if_pos y_z0] at hpre
            rw [if_pos (show lg_cmp (lN (ρ (155 + yq d))) (lN 0) = nI 0 from (y_geq _ _).mpr (by rw [show ρ (155 + yq d) = 0 by omega]))] at hpreX
            rw [ea, eb]
            exact ⟨_, _, _, _, _, _, _, _, _, _, _, hpre, hpreX, RS.ok, SM2.rf M 0⟩
      · refine ⟨Sum.inl 2, 0, w0, P1, P2, Mrf M 1, tr, cb, tp, pl, oth, ?_, ?_, RS.x (by omega), SM2.rf M 1⟩
        · unfold f_X8_matters
          rw [a2, Option.bind_some]
          show ((f_X8_needTable w v2).bind _) = _
          rw [b2, Option.bind_some]
          show ((f_X8_needTables w v3).bind _) = _
          rw [t1, Option.bind_some]
          rfl
        · have ar : f_X9_arePair 353 r v1 v2 = some (nI 1, ()) := by simp (disch := omega) only [y_c0, y_c1, y_c10, y_c100, y_c1000, y_c10000, y_c100000, y_c106, y_c112, y_c116, y_c127, y_c128, y_c13, y_c14, y_c155, y_c2, y_c20, y_c200, y_c204, y_c21, y_c253, y_c255, y_c3, y_c30, y_c302, y_c303, y_c304, y_c305, y_c306, y_c307, y_c308, y_c309, y_c310, y_c311, y_c312, y_c313, y_c314, y_c315, y_c316, y_c32, y_c33, y_c353, y_c39, y_c4, y_c40, y_c44, y_c4589, y_c48, y_c49, y_c5, y_c512, y_c54, y_c57, y_c59, y_c6, y_c62, y_c64, y_c7, y_c8, y_c9, y_c99, y_c9999, y_d0, y_d1, y_d10, y_d100, y_d1000000, y_d1442695040888963407, y_d2, y_d20, y_d255, y_d3, y_d4, y_d40, y_d4294967295, y_d48, y_d5, y_d50, y_d54, y_d57, y_d6364136223846793005, y_d7, y_d9, y_d9999, y_dR, y_dS, y_dk, y_nar0, y_nar1, y_Ilt, y_Ile, y_Ieq, y_Iadd, y_Imul, y_Idiv, y_Llt, y_Lle, y_Leq, y_Ladd, y_Lmul, y_Ldiv, y_I2l, y_L2i, y_shn, y_or, y_and, y_bn1, y_bn0, y_inb, y_cl, y_gle, y_gge, y_ggt, y_glt, y_geq, if_pos, if_neg, if_true, if_false, Option.bind_some, f_X9_arePair, a3, b3]
          unfold f_X9_matters
          rw [ar, Option.bind_some, if_neg y_z1, t2, Option.bind_some, if_pos y_z0]
          unfold f_X9_matters_J24
          exact m38n (c := 1) (by omega) (by omega)
    · refine ⟨Sum.inl 2, 0, w0, P1, P2, Mrf M 1, tr, cb, tp, pl, oth, ?_, ?_, RS.x (by omega), SM2.rf M 1⟩
      · unfold f_X8_matters
        rw [a2, Option.bind_some]
        show ((f_X8_needTable w v2).bind _) = _
        rw [b2, Option.bind_some]
        rfl
      · have ar : f_X9_arePair 353 r v1 v2 = some (nI 0, ()) := by simp (disch := omega) only [y_c0, y_c1, y_c10, y_c100, y_c1000, y_c10000, y_c100000, y_c106, y_c112, y_c116, y_c127, y_c128, y_c13, y_c14, y_c155, y_c2, y_c20, y_c200, y_c204, y_c21, y_c253, y_c255, y_c3, y_c30, y_c302, y_c303, y_c304, y_c305, y_c306, y_c307, y_c308, y_c309, y_c310, y_c311, y_c312, y_c313, y_c314, y_c315, y_c316, y_c32, y_c33, y_c353, y_c39, y_c4, y_c40, y_c44, y_c4589, y_c48, y_c49, y_c5, y_c512, y_c54, y_c57, y_c59, y_c6, y_c62, y_c64, y_c7, y_c8, y_c9, y_c99, y_c9999, y_d0, y_d1, y_d10, y_d100, y_d1000000, y_d1442695040888963407, y_d2, y_d20, y_d255, y_d3, y_d4, y_d40, y_d4294967295, y_d48, y_d5, y_d50, y_d54, y_d57, y_d6364136223846793005, y_d7, y_d9, y_d9999, y_dR, y_dS, y_dk, y_nar0, y_nar1, y_Ilt, y_Ile, y_Ieq, y_Iadd, y_Imul, y_Idiv, y_Llt, y_Lle, y_Leq, y_Ladd, y_Lmul, y_Ldiv, y_I2l, y_L2i, y_shn, y_or, y_and, y_bn1, y_bn0, y_inb, y_cl, y_gle, y_gge, y_ggt, y_glt, y_geq, if_pos, if_neg, if_true, if_false, Option.bind_some, f_X9_arePair, a3, b3]
        unfold f_X9_matters
        rw [ar, Option.bind_some, if_pos y_z0]
        unfold f_X9_matters_J24
        exact m38n (c := 1) (by omega) (by omega)
  · refine ⟨Sum.inl 2, 0, w0, P1, P2, Mrf M 1, tr, cb, tp, pl, oth, ?_, ?_, RS.x (by omega), SM2.rf M 1⟩
    · unfold f_X8_matters
      rw [a2, Option.bind_some]
      rfl
    · have ar : f_X9_arePair 353 r v1 v2 = some (nI 0, ()) := by simp (disch := omega) only [y_c0, y_c1, y_c10, y_c100, y_c1000, y_c10000, y_c100000, y_c106, y_c112, y_c116, y_c127, y_c128, y_c13, y_c14, y_c155, y_c2, y_c20, y_c200, y_c204, y_c21, y_c253, y_c255, y_c3, y_c30, y_c302, y_c303, y_c304, y_c305, y_c306, y_c307, y_c308, y_c309, y_c310, y_c311, y_c312, y_c313, y_c314, y_c315, y_c316, y_c32, y_c33, y_c353, y_c39, y_c4, y_c40, y_c44, y_c4589, y_c48, y_c49, y_c5, y_c512, y_c54, y_c57, y_c59, y_c6, y_c62, y_c64, y_c7, y_c8, y_c9, y_c99, y_c9999, y_d0, y_d1, y_d10, y_d100, y_d1000000, y_d1442695040888963407, y_d2, y_d20, y_d255, y_d3, y_d4, y_d40, y_d4294967295, y_d48, y_d5, y_d50, y_d54, y_d57, y_d6364136223846793005, y_d7, y_d9, y_d9999, y_dR, y_dS, y_dk, y_nar0, y_nar1, y_Ilt, y_Ile, y_Ieq, y_Iadd, y_Imul, y_Idiv, y_Llt, y_Lle, y_Leq, y_Ladd, y_Lmul, y_Ldiv, y_I2l, y_L2i, y_shn, y_or, y_and, y_bn1, y_bn0, y_inb, y_cl, y_gle, y_gge, y_ggt, y_glt, y_geq, if_pos, if_neg, if_true, if_false, Option.bind_some, f_X9_arePair, a3]
      unfold f_X9_matters
      rw [ar, Option.bind_some, if_pos y_z0]
      unfold f_X9_matters_J24
      exact m38n (c := 1) (by omega) (by omega)
