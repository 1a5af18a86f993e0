theorem d_append (L : Nat) (c : Nat → Nat) (v : Int32) : ∃ res L' c', OKR 1 2 0 res ∧ ∀ T, TK T L c → ∃ T', f_X8_append T v = some (res, T') ∧ TK T' L' c' := by
  rcases y_rng v 0 255 (by omega) (by omega) with ⟨j, rfl, -, hj, e1, -, -⟩ | ⟨-, e1, -, -⟩
  · obtain ⟨y1, y2⟩ := y_chr j (by omega)
    by_cases q : L < 100
    · refine ⟨Sum.inr (nI (L + 1)), L + 1, pu c L j, OKR.ok, fun T ht => ⟨T_mk (nI (L + 1)) (upd (T_signs T) L (nI j)), ?_, rfl, by omega, fun k hk => ?_⟩⟩
      · obtain ⟨h1, h3, h4⟩ := ht
        unfold f_X8_append
        rw [show f_X8_needRange (nI j) (0 : Int32) (255 : Int32) = some (Sum.inr (), ()) from e1, Option.bind_some, y1]
        show ((f_X6_isFull T).bind _) = _
        have hf : f_X6_isFull T = some (nI 0, ()) := by
          unfold f_X6_isFull
          rw [h1, if_pos (show nI L < (100 : Int32) from (y_Ilt (b := 100) (by omega) (by omega)).mpr q)]; rfl
        rw [hf, Option.bind_some]
        refine (if_pos y_z0).trans ?_
        have hp : f_X6_put T (nI j) = some (nI (L + 1), T_mk (nI (L + 1)) (upd (T_signs T) L (nI j))) := by
          simp (disch := omega) only [y_c0, y_c1, y_c10, y_c100, y_c1000, y_c10000, y_c100000, y_c106, y_c112, y_c116, y_c127, y_c128, y_c13, y_c14, y_c155, y_c2, y_c20, y_c200, y_c204, y_c21, y_c253, y_c255, y_c3, y_c30, y_c302, y_c303, y_c304, y_c305, y_c306, y_c307, y_c308, y_c309, y_c310, y_c311, y_c312, y_c313, y_c314, y_c315, y_c316, y_c32, y_c33, y_c353, y_c39, y_c4, y_c40, y_c44, y_c4589, y_c48, y_c49, y_c5, y_c512, y_c54, y_c57, y_c59, y_c6, y_c62, y_c64, y_c7, y_c8, y_c9, y_c99, y_c9999, y_d0, y_d1, y_d10, y_d100, y_d1000000, y_d1442695040888963407, y_d2, y_d20, y_d255, y_d3, y_d4, y_d40, y_d4294967295, y_d48, y_d5, y_d50, y_d54, y_d57, y_d6364136223846793005, y_d7, y_d9, y_d9999, y_dR, y_dS, y_dk, y_nar0, y_nar1, y_Ilt, y_Ile, y_Ieq, y_Iadd, y_Imul, y_Idiv, y_Llt, y_Lle, y_Leq, y_Ladd, y_Lmul, y_Ldiv, y_I2l, y_L2i, y_shn, y_or, y_and, y_bn1, y_bn0, y_inb, y_cl, y_gle, y_gge, y_ggt, y_glt, y_geq, if_pos, if_neg, if_true, if_false, Option.bind_some, f_X6_put, h1, c_isIn, y2]
        rw [hp]; rfl
      · obtain ⟨h1, h3, h4⟩ := ht
        by_cases z : k = L
        · refine ⟨?_, ?_⟩
          · show upd (T_signs T) L (nI j) k = _
            rw [y_ve z, pu_e z]
          · rw [pu_e z]; exact hj
        · obtain ⟨a1, a3⟩ := h4 k (by omega)
          refine ⟨?_, ?_⟩
          · show upd (T_signs T) L (nI j) k = _
            rw [y_vn z, pu_n z]; exact a1
          · rw [pu_n z]; exact a3
    · refine ⟨Sum.inl 1, L, c, OKR.s (by omega), fun T ht => ⟨T, ?_, ht⟩⟩
      obtain ⟨h1, h3, h4⟩ := ht
      unfold f_X8_append
      rw [show f_X8_needRange (nI j) (0 : Int32) (255 : Int32) = some (Sum.inr (), ()) from e1, Option.bind_some]
      show ((f_X6_isFull T).bind _) = _
      have hf : f_X6_isFull T = some (nI 1, ()) := by
        unfold f_X6_isFull
        rw [h1, if_neg (show ¬ nI L < (100 : Int32) from fun z => q ((y_Ilt (b := 100) (by omega) (by omega)).mp z))]; rfl
      rw [hf, Option.bind_some]
      exact if_neg y_z1
  · refine ⟨Sum.inl 0, L, c, OKR.a (by omega), fun T ht => ⟨T, ?_, ht⟩⟩
    unfold f_X8_append
    rw [show f_X8_needRange v (0 : Int32) (255 : Int32) = some (Sum.inl 0, ()) from e1]; rfl
theorem e_clear {T : TT} {L : Nat} {c : Nat → Nat} (h : TK T L c) : ∃ T', f_X8_clearText T = some (nI L, T') ∧ TK T' 0 c := by
  refine ⟨T_mk (nI 0) (T_signs T), ?_, rfl, by omega, fun k hk => by omega⟩
  unfold f_X8_clearText f_X6_empty
  rw [h.1]; rfl
/-- two number rows of one row of the reference tell of one world alike -/
theorem WRf.tr {N : Nat} {w : TW} {r : Nat → Int64} {ρ ρ' : Nat → Nat} {σ σ' : Nat → Int64} (hw : WRf w ρ σ) (hr : RRf r ρ σ) (hr' : RRf r ρ' σ') (hi : INf N ρ) (hi' : INf N ρ') (hN : N < 1000000) : WRf w ρ' σ' := by
  have e : ∀ i, i < 353 → (i < 308 ∨ 312 ≤ i) → nI (ρ i) = nI (ρ' i) := fun i h1 h2 => by
    have h := congrArg Int64.toInt32 ((hr.1 i h1 h2).symm.trans (hr'.1 i h1 h2))
    rwa [y_L2i, y_L2i] at h
  have n0 : ρ 0 = ρ' 0 := by
    have := hi.1.1
    have := hi'.1.1
    exact (nI_eq (by omega) (by omega)).mp (e 0 (by omega) (by omega))
  have n7 : ρ 307 = ρ' 307 := by
    have := hi.2.2.1
    have := hi'.2.2.1
    exact (nI_eq (by omega) (by omega)).mp (e 307 (by omega) (by omega))
  have nm : ∀ c, c < 21 → ρ (155 + yq c) = ρ' (155 + yq c) := fun c hc => by
    have := yq_lt c hc
    have := (hi.1.2.2 c hc).2.2.2.1
    have := (hi'.1.2.2 c hc).2.2.2.1
    exact (nI_eq (by omega) (by omega)).mp (e _ (by omega) (by omega))
  have h7 := hi'.1.1
  obtain ⟨⟨a1, a2, a3⟩, b, c, d, s, f, g, h, k⟩ := hw
  refine ⟨⟨a1.trans (e 0 (by omega) (by omega)), fun t ht => (a2 t (by omega)).trans (e _ (by omega) (by omega)), fun c hc => ?_⟩, b.trans (e _ (by omega) (by omega)), c.trans (e _ (by omega) (by omega)), d.trans (e _ (by omega) (by omega)), fun i hi => ?_, fun i hi => (f i hi).trans (e _ (by omega) (by omega)), fun c hc hm => ?_, fun c hc => ?_, fun i hi hi2 j hj => ?_⟩
  · have := yq_lt c hc
    obtain ⟨x1, x2, x3⟩ := a3 c hc
    exact ⟨x1.trans (e _ (by omega) (by omega)), x2.trans (e _ (by omega) (by omega)), x3.trans (e _ (by omega) (by omega))⟩
  · rw [s i hi, ← hr.2 i hi, hr'.2 i hi]
  · have := yq_lt c hc
    exact (g c hc (by rw [nm c hc]; exact hm)).trans (e _ (by omega) (by omega))
  · have := yq_lt c hc
    exact (h c hc).trans (e _ (by omega) (by omega))
  · rw [← n7] at hi2 ⊢
    exact (k i hi hi2 j hj).trans (e _ (by omega) (by omega))
-- what a text's entries leave so
def QV (w : TW) : Prop := (∀ c, c < 21 → W_memories w c = nI 0) ∧ W_runs w = nI 0 ∧ ∃ n, n ≤ 7 ∧ W_tables w = nI n ∧ ∀ a b, a < b → b < 7 → n ≤ b → W_guesses w (b * (b - 1) / 2 + a) = nI 0
theorem hv_tab {w : TW} {n a : Nat} (ht : W_tables w = nI n) (hn : n ≤ 7) (ha : a < 2147483648) : f_X7_hasTable w (nI a) = some (if a < n then nI 1 else nI 0, ()) := by
  unfold f_X7_hasTable
  rw [if_neg (y_pos ha), ht]
  by_cases q : a < n
  · rw [if_neg (fun z => by have := (y_Ile (by omega) ha).mp z; omega), if_pos q]; rfl
  · rw [if_pos ((y_Ile (by omega) ha).mpr (by omega)), if_neg q]; rfl
theorem hv_two {w : TW} {n : Nat} {v1 v2 : Int32} {o : Int32 × Unit} (ht : W_tables w = nI n) (hn : n ≤ 7) (h : f_X7_hasTwoTables w v1 v2 = some o) (ho : ¬ o.1 = (0 : Int32)) : ∃ a b, v1 = nI a ∧ v2 = nI b ∧ a < n ∧ b < n ∧ a ≠ b := by
  unfold f_X7_hasTwoTables at h
  rcases y_of v1 with h1 | ⟨a, ha, rfl⟩
  · rw [c_hasTN h1, Option.bind_some, if_pos y_z0] at h
    cases h; exact absurd rfl ho
  · rw [hv_tab ht hn ha, Option.bind_some] at h
    by_cases qa : a < n
    · rw [if_pos qa, if_neg y_z1] at h
      rcases y_of v2 with h2 | ⟨b, hb, rfl⟩
      · rw [c_hasTN h2, Option.bind_some, if_pos y_z0] at h
        cases h; exact absurd rfl ho
      · rw [hv_tab ht hn hb, Option.bind_some] at h
        by_cases qb : b < n
        · rw [if_pos qb, if_neg y_z1] at h
          by_cases z : nI a = nI b
          · rw [if_pos z] at h
            cases h; exact absurd rfl ho
          · exact ⟨a, b, rfl, rfl, qa, qb, fun y => z (by rw [y])⟩
        · rw [if_neg qb, if_pos y_z0] at h
          cases h; exact absurd rfl ho
    · rw [if_neg qa, if_pos y_z0] at h
      cases h; exact absurd rfl ho
theorem yci_ne : ∀ a, a < 7 → ∀ b, b < 7 → ∀ x, x < 7 → ∀ y, y < 7 → x ≠ y → a < b → b * (b - 1) / 2 + a = yci x y → (b = x ∨ b = y) := by
  intro a ha b hb x hx y hy hne hab h
  have h1 := (yq_ab b hb a hab).2
  have h2 := yq_ci x hx y hy hne
  rw [h, h2] at h1
  rcases Nat.le_total x y with q | q
  · rw [Nat.min_eq_left q, Nat.max_eq_right q] at h1; omega
  · rw [Nat.min_eq_right q, Nat.max_eq_left q] at h1; omega
theorem hv_link {w w' : TW} {x y : Nat} {v2 v3 : Int32} {o : Int32} (hq : QV w) (hx : nI x = nI x) {n : Nat} (ht : W_tables w = nI n) (hn : n ≤ 7) (h1 : x < n) (h2 : y < n) (hne : x ≠ y) (h : f_X7_linkPair w (nI (yci x y)) v2 v3 = some (o, w')) : QV w' := by
  have hd := yci_lt x (by omega) y (by omega) hne
  obtain ⟨m, r, k, hk, tk, g⟩ := hq
  have hkn : k = n := (nI_eq (by omega) (by omega)).mp (tk.symm.trans ht)
  subst hkn
  have hc := c_isIn (a := yci x y) (lo := 0) (hi := 20) (by omega) (by omega) (by omega)
  rw [if_pos ⟨Nat.zero_le _, by omega⟩] at hc
  have hc : f_X8_isIn (nI (yci x y)) (0 : Int32) (20 : Int32) = some (nI 1, ()) := hc
  unfold f_X7_linkPair f_X7_linkPair_J29 f_X7_forget at h
  rw [hc, Option.bind_some, if_neg y_z1, if_pos (y_inb hd (by omega)), if_pos (y_inb hd (by omega)), Option.bind_some, if_neg y_z1, if_pos (y_inb hd (by omega)), if_pos (y_inb hd (by omega)), Option.bind_some, y_cl (by omega)] at h
  obtain ⟨o3, -, h⟩ := obind h
  cases h
  refine ⟨fun c hc2 => ?_, r, k, hk, tk, fun a b hab hb hkb => ?_⟩
  · show upd (W_memories w) (yci x y) (0 : Int32) c = nI 0
    by_cases z : c = yci x y
    · rw [y_ve z]; rfl
    · rw [y_vn z]; exact m c hc2
  · show upd (W_guesses w) (yci x y) v2 (b * (b - 1) / 2 + a) = nI 0
    have z : ¬ b * (b - 1) / 2 + a = yci x y := fun z => by
      rcases yci_ne a (by omega) b hb x (by omega) y (by omega) hne hab z with q | q <;> omega
    rw [y_vn z]; exact g a b hab hb hkb
theorem hv_add {w w' : TW} {v : Int32} {o : Int32} {n : Nat} (hq : QV w) (ht : W_tables w = nI n) (hn : n < 7) (h : f_X7_addTable w v = some (o, w')) : QV w' := by
  obtain ⟨m, r, k, hk, tk, g⟩ := hq
  have hkn : k = n := (nI_eq (by omega) (by omega)).mp (tk.symm.trans ht)
  subst hkn
  have hc := c_isIn (a := k) (lo := 0) (hi := 6) (by omega) (by omega) (by omega)
  rw [if_pos ⟨Nat.zero_le _, by omega⟩] at hc
  have hc : f_X8_isIn (nI k) (0 : Int32) (6 : Int32) = some (nI 1, ()) := hc
  unfold f_X7_addTable at h
  rw [ht, hc, Option.bind_some, if_neg y_z1, if_pos (y_inb hn (by omega)), y_c1, y_Iadd] at h
  cases h
  exact ⟨m, r, k + 1, by omega, rfl, fun a b hab hb hkb => g a b hab hb (by omega)⟩
theorem hv_entry {E : TE} {w : TW} {o : Int32 × TW} (hq : QV w) (h : f_X8_doEntry E w = some o) : QV o.2 := by
  have hq2 := hq
  obtain ⟨m, r, n, hn, ht, g⟩ := hq
  unfold f_X8_doEntry at h
  obtain ⟨o1, -, h⟩ := obind h
  by_cases z1 : o1.1 = (0 : Int32)
  · rw [if_pos z1] at h
    obtain ⟨o3, e3, h⟩ := obind h
    by_cases z3 : o3.1 = (0 : Int32)
    · rw [if_pos z3] at h; cases h; exact hq2
    · rw [if_neg z3] at h
      obtain ⟨a, b, ea, eb, ha, hb, hab⟩ := hv_two ht hn e3 z3
      rw [ea, eb, c_pair a (by omega) b (by omega) hab, Option.bind_some] at h
      obtain ⟨o6, e6, h⟩ := obind h
      cases h
      exact hv_link (o := o6.1) (w' := o6.2) hq2 rfl ht hn ha hb hab e6
  · rw [if_neg z1] at h
    obtain ⟨o7, e7, h⟩ := obind h
    by_cases z7 : o7.1 = (0 : Int32)
    · rw [if_pos z7] at h
      obtain ⟨o9, e9, h⟩ := obind h
      cases h
      have h7 : n < 7 := by
        unfold f_X7_isFull at e7
        rw [ht] at e7
        by_cases q : nI n < (7 : Int32)
        · exact (y_Ilt (b := 7) (by omega) (by omega)).mp q
        · rw [if_neg q] at e7; cases e7; exact absurd z7 (by decide)
      exact hv_add (o := o9.1) (w' := o9.2) hq2 ht h7 e9
    · rw [if_neg z7] at h; cases h; exact hq2
theorem hv_read {T : TT} : ∀ n x1 x2 E w o, f_X8_readEntries_L11 T n x1 x2 E w = some o → QV w → QV o.2.2 := by
  intro n
  induction n with
  | zero => intro x1 x2 E w o h; exact nomatch h
  | succ n ih =>
    intro x1 x2 E w o h hq
    have j63 : ∀ y1 y2 y3 E w o, f_X8_readEntries_J63 T (fun x1 x2 E w => f_X8_readEntries_L11 T n x1 x2 E w) y1 y2 y3 E w = some o → QV w → QV o.2.2 := by
      intro y1 y2 y3 E w o h hq
      unfold f_X8_readEntries_J63 at h
      obtain ⟨o5, -, h⟩ := obind h
      exact ih _ _ _ _ _ h hq
    have j46 : ∀ y1 y2 y3 E w o, f_X8_readEntries_J46 T (fun x1 x2 E w => f_X8_readEntries_L11 T n x1 x2 E w) y1 y2 y3 E w = some o → QV w → QV o.2.2 := by
      intro y1 y2 y3 E w o h hq
      unfold f_X8_readEntries_J46 at h
      by_cases z : y3 = (59 : Int32)
      · rw [if_pos z] at h
        obtain ⟨o6, e6, h⟩ := obind h
        have hq6 := hv_entry hq e6
        by_cases z6 : o6.1 = (0 : Int32)
        · rw [if_pos z6] at h; exact j63 _ _ _ _ _ _ h hq6
        · rw [if_neg z6] at h; exact j63 _ _ _ _ _ _ h hq6
      · rw [if_neg z] at h; exact j63 _ _ _ _ _ _ h hq
    rw [f_X8_readEntries_L11] at h
    by_cases z : T_length T < x2
    · rw [if_pos z] at h; cases h; exact hq
    · rw [if_neg z] at h
      by_cases z2 : T_length T ≤ x2
      · rw [if_pos z2] at h; exact j46 _ _ _ _ _ _ h hq
      · rw [if_neg z2] at h
        obtain ⟨o8, -, h⟩ := obind h
        exact j46 _ _ _ _ _ _ h hq
theorem qv_new {w : TW} (h : WRf w y0 (fun _ => 0)) : QV w := by
  obtain ⟨⟨a1, a2, a3⟩, b, c, d⟩ := h
  refine ⟨fun c hc => ?_, ?_, 0, by omega, ?_, fun a b hab hb _ => ?_⟩
  · have := yq_lt c hc
    rw [(a3 c hc).2.2, y0_z (by omega)]
  · rw [c, y0_z (by omega)]
  · rw [a1, y0_z (by omega)]
  · have h1 := (yq_ab b hb a hab).1
    have := yq_lt _ h1
    rw [(a3 _ h1).1, y0_z (by omega)]
theorem qv_iv {N K : Nat} {w : TW} {ρ : Nat → Nat} (hq : QV w) (hw : WRf w ρ (fun _ => 0)) (hi : INf N ρ) (hN : N < 1000000) : IV K (ρ, fun _ => 0) := by
  obtain ⟨m, r, n, hn, ht, g⟩ := hq
  have h7 := hi.1.1
  have n0 : ρ 0 = n := (nI_eq (by omega) (by omega)).mp (hw.1.1.symm.trans ht)
  have h6 : ρ 306 = 0 := by
    have := hi.2.2.1
    exact (nI_eq (by omega) (by omega)).mp (hw.2.2.1.symm.trans r)
  refine ⟨fun c hc hm => ?_, fun a b hab hb h0 => ?_, ?_, 0, 0, 0, 0, rfl, rfl, rfl, rfl, Nat.le_refl _, Nat.le_refl _, Nat.zero_le _, Nat.zero_le _⟩
  · have := (hi.1.2.2 c hc).2.2.2.1
    have e : ρ (155 + yq c) = 0 := (nI_eq (by omega) (by omega)).mp ((hw.1.2.2 c hc).2.2.symm.trans (m c hc))
    have hm : 0 < ρ (155 + yq c) := hm
    omega
  · obtain ⟨h1, h2⟩ := yq_ab b hb a hab
    have h0 : ρ 0 ≤ b := h0
    have g1 := g a b hab hb (by omega)
    obtain ⟨i1, i2, i3, i4, i5, -⟩ := hi.1.2.2 _ h1
    have e : ρ (57 + yq (b * (b - 1) / 2 + a)) = 0 := (nI_eq (by omega) (by omega)).mp ((hw.1.2.2 _ h1).1.symm.trans g1)
    show ρ (8 + (7 * a + b)) = 0
    rw [← h2]
    omega
  · show ρ 306 ≤ K
    omega
theorem d_load {N K : Nat} (q : CW) (hs : List CW) (sl : Nat → Option CW) (L : Nat) (c : Nat → Nat) (hN : N < 500000) : ∃ res q' hs' sl', OKR 0 1 0 res ∧ ∀ T E w H S, TK T L c → WK N K w q → HK3 N K H hs → SK N K S sl → ∃ E' w' H' S', f_X8_load T E w H S = some (res, (E', w', H', S')) ∧ WK N K w' q' ∧ HK3 N K H' hs' ∧ SK N K S' sl' := by
  by_cases hex : ∃ T, TK T L c
  · obtain ⟨T0, hT0⟩ := hex
    obtain ⟨w00, -, w00b⟩ := c_new (W_mk 0 0 0 0 z64 z32 z32 z32 z32 z32 z32 z32 z32)
    obtain ⟨v, E0, j, o, r', e1, e2, e3⟩ := x_world hT0.x (E_mk 0 0 0 0 0) z64 w00 w00b N
    by_cases z : v = -1
    · obtain ⟨w0', E02, ρ', g1, g2⟩ := e3 z
      have hq0 : QV w0' := by
        unfold f_X8_readEntries at g1
        obtain ⟨ob, -, g1⟩ := obind g1
        exact hv_read _ _ _ _ _ _ g1 (qv_new w00b)
      refine ⟨Sum.inr (nI o), (ρ', fun _ => 0), [], fun _ => none, OKR.ok, fun T E w H S hT hw hH hS => ?_⟩
      obtain ⟨w1, k1, k2⟩ := c_new w
      obtain ⟨v1, E1, j1, o1, r1, a1, a2, a3⟩ := x_world hT.x E z64 w1 k2 N
      have ee := Option.some.inj (a2.symm.trans e2)
      have ev : v1 = v := congrArg (fun z => z.1) ee
      have eo : nI o1 = nI o := congrArg (fun z : Int32 × (TM × (Nat → Int64)) => M_out z.2.1) ee
      have er : r1 = r' := congrArg (fun z => z.2.2) ee
      subst ev
      obtain ⟨w', E2, ρ1, b1, b2⟩ := a3 z
      obtain ⟨S', s1, s2⟩ := c_empty (S := S)
      obtain ⟨x, hc, ha, hn, hx, hh⟩ := hH
      subst er
      refine ⟨E2, w', H_mk (nI 0) (H_next H) (H_w H), S', ?_, ⟨b2.1.tr b2.2.1 g2.2.1 b2.2.2 g2.2.2 (by omega), g2.2.2, qv_iv hq0 g2.1 g2.2.2 (by omega)⟩, ⟨x, rfl, Nat.zero_le _, hn, hx, fun i hi => absurd hi (Nat.not_lt_zero _)⟩, fun s hs2 => ⟨s2 s hs2, fun q e => nomatch e⟩⟩
      unfold f_X8_load
      rw [a1, Option.bind_some]
      refine (if_pos z).trans ?_
      rw [k1, Option.bind_some]
      show ((f_X5_emptyAll S).bind fun o5 => (f_X8_readEntries T E1 w1).bind fun o6 => some (Sum.inr o6.1, (o6.2.1, o6.2.2, H_mk (0 : Int32) (H_next H) (H_w H), o5.2))) = _
      rw [s1, Option.bind_some, b1, ← eo]; rfl
    · refine ⟨Sum.inl 1, q, hs, sl, OKR.s (by omega), fun T E w H S hT hw hH hS => ?_⟩
      obtain ⟨v1, E1, j1, o1, r1, a1, a2, a3⟩ := x_world hT.x E z64 w00 w00b N
      have ev : v1 = v := congrArg (fun z => z.1) (Option.some.inj (a2.symm.trans e2))
      subst ev
      refine ⟨E1, w, H, S, ?_, hw, hH, hS⟩
      unfold f_X8_load
      rw [a1, Option.bind_some]
      exact if_neg z
  · exact ⟨Sum.inr 0, q, hs, sl, OKR.ok, fun T E w H S hT => absurd ⟨T, hT⟩ hex⟩
theorem d_save {N K : Nat} (q : CW) (sl : Nat → Option CW) (v : Int32) : ∃ res sl', OKR 0 0 1 res ∧ ∀ w S, WK N K w q → SK N K S sl → ∃ S', f_X8_save w S v = some (res, S') ∧ SK N K S' sl' := by
  rcases y_slot v with ⟨j, rfl, hj, e1, -⟩ | ⟨e1, -⟩
  · refine ⟨Sum.inr (nI (q.1 305)), fun s => if s = j then some q else sl s, OKR.ok, fun w S hw hS => ?_⟩
    obtain ⟨w1, t1, t2⟩ := c_take (w := S_w S j) hw.1 hw.2.1.1.1
    have k1 : f_X5_put S w (nI j) = some ((), S_mk (upd (S_filled S) j (nI 1)) (updW (S_w S) j w1)) := by
      simp (disch := omega) only [y_c0, y_c1, y_c10, y_c100, y_c1000, y_c10000, y_c100000, y_c106, y_c112, y_c116, y_c127, y_c128, y_c13, y_c14, y_c155, y_c2, y_c20, y_c200, y_c204, y_c21, y_c253, y_c255, y_c3, y_c30, y_c302, y_c303, y_c304, y_c305, y_c306, y_c307, y_c308, y_c309, y_c310, y_c311, y_c312, y_c313, y_c314, y_c315, y_c316, y_c32, y_c33, y_c353, y_c39, y_c4, y_c40, y_c44, y_c4589, y_c48, y_c49, y_c5, y_c512, y_c54, y_c57, y_c59, y_c6, y_c62, y_c64, y_c7, y_c8, y_c9, y_c99, y_c9999, y_d0, y_d1, y_d10, y_d100, y_d1000000, y_d1442695040888963407, y_d2, y_d20, y_d255, y_d3, y_d4, y_d40, y_d4294967295, y_d48, y_d5, y_d50, y_d54, y_d57, y_d6364136223846793005, y_d7, y_d9, y_d9999, y_dR, y_dS, y_dk, y_nar0, y_nar1, y_Ilt, y_Ile, y_Ieq, y_Iadd, y_Imul, y_Idiv, y_Llt, y_Lle, y_Leq, y_Ladd, y_Lmul, y_Ldiv, y_I2l, y_L2i, y_shn, y_or, y_and, y_bn1, y_bn0, y_inb, y_cl, y_gle, y_gge, y_ggt, y_glt, y_geq, if_pos, if_neg, if_true, if_false, Option.bind_some, f_X5_put, c_isIn, t1]
    refine ⟨S_mk (upd (S_filled S) j (nI 1)) (updW (S_w S) j w1), ?_, fun s hs => ?_⟩
    · unfold f_X8_save
      rw [e1, Option.bind_some]
      show ((f_X5_put S w (nI j)).bind _) = _
      rw [k1, Option.bind_some, hw.1.2.1]
    · by_cases z : s = j
      · subst z
        refine ⟨?_, fun p hp => ?_⟩
        · show upd (S_filled S) s (nI 1) s = nI (if (if s = s then some q else sl s).isSome = true then 1 else 0)
          rw [y_ve rfl, if_pos rfl]; rfl
        · have hp : (if s = s then some q else sl s) = some p := hp
          rw [if_pos rfl] at hp
          cases hp
          show WK N K (if s = s then w1 else S_w S s) q
          rw [if_pos rfl]
          exact ⟨t2, hw.2⟩
      · refine ⟨?_, fun p hp => ?_⟩
        · show upd (S_filled S) j (nI 1) s = nI (if (if s = j then some q else sl s).isSome = true then 1 else 0)
          rw [y_vn z, if_neg z]; exact (hS s hs).1
        · have hp : (if s = j then some q else sl s) = some p := hp
          rw [if_neg z] at hp
          show WK N K (if s = j then w1 else S_w S s) p
          rw [if_neg z]
          exact (hS s hs).2 p hp
  · refine ⟨Sum.inl 2, sl, OKR.x (by omega), fun w S hw hS => ⟨S, ?_, hS⟩⟩
    unfold f_X8_save
    rw [e1]; rfl
theorem d_back {N K : Nat} (q : CW) (hs : List CW) (sl : Nat → Option CW) (v : Int32) : ∃ res q' hs', OKR 0 2 1 res ∧ ∀ w H S, WK N K w q → HK3 N K H hs → SK N K S sl → ∃ w' H', f_X8_restore w H S v = some (res, (w', H')) ∧ WK N K w' q' ∧ HK3 N K H' hs' := by
  rcases y_slot v with ⟨j, rfl, hj, e1, -⟩ | ⟨e1, -⟩
  · have hin := c_isIn (a := j) (lo := 0) (hi := 1) (by omega) (by omega) (by omega)
    rw [if_pos ⟨Nat.zero_le _, by omega⟩] at hin
    have hin : f_X8_isIn (nI j) (0 : Int32) (1 : Int32) = some (nI 1, ()) := hin
    cases e : sl j with
    | none =>
      refine ⟨Sum.inl 1, q, hs, OKR.s (by omega), fun w H S hw hH hS => ⟨w, H, ?_, hw, hH⟩⟩
      have f := (hS j hj).1
      rw [e] at f
      have f : S_filled S j = nI 0 := f
      have k2 : f_X5_isFilled S (nI j) = some (nI 0, ()) := by
        unfold f_X5_isFilled
        rw [hin, Option.bind_some, if_neg y_z1, if_pos (y_inb hj (by omega)), y_cl (by omega), f]; rfl
      unfold f_X8_restore
      rw [e1, Option.bind_some]
      show ((f_X5_isFilled S (nI j)).bind _) = _
      rw [k2, Option.bind_some]
      exact if_pos y_z0
    | some p =>
      refine ⟨Sum.inr (nI (p.1 305)), p, [], OKR.ok, fun w H S hw hH hS => ?_⟩
      have f := (hS j hj).1
      rw [e] at f
      have f : S_filled S j = nI 1 := f
      have hp := (hS j hj).2 p e
      have k2 : f_X5_isFilled S (nI j) = some (nI 1, ()) := by
        unfold f_X5_isFilled
        rw [hin, Option.bind_some, if_neg y_z1, if_pos (y_inb hj (by omega)), y_cl (by omega), f]; rfl
      obtain ⟨w1, t1, t2⟩ := c_take (w := w) hp.1 hp.2.1.1.1
      have k3 : f_X5_takeOut S w (nI j) = some ((), w1) := by
        unfold f_X5_takeOut
        rw [k2, Option.bind_some, if_neg y_z1, if_pos (y_inb hj (by omega)), y_cl (by omega), t1]; rfl
      obtain ⟨x, hc, ha, hn, hx, hh⟩ := hH
      refine ⟨w1, H_mk (nI 0) (H_next H) (H_w H), ?_, ⟨t2, hp.2⟩, ⟨x, rfl, Nat.zero_le _, hn, hx, fun i hi => absurd hi (Nat.not_lt_zero _)⟩⟩
      unfold f_X8_restore
      rw [e1, Option.bind_some]
      show ((f_X5_isFilled S (nI j)).bind _) = _
      rw [k2, Option.bind_some]
      refine (if_neg y_z1).trans ?_
      rw [k3, Option.bind_some]
      show some (Sum.inr (W_weeks w1), _) = _
      rw [t2.2.1]; rfl
  · refine ⟨Sum.inl 2, q, hs, OKR.x (by omega), fun w H S hw hH hS => ⟨w, H, ?_, hw, hH⟩⟩
    unfold f_X8_restore
    rw [e1]; rfl
