theorem n_tbl (q : CW) (v : Int32) : (∃ j, v = nI j ∧ j < q.1 0 ∧ ∀ N K w, WK N K w q → f_X8_needTable w v = some (Sum.inr (), ())) ∨ (∀ N K w, WK N K w q → f_X8_needTable w v = some (Sum.inl 2, ())) := by
  by_cases h : ∃ j, j < 2147483648 ∧ v = nI j ∧ j < q.1 0
  · obtain ⟨j, hj, rfl, hq⟩ := h
    refine Or.inl ⟨j, rfl, hq, fun N K w hw => ?_⟩
    have e := c_hasT hw.1.1 hw.2.1.1.1 hj
    rw [if_pos hq] at e
    unfold f_X8_needTable
    rw [e, Option.bind_some]; exact if_neg y_z1
  · refine Or.inr fun N K w hw => ?_
    rcases y_tbl hw.st v with ⟨j, e, hj, -⟩ | ⟨-, e, -⟩
    · exact absurd ⟨j, by have := hw.2.1.1.1; omega, e, hj⟩ h
    · exact e
theorem n_sts (q : CW) (v : Int32) : (∃ j, v = nI j ∧ j < 2 ^ q.1 0 ∧ j < 2147483648 ∧ ∀ N K w, WK N K w q → f_X8_needTables w v = some (Sum.inr (), ())) ∨ (∀ N K w, WK N K w q → f_X8_needTables w v = some (Sum.inl 2, ())) := by
  by_cases h : ∃ j, j < 2147483648 ∧ v = nI j ∧ j < 2 ^ q.1 0
  · obtain ⟨j, hj, rfl, hq⟩ := h
    refine Or.inl ⟨j, rfl, hq, hj, fun N K w hw => ?_⟩
    have e := c_hasTs hw.1.1 hw.2.1.1.1 hj
    rw [if_pos hq] at e
    unfold f_X8_needTables
    rw [e, Option.bind_some]; exact if_neg y_z1
  · refine Or.inr fun N K w hw => ?_
    rcases y_sts hw.st v with ⟨j, e, hj, hj2, -⟩ | ⟨-, e, -⟩
    · exact absurd ⟨j, by omega, e, hj⟩ h
    · exact e
theorem n_two (q : CW) (v1 v2 : Int32) : (∃ a b, v1 = nI a ∧ v2 = nI b ∧ a < q.1 0 ∧ b < q.1 0 ∧ a ≠ b ∧ ∀ N K w, WK N K w q → f_X8_needTwoTables w v1 v2 = some (Sum.inr (), ())) ∨ (∀ N K w, WK N K w q → f_X8_needTwoTables w v1 v2 = some (Sum.inl 2, ())) ∨ (∀ N K w, WK N K w q → f_X8_needTwoTables w v1 v2 = some (Sum.inl 0, ())) := by
  rcases n_tbl q v1 with ⟨a, ea, ha, e1⟩ | e1
  · rcases n_tbl q v2 with ⟨b, eb, hb, e2⟩ | e2
    · by_cases z : v1 = v2
      · refine Or.inr (Or.inr fun N K w hw => ?_)
        have f1 := e1 N K w hw
        have f2 := e2 N K w hw
        subst z
        simp (disch := omega) only [y_c0, y_c1, y_c10, y_c100, y_c1000, y_c10000, y_c100000, y_c106, y_c112, y_c116, y_c127, y_c128, y_c13, y_c14, y_c155, y_c2, y_c20, y_c200, y_c204, y_c21, y_c253, y_c255, y_c3, y_c30, y_c302, y_c303, y_c304, y_c305, y_c306, y_c307, y_c308, y_c309, y_c310, y_c311, y_c312, y_c313, y_c314, y_c315, y_c316, y_c32, y_c33, y_c353, y_c39, y_c4, y_c40, y_c44, y_c4589, y_c48, y_c49, y_c5, y_c512, y_c54, y_c57, y_c59, y_c6, y_c62, y_c64, y_c7, y_c8, y_c9, y_c99, y_c9999, y_d0, y_d1, y_d10, y_d100, y_d1000000, y_d1442695040888963407, y_d2, y_d20, y_d255, y_d3, y_d4, y_d40, y_d4294967295, y_d48, y_d5, y_d50, y_d54, y_d57, y_d6364136223846793005, y_d7, y_d9, y_d9999, y_dR, y_dS, y_dk, y_nar0, y_nar1, y_Ilt, y_Ile, y_Ieq, y_Iadd, y_Imul, y_Idiv, y_Llt, y_Lle, y_Leq, y_Ladd, y_Lmul, y_Ldiv, y_I2l, y_L2i, y_shn, y_or, y_and, y_bn1, y_bn0, y_inb, y_cl, y_gle, y_gge, y_ggt, y_glt, y_geq, if_pos, if_neg, if_true, if_false, Option.bind_some, f_X8_needTwoTables, f1, f2, Sum.elim_inr]
      · refine Or.inl ⟨a, b, ea, eb, ha, hb, fun y => z (by rw [ea, eb, y]), fun N K w hw => ?_⟩
        have f1 := e1 N K w hw
        have f2 := e2 N K w hw
        simp (disch := omega) only [y_c0, y_c1, y_c10, y_c100, y_c1000, y_c10000, y_c100000, y_c106, y_c112, y_c116, y_c127, y_c128, y_c13, y_c14, y_c155, y_c2, y_c20, y_c200, y_c204, y_c21, y_c253, y_c255, y_c3, y_c30, y_c302, y_c303, y_c304, y_c305, y_c306, y_c307, y_c308, y_c309, y_c310, y_c311, y_c312, y_c313, y_c314, y_c315, y_c316, y_c32, y_c33, y_c353, y_c39, y_c4, y_c40, y_c44, y_c4589, y_c48, y_c49, y_c5, y_c512, y_c54, y_c57, y_c59, y_c6, y_c62, y_c64, y_c7, y_c8, y_c9, y_c99, y_c9999, y_d0, y_d1, y_d10, y_d100, y_d1000000, y_d1442695040888963407, y_d2, y_d20, y_d255, y_d3, y_d4, y_d40, y_d4294967295, y_d48, y_d5, y_d50, y_d54, y_d57, y_d6364136223846793005, y_d7, y_d9, y_d9999, y_dR, y_dS, y_dk, y_nar0, y_nar1, y_Ilt, y_Ile, y_Ieq, y_Iadd, y_Imul, y_Idiv, y_Llt, y_Lle, y_Leq, y_Ladd, y_Lmul, y_Ldiv, y_I2l, y_L2i, y_shn, y_or, y_and, y_bn1, y_bn0, y_inb, y_cl, y_gle, y_gge, y_ggt, y_glt, y_geq, if_pos, if_neg, if_true, if_false, Option.bind_some, f_X8_needTwoTables, f1, f2, Sum.elim_inr, z]
    · refine Or.inr (Or.inl fun N K w hw => ?_)
      have f1 := e1 N K w hw
      have f2 := e2 N K w hw
      simp (disch := omega) only [y_c0, y_c1, y_c10, y_c100, y_c1000, y_c10000, y_c100000, y_c106, y_c112, y_c116, y_c127, y_c128, y_c13, y_c14, y_c155, y_c2, y_c20, y_c200, y_c204, y_c21, y_c253, y_c255, y_c3, y_c30, y_c302, y_c303, y_c304, y_c305, y_c306, y_c307, y_c308, y_c309, y_c310, y_c311, y_c312, y_c313, y_c314, y_c315, y_c316, y_c32, y_c33, y_c353, y_c39, y_c4, y_c40, y_c44, y_c4589, y_c48, y_c49, y_c5, y_c512, y_c54, y_c57, y_c59, y_c6, y_c62, y_c64, y_c7, y_c8, y_c9, y_c99, y_c9999, y_d0, y_d1, y_d10, y_d100, y_d1000000, y_d1442695040888963407, y_d2, y_d20, y_d255, y_d3, y_d4, y_d40, y_d4294967295, y_d48, y_d5, y_d50, y_d54, y_d57, y_d6364136223846793005, y_d7, y_d9, y_d9999, y_dR, y_dS, y_dk, y_nar0, y_nar1, y_Ilt, y_Ile, y_Ieq, y_Iadd, y_Imul, y_Idiv, y_Llt, y_Lle, y_Leq, y_Ladd, y_Lmul, y_Ldiv, y_I2l, y_L2i, y_shn, y_or, y_and, y_bn1, y_bn0, y_inb, y_cl, y_gle, y_gge, y_ggt, y_glt, y_geq, if_pos, if_neg, if_true, if_false, Option.bind_some, f_X8_needTwoTables, f1, f2, Sum.elim_inr, Sum.elim_inl]
  · refine Or.inr (Or.inl fun N K w hw => ?_)
    have f1 := e1 N K w hw
    simp (disch := omega) only [y_c0, y_c1, y_c10, y_c100, y_c1000, y_c10000, y_c100000, y_c106, y_c112, y_c116, y_c127, y_c128, y_c13, y_c14, y_c155, y_c2, y_c20, y_c200, y_c204, y_c21, y_c253, y_c255, y_c3, y_c30, y_c302, y_c303, y_c304, y_c305, y_c306, y_c307, y_c308, y_c309, y_c310, y_c311, y_c312, y_c313, y_c314, y_c315, y_c316, y_c32, y_c33, y_c353, y_c39, y_c4, y_c40, y_c44, y_c4589, y_c48, y_c49, y_c5, y_c512, y_c54, y_c57, y_c59, y_c6, y_c62, y_c64, y_c7, y_c8, y_c9, y_c99, y_c9999, y_d0, y_d1, y_d10, y_d100, y_d1000000, y_d1442695040888963407, y_d2, y_d20, y_d255, y_d3, y_d4, y_d40, y_d4294967295, y_d48, y_d5, y_d50, y_d54, y_d57, y_d6364136223846793005, y_d7, y_d9, y_d9999, y_dR, y_dS, y_dk, y_nar0, y_nar1, y_Ilt, y_Ile, y_Ieq, y_Iadd, y_Imul, y_Idiv, y_Llt, y_Lle, y_Leq, y_Ladd, y_Lmul, y_Ldiv, y_I2l, y_L2i, y_shn, y_or, y_and, y_bn1, y_bn0, y_inb, y_cl, y_gle, y_gge, y_ggt, y_glt, y_geq, if_pos, if_neg, if_true, if_false, Option.bind_some, f_X8_needTwoTables, f1, Sum.elim_inl]
/-- an action on world and history -/
def WH (N K : Nat) (q : CW) (hs : List CW) (c0 c1 c2 : Nat) (f : TW → TH → Option ((Nat ⊕ Int32) × (TW × TH))) : Prop :=
  ∃ res q' hs', OKR c0 c1 c2 res ∧ ∀ w H, WK N K w q → HK3 N K H hs → ∃ w' H', f w H = some (res, (w', H')) ∧ WK (N + 50) (K + 1) w' q' ∧ HK3 (N + 50) (K + 1) H' hs'
theorem WH.no {N K : Nat} {q : CW} {hs : List CW} {c0 c1 c2 : Nat} {f : TW → TH → Option ((Nat ⊕ Int32) × (TW × TH))} {k : Nat} (hk : OKR c0 c1 c2 (Sum.inl k : Nat ⊕ Int32)) (h : ∀ w H, WK N K w q → HK3 N K H hs → f w H = some (Sum.inl k, (w, H))) : WH N K q hs c0 c1 c2 f :=
  ⟨_, q, hs, hk, fun w H hw hH => ⟨w, H, h w H hw hH, hw.mono (by omega) (by omega), hH.mono (by omega) (by omega)⟩⟩
theorem OKR.a {α : Type} {c0 c1 c2 : Nat} (h : 0 < c0) : OKR c0 c1 c2 (Sum.inl 0 : Nat ⊕ α) := Or.inr (Or.inl ⟨rfl, h⟩)
theorem OKR.s {α : Type} {c0 c1 c2 : Nat} (h : 0 < c1) : OKR c0 c1 c2 (Sum.inl 1 : Nat ⊕ α) := Or.inr (Or.inr (Or.inl ⟨rfl, h⟩))
theorem OKR.x {α : Type} {c0 c1 c2 : Nat} (h : 0 < c2) : OKR c0 c1 c2 (Sum.inl 2 : Nat ⊕ α) := Or.inr (Or.inr (Or.inr ⟨rfl, h⟩))
theorem OKR.ok {α : Type} {c0 c1 c2 : Nat} {n : α} : OKR c0 c1 c2 (Sum.inr n : Nat ⊕ α) := Or.inl ⟨_, rfl⟩
-- what stays so, action by action
theorem iv_add {K : Nat} {ρ : Nat → Nat} {σ : Nat → Int64} {z : Nat} (h : IV K (ρ, σ)) (h7 : ρ 0 < 7) : IV K (pu (pu ρ (1 + ρ 0) z) 0 (ρ 0 + 1), σ) := by
  obtain ⟨a, b, c, d⟩ := h
  refine ⟨fun i hi hm => ?_, fun x y hx hy h0 => ?_, ?_, ?_⟩
  · have := yq_lt i hi
    have hm : 0 < pu (pu ρ (1 + ρ 0) z) 0 (ρ 0 + 1) (155 + yq i) := hm
    show 0 < pu (pu ρ (1 + ρ 0) z) 0 (ρ 0 + 1) (253 + yq i)
    rw [pu_n (by omega), pu_n (by omega)] at hm ⊢
    exact a i hi hm
  · have h0 : ρ 0 + 1 ≤ y := h0
    show pu (pu ρ (1 + ρ 0) z) 0 (ρ 0 + 1) (8 + (7 * x + y)) = 0
    rw [pu_n (by omega), pu_n (by omega)]
    exact b x y hx hy (by show ρ 0 ≤ y; omega)
  · show pu (pu ρ (1 + ρ 0) z) 0 (ρ 0 + 1) 306 ≤ K
    rw [pu_n (by omega), pu_n (by omega)]; exact c
  · have e : pu (pu ρ (1 + ρ 0) z) 0 (ρ 0 + 1) 306 = ρ 306 := by rw [pu_n (by omega), pu_n (by omega)]
    show ∃ s0 s1 s2 s3 : Nat, σ 0 = lN s0 ∧ σ 1 = lN s1 ∧ σ 2 = lN s2 ∧ σ 3 = lN s3 ∧ s1 ≤ s0 ∧ s3 ≤ s2 ∧ s0 ≤ pu (pu ρ (1 + ρ 0) z) 0 (ρ 0 + 1) 306 * 7000000000000000 ∧ s2 ≤ 7000000000000000
    rw [e]; exact d
/-- one place changed that nothing here looks at -/
theorem iv_pu {K : Nat} {ρ : Nat → Nat} {σ : Nat → Int64} {i v : Nat} (h : IV K (ρ, σ)) (hi : i ≠ 0 ∧ i ≠ 306 ∧ (i < 8 ∨ 57 ≤ i) ∧ (i < 155 ∨ 204 ≤ i) ∧ (i < 253 ∨ 302 ≤ i)) : IV K (pu ρ i v, σ) := by
  obtain ⟨a, b, c, d⟩ := h
  have e0 : pu ρ i v 0 = ρ 0 := pu_n (by omega)
  have e1 : pu ρ i v 306 = ρ 306 := pu_n (by omega)
  refine ⟨fun j hj hm => ?_, fun x y hx hy h0 => ?_, ?_, ?_⟩
  · have := yq_lt j hj
    have hm : 0 < pu ρ i v (155 + yq j) := hm
    show 0 < pu ρ i v (253 + yq j)
    rw [pu_n (by omega)] at hm ⊢
    exact a j hj hm
  · have h0 : pu ρ i v 0 ≤ y := h0
    rw [e0] at h0
    show pu ρ i v (8 + (7 * x + y)) = 0
    rw [pu_n (by omega)]
    exact b x y hx hy h0
  · show pu ρ i v 306 ≤ K
    rw [e1]; exact c
  · show ∃ s0 s1 s2 s3 : Nat, σ 0 = lN s0 ∧ σ 1 = lN s1 ∧ σ 2 = lN s2 ∧ σ 3 = lN s3 ∧ s1 ≤ s0 ∧ s3 ≤ s2 ∧ s0 ≤ pu ρ i v 306 * 7000000000000000 ∧ s2 ≤ 7000000000000000
    rw [e1]; exact d
theorem yq_ci : ∀ a, a < 7 → ∀ b, b < 7 → a ≠ b → yq (yci a b) = 7 * min a b + max a b := by decide +kernel
theorem iv_link {K : Nat} {ρ : Nat → Nat} {σ : Nat → Int64} {ta tb : Nat} (h : IV K (ρ, σ)) (ha : ta < 7) (hb : tb < 7) (hab : ta ≠ tb) (h1 : ta < ρ 0) (h2 : tb < ρ 0) : IV K (pu (pu ρ (8 + yq (yci ta tb)) 1) (155 + yq (yci ta tb)) 0, σ) := by
  obtain ⟨a, b, c, d⟩ := h
  have hq := yq_ci ta ha tb hb hab
  have hl := yq_lt _ (yci_lt ta ha tb hb hab)
  generalize yq (yci ta tb) = p at hq hl
  have e0 : pu (pu ρ (8 + p) 1) (155 + p) 0 0 = ρ 0 := by rw [pu_n (by omega), pu_n (by omega)]
  have e1 : pu (pu ρ (8 + p) 1) (155 + p) 0 306 = ρ 306 := by rw [pu_n (by omega), pu_n (by omega)]
  refine ⟨fun j hj hm => ?_, fun x y hx hy h0 => ?_, ?_, ?_⟩
  · have := yq_lt j hj
    have hm : 0 < pu (pu ρ (8 + p) 1) (155 + p) 0 (155 + yq j) := hm
    show 0 < pu (pu ρ (8 + p) 1) (155 + p) 0 (253 + yq j)
    by_cases z : yq j = p
    · rw [pu_e (by omega)] at hm; omega
    · rw [pu_n (by omega), pu_n (by omega)] at hm ⊢
      exact a j hj hm
  · have h0 : pu (pu ρ (8 + p) 1) (155 + p) 0 0 ≤ y := h0
    rw [e0] at h0
    show pu (pu ρ (8 + p) 1) (155 + p) 0 (8 + (7 * x + y)) = 0
    rw [pu_n (by omega), pu_n (by omega)]
    exact b x y hx hy h0
  · show pu (pu ρ (8 + p) 1) (155 + p) 0 306 ≤ K
    rw [e1]; exact c
  · show ∃ s0 s1 s2 s3 : Nat, σ 0 = lN s0 ∧ σ 1 = lN s1 ∧ σ 2 = lN s2 ∧ σ 3 = lN s3 ∧ s1 ≤ s0 ∧ s3 ≤ s2 ∧ s0 ≤ pu (pu ρ (8 + p) 1) (155 + p) 0 306 * 7000000000000000 ∧ s2 ≤ 7000000000000000
    rw [e1]; exact d
theorem IV.ext {K : Nat} {ρ ρ' : Nat → Nat} {σ : Nat → Int64} (h : IV K (ρ, σ)) (e : ∀ i, ρ' i = ρ i) : IV K (ρ', σ) := by
  rw [show ρ' = ρ from funext e]; exact h
theorem yWn_m0 : ∀ n (ρ : Nat → Nat) p, p < 49 → 0 < yWn ρ n (155 + p) → 0 < ρ (155 + p) := by
  intro n
  induction n with
  | zero => intro ρ p _ h; exact h
  | succ n ih =>
    intro ρ p hp h
    rw [yWn] at h
    have h2 := ih _ p hp h
    rw [yWk_m ρ hp] at h2
    by_cases z : 0 < ρ (155 + p) ∧ ρ 304 < ρ (204 + p) + 1
    · exact z.1
    · rw [if_neg z] at h2; exact h2
theorem iv_weeks {K : Nat} {ρ : Nat → Nat} {σ : Nat → Int64} {m : Nat} (h : IV K (ρ, σ)) : IV K (yWn ρ m, σ) := by
  obtain ⟨a, b, c, d⟩ := h
  have e1 : yWn ρ m 306 = ρ 306 := yWn_o (by omega) (by omega) m ρ
  have e0 : yWn ρ m 0 = ρ 0 := yWn_o (by omega) (by omega) m ρ
  refine ⟨fun j hj hm => ?_, fun x y hx hy h0 => ?_, ?_, ?_⟩
  · have := yq_lt j hj
    have h1 := yWn_m0 m ρ (yq j) (by omega) hm
    show 0 < yWn ρ m (253 + yq j)
    rw [yWn_o (by omega) (by omega) m ρ]
    exact a j hj h1
  · have h0 : yWn ρ m 0 ≤ y := h0
    rw [e0] at h0
    show yWn ρ m (8 + (7 * x + y)) = 0
    rw [yWn_o (by omega) (by omega) m ρ]
    exact b x y hx hy h0
  · show yWn ρ m 306 ≤ K
    rw [e1]; exact c
  · show ∃ s0 s1 s2 s3 : Nat, σ 0 = lN s0 ∧ σ 1 = lN s1 ∧ σ 2 = lN s2 ∧ σ 3 = lN s3 ∧ s1 ≤ s0 ∧ s3 ≤ s2 ∧ s0 ≤ yWn ρ m 306 * 7000000000000000 ∧ s2 ≤ 7000000000000000
    rw [e1]; exact d
