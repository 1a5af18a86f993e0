/-- a world's numbers, with what its runs have cost -/
abbrev CW : Type := (Nat → Nat) × (Nat → Int64)
def rr (q : CW) : Nat → Int64 := fun i => if 308 ≤ i ∧ i < 312 then q.2 (i - 308) else lN (q.1 i)
theorem rr_ok (q : CW) : RRf (rr q) q.1 q.2 := by
  refine ⟨fun i hi h => if_neg (by omega), fun i hi => ?_⟩
  show (if 308 ≤ 308 + i ∧ 308 + i < 312 then q.2 (308 + i - 308) else _) = _
  rw [if_pos (by omega), show 308 + i - 308 = i by omega]
/-- what is always so besides -/
def IV (K : Nat) (q : CW) : Prop := (∀ c, c < 21 → 0 < q.1 (155 + yq c) → 0 < q.1 (253 + yq c)) ∧ (∀ a b, a < b → b < 7 → q.1 0 ≤ b → q.1 (8 + (7 * a + b)) = 0) ∧ q.1 306 ≤ K ∧ ∃ s0 s1 s2 s3 : Nat, q.2 0 = lN s0 ∧ q.2 1 = lN s1 ∧ q.2 2 = lN s2 ∧ q.2 3 = lN s3 ∧ s1 ≤ s0 ∧ s3 ≤ s2 ∧ s0 ≤ q.1 306 * 7000000000000000 ∧ s2 ≤ 7000000000000000
theorem IV.mono {K L : Nat} {q : CW} (h : IV K q) (hk : K ≤ L) : IV L q := ⟨h.1, h.2.1, Nat.le_trans h.2.2.1 hk, h.2.2.2⟩
def WK (N K : Nat) (w : TW) (q : CW) : Prop := WRf w q.1 q.2 ∧ INf N q.1 ∧ IV K q
theorem WK.mono {N K M L : Nat} {w : TW} {q : CW} (h : WK N K w q) (hn : N ≤ M) (hk : K ≤ L) : WK M L w q := ⟨h.1, h.2.1.mono hn, h.2.2.mono hk⟩
theorem WK.st {N K : Nat} {w : TW} {q : CW} (h : WK N K w q) : ST N w (rr q) q.1 q.2 := ⟨h.1, rr_ok q, h.2.1⟩
theorem WK.of {N K : Nat} {w : TW} {r : Nat → Int64} {ρ : Nat → Nat} {σ : Nat → Int64} (h : ST N w r ρ σ) (i : IV K (ρ, σ)) : WK N K w (ρ, σ) := ⟨h.1, h.2.2, i⟩
def q00 : CW := (y0, fun _ => 0)
/-- the states before the last actions, the newest first -/
def HK3 (N K : Nat) (H : TH) (hs : List CW) : Prop := ∃ x, H_count H = nI hs.length ∧ hs.length ≤ 14 ∧ H_next H = nI x ∧ x < 14 ∧ ∀ i, i < hs.length → WK N K (H_w H ((x + 13 - i) % 14)) (hs.getD i q00)
theorem HK3.mono {N K M L : Nat} {H : TH} {hs : List CW} (h : HK3 N K H hs) (hn : N ≤ M) (hk : K ≤ L) : HK3 M L H hs := by
  obtain ⟨x, h1, h2, h3, h4, h5⟩ := h
  exact ⟨x, h1, h2, h3, h4, fun i hi => (h5 i hi).mono hn hk⟩
def rem (q : CW) (hs : List CW) : List CW := (q :: hs).take 14
theorem rem_len (q : CW) (hs : List CW) : (rem q hs).length = if 14 < hs.length + 1 then 14 else hs.length + 1 := by
  unfold rem
  rw [List.length_take, List.length_cons]
  split <;> omega
theorem rem_get (q : CW) (hs : List CW) (i : Nat) (hi : i < 14) : (rem q hs).getD i q00 = (q :: hs).getD i q00 := by
  unfold rem
  rw [List.getD_eq_getElem?_getD, List.getD_eq_getElem?_getD, List.getElem?_take_of_lt hi]
theorem h_rem {N K : Nat} {H : TH} {hs : List CW} {w : TW} {q : CW} (hH : HK3 N K H hs) (hw : WK N K w q) : ∃ H', f_X1_remember H w = some ((), H') ∧ HK3 N K H' (rem q hs) := by
  obtain ⟨x, hc, ha, hn, hx, hh⟩ := hH
  obtain ⟨w1, e, e1⟩ := c_remember hc ha hn hx hw.1 hw.2.1.1.1
  have hw1 : WK N K w1 q := ⟨e1, hw.2⟩
  refine ⟨_, e, (x + 1) % 14, ?_, ?_, rfl, Nat.mod_lt _ (by omega), fun i hi => ?_⟩
  · rw [rem_len]; rfl
  · rw [rem_len]; split <;> omega
  · rw [rem_len] at hi
    have h14 : i < 14 := by split at hi <;> omega
    rw [rem_get q hs i h14]
    cases i with
    | zero =>
      rw [show ((x + 1) % 14 + 13 - 0) % 14 = x by omega]
      show WK N K (if x = x then w1 else H_w H x) q
      rw [if_pos rfl]; exact hw1
    | succ i =>
      have hl : i < hs.length := by split at hi <;> omega
      rw [show ((x + 1) % 14 + 13 - (i + 1)) % 14 = (x + 13 - i) % 14 by omega]
      show WK N K (if (x + 13 - i) % 14 = x then w1 else H_w H ((x + 13 - i) % 14)) (hs.getD i q00)
      rw [if_neg (by omega)]; exact hh i hl
theorem h_undo {N K : Nat} {H : TH} {hs : List CW} {w : TW} {q : CW} (hH : HK3 N K H (q :: hs)) : ∃ H' w', f_X1_takeBack H w = some (nI hs.length, (H', w')) ∧ HK3 N K H' hs ∧ WK N K w' q := by
  obtain ⟨x, hc, ha, hn, hx, hh⟩ := hH
  rw [List.length_cons] at hc ha hh
  have s := hh 0 (by omega)
  rw [show (x + 13 - 0) % 14 = (x + 13) % 14 by omega] at s
  obtain ⟨w1, e, e1⟩ := c_take (w := w) s.1 s.2.1.1.1
  have hx13 : (x + 13) % 14 < 14 := Nat.mod_lt _ (by omega)
  have hs1 : f_X1_stateAt H (nI ((x + 13) % 14)) = some ((), ()) := by
    simp (disch := omega) only [y_c0, y_c1, y_c10, y_c100, y_c1000, y_c10000, y_c100000, y_c106, y_c112, y_c116, y_c127, y_c128, y_c13, y_c14, y_c155, y_c2, y_c20, y_c200, y_c204, y_c21, y_c253, y_c255, y_c3, y_c30, y_c302, y_c303, y_c304, y_c305, y_c306, y_c307, y_c308, y_c309, y_c310, y_c311, y_c312, y_c313, y_c314, y_c315, y_c316, y_c32, y_c33, y_c353, y_c39, y_c4, y_c40, y_c44, y_c4589, y_c48, y_c49, y_c5, y_c512, y_c54, y_c57, y_c59, y_c6, y_c62, y_c64, y_c7, y_c8, y_c9, y_c99, y_c9999, y_d0, y_d1, y_d10, y_d100, y_d1000000, y_d1442695040888963407, y_d2, y_d20, y_d255, y_d3, y_d4, y_d40, y_d4294967295, y_d48, y_d5, y_d50, y_d54, y_d57, y_d6364136223846793005, y_d7, y_d9, y_d9999, y_dR, y_dS, y_dk, y_nar0, y_nar1, y_Ilt, y_Ile, y_Ieq, y_Iadd, y_Imul, y_Idiv, y_Llt, y_Lle, y_Leq, y_Ladd, y_Lmul, y_Ldiv, y_I2l, y_L2i, y_shn, y_or, y_and, y_bn1, y_bn0, y_inb, y_cl, y_gle, y_gge, y_ggt, y_glt, y_geq, if_pos, if_neg, if_true, if_false, Option.bind_some, f_X1_stateAt, c_isIn]
  have g1 : nI (x + 14) - nI 1 = nI (x + 13) := by rw [y_Isub (by omega), show x + 14 - 1 = x + 13 by omega]
  have g2 : nI (hs.length + 1) - nI 1 = nI hs.length := by rw [y_Isub (by omega), Nat.add_sub_cancel]
  refine ⟨H_mk (nI hs.length) (nI ((x + 13) % 14)) (H_w H), w1, ?_, ⟨(x + 13) % 14, rfl, by omega, rfl, hx13, fun i hi => ?_⟩, ⟨e1, s.2⟩⟩
  · unfold f_X1_takeBack
    rw [hn, hc]
    simp (disch := omega) only [y_c0, y_c1, y_c10, y_c100, y_c1000, y_c10000, y_c100000, y_c106, y_c112, y_c116, y_c127, y_c128, y_c13, y_c14, y_c155, y_c2, y_c20, y_c200, y_c204, y_c21, y_c253, y_c255, y_c3, y_c30, y_c302, y_c303, y_c304, y_c305, y_c306, y_c307, y_c308, y_c309, y_c310, y_c311, y_c312, y_c313, y_c314, y_c315, y_c316, y_c32, y_c33, y_c353, y_c39, y_c4, y_c40, y_c44, y_c4589, y_c48, y_c49, y_c5, y_c512, y_c54, y_c57, y_c59, y_c6, y_c62, y_c64, y_c7, y_c8, y_c9, y_c99, y_c9999, y_d0, y_d1, y_d10, y_d100, y_d1000000, y_d1442695040888963407, y_d2, y_d20, y_d255, y_d3, y_d4, y_d40, y_d4294967295, y_d48, y_d5, y_d50, y_d54, y_d57, y_d6364136223846793005, y_d7, y_d9, y_d9999, y_dR, y_dS, y_dk, y_nar0, y_nar1, y_Ilt, y_Ile, y_Ieq, y_Iadd, y_Imul, y_Idiv, y_Llt, y_Lle, y_Leq, y_Ladd, y_Lmul, y_Ldiv, y_I2l, y_L2i, y_shn, y_or, y_and, y_bn1, y_bn0, y_inb, y_cl, y_gle, y_gge, y_ggt, y_glt, y_geq, if_pos, if_neg, if_true, if_false, Option.bind_some, g1, g2, y_Irem2, hs1, e]
  · have := hh (i + 1) (by omega)
    rw [show ((x + 13) % 14 + 13 - i) % 14 = (x + 13 - (i + 1)) % 14 by omega]
    exact this
theorem h_none {N K : Nat} {H : TH} (hH : HK3 N K H []) : f_X1_isEmpty H = some (nI 1, ()) := by
  obtain ⟨x, hc, -⟩ := hH
  unfold f_X1_isEmpty
  rw [hc]; rfl
theorem h_some {N K : Nat} {H : TH} {hs : List CW} {q : CW} (hH : HK3 N K H (q :: hs)) : f_X1_isEmpty H = some (nI 0, ()) := by
  obtain ⟨x, hc, ha, -⟩ := hH
  rw [List.length_cons] at hc ha
  unfold f_X1_isEmpty
  rw [hc]
  refine (if_neg fun z => ?_).trans rfl
  have := (y_Ieq (b := 0) (by omega) (by omega)).mp z
  omega
/-- the slots -/
def SK (N K : Nat) (S : TS) (sl : Nat → Option CW) : Prop := ∀ s, s < 2 → S_filled S s = nI (if (sl s).isSome = true then 1 else 0) ∧ ∀ q, sl s = some q → WK N K (S_w S s) q
theorem SK.mono {N K M L : Nat} {S : TS} {sl : Nat → Option CW} (h : SK N K S sl) (hn : N ≤ M) (hk : K ≤ L) : SK M L S sl := fun s hs => ⟨(h s hs).1, fun q e => ((h s hs).2 q e).mono hn hk⟩
/-- the text -/
def TK (T : TT) (L : Nat) (c : Nat → Nat) : Prop := T_length T = nI L ∧ L ≤ 100 ∧ ∀ k, k < L → T_signs T k = nI (c k) ∧ c k ≤ 255
def M0 : TM := M_mk 0 0 0 0 0 0
def ML (L : Nat) : TM := M_mk 0 (nI L) 0 0 0 0
theorem TK.x {T : TT} {L : Nat} {c : Nat → Nat} (h : TK T L c) : TXR T (ML L) (fun k => nI (c k)) L c := ⟨h.1, rfl, h.2.1, fun k hk => ⟨(h.2.2 k hk).1, rfl, (h.2.2 k hk).2⟩⟩
/-- answers of reading calls don't depend on which of two worlds of one state is asked -/
theorem RS.det {α : Type} {c0 c1 c2 : Nat} {r1 r2 : Nat ⊕ α} {av : α} {rf : Int32} (h1 : RS c0 c1 c2 r1 av rf) (h2 : RS c0 c1 c2 r2 av rf) (hc : c0 < 10 ∧ c1 < 10 ∧ c2 < 10) (hd : (c0 = c1 → c0 = 0) ∧ (c0 = c2 → c0 = 0) ∧ (c1 = c2 → c1 = 0)) : r1 = r2 := by
  have e : ∀ a b, a < 10 → b < 10 → nI a = nI b → a = b := fun a b ha hb h => (nI_eq (by omega) (by omega)).mp h
  obtain ⟨hc0, hc1, hc2⟩ := hc
  obtain ⟨d1, d2, d3⟩ := hd
  rcases h1 with ⟨a1, b1⟩ | ⟨a1, b1, z1⟩ | ⟨a1, b1, z1⟩ | ⟨a1, b1, z1⟩ <;> rcases h2 with ⟨a2, b2⟩ | ⟨a2, b2, z2⟩ | ⟨a2, b2, z2⟩ | ⟨a2, b2, z2⟩ <;> first
    | (rw [a1, a2]; done)
    | (exfalso
       have := e _ _ (by omega) (by omega) (b1.symm.trans b2)
       omega)
def OKR {α : Type} (c0 c1 c2 : Nat) (res : Nat ⊕ α) : Prop := (∃ n, res = Sum.inr n) ∨ (res = Sum.inl 0 ∧ 0 < c0) ∨ (res = Sum.inl 1 ∧ 0 < c1) ∨ (res = Sum.inl 2 ∧ 0 < c2)
theorem RS.okr {α : Type} {c0 c1 c2 : Nat} {r : Nat ⊕ α} {av : α} {rf : Int32} (h : RS c0 c1 c2 r av rf) : OKR c0 c1 c2 r := by
  rcases h with ⟨a, -⟩ | ⟨a, -, z⟩ | ⟨a, -, z⟩ | ⟨a, -, z⟩
  · exact Or.inl ⟨_, a⟩
  · exact Or.inr (Or.inl ⟨a, z⟩)
  · exact Or.inr (Or.inr (Or.inl ⟨a, z⟩))
  · exact Or.inr (Or.inr (Or.inr ⟨a, z⟩))
/-- of a relation that tells class and reference alike: one answer for all -/
theorem rdet {U α β : Type} {c0 c1 c2 : Nat} (P : U → Prop) (F : U → (Nat ⊕ α) → Prop) (X : Option β) (av : β → α) (rf : β → Int32) (h : ∀ u, P u → ∃ res b, F u res ∧ X = some b ∧ RS c0 c1 c2 res (av b) (rf b)) (hc : c0 < 10 ∧ c1 < 10 ∧ c2 < 10) (hd : (c0 = c1 → c0 = 0) ∧ (c0 = c2 → c0 = 0) ∧ (c1 = c2 → c1 = 0)) : (∃ u, P u) → ∃ res, OKR c0 c1 c2 res ∧ ∀ u, P u → F u res := by
  intro ⟨u0, h0⟩
  obtain ⟨res, b, f0, x0, s0⟩ := h u0 h0
  refine ⟨res, s0.okr, fun u hu => ?_⟩
  obtain ⟨res1, b1, f1, x1, s1⟩ := h u hu
  cases x0.symm.trans x1
  rw [s0.det s1 hc hd]; exact f1
