theorem e2_D {st : Nat → Nat → Nat} {w s : Nat} (hs : s < 128) : e2 (yFd st w s) = lN (yD st w s) := by
  rw [yD_eq hs]
  cases yFd st w s <;> rfl
theorem cp_find {P : TP} {ρ : Nat → Nat} {k wh s : Nat} (hi : INp ρ) (hp : PWG P ρ k wh) (hw : wh < 2 ^ ρ 0) (hs : s &&& wh = s)
    (hr : ∀ t, t < 7 → ycd wh s t = true → P_restOf P (s ||| 2 ^ t) = lN (yD (yst1 ρ k) wh (s ||| 2 ^ t))) :
    f_X3_findNext P (nI s) = some ((), P_mk (P_sizes P) (P_shares P) (P_rowsOf P) (vp_updL (P_restOf P) s (lN (yD (yst1 ρ k) wh s))) (upd (P_nextOf P) s (e4 (yFd (yst1 ρ k) wh s))) (P_tableAt P) (P_wayAt P) (P_whole P) (P_count P)) := by
  have h7 := y_pow7 _ hi.1
  have hs1 := y_sub_lt hs hw
  unfold f_X3_findNext
  refine (cp_find_L hi hp hw hs hr 7 0 FUEL rfl (by decide)).trans ?_
  simp (disch := omega) only [y_c0, y_c1, y_c10, y_c106, y_c128, y_c13, y_c14, y_c155, y_c2, y_c20, y_c204, y_c21, y_c253, y_c3, y_c353, y_c4, y_c40, y_c49, y_c57, y_c6, y_c7, y_c8, y_d0, y_d1, y_d10, y_d3, y_d7, y_dR, y_dS, y_dk, y_Ilt, y_Ile, y_Ieq, y_Iadd, y_Imul, y_Idiv, y_Llt, y_Lle, y_Leq, y_Ladd, y_Lmul, y_Ldiv, y_I2l, y_L2i, y_shn, y_or, y_and, y_bn1, y_bn0, y_inb, y_cl, y_gle, y_gge, y_ggt, y_glt, y_geq, if_pos, if_neg, if_true, if_false, Option.bind_some, e2_D]
/-- rows, the way on from all larger sets -/
def PRN (P : TP) (ρ : Nat → Nat) (k wh n : Nat) : Prop := ∀ s, n ≤ s → s < 128 → s &&& wh = s → P_restOf P s = lN (yD (yst1 ρ k) wh s) ∧ P_nextOf P s = e4 (yFd (yst1 ρ k) wh s)
theorem y_dec : ∀ n, n < 128 → nI (n + 1) + (-1 : Int32) = nI n := by decide +kernel
theorem cp_chL {w : TW} {ρ : Nat → Nat} {k wh : Nat} {K : TP → Option (Unit × TP)} (hi : INp ρ) (hw : wh < 2 ^ ρ 0) : ∀ n fuel P, n ≤ 128 → n < fuel → PWG P ρ k wh → PRN P ρ k wh n →
    ∃ P', f_X3_choose_L11 w K fuel (nI n + (-1 : Int32)) P = K P' ∧ PWG P' ρ k wh ∧ PRN P' ρ k wh 0 ∧ P_count P' = P_count P := by
  intro n
  induction n with
  | zero =>
    intro fuel P h1 h2 hp hr
    obtain ⟨f, rfl⟩ : ∃ m, fuel = m + 1 := ⟨fuel - 1, by omega⟩
    exact ⟨P, by rw [f_X3_choose_L11]; exact if_pos (by decide), hp, hr, rfl⟩
  | succ n ih =>
    intro fuel P h1 h2 hp hr
    obtain ⟨f, rfl⟩ : ∃ m, fuel = m + 1 := ⟨fuel - 1, by omega⟩
    rw [y_dec n (by omega), f_X3_choose_L11, if_neg (y_pos (by omega)), hp.1, y_and]
    have hle : n &&& wh ≤ n := Nat.and_le_left
    by_cases hs : n &&& wh = n
    · rw [hs, if_pos rfl, cp_find hi hp hw hs (fun t ht hc => by
        have h4 := y_orlt n (by omega) t ht (ycd_s hc).2
        exact (hr (n ||| 2 ^ t) (by omega) h4.2 (y_sub_or hs (ycd_s hc).1)).1), Option.bind_some]
      refine ih f _ (by omega) (by omega) ⟨hp.1, hp.2.1, hp.2.2⟩ (fun s q1 q2 q3 => ?_)
      show (if s = n then _ else _) = _ ∧ (if s = n then _ else _) = _
      by_cases e : s = n
      · rw [if_pos e, if_pos e, e]; exact ⟨rfl, rfl⟩
      · rw [if_neg e, if_neg e]; exact hr s (by omega) q2 q3
    · rw [if_neg (show ¬ nI (n &&& wh) = nI n by rw [y_Ieq (by omega) (by omega)]; exact hs)]
      exact ih f P (by omega) (by omega) hp (fun s q1 q2 q3 => by
        rcases Nat.lt_or_ge n s with q | q
        · exact hr s (by omega) q2 q3
        · exact absurd (by rw [show n = s by omega]; exact q3) hs)
/-- the ways of a plan -/
def yW (ρ : Nat → Nat) (k : Nat) : Nat → List Nat → List Nat
  | _, [] => []
  | s, t :: l => (if 3 * (yrw ρ k s + yz ρ t) < yrw ρ k s * yz ρ t then 1 else 0) :: yW ρ k (s ||| 2 ^ t) l
theorem yW_len (ρ : Nat → Nat) (k : Nat) : ∀ l s, (yW ρ k s l).length = l.length := by
  intro l
  induction l with
  | nil => intro s; rfl
  | cons t l ih => intro s; rw [yW, List.length_cons, List.length_cons, ih]
theorem y_i127 : (127 : Int32) = nI 127 := rfl
def PL (P : TP) (j : Nat) (L M : List Nat) : Prop := P_count P = nI (j + L.length) ∧ ∀ i, i < L.length → P_tableAt P (j + i) = nI (L.getD i 0) ∧ P_wayAt P (j + i) = nI (M.getD i 0)
theorem cp_fol {ρ : Nat → Nat} {k wh : Nat} (hi : INp ρ) (hw : wh < 2 ^ ρ 0) : ∀ r j n P s, j + r = 7 → r < n → s &&& wh = s → PWG P ρ k wh → PRN P ρ k wh 0 → P_count P = nI j →
    ∃ P', f_X3_followNext_L4 n (nI s) (nI j) P = some ((), P') ∧ PWG P' ρ k wh ∧ PRN P' ρ k wh 0 ∧ PL P' j (yP (yst1 ρ k) wh r s) (yW ρ k s (yP (yst1 ρ k) wh r s)) ∧ ∀ i, i < j → P_tableAt P' i = P_tableAt P i ∧ P_wayAt P' i = P_wayAt P i := by
  intro r
  have h7 := y_pow7 _ hi.1
  induction r with
  | zero =>
    intro j n P s hj hn hs hp hr hc
    obtain ⟨n, rfl⟩ : ∃ m, n = m + 1 := ⟨n - 1, by omega⟩
    refine ⟨P, ?_, hp, hr, ⟨hc, fun i hi => absurd hi (Nat.not_lt_zero _)⟩, fun i _ => ⟨rfl, rfl⟩⟩
    rw [f_X3_followNext_L4, show j = 7 by omega]
    exact if_pos (by decide)
  | succ r ih =>
    intro j n P s hj hn hs hp hr hc
    obtain ⟨n, rfl⟩ : ∃ m, n = m + 1 := ⟨n - 1, by omega⟩
    have hs1 := y_sub_lt hs hw
    have hnx := (hr s (by omega) (by omega) hs).2
    rw [yP]
    unfold yFd at hnx ⊢
    rcases yf_sp (p := ycd wh s) (c := fun t => yst1 ρ k s t + yD (yst1 ρ k) wh (s ||| 2 ^ t)) 7 with ⟨q1, -⟩ | ⟨x, q1, q2, q3, -⟩
    · rw [q1] at hnx ⊢
      refine ⟨P, ?_, hp, hr, ⟨hc, fun i hi => absurd hi (Nat.not_lt_zero _)⟩, fun i _ => ⟨rfl, rfl⟩⟩
      rw [f_X3_followNext_L4, y_i127]
      simp (disch := omega) only [y_c0, y_c1, y_c10, y_c106, y_c128, y_c13, y_c14, y_c155, y_c2, y_c20, y_c204, y_c21, y_c253, y_c3, y_c353, y_c4, y_c40, y_c49, y_c57, y_c6, y_c7, y_c8, y_d0, y_d1, y_d10, y_d3, y_d7, y_dR, y_dS, y_dk, y_Ilt, y_Ile, y_Ieq, y_Iadd, y_Imul, y_Idiv, y_Llt, y_Lle, y_Leq, y_Ladd, y_Lmul, y_Ldiv, y_I2l, y_L2i, y_shn, y_or, y_and, y_bn1, y_bn0, y_inb, y_cl, y_gle, y_gge, y_ggt, y_glt, y_geq, if_pos, if_neg, if_true, if_false, Option.bind_some, f_X8_isIn, hnx]
      exact if_pos (by decide)
    · rw [q1] at hnx ⊢
      have hb := ycd_s q3
      have ho := y_orlt s (by omega) x q2 hb.2
      have hnx : P_nextOf P s = nI x := hnx
      obtain ⟨c1, -⟩ := cp_st (P := P_mk (P_sizes P) (P_shares P) (P_rowsOf P) (P_restOf P) (P_nextOf P) (upd (P_tableAt P) j (nI x)) (P_wayAt P) (P_whole P) (P_count P)) hi (k := k) (wh := wh) ⟨hp.1, hp.2.1, hp.2.2⟩ hw hs hb.1
      obtain ⟨P', e1, e2, e3, e4, e5⟩ := ih (j + 1) n (P_mk (P_sizes P) (P_shares P) (P_rowsOf P) (P_restOf P) (P_nextOf P) (upd (P_tableAt P) j (nI x)) (upd (P_wayAt P) j (nI (if 3 * (yrw ρ k s + yz ρ x) < yrw ρ k s * yz ρ x then 1 else 0))) (P_whole P) (nI (j + 1))) (s ||| 2 ^ x) (by omega) (by omega) (y_sub_or hs hb.1) ⟨hp.1, hp.2.1, hp.2.2⟩ hr rfl
      refine ⟨P', ?_, e2, e3, ?_, fun i hij => ?_⟩
      · rw [f_X3_followNext_L4, y_i127]
        unfold f_X3_followNext_J30
        simp (disch := omega) only [y_c0, y_c1, y_c10, y_c106, y_c128, y_c13, y_c14, y_c155, y_c2, y_c20, y_c204, y_c21, y_c253, y_c3, y_c353, y_c4, y_c40, y_c49, y_c57, y_c6, y_c7, y_c8, y_d0, y_d1, y_d10, y_d3, y_d7, y_dR, y_dS, y_dk, y_Ilt, y_Ile, y_Ieq, y_Iadd, y_Imul, y_Idiv, y_Llt, y_Lle, y_Leq, y_Ladd, y_Lmul, y_Ldiv, y_I2l, y_L2i, y_shn, y_or, y_and, y_bn1, y_bn0, y_inb, y_cl, y_gle, y_gge, y_ggt, y_glt, y_geq, if_pos, if_neg, if_true, if_false, Option.bind_some, f_X8_isIn, hnx, c1]
        exact e1
      · show PL P' j (x :: yP (yst1 ρ k) wh r (s ||| 2 ^ x)) _
        rw [yW]
        refine ⟨?_, fun i hil => ?_⟩
        · rw [e4.1, List.length_cons]; congr 1; omega
        · cases i with
          | zero =>
            obtain ⟨z1, z2⟩ := e5 j (by omega)
            refine ⟨z1.trans ?_, z2.trans ?_⟩
            · exact if_pos rfl
            · exact if_pos rfl
          | succ i =>
            have := e4.2 i (by rw [List.length_cons] at hil; omega)
            rw [show j + (i + 1) = j + 1 + i by omega]
            exact this
      · obtain ⟨z1, z2⟩ := e5 i (by omega)
        exact ⟨z1.trans (if_neg (by omega)), z2.trans (if_neg (by omega))⟩
