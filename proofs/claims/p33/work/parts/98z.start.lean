theorem st_nw : ∀ q ∈ NWM, (Cond.methodLinkNest q.1 q.2.1 q.2.2.1 q.2.2.2 : Cond) ∈ lw_tbl := by decide +kernel
theorem st_fl : (Cond.fieldLinkNest RX7 15 RX8 "FIRST_SETTING" "[I" RX8 : Cond) ∈ lw_tbl := by decide +kernel
theorem st_cas : ∀ q ∈ CAS, (Cond.castable q.1 q.2 : Cond) ∈ lw_tbl := by decide +kernel
theorem st_dec : ∀ y ∈ DEC, (Cond.declares y : Cond) ∈ lw_tbl := by decide +kernel
theorem st_str : ∀ q ∈ STR, (Cond.stringRef RX8 q.1 q.2 : Cond) ∈ lw_tbl := by decide +kernel
theorem st_lay : ∀ q ∈ STAT, (Cond.laysStatic RX8 q.1 "[I" : Cond) ∈ lw_tbl := by decide +kernel
theorem st_lay1 : (Cond.laysStatic Bundle.tN "UNASSIGNED_STACK" Bundle.steD : Cond) ∈ lw_tbl := by decide +kernel
theorem st_lay2 : (Cond.laysStatic Bundle.tN "SUPPRESSED_SENTINEL" Bundle.listD : Cond) ∈ lw_tbl := by decide +kernel
theorem st_ini : (Cond.initialized RX8 : Cond) ∈ lw_tbl ∧ (Cond.initialized Bundle.tN : Cond) ∈ lw_tbl := by decide +kernel
theorem st_nca : ∀ q ∈ NCA, (Cond.not (.castable q.1 q.2) : Cond) ∈ flatC (Cond.and given_1 narrow_1) := by decide +kernel
theorem st_ex : ∀ q ∈ STR, (Cond.exactly (.string RX8 q.1) "java/lang/String" : Cond) ∈ flatC (Cond.and given_1 narrow_1) := by decide +kernel
theorem st_ar : ∀ q ∈ STAT, (Cond.arrayOf (.static RX8 q.1 "[I") .int : Cond) ∈ flatC (Cond.and given_1 narrow_1) ∧ (Cond.exactly (.static RX8 q.1 "[I") "[I" : Cond) ∈ flatC (Cond.and given_1 narrow_1) ∧ (Cond.eq (.length (.static RX8 q.1 "[I")) (.int 3) : Cond) ∈ flatC (Cond.and given_1 narrow_1) ∧ ∀ j, j < 3 → (Cond.eq (.elem (.static RX8 q.1 "[I") (.int (Int32.ofNat j))) (.int (q.2.getD j 0)) : Cond) ∈ flatC (Cond.and given_1 narrow_1) := by decide +kernel
theorem st_rf : (Cond.isRef (.static Bundle.tN "UNASSIGNED_STACK" Bundle.steD) : Cond) ∈ flatC (Cond.and given_1 narrow_1) ∧ (Cond.isRef (.static Bundle.tN "SUPPRESSED_SENTINEL" Bundle.listD) : Cond) ∈ flatC (Cond.and given_1 narrow_1) := by decide +kernel
theorem st_sz {args : Array Value} {s : State} {t : Term} {a : Nat} {cell : Cell} (h : Term.eval args s none [] s t.length = some (.int 3)) (ht : Term.eval args s none [] s t = some (.ref a)) (hc : s.heap[a]? = some cell) : cell.slots.size = 3 := by
  obtain ⟨a', cell', h1, h2, h3⟩ := Term.length_spec h
  cases ht.symm.trans h1
  obtain ⟨hc', -, -, -⟩ := State.arrayAt?_spec h2
  cases hc.symm.trans hc'
  by_cases q : cell.slots.size < 2 ^ 31
  · have e := Value.int.inj h3
    have : nI 3 = nI cell.slots.size := e
    exact ((nI_eq (by omega) q).mp this).symm
  · exfalso
    have q' : ¬ cell.slots.size < 2147483648 := q
    simp [Term.eval, h1, h2, q'] at h
theorem st_stat {args : Array Value} {s : State} {n : String} {f : Nat → Int32} {A : Nat → Prop} (hA : ∀ a : Nat, a < s.heap.size → ¬ A a)
    (h1 : (Cond.laysStatic RX8 n "[I").before args s = true) (h2 : (Cond.initialized RX8).before args s = true) (h3 : (Cond.arrayOf (.static RX8 n "[I") .int).before args s = true) (h4 : (Cond.exactly (.static RX8 n "[I") "[I").before args s = true) (h5 : (Cond.eq (.length (.static RX8 n "[I")) (.int 3)).before args s = true) (h6 : ∀ j, j < 3 → (Cond.eq (.elem (.static RX8 n "[I") (.int (Int32.ofNat j))) (.int (f j))).before args s = true) :
    ∃ t, va_Z RX8 n "[I" (.ref t) A s s.heap ∧ sT t f A s s.heap := by
  have e5 := va_eqt h5
  obtain ⟨t, ht, cell, c1, c2, c3, c4, c5, c6, c7⟩ := va_Tof (N := 3) (f := fun j => .int (f j)) (by omega) h3 e5 (fun j hj => va_eqt (h6 j hj)) hA
  obtain ⟨a, c, cell', k, d1, d2, d3, d4, d5, d6, -⟩ := Cond.exactly_spec h4
  cases ht.symm.trans d1
  cases c1.symm.trans d3
  exact ⟨t, va_Zref h1 h2 ht hA, cell, c1, c2, c3, d5, by rw [d6]; exact d2, st_sz e5 ht c1, c6, c7⟩
theorem EN_st {s : State} {b : Nat} (hts : ∀ w ∈ lw_tbl, w.before #[Value.ref b] s = true) (hgv : (Jvm.Cond.and given_1 narrow_1).before #[Value.ref b] s = true) {A : Nat → Prop} (hA : ∀ a : Nat, a < s.heap.size → ¬ A a) : EN A s s.heap := by
  have hf := flat_of_before _ hgv
  refine ⟨fun q hq => va_Nw.of rfl (hts _ (st_nw q hq)), va_Nw.of rfl (hts _ st_fl), fun q hq => va_Nw.of rfl (hts _ (st_cas q hq)), fun q hq => va_Nc.of (hf _ (st_nca q hq)), fun y hy => va_Nw.of rfl (hts _ (st_dec y hy)), fun q hq => ?_, fun q hq => ?_, vx_Zqof (hts _ st_lay1) (hts _ st_ini.2) (hf _ st_rf.1) hA, vx_Zqof (hts _ st_lay2) (hts _ st_ini.2) (hf _ st_rf.2) hA⟩
  · obtain ⟨a, c, cell', k, d1, -⟩ := Cond.exactly_spec (hf _ (st_ex q hq))
    exact ⟨a, vk_R.of (hts _ (st_str q hq)) d1⟩
  · obtain ⟨a1, a2, a3, a4⟩ := st_ar q hq
    exact st_stat hA (hts _ (st_lay q hq)) (hts _ st_ini.1) (hf _ a1) (hf _ a2) (hf _ a3) (fun j hj => hf _ (a4 j hj))
theorem K_st {s : State} {b : Nat} (hts : ∀ w ∈ lw_tbl, w.before #[Value.ref b] s = true) (hqs : ∀ w ∈ TB, w.before #[Value.ref b] s = true) : ∃ (D : va_G) (dT : Nat → ClassId), va_K D vwCl (tyl dT) s := by
  obtain ⟨c0, i0, k0⟩ := u_known (C := RX0) (T := TX0) (N := 5) (n := 5) hqs inX0 (hts (.instantiable RX0 5) (by decide +kernel))
  obtain ⟨c1, i1, k1⟩ := u_known (C := RX1) (T := TX1) (N := 3) (n := 3) hqs inX1 (hts (.instantiable RX1 3) (by decide +kernel))
  obtain ⟨c2, i2, k2⟩ := u_known (C := RX2) (T := TX2) (N := 4) (n := 4) hqs inX2 (hts (.instantiable RX2 4) (by decide +kernel))
  obtain ⟨c3, i3, k3⟩ := u_known (C := RX3) (T := TX3) (N := 9) (n := 9) hqs inX3 (hts (.instantiable RX3 9) (by decide +kernel))
  obtain ⟨c4, i4, k4⟩ := u_known (C := RX5) (T := TX5) (N := 2) (n := 2) hqs inX5 (hts (.instantiable RX5 2) (by decide +kernel))
  obtain ⟨c5, i5, k5⟩ := u_known (C := RX6) (T := TX6) (N := 2) (n := 2) hqs inX6 (hts (.instantiable RX6 2) (by decide +kernel))
  obtain ⟨c6, i6, k6⟩ := u_known (C := RX7) (T := TX7) (N := 13) (n := 13) hqs inX7 (hts (.instantiable RX7 13) (by decide +kernel))
  obtain ⟨c7, i7, k7⟩ := u_known (C := RX8) (T := TX8) (N := 9) (n := 9) hqs inX8 (hts (.instantiable RX8 9) (by decide +kernel))
  obtain ⟨d0, ka0, cp0, a1, a2, a3⟩ := Cond.arrayClass_spec (hqs _ w_122)
  obtain ⟨d1, ka1, cp1, b1, b2, b3⟩ := Cond.arrayClass_spec (hqs _ w_181)
  obtain ⟨d2, ka2, cp2, e1, e2, e3⟩ := Cond.arrayClass_spec (hqs _ w_72)
  obtain ⟨d3, ka3, cp3, f1, f2, f3⟩ := Cond.arrayClass_spec (hqs _ w_216)
  obtain ⟨cp4, d4, ka4, g1, -, g2, g3, g4⟩ := Cond.arrayOver_spec (hts (.arrayOver (.object "SurprisedPlans$World")) (by decide +kernel))
  refine ⟨(fun k => if k = 0 then c0 else if k = 1 then c1 else if k = 2 then c2 else if k = 3 then c3 else if k = 4 then c4 else if k = 5 then c5 else if k = 6 then c6 else c7, fun k => if k = 0 then i0 else if k = 1 then i1 else if k = 2 then i2 else if k = 3 then i3 else if k = 4 then i4 else if k = 5 then i5 else if k = 6 then i6 else i7), fun k => if k = 0 then d0 else if k = 1 then d1 else if k = 2 then d2 else if k = 3 then d3 else d4, ?_, ?_⟩
  · intro k q hq
    match k, hq with
    | 0, hq => cases hq; exact k0
    | 1, hq => cases hq; exact k1
    | 2, hq => cases hq; exact k2
    | 3, hq => cases hq; exact k3
    | 4, hq => cases hq; exact k4
    | 5, hq => cases hq; exact k5
    | 6, hq => cases hq; exact k6
    | 7, hq => cases hq; exact k7
    | k + 8, hq => simp [vwCl] at hq
  · intro k q hq
    match k, hq with
    | 0, hq => cases hq; exact ⟨fun n z => ⟨(fun k h => by cases h), ka0, a2, cp0, a3⟩, a1⟩
    | 1, hq => cases hq; exact ⟨fun n z => ⟨(fun k h => by cases h), ka1, b2, cp1, b3⟩, b1⟩
    | 2, hq => cases hq; exact ⟨fun n z => ⟨(fun k h => by cases h), ka2, e2, cp2, e3⟩, e1⟩
    | 3, hq => cases hq; exact ⟨fun n z => ⟨(fun k h => by cases h), ka3, f2, cp3, f3⟩, f1⟩
    | 4, hq => cases hq; exact ⟨fun n z => ⟨(fun k h => by cases h), ka4, g2, cp4, g3⟩, ka4, cp4, g2, g3, g1, g4⟩
    | k + 5, hq => simp [tyl] at hq
theorem AO_st {s : State} {b : Nat} (hts : ∀ w ∈ lw_tbl, w.before #[Value.ref b] s = true) : va_AO "SurprisedPlans$World" s := va_AO.of (hts (.arrayOver (.object "SurprisedPlans$World")) (by decide +kernel))
theorem TWm {w : Cond} (h : w ∈ lw_tbl) (g : goodWord w = true) : w ∈ TB := List.mem_filter.mpr ⟨h, g⟩
theorem st_w1 : (Cond.classLink RL 8 RX8 : Cond) ∈ lw_tbl ∧ (Cond.instantiable RX8 9 : Cond) ∈ lw_tbl ∧ (Cond.initialized RX8 : Cond) ∈ lw_tbl := by decide +kernel
theorem st_w3 : (Cond.methodLink RL 225 yX8_init : Cond) ∈ TB ∧ (Cond.instanceMethod yX8_init : Cond) ∈ TB ∧ (Cond.code yX8_init cX8_init 1 none : Cond) ∈ TB := ⟨TWm (by decide +kernel) (by decide +kernel), TWm (by decide +kernel) (by decide +kernel), TWm (by decide +kernel) (by decide +kernel)⟩
theorem st_pw (p0 p1 p2 p3 p4 p5 p6 p7 p8 p9 o0 o1 o2 o3 o4 o5 o6 o7 o8 o9 : va_W) : (wjoin [p0, p1, p2, p3, p4, p5, p6, p7, p8, p9] ++ wjoin [o0, o1, o2, o3, o4, o5, o6, o7, o8, o9]).Perm (o0 ++ (o1 ++ (o2 ++ (o3 ++ (o4 ++ (o5 ++ (o6 ++ (o7 ++ (p0 ++ (p1 ++ (p2 ++ (p3 ++ (p4 ++ (p5 ++ (p6 ++ (p7 ++ (o8 ++ (o9 ++ (p8 ++ (p9)))))))))))))))))))) := by
  have h := wj_re [p0, p1, p2, p3, p4, p5, p6, p7, p8, p9, o0, o1, o2, o3, o4, o5, o6, o7, o8, o9] [10, 11, 12, 13, 14, 15, 16, 17, 0, 1, 2, 3, 4, 5, 6, 7, 18, 19, 8, 9] (show List.isPerm [10, 11, 12, 13, 14, 15, 16, 17, 0, 1, 2, 3, 4, 5, 6, 7, 18, 19, 8, 9] (List.range 20) = true by decide +kernel)
  have e : wjoin [p0, p1, p2, p3, p4, p5, p6, p7, p8, p9] ++ wjoin [o0, o1, o2, o3, o4, o5, o6, o7, o8, o9] = wjoin [p0, p1, p2, p3, p4, p5, p6, p7, p8, p9, o0, o1, o2, o3, o4, o5, o6, o7, o8, o9] := by
    simp only [wjoin, List.append_assoc]
  rw [e]
  exact h
theorem st_lt {l : Launch} (h : l.flags = flags0) : l.stackTraces = false := by
  simp [Launch.stackTraces, h, flags0]
def W00 : TW := W_mk 0 0 0 0 (fun _ => 0) (fun j => ([50, 10, 4] : List Int32).getD j 0) (fun _ => 0) (fun _ => 0) (fun _ => 0) (fun _ => 0) (fun _ => 0) (fun _ => 0) (fun _ => 0)
theorem st_WR : WRf W00 y0 (fun _ => 0) := by
  refine ⟨⟨?_, ?_, ?_⟩, ?_, ?_, ?_, ?_, ?_, ?_, ?_, ?_⟩
  · rfl
  · intro t ht; rw [y0_z (by omega)] at ht; omega
  · intro c hc
    have := yq_lt c hc
    rw [y0_z (by omega), y0_z (by omega), y0_z (by omega)]
    exact ⟨rfl, rfl, rfl⟩
  · rfl
  · rfl
  · rfl
  · intro i hi; rfl
  · intro i hi
    have q : i = 0 ∨ i = 1 ∨ i = 2 := by omega
    rcases q with q | q | q <;> subst q <;> rfl
  · intro c hc hm
    have := yq_lt c hc
    rw [y0_z (by omega)] at hm; omega
  · intro c hc
    have := yq_lt c hc
    rw [y0_z (by omega)]
    rfl
  · intro k _ hk; rw [y0_z (by omega)] at hk; omega
theorem st_IV : IV 0 (y0, fun _ => 0) := by
  refine ⟨fun c hc hm => ?_, fun a b ha hb _ => ?_, ?_, 0, 0, 0, 0, rfl, rfl, rfl, rfl, Nat.le_refl _, Nat.le_refl _, Nat.zero_le _, Nat.zero_le _⟩
  · have := yq_lt c hc
    have hm : 0 < y0 (155 + yq c) := hm
    rw [y0_z (by omega)] at hm; omega
  · exact y0_z (by omega)
  · exact Nat.le_of_eq (show y0 306 = 0 from y0_z (by omega))
def k00 : CO := ((y0, fun _ => 0), [], fun _ => none, 0, fun _ => 0)
theorem st_GG (e : TE) (cp : TW) (p1 p2 : TP) : GG 0 0 (T_mk 0 (fun _ => 0), e, W00, cp, p1, p2, H_mk 0 0 (fun _ => W00), S_mk (fun _ => 0) (fun _ => W00)) k00 := by
  refine ⟨⟨rfl, Nat.zero_le _, fun k hk => absurd hk (Nat.not_lt_zero _)⟩, ⟨st_WR, INf0 0, st_IV⟩, ⟨0, rfl, Nat.zero_le _, rfl, by omega, fun i hi => absurd hi (Nat.not_lt_zero _)⟩, fun s hs => ⟨rfl, fun q e => nomatch e⟩⟩
theorem st_law {xs : Nat → Int32} {L : Nat} (hL : L ≤ 260) (e : TE) (pr : TR) (cp : TW) (p1 p2 : TP) (e2 : TE) (pr2 : TR) (cp2 : TW) (p3 p4 : TP) :
    f_law_L21 xs L 29 1 0 (T_mk 0 (fun _ => 0)) e pr W00 cp p1 p2 (T_mk 0 (fun _ => 0)) e2 pr2 W00 cp2 p3 p4 (H_mk 0 0 (fun _ => W00)) (S_mk (fun _ => 0) (fun _ => W00)) (H_mk 0 0 (fun _ => W00)) (S_mk (fun _ => 0) (fun _ => W00)) = some () := by
  have h := y_law (xs := xs) hL 28 29 0 0 0 k00 (by omega) (by omega) (by omega) (by omega) (T_mk 0 (fun _ => 0), e, W00, cp, p1, p2, H_mk 0 0 (fun _ => W00), S_mk (fun _ => 0) (fun _ => W00)) (T_mk 0 (fun _ => 0), e2, W00, cp2, p3, p4, H_mk 0 0 (fun _ => W00), S_mk (fun _ => 0) (fun _ => W00)) pr pr2 (st_GG e cp p1 p2) (st_GG e2 cp2 p3 p4)
  dsimp only at h
  rw [show nI 0 = (0 : Int32) from rfl] at h
  exact h
set_option maxHeartbeats 4000000 in
set_option maxRecDepth 100000 in
theorem whole_start {p : Program} {e : Env} {s : State} {m : MethodId} {below : List Frame} {meth : Method} {c : Code} (l : Launch) (hflags : l.flags = flags0) {b L : Nat} {xs : Nat → Int32} (hL : L ≤ 260) (C0 : lw_At p s m meth c b L xs) : W p l e room_1 s m #[Value.ref b] below meth c s.heap [] 0 0 (lw_Z below #[Value.ref b] s) (entryFrame m ([Value.ref b] : List Value).toArray 10) := by
  obtain ⟨hx, hb, hr, hml, hown, htw, hX, hbl, hlk, hgv⟩ := id C0
  have hlt : l.stackTraces = false := st_lt hflags
  have hqs : ∀ w ∈ TB, w.before #[Value.ref b] s = true := fun w hw => htw w (List.mem_filter.mp hw).1
  have hts : ∀ w ∈ Cond.initialized RL :: TB, w.before #[Value.ref b] s = true := fun w hw => (List.mem_cons.mp hw).elim (fun e1 => by rw [e1]; exact hqs _ w_32) (hqs w)
  obtain ⟨A, hA, hA2, hA3⟩ : ∃ A : Nat → Prop, (∀ q : Nat, s.heap.size ≤ q → A q) ∧ (∀ q : Nat, A q → s.heap.size ≤ q) ∧ (va_S A s.heap s.heap []) := ⟨fun q => s.heap.size ≤ q, fun _ h => h, fun _ h => h, va_S.rf⟩
  have hA4 : ∀ a : Nat, a < s.heap.size → ¬ A a := fun a h1 h2 => absurd (hA2 a h2) (Nat.not_le.mpr h1)
  have hbA : ¬ A b := hA4 b hbl
  have hE : EN A s s.heap := EN_st htw hgv hA4
  obtain ⟨D, dT, hK⟩ := K_st htw hqs
  have hov := AO_st htw
  have hS : va_S A s.heap s.heap [] := hA3
  have hP : va_P D vwCl [] s.heap := fun k q h => by simp at h
  have hD : va_D A [] := ⟨fun i j p q h => by simp at h, fun k q h => by simp at h⟩
  have hl := lv_entry ([.ref b]) (n := 10) (Nat.le_of_ble_eq_true rfl)
  rw [lg_entry_eq]
  generalize (lg_sl ([.ref b]) ++ List.replicate (10 - (lg_sl ([.ref b])).length) Slot.unset).toArray = ls at hl ⊢
  have hl : lv_has ls 10 [(0, .ref b)] := hl
  refine va_new (ci := 7) (fs := [.null, .null, .null, .null, .null, .null, .null, .null, .null]) (C := RX8) (T := TX8) (N := 9) hx hb hqs inX8 tyX8 tyX8_ok hown (htw _ st_w1.1) (htw _ st_w1.2.1) (htw _ st_w1.2.2) hK hP hD hS hA rfl (fun j hj => by rcases (show j = 0 ∨ j = 1 ∨ j = 2 ∨ j = 3 ∨ j = 4 ∨ j = 5 ∨ j = 6 ∨ j = 7 ∨ j = 8 by omega) with rfl | rfl | rfl | rfl | rfl | rfl | rfl | rfl | rfl <;> rfl) (Nat.le_of_ble_eq_true rfl) (Nat.le_of_ble_eq_true rfl) dL_law_0 (fun q1 H hP hD hS => ?_)
  have hP : va_P D vwCl [(q1, .inr (7, [.null, .null, .null, .null, .null, .null, .null, .null, .null]))] H := hP
  have hD : va_D A [(q1, .inr (7, [.null, .null, .null, .null, .null, .null, .null, .null, .null]))] := hD
  refine lv_dup hx hb dL_law_3 rfl ?_
  have hFc := va_free (wc := [(q1, .inr (7, [.null, .null, .null, .null, .null, .null, .null, .null, .null]))]) hD hS hA [0] rfl
  refine cl_vL (wr := []) (va_runI (As := []) (rest := [.ref q1]) ⟨hx, hb, hml, hown, hts⟩ (c_X8_init l hlt D dT q1 _) (cwI 0 hts (TB_in (WSm_in st_w3.2.2)) rfl rfl rfl (hqs _ w_33) (hqs _ st_w3.1) (hqs _ st_w3.2.1) rfl (by decide +kernel) ⟨Nat.le_of_ble_eq_true rfl, Nat.le_of_ble_eq_true rfl⟩) (cPre.SA hP hD hK hE hS hFc hov) rfl rfl hl.1 rfl (lv_room (Nat.le_of_ble_eq_true rfl)) dL_law_4 ⟨Nat.le_of_ble_eq_true rfl, Nat.le_of_ble_eq_true rfl⟩) hP hD hS hFc (fun u H locs hw hP hD hS => ?_)
  clear hFc
  have hq : u 0 0 = q1 := hw
  refine lv_astore_n (lv' := [(1, .ref (u 0 0)), (0, .ref b)]) hx hb dL_law_7 rfl hl (by decide) (by rw [hq]; rfl) (fun ls hl => ?_)
  clear hw hq
  obtain ⟨W0, hW0⟩ : ∃ W0, W0 = wjoin [cSP u, cT dT (u 1) (T_mk 0 (fun _ => 0)), cE dT (u 2) (E_mk 0 0 0 0 0), cR dT (u 3) (R_mk 0 0 0 (fun _ => 0)), cW dT (u 4) (W_mk 0 0 0 0 (fun _ => 0) (fun j => ([50, 10, 4] : List Int32).getD j 0) (fun _ => 0) (fun _ => 0) (fun _ => 0) (fun _ => 0) (fun _ => 0) (fun _ => 0) (fun _ => 0)), cW dT (u 5) (W_mk 0 0 0 0 (fun _ => 0) (fun j => ([50, 10, 4] : List Int32).getD j 0) (fun _ => 0) (fun _ => 0) (fun _ => 0) (fun _ => 0) (fun _ => 0) (fun _ => 0) (fun _ => 0)), cP dT (u 8) (P_mk (fun _ => 0) (fun _ => 0) (fun _ => 0) (fun _ => 0) (fun _ => 0) (fun _ => 0) (fun _ => 0) 0 0), cP dT (u 9) (P_mk (fun _ => 0) (fun _ => 0) (fun _ => 0) (fun _ => 0) (fun _ => 0) (fun _ => 0) (fun _ => 0) 0 0), cH dT (u 6) (H_mk 0 0 (fun _ => (W_mk 0 0 0 0 (fun _ => 0) (fun j => ([50, 10, 4] : List Int32).getD j 0) (fun _ => 0) (fun _ => 0) (fun _ => 0) (fun _ => 0) (fun _ => 0) (fun _ => 0) (fun _ => 0)))), cS dT (u 7) (S_mk (fun _ => 0) (fun _ => (W_mk 0 0 0 0 (fun _ => 0) (fun j => ([50, 10, 4] : List Int32).getD j 0) (fun _ => 0) (fun _ => 0) (fun _ => 0) (fun _ => 0) (fun _ => 0) (fun _ => 0) (fun _ => 0))))] := ⟨_, rfl⟩
  have hP : va_P D vwCl W0 H := by
    rw [hW0]; simpa using hP
  have hD : va_D A W0 := by
    rw [hW0]; simpa using hD
  refine W.widen (k := 300) (n := 5000) (Nat.le_of_ble_eq_true rfl) (Nat.le_of_ble_eq_true rfl) ?_
  refine va_new (ci := 7) (fs := [.null, .null, .null, .null, .null, .null, .null, .null, .null]) (C := RX8) (T := TX8) (N := 9) hx hb hqs inX8 tyX8 tyX8_ok hown (htw _ st_w1.1) (htw _ st_w1.2.1) (htw _ st_w1.2.2) hK hP hD hS hA rfl (fun j hj => by rcases (show j = 0 ∨ j = 1 ∨ j = 2 ∨ j = 3 ∨ j = 4 ∨ j = 5 ∨ j = 6 ∨ j = 7 ∨ j = 8 by omega) with rfl | rfl | rfl | rfl | rfl | rfl | rfl | rfl | rfl <;> rfl) (Nat.le_of_ble_eq_true rfl) (Nat.le_of_ble_eq_true rfl) dL_law_8 (fun q2 H hP hD hS => ?_)
  have hP := hP.perm List.perm_append_comm
  have hD := hD.perm List.perm_append_comm
  refine lv_dup hx hb dL_law_11 rfl ?_
  have hPc := va_P.left hP
  have hDc := va_D.left hD
  have hFc := va_freeL hD hS hA
  refine cl_vL (wr := W0) (va_runI (As := []) (rest := [.ref q2]) ⟨hx, hb, hml, hown, hts⟩ (c_X8_init l hlt D dT q2 _) (cwI 0 hts (TB_in (WSm_in st_w3.2.2)) rfl rfl rfl (hqs _ w_33) (hqs _ st_w3.1) (hqs _ st_w3.2.1) rfl (by decide +kernel) ⟨Nat.le_of_ble_eq_true rfl, Nat.le_of_ble_eq_true rfl⟩) (cPre.SA hPc hDc hK hE hS hFc hov) rfl rfl hl.1 rfl (lv_room (Nat.le_of_ble_eq_true rfl)) dL_law_12 ⟨Nat.le_of_ble_eq_true rfl, Nat.le_of_ble_eq_true rfl⟩) hP hD hS hFc (fun v H locs hw hP hD hS => ?_)
  clear hFc
  have hq : v 0 0 = q2 := hw
  refine lv_astore_n (lv' := [(2, .ref (v 0 0)), (1, .ref (u 0 0)), (0, .ref b)]) hx hb dL_law_15 rfl hl (by decide) (by rw [hq]; rfl) (fun ls hl => ?_)
  refine lv_iconst (v := 1) hx hb dL_law_16 (by decide) ?_
  refine lv_istore_n (lv' := [(3, .int 1), (2, .ref (v 0 0)), (1, .ref (u 0 0)), (0, .ref b)]) hx hb dL_law_17 rfl hl (by decide) rfl (fun ls hl => ?_)
  refine lv_iconst (v := 0) hx hb dL_law_18 (by decide) ?_
  refine lv_istore (lv' := [(4, .int 0), (3, .int 1), (2, .ref (v 0 0)), (1, .ref (u 0 0)), (0, .ref b)]) hx hb dL_law_19 hl (by decide) rfl (fun ls hl => ?_)
  rw [hW0] at hP hD
  have hP : va_P D vwCl (cSP u ++ (cT dT (u 1) (T_mk 0 (fun _ => 0)) ++ (cE dT (u 2) (E_mk 0 0 0 0 0) ++ (cR dT (u 3) (R_mk 0 0 0 (fun _ => 0)) ++ (cW dT (u 4) (W_mk 0 0 0 0 (fun _ => 0) (fun j => ([50, 10, 4] : List Int32).getD j 0) (fun _ => 0) (fun _ => 0) (fun _ => 0) (fun _ => 0) (fun _ => 0) (fun _ => 0) (fun _ => 0)) ++ (cW dT (u 5) (W_mk 0 0 0 0 (fun _ => 0) (fun j => ([50, 10, 4] : List Int32).getD j 0) (fun _ => 0) (fun _ => 0) (fun _ => 0) (fun _ => 0) (fun _ => 0) (fun _ => 0) (fun _ => 0)) ++ (cP dT (u 8) (P_mk (fun _ => 0) (fun _ => 0) (fun _ => 0) (fun _ => 0) (fun _ => 0) (fun _ => 0) (fun _ => 0) 0 0) ++ (cP dT (u 9) (P_mk (fun _ => 0) (fun _ => 0) (fun _ => 0) (fun _ => 0) (fun _ => 0) (fun _ => 0) (fun _ => 0) 0 0) ++ (cSP v ++ (cT dT (v 1) (T_mk 0 (fun _ => 0)) ++ (cE dT (v 2) (E_mk 0 0 0 0 0) ++ (cR dT (v 3) (R_mk 0 0 0 (fun _ => 0)) ++ (cW dT (v 4) (W_mk 0 0 0 0 (fun _ => 0) (fun j => ([50, 10, 4] : List Int32).getD j 0) (fun _ => 0) (fun _ => 0) (fun _ => 0) (fun _ => 0) (fun _ => 0) (fun _ => 0) (fun _ => 0)) ++ (cW dT (v 5) (W_mk 0 0 0 0 (fun _ => 0) (fun j => ([50, 10, 4] : List Int32).getD j 0) (fun _ => 0) (fun _ => 0) (fun _ => 0) (fun _ => 0) (fun _ => 0) (fun _ => 0) (fun _ => 0)) ++ (cP dT (v 8) (P_mk (fun _ => 0) (fun _ => 0) (fun _ => 0) (fun _ => 0) (fun _ => 0) (fun _ => 0) (fun _ => 0) 0 0) ++ (cP dT (v 9) (P_mk (fun _ => 0) (fun _ => 0) (fun _ => 0) (fun _ => 0) (fun _ => 0) (fun _ => 0) (fun _ => 0) 0 0) ++ (cH dT (u 6) (H_mk 0 0 (fun _ => (W_mk 0 0 0 0 (fun _ => 0) (fun j => ([50, 10, 4] : List Int32).getD j 0) (fun _ => 0) (fun _ => 0) (fun _ => 0) (fun _ => 0) (fun _ => 0) (fun _ => 0) (fun _ => 0)))) ++ (cS dT (u 7) (S_mk (fun _ => 0) (fun _ => (W_mk 0 0 0 0 (fun _ => 0) (fun j => ([50, 10, 4] : List Int32).getD j 0) (fun _ => 0) (fun _ => 0) (fun _ => 0) (fun _ => 0) (fun _ => 0) (fun _ => 0) (fun _ => 0)))) ++ (cH dT (v 6) (H_mk 0 0 (fun _ => (W_mk 0 0 0 0 (fun _ => 0) (fun j => ([50, 10, 4] : List Int32).getD j 0) (fun _ => 0) (fun _ => 0) (fun _ => 0) (fun _ => 0) (fun _ => 0) (fun _ => 0) (fun _ => 0)))) ++ (cS dT (v 7) (S_mk (fun _ => 0) (fun _ => (W_mk 0 0 0 0 (fun _ => 0) (fun j => ([50, 10, 4] : List Int32).getD j 0) (fun _ => 0) (fun _ => 0) (fun _ => 0) (fun _ => 0) (fun _ => 0) (fun _ => 0) (fun _ => 0)))))))))))))))))))))))) H := hP.perm (st_pw (cSP v) (cT dT (v 1) (T_mk 0 (fun _ => 0))) (cE dT (v 2) (E_mk 0 0 0 0 0)) (cR dT (v 3) (R_mk 0 0 0 (fun _ => 0))) (cW dT (v 4) (W_mk 0 0 0 0 (fun _ => 0) (fun j => ([50, 10, 4] : List Int32).getD j 0) (fun _ => 0) (fun _ => 0) (fun _ => 0) (fun _ => 0) (fun _ => 0) (fun _ => 0) (fun _ => 0))) (cW dT (v 5) (W_mk 0 0 0 0 (fun _ => 0) (fun j => ([50, 10, 4] : List Int32).getD j 0) (fun _ => 0) (fun _ => 0) (fun _ => 0) (fun _ => 0) (fun _ => 0) (fun _ => 0) (fun _ => 0))) (cP dT (v 8) (P_mk (fun _ => 0) (fun _ => 0) (fun _ => 0) (fun _ => 0) (fun _ => 0) (fun _ => 0) (fun _ => 0) 0 0)) (cP dT (v 9) (P_mk (fun _ => 0) (fun _ => 0) (fun _ => 0) (fun _ => 0) (fun _ => 0) (fun _ => 0) (fun _ => 0) 0 0)) (cH dT (v 6) (H_mk 0 0 (fun _ => (W_mk 0 0 0 0 (fun _ => 0) (fun j => ([50, 10, 4] : List Int32).getD j 0) (fun _ => 0) (fun _ => 0) (fun _ => 0) (fun _ => 0) (fun _ => 0) (fun _ => 0) (fun _ => 0))))) (cS dT (v 7) (S_mk (fun _ => 0) (fun _ => (W_mk 0 0 0 0 (fun _ => 0) (fun j => ([50, 10, 4] : List Int32).getD j 0) (fun _ => 0) (fun _ => 0) (fun _ => 0) (fun _ => 0) (fun _ => 0) (fun _ => 0) (fun _ => 0))))) (cSP u) (cT dT (u 1) (T_mk 0 (fun _ => 0))) (cE dT (u 2) (E_mk 0 0 0 0 0)) (cR dT (u 3) (R_mk 0 0 0 (fun _ => 0))) (cW dT (u 4) (W_mk 0 0 0 0 (fun _ => 0) (fun j => ([50, 10, 4] : List Int32).getD j 0) (fun _ => 0) (fun _ => 0) (fun _ => 0) (fun _ => 0) (fun _ => 0) (fun _ => 0) (fun _ => 0))) (cW dT (u 5) (W_mk 0 0 0 0 (fun _ => 0) (fun j => ([50, 10, 4] : List Int32).getD j 0) (fun _ => 0) (fun _ => 0) (fun _ => 0) (fun _ => 0) (fun _ => 0) (fun _ => 0) (fun _ => 0))) (cP dT (u 8) (P_mk (fun _ => 0) (fun _ => 0) (fun _ => 0) (fun _ => 0) (fun _ => 0) (fun _ => 0) (fun _ => 0) 0 0)) (cP dT (u 9) (P_mk (fun _ => 0) (fun _ => 0) (fun _ => 0) (fun _ => 0) (fun _ => 0) (fun _ => 0) (fun _ => 0) 0 0)) (cH dT (u 6) (H_mk 0 0 (fun _ => (W_mk 0 0 0 0 (fun _ => 0) (fun j => ([50, 10, 4] : List Int32).getD j 0) (fun _ => 0) (fun _ => 0) (fun _ => 0) (fun _ => 0) (fun _ => 0) (fun _ => 0) (fun _ => 0))))) (cS dT (u 7) (S_mk (fun _ => 0) (fun _ => (W_mk 0 0 0 0 (fun _ => 0) (fun j => ([50, 10, 4] : List Int32).getD j 0) (fun _ => 0) (fun _ => 0) (fun _ => 0) (fun _ => 0) (fun _ => 0) (fun _ => 0) (fun _ => 0))))))
  have hD : va_D A (cSP u ++ (cT dT (u 1) (T_mk 0 (fun _ => 0)) ++ (cE dT (u 2) (E_mk 0 0 0 0 0) ++ (cR dT (u 3) (R_mk 0 0 0 (fun _ => 0)) ++ (cW dT (u 4) (W_mk 0 0 0 0 (fun _ => 0) (fun j => ([50, 10, 4] : List Int32).getD j 0) (fun _ => 0) (fun _ => 0) (fun _ => 0) (fun _ => 0) (fun _ => 0) (fun _ => 0) (fun _ => 0)) ++ (cW dT (u 5) (W_mk 0 0 0 0 (fun _ => 0) (fun j => ([50, 10, 4] : List Int32).getD j 0) (fun _ => 0) (fun _ => 0) (fun _ => 0) (fun _ => 0) (fun _ => 0) (fun _ => 0) (fun _ => 0)) ++ (cP dT (u 8) (P_mk (fun _ => 0) (fun _ => 0) (fun _ => 0) (fun _ => 0) (fun _ => 0) (fun _ => 0) (fun _ => 0) 0 0) ++ (cP dT (u 9) (P_mk (fun _ => 0) (fun _ => 0) (fun _ => 0) (fun _ => 0) (fun _ => 0) (fun _ => 0) (fun _ => 0) 0 0) ++ (cSP v ++ (cT dT (v 1) (T_mk 0 (fun _ => 0)) ++ (cE dT (v 2) (E_mk 0 0 0 0 0) ++ (cR dT (v 3) (R_mk 0 0 0 (fun _ => 0)) ++ (cW dT (v 4) (W_mk 0 0 0 0 (fun _ => 0) (fun j => ([50, 10, 4] : List Int32).getD j 0) (fun _ => 0) (fun _ => 0) (fun _ => 0) (fun _ => 0) (fun _ => 0) (fun _ => 0) (fun _ => 0)) ++ (cW dT (v 5) (W_mk 0 0 0 0 (fun _ => 0) (fun j => ([50, 10, 4] : List Int32).getD j 0) (fun _ => 0) (fun _ => 0) (fun _ => 0) (fun _ => 0) (fun _ => 0) (fun _ => 0) (fun _ => 0)) ++ (cP dT (v 8) (P_mk (fun _ => 0) (fun _ => 0) (fun _ => 0) (fun _ => 0) (fun _ => 0) (fun _ => 0) (fun _ => 0) 0 0) ++ (cP dT (v 9) (P_mk (fun _ => 0) (fun _ => 0) (fun _ => 0) (fun _ => 0) (fun _ => 0) (fun _ => 0) (fun _ => 0) 0 0) ++ (cH dT (u 6) (H_mk 0 0 (fun _ => (W_mk 0 0 0 0 (fun _ => 0) (fun j => ([50, 10, 4] : List Int32).getD j 0) (fun _ => 0) (fun _ => 0) (fun _ => 0) (fun _ => 0) (fun _ => 0) (fun _ => 0) (fun _ => 0)))) ++ (cS dT (u 7) (S_mk (fun _ => 0) (fun _ => (W_mk 0 0 0 0 (fun _ => 0) (fun j => ([50, 10, 4] : List Int32).getD j 0) (fun _ => 0) (fun _ => 0) (fun _ => 0) (fun _ => 0) (fun _ => 0) (fun _ => 0) (fun _ => 0)))) ++ (cH dT (v 6) (H_mk 0 0 (fun _ => (W_mk 0 0 0 0 (fun _ => 0) (fun j => ([50, 10, 4] : List Int32).getD j 0) (fun _ => 0) (fun _ => 0) (fun _ => 0) (fun _ => 0) (fun _ => 0) (fun _ => 0) (fun _ => 0)))) ++ (cS dT (v 7) (S_mk (fun _ => 0) (fun _ => (W_mk 0 0 0 0 (fun _ => 0) (fun j => ([50, 10, 4] : List Int32).getD j 0) (fun _ => 0) (fun _ => 0) (fun _ => 0) (fun _ => 0) (fun _ => 0) (fun _ => 0) (fun _ => 0)))))))))))))))))))))))) := hD.perm (st_pw (cSP v) (cT dT (v 1) (T_mk 0 (fun _ => 0))) (cE dT (v 2) (E_mk 0 0 0 0 0)) (cR dT (v 3) (R_mk 0 0 0 (fun _ => 0))) (cW dT (v 4) (W_mk 0 0 0 0 (fun _ => 0) (fun j => ([50, 10, 4] : List Int32).getD j 0) (fun _ => 0) (fun _ => 0) (fun _ => 0) (fun _ => 0) (fun _ => 0) (fun _ => 0) (fun _ => 0))) (cW dT (v 5) (W_mk 0 0 0 0 (fun _ => 0) (fun j => ([50, 10, 4] : List Int32).getD j 0) (fun _ => 0) (fun _ => 0) (fun _ => 0) (fun _ => 0) (fun _ => 0) (fun _ => 0) (fun _ => 0))) (cP dT (v 8) (P_mk (fun _ => 0) (fun _ => 0) (fun _ => 0) (fun _ => 0) (fun _ => 0) (fun _ => 0) (fun _ => 0) 0 0)) (cP dT (v 9) (P_mk (fun _ => 0) (fun _ => 0) (fun _ => 0) (fun _ => 0) (fun _ => 0) (fun _ => 0) (fun _ => 0) 0 0)) (cH dT (v 6) (H_mk 0 0 (fun _ => (W_mk 0 0 0 0 (fun _ => 0) (fun j => ([50, 10, 4] : List Int32).getD j 0) (fun _ => 0) (fun _ => 0) (fun _ => 0) (fun _ => 0) (fun _ => 0) (fun _ => 0) (fun _ => 0))))) (cS dT (v 7) (S_mk (fun _ => 0) (fun _ => (W_mk 0 0 0 0 (fun _ => 0) (fun j => ([50, 10, 4] : List Int32).getD j 0) (fun _ => 0) (fun _ => 0) (fun _ => 0) (fun _ => 0) (fun _ => 0) (fun _ => 0) (fun _ => 0))))) (cSP u) (cT dT (u 1) (T_mk 0 (fun _ => 0))) (cE dT (u 2) (E_mk 0 0 0 0 0)) (cR dT (u 3) (R_mk 0 0 0 (fun _ => 0))) (cW dT (u 4) (W_mk 0 0 0 0 (fun _ => 0) (fun j => ([50, 10, 4] : List Int32).getD j 0) (fun _ => 0) (fun _ => 0) (fun _ => 0) (fun _ => 0) (fun _ => 0) (fun _ => 0) (fun _ => 0))) (cW dT (u 5) (W_mk 0 0 0 0 (fun _ => 0) (fun j => ([50, 10, 4] : List Int32).getD j 0) (fun _ => 0) (fun _ => 0) (fun _ => 0) (fun _ => 0) (fun _ => 0) (fun _ => 0) (fun _ => 0))) (cP dT (u 8) (P_mk (fun _ => 0) (fun _ => 0) (fun _ => 0) (fun _ => 0) (fun _ => 0) (fun _ => 0) (fun _ => 0) 0 0)) (cP dT (u 9) (P_mk (fun _ => 0) (fun _ => 0) (fun _ => 0) (fun _ => 0) (fun _ => 0) (fun _ => 0) (fun _ => 0) 0 0)) (cH dT (u 6) (H_mk 0 0 (fun _ => (W_mk 0 0 0 0 (fun _ => 0) (fun j => ([50, 10, 4] : List Int32).getD j 0) (fun _ => 0) (fun _ => 0) (fun _ => 0) (fun _ => 0) (fun _ => 0) (fun _ => 0) (fun _ => 0))))) (cS dT (u 7) (S_mk (fun _ => 0) (fun _ => (W_mk 0 0 0 0 (fun _ => 0) (fun j => ([50, 10, 4] : List Int32).getD j 0) (fun _ => 0) (fun _ => 0) (fun _ => 0) (fun _ => 0) (fun _ => 0) (fun _ => 0) (fun _ => 0))))))
  refine W.widen (k := 700) (n := 12000) (Nat.le_of_ble_eq_true rfl) (Nat.le_of_ble_eq_true rfl) ?_
  exact c_law_L21 hlt hx hb hr hlk hml hown hqs hts hE hA hA2 hK hX hbl hbA u v 29 700 12000 (Nat.le_of_ble_eq_true rfl) (Nat.le_of_ble_eq_true rfl) 1 0 _ _ _ _ _ _ _ _ _ _ _ _ _ _ _ _ _ _ H locs ls (st_law hL _ _ _ _ _ _ _ _ _ _) hP hD hS (lv_sub hl [4, 3, 2, 1, 0] rfl)

