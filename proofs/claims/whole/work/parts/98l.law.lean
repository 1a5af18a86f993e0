def GS (N : Nat) (T : TT) (w : TW) (H : TH) (S : TS) (M : TM) (mt : Nat → Int32) (now dia kept : Nat → Int64) (isK : Nat → Int32) : Prop := (∃ L c, TXR T M mt L c) ∧ GW N w H M now dia ∧ SL N S kept isK
theorem GS.sm {N : Nat} {T : TT} {w : TW} {H : TH} {S : TS} {M M' : TM} {mt : Nat → Int32} {now dia kept : Nat → Int64} {isK : Nat → Int32} (h : GS N T w H S M mt now dia kept isK) (hm : SM2 M' M) : GS (N + 50) T w H S M' mt now dia kept isK := by
  obtain ⟨⟨L, c, a⟩, b, d⟩ := h
  exact ⟨⟨L, c, a.sm hm.1⟩, b.mono (by omega) hm.2, d.mono (by omega)⟩
def HK (k23 : Int32 → (Nat → Int64) → TT → TE → TR → TW → TW → TP → TP → TM → (Nat → Int32) → (Nat → Int64) → (Nat → Int64) → (Nat → Int64) → (Nat → Int64) → (Nat → Int32) → (Nat → Int64) → (Nat → Int64) → (Nat → Int64) → (Nat → Int32) → (Nat → Int32) → TH → TS → Option Unit) (p N : Nat) : Prop := ∀ (g_o : Nat → Int64) (g_x_text : TT) (g_x_entryReader : TE) (g_x_planReader : TR) (g_x_world : TW) (g_x_copy : TW) (g_x_chosen : TP) (g_x_other : TP) (g_m : TM) (g_m_text : Nat → Int32) (g_m_now : Nat → Int64) (g_m_trial : Nat → Int64) (g_m_diary : Nat → Int64) (g_m_kept : Nat → Int64) (g_m_isKept : Nat → Int32) (g_m_chosenBy : Nat → Int64) (g_m_paidBy : Nat → Int64) (g_m_toPay : Nat → Int64) (g_m_plan : Nat → Int32) (g_m_other : Nat → Int32) (g_x_history : TH) (g_x_slots : TS), GS N g_x_text g_x_world g_x_history g_x_slots g_m g_m_text g_m_now g_m_diary g_m_kept g_m_isKept → k23 (nI p) g_o g_x_text g_x_entryReader g_x_planReader g_x_world g_x_copy g_x_chosen g_x_other g_m g_m_text g_m_now g_m_trial g_m_diary g_m_kept g_m_isKept g_m_chosenBy g_m_paidBy g_m_toPay g_m_plan g_m_other g_x_history g_x_slots = some ()
theorem y_law {A : Option Unit} {rf : Int32} {ov av : Int64} (h2 : rf = nI 0 → ov = av) (hA : A = some ()) : (if rf = rf then (if rf = (0 : Int32) then (if inb (0 : Int32) 1 = true then (if (lg_cmp ov av) = (0 : Int32) then A else none) else none) else A) else none) = some () := by
  rw [if_pos rfl]
  by_cases q : rf = (0 : Int32)
  · rw [if_pos q, if_pos (by decide), if_pos ((lg_cmp_eq _ _).mpr (h2 q))]; exact hA
  · rw [if_neg q]; exact hA
theorem y_ite {c : Prop} [Decidable c] {a b z : Option Unit} (h1 : c → a = z) (h2 : ¬ c → b = z) : (if c then a else b) = z := by
  by_cases q : c
  · rw [if_pos q]; exact h1 q
  · rw [if_neg q]; exact h2 q
theorem x_thrown (m : TM) : f_X9_thrown m = some (M_refusal m, ()) := rfl
theorem L_append {g_p1_text : TT} {g_p3 : Nat → Int64} {v1 : Int32} {u0 : TT} {res : Nat ⊕ Int32} {av : Int32} {rf : Int32} (hX : f_X8_append g_p1_text v1 = some (res, u0)) (hr : RS 1 2 0 res av rf) : ∃ o', f_L_append 1 g_p1_text g_p3 v1 = some (rf, (u0, o')) ∧ (rf = nI 0 → o' 0 = Int32.toInt64 av) := by
  rcases hr with ⟨rfl, rfl⟩ | ⟨rfl, rfl, hc⟩ | ⟨rfl, rfl, hc⟩ | ⟨rfl, rfl, hc⟩
  · refine ⟨vp_updL g_p3 0 (Int32.toInt64 av), ?_, fun _ => rfl⟩
    unfold f_L_append
    rw [hX]
    simp only [Option.bind_some, Sum.elim_inr]
    exact if_pos (by decide)
  · refine ⟨g_p3, ?_, fun z => absurd z (by decide)⟩
    unfold f_L_append
    rw [hX]
    rfl
  · refine ⟨g_p3, ?_, fun z => absurd z (by decide)⟩
    unfold f_L_append
    rw [hX]
    rfl
  · exact absurd hc (by omega)
theorem L_load {g_p1_text : TT} {g_p1_entryReader : TE} {g_p1_world : TW} {g_p1_history : TH} {g_p1_slots : TS} {g_p2 : Nat → Int64} {u0 : TE} {u1 : TW} {u2 : TH} {u3 : TS} {res : Nat ⊕ Int32} {av : Int32} {rf : Int32} (hX : f_X8_load g_p1_text g_p1_entryReader g_p1_world g_p1_history g_p1_slots = some (res, (u0, u1, u2, u3))) (hr : RS 0 1 0 res av rf) : ∃ o', f_L_load 1 g_p1_text g_p1_entryReader g_p1_world g_p1_history g_p1_slots g_p2 = some (rf, (u0, u1, u2, u3, o')) ∧ (rf = nI 0 → o' 0 = Int32.toInt64 av) := by
  rcases hr with ⟨rfl, rfl⟩ | ⟨rfl, rfl, hc⟩ | ⟨rfl, rfl, hc⟩ | ⟨rfl, rfl, hc⟩
  · refine ⟨vp_updL g_p2 0 (Int32.toInt64 av), ?_, fun _ => rfl⟩
    unfold f_L_load
    rw [hX]
    simp only [Option.bind_some, Sum.elim_inr]
    exact if_pos (by decide)
  · exact absurd hc (by omega)
  · refine ⟨g_p2, ?_, fun z => absurd z (by decide)⟩
    unfold f_L_load
    rw [hX]
    rfl
  · exact absurd hc (by omega)
theorem L_about {g_p1_world : TW} {g_p3 : Nat → Int64} {v1 : Int32}  {res : Nat ⊕ Int32} {av : Int32} {rf : Int32} (hX : f_X8_about g_p1_world v1 = some (res, ())) (hr : RS 1 0 0 res av rf) : ∃ o', f_L_about 1 g_p1_world g_p3 v1 = some (rf, (o')) ∧ (rf = nI 0 → o' 0 = Int32.toInt64 av) := by
  rcases hr with ⟨rfl, rfl⟩ | ⟨rfl, rfl, hc⟩ | ⟨rfl, rfl, hc⟩ | ⟨rfl, rfl, hc⟩
  · refine ⟨vp_updL g_p3 0 (Int32.toInt64 av), ?_, fun _ => rfl⟩
    unfold f_L_about
    rw [hX]
    simp only [Option.bind_some, Sum.elim_inr]
    exact if_pos (by decide)
  · refine ⟨g_p3, ?_, fun z => absurd z (by decide)⟩
    unfold f_L_about
    rw [hX]
    rfl
  · exact absurd hc (by omega)
  · exact absurd hc (by omega)
theorem L_sum {g_p1_world : TW} {g_p3 : Nat → Int64} {v1 : Int32}  {res : Nat ⊕ Int64} {av : Int64} {rf : Int32} (hX : f_X8_sum g_p1_world v1 = some (res, ())) (hr : RS 1 0 0 res av rf) : ∃ o', f_L_sum 1 g_p1_world g_p3 v1 = some (rf, (o')) ∧ (rf = nI 0 → o' 0 = av) := by
  rcases hr with ⟨rfl, rfl⟩ | ⟨rfl, rfl, hc⟩ | ⟨rfl, rfl, hc⟩ | ⟨rfl, rfl, hc⟩
  · refine ⟨vp_updL g_p3 0 (av), ?_, fun _ => rfl⟩
    unfold f_L_sum
    rw [hX]
    simp only [Option.bind_some, Sum.elim_inr]
    exact if_pos (by decide)
  · refine ⟨g_p3, ?_, fun z => absurd z (by decide)⟩
    unfold f_L_sum
    rw [hX]
    rfl
  · exact absurd hc (by omega)
  · exact absurd hc (by omega)
theorem L_size {g_p1_world : TW} {g_p3 : Nat → Int64} {v1 : Int32}  {res : Nat ⊕ Int32} {av : Int32} {rf : Int32} (hX : f_X8_size g_p1_world v1 = some (res, ())) (hr : RS 0 0 1 res av rf) : ∃ o', f_L_size 1 g_p1_world g_p3 v1 = some (rf, (o')) ∧ (rf = nI 0 → o' 0 = Int32.toInt64 av) := by
  rcases hr with ⟨rfl, rfl⟩ | ⟨rfl, rfl, hc⟩ | ⟨rfl, rfl, hc⟩ | ⟨rfl, rfl, hc⟩
  · refine ⟨vp_updL g_p3 0 (Int32.toInt64 av), ?_, fun _ => rfl⟩
    unfold f_L_size
    rw [hX]
    simp only [Option.bind_some, Sum.elim_inr]
    exact if_pos (by decide)
  · exact absurd hc (by omega)
  · exact absurd hc (by omega)
  · refine ⟨g_p3, ?_, fun z => absurd z (by decide)⟩
    unfold f_L_size
    rw [hX]
    rfl
theorem L_pair {g_p1_world : TW} {g_p5 : Nat → Int64} {v1 : Int32} {v2 : Int32} {v3 : Int32}  {res : Nat ⊕ Int32} {av : Int32} {rf : Int32} (hX : f_X8_pair g_p1_world v1 v2 v3 = some (res, ())) (hr : RS 2 0 1 res av rf) : ∃ o', f_L_pair 1 g_p1_world g_p5 v1 v2 v3 = some (rf, (o')) ∧ (rf = nI 0 → o' 0 = Int32.toInt64 av) := by
  rcases hr with ⟨rfl, rfl⟩ | ⟨rfl, rfl, hc⟩ | ⟨rfl, rfl, hc⟩ | ⟨rfl, rfl, hc⟩
  · refine ⟨vp_updL g_p5 0 (Int32.toInt64 av), ?_, fun _ => rfl⟩
    unfold f_L_pair
    rw [hX]
    simp only [Option.bind_some, Sum.elim_inr]
    exact if_pos (by decide)
  · refine ⟨g_p5, ?_, fun z => absurd z (by decide)⟩
    unfold f_L_pair
    rw [hX]
    rfl
  · exact absurd hc (by omega)
  · refine ⟨g_p5, ?_, fun z => absurd z (by decide)⟩
    unfold f_L_pair
    rw [hX]
    rfl
theorem L_surprise {g_p1_world : TW} {g_p4 : Nat → Int64} {v1 : Int32} {v2 : Int32}  {res : Nat ⊕ Int32} {av : Int32} {rf : Int32} (hX : f_X8_surprise g_p1_world v1 v2 = some (res, ())) (hr : RS 1 0 0 res av rf) : ∃ o', f_L_surprise 1 g_p1_world g_p4 v1 v2 = some (rf, (o')) ∧ (rf = nI 0 → o' 0 = Int32.toInt64 av) := by
  rcases hr with ⟨rfl, rfl⟩ | ⟨rfl, rfl, hc⟩ | ⟨rfl, rfl, hc⟩ | ⟨rfl, rfl, hc⟩
  · refine ⟨vp_updL g_p4 0 (Int32.toInt64 av), ?_, fun _ => rfl⟩
    unfold f_L_surprise
    rw [hX]
    simp only [Option.bind_some, Sum.elim_inr]
    exact if_pos (by decide)
  · refine ⟨g_p4, ?_, fun z => absurd z (by decide)⟩
    unfold f_L_surprise
    rw [hX]
    rfl
  · exact absurd hc (by omega)
  · exact absurd hc (by omega)
theorem L_setting {g_p1_world : TW} {g_p3 : Nat → Int64} {v1 : Int32}  {res : Nat ⊕ Int32} {av : Int32} {rf : Int32} (hX : f_X8_setting g_p1_world v1 = some (res, ())) (hr : RS 1 0 0 res av rf) : ∃ o', f_L_setting 1 g_p1_world g_p3 v1 = some (rf, (o')) ∧ (rf = nI 0 → o' 0 = Int32.toInt64 av) := by
  rcases hr with ⟨rfl, rfl⟩ | ⟨rfl, rfl, hc⟩ | ⟨rfl, rfl, hc⟩ | ⟨rfl, rfl, hc⟩
  · refine ⟨vp_updL g_p3 0 (Int32.toInt64 av), ?_, fun _ => rfl⟩
    unfold f_L_setting
    rw [hX]
    simp only [Option.bind_some, Sum.elim_inr]
    exact if_pos (by decide)
  · refine ⟨g_p3, ?_, fun z => absurd z (by decide)⟩
    unfold f_L_setting
    rw [hX]
    rfl
  · exact absurd hc (by omega)
  · exact absurd hc (by omega)
theorem L_add {g_p1_world : TW} {g_p1_history : TH} {g_p3 : Nat → Int64} {v1 : Int32} {u0 : TW} {u1 : TH} {res : Nat ⊕ Int32} {av : Int32} {rf : Int32} (hX : f_X8_add g_p1_world g_p1_history v1 = some (res, (u0, u1))) (hr : RS 1 2 0 res av rf) : ∃ o', f_L_add 1 g_p1_world g_p1_history g_p3 v1 = some (rf, (u0, u1, o')) ∧ (rf = nI 0 → o' 0 = Int32.toInt64 av) := by
  rcases hr with ⟨rfl, rfl⟩ | ⟨rfl, rfl, hc⟩ | ⟨rfl, rfl, hc⟩ | ⟨rfl, rfl, hc⟩
  · refine ⟨vp_updL g_p3 0 (Int32.toInt64 av), ?_, fun _ => rfl⟩
    unfold f_L_add
    rw [hX]
    simp only [Option.bind_some, Sum.elim_inr]
    exact if_pos (by decide)
  · refine ⟨g_p3, ?_, fun z => absurd z (by decide)⟩
    unfold f_L_add
    rw [hX]
    rfl
  · refine ⟨g_p3, ?_, fun z => absurd z (by decide)⟩
    unfold f_L_add
    rw [hX]
    rfl
  · exact absurd hc (by omega)
theorem L_resize {g_p1_world : TW} {g_p1_history : TH} {g_p4 : Nat → Int64} {v1 : Int32} {v2 : Int32} {u0 : TW} {u1 : TH} {res : Nat ⊕ Int32} {av : Int32} {rf : Int32} (hX : f_X8_resize g_p1_world g_p1_history v1 v2 = some (res, (u0, u1))) (hr : RS 2 0 1 res av rf) : ∃ o', f_L_resize 1 g_p1_world g_p1_history g_p4 v1 v2 = some (rf, (u0, u1, o')) ∧ (rf = nI 0 → o' 0 = Int32.toInt64 av) := by
  rcases hr with ⟨rfl, rfl⟩ | ⟨rfl, rfl, hc⟩ | ⟨rfl, rfl, hc⟩ | ⟨rfl, rfl, hc⟩
  · refine ⟨vp_updL g_p4 0 (Int32.toInt64 av), ?_, fun _ => rfl⟩
    unfold f_L_resize
    rw [hX]
    simp only [Option.bind_some, Sum.elim_inr]
    exact if_pos (by decide)
  · refine ⟨g_p4, ?_, fun z => absurd z (by decide)⟩
    unfold f_L_resize
    rw [hX]
    rfl
  · exact absurd hc (by omega)
  · refine ⟨g_p4, ?_, fun z => absurd z (by decide)⟩
    unfold f_L_resize
    rw [hX]
    rfl
theorem L_link {g_p1_world : TW} {g_p1_history : TH} {g_p6 : Nat → Int64} {v1 : Int32} {v2 : Int32} {v3 : Int32} {v4 : Int32} {u0 : TW} {u1 : TH} {res : Nat ⊕ Int32} {av : Int32} {rf : Int32} (hX : f_X8_link g_p1_world g_p1_history v1 v2 v3 v4 = some (res, (u0, u1))) (hr : RS 2 0 1 res av rf) : ∃ o', f_L_link 1 g_p1_world g_p1_history g_p6 v1 v2 v3 v4 = some (rf, (u0, u1, o')) ∧ (rf = nI 0 → o' 0 = Int32.toInt64 av) := by
  rcases hr with ⟨rfl, rfl⟩ | ⟨rfl, rfl, hc⟩ | ⟨rfl, rfl, hc⟩ | ⟨rfl, rfl, hc⟩
  · refine ⟨vp_updL g_p6 0 (Int32.toInt64 av), ?_, fun _ => rfl⟩
    unfold f_L_link
    rw [hX]
    simp only [Option.bind_some, Sum.elim_inr]
    exact if_pos (by decide)
  · refine ⟨g_p6, ?_, fun z => absurd z (by decide)⟩
    unfold f_L_link
    rw [hX]
    rfl
  · exact absurd hc (by omega)
  · refine ⟨g_p6, ?_, fun z => absurd z (by decide)⟩
    unfold f_L_link
    rw [hX]
    rfl
theorem L_drift {g_p1_world : TW} {g_p1_history : TH} {g_p5 : Nat → Int64} {v1 : Int32} {v2 : Int32} {v3 : Int32} {u0 : TW} {u1 : TH} {res : Nat ⊕ Int32} {av : Int32} {rf : Int32} (hX : f_X8_drift g_p1_world g_p1_history v1 v2 v3 = some (res, (u0, u1))) (hr : RS 2 3 1 res av rf) : ∃ o', f_L_drift 1 g_p1_world g_p1_history g_p5 v1 v2 v3 = some (rf, (u0, u1, o')) ∧ (rf = nI 0 → o' 0 = Int32.toInt64 av) := by
  rcases hr with ⟨rfl, rfl⟩ | ⟨rfl, rfl, hc⟩ | ⟨rfl, rfl, hc⟩ | ⟨rfl, rfl, hc⟩
  · refine ⟨vp_updL g_p5 0 (Int32.toInt64 av), ?_, fun _ => rfl⟩
    unfold f_L_drift
    rw [hX]
    simp only [Option.bind_some, Sum.elim_inr]
    exact if_pos (by decide)
  · refine ⟨g_p5, ?_, fun z => absurd z (by decide)⟩
    unfold f_L_drift
    rw [hX]
    rfl
  · refine ⟨g_p5, ?_, fun z => absurd z (by decide)⟩
    unfold f_L_drift
    rw [hX]
    rfl
  · refine ⟨g_p5, ?_, fun z => absurd z (by decide)⟩
    unfold f_L_drift
    rw [hX]
    rfl
theorem L_run {g_p1_world : TW} {g_p1_chosen : TP} {g_p1_other : TP} {g_p1_history : TH} {g_p3 : Nat → Int64} {v1 : Int32} {u0 : TW} {u1 : TP} {u2 : TP} {u3 : TH} {res : Nat ⊕ Int32} {av : Int32} {rf : Int32} (hX : f_X8_run g_p1_world g_p1_chosen g_p1_other g_p1_history v1 = some (res, (u0, u1, u2, u3))) (hr : RS 2 0 1 res av rf) : ∃ o', f_L_run 1 g_p1_world g_p1_chosen g_p1_other g_p1_history g_p3 v1 = some (rf, (u0, u1, u2, u3, o')) ∧ (rf = nI 0 → o' 0 = Int32.toInt64 av) := by
  rcases hr with ⟨rfl, rfl⟩ | ⟨rfl, rfl, hc⟩ | ⟨rfl, rfl, hc⟩ | ⟨rfl, rfl, hc⟩
  · refine ⟨vp_updL g_p3 0 (Int32.toInt64 av), ?_, fun _ => rfl⟩
    unfold f_L_run
    rw [hX]
    simp only [Option.bind_some, Sum.elim_inr]
    exact if_pos (by decide)
  · refine ⟨g_p3, ?_, fun z => absurd z (by decide)⟩
    unfold f_L_run
    rw [hX]
    rfl
  · exact absurd hc (by omega)
  · refine ⟨g_p3, ?_, fun z => absurd z (by decide)⟩
    unfold f_L_run
    rw [hX]
    rfl
theorem L_weeks {g_p1_world : TW} {g_p1_history : TH} {g_p3 : Nat → Int64} {v1 : Int32} {u0 : TW} {u1 : TH} {res : Nat ⊕ Int32} {av : Int32} {rf : Int32} (hX : f_X8_weeks g_p1_world g_p1_history v1 = some (res, (u0, u1))) (hr : RS 1 0 0 res av rf) : ∃ o', f_L_weeks 1 g_p1_world g_p1_history g_p3 v1 = some (rf, (u0, u1, o')) ∧ (rf = nI 0 → o' 0 = Int32.toInt64 av) := by
  rcases hr with ⟨rfl, rfl⟩ | ⟨rfl, rfl, hc⟩ | ⟨rfl, rfl, hc⟩ | ⟨rfl, rfl, hc⟩
  · refine ⟨vp_updL g_p3 0 (Int32.toInt64 av), ?_, fun _ => rfl⟩
    unfold f_L_weeks
    rw [hX]
    simp only [Option.bind_some, Sum.elim_inr]
    exact if_pos (by decide)
  · refine ⟨g_p3, ?_, fun z => absurd z (by decide)⟩
    unfold f_L_weeks
    rw [hX]
    rfl
  · exact absurd hc (by omega)
  · exact absurd hc (by omega)
theorem L_set {g_p1_world : TW} {g_p1_history : TH} {g_p4 : Nat → Int64} {v1 : Int32} {v2 : Int32} {u0 : TW} {u1 : TH} {res : Nat ⊕ Int32} {av : Int32} {rf : Int32} (hX : f_X8_set g_p1_world g_p1_history v1 v2 = some (res, (u0, u1))) (hr : RS 1 0 0 res av rf) : ∃ o', f_L_set 1 g_p1_world g_p1_history g_p4 v1 v2 = some (rf, (u0, u1, o')) ∧ (rf = nI 0 → o' 0 = Int32.toInt64 av) := by
  rcases hr with ⟨rfl, rfl⟩ | ⟨rfl, rfl, hc⟩ | ⟨rfl, rfl, hc⟩ | ⟨rfl, rfl, hc⟩
  · refine ⟨vp_updL g_p4 0 (Int32.toInt64 av), ?_, fun _ => rfl⟩
    unfold f_L_set
    rw [hX]
    simp only [Option.bind_some, Sum.elim_inr]
    exact if_pos (by decide)
  · refine ⟨g_p4, ?_, fun z => absurd z (by decide)⟩
    unfold f_L_set
    rw [hX]
    rfl
  · exact absurd hc (by omega)
  · exact absurd hc (by omega)
theorem L_undo {g_p1_world : TW} {g_p1_history : TH} {g_p2 : Nat → Int64} {u0 : TW} {u1 : TH} {res : Nat ⊕ Int32} {av : Int32} {rf : Int32} (hX : f_X8_undo g_p1_world g_p1_history = some (res, (u0, u1))) (hr : RS 0 1 0 res av rf) : ∃ o', f_L_undo 1 g_p1_world g_p1_history g_p2 = some (rf, (u0, u1, o')) ∧ (rf = nI 0 → o' 0 = Int32.toInt64 av) := by
  rcases hr with ⟨rfl, rfl⟩ | ⟨rfl, rfl, hc⟩ | ⟨rfl, rfl, hc⟩ | ⟨rfl, rfl, hc⟩
  · refine ⟨vp_updL g_p2 0 (Int32.toInt64 av), ?_, fun _ => rfl⟩
    unfold f_L_undo
    rw [hX]
    simp only [Option.bind_some, Sum.elim_inr]
    exact if_pos (by decide)
  · exact absurd hc (by omega)
  · refine ⟨g_p2, ?_, fun z => absurd z (by decide)⟩
    unfold f_L_undo
    rw [hX]
    rfl
  · exact absurd hc (by omega)
theorem L_rows {g_p1_world : TW} {g_p1_chosen : TP} {g_p4 : Nat → Int64} {v1 : Int32} {v2 : Int32} {u0 : TP} {res : Nat ⊕ Int64} {av : Int64} {rf : Int32} (hX : f_X8_rows g_p1_world g_p1_chosen v1 v2 = some (res, u0)) (hr : RS 2 0 1 res av rf) : ∃ o', f_L_rows 1 g_p1_world g_p1_chosen g_p4 v1 v2 = some (rf, (u0, o')) ∧ (rf = nI 0 → o' 0 = av) := by
  rcases hr with ⟨rfl, rfl⟩ | ⟨rfl, rfl, hc⟩ | ⟨rfl, rfl, hc⟩ | ⟨rfl, rfl, hc⟩
  · refine ⟨vp_updL g_p4 0 (av), ?_, fun _ => rfl⟩
    unfold f_L_rows
    rw [hX]
    simp only [Option.bind_some, Sum.elim_inr]
    exact if_pos (by decide)
  · refine ⟨g_p4, ?_, fun z => absurd z (by decide)⟩
    unfold f_L_rows
    rw [hX]
    rfl
  · exact absurd hc (by omega)
  · refine ⟨g_p4, ?_, fun z => absurd z (by decide)⟩
    unfold f_L_rows
    rw [hX]
    rfl
theorem L_order {g_p1_world : TW} {g_p1_chosen : TP} {g_p5 : Nat → Int64} {v1 : Int32} {v2 : Int32} {v3 : Int32} {u0 : TP} {res : Nat ⊕ Int32} {av : Int32} {rf : Int32} (hX : f_X8_order g_p1_world g_p1_chosen v1 v2 v3 = some (res, u0)) (hr : RS 2 0 1 res av rf) : ∃ o', f_L_order 1 g_p1_world g_p1_chosen g_p5 v1 v2 v3 = some (rf, (u0, o')) ∧ (rf = nI 0 → o' 0 = Int32.toInt64 av) := by
  rcases hr with ⟨rfl, rfl⟩ | ⟨rfl, rfl, hc⟩ | ⟨rfl, rfl, hc⟩ | ⟨rfl, rfl, hc⟩
  · refine ⟨vp_updL g_p5 0 (Int32.toInt64 av), ?_, fun _ => rfl⟩
    unfold f_L_order
    rw [hX]
    simp only [Option.bind_some, Sum.elim_inr]
    exact if_pos (by decide)
  · refine ⟨g_p5, ?_, fun z => absurd z (by decide)⟩
    unfold f_L_order
    rw [hX]
    rfl
  · exact absurd hc (by omega)
  · refine ⟨g_p5, ?_, fun z => absurd z (by decide)⟩
    unfold f_L_order
    rw [hX]
    rfl
theorem L_way {g_p1_world : TW} {g_p1_chosen : TP} {g_p4 : Nat → Int64} {v1 : Int32} {v2 : Int32} {u0 : TP} {res : Nat ⊕ Int32} {av : Int32} {rf : Int32} (hX : f_X8_way g_p1_world g_p1_chosen v1 v2 = some (res, u0)) (hr : RS 2 0 1 res av rf) : ∃ o', f_L_way 1 g_p1_world g_p1_chosen g_p4 v1 v2 = some (rf, (u0, o')) ∧ (rf = nI 0 → o' 0 = Int32.toInt64 av) := by
  rcases hr with ⟨rfl, rfl⟩ | ⟨rfl, rfl, hc⟩ | ⟨rfl, rfl, hc⟩ | ⟨rfl, rfl, hc⟩
  · refine ⟨vp_updL g_p4 0 (Int32.toInt64 av), ?_, fun _ => rfl⟩
    unfold f_L_way
    rw [hX]
    simp only [Option.bind_some, Sum.elim_inr]
    exact if_pos (by decide)
  · refine ⟨g_p4, ?_, fun z => absurd z (by decide)⟩
    unfold f_L_way
    rw [hX]
    rfl
  · exact absurd hc (by omega)
  · refine ⟨g_p4, ?_, fun z => absurd z (by decide)⟩
    unfold f_L_way
    rw [hX]
    rfl
theorem L_cost {g_p1_world : TW} {g_p1_chosen : TP} {g_p1_other : TP} {g_p4 : Nat → Int64} {v1 : Int32} {v2 : Int32} {u0 : TP} {u1 : TP} {res : Nat ⊕ Int64} {av : Int64} {rf : Int32} (hX : f_X8_cost g_p1_world g_p1_chosen g_p1_other v1 v2 = some (res, (u0, u1))) (hr : RS 2 0 1 res av rf) : ∃ o', f_L_cost 1 g_p1_world g_p1_chosen g_p1_other g_p4 v1 v2 = some (rf, (u0, u1, o')) ∧ (rf = nI 0 → o' 0 = av) := by
  rcases hr with ⟨rfl, rfl⟩ | ⟨rfl, rfl, hc⟩ | ⟨rfl, rfl, hc⟩ | ⟨rfl, rfl, hc⟩
  · refine ⟨vp_updL g_p4 0 (av), ?_, fun _ => rfl⟩
    unfold f_L_cost
    rw [hX]
    simp only [Option.bind_some, Sum.elim_inr]
    exact if_pos (by decide)
  · refine ⟨g_p4, ?_, fun z => absurd z (by decide)⟩
    unfold f_L_cost
    rw [hX]
    rfl
  · exact absurd hc (by omega)
  · refine ⟨g_p4, ?_, fun z => absurd z (by decide)⟩
    unfold f_L_cost
    rw [hX]
    rfl
theorem L_costOfText {g_p1_text : TT} {g_p1_planReader : TR} {g_p1_world : TW} {g_p1_chosen : TP} {g_p3 : Nat → Int64} {v1 : Int32} {u0 : TR} {u1 : TP} {res : Nat ⊕ Int64} {av : Int64} {rf : Int32} (hX : f_X8_costOfText g_p1_text g_p1_planReader g_p1_world g_p1_chosen v1 = some (res, (u0, u1))) (hr : RS 1 2 0 res av rf) : ∃ o', f_L_costOfText 1 g_p1_text g_p1_planReader g_p1_world g_p1_chosen g_p3 v1 = some (rf, (u0, u1, o')) ∧ (rf = nI 0 → o' 0 = av) := by
  rcases hr with ⟨rfl, rfl⟩ | ⟨rfl, rfl, hc⟩ | ⟨rfl, rfl, hc⟩ | ⟨rfl, rfl, hc⟩
  · refine ⟨vp_updL g_p3 0 (av), ?_, fun _ => rfl⟩
    unfold f_L_costOfText
    rw [hX]
    simp only [Option.bind_some, Sum.elim_inr]
    exact if_pos (by decide)
  · refine ⟨g_p3, ?_, fun z => absurd z (by decide)⟩
    unfold f_L_costOfText
    rw [hX]
    rfl
  · refine ⟨g_p3, ?_, fun z => absurd z (by decide)⟩
    unfold f_L_costOfText
    rw [hX]
    rfl
  · exact absurd hc (by omega)
theorem L_matters {g_p1_world : TW} {g_p1_copy : TW} {g_p1_chosen : TP} {g_p1_other : TP} {g_p5 : Nat → Int64} {v1 : Int32} {v2 : Int32} {v3 : Int32} {u0 : TW} {u1 : TP} {u2 : TP} {res : Nat ⊕ Int32} {av : Int32} {rf : Int32} (hX : f_X8_matters g_p1_world g_p1_copy g_p1_chosen g_p1_other v1 v2 v3 = some (res, (u0, u1, u2))) (hr : RS 2 0 1 res av rf) : ∃ o', f_L_matters 1 g_p1_world g_p1_copy g_p1_chosen g_p1_other g_p5 v1 v2 v3 = some (rf, (u0, u1, u2, o')) ∧ (rf = nI 0 → o' 0 = Int32.toInt64 av) := by
  rcases hr with ⟨rfl, rfl⟩ | ⟨rfl, rfl, hc⟩ | ⟨rfl, rfl, hc⟩ | ⟨rfl, rfl, hc⟩
  · refine ⟨vp_updL g_p5 0 (Int32.toInt64 av), ?_, fun _ => rfl⟩
    unfold f_L_matters
    rw [hX]
    simp only [Option.bind_some, Sum.elim_inr]
    exact if_pos (by decide)
  · refine ⟨g_p5, ?_, fun z => absurd z (by decide)⟩
    unfold f_L_matters
    rw [hX]
    rfl
  · exact absurd hc (by omega)
  · refine ⟨g_p5, ?_, fun z => absurd z (by decide)⟩
    unfold f_L_matters
    rw [hX]
    rfl
theorem L_learnsIn {g_p1_world : TW} {g_p1_copy : TW} {g_p1_chosen : TP} {g_p1_other : TP} {g_p3 : Nat → Int64} {v1 : Int32} {u0 : TW} {u1 : TP} {u2 : TP} {res : Nat ⊕ Int32} {av : Int32} {rf : Int32} (hX : f_X8_learnsIn g_p1_world g_p1_copy g_p1_chosen g_p1_other v1 = some (res, (u0, u1, u2))) (hr : RS 2 0 1 res av rf) : ∃ o', f_L_learnsIn 1 g_p1_world g_p1_copy g_p1_chosen g_p1_other g_p3 v1 = some (rf, (u0, u1, u2, o')) ∧ (rf = nI 0 → o' 0 = Int32.toInt64 av) := by
  rcases hr with ⟨rfl, rfl⟩ | ⟨rfl, rfl, hc⟩ | ⟨rfl, rfl, hc⟩ | ⟨rfl, rfl, hc⟩
  · refine ⟨vp_updL g_p3 0 (Int32.toInt64 av), ?_, fun _ => rfl⟩
    unfold f_L_learnsIn
    rw [hX]
    simp only [Option.bind_some, Sum.elim_inr]
    exact if_pos (by decide)
  · refine ⟨g_p3, ?_, fun z => absurd z (by decide)⟩
    unfold f_L_learnsIn
    rw [hX]
    rfl
  · exact absurd hc (by omega)
  · refine ⟨g_p3, ?_, fun z => absurd z (by decide)⟩
    unfold f_L_learnsIn
    rw [hX]
    rfl
theorem L_runScript {g_p1_world : TW} {g_p1_copy : TW} {g_p1_chosen : TP} {g_p1_other : TP} {g_p4 : Nat → Int64} {v1 : Int32} {v2 : Int64} {u0 : TW} {u1 : TP} {u2 : TP} {res : Nat ⊕ Int32} {av : Int32} {rf : Int32} (hX : f_X8_runScript g_p1_world g_p1_copy g_p1_chosen g_p1_other v1 v2 = some (res, (u0, u1, u2))) (hr : RS 1 0 0 res av rf) : ∃ o', f_L_runScript 1 g_p1_world g_p1_copy g_p1_chosen g_p1_other g_p4 v1 v2 = some (rf, (u0, u1, u2, o')) ∧ (rf = nI 0 → o' 0 = Int32.toInt64 av) := by
  rcases hr with ⟨rfl, rfl⟩ | ⟨rfl, rfl, hc⟩ | ⟨rfl, rfl, hc⟩ | ⟨rfl, rfl, hc⟩
  · refine ⟨vp_updL g_p4 0 (Int32.toInt64 av), ?_, fun _ => rfl⟩
    unfold f_L_runScript
    rw [hX]
    simp only [Option.bind_some, Sum.elim_inr]
    exact if_pos (by decide)
  · refine ⟨g_p4, ?_, fun z => absurd z (by decide)⟩
    unfold f_L_runScript
    rw [hX]
    rfl
  · exact absurd hc (by omega)
  · exact absurd hc (by omega)
theorem L_simulate {g_p1_world : TW} {g_p1_copy : TW} {g_p1_chosen : TP} {g_p1_other : TP} {g_p4 : Nat → Int64} {v1 : Int64} {v3 : Int32} {u0 : TW} {u1 : TP} {u2 : TP} {res : Nat ⊕ Int32} {av : Int32} {rf : Int32} (hX : f_X8_simulate g_p1_world g_p1_copy g_p1_chosen g_p1_other v1 v3 = some (res, (u0, u1, u2))) (hr : RS 1 0 0 res av rf) : ∃ o', f_L_simulate 1 g_p1_world g_p1_copy g_p1_chosen g_p1_other g_p4 v1 v3 = some (rf, (u0, u1, u2, o')) ∧ (rf = nI 0 → o' 0 = Int32.toInt64 av) := by
  rcases hr with ⟨rfl, rfl⟩ | ⟨rfl, rfl, hc⟩ | ⟨rfl, rfl, hc⟩ | ⟨rfl, rfl, hc⟩
  · refine ⟨vp_updL g_p4 0 (Int32.toInt64 av), ?_, fun _ => rfl⟩
    unfold f_L_simulate
    rw [hX]
    simp only [Option.bind_some, Sum.elim_inr]
    exact if_pos (by decide)
  · refine ⟨g_p4, ?_, fun z => absurd z (by decide)⟩
    unfold f_L_simulate
    rw [hX]
    rfl
  · exact absurd hc (by omega)
  · exact absurd hc (by omega)
theorem L_save {g_p1_world : TW} {g_p1_slots : TS} {g_p3 : Nat → Int64} {v1 : Int32} {u0 : TS} {res : Nat ⊕ Int32} {av : Int32} {rf : Int32} (hX : f_X8_save g_p1_world g_p1_slots v1 = some (res, u0)) (hr : RS 0 0 1 res av rf) : ∃ o', f_L_save 1 g_p1_world g_p1_slots g_p3 v1 = some (rf, (u0, o')) ∧ (rf = nI 0 → o' 0 = Int32.toInt64 av) := by
  rcases hr with ⟨rfl, rfl⟩ | ⟨rfl, rfl, hc⟩ | ⟨rfl, rfl, hc⟩ | ⟨rfl, rfl, hc⟩
  · refine ⟨vp_updL g_p3 0 (Int32.toInt64 av), ?_, fun _ => rfl⟩
    unfold f_L_save
    rw [hX]
    simp only [Option.bind_some, Sum.elim_inr]
    exact if_pos (by decide)
  · exact absurd hc (by omega)
  · exact absurd hc (by omega)
  · refine ⟨g_p3, ?_, fun z => absurd z (by decide)⟩
    unfold f_L_save
    rw [hX]
    rfl
theorem L_restore {g_p1_world : TW} {g_p1_history : TH} {g_p1_slots : TS} {g_p3 : Nat → Int64} {v1 : Int32} {u0 : TW} {u1 : TH} {res : Nat ⊕ Int32} {av : Int32} {rf : Int32} (hX : f_X8_restore g_p1_world g_p1_history g_p1_slots v1 = some (res, (u0, u1))) (hr : RS 0 2 1 res av rf) : ∃ o', f_L_restore 1 g_p1_world g_p1_history g_p1_slots g_p3 v1 = some (rf, (u0, u1, o')) ∧ (rf = nI 0 → o' 0 = Int32.toInt64 av) := by
  rcases hr with ⟨rfl, rfl⟩ | ⟨rfl, rfl, hc⟩ | ⟨rfl, rfl, hc⟩ | ⟨rfl, rfl, hc⟩
  · refine ⟨vp_updL g_p3 0 (Int32.toInt64 av), ?_, fun _ => rfl⟩
    unfold f_L_restore
    rw [hX]
    simp only [Option.bind_some, Sum.elim_inr]
    exact if_pos (by decide)
  · exact absurd hc (by omega)
  · refine ⟨g_p3, ?_, fun z => absurd z (by decide)⟩
    unfold f_L_restore
    rw [hX]
    rfl
  · refine ⟨g_p3, ?_, fun z => absurd z (by decide)⟩
    unfold f_L_restore
    rw [hX]
    rfl
theorem l_C172 {xs : Nat → Int32} {L : Nat} {k23 : Int32 → (Nat → Int64) → TT → TE → TR → TW → TW → TP → TP → TM → (Nat → Int32) → (Nat → Int64) → (Nat → Int64) → (Nat → Int64) → (Nat → Int64) → (Nat → Int32) → (Nat → Int64) → (Nat → Int64) → (Nat → Int64) → (Nat → Int32) → (Nat → Int32) → TH → TS → Option Unit} {p N : Nat} {g_o : Nat → Int64} {g_x_text : TT} {g_x_entryReader : TE} {g_x_planReader : TR} {g_x_world : TW} {g_x_copy : TW} {g_x_chosen : TP} {g_x_other : TP} {g_m : TM} {g_m_text : Nat → Int32} {g_m_now : Nat → Int64} {g_m_trial : Nat → Int64} {g_m_diary : Nat → Int64} {g_m_kept : Nat → Int64} {g_m_isKept : Nat → Int32} {g_m_chosenBy : Nat → Int64} {g_m_paidBy : Nat → Int64} {g_m_toPay : Nat → Int64} {g_m_plan : Nat → Int32} {g_m_other : Nat → Int32} {g_x_history : TH} {g_x_slots : TS} (hk : HK k23 (p + 5) (N + 50)) (hg : GS N g_x_text g_x_world g_x_history g_x_slots g_m g_m_text g_m_now g_m_diary g_m_kept g_m_isKept) (hN : N < 500000) (hp : p + 5 ≤ L) (hL : L ≤ 2560) : f_law_C172 xs L k23 (nI p) g_o g_x_text g_x_entryReader g_x_planReader g_x_world g_x_copy g_x_chosen g_x_other g_m g_m_text g_m_now g_m_trial g_m_diary g_m_kept g_m_isKept g_m_chosenBy g_m_paidBy g_m_toPay g_m_plan g_m_other g_x_history g_x_slots = some () := by
  have hg0 := hg
  obtain ⟨⟨Lt, ct, ht⟩, hgw, hs⟩ := hg0
  have hgw0 := hgw
  obtain ⟨⟨ρ, σ, h⟩, -⟩ := hgw0
  have i1 : inb (nI p + (1 : Int32)) L = true := by rw [y_c1, y_Iadd]; exact y_inb (by omega) (by omega)
  have i2 : inb (nI p + (2 : Int32)) L = true := by rw [y_c2, y_Iadd]; exact y_inb (by omega) (by omega)
  have i3 : inb (nI p + (3 : Int32)) L = true := by rw [y_c3, y_Iadd]; exact y_inb (by omega) (by omega)
  have i4 : inb (nI p + (4 : Int32)) L = true := by rw [y_c4, y_Iadd]; exact y_inb (by omega) (by omega)
  have j1 : (nI p + (1 : Int32)).toNatClampNeg = p + 1 := by rw [y_c1, y_Iadd, y_cl (by omega)]
  have j2 : (nI p + (2 : Int32)).toNatClampNeg = p + 2 := by rw [y_c2, y_Iadd, y_cl (by omega)]
  have j3 : (nI p + (3 : Int32)).toNatClampNeg = p + 3 := by rw [y_c3, y_Iadd, y_cl (by omega)]
  have j4 : (nI p + (4 : Int32)).toNatClampNeg = p + 4 := by rw [y_c4, y_Iadd, y_cl (by omega)]
  have p5 : nI p + (5 : Int32) = nI (p + 5) := y_Iadd p 5
  obtain ⟨res, av, T', M', mt', L', c', e1, e2, hr, hac, ht2⟩ := p_append ht (xs (p + 1))
  obtain ⟨o', f1, f2⟩ := L_append (g_p3 := g_o) e1 hr
  unfold f_law_C172
  rw [if_pos i1, j1, f1, Option.bind_some, if_pos i1, e2, Option.bind_some, x_thrown, Option.bind_some, p5]
  exact y_law f2 (hk _ _ _ _ _ _ _ _ _ _ _ _ _ _ _ _ _ _ _ _ _ _ (⟨⟨L', c', ht2⟩, hgw.mono (by omega) hac, hs.mono (by omega)⟩))
theorem l_C228 {xs : Nat → Int32} {L : Nat} {k23 : Int32 → (Nat → Int64) → TT → TE → TR → TW → TW → TP → TP → TM → (Nat → Int32) → (Nat → Int64) → (Nat → Int64) → (Nat → Int64) → (Nat → Int64) → (Nat → Int32) → (Nat → Int64) → (Nat → Int64) → (Nat → Int64) → (Nat → Int32) → (Nat → Int32) → TH → TS → Option Unit} {p N : Nat} {g_o : Nat → Int64} {g_x_text : TT} {g_x_entryReader : TE} {g_x_planReader : TR} {g_x_world : TW} {g_x_copy : TW} {g_x_chosen : TP} {g_x_other : TP} {g_m : TM} {g_m_text : Nat → Int32} {g_m_now : Nat → Int64} {g_m_trial : Nat → Int64} {g_m_diary : Nat → Int64} {g_m_kept : Nat → Int64} {g_m_isKept : Nat → Int32} {g_m_chosenBy : Nat → Int64} {g_m_paidBy : Nat → Int64} {g_m_toPay : Nat → Int64} {g_m_plan : Nat → Int32} {g_m_other : Nat → Int32} {g_x_history : TH} {g_x_slots : TS} (hk : HK k23 (p + 5) (N + 50)) (hg : GS N g_x_text g_x_world g_x_history g_x_slots g_m g_m_text g_m_now g_m_diary g_m_kept g_m_isKept) (hN : N < 500000) (hp : p + 5 ≤ L) (hL : L ≤ 2560) : f_law_C228 xs L k23 (nI p) g_o g_x_text g_x_entryReader g_x_planReader g_x_world g_x_copy g_x_chosen g_x_other g_m g_m_text g_m_now g_m_trial g_m_diary g_m_kept g_m_isKept g_m_chosenBy g_m_paidBy g_m_toPay g_m_plan g_m_other g_x_history g_x_slots = some () := by
  have hg0 := hg
  obtain ⟨⟨Lt, ct, ht⟩, hgw, hs⟩ := hg0
  have hgw0 := hgw
  obtain ⟨⟨ρ, σ, h⟩, -⟩ := hgw0
  have i1 : inb (nI p + (1 : Int32)) L = true := by rw [y_c1, y_Iadd]; exact y_inb (by omega) (by omega)
  have i2 : inb (nI p + (2 : Int32)) L = true := by rw [y_c2, y_Iadd]; exact y_inb (by omega) (by omega)
  have i3 : inb (nI p + (3 : Int32)) L = true := by rw [y_c3, y_Iadd]; exact y_inb (by omega) (by omega)
  have i4 : inb (nI p + (4 : Int32)) L = true := by rw [y_c4, y_Iadd]; exact y_inb (by omega) (by omega)
  have j1 : (nI p + (1 : Int32)).toNatClampNeg = p + 1 := by rw [y_c1, y_Iadd, y_cl (by omega)]
  have j2 : (nI p + (2 : Int32)).toNatClampNeg = p + 2 := by rw [y_c2, y_Iadd, y_cl (by omega)]
  have j3 : (nI p + (3 : Int32)).toNatClampNeg = p + 3 := by rw [y_c3, y_Iadd, y_cl (by omega)]
  have j4 : (nI p + (4 : Int32)).toNatClampNeg = p + 4 := by rw [y_c4, y_Iadd, y_cl (by omega)]
  have p5 : nI p + (5 : Int32) = nI (p + 5) := y_Iadd p 5
  obtain ⟨x, T', M', e1, e2, hac, ht2⟩ := p_clear ht
  unfold f_law_C228
  rw [e1, Option.bind_some, e2, Option.bind_some, p5]
  exact (if_pos rfl).trans (hk _ _ _ _ _ _ _ _ _ _ _ _ _ _ _ _ _ _ _ _ _ _ ⟨⟨_, _, ht2⟩, hgw.mono (by omega) hac, hs.mono (by omega)⟩)
theorem l_C241 {xs : Nat → Int32} {L : Nat} {k23 : Int32 → (Nat → Int64) → TT → TE → TR → TW → TW → TP → TP → TM → (Nat → Int32) → (Nat → Int64) → (Nat → Int64) → (Nat → Int64) → (Nat → Int64) → (Nat → Int32) → (Nat → Int64) → (Nat → Int64) → (Nat → Int64) → (Nat → Int32) → (Nat → Int32) → TH → TS → Option Unit} {p N : Nat} {g_o : Nat → Int64} {g_x_text : TT} {g_x_entryReader : TE} {g_x_planReader : TR} {g_x_world : TW} {g_x_copy : TW} {g_x_chosen : TP} {g_x_other : TP} {g_m : TM} {g_m_text : Nat → Int32} {g_m_now : Nat → Int64} {g_m_trial : Nat → Int64} {g_m_diary : Nat → Int64} {g_m_kept : Nat → Int64} {g_m_isKept : Nat → Int32} {g_m_chosenBy : Nat → Int64} {g_m_paidBy : Nat → Int64} {g_m_toPay : Nat → Int64} {g_m_plan : Nat → Int32} {g_m_other : Nat → Int32} {g_x_history : TH} {g_x_slots : TS} (hk : HK k23 (p + 5) (N + 50)) (hg : GS N g_x_text g_x_world g_x_history g_x_slots g_m g_m_text g_m_now g_m_diary g_m_kept g_m_isKept) (hN : N < 500000) (hp : p + 5 ≤ L) (hL : L ≤ 2560) : f_law_C241 xs L k23 (nI p) g_o g_x_text g_x_entryReader g_x_planReader g_x_world g_x_copy g_x_chosen g_x_other g_m g_m_text g_m_now g_m_trial g_m_diary g_m_kept g_m_isKept g_m_chosenBy g_m_paidBy g_m_toPay g_m_plan g_m_other g_x_history g_x_slots = some () := by
  have hg0 := hg
  obtain ⟨⟨Lt, ct, ht⟩, hgw, hs⟩ := hg0
  have hgw0 := hgw
  obtain ⟨⟨ρ, σ, h⟩, -⟩ := hgw0
  have i1 : inb (nI p + (1 : Int32)) L = true := by rw [y_c1, y_Iadd]; exact y_inb (by omega) (by omega)
  have i2 : inb (nI p + (2 : Int32)) L = true := by rw [y_c2, y_Iadd]; exact y_inb (by omega) (by omega)
  have i3 : inb (nI p + (3 : Int32)) L = true := by rw [y_c3, y_Iadd]; exact y_inb (by omega) (by omega)
  have i4 : inb (nI p + (4 : Int32)) L = true := by rw [y_c4, y_Iadd]; exact y_inb (by omega) (by omega)
  have j1 : (nI p + (1 : Int32)).toNatClampNeg = p + 1 := by rw [y_c1, y_Iadd, y_cl (by omega)]
  have j2 : (nI p + (2 : Int32)).toNatClampNeg = p + 2 := by rw [y_c2, y_Iadd, y_cl (by omega)]
  have j3 : (nI p + (3 : Int32)).toNatClampNeg = p + 3 := by rw [y_c3, y_Iadd, y_cl (by omega)]
  have j4 : (nI p + (4 : Int32)).toNatClampNeg = p + 4 := by rw [y_c4, y_Iadd, y_cl (by omega)]
  have p5 : nI p + (5 : Int32) = nI (p + 5) := y_Iadd p 5
  unfold f_law_C241
  rw [if_pos i1, j1]
  by_cases q : xs (p + 1) = (0 : Int32)
  · obtain ⟨x, E', M', tr', e1, e2, hsm⟩ := p_err0 (E := g_x_entryReader) (R := g_x_planReader) (tr := g_m_trial) ht
    rw [if_pos q, e1, Option.bind_some, if_pos i1, if_pos q, e2, Option.bind_some, p5]
    exact (if_pos rfl).trans (hk _ _ _ _ _ _ _ _ _ _ _ _ _ _ _ _ _ _ _ _ _ _ (hg.sm hsm))
  · obtain ⟨x, R', M', e1, e2, hsm⟩ := p_err1 (E := g_x_entryReader) (R := g_x_planReader) (tr := g_m_trial) ht
    rw [if_neg q, e1, Option.bind_some, if_pos i1, if_neg q, e2, Option.bind_some, p5]
    exact (if_pos rfl).trans (hk _ _ _ _ _ _ _ _ _ _ _ _ _ _ _ _ _ _ _ _ _ _ (hg.sm hsm))
theorem l_C282 {xs : Nat → Int32} {L : Nat} {k23 : Int32 → (Nat → Int64) → TT → TE → TR → TW → TW → TP → TP → TM → (Nat → Int32) → (Nat → Int64) → (Nat → Int64) → (Nat → Int64) → (Nat → Int64) → (Nat → Int32) → (Nat → Int64) → (Nat → Int64) → (Nat → Int64) → (Nat → Int32) → (Nat → Int32) → TH → TS → Option Unit} {p N : Nat} {g_o : Nat → Int64} {g_x_text : TT} {g_x_entryReader : TE} {g_x_planReader : TR} {g_x_world : TW} {g_x_copy : TW} {g_x_chosen : TP} {g_x_other : TP} {g_m : TM} {g_m_text : Nat → Int32} {g_m_now : Nat → Int64} {g_m_trial : Nat → Int64} {g_m_diary : Nat → Int64} {g_m_kept : Nat → Int64} {g_m_isKept : Nat → Int32} {g_m_chosenBy : Nat → Int64} {g_m_paidBy : Nat → Int64} {g_m_toPay : Nat → Int64} {g_m_plan : Nat → Int32} {g_m_other : Nat → Int32} {g_x_history : TH} {g_x_slots : TS} (hk : HK k23 (p + 5) (N + 50)) (hg : GS N g_x_text g_x_world g_x_history g_x_slots g_m g_m_text g_m_now g_m_diary g_m_kept g_m_isKept) (hN : N < 500000) (hp : p + 5 ≤ L) (hL : L ≤ 2560) : f_law_C282 xs L k23 (nI p) g_o g_x_text g_x_entryReader g_x_planReader g_x_world g_x_copy g_x_chosen g_x_other g_m g_m_text g_m_now g_m_trial g_m_diary g_m_kept g_m_isKept g_m_chosenBy g_m_paidBy g_m_toPay g_m_plan g_m_other g_x_history g_x_slots = some () := by
  have hg0 := hg
  obtain ⟨⟨Lt, ct, ht⟩, hgw, hs⟩ := hg0
  have hgw0 := hgw
  obtain ⟨⟨ρ, σ, h⟩, -⟩ := hgw0
  have i1 : inb (nI p + (1 : Int32)) L = true := by rw [y_c1, y_Iadd]; exact y_inb (by omega) (by omega)
  have i2 : inb (nI p + (2 : Int32)) L = true := by rw [y_c2, y_Iadd]; exact y_inb (by omega) (by omega)
  have i3 : inb (nI p + (3 : Int32)) L = true := by rw [y_c3, y_Iadd]; exact y_inb (by omega) (by omega)
  have i4 : inb (nI p + (4 : Int32)) L = true := by rw [y_c4, y_Iadd]; exact y_inb (by omega) (by omega)
  have j1 : (nI p + (1 : Int32)).toNatClampNeg = p + 1 := by rw [y_c1, y_Iadd, y_cl (by omega)]
  have j2 : (nI p + (2 : Int32)).toNatClampNeg = p + 2 := by rw [y_c2, y_Iadd, y_cl (by omega)]
  have j3 : (nI p + (3 : Int32)).toNatClampNeg = p + 3 := by rw [y_c3, y_Iadd, y_cl (by omega)]
  have j4 : (nI p + (4 : Int32)).toNatClampNeg = p + 4 := by rw [y_c4, y_Iadd, y_cl (by omega)]
  have p5 : nI p + (5 : Int32) = nI (p + 5) := y_Iadd p 5
  obtain ⟨res, av, E', w', H', S', M', now', tr', isK', e1, e2, hr, hsz, hg2, hs2⟩ := p_load (E := g_x_entryReader) (tr := g_m_trial) ht hgw hs
  obtain ⟨o', f1, f2⟩ := L_load (g_p2 := g_o) e1 hr
  unfold f_law_C282
  rw [f1, Option.bind_some, e2, Option.bind_some, x_thrown, Option.bind_some, p5]
  exact y_law f2 (hk _ _ _ _ _ _ _ _ _ _ _ _ _ _ _ _ _ _ _ _ _ _ (⟨⟨_, _, ht.sm hsz⟩, hg2.mono (by omega) rfl, hs2.mono (by omega)⟩))
theorem l_C326 {xs : Nat → Int32} {L : Nat} {k23 : Int32 → (Nat → Int64) → TT → TE → TR → TW → TW → TP → TP → TM → (Nat → Int32) → (Nat → Int64) → (Nat → Int64) → (Nat → Int64) → (Nat → Int64) → (Nat → Int32) → (Nat → Int64) → (Nat → Int64) → (Nat → Int64) → (Nat → Int32) → (Nat → Int32) → TH → TS → Option Unit} {p N : Nat} {g_o : Nat → Int64} {g_x_text : TT} {g_x_entryReader : TE} {g_x_planReader : TR} {g_x_world : TW} {g_x_copy : TW} {g_x_chosen : TP} {g_x_other : TP} {g_m : TM} {g_m_text : Nat → Int32} {g_m_now : Nat → Int64} {g_m_trial : Nat → Int64} {g_m_diary : Nat → Int64} {g_m_kept : Nat → Int64} {g_m_isKept : Nat → Int32} {g_m_chosenBy : Nat → Int64} {g_m_paidBy : Nat → Int64} {g_m_toPay : Nat → Int64} {g_m_plan : Nat → Int32} {g_m_other : Nat → Int32} {g_x_history : TH} {g_x_slots : TS} (hk : HK k23 (p + 5) (N + 50)) (hg : GS N g_x_text g_x_world g_x_history g_x_slots g_m g_m_text g_m_now g_m_diary g_m_kept g_m_isKept) (hN : N < 500000) (hp : p + 5 ≤ L) (hL : L ≤ 2560) : f_law_C326 xs L k23 (nI p) g_o g_x_text g_x_entryReader g_x_planReader g_x_world g_x_copy g_x_chosen g_x_other g_m g_m_text g_m_now g_m_trial g_m_diary g_m_kept g_m_isKept g_m_chosenBy g_m_paidBy g_m_toPay g_m_plan g_m_other g_x_history g_x_slots = some () := by
  have hg0 := hg
  obtain ⟨⟨Lt, ct, ht⟩, hgw, hs⟩ := hg0
  have hgw0 := hgw
  obtain ⟨⟨ρ, σ, h⟩, -⟩ := hgw0
  have i1 : inb (nI p + (1 : Int32)) L = true := by rw [y_c1, y_Iadd]; exact y_inb (by omega) (by omega)
  have i2 : inb (nI p + (2 : Int32)) L = true := by rw [y_c2, y_Iadd]; exact y_inb (by omega) (by omega)
  have i3 : inb (nI p + (3 : Int32)) L = true := by rw [y_c3, y_Iadd]; exact y_inb (by omega) (by omega)
  have i4 : inb (nI p + (4 : Int32)) L = true := by rw [y_c4, y_Iadd]; exact y_inb (by omega) (by omega)
  have j1 : (nI p + (1 : Int32)).toNatClampNeg = p + 1 := by rw [y_c1, y_Iadd, y_cl (by omega)]
  have j2 : (nI p + (2 : Int32)).toNatClampNeg = p + 2 := by rw [y_c2, y_Iadd, y_cl (by omega)]
  have j3 : (nI p + (3 : Int32)).toNatClampNeg = p + 3 := by rw [y_c3, y_Iadd, y_cl (by omega)]
  have j4 : (nI p + (4 : Int32)).toNatClampNeg = p + 4 := by rw [y_c4, y_Iadd, y_cl (by omega)]
  have p5 : nI p + (5 : Int32) = nI (p + 5) := y_Iadd p 5
  obtain ⟨res, av, M', e1, e2, hr, hsm⟩ := p_about h (xs (p + 1)) g_m
  obtain ⟨o', f1, f2⟩ := L_about (g_p3 := g_o) e1 hr
  unfold f_law_C326
  rw [if_pos i1, j1, f1, Option.bind_some, if_pos i1, e2, Option.bind_some, x_thrown, Option.bind_some, p5]
  exact y_law f2 (hk _ _ _ _ _ _ _ _ _ _ _ _ _ _ _ _ _ _ _ _ _ _ (hg.sm hsm))
theorem l_C382 {xs : Nat → Int32} {L : Nat} {k23 : Int32 → (Nat → Int64) → TT → TE → TR → TW → TW → TP → TP → TM → (Nat → Int32) → (Nat → Int64) → (Nat → Int64) → (Nat → Int64) → (Nat → Int64) → (Nat → Int32) → (Nat → Int64) → (Nat → Int64) → (Nat → Int64) → (Nat → Int32) → (Nat → Int32) → TH → TS → Option Unit} {p N : Nat} {g_o : Nat → Int64} {g_x_text : TT} {g_x_entryReader : TE} {g_x_planReader : TR} {g_x_world : TW} {g_x_copy : TW} {g_x_chosen : TP} {g_x_other : TP} {g_m : TM} {g_m_text : Nat → Int32} {g_m_now : Nat → Int64} {g_m_trial : Nat → Int64} {g_m_diary : Nat → Int64} {g_m_kept : Nat → Int64} {g_m_isKept : Nat → Int32} {g_m_chosenBy : Nat → Int64} {g_m_paidBy : Nat → Int64} {g_m_toPay : Nat → Int64} {g_m_plan : Nat → Int32} {g_m_other : Nat → Int32} {g_x_history : TH} {g_x_slots : TS} (hk : HK k23 (p + 5) (N + 50)) (hg : GS N g_x_text g_x_world g_x_history g_x_slots g_m g_m_text g_m_now g_m_diary g_m_kept g_m_isKept) (hN : N < 500000) (hp : p + 5 ≤ L) (hL : L ≤ 2560) : f_law_C382 xs L k23 (nI p) g_o g_x_text g_x_entryReader g_x_planReader g_x_world g_x_copy g_x_chosen g_x_other g_m g_m_text g_m_now g_m_trial g_m_diary g_m_kept g_m_isKept g_m_chosenBy g_m_paidBy g_m_toPay g_m_plan g_m_other g_x_history g_x_slots = some () := by
  have hg0 := hg
  obtain ⟨⟨Lt, ct, ht⟩, hgw, hs⟩ := hg0
  have hgw0 := hgw
  obtain ⟨⟨ρ, σ, h⟩, -⟩ := hgw0
  have i1 : inb (nI p + (1 : Int32)) L = true := by rw [y_c1, y_Iadd]; exact y_inb (by omega) (by omega)
  have i2 : inb (nI p + (2 : Int32)) L = true := by rw [y_c2, y_Iadd]; exact y_inb (by omega) (by omega)
  have i3 : inb (nI p + (3 : Int32)) L = true := by rw [y_c3, y_Iadd]; exact y_inb (by omega) (by omega)
  have i4 : inb (nI p + (4 : Int32)) L = true := by rw [y_c4, y_Iadd]; exact y_inb (by omega) (by omega)
  have j1 : (nI p + (1 : Int32)).toNatClampNeg = p + 1 := by rw [y_c1, y_Iadd, y_cl (by omega)]
  have j2 : (nI p + (2 : Int32)).toNatClampNeg = p + 2 := by rw [y_c2, y_Iadd, y_cl (by omega)]
  have j3 : (nI p + (3 : Int32)).toNatClampNeg = p + 3 := by rw [y_c3, y_Iadd, y_cl (by omega)]
  have j4 : (nI p + (4 : Int32)).toNatClampNeg = p + 4 := by rw [y_c4, y_Iadd, y_cl (by omega)]
  have p5 : nI p + (5 : Int32) = nI (p + 5) := y_Iadd p 5
  obtain ⟨res, av, M', e1, e2, hr, hsm⟩ := p_sum h (xs (p + 1)) g_m
  obtain ⟨o', f1, f2⟩ := L_sum (g_p3 := g_o) e1 hr
  unfold f_law_C382
  rw [if_pos i1, j1, f1, Option.bind_some, if_pos i1, e2, Option.bind_some, x_thrown, Option.bind_some, p5]
  exact y_law f2 (hk _ _ _ _ _ _ _ _ _ _ _ _ _ _ _ _ _ _ _ _ _ _ (hg.sm hsm))
theorem l_C437 {xs : Nat → Int32} {L : Nat} {k23 : Int32 → (Nat → Int64) → TT → TE → TR → TW → TW → TP → TP → TM → (Nat → Int32) → (Nat → Int64) → (Nat → Int64) → (Nat → Int64) → (Nat → Int64) → (Nat → Int32) → (Nat → Int64) → (Nat → Int64) → (Nat → Int64) → (Nat → Int32) → (Nat → Int32) → TH → TS → Option Unit} {p N : Nat} {g_o : Nat → Int64} {g_x_text : TT} {g_x_entryReader : TE} {g_x_planReader : TR} {g_x_world : TW} {g_x_copy : TW} {g_x_chosen : TP} {g_x_other : TP} {g_m : TM} {g_m_text : Nat → Int32} {g_m_now : Nat → Int64} {g_m_trial : Nat → Int64} {g_m_diary : Nat → Int64} {g_m_kept : Nat → Int64} {g_m_isKept : Nat → Int32} {g_m_chosenBy : Nat → Int64} {g_m_paidBy : Nat → Int64} {g_m_toPay : Nat → Int64} {g_m_plan : Nat → Int32} {g_m_other : Nat → Int32} {g_x_history : TH} {g_x_slots : TS} (hk : HK k23 (p + 5) (N + 50)) (hg : GS N g_x_text g_x_world g_x_history g_x_slots g_m g_m_text g_m_now g_m_diary g_m_kept g_m_isKept) (hN : N < 500000) (hp : p + 5 ≤ L) (hL : L ≤ 2560) : f_law_C437 xs L k23 (nI p) g_o g_x_text g_x_entryReader g_x_planReader g_x_world g_x_copy g_x_chosen g_x_other g_m g_m_text g_m_now g_m_trial g_m_diary g_m_kept g_m_isKept g_m_chosenBy g_m_paidBy g_m_toPay g_m_plan g_m_other g_x_history g_x_slots = some () := by
  have hg0 := hg
  obtain ⟨⟨Lt, ct, ht⟩, hgw, hs⟩ := hg0
  have hgw0 := hgw
  obtain ⟨⟨ρ, σ, h⟩, -⟩ := hgw0
  have i1 : inb (nI p + (1 : Int32)) L = true := by rw [y_c1, y_Iadd]; exact y_inb (by omega) (by omega)
  have i2 : inb (nI p + (2 : Int32)) L = true := by rw [y_c2, y_Iadd]; exact y_inb (by omega) (by omega)
  have i3 : inb (nI p + (3 : Int32)) L = true := by rw [y_c3, y_Iadd]; exact y_inb (by omega) (by omega)
  have i4 : inb (nI p + (4 : Int32)) L = true := by rw [y_c4, y_Iadd]; exact y_inb (by omega) (by omega)
  have j1 : (nI p + (1 : Int32)).toNatClampNeg = p + 1 := by rw [y_c1, y_Iadd, y_cl (by omega)]
  have j2 : (nI p + (2 : Int32)).toNatClampNeg = p + 2 := by rw [y_c2, y_Iadd, y_cl (by omega)]
  have j3 : (nI p + (3 : Int32)).toNatClampNeg = p + 3 := by rw [y_c3, y_Iadd, y_cl (by omega)]
  have j4 : (nI p + (4 : Int32)).toNatClampNeg = p + 4 := by rw [y_c4, y_Iadd, y_cl (by omega)]
  have p5 : nI p + (5 : Int32) = nI (p + 5) := y_Iadd p 5
  obtain ⟨res, av, M', e1, e2, hr, hsm⟩ := p_size h (xs (p + 1)) g_m
  obtain ⟨o', f1, f2⟩ := L_size (g_p3 := g_o) e1 hr
  unfold f_law_C437
  rw [if_pos i1, j1, f1, Option.bind_some, if_pos i1, e2, Option.bind_some, x_thrown, Option.bind_some, p5]
  exact y_law f2 (hk _ _ _ _ _ _ _ _ _ _ _ _ _ _ _ _ _ _ _ _ _ _ (hg.sm hsm))
theorem l_C493 {xs : Nat → Int32} {L : Nat} {k23 : Int32 → (Nat → Int64) → TT → TE → TR → TW → TW → TP → TP → TM → (Nat → Int32) → (Nat → Int64) → (Nat → Int64) → (Nat → Int64) → (Nat → Int64) → (Nat → Int32) → (Nat → Int64) → (Nat → Int64) → (Nat → Int64) → (Nat → Int32) → (Nat → Int32) → TH → TS → Option Unit} {p N : Nat} {g_o : Nat → Int64} {g_x_text : TT} {g_x_entryReader : TE} {g_x_planReader : TR} {g_x_world : TW} {g_x_copy : TW} {g_x_chosen : TP} {g_x_other : TP} {g_m : TM} {g_m_text : Nat → Int32} {g_m_now : Nat → Int64} {g_m_trial : Nat → Int64} {g_m_diary : Nat → Int64} {g_m_kept : Nat → Int64} {g_m_isKept : Nat → Int32} {g_m_chosenBy : Nat → Int64} {g_m_paidBy : Nat → Int64} {g_m_toPay : Nat → Int64} {g_m_plan : Nat → Int32} {g_m_other : Nat → Int32} {g_x_history : TH} {g_x_slots : TS} (hk : HK k23 (p + 5) (N + 50)) (hg : GS N g_x_text g_x_world g_x_history g_x_slots g_m g_m_text g_m_now g_m_diary g_m_kept g_m_isKept) (hN : N < 500000) (hp : p + 5 ≤ L) (hL : L ≤ 2560) : f_law_C493 xs L k23 (nI p) g_o g_x_text g_x_entryReader g_x_planReader g_x_world g_x_copy g_x_chosen g_x_other g_m g_m_text g_m_now g_m_trial g_m_diary g_m_kept g_m_isKept g_m_chosenBy g_m_paidBy g_m_toPay g_m_plan g_m_other g_x_history g_x_slots = some () := by
  have hg0 := hg
  obtain ⟨⟨Lt, ct, ht⟩, hgw, hs⟩ := hg0
  have hgw0 := hgw
  obtain ⟨⟨ρ, σ, h⟩, -⟩ := hgw0
  have i1 : inb (nI p + (1 : Int32)) L = true := by rw [y_c1, y_Iadd]; exact y_inb (by omega) (by omega)
  have i2 : inb (nI p + (2 : Int32)) L = true := by rw [y_c2, y_Iadd]; exact y_inb (by omega) (by omega)
  have i3 : inb (nI p + (3 : Int32)) L = true := by rw [y_c3, y_Iadd]; exact y_inb (by omega) (by omega)
  have i4 : inb (nI p + (4 : Int32)) L = true := by rw [y_c4, y_Iadd]; exact y_inb (by omega) (by omega)
  have j1 : (nI p + (1 : Int32)).toNatClampNeg = p + 1 := by rw [y_c1, y_Iadd, y_cl (by omega)]
  have j2 : (nI p + (2 : Int32)).toNatClampNeg = p + 2 := by rw [y_c2, y_Iadd, y_cl (by omega)]
  have j3 : (nI p + (3 : Int32)).toNatClampNeg = p + 3 := by rw [y_c3, y_Iadd, y_cl (by omega)]
  have j4 : (nI p + (4 : Int32)).toNatClampNeg = p + 4 := by rw [y_c4, y_Iadd, y_cl (by omega)]
  have p5 : nI p + (5 : Int32) = nI (p + 5) := y_Iadd p 5
  obtain ⟨res, av, M', e1, e2, hr, hsm⟩ := p_pair h (xs (p + 1)) (xs (p + 2)) (xs (p + 3)) g_m
  obtain ⟨o', f1, f2⟩ := L_pair (g_p5 := g_o) e1 hr
  unfold f_law_C493
  rw [if_pos i1, if_pos i2, if_pos i3, j1, j2, j3, f1, Option.bind_some, if_pos i1, if_pos i2, if_pos i3, e2, Option.bind_some, x_thrown, Option.bind_some, p5]
  exact y_law f2 (hk _ _ _ _ _ _ _ _ _ _ _ _ _ _ _ _ _ _ _ _ _ _ (hg.sm hsm))
theorem l_C573 {xs : Nat → Int32} {L : Nat} {k23 : Int32 → (Nat → Int64) → TT → TE → TR → TW → TW → TP → TP → TM → (Nat → Int32) → (Nat → Int64) → (Nat → Int64) → (Nat → Int64) → (Nat → Int64) → (Nat → Int32) → (Nat → Int64) → (Nat → Int64) → (Nat → Int64) → (Nat → Int32) → (Nat → Int32) → TH → TS → Option Unit} {p N : Nat} {g_o : Nat → Int64} {g_x_text : TT} {g_x_entryReader : TE} {g_x_planReader : TR} {g_x_world : TW} {g_x_copy : TW} {g_x_chosen : TP} {g_x_other : TP} {g_m : TM} {g_m_text : Nat → Int32} {g_m_now : Nat → Int64} {g_m_trial : Nat → Int64} {g_m_diary : Nat → Int64} {g_m_kept : Nat → Int64} {g_m_isKept : Nat → Int32} {g_m_chosenBy : Nat → Int64} {g_m_paidBy : Nat → Int64} {g_m_toPay : Nat → Int64} {g_m_plan : Nat → Int32} {g_m_other : Nat → Int32} {g_x_history : TH} {g_x_slots : TS} (hk : HK k23 (p + 5) (N + 50)) (hg : GS N g_x_text g_x_world g_x_history g_x_slots g_m g_m_text g_m_now g_m_diary g_m_kept g_m_isKept) (hN : N < 500000) (hp : p + 5 ≤ L) (hL : L ≤ 2560) : f_law_C573 xs L k23 (nI p) g_o g_x_text g_x_entryReader g_x_planReader g_x_world g_x_copy g_x_chosen g_x_other g_m g_m_text g_m_now g_m_trial g_m_diary g_m_kept g_m_isKept g_m_chosenBy g_m_paidBy g_m_toPay g_m_plan g_m_other g_x_history g_x_slots = some () := by
  have hg0 := hg
  obtain ⟨⟨Lt, ct, ht⟩, hgw, hs⟩ := hg0
  have hgw0 := hgw
  obtain ⟨⟨ρ, σ, h⟩, -⟩ := hgw0
  have i1 : inb (nI p + (1 : Int32)) L = true := by rw [y_c1, y_Iadd]; exact y_inb (by omega) (by omega)
  have i2 : inb (nI p + (2 : Int32)) L = true := by rw [y_c2, y_Iadd]; exact y_inb (by omega) (by omega)
  have i3 : inb (nI p + (3 : Int32)) L = true := by rw [y_c3, y_Iadd]; exact y_inb (by omega) (by omega)
  have i4 : inb (nI p + (4 : Int32)) L = true := by rw [y_c4, y_Iadd]; exact y_inb (by omega) (by omega)
  have j1 : (nI p + (1 : Int32)).toNatClampNeg = p + 1 := by rw [y_c1, y_Iadd, y_cl (by omega)]
  have j2 : (nI p + (2 : Int32)).toNatClampNeg = p + 2 := by rw [y_c2, y_Iadd, y_cl (by omega)]
  have j3 : (nI p + (3 : Int32)).toNatClampNeg = p + 3 := by rw [y_c3, y_Iadd, y_cl (by omega)]
  have j4 : (nI p + (4 : Int32)).toNatClampNeg = p + 4 := by rw [y_c4, y_Iadd, y_cl (by omega)]
  have p5 : nI p + (5 : Int32) = nI (p + 5) := y_Iadd p 5
  obtain ⟨res, av, M', e1, e2, hr, hsm⟩ := p_surprise h (by omega) (xs (p + 1)) (xs (p + 2)) g_m
  obtain ⟨o', f1, f2⟩ := L_surprise (g_p4 := g_o) e1 hr
  unfold f_law_C573
  rw [if_pos i1, if_pos i2, j1, j2, f1, Option.bind_some, if_pos i1, if_pos i2, e2, Option.bind_some, x_thrown, Option.bind_some, p5]
  exact y_law f2 (hk _ _ _ _ _ _ _ _ _ _ _ _ _ _ _ _ _ _ _ _ _ _ (hg.sm hsm))
theorem l_C641 {xs : Nat → Int32} {L : Nat} {k23 : Int32 → (Nat → Int64) → TT → TE → TR → TW → TW → TP → TP → TM → (Nat → Int32) → (Nat → Int64) → (Nat → Int64) → (Nat → Int64) → (Nat → Int64) → (Nat → Int32) → (Nat → Int64) → (Nat → Int64) → (Nat → Int64) → (Nat → Int32) → (Nat → Int32) → TH → TS → Option Unit} {p N : Nat} {g_o : Nat → Int64} {g_x_text : TT} {g_x_entryReader : TE} {g_x_planReader : TR} {g_x_world : TW} {g_x_copy : TW} {g_x_chosen : TP} {g_x_other : TP} {g_m : TM} {g_m_text : Nat → Int32} {g_m_now : Nat → Int64} {g_m_trial : Nat → Int64} {g_m_diary : Nat → Int64} {g_m_kept : Nat → Int64} {g_m_isKept : Nat → Int32} {g_m_chosenBy : Nat → Int64} {g_m_paidBy : Nat → Int64} {g_m_toPay : Nat → Int64} {g_m_plan : Nat → Int32} {g_m_other : Nat → Int32} {g_x_history : TH} {g_x_slots : TS} (hk : HK k23 (p + 5) (N + 50)) (hg : GS N g_x_text g_x_world g_x_history g_x_slots g_m g_m_text g_m_now g_m_diary g_m_kept g_m_isKept) (hN : N < 500000) (hp : p + 5 ≤ L) (hL : L ≤ 2560) : f_law_C641 xs L k23 (nI p) g_o g_x_text g_x_entryReader g_x_planReader g_x_world g_x_copy g_x_chosen g_x_other g_m g_m_text g_m_now g_m_trial g_m_diary g_m_kept g_m_isKept g_m_chosenBy g_m_paidBy g_m_toPay g_m_plan g_m_other g_x_history g_x_slots = some () := by
  have hg0 := hg
  obtain ⟨⟨Lt, ct, ht⟩, hgw, hs⟩ := hg0
  have hgw0 := hgw
  obtain ⟨⟨ρ, σ, h⟩, -⟩ := hgw0
  have i1 : inb (nI p + (1 : Int32)) L = true := by rw [y_c1, y_Iadd]; exact y_inb (by omega) (by omega)
  have i2 : inb (nI p + (2 : Int32)) L = true := by rw [y_c2, y_Iadd]; exact y_inb (by omega) (by omega)
  have i3 : inb (nI p + (3 : Int32)) L = true := by rw [y_c3, y_Iadd]; exact y_inb (by omega) (by omega)
  have i4 : inb (nI p + (4 : Int32)) L = true := by rw [y_c4, y_Iadd]; exact y_inb (by omega) (by omega)
  have j1 : (nI p + (1 : Int32)).toNatClampNeg = p + 1 := by rw [y_c1, y_Iadd, y_cl (by omega)]
  have j2 : (nI p + (2 : Int32)).toNatClampNeg = p + 2 := by rw [y_c2, y_Iadd, y_cl (by omega)]
  have j3 : (nI p + (3 : Int32)).toNatClampNeg = p + 3 := by rw [y_c3, y_Iadd, y_cl (by omega)]
  have j4 : (nI p + (4 : Int32)).toNatClampNeg = p + 4 := by rw [y_c4, y_Iadd, y_cl (by omega)]
  have p5 : nI p + (5 : Int32) = nI (p + 5) := y_Iadd p 5
  obtain ⟨res, av, M', e1, e2, hr, hsm⟩ := p_setting h (xs (p + 1)) g_m
  obtain ⟨o', f1, f2⟩ := L_setting (g_p3 := g_o) e1 hr
  unfold f_law_C641
  rw [if_pos i1, j1, f1, Option.bind_some, if_pos i1, e2, Option.bind_some, x_thrown, Option.bind_some, p5]
  exact y_law f2 (hk _ _ _ _ _ _ _ _ _ _ _ _ _ _ _ _ _ _ _ _ _ _ (hg.sm hsm))
theorem l_C697 {xs : Nat → Int32} {L : Nat} {k23 : Int32 → (Nat → Int64) → TT → TE → TR → TW → TW → TP → TP → TM → (Nat → Int32) → (Nat → Int64) → (Nat → Int64) → (Nat → Int64) → (Nat → Int64) → (Nat → Int32) → (Nat → Int64) → (Nat → Int64) → (Nat → Int64) → (Nat → Int32) → (Nat → Int32) → TH → TS → Option Unit} {p N : Nat} {g_o : Nat → Int64} {g_x_text : TT} {g_x_entryReader : TE} {g_x_planReader : TR} {g_x_world : TW} {g_x_copy : TW} {g_x_chosen : TP} {g_x_other : TP} {g_m : TM} {g_m_text : Nat → Int32} {g_m_now : Nat → Int64} {g_m_trial : Nat → Int64} {g_m_diary : Nat → Int64} {g_m_kept : Nat → Int64} {g_m_isKept : Nat → Int32} {g_m_chosenBy : Nat → Int64} {g_m_paidBy : Nat → Int64} {g_m_toPay : Nat → Int64} {g_m_plan : Nat → Int32} {g_m_other : Nat → Int32} {g_x_history : TH} {g_x_slots : TS} (hk : HK k23 (p + 5) (N + 50)) (hg : GS N g_x_text g_x_world g_x_history g_x_slots g_m g_m_text g_m_now g_m_diary g_m_kept g_m_isKept) (hN : N < 500000) (hp : p + 5 ≤ L) (hL : L ≤ 2560) : f_law_C697 xs L k23 (nI p) g_o g_x_text g_x_entryReader g_x_planReader g_x_world g_x_copy g_x_chosen g_x_other g_m g_m_text g_m_now g_m_trial g_m_diary g_m_kept g_m_isKept g_m_chosenBy g_m_paidBy g_m_toPay g_m_plan g_m_other g_x_history g_x_slots = some () := by
  have hg0 := hg
  obtain ⟨⟨Lt, ct, ht⟩, hgw, hs⟩ := hg0
  have hgw0 := hgw
  obtain ⟨⟨ρ, σ, h⟩, -⟩ := hgw0
  have i1 : inb (nI p + (1 : Int32)) L = true := by rw [y_c1, y_Iadd]; exact y_inb (by omega) (by omega)
  have i2 : inb (nI p + (2 : Int32)) L = true := by rw [y_c2, y_Iadd]; exact y_inb (by omega) (by omega)
  have i3 : inb (nI p + (3 : Int32)) L = true := by rw [y_c3, y_Iadd]; exact y_inb (by omega) (by omega)
  have i4 : inb (nI p + (4 : Int32)) L = true := by rw [y_c4, y_Iadd]; exact y_inb (by omega) (by omega)
  have j1 : (nI p + (1 : Int32)).toNatClampNeg = p + 1 := by rw [y_c1, y_Iadd, y_cl (by omega)]
  have j2 : (nI p + (2 : Int32)).toNatClampNeg = p + 2 := by rw [y_c2, y_Iadd, y_cl (by omega)]
  have j3 : (nI p + (3 : Int32)).toNatClampNeg = p + 3 := by rw [y_c3, y_Iadd, y_cl (by omega)]
  have j4 : (nI p + (4 : Int32)).toNatClampNeg = p + 4 := by rw [y_c4, y_Iadd, y_cl (by omega)]
  have p5 : nI p + (5 : Int32) = nI (p + 5) := y_Iadd p 5
  obtain ⟨res, av, w', H', M', now', dia', e1, e2, hr, hsz, hg2⟩ := p_add hgw (xs (p + 1))
  obtain ⟨o', f1, f2⟩ := L_add (g_p3 := g_o) e1 hr
  unfold f_law_C697
  rw [if_pos i1, j1, f1, Option.bind_some, if_pos i1, e2, Option.bind_some, x_thrown, Option.bind_some, p5]
  exact y_law f2 (hk _ _ _ _ _ _ _ _ _ _ _ _ _ _ _ _ _ _ _ _ _ _ (⟨⟨_, _, ht.sm hsz⟩, hg2, hs.mono (by omega)⟩))
theorem l_C753 {xs : Nat → Int32} {L : Nat} {k23 : Int32 → (Nat → Int64) → TT → TE → TR → TW → TW → TP → TP → TM → (Nat → Int32) → (Nat → Int64) → (Nat → Int64) → (Nat → Int64) → (Nat → Int64) → (Nat → Int32) → (Nat → Int64) → (Nat → Int64) → (Nat → Int64) → (Nat → Int32) → (Nat → Int32) → TH → TS → Option Unit} {p N : Nat} {g_o : Nat → Int64} {g_x_text : TT} {g_x_entryReader : TE} {g_x_planReader : TR} {g_x_world : TW} {g_x_copy : TW} {g_x_chosen : TP} {g_x_other : TP} {g_m : TM} {g_m_text : Nat → Int32} {g_m_now : Nat → Int64} {g_m_trial : Nat → Int64} {g_m_diary : Nat → Int64} {g_m_kept : Nat → Int64} {g_m_isKept : Nat → Int32} {g_m_chosenBy : Nat → Int64} {g_m_paidBy : Nat → Int64} {g_m_toPay : Nat → Int64} {g_m_plan : Nat → Int32} {g_m_other : Nat → Int32} {g_x_history : TH} {g_x_slots : TS} (hk : HK k23 (p + 5) (N + 50)) (hg : GS N g_x_text g_x_world g_x_history g_x_slots g_m g_m_text g_m_now g_m_diary g_m_kept g_m_isKept) (hN : N < 500000) (hp : p + 5 ≤ L) (hL : L ≤ 2560) : f_law_C753 xs L k23 (nI p) g_o g_x_text g_x_entryReader g_x_planReader g_x_world g_x_copy g_x_chosen g_x_other g_m g_m_text g_m_now g_m_trial g_m_diary g_m_kept g_m_isKept g_m_chosenBy g_m_paidBy g_m_toPay g_m_plan g_m_other g_x_history g_x_slots = some () := by
  have hg0 := hg
  obtain ⟨⟨Lt, ct, ht⟩, hgw, hs⟩ := hg0
  have hgw0 := hgw
  obtain ⟨⟨ρ, σ, h⟩, -⟩ := hgw0
  have i1 : inb (nI p + (1 : Int32)) L = true := by rw [y_c1, y_Iadd]; exact y_inb (by omega) (by omega)
  have i2 : inb (nI p + (2 : Int32)) L = true := by rw [y_c2, y_Iadd]; exact y_inb (by omega) (by omega)
  have i3 : inb (nI p + (3 : Int32)) L = true := by rw [y_c3, y_Iadd]; exact y_inb (by omega) (by omega)
  have i4 : inb (nI p + (4 : Int32)) L = true := by rw [y_c4, y_Iadd]; exact y_inb (by omega) (by omega)
  have j1 : (nI p + (1 : Int32)).toNatClampNeg = p + 1 := by rw [y_c1, y_Iadd, y_cl (by omega)]
  have j2 : (nI p + (2 : Int32)).toNatClampNeg = p + 2 := by rw [y_c2, y_Iadd, y_cl (by omega)]
  have j3 : (nI p + (3 : Int32)).toNatClampNeg = p + 3 := by rw [y_c3, y_Iadd, y_cl (by omega)]
  have j4 : (nI p + (4 : Int32)).toNatClampNeg = p + 4 := by rw [y_c4, y_Iadd, y_cl (by omega)]
  have p5 : nI p + (5 : Int32) = nI (p + 5) := y_Iadd p 5
  obtain ⟨res, av, w', H', M', now', dia', e1, e2, hr, hsz, hg2⟩ := p_resize hgw (xs (p + 1)) (xs (p + 2))
  obtain ⟨o', f1, f2⟩ := L_resize (g_p4 := g_o) e1 hr
  unfold f_law_C753
  rw [if_pos i1, if_pos i2, j1, j2, f1, Option.bind_some, if_pos i1, if_pos i2, e2, Option.bind_some, x_thrown, Option.bind_some, p5]
  exact y_law f2 (hk _ _ _ _ _ _ _ _ _ _ _ _ _ _ _ _ _ _ _ _ _ _ (⟨⟨_, _, ht.sm hsz⟩, hg2, hs.mono (by omega)⟩))
theorem l_C821 {xs : Nat → Int32} {L : Nat} {k23 : Int32 → (Nat → Int64) → TT → TE → TR → TW → TW → TP → TP → TM → (Nat → Int32) → (Nat → Int64) → (Nat → Int64) → (Nat → Int64) → (Nat → Int64) → (Nat → Int32) → (Nat → Int64) → (Nat → Int64) → (Nat → Int64) → (Nat → Int32) → (Nat → Int32) → TH → TS → Option Unit} {p N : Nat} {g_o : Nat → Int64} {g_x_text : TT} {g_x_entryReader : TE} {g_x_planReader : TR} {g_x_world : TW} {g_x_copy : TW} {g_x_chosen : TP} {g_x_other : TP} {g_m : TM} {g_m_text : Nat → Int32} {g_m_now : Nat → Int64} {g_m_trial : Nat → Int64} {g_m_diary : Nat → Int64} {g_m_kept : Nat → Int64} {g_m_isKept : Nat → Int32} {g_m_chosenBy : Nat → Int64} {g_m_paidBy : Nat → Int64} {g_m_toPay : Nat → Int64} {g_m_plan : Nat → Int32} {g_m_other : Nat → Int32} {g_x_history : TH} {g_x_slots : TS} (hk : HK k23 (p + 5) (N + 50)) (hg : GS N g_x_text g_x_world g_x_history g_x_slots g_m g_m_text g_m_now g_m_diary g_m_kept g_m_isKept) (hN : N < 500000) (hp : p + 5 ≤ L) (hL : L ≤ 2560) : f_law_C821 xs L k23 (nI p) g_o g_x_text g_x_entryReader g_x_planReader g_x_world g_x_copy g_x_chosen g_x_other g_m g_m_text g_m_now g_m_trial g_m_diary g_m_kept g_m_isKept g_m_chosenBy g_m_paidBy g_m_toPay g_m_plan g_m_other g_x_history g_x_slots = some () := by
  have hg0 := hg
  obtain ⟨⟨Lt, ct, ht⟩, hgw, hs⟩ := hg0
  have hgw0 := hgw
  obtain ⟨⟨ρ, σ, h⟩, -⟩ := hgw0
  have i1 : inb (nI p + (1 : Int32)) L = true := by rw [y_c1, y_Iadd]; exact y_inb (by omega) (by omega)
  have i2 : inb (nI p + (2 : Int32)) L = true := by rw [y_c2, y_Iadd]; exact y_inb (by omega) (by omega)
  have i3 : inb (nI p + (3 : Int32)) L = true := by rw [y_c3, y_Iadd]; exact y_inb (by omega) (by omega)
  have i4 : inb (nI p + (4 : Int32)) L = true := by rw [y_c4, y_Iadd]; exact y_inb (by omega) (by omega)
  have j1 : (nI p + (1 : Int32)).toNatClampNeg = p + 1 := by rw [y_c1, y_Iadd, y_cl (by omega)]
  have j2 : (nI p + (2 : Int32)).toNatClampNeg = p + 2 := by rw [y_c2, y_Iadd, y_cl (by omega)]
  have j3 : (nI p + (3 : Int32)).toNatClampNeg = p + 3 := by rw [y_c3, y_Iadd, y_cl (by omega)]
  have j4 : (nI p + (4 : Int32)).toNatClampNeg = p + 4 := by rw [y_c4, y_Iadd, y_cl (by omega)]
  have p5 : nI p + (5 : Int32) = nI (p + 5) := y_Iadd p 5
  obtain ⟨res, av, w', H', M', now', dia', e1, e2, hr, hsz, hg2⟩ := p_link hgw (xs (p + 1)) (xs (p + 2)) (xs (p + 3)) (xs (p + 4))
  obtain ⟨o', f1, f2⟩ := L_link (g_p6 := g_o) e1 hr
  unfold f_law_C821
  rw [if_pos i1, if_pos i2, if_pos i3, if_pos i4, j1, j2, j3, j4, f1, Option.bind_some, if_pos i1, if_pos i2, if_pos i3, if_pos i4, e2, Option.bind_some, x_thrown, Option.bind_some, p5]
  exact y_law f2 (hk _ _ _ _ _ _ _ _ _ _ _ _ _ _ _ _ _ _ _ _ _ _ (⟨⟨_, _, ht.sm hsz⟩, hg2, hs.mono (by omega)⟩))
theorem l_C913 {xs : Nat → Int32} {L : Nat} {k23 : Int32 → (Nat → Int64) → TT → TE → TR → TW → TW → TP → TP → TM → (Nat → Int32) → (Nat → Int64) → (Nat → Int64) → (Nat → Int64) → (Nat → Int64) → (Nat → Int32) → (Nat → Int64) → (Nat → Int64) → (Nat → Int64) → (Nat → Int32) → (Nat → Int32) → TH → TS → Option Unit} {p N : Nat} {g_o : Nat → Int64} {g_x_text : TT} {g_x_entryReader : TE} {g_x_planReader : TR} {g_x_world : TW} {g_x_copy : TW} {g_x_chosen : TP} {g_x_other : TP} {g_m : TM} {g_m_text : Nat → Int32} {g_m_now : Nat → Int64} {g_m_trial : Nat → Int64} {g_m_diary : Nat → Int64} {g_m_kept : Nat → Int64} {g_m_isKept : Nat → Int32} {g_m_chosenBy : Nat → Int64} {g_m_paidBy : Nat → Int64} {g_m_toPay : Nat → Int64} {g_m_plan : Nat → Int32} {g_m_other : Nat → Int32} {g_x_history : TH} {g_x_slots : TS} (hk : HK k23 (p + 5) (N + 50)) (hg : GS N g_x_text g_x_world g_x_history g_x_slots g_m g_m_text g_m_now g_m_diary g_m_kept g_m_isKept) (hN : N < 500000) (hp : p + 5 ≤ L) (hL : L ≤ 2560) : f_law_C913 xs L k23 (nI p) g_o g_x_text g_x_entryReader g_x_planReader g_x_world g_x_copy g_x_chosen g_x_other g_m g_m_text g_m_now g_m_trial g_m_diary g_m_kept g_m_isKept g_m_chosenBy g_m_paidBy g_m_toPay g_m_plan g_m_other g_x_history g_x_slots = some () := by
  have hg0 := hg
  obtain ⟨⟨Lt, ct, ht⟩, hgw, hs⟩ := hg0
  have hgw0 := hgw
  obtain ⟨⟨ρ, σ, h⟩, -⟩ := hgw0
  have i1 : inb (nI p + (1 : Int32)) L = true := by rw [y_c1, y_Iadd]; exact y_inb (by omega) (by omega)
  have i2 : inb (nI p + (2 : Int32)) L = true := by rw [y_c2, y_Iadd]; exact y_inb (by omega) (by omega)
  have i3 : inb (nI p + (3 : Int32)) L = true := by rw [y_c3, y_Iadd]; exact y_inb (by omega) (by omega)
  have i4 : inb (nI p + (4 : Int32)) L = true := by rw [y_c4, y_Iadd]; exact y_inb (by omega) (by omega)
  have j1 : (nI p + (1 : Int32)).toNatClampNeg = p + 1 := by rw [y_c1, y_Iadd, y_cl (by omega)]
  have j2 : (nI p + (2 : Int32)).toNatClampNeg = p + 2 := by rw [y_c2, y_Iadd, y_cl (by omega)]
  have j3 : (nI p + (3 : Int32)).toNatClampNeg = p + 3 := by rw [y_c3, y_Iadd, y_cl (by omega)]
  have j4 : (nI p + (4 : Int32)).toNatClampNeg = p + 4 := by rw [y_c4, y_Iadd, y_cl (by omega)]
  have p5 : nI p + (5 : Int32) = nI (p + 5) := y_Iadd p 5
  obtain ⟨res, av, w', H', M', now', dia', e1, e2, hr, hsz, hg2⟩ := p_drift hgw (xs (p + 1)) (xs (p + 2)) (xs (p + 3))
  obtain ⟨o', f1, f2⟩ := L_drift (g_p5 := g_o) e1 hr
  unfold f_law_C913
  rw [if_pos i1, if_pos i2, if_pos i3, j1, j2, j3, f1, Option.bind_some, if_pos i1, if_pos i2, if_pos i3, e2, Option.bind_some, x_thrown, Option.bind_some, p5]
  exact y_law f2 (hk _ _ _ _ _ _ _ _ _ _ _ _ _ _ _ _ _ _ _ _ _ _ (⟨⟨_, _, ht.sm hsz⟩, hg2, hs.mono (by omega)⟩))
theorem l_C993 {xs : Nat → Int32} {L : Nat} {k23 : Int32 → (Nat → Int64) → TT → TE → TR → TW → TW → TP → TP → TM → (Nat → Int32) → (Nat → Int64) → (Nat → Int64) → (Nat → Int64) → (Nat → Int64) → (Nat → Int32) → (Nat → Int64) → (Nat → Int64) → (Nat → Int64) → (Nat → Int32) → (Nat → Int32) → TH → TS → Option Unit} {p N : Nat} {g_o : Nat → Int64} {g_x_text : TT} {g_x_entryReader : TE} {g_x_planReader : TR} {g_x_world : TW} {g_x_copy : TW} {g_x_chosen : TP} {g_x_other : TP} {g_m : TM} {g_m_text : Nat → Int32} {g_m_now : Nat → Int64} {g_m_trial : Nat → Int64} {g_m_diary : Nat → Int64} {g_m_kept : Nat → Int64} {g_m_isKept : Nat → Int32} {g_m_chosenBy : Nat → Int64} {g_m_paidBy : Nat → Int64} {g_m_toPay : Nat → Int64} {g_m_plan : Nat → Int32} {g_m_other : Nat → Int32} {g_x_history : TH} {g_x_slots : TS} (hk : HK k23 (p + 5) (N + 50)) (hg : GS N g_x_text g_x_world g_x_history g_x_slots g_m g_m_text g_m_now g_m_diary g_m_kept g_m_isKept) (hN : N < 500000) (hp : p + 5 ≤ L) (hL : L ≤ 2560) : f_law_C993 xs L k23 (nI p) g_o g_x_text g_x_entryReader g_x_planReader g_x_world g_x_copy g_x_chosen g_x_other g_m g_m_text g_m_now g_m_trial g_m_diary g_m_kept g_m_isKept g_m_chosenBy g_m_paidBy g_m_toPay g_m_plan g_m_other g_x_history g_x_slots = some () := by
  have hg0 := hg
  obtain ⟨⟨Lt, ct, ht⟩, hgw, hs⟩ := hg0
  have hgw0 := hgw
  obtain ⟨⟨ρ, σ, h⟩, -⟩ := hgw0
  have i1 : inb (nI p + (1 : Int32)) L = true := by rw [y_c1, y_Iadd]; exact y_inb (by omega) (by omega)
  have i2 : inb (nI p + (2 : Int32)) L = true := by rw [y_c2, y_Iadd]; exact y_inb (by omega) (by omega)
  have i3 : inb (nI p + (3 : Int32)) L = true := by rw [y_c3, y_Iadd]; exact y_inb (by omega) (by omega)
  have i4 : inb (nI p + (4 : Int32)) L = true := by rw [y_c4, y_Iadd]; exact y_inb (by omega) (by omega)
  have j1 : (nI p + (1 : Int32)).toNatClampNeg = p + 1 := by rw [y_c1, y_Iadd, y_cl (by omega)]
  have j2 : (nI p + (2 : Int32)).toNatClampNeg = p + 2 := by rw [y_c2, y_Iadd, y_cl (by omega)]
  have j3 : (nI p + (3 : Int32)).toNatClampNeg = p + 3 := by rw [y_c3, y_Iadd, y_cl (by omega)]
  have j4 : (nI p + (4 : Int32)).toNatClampNeg = p + 4 := by rw [y_c4, y_Iadd, y_cl (by omega)]
  have p5 : nI p + (5 : Int32) = nI (p + 5) := y_Iadd p 5
  obtain ⟨res, av, w', P1', P2', H', M', now', dia', cb', pb', tp', pl', e1, e2, hr, hsz, hg2⟩ := p_run (P1 := g_x_chosen) (P2 := g_x_other) (cb := g_m_chosenBy) (tp := g_m_toPay) (pl := g_m_plan) (pb := g_m_paidBy) hgw (by omega) (xs (p + 1))
  obtain ⟨o', f1, f2⟩ := L_run (g_p3 := g_o) e1 hr
  unfold f_law_C993
  rw [if_pos i1, j1, f1, Option.bind_some, if_pos i1, e2, Option.bind_some, x_thrown, Option.bind_some, p5]
  exact y_law f2 (hk _ _ _ _ _ _ _ _ _ _ _ _ _ _ _ _ _ _ _ _ _ _ (⟨⟨_, _, ht.sm hsz⟩, hg2, hs.mono (by omega)⟩))
theorem l_C1049 {xs : Nat → Int32} {L : Nat} {k23 : Int32 → (Nat → Int64) → TT → TE → TR → TW → TW → TP → TP → TM → (Nat → Int32) → (Nat → Int64) → (Nat → Int64) → (Nat → Int64) → (Nat → Int64) → (Nat → Int32) → (Nat → Int64) → (Nat → Int64) → (Nat → Int64) → (Nat → Int32) → (Nat → Int32) → TH → TS → Option Unit} {p N : Nat} {g_o : Nat → Int64} {g_x_text : TT} {g_x_entryReader : TE} {g_x_planReader : TR} {g_x_world : TW} {g_x_copy : TW} {g_x_chosen : TP} {g_x_other : TP} {g_m : TM} {g_m_text : Nat → Int32} {g_m_now : Nat → Int64} {g_m_trial : Nat → Int64} {g_m_diary : Nat → Int64} {g_m_kept : Nat → Int64} {g_m_isKept : Nat → Int32} {g_m_chosenBy : Nat → Int64} {g_m_paidBy : Nat → Int64} {g_m_toPay : Nat → Int64} {g_m_plan : Nat → Int32} {g_m_other : Nat → Int32} {g_x_history : TH} {g_x_slots : TS} (hk : HK k23 (p + 5) (N + 50)) (hg : GS N g_x_text g_x_world g_x_history g_x_slots g_m g_m_text g_m_now g_m_diary g_m_kept g_m_isKept) (hN : N < 500000) (hp : p + 5 ≤ L) (hL : L ≤ 2560) : f_law_C1049 xs L k23 (nI p) g_o g_x_text g_x_entryReader g_x_planReader g_x_world g_x_copy g_x_chosen g_x_other g_m g_m_text g_m_now g_m_trial g_m_diary g_m_kept g_m_isKept g_m_chosenBy g_m_paidBy g_m_toPay g_m_plan g_m_other g_x_history g_x_slots = some () := by
  have hg0 := hg
  obtain ⟨⟨Lt, ct, ht⟩, hgw, hs⟩ := hg0
  have hgw0 := hgw
  obtain ⟨⟨ρ, σ, h⟩, -⟩ := hgw0
  have i1 : inb (nI p + (1 : Int32)) L = true := by rw [y_c1, y_Iadd]; exact y_inb (by omega) (by omega)
  have i2 : inb (nI p + (2 : Int32)) L = true := by rw [y_c2, y_Iadd]; exact y_inb (by omega) (by omega)
  have i3 : inb (nI p + (3 : Int32)) L = true := by rw [y_c3, y_Iadd]; exact y_inb (by omega) (by omega)
  have i4 : inb (nI p + (4 : Int32)) L = true := by rw [y_c4, y_Iadd]; exact y_inb (by omega) (by omega)
  have j1 : (nI p + (1 : Int32)).toNatClampNeg = p + 1 := by rw [y_c1, y_Iadd, y_cl (by omega)]
  have j2 : (nI p + (2 : Int32)).toNatClampNeg = p + 2 := by rw [y_c2, y_Iadd, y_cl (by omega)]
  have j3 : (nI p + (3 : Int32)).toNatClampNeg = p + 3 := by rw [y_c3, y_Iadd, y_cl (by omega)]
  have j4 : (nI p + (4 : Int32)).toNatClampNeg = p + 4 := by rw [y_c4, y_Iadd, y_cl (by omega)]
  have p5 : nI p + (5 : Int32) = nI (p + 5) := y_Iadd p 5
  obtain ⟨res, av, w', H', M', now', dia', e1, e2, hr, hsz, hg2⟩ := p_weeks hgw (by omega) (xs (p + 1))
  obtain ⟨o', f1, f2⟩ := L_weeks (g_p3 := g_o) e1 hr
  unfold f_law_C1049
  rw [if_pos i1, j1, f1, Option.bind_some, if_pos i1, e2, Option.bind_some, x_thrown, Option.bind_some, p5]
  exact y_law f2 (hk _ _ _ _ _ _ _ _ _ _ _ _ _ _ _ _ _ _ _ _ _ _ (⟨⟨_, _, ht.sm hsz⟩, hg2, hs.mono (by omega)⟩))
theorem l_C1105 {xs : Nat → Int32} {L : Nat} {k23 : Int32 → (Nat → Int64) → TT → TE → TR → TW → TW → TP → TP → TM → (Nat → Int32) → (Nat → Int64) → (Nat → Int64) → (Nat → Int64) → (Nat → Int64) → (Nat → Int32) → (Nat → Int64) → (Nat → Int64) → (Nat → Int64) → (Nat → Int32) → (Nat → Int32) → TH → TS → Option Unit} {p N : Nat} {g_o : Nat → Int64} {g_x_text : TT} {g_x_entryReader : TE} {g_x_planReader : TR} {g_x_world : TW} {g_x_copy : TW} {g_x_chosen : TP} {g_x_other : TP} {g_m : TM} {g_m_text : Nat → Int32} {g_m_now : Nat → Int64} {g_m_trial : Nat → Int64} {g_m_diary : Nat → Int64} {g_m_kept : Nat → Int64} {g_m_isKept : Nat → Int32} {g_m_chosenBy : Nat → Int64} {g_m_paidBy : Nat → Int64} {g_m_toPay : Nat → Int64} {g_m_plan : Nat → Int32} {g_m_other : Nat → Int32} {g_x_history : TH} {g_x_slots : TS} (hk : HK k23 (p + 5) (N + 50)) (hg : GS N g_x_text g_x_world g_x_history g_x_slots g_m g_m_text g_m_now g_m_diary g_m_kept g_m_isKept) (hN : N < 500000) (hp : p + 5 ≤ L) (hL : L ≤ 2560) : f_law_C1105 xs L k23 (nI p) g_o g_x_text g_x_entryReader g_x_planReader g_x_world g_x_copy g_x_chosen g_x_other g_m g_m_text g_m_now g_m_trial g_m_diary g_m_kept g_m_isKept g_m_chosenBy g_m_paidBy g_m_toPay g_m_plan g_m_other g_x_history g_x_slots = some () := by
  have hg0 := hg
  obtain ⟨⟨Lt, ct, ht⟩, hgw, hs⟩ := hg0
  have hgw0 := hgw
  obtain ⟨⟨ρ, σ, h⟩, -⟩ := hgw0
  have i1 : inb (nI p + (1 : Int32)) L = true := by rw [y_c1, y_Iadd]; exact y_inb (by omega) (by omega)
  have i2 : inb (nI p + (2 : Int32)) L = true := by rw [y_c2, y_Iadd]; exact y_inb (by omega) (by omega)
  have i3 : inb (nI p + (3 : Int32)) L = true := by rw [y_c3, y_Iadd]; exact y_inb (by omega) (by omega)
  have i4 : inb (nI p + (4 : Int32)) L = true := by rw [y_c4, y_Iadd]; exact y_inb (by omega) (by omega)
  have j1 : (nI p + (1 : Int32)).toNatClampNeg = p + 1 := by rw [y_c1, y_Iadd, y_cl (by omega)]
  have j2 : (nI p + (2 : Int32)).toNatClampNeg = p + 2 := by rw [y_c2, y_Iadd, y_cl (by omega)]
  have j3 : (nI p + (3 : Int32)).toNatClampNeg = p + 3 := by rw [y_c3, y_Iadd, y_cl (by omega)]
  have j4 : (nI p + (4 : Int32)).toNatClampNeg = p + 4 := by rw [y_c4, y_Iadd, y_cl (by omega)]
  have p5 : nI p + (5 : Int32) = nI (p + 5) := y_Iadd p 5
  obtain ⟨res, av, w', H', M', now', dia', e1, e2, hr, hsz, hg2⟩ := p_set hgw (xs (p + 1)) (xs (p + 2))
  obtain ⟨o', f1, f2⟩ := L_set (g_p4 := g_o) e1 hr
  unfold f_law_C1105
  rw [if_pos i1, if_pos i2, j1, j2, f1, Option.bind_some, if_pos i1, if_pos i2, e2, Option.bind_some, x_thrown, Option.bind_some, p5]
  exact y_law f2 (hk _ _ _ _ _ _ _ _ _ _ _ _ _ _ _ _ _ _ _ _ _ _ (⟨⟨_, _, ht.sm hsz⟩, hg2, hs.mono (by omega)⟩))
theorem l_C1173 {xs : Nat → Int32} {L : Nat} {k23 : Int32 → (Nat → Int64) → TT → TE → TR → TW → TW → TP → TP → TM → (Nat → Int32) → (Nat → Int64) → (Nat → Int64) → (Nat → Int64) → (Nat → Int64) → (Nat → Int32) → (Nat → Int64) → (Nat → Int64) → (Nat → Int64) → (Nat → Int32) → (Nat → Int32) → TH → TS → Option Unit} {p N : Nat} {g_o : Nat → Int64} {g_x_text : TT} {g_x_entryReader : TE} {g_x_planReader : TR} {g_x_world : TW} {g_x_copy : TW} {g_x_chosen : TP} {g_x_other : TP} {g_m : TM} {g_m_text : Nat → Int32} {g_m_now : Nat → Int64} {g_m_trial : Nat → Int64} {g_m_diary : Nat → Int64} {g_m_kept : Nat → Int64} {g_m_isKept : Nat → Int32} {g_m_chosenBy : Nat → Int64} {g_m_paidBy : Nat → Int64} {g_m_toPay : Nat → Int64} {g_m_plan : Nat → Int32} {g_m_other : Nat → Int32} {g_x_history : TH} {g_x_slots : TS} (hk : HK k23 (p + 5) (N + 50)) (hg : GS N g_x_text g_x_world g_x_history g_x_slots g_m g_m_text g_m_now g_m_diary g_m_kept g_m_isKept) (hN : N < 500000) (hp : p + 5 ≤ L) (hL : L ≤ 2560) : f_law_C1173 xs L k23 (nI p) g_o g_x_text g_x_entryReader g_x_planReader g_x_world g_x_copy g_x_chosen g_x_other g_m g_m_text g_m_now g_m_trial g_m_diary g_m_kept g_m_isKept g_m_chosenBy g_m_paidBy g_m_toPay g_m_plan g_m_other g_x_history g_x_slots = some () := by
  have hg0 := hg
  obtain ⟨⟨Lt, ct, ht⟩, hgw, hs⟩ := hg0
  have hgw0 := hgw
  obtain ⟨⟨ρ, σ, h⟩, -⟩ := hgw0
  have i1 : inb (nI p + (1 : Int32)) L = true := by rw [y_c1, y_Iadd]; exact y_inb (by omega) (by omega)
  have i2 : inb (nI p + (2 : Int32)) L = true := by rw [y_c2, y_Iadd]; exact y_inb (by omega) (by omega)
  have i3 : inb (nI p + (3 : Int32)) L = true := by rw [y_c3, y_Iadd]; exact y_inb (by omega) (by omega)
  have i4 : inb (nI p + (4 : Int32)) L = true := by rw [y_c4, y_Iadd]; exact y_inb (by omega) (by omega)
  have j1 : (nI p + (1 : Int32)).toNatClampNeg = p + 1 := by rw [y_c1, y_Iadd, y_cl (by omega)]
  have j2 : (nI p + (2 : Int32)).toNatClampNeg = p + 2 := by rw [y_c2, y_Iadd, y_cl (by omega)]
  have j3 : (nI p + (3 : Int32)).toNatClampNeg = p + 3 := by rw [y_c3, y_Iadd, y_cl (by omega)]
  have j4 : (nI p + (4 : Int32)).toNatClampNeg = p + 4 := by rw [y_c4, y_Iadd, y_cl (by omega)]
  have p5 : nI p + (5 : Int32) = nI (p + 5) := y_Iadd p 5
  obtain ⟨res, av, w', H', M', now', e1, e2, hr, hsz, hg2⟩ := p_undo hgw
  obtain ⟨o', f1, f2⟩ := L_undo (g_p2 := g_o) e1 hr
  unfold f_law_C1173
  rw [f1, Option.bind_some, e2, Option.bind_some, x_thrown, Option.bind_some, p5]
  exact y_law f2 (hk _ _ _ _ _ _ _ _ _ _ _ _ _ _ _ _ _ _ _ _ _ _ (⟨⟨_, _, ht.sm hsz⟩, hg2, hs.mono (by omega)⟩))
theorem l_C1217 {xs : Nat → Int32} {L : Nat} {k23 : Int32 → (Nat → Int64) → TT → TE → TR → TW → TW → TP → TP → TM → (Nat → Int32) → (Nat → Int64) → (Nat → Int64) → (Nat → Int64) → (Nat → Int64) → (Nat → Int32) → (Nat → Int64) → (Nat → Int64) → (Nat → Int64) → (Nat → Int32) → (Nat → Int32) → TH → TS → Option Unit} {p N : Nat} {g_o : Nat → Int64} {g_x_text : TT} {g_x_entryReader : TE} {g_x_planReader : TR} {g_x_world : TW} {g_x_copy : TW} {g_x_chosen : TP} {g_x_other : TP} {g_m : TM} {g_m_text : Nat → Int32} {g_m_now : Nat → Int64} {g_m_trial : Nat → Int64} {g_m_diary : Nat → Int64} {g_m_kept : Nat → Int64} {g_m_isKept : Nat → Int32} {g_m_chosenBy : Nat → Int64} {g_m_paidBy : Nat → Int64} {g_m_toPay : Nat → Int64} {g_m_plan : Nat → Int32} {g_m_other : Nat → Int32} {g_x_history : TH} {g_x_slots : TS} (hk : HK k23 (p + 5) (N + 50)) (hg : GS N g_x_text g_x_world g_x_history g_x_slots g_m g_m_text g_m_now g_m_diary g_m_kept g_m_isKept) (hN : N < 500000) (hp : p + 5 ≤ L) (hL : L ≤ 2560) : f_law_C1217 xs L k23 (nI p) g_o g_x_text g_x_entryReader g_x_planReader g_x_world g_x_copy g_x_chosen g_x_other g_m g_m_text g_m_now g_m_trial g_m_diary g_m_kept g_m_isKept g_m_chosenBy g_m_paidBy g_m_toPay g_m_plan g_m_other g_x_history g_x_slots = some () := by
  have hg0 := hg
  obtain ⟨⟨Lt, ct, ht⟩, hgw, hs⟩ := hg0
  have hgw0 := hgw
  obtain ⟨⟨ρ, σ, h⟩, -⟩ := hgw0
  have i1 : inb (nI p + (1 : Int32)) L = true := by rw [y_c1, y_Iadd]; exact y_inb (by omega) (by omega)
  have i2 : inb (nI p + (2 : Int32)) L = true := by rw [y_c2, y_Iadd]; exact y_inb (by omega) (by omega)
  have i3 : inb (nI p + (3 : Int32)) L = true := by rw [y_c3, y_Iadd]; exact y_inb (by omega) (by omega)
  have i4 : inb (nI p + (4 : Int32)) L = true := by rw [y_c4, y_Iadd]; exact y_inb (by omega) (by omega)
  have j1 : (nI p + (1 : Int32)).toNatClampNeg = p + 1 := by rw [y_c1, y_Iadd, y_cl (by omega)]
  have j2 : (nI p + (2 : Int32)).toNatClampNeg = p + 2 := by rw [y_c2, y_Iadd, y_cl (by omega)]
  have j3 : (nI p + (3 : Int32)).toNatClampNeg = p + 3 := by rw [y_c3, y_Iadd, y_cl (by omega)]
  have j4 : (nI p + (4 : Int32)).toNatClampNeg = p + 4 := by rw [y_c4, y_Iadd, y_cl (by omega)]
  have p5 : nI p + (5 : Int32) = nI (p + 5) := y_Iadd p 5
  obtain ⟨res, av, P', M', e1, e2, hr, hsm⟩ := p_rows (P := g_x_chosen) h (xs (p + 1)) (xs (p + 2)) g_m
  obtain ⟨o', f1, f2⟩ := L_rows (g_p4 := g_o) e1 hr
  unfold f_law_C1217
  rw [if_pos i1, if_pos i2, j1, j2, f1, Option.bind_some, if_pos i1, if_pos i2, e2, Option.bind_some, x_thrown, Option.bind_some, p5]
  exact y_law f2 (hk _ _ _ _ _ _ _ _ _ _ _ _ _ _ _ _ _ _ _ _ _ _ (hg.sm hsm))
theorem l_C1284 {xs : Nat → Int32} {L : Nat} {k23 : Int32 → (Nat → Int64) → TT → TE → TR → TW → TW → TP → TP → TM → (Nat → Int32) → (Nat → Int64) → (Nat → Int64) → (Nat → Int64) → (Nat → Int64) → (Nat → Int32) → (Nat → Int64) → (Nat → Int64) → (Nat → Int64) → (Nat → Int32) → (Nat → Int32) → TH → TS → Option Unit} {p N : Nat} {g_o : Nat → Int64} {g_x_text : TT} {g_x_entryReader : TE} {g_x_planReader : TR} {g_x_world : TW} {g_x_copy : TW} {g_x_chosen : TP} {g_x_other : TP} {g_m : TM} {g_m_text : Nat → Int32} {g_m_now : Nat → Int64} {g_m_trial : Nat → Int64} {g_m_diary : Nat → Int64} {g_m_kept : Nat → Int64} {g_m_isKept : Nat → Int32} {g_m_chosenBy : Nat → Int64} {g_m_paidBy : Nat → Int64} {g_m_toPay : Nat → Int64} {g_m_plan : Nat → Int32} {g_m_other : Nat → Int32} {g_x_history : TH} {g_x_slots : TS} (hk : HK k23 (p + 5) (N + 50)) (hg : GS N g_x_text g_x_world g_x_history g_x_slots g_m g_m_text g_m_now g_m_diary g_m_kept g_m_isKept) (hN : N < 500000) (hp : p + 5 ≤ L) (hL : L ≤ 2560) : f_law_C1284 xs L k23 (nI p) g_o g_x_text g_x_entryReader g_x_planReader g_x_world g_x_copy g_x_chosen g_x_other g_m g_m_text g_m_now g_m_trial g_m_diary g_m_kept g_m_isKept g_m_chosenBy g_m_paidBy g_m_toPay g_m_plan g_m_other g_x_history g_x_slots = some () := by
  have hg0 := hg
  obtain ⟨⟨Lt, ct, ht⟩, hgw, hs⟩ := hg0
  have hgw0 := hgw
  obtain ⟨⟨ρ, σ, h⟩, -⟩ := hgw0
  have i1 : inb (nI p + (1 : Int32)) L = true := by rw [y_c1, y_Iadd]; exact y_inb (by omega) (by omega)
  have i2 : inb (nI p + (2 : Int32)) L = true := by rw [y_c2, y_Iadd]; exact y_inb (by omega) (by omega)
  have i3 : inb (nI p + (3 : Int32)) L = true := by rw [y_c3, y_Iadd]; exact y_inb (by omega) (by omega)
  have i4 : inb (nI p + (4 : Int32)) L = true := by rw [y_c4, y_Iadd]; exact y_inb (by omega) (by omega)
  have j1 : (nI p + (1 : Int32)).toNatClampNeg = p + 1 := by rw [y_c1, y_Iadd, y_cl (by omega)]
  have j2 : (nI p + (2 : Int32)).toNatClampNeg = p + 2 := by rw [y_c2, y_Iadd, y_cl (by omega)]
  have j3 : (nI p + (3 : Int32)).toNatClampNeg = p + 3 := by rw [y_c3, y_Iadd, y_cl (by omega)]
  have j4 : (nI p + (4 : Int32)).toNatClampNeg = p + 4 := by rw [y_c4, y_Iadd, y_cl (by omega)]
  have p5 : nI p + (5 : Int32) = nI (p + 5) := y_Iadd p 5
  obtain ⟨res, av, P', M', cb', tp', pl', e1, e2, hr, hsm⟩ := p_order (P := g_x_chosen) (cb := g_m_chosenBy) (tp := g_m_toPay) (pl := g_m_plan) h (xs (p + 1)) (xs (p + 2)) (xs (p + 3)) g_m
  obtain ⟨o', f1, f2⟩ := L_order (g_p5 := g_o) e1 hr
  unfold f_law_C1284
  rw [if_pos i1, if_pos i2, if_pos i3, j1, j2, j3, f1, Option.bind_some, if_pos i1, if_pos i2, if_pos i3, e2, Option.bind_some, x_thrown, Option.bind_some, p5]
  exact y_law f2 (hk _ _ _ _ _ _ _ _ _ _ _ _ _ _ _ _ _ _ _ _ _ _ (hg.sm hsm))
theorem l_C1364 {xs : Nat → Int32} {L : Nat} {k23 : Int32 → (Nat → Int64) → TT → TE → TR → TW → TW → TP → TP → TM → (Nat → Int32) → (Nat → Int64) → (Nat → Int64) → (Nat → Int64) → (Nat → Int64) → (Nat → Int32) → (Nat → Int64) → (Nat → Int64) → (Nat → Int64) → (Nat → Int32) → (Nat → Int32) → TH → TS → Option Unit} {p N : Nat} {g_o : Nat → Int64} {g_x_text : TT} {g_x_entryReader : TE} {g_x_planReader : TR} {g_x_world : TW} {g_x_copy : TW} {g_x_chosen : TP} {g_x_other : TP} {g_m : TM} {g_m_text : Nat → Int32} {g_m_now : Nat → Int64} {g_m_trial : Nat → Int64} {g_m_diary : Nat → Int64} {g_m_kept : Nat → Int64} {g_m_isKept : Nat → Int32} {g_m_chosenBy : Nat → Int64} {g_m_paidBy : Nat → Int64} {g_m_toPay : Nat → Int64} {g_m_plan : Nat → Int32} {g_m_other : Nat → Int32} {g_x_history : TH} {g_x_slots : TS} (hk : HK k23 (p + 5) (N + 50)) (hg : GS N g_x_text g_x_world g_x_history g_x_slots g_m g_m_text g_m_now g_m_diary g_m_kept g_m_isKept) (hN : N < 500000) (hp : p + 5 ≤ L) (hL : L ≤ 2560) : f_law_C1364 xs L k23 (nI p) g_o g_x_text g_x_entryReader g_x_planReader g_x_world g_x_copy g_x_chosen g_x_other g_m g_m_text g_m_now g_m_trial g_m_diary g_m_kept g_m_isKept g_m_chosenBy g_m_paidBy g_m_toPay g_m_plan g_m_other g_x_history g_x_slots = some () := by
  have hg0 := hg
  obtain ⟨⟨Lt, ct, ht⟩, hgw, hs⟩ := hg0
  have hgw0 := hgw
  obtain ⟨⟨ρ, σ, h⟩, -⟩ := hgw0
  have i1 : inb (nI p + (1 : Int32)) L = true := by rw [y_c1, y_Iadd]; exact y_inb (by omega) (by omega)
  have i2 : inb (nI p + (2 : Int32)) L = true := by rw [y_c2, y_Iadd]; exact y_inb (by omega) (by omega)
  have i3 : inb (nI p + (3 : Int32)) L = true := by rw [y_c3, y_Iadd]; exact y_inb (by omega) (by omega)
  have i4 : inb (nI p + (4 : Int32)) L = true := by rw [y_c4, y_Iadd]; exact y_inb (by omega) (by omega)
  have j1 : (nI p + (1 : Int32)).toNatClampNeg = p + 1 := by rw [y_c1, y_Iadd, y_cl (by omega)]
  have j2 : (nI p + (2 : Int32)).toNatClampNeg = p + 2 := by rw [y_c2, y_Iadd, y_cl (by omega)]
  have j3 : (nI p + (3 : Int32)).toNatClampNeg = p + 3 := by rw [y_c3, y_Iadd, y_cl (by omega)]
  have j4 : (nI p + (4 : Int32)).toNatClampNeg = p + 4 := by rw [y_c4, y_Iadd, y_cl (by omega)]
  have p5 : nI p + (5 : Int32) = nI (p + 5) := y_Iadd p 5
  obtain ⟨res, av, P', M', cb', tp', pl', e1, e2, hr, hsm⟩ := p_way (P := g_x_chosen) (cb := g_m_chosenBy) (tp := g_m_toPay) (pl := g_m_plan) h (xs (p + 1)) (xs (p + 2)) g_m
  obtain ⟨o', f1, f2⟩ := L_way (g_p4 := g_o) e1 hr
  unfold f_law_C1364
  rw [if_pos i1, if_pos i2, j1, j2, f1, Option.bind_some, if_pos i1, if_pos i2, e2, Option.bind_some, x_thrown, Option.bind_some, p5]
  exact y_law f2 (hk _ _ _ _ _ _ _ _ _ _ _ _ _ _ _ _ _ _ _ _ _ _ (hg.sm hsm))
theorem l_C1432 {xs : Nat → Int32} {L : Nat} {k23 : Int32 → (Nat → Int64) → TT → TE → TR → TW → TW → TP → TP → TM → (Nat → Int32) → (Nat → Int64) → (Nat → Int64) → (Nat → Int64) → (Nat → Int64) → (Nat → Int32) → (Nat → Int64) → (Nat → Int64) → (Nat → Int64) → (Nat → Int32) → (Nat → Int32) → TH → TS → Option Unit} {p N : Nat} {g_o : Nat → Int64} {g_x_text : TT} {g_x_entryReader : TE} {g_x_planReader : TR} {g_x_world : TW} {g_x_copy : TW} {g_x_chosen : TP} {g_x_other : TP} {g_m : TM} {g_m_text : Nat → Int32} {g_m_now : Nat → Int64} {g_m_trial : Nat → Int64} {g_m_diary : Nat → Int64} {g_m_kept : Nat → Int64} {g_m_isKept : Nat → Int32} {g_m_chosenBy : Nat → Int64} {g_m_paidBy : Nat → Int64} {g_m_toPay : Nat → Int64} {g_m_plan : Nat → Int32} {g_m_other : Nat → Int32} {g_x_history : TH} {g_x_slots : TS} (hk : HK k23 (p + 5) (N + 50)) (hg : GS N g_x_text g_x_world g_x_history g_x_slots g_m g_m_text g_m_now g_m_diary g_m_kept g_m_isKept) (hN : N < 500000) (hp : p + 5 ≤ L) (hL : L ≤ 2560) : f_law_C1432 xs L k23 (nI p) g_o g_x_text g_x_entryReader g_x_planReader g_x_world g_x_copy g_x_chosen g_x_other g_m g_m_text g_m_now g_m_trial g_m_diary g_m_kept g_m_isKept g_m_chosenBy g_m_paidBy g_m_toPay g_m_plan g_m_other g_x_history g_x_slots = some () := by
  have hg0 := hg
  obtain ⟨⟨Lt, ct, ht⟩, hgw, hs⟩ := hg0
  have hgw0 := hgw
  obtain ⟨⟨ρ, σ, h⟩, -⟩ := hgw0
  have i1 : inb (nI p + (1 : Int32)) L = true := by rw [y_c1, y_Iadd]; exact y_inb (by omega) (by omega)
  have i2 : inb (nI p + (2 : Int32)) L = true := by rw [y_c2, y_Iadd]; exact y_inb (by omega) (by omega)
  have i3 : inb (nI p + (3 : Int32)) L = true := by rw [y_c3, y_Iadd]; exact y_inb (by omega) (by omega)
  have i4 : inb (nI p + (4 : Int32)) L = true := by rw [y_c4, y_Iadd]; exact y_inb (by omega) (by omega)
  have j1 : (nI p + (1 : Int32)).toNatClampNeg = p + 1 := by rw [y_c1, y_Iadd, y_cl (by omega)]
  have j2 : (nI p + (2 : Int32)).toNatClampNeg = p + 2 := by rw [y_c2, y_Iadd, y_cl (by omega)]
  have j3 : (nI p + (3 : Int32)).toNatClampNeg = p + 3 := by rw [y_c3, y_Iadd, y_cl (by omega)]
  have j4 : (nI p + (4 : Int32)).toNatClampNeg = p + 4 := by rw [y_c4, y_Iadd, y_cl (by omega)]
  have p5 : nI p + (5 : Int32) = nI (p + 5) := y_Iadd p 5
  obtain ⟨res, av, P1', P2', M', cb', pb', tp', pl', e1, e2, hr, hsm⟩ := p_cost (P1 := g_x_chosen) (P2 := g_x_other) (cb := g_m_chosenBy) (tp := g_m_toPay) (pl := g_m_plan) (pb := g_m_paidBy) h (xs (p + 1)) (xs (p + 2)) g_m
  obtain ⟨o', f1, f2⟩ := L_cost (g_p4 := g_o) e1 hr
  unfold f_law_C1432
  rw [if_pos i1, if_pos i2, j1, j2, f1, Option.bind_some, if_pos i1, if_pos i2, e2, Option.bind_some, x_thrown, Option.bind_some, p5]
  exact y_law f2 (hk _ _ _ _ _ _ _ _ _ _ _ _ _ _ _ _ _ _ _ _ _ _ (hg.sm hsm))
theorem l_C1499 {xs : Nat → Int32} {L : Nat} {k23 : Int32 → (Nat → Int64) → TT → TE → TR → TW → TW → TP → TP → TM → (Nat → Int32) → (Nat → Int64) → (Nat → Int64) → (Nat → Int64) → (Nat → Int64) → (Nat → Int32) → (Nat → Int64) → (Nat → Int64) → (Nat → Int64) → (Nat → Int32) → (Nat → Int32) → TH → TS → Option Unit} {p N : Nat} {g_o : Nat → Int64} {g_x_text : TT} {g_x_entryReader : TE} {g_x_planReader : TR} {g_x_world : TW} {g_x_copy : TW} {g_x_chosen : TP} {g_x_other : TP} {g_m : TM} {g_m_text : Nat → Int32} {g_m_now : Nat → Int64} {g_m_trial : Nat → Int64} {g_m_diary : Nat → Int64} {g_m_kept : Nat → Int64} {g_m_isKept : Nat → Int32} {g_m_chosenBy : Nat → Int64} {g_m_paidBy : Nat → Int64} {g_m_toPay : Nat → Int64} {g_m_plan : Nat → Int32} {g_m_other : Nat → Int32} {g_x_history : TH} {g_x_slots : TS} (hk : HK k23 (p + 5) (N + 50)) (hg : GS N g_x_text g_x_world g_x_history g_x_slots g_m g_m_text g_m_now g_m_diary g_m_kept g_m_isKept) (hN : N < 500000) (hp : p + 5 ≤ L) (hL : L ≤ 2560) : f_law_C1499 xs L k23 (nI p) g_o g_x_text g_x_entryReader g_x_planReader g_x_world g_x_copy g_x_chosen g_x_other g_m g_m_text g_m_now g_m_trial g_m_diary g_m_kept g_m_isKept g_m_chosenBy g_m_paidBy g_m_toPay g_m_plan g_m_other g_x_history g_x_slots = some () := by
  have hg0 := hg
  obtain ⟨⟨Lt, ct, ht⟩, hgw, hs⟩ := hg0
  have hgw0 := hgw
  obtain ⟨⟨ρ, σ, h⟩, -⟩ := hgw0
  have i1 : inb (nI p + (1 : Int32)) L = true := by rw [y_c1, y_Iadd]; exact y_inb (by omega) (by omega)
  have i2 : inb (nI p + (2 : Int32)) L = true := by rw [y_c2, y_Iadd]; exact y_inb (by omega) (by omega)
  have i3 : inb (nI p + (3 : Int32)) L = true := by rw [y_c3, y_Iadd]; exact y_inb (by omega) (by omega)
  have i4 : inb (nI p + (4 : Int32)) L = true := by rw [y_c4, y_Iadd]; exact y_inb (by omega) (by omega)
  have j1 : (nI p + (1 : Int32)).toNatClampNeg = p + 1 := by rw [y_c1, y_Iadd, y_cl (by omega)]
  have j2 : (nI p + (2 : Int32)).toNatClampNeg = p + 2 := by rw [y_c2, y_Iadd, y_cl (by omega)]
  have j3 : (nI p + (3 : Int32)).toNatClampNeg = p + 3 := by rw [y_c3, y_Iadd, y_cl (by omega)]
  have j4 : (nI p + (4 : Int32)).toNatClampNeg = p + 4 := by rw [y_c4, y_Iadd, y_cl (by omega)]
  have p5 : nI p + (5 : Int32) = nI (p + 5) := y_Iadd p 5
  obtain ⟨res, av, R', P', M', cb', pb', pl', e1, e2, hr, hsm⟩ := p_text (R := g_x_planReader) (P := g_x_chosen) (cb := g_m_chosenBy) (pb := g_m_paidBy) (pl := g_m_plan) ht h (xs (p + 1))
  obtain ⟨o', f1, f2⟩ := L_costOfText (g_p3 := g_o) e1 hr
  unfold f_law_C1499
  rw [if_pos i1, j1, f1, Option.bind_some, if_pos i1, e2, Option.bind_some, x_thrown, Option.bind_some, p5]
  exact y_law f2 (hk _ _ _ _ _ _ _ _ _ _ _ _ _ _ _ _ _ _ _ _ _ _ (hg.sm hsm))
theorem l_C1554 {xs : Nat → Int32} {L : Nat} {k23 : Int32 → (Nat → Int64) → TT → TE → TR → TW → TW → TP → TP → TM → (Nat → Int32) → (Nat → Int64) → (Nat → Int64) → (Nat → Int64) → (Nat → Int64) → (Nat → Int32) → (Nat → Int64) → (Nat → Int64) → (Nat → Int64) → (Nat → Int32) → (Nat → Int32) → TH → TS → Option Unit} {p N : Nat} {g_o : Nat → Int64} {g_x_text : TT} {g_x_entryReader : TE} {g_x_planReader : TR} {g_x_world : TW} {g_x_copy : TW} {g_x_chosen : TP} {g_x_other : TP} {g_m : TM} {g_m_text : Nat → Int32} {g_m_now : Nat → Int64} {g_m_trial : Nat → Int64} {g_m_diary : Nat → Int64} {g_m_kept : Nat → Int64} {g_m_isKept : Nat → Int32} {g_m_chosenBy : Nat → Int64} {g_m_paidBy : Nat → Int64} {g_m_toPay : Nat → Int64} {g_m_plan : Nat → Int32} {g_m_other : Nat → Int32} {g_x_history : TH} {g_x_slots : TS} (hk : HK k23 (p + 5) (N + 50)) (hg : GS N g_x_text g_x_world g_x_history g_x_slots g_m g_m_text g_m_now g_m_diary g_m_kept g_m_isKept) (hN : N < 500000) (hp : p + 5 ≤ L) (hL : L ≤ 2560) : f_law_C1554 xs L k23 (nI p) g_o g_x_text g_x_entryReader g_x_planReader g_x_world g_x_copy g_x_chosen g_x_other g_m g_m_text g_m_now g_m_trial g_m_diary g_m_kept g_m_isKept g_m_chosenBy g_m_paidBy g_m_toPay g_m_plan g_m_other g_x_history g_x_slots = some () := by
  have hg0 := hg
  obtain ⟨⟨Lt, ct, ht⟩, hgw, hs⟩ := hg0
  have hgw0 := hgw
  obtain ⟨⟨ρ, σ, h⟩, -⟩ := hgw0
  have i1 : inb (nI p + (1 : Int32)) L = true := by rw [y_c1, y_Iadd]; exact y_inb (by omega) (by omega)
  have i2 : inb (nI p + (2 : Int32)) L = true := by rw [y_c2, y_Iadd]; exact y_inb (by omega) (by omega)
  have i3 : inb (nI p + (3 : Int32)) L = true := by rw [y_c3, y_Iadd]; exact y_inb (by omega) (by omega)
  have i4 : inb (nI p + (4 : Int32)) L = true := by rw [y_c4, y_Iadd]; exact y_inb (by omega) (by omega)
  have j1 : (nI p + (1 : Int32)).toNatClampNeg = p + 1 := by rw [y_c1, y_Iadd, y_cl (by omega)]
  have j2 : (nI p + (2 : Int32)).toNatClampNeg = p + 2 := by rw [y_c2, y_Iadd, y_cl (by omega)]
  have j3 : (nI p + (3 : Int32)).toNatClampNeg = p + 3 := by rw [y_c3, y_Iadd, y_cl (by omega)]
  have j4 : (nI p + (4 : Int32)).toNatClampNeg = p + 4 := by rw [y_c4, y_Iadd, y_cl (by omega)]
  have p5 : nI p + (5 : Int32) = nI (p + 5) := y_Iadd p 5
  obtain ⟨res, av, w', P1', P2', M', tr', cb', tp', pl', oth', e1, e2, hr, hsm⟩ := p_matters (w0 := g_x_copy) (tr := g_m_trial) (oth := g_m_other) (P1 := g_x_chosen) (P2 := g_x_other) (cb := g_m_chosenBy) (tp := g_m_toPay) (pl := g_m_plan) h (xs (p + 1)) (xs (p + 2)) (xs (p + 3)) g_m
  obtain ⟨o', f1, f2⟩ := L_matters (g_p5 := g_o) e1 hr
  unfold f_law_C1554
  rw [if_pos i1, if_pos i2, if_pos i3, j1, j2, j3, f1, Option.bind_some, if_pos i1, if_pos i2, if_pos i3, e2, Option.bind_some, x_thrown, Option.bind_some, p5]
  exact y_law f2 (hk _ _ _ _ _ _ _ _ _ _ _ _ _ _ _ _ _ _ _ _ _ _ (hg.sm hsm))
theorem l_C1634 {xs : Nat → Int32} {L : Nat} {k23 : Int32 → (Nat → Int64) → TT → TE → TR → TW → TW → TP → TP → TM → (Nat → Int32) → (Nat → Int64) → (Nat → Int64) → (Nat → Int64) → (Nat → Int64) → (Nat → Int32) → (Nat → Int64) → (Nat → Int64) → (Nat → Int64) → (Nat → Int32) → (Nat → Int32) → TH → TS → Option Unit} {p N : Nat} {g_o : Nat → Int64} {g_x_text : TT} {g_x_entryReader : TE} {g_x_planReader : TR} {g_x_world : TW} {g_x_copy : TW} {g_x_chosen : TP} {g_x_other : TP} {g_m : TM} {g_m_text : Nat → Int32} {g_m_now : Nat → Int64} {g_m_trial : Nat → Int64} {g_m_diary : Nat → Int64} {g_m_kept : Nat → Int64} {g_m_isKept : Nat → Int32} {g_m_chosenBy : Nat → Int64} {g_m_paidBy : Nat → Int64} {g_m_toPay : Nat → Int64} {g_m_plan : Nat → Int32} {g_m_other : Nat → Int32} {g_x_history : TH} {g_x_slots : TS} (hk : HK k23 (p + 5) (N + 50)) (hg : GS N g_x_text g_x_world g_x_history g_x_slots g_m g_m_text g_m_now g_m_diary g_m_kept g_m_isKept) (hN : N < 500000) (hp : p + 5 ≤ L) (hL : L ≤ 2560) : f_law_C1634 xs L k23 (nI p) g_o g_x_text g_x_entryReader g_x_planReader g_x_world g_x_copy g_x_chosen g_x_other g_m g_m_text g_m_now g_m_trial g_m_diary g_m_kept g_m_isKept g_m_chosenBy g_m_paidBy g_m_toPay g_m_plan g_m_other g_x_history g_x_slots = some () := by
  have hg0 := hg
  obtain ⟨⟨Lt, ct, ht⟩, hgw, hs⟩ := hg0
  have hgw0 := hgw
  obtain ⟨⟨ρ, σ, h⟩, -⟩ := hgw0
  have i1 : inb (nI p + (1 : Int32)) L = true := by rw [y_c1, y_Iadd]; exact y_inb (by omega) (by omega)
  have i2 : inb (nI p + (2 : Int32)) L = true := by rw [y_c2, y_Iadd]; exact y_inb (by omega) (by omega)
  have i3 : inb (nI p + (3 : Int32)) L = true := by rw [y_c3, y_Iadd]; exact y_inb (by omega) (by omega)
  have i4 : inb (nI p + (4 : Int32)) L = true := by rw [y_c4, y_Iadd]; exact y_inb (by omega) (by omega)
  have j1 : (nI p + (1 : Int32)).toNatClampNeg = p + 1 := by rw [y_c1, y_Iadd, y_cl (by omega)]
  have j2 : (nI p + (2 : Int32)).toNatClampNeg = p + 2 := by rw [y_c2, y_Iadd, y_cl (by omega)]
  have j3 : (nI p + (3 : Int32)).toNatClampNeg = p + 3 := by rw [y_c3, y_Iadd, y_cl (by omega)]
  have j4 : (nI p + (4 : Int32)).toNatClampNeg = p + 4 := by rw [y_c4, y_Iadd, y_cl (by omega)]
  have p5 : nI p + (5 : Int32) = nI (p + 5) := y_Iadd p 5
  obtain ⟨x, M', e1, e2, hsm⟩ := p_worst h g_m
  unfold f_law_C1634
  rw [e1, Option.bind_some, e2, Option.bind_some, p5]
  exact (if_pos rfl).trans (hk _ _ _ _ _ _ _ _ _ _ _ _ _ _ _ _ _ _ _ _ _ _ (hg.sm hsm))
theorem l_C1647 {xs : Nat → Int32} {L : Nat} {k23 : Int32 → (Nat → Int64) → TT → TE → TR → TW → TW → TP → TP → TM → (Nat → Int32) → (Nat → Int64) → (Nat → Int64) → (Nat → Int64) → (Nat → Int64) → (Nat → Int32) → (Nat → Int64) → (Nat → Int64) → (Nat → Int64) → (Nat → Int32) → (Nat → Int32) → TH → TS → Option Unit} {p N : Nat} {g_o : Nat → Int64} {g_x_text : TT} {g_x_entryReader : TE} {g_x_planReader : TR} {g_x_world : TW} {g_x_copy : TW} {g_x_chosen : TP} {g_x_other : TP} {g_m : TM} {g_m_text : Nat → Int32} {g_m_now : Nat → Int64} {g_m_trial : Nat → Int64} {g_m_diary : Nat → Int64} {g_m_kept : Nat → Int64} {g_m_isKept : Nat → Int32} {g_m_chosenBy : Nat → Int64} {g_m_paidBy : Nat → Int64} {g_m_toPay : Nat → Int64} {g_m_plan : Nat → Int32} {g_m_other : Nat → Int32} {g_x_history : TH} {g_x_slots : TS} (hk : HK k23 (p + 5) (N + 50)) (hg : GS N g_x_text g_x_world g_x_history g_x_slots g_m g_m_text g_m_now g_m_diary g_m_kept g_m_isKept) (hN : N < 500000) (hp : p + 5 ≤ L) (hL : L ≤ 2560) : f_law_C1647 xs L k23 (nI p) g_o g_x_text g_x_entryReader g_x_planReader g_x_world g_x_copy g_x_chosen g_x_other g_m g_m_text g_m_now g_m_trial g_m_diary g_m_kept g_m_isKept g_m_chosenBy g_m_paidBy g_m_toPay g_m_plan g_m_other g_x_history g_x_slots = some () := by
  have hg0 := hg
  obtain ⟨⟨Lt, ct, ht⟩, hgw, hs⟩ := hg0
  have hgw0 := hgw
  obtain ⟨⟨ρ, σ, h⟩, -⟩ := hgw0
  have i1 : inb (nI p + (1 : Int32)) L = true := by rw [y_c1, y_Iadd]; exact y_inb (by omega) (by omega)
  have i2 : inb (nI p + (2 : Int32)) L = true := by rw [y_c2, y_Iadd]; exact y_inb (by omega) (by omega)
  have i3 : inb (nI p + (3 : Int32)) L = true := by rw [y_c3, y_Iadd]; exact y_inb (by omega) (by omega)
  have i4 : inb (nI p + (4 : Int32)) L = true := by rw [y_c4, y_Iadd]; exact y_inb (by omega) (by omega)
  have j1 : (nI p + (1 : Int32)).toNatClampNeg = p + 1 := by rw [y_c1, y_Iadd, y_cl (by omega)]
  have j2 : (nI p + (2 : Int32)).toNatClampNeg = p + 2 := by rw [y_c2, y_Iadd, y_cl (by omega)]
  have j3 : (nI p + (3 : Int32)).toNatClampNeg = p + 3 := by rw [y_c3, y_Iadd, y_cl (by omega)]
  have j4 : (nI p + (4 : Int32)).toNatClampNeg = p + 4 := by rw [y_c4, y_Iadd, y_cl (by omega)]
  have p5 : nI p + (5 : Int32) = nI (p + 5) := y_Iadd p 5
  obtain ⟨res, av, w', P1', P2', M', tr', cb', pb', tp', pl', e1, e2, hr, hsm⟩ := p_learns (w0 := g_x_copy) (tr := g_m_trial) (P1 := g_x_chosen) (P2 := g_x_other) (cb := g_m_chosenBy) (tp := g_m_toPay) (pl := g_m_plan) (pb := g_m_paidBy) h (by omega) (xs (p + 1)) g_m
  obtain ⟨o', f1, f2⟩ := L_learnsIn (g_p3 := g_o) e1 hr
  unfold f_law_C1647
  rw [if_pos i1, j1, f1, Option.bind_some, if_pos i1, e2, Option.bind_some, x_thrown, Option.bind_some, p5]
  exact y_law f2 (hk _ _ _ _ _ _ _ _ _ _ _ _ _ _ _ _ _ _ _ _ _ _ (hg.sm hsm))
theorem l_C1703 {xs : Nat → Int32} {L : Nat} {k23 : Int32 → (Nat → Int64) → TT → TE → TR → TW → TW → TP → TP → TM → (Nat → Int32) → (Nat → Int64) → (Nat → Int64) → (Nat → Int64) → (Nat → Int64) → (Nat → Int32) → (Nat → Int64) → (Nat → Int64) → (Nat → Int64) → (Nat → Int32) → (Nat → Int32) → TH → TS → Option Unit} {p N : Nat} {g_o : Nat → Int64} {g_x_text : TT} {g_x_entryReader : TE} {g_x_planReader : TR} {g_x_world : TW} {g_x_copy : TW} {g_x_chosen : TP} {g_x_other : TP} {g_m : TM} {g_m_text : Nat → Int32} {g_m_now : Nat → Int64} {g_m_trial : Nat → Int64} {g_m_diary : Nat → Int64} {g_m_kept : Nat → Int64} {g_m_isKept : Nat → Int32} {g_m_chosenBy : Nat → Int64} {g_m_paidBy : Nat → Int64} {g_m_toPay : Nat → Int64} {g_m_plan : Nat → Int32} {g_m_other : Nat → Int32} {g_x_history : TH} {g_x_slots : TS} (hk : HK k23 (p + 5) (N + 50)) (hg : GS N g_x_text g_x_world g_x_history g_x_slots g_m g_m_text g_m_now g_m_diary g_m_kept g_m_isKept) (hN : N < 500000) (hp : p + 5 ≤ L) (hL : L ≤ 2560) : f_law_C1703 xs L k23 (nI p) g_o g_x_text g_x_entryReader g_x_planReader g_x_world g_x_copy g_x_chosen g_x_other g_m g_m_text g_m_now g_m_trial g_m_diary g_m_kept g_m_isKept g_m_chosenBy g_m_paidBy g_m_toPay g_m_plan g_m_other g_x_history g_x_slots = some () := by
  have hg0 := hg
  obtain ⟨⟨Lt, ct, ht⟩, hgw, hs⟩ := hg0
  have hgw0 := hgw
  obtain ⟨⟨ρ, σ, h⟩, -⟩ := hgw0
  have i1 : inb (nI p + (1 : Int32)) L = true := by rw [y_c1, y_Iadd]; exact y_inb (by omega) (by omega)
  have i2 : inb (nI p + (2 : Int32)) L = true := by rw [y_c2, y_Iadd]; exact y_inb (by omega) (by omega)
  have i3 : inb (nI p + (3 : Int32)) L = true := by rw [y_c3, y_Iadd]; exact y_inb (by omega) (by omega)
  have i4 : inb (nI p + (4 : Int32)) L = true := by rw [y_c4, y_Iadd]; exact y_inb (by omega) (by omega)
  have j1 : (nI p + (1 : Int32)).toNatClampNeg = p + 1 := by rw [y_c1, y_Iadd, y_cl (by omega)]
  have j2 : (nI p + (2 : Int32)).toNatClampNeg = p + 2 := by rw [y_c2, y_Iadd, y_cl (by omega)]
  have j3 : (nI p + (3 : Int32)).toNatClampNeg = p + 3 := by rw [y_c3, y_Iadd, y_cl (by omega)]
  have j4 : (nI p + (4 : Int32)).toNatClampNeg = p + 4 := by rw [y_c4, y_Iadd, y_cl (by omega)]
  have p5 : nI p + (5 : Int32) = nI (p + 5) := y_Iadd p 5
  obtain ⟨res, av, w', P1', P2', M', tr', cb', pb', tp', pl', e1, e2, hr, hsm⟩ := p_script (w0 := g_x_copy) (tr := g_m_trial) (P1 := g_x_chosen) (P2 := g_x_other) (cb := g_m_chosenBy) (tp := g_m_toPay) (pl := g_m_plan) (pb := g_m_paidBy) h (by omega) (xs (p + 1)) (((Int32.toInt64 (xs (p + 2))) <<< (Int32.toInt64 (32 : Int32) &&& 63)) ||| ((Int32.toInt64 (xs (p + 3))) &&& (4294967295 : Int64))) g_m
  obtain ⟨o', f1, f2⟩ := L_runScript (g_p4 := g_o) e1 hr
  unfold f_law_C1703
  rw [if_pos i1, if_pos i2, if_pos i3, j1, j2, j3, f1, Option.bind_some, if_pos i1, if_pos i2, if_pos i3, e2, Option.bind_some, x_thrown, Option.bind_some, p5]
  exact y_law f2 (hk _ _ _ _ _ _ _ _ _ _ _ _ _ _ _ _ _ _ _ _ _ _ (hg.sm hsm))
theorem l_C1803 {xs : Nat → Int32} {L : Nat} {k23 : Int32 → (Nat → Int64) → TT → TE → TR → TW → TW → TP → TP → TM → (Nat → Int32) → (Nat → Int64) → (Nat → Int64) → (Nat → Int64) → (Nat → Int64) → (Nat → Int32) → (Nat → Int64) → (Nat → Int64) → (Nat → Int64) → (Nat → Int32) → (Nat → Int32) → TH → TS → Option Unit} {p N : Nat} {g_o : Nat → Int64} {g_x_text : TT} {g_x_entryReader : TE} {g_x_planReader : TR} {g_x_world : TW} {g_x_copy : TW} {g_x_chosen : TP} {g_x_other : TP} {g_m : TM} {g_m_text : Nat → Int32} {g_m_now : Nat → Int64} {g_m_trial : Nat → Int64} {g_m_diary : Nat → Int64} {g_m_kept : Nat → Int64} {g_m_isKept : Nat → Int32} {g_m_chosenBy : Nat → Int64} {g_m_paidBy : Nat → Int64} {g_m_toPay : Nat → Int64} {g_m_plan : Nat → Int32} {g_m_other : Nat → Int32} {g_x_history : TH} {g_x_slots : TS} (hk : HK k23 (p + 5) (N + 50)) (hg : GS N g_x_text g_x_world g_x_history g_x_slots g_m g_m_text g_m_now g_m_diary g_m_kept g_m_isKept) (hN : N < 500000) (hp : p + 5 ≤ L) (hL : L ≤ 2560) : f_law_C1803 xs L k23 (nI p) g_o g_x_text g_x_entryReader g_x_planReader g_x_world g_x_copy g_x_chosen g_x_other g_m g_m_text g_m_now g_m_trial g_m_diary g_m_kept g_m_isKept g_m_chosenBy g_m_paidBy g_m_toPay g_m_plan g_m_other g_x_history g_x_slots = some () := by
  have hg0 := hg
  obtain ⟨⟨Lt, ct, ht⟩, hgw, hs⟩ := hg0
  have hgw0 := hgw
  obtain ⟨⟨ρ, σ, h⟩, -⟩ := hgw0
  have i1 : inb (nI p + (1 : Int32)) L = true := by rw [y_c1, y_Iadd]; exact y_inb (by omega) (by omega)
  have i2 : inb (nI p + (2 : Int32)) L = true := by rw [y_c2, y_Iadd]; exact y_inb (by omega) (by omega)
  have i3 : inb (nI p + (3 : Int32)) L = true := by rw [y_c3, y_Iadd]; exact y_inb (by omega) (by omega)
  have i4 : inb (nI p + (4 : Int32)) L = true := by rw [y_c4, y_Iadd]; exact y_inb (by omega) (by omega)
  have j1 : (nI p + (1 : Int32)).toNatClampNeg = p + 1 := by rw [y_c1, y_Iadd, y_cl (by omega)]
  have j2 : (nI p + (2 : Int32)).toNatClampNeg = p + 2 := by rw [y_c2, y_Iadd, y_cl (by omega)]
  have j3 : (nI p + (3 : Int32)).toNatClampNeg = p + 3 := by rw [y_c3, y_Iadd, y_cl (by omega)]
  have j4 : (nI p + (4 : Int32)).toNatClampNeg = p + 4 := by rw [y_c4, y_Iadd, y_cl (by omega)]
  have p5 : nI p + (5 : Int32) = nI (p + 5) := y_Iadd p 5
  obtain ⟨res, av, w', P1', P2', M', tr', cb', pb', tp', pl', e1, e2, hr, hsm⟩ := p_sim (w0 := g_x_copy) (tr := g_m_trial) (P1 := g_x_chosen) (P2 := g_x_other) (cb := g_m_chosenBy) (tp := g_m_toPay) (pl := g_m_plan) (pb := g_m_paidBy) h (by omega) (((Int32.toInt64 (xs (p + 1))) <<< (Int32.toInt64 (32 : Int32) &&& 63)) ||| ((Int32.toInt64 (xs (p + 2))) &&& (4294967295 : Int64))) (xs (p + 3)) g_m
  obtain ⟨o', f1, f2⟩ := L_simulate (g_p4 := g_o) e1 hr
  unfold f_law_C1803
  rw [if_pos i1, if_pos i2, if_pos i3, j1, j2, j3, f1, Option.bind_some, if_pos i1, if_pos i2, if_pos i3, e2, Option.bind_some, x_thrown, Option.bind_some, p5]
  exact y_law f2 (hk _ _ _ _ _ _ _ _ _ _ _ _ _ _ _ _ _ _ _ _ _ _ (hg.sm hsm))
theorem l_C1903 {xs : Nat → Int32} {L : Nat} {k23 : Int32 → (Nat → Int64) → TT → TE → TR → TW → TW → TP → TP → TM → (Nat → Int32) → (Nat → Int64) → (Nat → Int64) → (Nat → Int64) → (Nat → Int64) → (Nat → Int32) → (Nat → Int64) → (Nat → Int64) → (Nat → Int64) → (Nat → Int32) → (Nat → Int32) → TH → TS → Option Unit} {p N : Nat} {g_o : Nat → Int64} {g_x_text : TT} {g_x_entryReader : TE} {g_x_planReader : TR} {g_x_world : TW} {g_x_copy : TW} {g_x_chosen : TP} {g_x_other : TP} {g_m : TM} {g_m_text : Nat → Int32} {g_m_now : Nat → Int64} {g_m_trial : Nat → Int64} {g_m_diary : Nat → Int64} {g_m_kept : Nat → Int64} {g_m_isKept : Nat → Int32} {g_m_chosenBy : Nat → Int64} {g_m_paidBy : Nat → Int64} {g_m_toPay : Nat → Int64} {g_m_plan : Nat → Int32} {g_m_other : Nat → Int32} {g_x_history : TH} {g_x_slots : TS} (hk : HK k23 (p + 5) (N + 50)) (hg : GS N g_x_text g_x_world g_x_history g_x_slots g_m g_m_text g_m_now g_m_diary g_m_kept g_m_isKept) (hN : N < 500000) (hp : p + 5 ≤ L) (hL : L ≤ 2560) : f_law_C1903 xs L k23 (nI p) g_o g_x_text g_x_entryReader g_x_planReader g_x_world g_x_copy g_x_chosen g_x_other g_m g_m_text g_m_now g_m_trial g_m_diary g_m_kept g_m_isKept g_m_chosenBy g_m_paidBy g_m_toPay g_m_plan g_m_other g_x_history g_x_slots = some () := by
  have hg0 := hg
  obtain ⟨⟨Lt, ct, ht⟩, hgw, hs⟩ := hg0
  have hgw0 := hgw
  obtain ⟨⟨ρ, σ, h⟩, -⟩ := hgw0
  have i1 : inb (nI p + (1 : Int32)) L = true := by rw [y_c1, y_Iadd]; exact y_inb (by omega) (by omega)
  have i2 : inb (nI p + (2 : Int32)) L = true := by rw [y_c2, y_Iadd]; exact y_inb (by omega) (by omega)
  have i3 : inb (nI p + (3 : Int32)) L = true := by rw [y_c3, y_Iadd]; exact y_inb (by omega) (by omega)
  have i4 : inb (nI p + (4 : Int32)) L = true := by rw [y_c4, y_Iadd]; exact y_inb (by omega) (by omega)
  have j1 : (nI p + (1 : Int32)).toNatClampNeg = p + 1 := by rw [y_c1, y_Iadd, y_cl (by omega)]
  have j2 : (nI p + (2 : Int32)).toNatClampNeg = p + 2 := by rw [y_c2, y_Iadd, y_cl (by omega)]
  have j3 : (nI p + (3 : Int32)).toNatClampNeg = p + 3 := by rw [y_c3, y_Iadd, y_cl (by omega)]
  have j4 : (nI p + (4 : Int32)).toNatClampNeg = p + 4 := by rw [y_c4, y_Iadd, y_cl (by omega)]
  have p5 : nI p + (5 : Int32) = nI (p + 5) := y_Iadd p 5
  obtain ⟨res, av, S', M', kept', isK', e1, e2, hr, hsm, hs2⟩ := p_save h hs (xs (p + 1))
  obtain ⟨o', f1, f2⟩ := L_save (g_p3 := g_o) e1 hr
  unfold f_law_C1903
  rw [if_pos i1, j1, f1, Option.bind_some, if_pos i1, e2, Option.bind_some, x_thrown, Option.bind_some, p5]
  exact y_law f2 (hk _ _ _ _ _ _ _ _ _ _ _ _ _ _ _ _ _ _ _ _ _ _ (⟨⟨_, _, ht.sm hsm.1⟩, hgw.mono (by omega) hsm.2, hs2.mono (by omega)⟩))
theorem l_C1959 {xs : Nat → Int32} {L : Nat} {k23 : Int32 → (Nat → Int64) → TT → TE → TR → TW → TW → TP → TP → TM → (Nat → Int32) → (Nat → Int64) → (Nat → Int64) → (Nat → Int64) → (Nat → Int64) → (Nat → Int32) → (Nat → Int64) → (Nat → Int64) → (Nat → Int64) → (Nat → Int32) → (Nat → Int32) → TH → TS → Option Unit} {p N : Nat} {g_o : Nat → Int64} {g_x_text : TT} {g_x_entryReader : TE} {g_x_planReader : TR} {g_x_world : TW} {g_x_copy : TW} {g_x_chosen : TP} {g_x_other : TP} {g_m : TM} {g_m_text : Nat → Int32} {g_m_now : Nat → Int64} {g_m_trial : Nat → Int64} {g_m_diary : Nat → Int64} {g_m_kept : Nat → Int64} {g_m_isKept : Nat → Int32} {g_m_chosenBy : Nat → Int64} {g_m_paidBy : Nat → Int64} {g_m_toPay : Nat → Int64} {g_m_plan : Nat → Int32} {g_m_other : Nat → Int32} {g_x_history : TH} {g_x_slots : TS} (hk : HK k23 (p + 5) (N + 50)) (hg : GS N g_x_text g_x_world g_x_history g_x_slots g_m g_m_text g_m_now g_m_diary g_m_kept g_m_isKept) (hN : N < 500000) (hp : p + 5 ≤ L) (hL : L ≤ 2560) : f_law_C1959 xs L k23 (nI p) g_o g_x_text g_x_entryReader g_x_planReader g_x_world g_x_copy g_x_chosen g_x_other g_m g_m_text g_m_now g_m_trial g_m_diary g_m_kept g_m_isKept g_m_chosenBy g_m_paidBy g_m_toPay g_m_plan g_m_other g_x_history g_x_slots = some () := by
  have hg0 := hg
  obtain ⟨⟨Lt, ct, ht⟩, hgw, hs⟩ := hg0
  have hgw0 := hgw
  obtain ⟨⟨ρ, σ, h⟩, -⟩ := hgw0
  have i1 : inb (nI p + (1 : Int32)) L = true := by rw [y_c1, y_Iadd]; exact y_inb (by omega) (by omega)
  have i2 : inb (nI p + (2 : Int32)) L = true := by rw [y_c2, y_Iadd]; exact y_inb (by omega) (by omega)
  have i3 : inb (nI p + (3 : Int32)) L = true := by rw [y_c3, y_Iadd]; exact y_inb (by omega) (by omega)
  have i4 : inb (nI p + (4 : Int32)) L = true := by rw [y_c4, y_Iadd]; exact y_inb (by omega) (by omega)
  have j1 : (nI p + (1 : Int32)).toNatClampNeg = p + 1 := by rw [y_c1, y_Iadd, y_cl (by omega)]
  have j2 : (nI p + (2 : Int32)).toNatClampNeg = p + 2 := by rw [y_c2, y_Iadd, y_cl (by omega)]
  have j3 : (nI p + (3 : Int32)).toNatClampNeg = p + 3 := by rw [y_c3, y_Iadd, y_cl (by omega)]
  have j4 : (nI p + (4 : Int32)).toNatClampNeg = p + 4 := by rw [y_c4, y_Iadd, y_cl (by omega)]
  have p5 : nI p + (5 : Int32) = nI (p + 5) := y_Iadd p 5
  obtain ⟨res, av, w', H', M', now', e1, e2, hr, hsz, hg2⟩ := p_restore hgw hs (xs (p + 1))
  obtain ⟨o', f1, f2⟩ := L_restore (g_p3 := g_o) e1 hr
  unfold f_law_C1959
  rw [if_pos i1, j1, f1, Option.bind_some, if_pos i1, e2, Option.bind_some, x_thrown, Option.bind_some, p5]
  exact y_law f2 (hk _ _ _ _ _ _ _ _ _ _ _ _ _ _ _ _ _ _ _ _ _ _ (⟨⟨_, _, ht.sm hsz⟩, hg2.mono (by omega) rfl, hs.mono (by omega)⟩))
theorem l_C2015 {xs : Nat → Int32} {L : Nat} {k23 : Int32 → (Nat → Int64) → TT → TE → TR → TW → TW → TP → TP → TM → (Nat → Int32) → (Nat → Int64) → (Nat → Int64) → (Nat → Int64) → (Nat → Int64) → (Nat → Int32) → (Nat → Int64) → (Nat → Int64) → (Nat → Int64) → (Nat → Int32) → (Nat → Int32) → TH → TS → Option Unit} {p N : Nat} {g_o : Nat → Int64} {g_x_text : TT} {g_x_entryReader : TE} {g_x_planReader : TR} {g_x_world : TW} {g_x_copy : TW} {g_x_chosen : TP} {g_x_other : TP} {g_m : TM} {g_m_text : Nat → Int32} {g_m_now : Nat → Int64} {g_m_trial : Nat → Int64} {g_m_diary : Nat → Int64} {g_m_kept : Nat → Int64} {g_m_isKept : Nat → Int32} {g_m_chosenBy : Nat → Int64} {g_m_paidBy : Nat → Int64} {g_m_toPay : Nat → Int64} {g_m_plan : Nat → Int32} {g_m_other : Nat → Int32} {g_x_history : TH} {g_x_slots : TS} (hk : HK k23 (p + 5) (N + 50)) (hg : GS N g_x_text g_x_world g_x_history g_x_slots g_m g_m_text g_m_now g_m_diary g_m_kept g_m_isKept) (hN : N < 500000) (hp : p + 5 ≤ L) (hL : L ≤ 2560) : f_law_C2015 xs L k23 (nI p) g_o g_x_text g_x_entryReader g_x_planReader g_x_world g_x_copy g_x_chosen g_x_other g_m g_m_text g_m_now g_m_trial g_m_diary g_m_kept g_m_isKept g_m_chosenBy g_m_paidBy g_m_toPay g_m_plan g_m_other g_x_history g_x_slots = some () := by
  have hg0 := hg
  obtain ⟨⟨Lt, ct, ht⟩, hgw, hs⟩ := hg0
  have hgw0 := hgw
  obtain ⟨⟨ρ, σ, h⟩, -⟩ := hgw0
  have i1 : inb (nI p + (1 : Int32)) L = true := by rw [y_c1, y_Iadd]; exact y_inb (by omega) (by omega)
  have i2 : inb (nI p + (2 : Int32)) L = true := by rw [y_c2, y_Iadd]; exact y_inb (by omega) (by omega)
  have i3 : inb (nI p + (3 : Int32)) L = true := by rw [y_c3, y_Iadd]; exact y_inb (by omega) (by omega)
  have i4 : inb (nI p + (4 : Int32)) L = true := by rw [y_c4, y_Iadd]; exact y_inb (by omega) (by omega)
  have j1 : (nI p + (1 : Int32)).toNatClampNeg = p + 1 := by rw [y_c1, y_Iadd, y_cl (by omega)]
  have j2 : (nI p + (2 : Int32)).toNatClampNeg = p + 2 := by rw [y_c2, y_Iadd, y_cl (by omega)]
  have j3 : (nI p + (3 : Int32)).toNatClampNeg = p + 3 := by rw [y_c3, y_Iadd, y_cl (by omega)]
  have j4 : (nI p + (4 : Int32)).toNatClampNeg = p + 4 := by rw [y_c4, y_Iadd, y_cl (by omega)]
  have p5 : nI p + (5 : Int32) = nI (p + 5) := y_Iadd p 5
  unfold f_law_C2015
  rw [p5]
  exact hk _ _ _ _ _ _ _ _ _ _ _ _ _ _ _ _ _ _ _ _ _ _ (hg.sm ⟨rfl, rfl⟩)
theorem l_L23 {xs : Nat → Int32} {L : Nat} (hL : L ≤ 2560) : ∀ n p N (g_o : Nat → Int64) (g_x_text : TT) (g_x_entryReader : TE) (g_x_planReader : TR) (g_x_world : TW) (g_x_copy : TW) (g_x_chosen : TP) (g_x_other : TP) (g_m : TM) (g_m_text : Nat → Int32) (g_m_now : Nat → Int64) (g_m_trial : Nat → Int64) (g_m_diary : Nat → Int64) (g_m_kept : Nat → Int64) (g_m_isKept : Nat → Int32) (g_m_chosenBy : Nat → Int64) (g_m_paidBy : Nat → Int64) (g_m_toPay : Nat → Int64) (g_m_plan : Nat → Int32) (g_m_other : Nat → Int32) (g_x_history : TH) (g_x_slots : TS), L < p + 5 * n + 5 → N + 50 * n < 400000 → p ≤ 2565 → GS N g_x_text g_x_world g_x_history g_x_slots g_m g_m_text g_m_now g_m_diary g_m_kept g_m_isKept → f_law_L23 xs L (n + 1) (nI p) g_o g_x_text g_x_entryReader g_x_planReader g_x_world g_x_copy g_x_chosen g_x_other g_m g_m_text g_m_now g_m_trial g_m_diary g_m_kept g_m_isKept g_m_chosenBy g_m_paidBy g_m_toPay g_m_plan g_m_other g_x_history g_x_slots = some () := by
  have hs5 : ∀ p, p ≤ 2565 → ((Int32.ofNat L - (5 : Int32)) < nI p ↔ L < p + 5) := by
    intro p hp
    have e1 : (Int32.ofNat L).toInt = (L : Int) := nI_toInt (show L < 2147483648 by omega)
    have e5 : (5 : Int32).toInt = 5 := rfl
    rw [fa_lt, fb_subI (by rw [e1, e5]; omega) (by rw [e1, e5]; omega), e1, e5, show (nI p).toInt = (p : Int) from nI_toInt (by omega)]
    omega
  intro n
  induction n with
  | zero =>
    intro p N g_o g_x_text g_x_entryReader g_x_planReader g_x_world g_x_copy g_x_chosen g_x_other g_m g_m_text g_m_now g_m_trial g_m_diary g_m_kept g_m_isKept g_m_chosenBy g_m_paidBy g_m_toPay g_m_plan g_m_other g_x_history g_x_slots h1 h2 h3 hg
    rw [f_law_L23]
    exact if_pos ((hs5 p h3).mpr (by omega))
  | succ n ih =>
    intro p N g_o g_x_text g_x_entryReader g_x_planReader g_x_world g_x_copy g_x_chosen g_x_other g_m g_m_text g_m_now g_m_trial g_m_diary g_m_kept g_m_isKept g_m_chosenBy g_m_paidBy g_m_toPay g_m_plan g_m_other g_x_history g_x_slots h1 h2 h3 hg
    rw [f_law_L23]
    refine y_ite (fun _ => rfl) (fun q => ?_)
    have hp : p + 5 ≤ L := by
      have : ¬ L < p + 5 := fun z => q ((hs5 p h3).mpr z)
      omega
    rw [if_pos (y_inb (show p < L by omega) (by omega))]
    have hk : HK (fun x4 g_o g_x_text g_x_entryReader g_x_planReader g_x_world g_x_copy g_x_chosen g_x_other g_m g_m_text g_m_now g_m_trial g_m_diary g_m_kept g_m_isKept g_m_chosenBy g_m_paidBy g_m_toPay g_m_plan g_m_other g_x_history g_x_slots => f_law_L23 xs L (n + 1) x4 g_o g_x_text g_x_entryReader g_x_planReader g_x_world g_x_copy g_x_chosen g_x_other g_m g_m_text g_m_now g_m_trial g_m_diary g_m_kept g_m_isKept g_m_chosenBy g_m_paidBy g_m_toPay g_m_plan g_m_other g_x_history g_x_slots) (p + 5) (N + 50) := by
      intro g_o g_x_text g_x_entryReader g_x_planReader g_x_world g_x_copy g_x_chosen g_x_other g_m g_m_text g_m_now g_m_trial g_m_diary g_m_kept g_m_isKept g_m_chosenBy g_m_paidBy g_m_toPay g_m_plan g_m_other g_x_history g_x_slots hg2
      exact ih (p + 5) (N + 50) _ _ _ _ _ _ _ _ _ _ _ _ _ _ _ _ _ _ _ _ _ _ (by omega) (by omega) (by omega) hg2
    refine y_ite (fun _ => l_C172 hk hg (by omega) hp hL) (fun _ => ?_)
    refine y_ite (fun _ => l_C228 hk hg (by omega) hp hL) (fun _ => ?_)
    refine y_ite (fun _ => l_C241 hk hg (by omega) hp hL) (fun _ => ?_)
    refine y_ite (fun _ => l_C282 hk hg (by omega) hp hL) (fun _ => ?_)
    refine y_ite (fun _ => l_C326 hk hg (by omega) hp hL) (fun _ => ?_)
    refine y_ite (fun _ => l_C382 hk hg (by omega) hp hL) (fun _ => ?_)
    refine y_ite (fun _ => l_C437 hk hg (by omega) hp hL) (fun _ => ?_)
    refine y_ite (fun _ => l_C493 hk hg (by omega) hp hL) (fun _ => ?_)
    refine y_ite (fun _ => l_C573 hk hg (by omega) hp hL) (fun _ => ?_)
    refine y_ite (fun _ => l_C641 hk hg (by omega) hp hL) (fun _ => ?_)
    refine y_ite (fun _ => l_C697 hk hg (by omega) hp hL) (fun _ => ?_)
    refine y_ite (fun _ => l_C753 hk hg (by omega) hp hL) (fun _ => ?_)
    refine y_ite (fun _ => l_C821 hk hg (by omega) hp hL) (fun _ => ?_)
    refine y_ite (fun _ => l_C913 hk hg (by omega) hp hL) (fun _ => ?_)
    refine y_ite (fun _ => l_C993 hk hg (by omega) hp hL) (fun _ => ?_)
    refine y_ite (fun _ => l_C1049 hk hg (by omega) hp hL) (fun _ => ?_)
    refine y_ite (fun _ => l_C1105 hk hg (by omega) hp hL) (fun _ => ?_)
    refine y_ite (fun _ => l_C1173 hk hg (by omega) hp hL) (fun _ => ?_)
    refine y_ite (fun _ => l_C1217 hk hg (by omega) hp hL) (fun _ => ?_)
    refine y_ite (fun _ => l_C1284 hk hg (by omega) hp hL) (fun _ => ?_)
    refine y_ite (fun _ => l_C1364 hk hg (by omega) hp hL) (fun _ => ?_)
    refine y_ite (fun _ => l_C1432 hk hg (by omega) hp hL) (fun _ => ?_)
    refine y_ite (fun _ => l_C1499 hk hg (by omega) hp hL) (fun _ => ?_)
    refine y_ite (fun _ => l_C1554 hk hg (by omega) hp hL) (fun _ => ?_)
    refine y_ite (fun _ => l_C1634 hk hg (by omega) hp hL) (fun _ => ?_)
    refine y_ite (fun _ => l_C1647 hk hg (by omega) hp hL) (fun _ => ?_)
    refine y_ite (fun _ => l_C1703 hk hg (by omega) hp hL) (fun _ => ?_)
    refine y_ite (fun _ => l_C1803 hk hg (by omega) hp hL) (fun _ => ?_)
    refine y_ite (fun _ => l_C1903 hk hg (by omega) hp hL) (fun _ => ?_)
    refine y_ite (fun _ => l_C1959 hk hg (by omega) hp hL) (fun _ => ?_)
    exact l_C2015 hk hg (by omega) hp hL
