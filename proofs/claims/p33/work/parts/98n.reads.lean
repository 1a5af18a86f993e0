def z64 : Nat → Int64 := fun _ => 0
def z32 : Nat → Int32 := fun _ => 0
theorem q_about {N K : Nat} (q : CW) (hN : N < 600000) (v : Int32) : ∃ res, OKR 1 0 0 res ∧ ∀ (w : TW), WK N K w q → f_X8_about w v = some (res, ()) := by
  by_cases hex : ∃ u, (fun (u : TW) => WK N K u q) u
  · obtain ⟨res, a, b⟩ := rdet (fun (u : TW) => WK N K u q) (fun (u : TW) res => f_X8_about u v = some (res, ())) (f_X9_about M0 (rr q) v) (fun b => b.1) (fun b => M_refusal b.2) (c0 := 1) (c1 := 0) (c2 := 0) (fun u hu => by
      obtain ⟨res, av, M', a, b, s, -⟩ := p_about hu.st v M0
      exact ⟨res, _, a, b, s⟩) (by omega) (by omega) hex
    exact ⟨res, a, fun w hw => b w hw⟩
  · exact ⟨Sum.inr 0, Or.inl ⟨0, rfl⟩, fun w hw => absurd ⟨w, hw⟩ hex⟩
theorem r_about {N K : Nat} (q : CW) (hN : N < 600000) (v : Int32) : ∃ x, ∀ (w : TW), WK N K w q → f_L_tryAbout w v = some (x, ()) := by
  obtain ⟨res, h, hh⟩ := q_about (N := N) (K := K) q hN v
  rcases h with ⟨n, rfl⟩ | ⟨rfl, z⟩ | ⟨rfl, z⟩ | ⟨rfl, z⟩
  · refine ⟨n, fun w hw => ?_⟩
    have e := hh w hw
    unfold f_L_tryAbout
    rw [e]; rfl
  · refine ⟨-9999002, fun w hw => ?_⟩
    have e := hh w hw
    unfold f_L_tryAbout
    rw [e]; rfl
  · omega
  · omega
theorem q_sum {N K : Nat} (q : CW) (hN : N < 600000) (v : Int32) : ∃ res, OKR 1 0 0 res ∧ ∀ (w : TW), WK N K w q → f_X8_sum w v = some (res, ()) := by
  by_cases hex : ∃ u, (fun (u : TW) => WK N K u q) u
  · obtain ⟨res, a, b⟩ := rdet (fun (u : TW) => WK N K u q) (fun (u : TW) res => f_X8_sum u v = some (res, ())) (f_X9_sum M0 (rr q) v) (fun b => b.1) (fun b => M_refusal b.2) (c0 := 1) (c1 := 0) (c2 := 0) (fun u hu => by
      obtain ⟨res, av, M', a, b, s, -⟩ := p_sum hu.st v M0
      exact ⟨res, _, a, b, s⟩) (by omega) (by omega) hex
    exact ⟨res, a, fun w hw => b w hw⟩
  · exact ⟨Sum.inr 0, Or.inl ⟨0, rfl⟩, fun w hw => absurd ⟨w, hw⟩ hex⟩
theorem r_sum {N K : Nat} (q : CW) (hN : N < 600000) (v : Int32) : ∃ x, ∀ (w : TW), WK N K w q → f_L_trySum w v = some (x, ()) := by
  obtain ⟨res, h, hh⟩ := q_sum (N := N) (K := K) q hN v
  rcases h with ⟨n, rfl⟩ | ⟨rfl, z⟩ | ⟨rfl, z⟩ | ⟨rfl, z⟩
  · refine ⟨n, fun w hw => ?_⟩
    have e := hh w hw
    unfold f_L_trySum
    rw [e]; rfl
  · refine ⟨-9999002, fun w hw => ?_⟩
    have e := hh w hw
    unfold f_L_trySum
    rw [e]; rfl
  · omega
  · omega
theorem q_size {N K : Nat} (q : CW) (hN : N < 600000) (v : Int32) : ∃ res, OKR 0 0 1 res ∧ ∀ (w : TW), WK N K w q → f_X8_size w v = some (res, ()) := by
  by_cases hex : ∃ u, (fun (u : TW) => WK N K u q) u
  · obtain ⟨res, a, b⟩ := rdet (fun (u : TW) => WK N K u q) (fun (u : TW) res => f_X8_size u v = some (res, ())) (f_X9_size M0 (rr q) v) (fun b => b.1) (fun b => M_refusal b.2) (c0 := 0) (c1 := 0) (c2 := 1) (fun u hu => by
      obtain ⟨res, av, M', a, b, s, -⟩ := p_size hu.st v M0
      exact ⟨res, _, a, b, s⟩) (by omega) (by omega) hex
    exact ⟨res, a, fun w hw => b w hw⟩
  · exact ⟨Sum.inr 0, Or.inl ⟨0, rfl⟩, fun w hw => absurd ⟨w, hw⟩ hex⟩
theorem r_size {N K : Nat} (q : CW) (hN : N < 600000) (v : Int32) : ∃ x, ∀ (w : TW), WK N K w q → f_L_trySize w v = some (x, ()) := by
  obtain ⟨res, h, hh⟩ := q_size (N := N) (K := K) q hN v
  rcases h with ⟨n, rfl⟩ | ⟨rfl, z⟩ | ⟨rfl, z⟩ | ⟨rfl, z⟩
  · refine ⟨n, fun w hw => ?_⟩
    have e := hh w hw
    unfold f_L_trySize
    rw [e]; rfl
  · omega
  · omega
  · refine ⟨-9999001, fun w hw => ?_⟩
    have e := hh w hw
    unfold f_L_trySize
    rw [e]; rfl
theorem q_setting {N K : Nat} (q : CW) (hN : N < 600000) (v : Int32) : ∃ res, OKR 1 0 0 res ∧ ∀ (w : TW), WK N K w q → f_X8_setting w v = some (res, ()) := by
  by_cases hex : ∃ u, (fun (u : TW) => WK N K u q) u
  · obtain ⟨res, a, b⟩ := rdet (fun (u : TW) => WK N K u q) (fun (u : TW) res => f_X8_setting u v = some (res, ())) (f_X9_setting M0 (rr q) v) (fun b => b.1) (fun b => M_refusal b.2) (c0 := 1) (c1 := 0) (c2 := 0) (fun u hu => by
      obtain ⟨res, av, M', a, b, s, -⟩ := p_setting hu.st v M0
      exact ⟨res, _, a, b, s⟩) (by omega) (by omega) hex
    exact ⟨res, a, fun w hw => b w hw⟩
  · exact ⟨Sum.inr 0, Or.inl ⟨0, rfl⟩, fun w hw => absurd ⟨w, hw⟩ hex⟩
theorem r_setting {N K : Nat} (q : CW) (hN : N < 600000) (v : Int32) : ∃ x, ∀ (w : TW), WK N K w q → f_L_trySetting w v = some (x, ()) := by
  obtain ⟨res, h, hh⟩ := q_setting (N := N) (K := K) q hN v
  rcases h with ⟨n, rfl⟩ | ⟨rfl, z⟩ | ⟨rfl, z⟩ | ⟨rfl, z⟩
  · refine ⟨n, fun w hw => ?_⟩
    have e := hh w hw
    unfold f_L_trySetting
    rw [e]; rfl
  · refine ⟨-9999002, fun w hw => ?_⟩
    have e := hh w hw
    unfold f_L_trySetting
    rw [e]; rfl
  · omega
  · omega
theorem q_surprise {N K : Nat} (q : CW) (hN : N < 600000) (v1 : Int32) (v2 : Int32) : ∃ res, OKR 1 0 0 res ∧ ∀ (w : TW), WK N K w q → f_X8_surprise w v1 v2 = some (res, ()) := by
  by_cases hex : ∃ u, (fun (u : TW) => WK N K u q) u
  · obtain ⟨res, a, b⟩ := rdet (fun (u : TW) => WK N K u q) (fun (u : TW) res => f_X8_surprise u v1 v2 = some (res, ())) (f_X9_surprise M0 (rr q) v1 v2) (fun b => b.1) (fun b => M_refusal b.2) (c0 := 1) (c1 := 0) (c2 := 0) (fun u hu => by
      obtain ⟨res, av, M', a, b, s, -⟩ := p_surprise hu.st (by omega) v1 v2 M0
      exact ⟨res, _, a, b, s⟩) (by omega) (by omega) hex
    exact ⟨res, a, fun w hw => b w hw⟩
  · exact ⟨Sum.inr 0, Or.inl ⟨0, rfl⟩, fun w hw => absurd ⟨w, hw⟩ hex⟩
theorem r_surprise {N K : Nat} (q : CW) (hN : N < 600000) (v1 : Int32) (v2 : Int32) : ∃ x, ∀ (w : TW), WK N K w q → f_L_trySurprise w v1 v2 = some (x, ()) := by
  obtain ⟨res, h, hh⟩ := q_surprise (N := N) (K := K) q hN v1 v2
  rcases h with ⟨n, rfl⟩ | ⟨rfl, z⟩ | ⟨rfl, z⟩ | ⟨rfl, z⟩
  · refine ⟨n, fun w hw => ?_⟩
    have e := hh w hw
    unfold f_L_trySurprise
    rw [e]; rfl
  · refine ⟨-9999002, fun w hw => ?_⟩
    have e := hh w hw
    unfold f_L_trySurprise
    rw [e]; rfl
  · omega
  · omega
theorem q_pair {N K : Nat} (q : CW) (hN : N < 600000) (v1 : Int32) (v2 : Int32) (v3 : Int32) : ∃ res, OKR 2 0 1 res ∧ ∀ (w : TW), WK N K w q → f_X8_pair w v1 v2 v3 = some (res, ()) := by
  by_cases hex : ∃ u, (fun (u : TW) => WK N K u q) u
  · obtain ⟨res, a, b⟩ := rdet (fun (u : TW) => WK N K u q) (fun (u : TW) res => f_X8_pair u v1 v2 v3 = some (res, ())) (f_X9_pair M0 (rr q) v1 v2 v3) (fun b => b.1) (fun b => M_refusal b.2) (c0 := 2) (c1 := 0) (c2 := 1) (fun u hu => by
      obtain ⟨res, av, M', a, b, s, -⟩ := p_pair hu.st v1 v2 v3 M0
      exact ⟨res, _, a, b, s⟩) (by omega) (by omega) hex
    exact ⟨res, a, fun w hw => b w hw⟩
  · exact ⟨Sum.inr 0, Or.inl ⟨0, rfl⟩, fun w hw => absurd ⟨w, hw⟩ hex⟩
theorem r_pair {N K : Nat} (q : CW) (hN : N < 600000) (v1 : Int32) (v2 : Int32) (v3 : Int32) : ∃ x, ∀ (w : TW), WK N K w q → f_L_tryPair w v1 v2 v3 = some (x, ()) := by
  obtain ⟨res, h, hh⟩ := q_pair (N := N) (K := K) q hN v1 v2 v3
  rcases h with ⟨n, rfl⟩ | ⟨rfl, z⟩ | ⟨rfl, z⟩ | ⟨rfl, z⟩
  · refine ⟨n, fun w hw => ?_⟩
    have e := hh w hw
    unfold f_L_tryPair
    rw [e]; rfl
  · refine ⟨-9999002, fun w hw => ?_⟩
    have e := hh w hw
    unfold f_L_tryPair
    rw [e]; rfl
  · omega
  · refine ⟨-9999001, fun w hw => ?_⟩
    have e := hh w hw
    unfold f_L_tryPair
    rw [e]; rfl
theorem q_rows {N K : Nat} (q : CW) (hN : N < 600000) (v1 : Int32) (v2 : Int32) : ∃ res, OKR 2 0 1 res ∧ ∀ (w : TW) (P : TP), WK N K w q → ∃ P', f_X8_rows w P v1 v2 = some (res, P') := by
  by_cases hex : ∃ u, (fun (u : TW × TP) => WK N K u.1 q) u
  · obtain ⟨res, a, b⟩ := rdet (fun (u : TW × TP) => WK N K u.1 q) (fun (u : TW × TP) res => ∃ P', f_X8_rows u.1 u.2 v1 v2 = some (res, P')) (f_X9_rows M0 (rr q) v1 v2) (fun b => b.1) (fun b => M_refusal b.2) (c0 := 2) (c1 := 0) (c2 := 1) (fun u hu => by
      obtain ⟨res, av, P', M', a, b, s, -⟩ := p_rows (P := u.2) hu.st v1 v2 M0
      exact ⟨res, _, ⟨P', a⟩, b, s⟩) (by omega) (by omega) hex
    exact ⟨res, a, fun w P hw => b (w, P) hw⟩
  · exact ⟨Sum.inr 0, Or.inl ⟨0, rfl⟩, fun w P hw => absurd ⟨(w, P), hw⟩ hex⟩
theorem r_rows {N K : Nat} (q : CW) (hN : N < 600000) (v1 : Int32) (v2 : Int32) : ∃ x, ∀ (w : TW) (P : TP), WK N K w q → ∃ P', f_L_tryRows w P v1 v2 = some (x, P') := by
  obtain ⟨res, h, hh⟩ := q_rows (N := N) (K := K) q hN v1 v2
  rcases h with ⟨n, rfl⟩ | ⟨rfl, z⟩ | ⟨rfl, z⟩ | ⟨rfl, z⟩
  · refine ⟨n, fun w P hw => ?_⟩
    obtain ⟨P', e⟩ := hh w P hw
    refine ⟨P', ?_⟩
    unfold f_L_tryRows
    rw [e]; rfl
  · refine ⟨-9999002, fun w P hw => ?_⟩
    obtain ⟨P', e⟩ := hh w P hw
    refine ⟨P', ?_⟩
    unfold f_L_tryRows
    rw [e]; rfl
  · omega
  · refine ⟨-9999001, fun w P hw => ?_⟩
    obtain ⟨P', e⟩ := hh w P hw
    refine ⟨P', ?_⟩
    unfold f_L_tryRows
    rw [e]; rfl
theorem q_order {N K : Nat} (q : CW) (hN : N < 600000) (v1 : Int32) (v2 : Int32) (v3 : Int32) : ∃ res, OKR 2 0 1 res ∧ ∀ (w : TW) (P : TP), WK N K w q → ∃ P', f_X8_order w P v1 v2 v3 = some (res, P') := by
  by_cases hex : ∃ u, (fun (u : TW × TP) => WK N K u.1 q) u
  · obtain ⟨res, a, b⟩ := rdet (fun (u : TW × TP) => WK N K u.1 q) (fun (u : TW × TP) res => ∃ P', f_X8_order u.1 u.2 v1 v2 v3 = some (res, P')) (f_X9_order M0 (rr q) z64 z64 z32 v1 v2 v3) (fun b => b.1) (fun b => M_refusal b.2.1) (c0 := 2) (c1 := 0) (c2 := 1) (fun u hu => by
      obtain ⟨res, av, P', M', cb', tp', pl', a, b, s, -⟩ := p_order (P := u.2) (cb := z64) (tp := z64) (pl := z32) hu.st v1 v2 v3 M0
      exact ⟨res, _, ⟨P', a⟩, b, s⟩) (by omega) (by omega) hex
    exact ⟨res, a, fun w P hw => b (w, P) hw⟩
  · exact ⟨Sum.inr 0, Or.inl ⟨0, rfl⟩, fun w P hw => absurd ⟨(w, P), hw⟩ hex⟩
theorem r_order {N K : Nat} (q : CW) (hN : N < 600000) (v1 : Int32) (v2 : Int32) (v3 : Int32) : ∃ x, ∀ (w : TW) (P : TP), WK N K w q → ∃ P', f_L_tryOrder w P v1 v2 v3 = some (x, P') := by
  obtain ⟨res, h, hh⟩ := q_order (N := N) (K := K) q hN v1 v2 v3
  rcases h with ⟨n, rfl⟩ | ⟨rfl, z⟩ | ⟨rfl, z⟩ | ⟨rfl, z⟩
  · refine ⟨n, fun w P hw => ?_⟩
    obtain ⟨P', e⟩ := hh w P hw
    refine ⟨P', ?_⟩
    unfold f_L_tryOrder
    rw [e]; rfl
  · refine ⟨-9999002, fun w P hw => ?_⟩
    obtain ⟨P', e⟩ := hh w P hw
    refine ⟨P', ?_⟩
    unfold f_L_tryOrder
    rw [e]; rfl
  · omega
  · refine ⟨-9999001, fun w P hw => ?_⟩
    obtain ⟨P', e⟩ := hh w P hw
    refine ⟨P', ?_⟩
    unfold f_L_tryOrder
    rw [e]; rfl
theorem q_way {N K : Nat} (q : CW) (hN : N < 600000) (v1 : Int32) (v2 : Int32) : ∃ res, OKR 2 0 1 res ∧ ∀ (w : TW) (P : TP), WK N K w q → ∃ P', f_X8_way w P v1 v2 = some (res, P') := by
  by_cases hex : ∃ u, (fun (u : TW × TP) => WK N K u.1 q) u
  · obtain ⟨res, a, b⟩ := rdet (fun (u : TW × TP) => WK N K u.1 q) (fun (u : TW × TP) res => ∃ P', f_X8_way u.1 u.2 v1 v2 = some (res, P')) (f_X9_way M0 (rr q) z64 z64 z32 v1 v2) (fun b => b.1) (fun b => M_refusal b.2.1) (c0 := 2) (c1 := 0) (c2 := 1) (fun u hu => by
      obtain ⟨res, av, P', M', cb', tp', pl', a, b, s, -⟩ := p_way (P := u.2) (cb := z64) (tp := z64) (pl := z32) hu.st v1 v2 M0
      exact ⟨res, _, ⟨P', a⟩, b, s⟩) (by omega) (by omega) hex
    exact ⟨res, a, fun w P hw => b (w, P) hw⟩
  · exact ⟨Sum.inr 0, Or.inl ⟨0, rfl⟩, fun w P hw => absurd ⟨(w, P), hw⟩ hex⟩
theorem r_way {N K : Nat} (q : CW) (hN : N < 600000) (v1 : Int32) (v2 : Int32) : ∃ x, ∀ (w : TW) (P : TP), WK N K w q → ∃ P', f_L_tryWay w P v1 v2 = some (x, P') := by
  obtain ⟨res, h, hh⟩ := q_way (N := N) (K := K) q hN v1 v2
  rcases h with ⟨n, rfl⟩ | ⟨rfl, z⟩ | ⟨rfl, z⟩ | ⟨rfl, z⟩
  · refine ⟨n, fun w P hw => ?_⟩
    obtain ⟨P', e⟩ := hh w P hw
    refine ⟨P', ?_⟩
    unfold f_L_tryWay
    rw [e]; rfl
  · refine ⟨-9999002, fun w P hw => ?_⟩
    obtain ⟨P', e⟩ := hh w P hw
    refine ⟨P', ?_⟩
    unfold f_L_tryWay
    rw [e]; rfl
  · omega
  · refine ⟨-9999001, fun w P hw => ?_⟩
    obtain ⟨P', e⟩ := hh w P hw
    refine ⟨P', ?_⟩
    unfold f_L_tryWay
    rw [e]; rfl
theorem q_cost {N K : Nat} (q : CW) (hN : N < 600000) (v1 : Int32) (v2 : Int32) : ∃ res, OKR 2 0 1 res ∧ ∀ (w : TW) (P : TP) (Q : TP), WK N K w q → ∃ P' Q', f_X8_cost w P Q v1 v2 = some (res, (P', Q')) := by
  by_cases hex : ∃ u, (fun (u : TW × TP × TP) => WK N K u.1 q) u
  · obtain ⟨res, a, b⟩ := rdet (fun (u : TW × TP × TP) => WK N K u.1 q) (fun (u : TW × TP × TP) res => ∃ P' Q', f_X8_cost u.1 u.2.1 u.2.2 v1 v2 = some (res, (P', Q'))) (f_X9_cost M0 (rr q) z64 z64 z64 z32 v1 v2) (fun b => b.1) (fun b => M_refusal b.2.1) (c0 := 2) (c1 := 0) (c2 := 1) (fun u hu => by
      obtain ⟨res, av, P', Q', M', cb', pb', tp', pl', a, b, s, -⟩ := p_cost (P1 := u.2.1) (P2 := u.2.2) (cb := z64) (pb := z64) (tp := z64) (pl := z32) hu.st v1 v2 M0
      exact ⟨res, _, ⟨P', Q', a⟩, b, s⟩) (by omega) (by omega) hex
    exact ⟨res, a, fun w P Q hw => b (w, P, Q) hw⟩
  · exact ⟨Sum.inr 0, Or.inl ⟨0, rfl⟩, fun w P Q hw => absurd ⟨(w, P, Q), hw⟩ hex⟩
theorem r_cost {N K : Nat} (q : CW) (hN : N < 600000) (v1 : Int32) (v2 : Int32) : ∃ x, ∀ (w : TW) (P : TP) (Q : TP), WK N K w q → ∃ P' Q', f_L_tryCost w P Q v1 v2 = some (x, (P', Q')) := by
  obtain ⟨res, h, hh⟩ := q_cost (N := N) (K := K) q hN v1 v2
  rcases h with ⟨n, rfl⟩ | ⟨rfl, z⟩ | ⟨rfl, z⟩ | ⟨rfl, z⟩
  · refine ⟨n, fun w P Q hw => ?_⟩
    obtain ⟨P', Q', e⟩ := hh w P Q hw
    refine ⟨P', Q', ?_⟩
    unfold f_L_tryCost
    rw [e]; rfl
  · refine ⟨-9999002, fun w P Q hw => ?_⟩
    obtain ⟨P', Q', e⟩ := hh w P Q hw
    refine ⟨P', Q', ?_⟩
    unfold f_L_tryCost
    rw [e]; rfl
  · omega
  · refine ⟨-9999001, fun w P Q hw => ?_⟩
    obtain ⟨P', Q', e⟩ := hh w P Q hw
    refine ⟨P', Q', ?_⟩
    unfold f_L_tryCost
    rw [e]; rfl
theorem q_costOfText {N K : Nat} (q : CW) {L : Nat} {c : Nat → Nat} (hN : N < 600000) (v : Int32) : ∃ res, OKR 1 2 0 res ∧ ∀ (T : TT) (R : TR) (w : TW) (P : TP), TK T L c → WK N K w q → ∃ R' P', f_X8_costOfText T R w P v = some (res, (R', P')) := by
  by_cases hex : ∃ u, (fun (u : TT × TR × TW × TP) => TK u.1 L c ∧ WK N K u.2.2.1 q) u
  · obtain ⟨res, a, b⟩ := rdet (fun (u : TT × TR × TW × TP) => TK u.1 L c ∧ WK N K u.2.2.1 q) (fun (u : TT × TR × TW × TP) res => ∃ R' P', f_X8_costOfText u.1 u.2.1 u.2.2.1 u.2.2.2 v = some (res, (R', P'))) (f_X9_costOfText (ML L) (fun k => nI (c k)) (rr q) z64 z64 z32 v) (fun b => b.1) (fun b => M_refusal b.2.1) (c0 := 1) (c1 := 2) (c2 := 0) (fun u hu => by
      obtain ⟨res, av, R', P', M', cb', pb', pl', a, b, s, -⟩ := p_text (T := u.1) (R := u.2.1) (P := u.2.2.2) (cb := z64) (pb := z64) (pl := z32) hu.1.x hu.2.st v
      exact ⟨res, _, ⟨R', P', a⟩, b, s⟩) (by omega) (by omega) hex
    exact ⟨res, a, fun T R w P ht hw => b (T, R, w, P) ⟨ht, hw⟩⟩
  · exact ⟨Sum.inr 0, Or.inl ⟨0, rfl⟩, fun T R w P ht hw => absurd ⟨(T, R, w, P), ⟨ht, hw⟩⟩ hex⟩
theorem r_costOfText {N K : Nat} (q : CW) {L : Nat} {c : Nat → Nat} (hN : N < 600000) (v : Int32) : ∃ x, ∀ (T : TT) (R : TR) (w : TW) (P : TP), TK T L c → WK N K w q → ∃ R' P', f_L_tryText T R w P v = some (x, (R', P')) := by
  obtain ⟨res, h, hh⟩ := q_costOfText (N := N) (K := K) (L := L) (c := c) q hN v
  rcases h with ⟨n, rfl⟩ | ⟨rfl, z⟩ | ⟨rfl, z⟩ | ⟨rfl, z⟩
  · refine ⟨n, fun T R w P ht hw => ?_⟩
    obtain ⟨R', P', e⟩ := hh T R w P ht hw
    refine ⟨R', P', ?_⟩
    unfold f_L_tryText
    rw [e]; rfl
  · refine ⟨-9999002, fun T R w P ht hw => ?_⟩
    obtain ⟨R', P', e⟩ := hh T R w P ht hw
    refine ⟨R', P', ?_⟩
    unfold f_L_tryText
    rw [e]; rfl
  · refine ⟨-9999003, fun T R w P ht hw => ?_⟩
    obtain ⟨R', P', e⟩ := hh T R w P ht hw
    refine ⟨R', P', ?_⟩
    unfold f_L_tryText
    rw [e]; rfl
  · omega
theorem q_matters {N K : Nat} (q : CW) (hN : N < 600000) (v1 : Int32) (v2 : Int32) (v3 : Int32) : ∃ res, OKR 2 0 1 res ∧ ∀ (w : TW) (w0 : TW) (P : TP) (Q : TP), WK N K w q → ∃ w0' P' Q', f_X8_matters w w0 P Q v1 v2 v3 = some (res, (w0', P', Q')) := by
  by_cases hex : ∃ u, (fun (u : TW × TW × TP × TP) => WK N K u.1 q) u
  · obtain ⟨res, a, b⟩ := rdet (fun (u : TW × TW × TP × TP) => WK N K u.1 q) (fun (u : TW × TW × TP × TP) res => ∃ w0' P' Q', f_X8_matters u.1 u.2.1 u.2.2.1 u.2.2.2 v1 v2 v3 = some (res, (w0', P', Q'))) (f_X9_matters M0 (rr q) z64 z64 z64 z32 z32 v1 v2 v3) (fun b => b.1) (fun b => M_refusal b.2.1) (c0 := 2) (c1 := 0) (c2 := 1) (fun u hu => by
      obtain ⟨res, av, w0', P', Q', M', tr', cb', tp', pl', oth', a, b, s, -⟩ := p_matters (w0 := u.2.1) (P1 := u.2.2.1) (P2 := u.2.2.2) (tr := z64) (cb := z64) (tp := z64) (pl := z32) (oth := z32) hu.st v1 v2 v3 M0
      exact ⟨res, _, ⟨w0', P', Q', a⟩, b, s⟩) (by omega) (by omega) hex
    exact ⟨res, a, fun w w0 P Q hw => b (w, w0, P, Q) hw⟩
  · exact ⟨Sum.inr 0, Or.inl ⟨0, rfl⟩, fun w w0 P Q hw => absurd ⟨(w, w0, P, Q), hw⟩ hex⟩
theorem r_matters {N K : Nat} (q : CW) (hN : N < 600000) (v1 : Int32) (v2 : Int32) (v3 : Int32) : ∃ x, ∀ (w : TW) (w0 : TW) (P : TP) (Q : TP), WK N K w q → ∃ w0' P' Q', f_L_tryMatters w w0 P Q v1 v2 v3 = some (x, (w0', P', Q')) := by
  obtain ⟨res, h, hh⟩ := q_matters (N := N) (K := K) q hN v1 v2 v3
  rcases h with ⟨n, rfl⟩ | ⟨rfl, z⟩ | ⟨rfl, z⟩ | ⟨rfl, z⟩
  · refine ⟨n, fun w w0 P Q hw => ?_⟩
    obtain ⟨w0', P', Q', e⟩ := hh w w0 P Q hw
    refine ⟨w0', P', Q', ?_⟩
    unfold f_L_tryMatters
    rw [e]; rfl
  · refine ⟨-9999002, fun w w0 P Q hw => ?_⟩
    obtain ⟨w0', P', Q', e⟩ := hh w w0 P Q hw
    refine ⟨w0', P', Q', ?_⟩
    unfold f_L_tryMatters
    rw [e]; rfl
  · omega
  · refine ⟨-9999001, fun w w0 P Q hw => ?_⟩
    obtain ⟨w0', P', Q', e⟩ := hh w w0 P Q hw
    refine ⟨w0', P', Q', ?_⟩
    unfold f_L_tryMatters
    rw [e]; rfl
theorem q_learnsIn {N K : Nat} (q : CW) (hN : N < 600000) (v : Int32) : ∃ res, OKR 2 0 1 res ∧ ∀ (w : TW) (w0 : TW) (P : TP) (Q : TP), WK N K w q → ∃ w0' P' Q', f_X8_learnsIn w w0 P Q v = some (res, (w0', P', Q')) := by
  by_cases hex : ∃ u, (fun (u : TW × TW × TP × TP) => WK N K u.1 q) u
  · obtain ⟨res, a, b⟩ := rdet (fun (u : TW × TW × TP × TP) => WK N K u.1 q) (fun (u : TW × TW × TP × TP) res => ∃ w0' P' Q', f_X8_learnsIn u.1 u.2.1 u.2.2.1 u.2.2.2 v = some (res, (w0', P', Q'))) (f_X9_learnsIn M0 (rr q) z64 z64 z64 z64 z32 v) (fun b => b.1) (fun b => M_refusal b.2.1) (c0 := 2) (c1 := 0) (c2 := 1) (fun u hu => by
      obtain ⟨res, av, w0', P', Q', M', tr', cb', pb', tp', pl', a, b, s, -⟩ := p_learns (w0 := u.2.1) (P1 := u.2.2.1) (P2 := u.2.2.2) (tr := z64) (cb := z64) (pb := z64) (tp := z64) (pl := z32) hu.st (by omega) v M0
      exact ⟨res, _, ⟨w0', P', Q', a⟩, b, s⟩) (by omega) (by omega) hex
    exact ⟨res, a, fun w w0 P Q hw => b (w, w0, P, Q) hw⟩
  · exact ⟨Sum.inr 0, Or.inl ⟨0, rfl⟩, fun w w0 P Q hw => absurd ⟨(w, w0, P, Q), hw⟩ hex⟩
theorem r_learnsIn {N K : Nat} (q : CW) (hN : N < 600000) (v : Int32) : ∃ x, ∀ (w : TW) (w0 : TW) (P : TP) (Q : TP), WK N K w q → ∃ w0' P' Q', f_L_tryLearns w w0 P Q v = some (x, (w0', P', Q')) := by
  obtain ⟨res, h, hh⟩ := q_learnsIn (N := N) (K := K) q hN v
  rcases h with ⟨n, rfl⟩ | ⟨rfl, z⟩ | ⟨rfl, z⟩ | ⟨rfl, z⟩
  · refine ⟨n, fun w w0 P Q hw => ?_⟩
    obtain ⟨w0', P', Q', e⟩ := hh w w0 P Q hw
    refine ⟨w0', P', Q', ?_⟩
    unfold f_L_tryLearns
    rw [e]; rfl
  · refine ⟨-9999002, fun w w0 P Q hw => ?_⟩
    obtain ⟨w0', P', Q', e⟩ := hh w w0 P Q hw
    refine ⟨w0', P', Q', ?_⟩
    unfold f_L_tryLearns
    rw [e]; rfl
  · omega
  · refine ⟨-9999001, fun w w0 P Q hw => ?_⟩
    obtain ⟨w0', P', Q', e⟩ := hh w w0 P Q hw
    refine ⟨w0', P', Q', ?_⟩
    unfold f_L_tryLearns
    rw [e]; rfl
theorem q_runScript {N K : Nat} (q : CW) (hN : N < 600000) (v1 : Int32) (v2 : Int64) : ∃ res, OKR 1 0 0 res ∧ ∀ (w : TW) (w0 : TW) (P : TP) (Q : TP), WK N K w q → ∃ w0' P' Q', f_X8_runScript w w0 P Q v1 v2 = some (res, (w0', P', Q')) := by
  by_cases hex : ∃ u, (fun (u : TW × TW × TP × TP) => WK N K u.1 q) u
  · obtain ⟨res, a, b⟩ := rdet (fun (u : TW × TW × TP × TP) => WK N K u.1 q) (fun (u : TW × TW × TP × TP) res => ∃ w0' P' Q', f_X8_runScript u.1 u.2.1 u.2.2.1 u.2.2.2 v1 v2 = some (res, (w0', P', Q'))) (f_X9_runScript M0 (rr q) z64 z64 z64 z64 z32 v1 v2) (fun b => b.1) (fun b => M_refusal b.2.1) (c0 := 1) (c1 := 0) (c2 := 0) (fun u hu => by
      obtain ⟨res, av, w0', P', Q', M', tr', cb', pb', tp', pl', a, b, s, -⟩ := p_script (w0 := u.2.1) (P1 := u.2.2.1) (P2 := u.2.2.2) (tr := z64) (cb := z64) (pb := z64) (tp := z64) (pl := z32) hu.st (by omega) v1 v2 M0
      exact ⟨res, _, ⟨w0', P', Q', a⟩, b, s⟩) (by omega) (by omega) hex
    exact ⟨res, a, fun w w0 P Q hw => b (w, w0, P, Q) hw⟩
  · exact ⟨Sum.inr 0, Or.inl ⟨0, rfl⟩, fun w w0 P Q hw => absurd ⟨(w, w0, P, Q), hw⟩ hex⟩
theorem r_runScript {N K : Nat} (q : CW) (hN : N < 600000) (v1 : Int32) (v2 : Int64) : ∃ x, ∀ (w : TW) (w0 : TW) (P : TP) (Q : TP), WK N K w q → ∃ w0' P' Q', f_L_tryScript w w0 P Q v1 v2 = some (x, (w0', P', Q')) := by
  obtain ⟨res, h, hh⟩ := q_runScript (N := N) (K := K) q hN v1 v2
  rcases h with ⟨n, rfl⟩ | ⟨rfl, z⟩ | ⟨rfl, z⟩ | ⟨rfl, z⟩
  · refine ⟨n, fun w w0 P Q hw => ?_⟩
    obtain ⟨w0', P', Q', e⟩ := hh w w0 P Q hw
    refine ⟨w0', P', Q', ?_⟩
    unfold f_L_tryScript
    rw [e]; rfl
  · refine ⟨-9999002, fun w w0 P Q hw => ?_⟩
    obtain ⟨w0', P', Q', e⟩ := hh w w0 P Q hw
    refine ⟨w0', P', Q', ?_⟩
    unfold f_L_tryScript
    rw [e]; rfl
  · omega
  · omega
theorem q_simulate {N K : Nat} (q : CW) (hN : N < 600000) (v1 : Int64) (v3 : Int32) : ∃ res, OKR 1 0 0 res ∧ ∀ (w : TW) (w0 : TW) (P : TP) (Q : TP), WK N K w q → ∃ w0' P' Q', f_X8_simulate w w0 P Q v1 v3 = some (res, (w0', P', Q')) := by
  by_cases hex : ∃ u, (fun (u : TW × TW × TP × TP) => WK N K u.1 q) u
  · obtain ⟨res, a, b⟩ := rdet (fun (u : TW × TW × TP × TP) => WK N K u.1 q) (fun (u : TW × TW × TP × TP) res => ∃ w0' P' Q', f_X8_simulate u.1 u.2.1 u.2.2.1 u.2.2.2 v1 v3 = some (res, (w0', P', Q'))) (f_X9_simulate M0 (rr q) z64 z64 z64 z64 z32 v1 v3) (fun b => b.1) (fun b => M_refusal b.2.1) (c0 := 1) (c1 := 0) (c2 := 0) (fun u hu => by
      obtain ⟨res, av, w0', P', Q', M', tr', cb', pb', tp', pl', a, b, s, -⟩ := p_sim (w0 := u.2.1) (P1 := u.2.2.1) (P2 := u.2.2.2) (tr := z64) (cb := z64) (pb := z64) (tp := z64) (pl := z32) hu.st (by omega) v1 v3 M0
      exact ⟨res, _, ⟨w0', P', Q', a⟩, b, s⟩) (by omega) (by omega) hex
    exact ⟨res, a, fun w w0 P Q hw => b (w, w0, P, Q) hw⟩
  · exact ⟨Sum.inr 0, Or.inl ⟨0, rfl⟩, fun w w0 P Q hw => absurd ⟨(w, w0, P, Q), hw⟩ hex⟩
theorem r_simulate {N K : Nat} (q : CW) (hN : N < 600000) (v1 : Int64) (v3 : Int32) : ∃ x, ∀ (w : TW) (w0 : TW) (P : TP) (Q : TP), WK N K w q → ∃ w0' P' Q', f_L_trySimulate w w0 P Q v1 v3 = some (x, (w0', P', Q')) := by
  obtain ⟨res, h, hh⟩ := q_simulate (N := N) (K := K) q hN v1 v3
  rcases h with ⟨n, rfl⟩ | ⟨rfl, z⟩ | ⟨rfl, z⟩ | ⟨rfl, z⟩
  · refine ⟨n, fun w w0 P Q hw => ?_⟩
    obtain ⟨w0', P', Q', e⟩ := hh w w0 P Q hw
    refine ⟨w0', P', Q', ?_⟩
    unfold f_L_trySimulate
    rw [e]; rfl
  · refine ⟨-9999002, fun w w0 P Q hw => ?_⟩
    obtain ⟨w0', P', Q', e⟩ := hh w w0 P Q hw
    refine ⟨w0', P', Q', ?_⟩
    unfold f_L_trySimulate
    rw [e]; rfl
  · omega
  · omega
theorem r_worst {N K : Nat} (q : CW) : ∃ x, ∀ (w : TW), WK N K w q → f_X8_worst w = some (x, ()) := by
  by_cases hex : ∃ w, WK N K w q
  · obtain ⟨w0, h0⟩ := hex
    obtain ⟨x, M', a, b, -⟩ := p_worst h0.st M0
    refine ⟨x, fun w hw => ?_⟩
    obtain ⟨x1, M1, a1, b1, -⟩ := p_worst hw.st M0
    cases b.symm.trans b1
    exact a1
  · exact ⟨0, fun w hw => absurd ⟨w, hw⟩ hex⟩
theorem r_err0 (L : Nat) (c : Nat → Nat) : ∃ x, ∀ (T : TT) (E : TE) (R : TR), TK T L c → ∃ E', f_X8_errorPosition T E R (0 : Int32) = some (x, (E', R)) := by
  by_cases hex : ∃ T, TK T L c
  · obtain ⟨T0, h0⟩ := hex
    obtain ⟨x, E', M', tr', a, b, -⟩ := p_err0 (E := E_mk 0 0 0 0 0) (R := R_mk 0 0 0 z32) (tr := z64) h0.x
    refine ⟨x, fun T E R hT => ?_⟩
    obtain ⟨x1, E1, M1, tr1, a1, b1, -⟩ := p_err0 (E := E) (R := R) (tr := z64) hT.x
    cases b.symm.trans b1
    exact ⟨E1, a1⟩
  · exact ⟨0, fun T E R hT => absurd ⟨T, hT⟩ hex⟩
theorem r_err1 (L : Nat) (c : Nat → Nat) : ∃ x, ∀ (T : TT) (E : TE) (R : TR), TK T L c → ∃ R', f_X8_errorPosition T E R (1 : Int32) = some (x, (E, R')) := by
  by_cases hex : ∃ T, TK T L c
  · obtain ⟨T0, h0⟩ := hex
    obtain ⟨x, R', M', a, b, -⟩ := p_err1 (E := E_mk 0 0 0 0 0) (R := R_mk 0 0 0 z32) (tr := z64) h0.x
    refine ⟨x, fun T E R hT => ?_⟩
    obtain ⟨x1, R1, M1, a1, b1, -⟩ := p_err1 (E := E) (R := R) (tr := z64) hT.x
    cases b.symm.trans b1
    exact ⟨R1, a1⟩
  · exact ⟨0, fun T E R hT => absurd ⟨T, hT⟩ hex⟩
