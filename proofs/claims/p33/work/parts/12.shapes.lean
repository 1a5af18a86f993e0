abbrev TE : Type := Int32 × Int32 × Int32 × Int32 × Int32
def E_place (w : TE) : Int32 := w.1
def E_first (w : TE) : Int32 := w.2.1
def E_second (w : TE) : Int32 := w.2.2.1
def E_guess (w : TE) : Int32 := w.2.2.2.1
def E_number (w : TE) : Int32 := w.2.2.2.2
def E_u_place (w : TE) (x : Int32) : TE := (x, E_first w, E_second w, E_guess w, E_number w)
def E_u_first (w : TE) (x : Int32) : TE := (E_place w, x, E_second w, E_guess w, E_number w)
def E_u_second (w : TE) (x : Int32) : TE := (E_place w, E_first w, x, E_guess w, E_number w)
def E_u_guess (w : TE) (x : Int32) : TE := (E_place w, E_first w, E_second w, x, E_number w)
def E_u_number (w : TE) (x : Int32) : TE := (E_place w, E_first w, E_second w, E_guess w, x)
def E_mk (x0 : Int32) (x1 : Int32) (x2 : Int32) (x3 : Int32) (x4 : Int32) : TE := (x0, x1, x2, x3, x4)
theorem E_m_place (x0 : Int32) (x1 : Int32) (x2 : Int32) (x3 : Int32) (x4 : Int32) : E_place (E_mk x0 x1 x2 x3 x4) = x0 := rfl
theorem E_m_first (x0 : Int32) (x1 : Int32) (x2 : Int32) (x3 : Int32) (x4 : Int32) : E_first (E_mk x0 x1 x2 x3 x4) = x1 := rfl
theorem E_m_second (x0 : Int32) (x1 : Int32) (x2 : Int32) (x3 : Int32) (x4 : Int32) : E_second (E_mk x0 x1 x2 x3 x4) = x2 := rfl
theorem E_m_guess (x0 : Int32) (x1 : Int32) (x2 : Int32) (x3 : Int32) (x4 : Int32) : E_guess (E_mk x0 x1 x2 x3 x4) = x3 := rfl
theorem E_m_number (x0 : Int32) (x1 : Int32) (x2 : Int32) (x3 : Int32) (x4 : Int32) : E_number (E_mk x0 x1 x2 x3 x4) = x4 := rfl
theorem E_g_place_place (w : TE) (x : Int32) : E_place (E_u_place w x) = x := rfl
theorem E_g_first_place (w : TE) (x : Int32) : E_first (E_u_place w x) = E_first w := rfl
theorem E_g_second_place (w : TE) (x : Int32) : E_second (E_u_place w x) = E_second w := rfl
theorem E_g_guess_place (w : TE) (x : Int32) : E_guess (E_u_place w x) = E_guess w := rfl
theorem E_g_number_place (w : TE) (x : Int32) : E_number (E_u_place w x) = E_number w := rfl
theorem E_g_place_first (w : TE) (x : Int32) : E_place (E_u_first w x) = E_place w := rfl
theorem E_g_first_first (w : TE) (x : Int32) : E_first (E_u_first w x) = x := rfl
theorem E_g_second_first (w : TE) (x : Int32) : E_second (E_u_first w x) = E_second w := rfl
theorem E_g_guess_first (w : TE) (x : Int32) : E_guess (E_u_first w x) = E_guess w := rfl
theorem E_g_number_first (w : TE) (x : Int32) : E_number (E_u_first w x) = E_number w := rfl
theorem E_g_place_second (w : TE) (x : Int32) : E_place (E_u_second w x) = E_place w := rfl
theorem E_g_first_second (w : TE) (x : Int32) : E_first (E_u_second w x) = E_first w := rfl
theorem E_g_second_second (w : TE) (x : Int32) : E_second (E_u_second w x) = x := rfl
theorem E_g_guess_second (w : TE) (x : Int32) : E_guess (E_u_second w x) = E_guess w := rfl
theorem E_g_number_second (w : TE) (x : Int32) : E_number (E_u_second w x) = E_number w := rfl
theorem E_g_place_guess (w : TE) (x : Int32) : E_place (E_u_guess w x) = E_place w := rfl
theorem E_g_first_guess (w : TE) (x : Int32) : E_first (E_u_guess w x) = E_first w := rfl
theorem E_g_second_guess (w : TE) (x : Int32) : E_second (E_u_guess w x) = E_second w := rfl
theorem E_g_guess_guess (w : TE) (x : Int32) : E_guess (E_u_guess w x) = x := rfl
theorem E_g_number_guess (w : TE) (x : Int32) : E_number (E_u_guess w x) = E_number w := rfl
theorem E_g_place_number (w : TE) (x : Int32) : E_place (E_u_number w x) = E_place w := rfl
theorem E_g_first_number (w : TE) (x : Int32) : E_first (E_u_number w x) = E_first w := rfl
theorem E_g_second_number (w : TE) (x : Int32) : E_second (E_u_number w x) = E_second w := rfl
theorem E_g_guess_number (w : TE) (x : Int32) : E_guess (E_u_number w x) = E_guess w := rfl
theorem E_g_number_number (w : TE) (x : Int32) : E_number (E_u_number w x) = x := rfl
def cE (dT : Nat → ClassId) (a : Nat → Nat) (w : TE) : va_W := [(a 0, .inr (0, [.int (E_place w), .int (E_first w), .int (E_second w), .int (E_guess w), .int (E_number w)]))]
abbrev TR : Type := Int32 × Int32 × Int32 × (Nat → Int32)
def R_count (w : TR) : Int32 := w.1
def R_seen (w : TR) : Int32 := w.2.1
def R_expectsTable (w : TR) : Int32 := w.2.2.1
def R_order (w : TR) : Nat → Int32 := w.2.2.2
def R_u_count (w : TR) (x : Int32) : TR := (x, R_seen w, R_expectsTable w, R_order w)
def R_u_seen (w : TR) (x : Int32) : TR := (R_count w, x, R_expectsTable w, R_order w)
def R_u_expectsTable (w : TR) (x : Int32) : TR := (R_count w, R_seen w, x, R_order w)
def R_u_order (w : TR) (x : Nat → Int32) : TR := (R_count w, R_seen w, R_expectsTable w, x)
def R_mk (x0 : Int32) (x1 : Int32) (x2 : Int32) (x3 : Nat → Int32) : TR := (x0, x1, x2, x3)
theorem R_m_count (x0 : Int32) (x1 : Int32) (x2 : Int32) (x3 : Nat → Int32) : R_count (R_mk x0 x1 x2 x3) = x0 := rfl
theorem R_m_seen (x0 : Int32) (x1 : Int32) (x2 : Int32) (x3 : Nat → Int32) : R_seen (R_mk x0 x1 x2 x3) = x1 := rfl
theorem R_m_expectsTable (x0 : Int32) (x1 : Int32) (x2 : Int32) (x3 : Nat → Int32) : R_expectsTable (R_mk x0 x1 x2 x3) = x2 := rfl
theorem R_m_order (x0 : Int32) (x1 : Int32) (x2 : Int32) (x3 : Nat → Int32) : R_order (R_mk x0 x1 x2 x3) = x3 := rfl
theorem R_g_count_count (w : TR) (x : Int32) : R_count (R_u_count w x) = x := rfl
theorem R_g_seen_count (w : TR) (x : Int32) : R_seen (R_u_count w x) = R_seen w := rfl
theorem R_g_expectsTable_count (w : TR) (x : Int32) : R_expectsTable (R_u_count w x) = R_expectsTable w := rfl
theorem R_g_order_count (w : TR) (x : Int32) : R_order (R_u_count w x) = R_order w := rfl
theorem R_g_count_seen (w : TR) (x : Int32) : R_count (R_u_seen w x) = R_count w := rfl
theorem R_g_seen_seen (w : TR) (x : Int32) : R_seen (R_u_seen w x) = x := rfl
theorem R_g_expectsTable_seen (w : TR) (x : Int32) : R_expectsTable (R_u_seen w x) = R_expectsTable w := rfl
theorem R_g_order_seen (w : TR) (x : Int32) : R_order (R_u_seen w x) = R_order w := rfl
theorem R_g_count_expectsTable (w : TR) (x : Int32) : R_count (R_u_expectsTable w x) = R_count w := rfl
theorem R_g_seen_expectsTable (w : TR) (x : Int32) : R_seen (R_u_expectsTable w x) = R_seen w := rfl
theorem R_g_expectsTable_expectsTable (w : TR) (x : Int32) : R_expectsTable (R_u_expectsTable w x) = x := rfl
theorem R_g_order_expectsTable (w : TR) (x : Int32) : R_order (R_u_expectsTable w x) = R_order w := rfl
theorem R_g_count_order (w : TR) (x : Nat → Int32) : R_count (R_u_order w x) = R_count w := rfl
theorem R_g_seen_order (w : TR) (x : Nat → Int32) : R_seen (R_u_order w x) = R_seen w := rfl
theorem R_g_expectsTable_order (w : TR) (x : Nat → Int32) : R_expectsTable (R_u_order w x) = R_expectsTable w := rfl
theorem R_g_order_order (w : TR) (x : Nat → Int32) : R_order (R_u_order w x) = x := rfl
def cR (dT : Nat → ClassId) (a : Nat → Nat) (w : TR) : va_W := [(a 0, .inr (2, [.int (R_count w), .int (R_seen w), .int (R_expectsTable w), .ref (a 1)])), (a 1, .inl (dT 0, 7, .inl (R_order w)))]
abbrev TP : Type := (Nat → Int32) × (Nat → Int32) × (Nat → Int64) × (Nat → Int64) × (Nat → Int32) × (Nat → Int32) × (Nat → Int32) × Int32 × Int32
def P_sizes (w : TP) : Nat → Int32 := w.1
def P_shares (w : TP) : Nat → Int32 := w.2.1
def P_rowsOf (w : TP) : Nat → Int64 := w.2.2.1
def P_restOf (w : TP) : Nat → Int64 := w.2.2.2.1
def P_nextOf (w : TP) : Nat → Int32 := w.2.2.2.2.1
def P_tableAt (w : TP) : Nat → Int32 := w.2.2.2.2.2.1
def P_wayAt (w : TP) : Nat → Int32 := w.2.2.2.2.2.2.1
def P_whole (w : TP) : Int32 := w.2.2.2.2.2.2.2.1
def P_count (w : TP) : Int32 := w.2.2.2.2.2.2.2.2
def P_u_sizes (w : TP) (x : Nat → Int32) : TP := (x, P_shares w, P_rowsOf w, P_restOf w, P_nextOf w, P_tableAt w, P_wayAt w, P_whole w, P_count w)
def P_u_shares (w : TP) (x : Nat → Int32) : TP := (P_sizes w, x, P_rowsOf w, P_restOf w, P_nextOf w, P_tableAt w, P_wayAt w, P_whole w, P_count w)
def P_u_rowsOf (w : TP) (x : Nat → Int64) : TP := (P_sizes w, P_shares w, x, P_restOf w, P_nextOf w, P_tableAt w, P_wayAt w, P_whole w, P_count w)
def P_u_restOf (w : TP) (x : Nat → Int64) : TP := (P_sizes w, P_shares w, P_rowsOf w, x, P_nextOf w, P_tableAt w, P_wayAt w, P_whole w, P_count w)
def P_u_nextOf (w : TP) (x : Nat → Int32) : TP := (P_sizes w, P_shares w, P_rowsOf w, P_restOf w, x, P_tableAt w, P_wayAt w, P_whole w, P_count w)
def P_u_tableAt (w : TP) (x : Nat → Int32) : TP := (P_sizes w, P_shares w, P_rowsOf w, P_restOf w, P_nextOf w, x, P_wayAt w, P_whole w, P_count w)
def P_u_wayAt (w : TP) (x : Nat → Int32) : TP := (P_sizes w, P_shares w, P_rowsOf w, P_restOf w, P_nextOf w, P_tableAt w, x, P_whole w, P_count w)
def P_u_whole (w : TP) (x : Int32) : TP := (P_sizes w, P_shares w, P_rowsOf w, P_restOf w, P_nextOf w, P_tableAt w, P_wayAt w, x, P_count w)
def P_u_count (w : TP) (x : Int32) : TP := (P_sizes w, P_shares w, P_rowsOf w, P_restOf w, P_nextOf w, P_tableAt w, P_wayAt w, P_whole w, x)
def P_mk (x0 : Nat → Int32) (x1 : Nat → Int32) (x2 : Nat → Int64) (x3 : Nat → Int64) (x4 : Nat → Int32) (x5 : Nat → Int32) (x6 : Nat → Int32) (x7 : Int32) (x8 : Int32) : TP := (x0, x1, x2, x3, x4, x5, x6, x7, x8)
theorem P_m_sizes (x0 : Nat → Int32) (x1 : Nat → Int32) (x2 : Nat → Int64) (x3 : Nat → Int64) (x4 : Nat → Int32) (x5 : Nat → Int32) (x6 : Nat → Int32) (x7 : Int32) (x8 : Int32) : P_sizes (P_mk x0 x1 x2 x3 x4 x5 x6 x7 x8) = x0 := rfl
theorem P_m_shares (x0 : Nat → Int32) (x1 : Nat → Int32) (x2 : Nat → Int64) (x3 : Nat → Int64) (x4 : Nat → Int32) (x5 : Nat → Int32) (x6 : Nat → Int32) (x7 : Int32) (x8 : Int32) : P_shares (P_mk x0 x1 x2 x3 x4 x5 x6 x7 x8) = x1 := rfl
theorem P_m_rowsOf (x0 : Nat → Int32) (x1 : Nat → Int32) (x2 : Nat → Int64) (x3 : Nat → Int64) (x4 : Nat → Int32) (x5 : Nat → Int32) (x6 : Nat → Int32) (x7 : Int32) (x8 : Int32) : P_rowsOf (P_mk x0 x1 x2 x3 x4 x5 x6 x7 x8) = x2 := rfl
theorem P_m_restOf (x0 : Nat → Int32) (x1 : Nat → Int32) (x2 : Nat → Int64) (x3 : Nat → Int64) (x4 : Nat → Int32) (x5 : Nat → Int32) (x6 : Nat → Int32) (x7 : Int32) (x8 : Int32) : P_restOf (P_mk x0 x1 x2 x3 x4 x5 x6 x7 x8) = x3 := rfl
theorem P_m_nextOf (x0 : Nat → Int32) (x1 : Nat → Int32) (x2 : Nat → Int64) (x3 : Nat → Int64) (x4 : Nat → Int32) (x5 : Nat → Int32) (x6 : Nat → Int32) (x7 : Int32) (x8 : Int32) : P_nextOf (P_mk x0 x1 x2 x3 x4 x5 x6 x7 x8) = x4 := rfl
theorem P_m_tableAt (x0 : Nat → Int32) (x1 : Nat → Int32) (x2 : Nat → Int64) (x3 : Nat → Int64) (x4 : Nat → Int32) (x5 : Nat → Int32) (x6 : Nat → Int32) (x7 : Int32) (x8 : Int32) : P_tableAt (P_mk x0 x1 x2 x3 x4 x5 x6 x7 x8) = x5 := rfl
theorem P_m_wayAt (x0 : Nat → Int32) (x1 : Nat → Int32) (x2 : Nat → Int64) (x3 : Nat → Int64) (x4 : Nat → Int32) (x5 : Nat → Int32) (x6 : Nat → Int32) (x7 : Int32) (x8 : Int32) : P_wayAt (P_mk x0 x1 x2 x3 x4 x5 x6 x7 x8) = x6 := rfl
theorem P_m_whole (x0 : Nat → Int32) (x1 : Nat → Int32) (x2 : Nat → Int64) (x3 : Nat → Int64) (x4 : Nat → Int32) (x5 : Nat → Int32) (x6 : Nat → Int32) (x7 : Int32) (x8 : Int32) : P_whole (P_mk x0 x1 x2 x3 x4 x5 x6 x7 x8) = x7 := rfl
theorem P_m_count (x0 : Nat → Int32) (x1 : Nat → Int32) (x2 : Nat → Int64) (x3 : Nat → Int64) (x4 : Nat → Int32) (x5 : Nat → Int32) (x6 : Nat → Int32) (x7 : Int32) (x8 : Int32) : P_count (P_mk x0 x1 x2 x3 x4 x5 x6 x7 x8) = x8 := rfl
theorem P_g_sizes_sizes (w : TP) (x : Nat → Int32) : P_sizes (P_u_sizes w x) = x := rfl
theorem P_g_shares_sizes (w : TP) (x : Nat → Int32) : P_shares (P_u_sizes w x) = P_shares w := rfl
theorem P_g_rowsOf_sizes (w : TP) (x : Nat → Int32) : P_rowsOf (P_u_sizes w x) = P_rowsOf w := rfl
theorem P_g_restOf_sizes (w : TP) (x : Nat → Int32) : P_restOf (P_u_sizes w x) = P_restOf w := rfl
theorem P_g_nextOf_sizes (w : TP) (x : Nat → Int32) : P_nextOf (P_u_sizes w x) = P_nextOf w := rfl
theorem P_g_tableAt_sizes (w : TP) (x : Nat → Int32) : P_tableAt (P_u_sizes w x) = P_tableAt w := rfl
theorem P_g_wayAt_sizes (w : TP) (x : Nat → Int32) : P_wayAt (P_u_sizes w x) = P_wayAt w := rfl
theorem P_g_whole_sizes (w : TP) (x : Nat → Int32) : P_whole (P_u_sizes w x) = P_whole w := rfl
theorem P_g_count_sizes (w : TP) (x : Nat → Int32) : P_count (P_u_sizes w x) = P_count w := rfl
theorem P_g_sizes_shares (w : TP) (x : Nat → Int32) : P_sizes (P_u_shares w x) = P_sizes w := rfl
theorem P_g_shares_shares (w : TP) (x : Nat → Int32) : P_shares (P_u_shares w x) = x := rfl
theorem P_g_rowsOf_shares (w : TP) (x : Nat → Int32) : P_rowsOf (P_u_shares w x) = P_rowsOf w := rfl
theorem P_g_restOf_shares (w : TP) (x : Nat → Int32) : P_restOf (P_u_shares w x) = P_restOf w := rfl
theorem P_g_nextOf_shares (w : TP) (x : Nat → Int32) : P_nextOf (P_u_shares w x) = P_nextOf w := rfl
theorem P_g_tableAt_shares (w : TP) (x : Nat → Int32) : P_tableAt (P_u_shares w x) = P_tableAt w := rfl
theorem P_g_wayAt_shares (w : TP) (x : Nat → Int32) : P_wayAt (P_u_shares w x) = P_wayAt w := rfl
theorem P_g_whole_shares (w : TP) (x : Nat → Int32) : P_whole (P_u_shares w x) = P_whole w := rfl
theorem P_g_count_shares (w : TP) (x : Nat → Int32) : P_count (P_u_shares w x) = P_count w := rfl
theorem P_g_sizes_rowsOf (w : TP) (x : Nat → Int64) : P_sizes (P_u_rowsOf w x) = P_sizes w := rfl
theorem P_g_shares_rowsOf (w : TP) (x : Nat → Int64) : P_shares (P_u_rowsOf w x) = P_shares w := rfl
theorem P_g_rowsOf_rowsOf (w : TP) (x : Nat → Int64) : P_rowsOf (P_u_rowsOf w x) = x := rfl
theorem P_g_restOf_rowsOf (w : TP) (x : Nat → Int64) : P_restOf (P_u_rowsOf w x) = P_restOf w := rfl
theorem P_g_nextOf_rowsOf (w : TP) (x : Nat → Int64) : P_nextOf (P_u_rowsOf w x) = P_nextOf w := rfl
theorem P_g_tableAt_rowsOf (w : TP) (x : Nat → Int64) : P_tableAt (P_u_rowsOf w x) = P_tableAt w := rfl
theorem P_g_wayAt_rowsOf (w : TP) (x : Nat → Int64) : P_wayAt (P_u_rowsOf w x) = P_wayAt w := rfl
theorem P_g_whole_rowsOf (w : TP) (x : Nat → Int64) : P_whole (P_u_rowsOf w x) = P_whole w := rfl
theorem P_g_count_rowsOf (w : TP) (x : Nat → Int64) : P_count (P_u_rowsOf w x) = P_count w := rfl
theorem P_g_sizes_restOf (w : TP) (x : Nat → Int64) : P_sizes (P_u_restOf w x) = P_sizes w := rfl
theorem P_g_shares_restOf (w : TP) (x : Nat → Int64) : P_shares (P_u_restOf w x) = P_shares w := rfl
theorem P_g_rowsOf_restOf (w : TP) (x : Nat → Int64) : P_rowsOf (P_u_restOf w x) = P_rowsOf w := rfl
theorem P_g_restOf_restOf (w : TP) (x : Nat → Int64) : P_restOf (P_u_restOf w x) = x := rfl
theorem P_g_nextOf_restOf (w : TP) (x : Nat → Int64) : P_nextOf (P_u_restOf w x) = P_nextOf w := rfl
theorem P_g_tableAt_restOf (w : TP) (x : Nat → Int64) : P_tableAt (P_u_restOf w x) = P_tableAt w := rfl
theorem P_g_wayAt_restOf (w : TP) (x : Nat → Int64) : P_wayAt (P_u_restOf w x) = P_wayAt w := rfl
theorem P_g_whole_restOf (w : TP) (x : Nat → Int64) : P_whole (P_u_restOf w x) = P_whole w := rfl
theorem P_g_count_restOf (w : TP) (x : Nat → Int64) : P_count (P_u_restOf w x) = P_count w := rfl
theorem P_g_sizes_nextOf (w : TP) (x : Nat → Int32) : P_sizes (P_u_nextOf w x) = P_sizes w := rfl
theorem P_g_shares_nextOf (w : TP) (x : Nat → Int32) : P_shares (P_u_nextOf w x) = P_shares w := rfl
theorem P_g_rowsOf_nextOf (w : TP) (x : Nat → Int32) : P_rowsOf (P_u_nextOf w x) = P_rowsOf w := rfl
theorem P_g_restOf_nextOf (w : TP) (x : Nat → Int32) : P_restOf (P_u_nextOf w x) = P_restOf w := rfl
theorem P_g_nextOf_nextOf (w : TP) (x : Nat → Int32) : P_nextOf (P_u_nextOf w x) = x := rfl
theorem P_g_tableAt_nextOf (w : TP) (x : Nat → Int32) : P_tableAt (P_u_nextOf w x) = P_tableAt w := rfl
theorem P_g_wayAt_nextOf (w : TP) (x : Nat → Int32) : P_wayAt (P_u_nextOf w x) = P_wayAt w := rfl
theorem P_g_whole_nextOf (w : TP) (x : Nat → Int32) : P_whole (P_u_nextOf w x) = P_whole w := rfl
theorem P_g_count_nextOf (w : TP) (x : Nat → Int32) : P_count (P_u_nextOf w x) = P_count w := rfl
theorem P_g_sizes_tableAt (w : TP) (x : Nat → Int32) : P_sizes (P_u_tableAt w x) = P_sizes w := rfl
theorem P_g_shares_tableAt (w : TP) (x : Nat → Int32) : P_shares (P_u_tableAt w x) = P_shares w := rfl
theorem P_g_rowsOf_tableAt (w : TP) (x : Nat → Int32) : P_rowsOf (P_u_tableAt w x) = P_rowsOf w := rfl
theorem P_g_restOf_tableAt (w : TP) (x : Nat → Int32) : P_restOf (P_u_tableAt w x) = P_restOf w := rfl
theorem P_g_nextOf_tableAt (w : TP) (x : Nat → Int32) : P_nextOf (P_u_tableAt w x) = P_nextOf w := rfl
theorem P_g_tableAt_tableAt (w : TP) (x : Nat → Int32) : P_tableAt (P_u_tableAt w x) = x := rfl
theorem P_g_wayAt_tableAt (w : TP) (x : Nat → Int32) : P_wayAt (P_u_tableAt w x) = P_wayAt w := rfl
theorem P_g_whole_tableAt (w : TP) (x : Nat → Int32) : P_whole (P_u_tableAt w x) = P_whole w := rfl
theorem P_g_count_tableAt (w : TP) (x : Nat → Int32) : P_count (P_u_tableAt w x) = P_count w := rfl
theorem P_g_sizes_wayAt (w : TP) (x : Nat → Int32) : P_sizes (P_u_wayAt w x) = P_sizes w := rfl
theorem P_g_shares_wayAt (w : TP) (x : Nat → Int32) : P_shares (P_u_wayAt w x) = P_shares w := rfl
theorem P_g_rowsOf_wayAt (w : TP) (x : Nat → Int32) : P_rowsOf (P_u_wayAt w x) = P_rowsOf w := rfl
theorem P_g_restOf_wayAt (w : TP) (x : Nat → Int32) : P_restOf (P_u_wayAt w x) = P_restOf w := rfl
theorem P_g_nextOf_wayAt (w : TP) (x : Nat → Int32) : P_nextOf (P_u_wayAt w x) = P_nextOf w := rfl
theorem P_g_tableAt_wayAt (w : TP) (x : Nat → Int32) : P_tableAt (P_u_wayAt w x) = P_tableAt w := rfl
theorem P_g_wayAt_wayAt (w : TP) (x : Nat → Int32) : P_wayAt (P_u_wayAt w x) = x := rfl
theorem P_g_whole_wayAt (w : TP) (x : Nat → Int32) : P_whole (P_u_wayAt w x) = P_whole w := rfl
theorem P_g_count_wayAt (w : TP) (x : Nat → Int32) : P_count (P_u_wayAt w x) = P_count w := rfl
theorem P_g_sizes_whole (w : TP) (x : Int32) : P_sizes (P_u_whole w x) = P_sizes w := rfl
theorem P_g_shares_whole (w : TP) (x : Int32) : P_shares (P_u_whole w x) = P_shares w := rfl
theorem P_g_rowsOf_whole (w : TP) (x : Int32) : P_rowsOf (P_u_whole w x) = P_rowsOf w := rfl
theorem P_g_restOf_whole (w : TP) (x : Int32) : P_restOf (P_u_whole w x) = P_restOf w := rfl
theorem P_g_nextOf_whole (w : TP) (x : Int32) : P_nextOf (P_u_whole w x) = P_nextOf w := rfl
theorem P_g_tableAt_whole (w : TP) (x : Int32) : P_tableAt (P_u_whole w x) = P_tableAt w := rfl
theorem P_g_wayAt_whole (w : TP) (x : Int32) : P_wayAt (P_u_whole w x) = P_wayAt w := rfl
theorem P_g_whole_whole (w : TP) (x : Int32) : P_whole (P_u_whole w x) = x := rfl
theorem P_g_count_whole (w : TP) (x : Int32) : P_count (P_u_whole w x) = P_count w := rfl
theorem P_g_sizes_count (w : TP) (x : Int32) : P_sizes (P_u_count w x) = P_sizes w := rfl
theorem P_g_shares_count (w : TP) (x : Int32) : P_shares (P_u_count w x) = P_shares w := rfl
theorem P_g_rowsOf_count (w : TP) (x : Int32) : P_rowsOf (P_u_count w x) = P_rowsOf w := rfl
theorem P_g_restOf_count (w : TP) (x : Int32) : P_restOf (P_u_count w x) = P_restOf w := rfl
theorem P_g_nextOf_count (w : TP) (x : Int32) : P_nextOf (P_u_count w x) = P_nextOf w := rfl
theorem P_g_tableAt_count (w : TP) (x : Int32) : P_tableAt (P_u_count w x) = P_tableAt w := rfl
theorem P_g_wayAt_count (w : TP) (x : Int32) : P_wayAt (P_u_count w x) = P_wayAt w := rfl
theorem P_g_whole_count (w : TP) (x : Int32) : P_whole (P_u_count w x) = P_whole w := rfl
theorem P_g_count_count (w : TP) (x : Int32) : P_count (P_u_count w x) = x := rfl
def cP (dT : Nat → ClassId) (a : Nat → Nat) (w : TP) : va_W := [(a 0, .inr (3, [.ref (a 1), .ref (a 2), .ref (a 3), .ref (a 4), .ref (a 5), .ref (a 6), .ref (a 7), .int (P_whole w), .int (P_count w)])), (a 1, .inl (dT 0, 7, .inl (P_sizes w))), (a 2, .inl (dT 0, 21, .inl (P_shares w))), (a 3, .inl (dT 1, 128, .inr (.inl (P_rowsOf w)))), (a 4, .inl (dT 1, 128, .inr (.inl (P_restOf w)))), (a 5, .inl (dT 0, 128, .inl (P_nextOf w))), (a 6, .inl (dT 0, 7, .inl (P_tableAt w))), (a 7, .inl (dT 0, 7, .inl (P_wayAt w)))]
abbrev TT : Type := Int32 × (Nat → Int32)
def T_length (w : TT) : Int32 := w.1
def T_signs (w : TT) : Nat → Int32 := w.2
def T_u_length (w : TT) (x : Int32) : TT := (x, T_signs w)
def T_u_signs (w : TT) (x : Nat → Int32) : TT := (T_length w, x)
def T_mk (x0 : Int32) (x1 : Nat → Int32) : TT := (x0, x1)
theorem T_m_length (x0 : Int32) (x1 : Nat → Int32) : T_length (T_mk x0 x1) = x0 := rfl
theorem T_m_signs (x0 : Int32) (x1 : Nat → Int32) : T_signs (T_mk x0 x1) = x1 := rfl
theorem T_g_length_length (w : TT) (x : Int32) : T_length (T_u_length w x) = x := rfl
theorem T_g_signs_length (w : TT) (x : Int32) : T_signs (T_u_length w x) = T_signs w := rfl
theorem T_g_length_signs (w : TT) (x : Nat → Int32) : T_length (T_u_signs w x) = T_length w := rfl
theorem T_g_signs_signs (w : TT) (x : Nat → Int32) : T_signs (T_u_signs w x) = x := rfl
def cT (dT : Nat → ClassId) (a : Nat → Nat) (w : TT) : va_W := [(a 0, .inr (5, [.int (T_length w), .ref (a 1)])), (a 1, .inl (dT 2, 100, .inl (T_signs w)))]
abbrev TW : Type := Int32 × Int32 × Int32 × Int32 × (Nat → Int64) × (Nat → Int32) × (Nat → Int32) × (Nat → Int32) × (Nat → Int32) × (Nat → Int32) × (Nat → Int32) × (Nat → Int32) × (Nat → Int32)
def W_tables (w : TW) : Int32 := w.1
def W_weeks (w : TW) : Int32 := w.2.1
def W_runs (w : TW) : Int32 := w.2.2.1
def W_surprises (w : TW) : Int32 := w.2.2.2.1
def W_sums (w : TW) : Nat → Int64 := w.2.2.2.2.1
def W_settings (w : TW) : Nat → Int32 := w.2.2.2.2.2.1
def W_sizes (w : TW) : Nat → Int32 := w.2.2.2.2.2.2.1
def W_guesses (w : TW) : Nat → Int32 := w.2.2.2.2.2.2.2.1
def W_shares (w : TW) : Nat → Int32 := w.2.2.2.2.2.2.2.2.1
def W_memories (w : TW) : Nat → Int32 := w.2.2.2.2.2.2.2.2.2.1
def W_ages (w : TW) : Nat → Int32 := w.2.2.2.2.2.2.2.2.2.2.1
def W_surprisesOf (w : TW) : Nat → Int32 := w.2.2.2.2.2.2.2.2.2.2.2.1
def W_told (w : TW) : Nat → Int32 := w.2.2.2.2.2.2.2.2.2.2.2.2
def W_u_tables (w : TW) (x : Int32) : TW := (x, W_weeks w, W_runs w, W_surprises w, W_sums w, W_settings w, W_sizes w, W_guesses w, W_shares w, W_memories w, W_ages w, W_surprisesOf w, W_told w)
def W_u_weeks (w : TW) (x : Int32) : TW := (W_tables w, x, W_runs w, W_surprises w, W_sums w, W_settings w, W_sizes w, W_guesses w, W_shares w, W_memories w, W_ages w, W_surprisesOf w, W_told w)
def W_u_runs (w : TW) (x : Int32) : TW := (W_tables w, W_weeks w, x, W_surprises w, W_sums w, W_settings w, W_sizes w, W_guesses w, W_shares w, W_memories w, W_ages w, W_surprisesOf w, W_told w)
def W_u_surprises (w : TW) (x : Int32) : TW := (W_tables w, W_weeks w, W_runs w, x, W_sums w, W_settings w, W_sizes w, W_guesses w, W_shares w, W_memories w, W_ages w, W_surprisesOf w, W_told w)
def W_u_sums (w : TW) (x : Nat → Int64) : TW := (W_tables w, W_weeks w, W_runs w, W_surprises w, x, W_settings w, W_sizes w, W_guesses w, W_shares w, W_memories w, W_ages w, W_surprisesOf w, W_told w)
def W_u_settings (w : TW) (x : Nat → Int32) : TW := (W_tables w, W_weeks w, W_runs w, W_surprises w, W_sums w, x, W_sizes w, W_guesses w, W_shares w, W_memories w, W_ages w, W_surprisesOf w, W_told w)
def W_u_sizes (w : TW) (x : Nat → Int32) : TW := (W_tables w, W_weeks w, W_runs w, W_surprises w, W_sums w, W_settings w, x, W_guesses w, W_shares w, W_memories w, W_ages w, W_surprisesOf w, W_told w)
def W_u_guesses (w : TW) (x : Nat → Int32) : TW := (W_tables w, W_weeks w, W_runs w, W_surprises w, W_sums w, W_settings w, W_sizes w, x, W_shares w, W_memories w, W_ages w, W_surprisesOf w, W_told w)
def W_u_shares (w : TW) (x : Nat → Int32) : TW := (W_tables w, W_weeks w, W_runs w, W_surprises w, W_sums w, W_settings w, W_sizes w, W_guesses w, x, W_memories w, W_ages w, W_surprisesOf w, W_told w)
def W_u_memories (w : TW) (x : Nat → Int32) : TW := (W_tables w, W_weeks w, W_runs w, W_surprises w, W_sums w, W_settings w, W_sizes w, W_guesses w, W_shares w, x, W_ages w, W_surprisesOf w, W_told w)
def W_u_ages (w : TW) (x : Nat → Int32) : TW := (W_tables w, W_weeks w, W_runs w, W_surprises w, W_sums w, W_settings w, W_sizes w, W_guesses w, W_shares w, W_memories w, x, W_surprisesOf w, W_told w)
def W_u_surprisesOf (w : TW) (x : Nat → Int32) : TW := (W_tables w, W_weeks w, W_runs w, W_surprises w, W_sums w, W_settings w, W_sizes w, W_guesses w, W_shares w, W_memories w, W_ages w, x, W_told w)
def W_u_told (w : TW) (x : Nat → Int32) : TW := (W_tables w, W_weeks w, W_runs w, W_surprises w, W_sums w, W_settings w, W_sizes w, W_guesses w, W_shares w, W_memories w, W_ages w, W_surprisesOf w, x)
def W_mk (x0 : Int32) (x1 : Int32) (x2 : Int32) (x3 : Int32) (x4 : Nat → Int64) (x5 : Nat → Int32) (x6 : Nat → Int32) (x7 : Nat → Int32) (x8 : Nat → Int32) (x9 : Nat → Int32) (x10 : Nat → Int32) (x11 : Nat → Int32) (x12 : Nat → Int32) : TW := (x0, x1, x2, x3, x4, x5, x6, x7, x8, x9, x10, x11, x12)
theorem W_m_tables (x0 : Int32) (x1 : Int32) (x2 : Int32) (x3 : Int32) (x4 : Nat → Int64) (x5 : Nat → Int32) (x6 : Nat → Int32) (x7 : Nat → Int32) (x8 : Nat → Int32) (x9 : Nat → Int32) (x10 : Nat → Int32) (x11 : Nat → Int32) (x12 : Nat → Int32) : W_tables (W_mk x0 x1 x2 x3 x4 x5 x6 x7 x8 x9 x10 x11 x12) = x0 := rfl
theorem W_m_weeks (x0 : Int32) (x1 : Int32) (x2 : Int32) (x3 : Int32) (x4 : Nat → Int64) (x5 : Nat → Int32) (x6 : Nat → Int32) (x7 : Nat → Int32) (x8 : Nat → Int32) (x9 : Nat → Int32) (x10 : Nat → Int32) (x11 : Nat → Int32) (x12 : Nat → Int32) : W_weeks (W_mk x0 x1 x2 x3 x4 x5 x6 x7 x8 x9 x10 x11 x12) = x1 := rfl
theorem W_m_runs (x0 : Int32) (x1 : Int32) (x2 : Int32) (x3 : Int32) (x4 : Nat → Int64) (x5 : Nat → Int32) (x6 : Nat → Int32) (x7 : Nat → Int32) (x8 : Nat → Int32) (x9 : Nat → Int32) (x10 : Nat → Int32) (x11 : Nat → Int32) (x12 : Nat → Int32) : W_runs (W_mk x0 x1 x2 x3 x4 x5 x6 x7 x8 x9 x10 x11 x12) = x2 := rfl
theorem W_m_surprises (x0 : Int32) (x1 : Int32) (x2 : Int32) (x3 : Int32) (x4 : Nat → Int64) (x5 : Nat → Int32) (x6 : Nat → Int32) (x7 : Nat → Int32) (x8 : Nat → Int32) (x9 : Nat → Int32) (x10 : Nat → Int32) (x11 : Nat → Int32) (x12 : Nat → Int32) : W_surprises (W_mk x0 x1 x2 x3 x4 x5 x6 x7 x8 x9 x10 x11 x12) = x3 := rfl
theorem W_m_sums (x0 : Int32) (x1 : Int32) (x2 : Int32) (x3 : Int32) (x4 : Nat → Int64) (x5 : Nat → Int32) (x6 : Nat → Int32) (x7 : Nat → Int32) (x8 : Nat → Int32) (x9 : Nat → Int32) (x10 : Nat → Int32) (x11 : Nat → Int32) (x12 : Nat → Int32) : W_sums (W_mk x0 x1 x2 x3 x4 x5 x6 x7 x8 x9 x10 x11 x12) = x4 := rfl
theorem W_m_settings (x0 : Int32) (x1 : Int32) (x2 : Int32) (x3 : Int32) (x4 : Nat → Int64) (x5 : Nat → Int32) (x6 : Nat → Int32) (x7 : Nat → Int32) (x8 : Nat → Int32) (x9 : Nat → Int32) (x10 : Nat → Int32) (x11 : Nat → Int32) (x12 : Nat → Int32) : W_settings (W_mk x0 x1 x2 x3 x4 x5 x6 x7 x8 x9 x10 x11 x12) = x5 := rfl
theorem W_m_sizes (x0 : Int32) (x1 : Int32) (x2 : Int32) (x3 : Int32) (x4 : Nat → Int64) (x5 : Nat → Int32) (x6 : Nat → Int32) (x7 : Nat → Int32) (x8 : Nat → Int32) (x9 : Nat → Int32) (x10 : Nat → Int32) (x11 : Nat → Int32) (x12 : Nat → Int32) : W_sizes (W_mk x0 x1 x2 x3 x4 x5 x6 x7 x8 x9 x10 x11 x12) = x6 := rfl
theorem W_m_guesses (x0 : Int32) (x1 : Int32) (x2 : Int32) (x3 : Int32) (x4 : Nat → Int64) (x5 : Nat → Int32) (x6 : Nat → Int32) (x7 : Nat → Int32) (x8 : Nat → Int32) (x9 : Nat → Int32) (x10 : Nat → Int32) (x11 : Nat → Int32) (x12 : Nat → Int32) : W_guesses (W_mk x0 x1 x2 x3 x4 x5 x6 x7 x8 x9 x10 x11 x12) = x7 := rfl
theorem W_m_shares (x0 : Int32) (x1 : Int32) (x2 : Int32) (x3 : Int32) (x4 : Nat → Int64) (x5 : Nat → Int32) (x6 : Nat → Int32) (x7 : Nat → Int32) (x8 : Nat → Int32) (x9 : Nat → Int32) (x10 : Nat → Int32) (x11 : Nat → Int32) (x12 : Nat → Int32) : W_shares (W_mk x0 x1 x2 x3 x4 x5 x6 x7 x8 x9 x10 x11 x12) = x8 := rfl
theorem W_m_memories (x0 : Int32) (x1 : Int32) (x2 : Int32) (x3 : Int32) (x4 : Nat → Int64) (x5 : Nat → Int32) (x6 : Nat → Int32) (x7 : Nat → Int32) (x8 : Nat → Int32) (x9 : Nat → Int32) (x10 : Nat → Int32) (x11 : Nat → Int32) (x12 : Nat → Int32) : W_memories (W_mk x0 x1 x2 x3 x4 x5 x6 x7 x8 x9 x10 x11 x12) = x9 := rfl
theorem W_m_ages (x0 : Int32) (x1 : Int32) (x2 : Int32) (x3 : Int32) (x4 : Nat → Int64) (x5 : Nat → Int32) (x6 : Nat → Int32) (x7 : Nat → Int32) (x8 : Nat → Int32) (x9 : Nat → Int32) (x10 : Nat → Int32) (x11 : Nat → Int32) (x12 : Nat → Int32) : W_ages (W_mk x0 x1 x2 x3 x4 x5 x6 x7 x8 x9 x10 x11 x12) = x10 := rfl
theorem W_m_surprisesOf (x0 : Int32) (x1 : Int32) (x2 : Int32) (x3 : Int32) (x4 : Nat → Int64) (x5 : Nat → Int32) (x6 : Nat → Int32) (x7 : Nat → Int32) (x8 : Nat → Int32) (x9 : Nat → Int32) (x10 : Nat → Int32) (x11 : Nat → Int32) (x12 : Nat → Int32) : W_surprisesOf (W_mk x0 x1 x2 x3 x4 x5 x6 x7 x8 x9 x10 x11 x12) = x11 := rfl
theorem W_m_told (x0 : Int32) (x1 : Int32) (x2 : Int32) (x3 : Int32) (x4 : Nat → Int64) (x5 : Nat → Int32) (x6 : Nat → Int32) (x7 : Nat → Int32) (x8 : Nat → Int32) (x9 : Nat → Int32) (x10 : Nat → Int32) (x11 : Nat → Int32) (x12 : Nat → Int32) : W_told (W_mk x0 x1 x2 x3 x4 x5 x6 x7 x8 x9 x10 x11 x12) = x12 := rfl
theorem W_g_tables_tables (w : TW) (x : Int32) : W_tables (W_u_tables w x) = x := rfl
theorem W_g_weeks_tables (w : TW) (x : Int32) : W_weeks (W_u_tables w x) = W_weeks w := rfl
theorem W_g_runs_tables (w : TW) (x : Int32) : W_runs (W_u_tables w x) = W_runs w := rfl
theorem W_g_surprises_tables (w : TW) (x : Int32) : W_surprises (W_u_tables w x) = W_surprises w := rfl
theorem W_g_sums_tables (w : TW) (x : Int32) : W_sums (W_u_tables w x) = W_sums w := rfl
theorem W_g_settings_tables (w : TW) (x : Int32) : W_settings (W_u_tables w x) = W_settings w := rfl
theorem W_g_sizes_tables (w : TW) (x : Int32) : W_sizes (W_u_tables w x) = W_sizes w := rfl
theorem W_g_guesses_tables (w : TW) (x : Int32) : W_guesses (W_u_tables w x) = W_guesses w := rfl
theorem W_g_shares_tables (w : TW) (x : Int32) : W_shares (W_u_tables w x) = W_shares w := rfl
theorem W_g_memories_tables (w : TW) (x : Int32) : W_memories (W_u_tables w x) = W_memories w := rfl
theorem W_g_ages_tables (w : TW) (x : Int32) : W_ages (W_u_tables w x) = W_ages w := rfl
theorem W_g_surprisesOf_tables (w : TW) (x : Int32) : W_surprisesOf (W_u_tables w x) = W_surprisesOf w := rfl
theorem W_g_told_tables (w : TW) (x : Int32) : W_told (W_u_tables w x) = W_told w := rfl
theorem W_g_tables_weeks (w : TW) (x : Int32) : W_tables (W_u_weeks w x) = W_tables w := rfl
theorem W_g_weeks_weeks (w : TW) (x : Int32) : W_weeks (W_u_weeks w x) = x := rfl
theorem W_g_runs_weeks (w : TW) (x : Int32) : W_runs (W_u_weeks w x) = W_runs w := rfl
theorem W_g_surprises_weeks (w : TW) (x : Int32) : W_surprises (W_u_weeks w x) = W_surprises w := rfl
theorem W_g_sums_weeks (w : TW) (x : Int32) : W_sums (W_u_weeks w x) = W_sums w := rfl
theorem W_g_settings_weeks (w : TW) (x : Int32) : W_settings (W_u_weeks w x) = W_settings w := rfl
theorem W_g_sizes_weeks (w : TW) (x : Int32) : W_sizes (W_u_weeks w x) = W_sizes w := rfl
theorem W_g_guesses_weeks (w : TW) (x : Int32) : W_guesses (W_u_weeks w x) = W_guesses w := rfl
theorem W_g_shares_weeks (w : TW) (x : Int32) : W_shares (W_u_weeks w x) = W_shares w := rfl
theorem W_g_memories_weeks (w : TW) (x : Int32) : W_memories (W_u_weeks w x) = W_memories w := rfl
theorem W_g_ages_weeks (w : TW) (x : Int32) : W_ages (W_u_weeks w x) = W_ages w := rfl
theorem W_g_surprisesOf_weeks (w : TW) (x : Int32) : W_surprisesOf (W_u_weeks w x) = W_surprisesOf w := rfl
theorem W_g_told_weeks (w : TW) (x : Int32) : W_told (W_u_weeks w x) = W_told w := rfl
theorem W_g_tables_runs (w : TW) (x : Int32) : W_tables (W_u_runs w x) = W_tables w := rfl
theorem W_g_weeks_runs (w : TW) (x : Int32) : W_weeks (W_u_runs w x) = W_weeks w := rfl
theorem W_g_runs_runs (w : TW) (x : Int32) : W_runs (W_u_runs w x) = x := rfl
theorem W_g_surprises_runs (w : TW) (x : Int32) : W_surprises (W_u_runs w x) = W_surprises w := rfl
theorem W_g_sums_runs (w : TW) (x : Int32) : W_sums (W_u_runs w x) = W_sums w := rfl
theorem W_g_settings_runs (w : TW) (x : Int32) : W_settings (W_u_runs w x) = W_settings w := rfl
theorem W_g_sizes_runs (w : TW) (x : Int32) : W_sizes (W_u_runs w x) = W_sizes w := rfl
theorem W_g_guesses_runs (w : TW) (x : Int32) : W_guesses (W_u_runs w x) = W_guesses w := rfl
theorem W_g_shares_runs (w : TW) (x : Int32) : W_shares (W_u_runs w x) = W_shares w := rfl
theorem W_g_memories_runs (w : TW) (x : Int32) : W_memories (W_u_runs w x) = W_memories w := rfl
theorem W_g_ages_runs (w : TW) (x : Int32) : W_ages (W_u_runs w x) = W_ages w := rfl
theorem W_g_surprisesOf_runs (w : TW) (x : Int32) : W_surprisesOf (W_u_runs w x) = W_surprisesOf w := rfl
theorem W_g_told_runs (w : TW) (x : Int32) : W_told (W_u_runs w x) = W_told w := rfl
theorem W_g_tables_surprises (w : TW) (x : Int32) : W_tables (W_u_surprises w x) = W_tables w := rfl
theorem W_g_weeks_surprises (w : TW) (x : Int32) : W_weeks (W_u_surprises w x) = W_weeks w := rfl
theorem W_g_runs_surprises (w : TW) (x : Int32) : W_runs (W_u_surprises w x) = W_runs w := rfl
theorem W_g_surprises_surprises (w : TW) (x : Int32) : W_surprises (W_u_surprises w x) = x := rfl
theorem W_g_sums_surprises (w : TW) (x : Int32) : W_sums (W_u_surprises w x) = W_sums w := rfl
theorem W_g_settings_surprises (w : TW) (x : Int32) : W_settings (W_u_surprises w x) = W_settings w := rfl
theorem W_g_sizes_surprises (w : TW) (x : Int32) : W_sizes (W_u_surprises w x) = W_sizes w := rfl
theorem W_g_guesses_surprises (w : TW) (x : Int32) : W_guesses (W_u_surprises w x) = W_guesses w := rfl
theorem W_g_shares_surprises (w : TW) (x : Int32) : W_shares (W_u_surprises w x) = W_shares w := rfl
theorem W_g_memories_surprises (w : TW) (x : Int32) : W_memories (W_u_surprises w x) = W_memories w := rfl
theorem W_g_ages_surprises (w : TW) (x : Int32) : W_ages (W_u_surprises w x) = W_ages w := rfl
theorem W_g_surprisesOf_surprises (w : TW) (x : Int32) : W_surprisesOf (W_u_surprises w x) = W_surprisesOf w := rfl
theorem W_g_told_surprises (w : TW) (x : Int32) : W_told (W_u_surprises w x) = W_told w := rfl
theorem W_g_tables_sums (w : TW) (x : Nat → Int64) : W_tables (W_u_sums w x) = W_tables w := rfl
theorem W_g_weeks_sums (w : TW) (x : Nat → Int64) : W_weeks (W_u_sums w x) = W_weeks w := rfl
theorem W_g_runs_sums (w : TW) (x : Nat → Int64) : W_runs (W_u_sums w x) = W_runs w := rfl
theorem W_g_surprises_sums (w : TW) (x : Nat → Int64) : W_surprises (W_u_sums w x) = W_surprises w := rfl
theorem W_g_sums_sums (w : TW) (x : Nat → Int64) : W_sums (W_u_sums w x) = x := rfl
theorem W_g_settings_sums (w : TW) (x : Nat → Int64) : W_settings (W_u_sums w x) = W_settings w := rfl
theorem W_g_sizes_sums (w : TW) (x : Nat → Int64) : W_sizes (W_u_sums w x) = W_sizes w := rfl
theorem W_g_guesses_sums (w : TW) (x : Nat → Int64) : W_guesses (W_u_sums w x) = W_guesses w := rfl
theorem W_g_shares_sums (w : TW) (x : Nat → Int64) : W_shares (W_u_sums w x) = W_shares w := rfl
theorem W_g_memories_sums (w : TW) (x : Nat → Int64) : W_memories (W_u_sums w x) = W_memories w := rfl
theorem W_g_ages_sums (w : TW) (x : Nat → Int64) : W_ages (W_u_sums w x) = W_ages w := rfl
theorem W_g_surprisesOf_sums (w : TW) (x : Nat → Int64) : W_surprisesOf (W_u_sums w x) = W_surprisesOf w := rfl
theorem W_g_told_sums (w : TW) (x : Nat → Int64) : W_told (W_u_sums w x) = W_told w := rfl
theorem W_g_tables_settings (w : TW) (x : Nat → Int32) : W_tables (W_u_settings w x) = W_tables w := rfl
theorem W_g_weeks_settings (w : TW) (x : Nat → Int32) : W_weeks (W_u_settings w x) = W_weeks w := rfl
theorem W_g_runs_settings (w : TW) (x : Nat → Int32) : W_runs (W_u_settings w x) = W_runs w := rfl
theorem W_g_surprises_settings (w : TW) (x : Nat → Int32) : W_surprises (W_u_settings w x) = W_surprises w := rfl
theorem W_g_sums_settings (w : TW) (x : Nat → Int32) : W_sums (W_u_settings w x) = W_sums w := rfl
theorem W_g_settings_settings (w : TW) (x : Nat → Int32) : W_settings (W_u_settings w x) = x := rfl
theorem W_g_sizes_settings (w : TW) (x : Nat → Int32) : W_sizes (W_u_settings w x) = W_sizes w := rfl
theorem W_g_guesses_settings (w : TW) (x : Nat → Int32) : W_guesses (W_u_settings w x) = W_guesses w := rfl
theorem W_g_shares_settings (w : TW) (x : Nat → Int32) : W_shares (W_u_settings w x) = W_shares w := rfl
theorem W_g_memories_settings (w : TW) (x : Nat → Int32) : W_memories (W_u_settings w x) = W_memories w := rfl
theorem W_g_ages_settings (w : TW) (x : Nat → Int32) : W_ages (W_u_settings w x) = W_ages w := rfl
theorem W_g_surprisesOf_settings (w : TW) (x : Nat → Int32) : W_surprisesOf (W_u_settings w x) = W_surprisesOf w := rfl
theorem W_g_told_settings (w : TW) (x : Nat → Int32) : W_told (W_u_settings w x) = W_told w := rfl
theorem W_g_tables_sizes (w : TW) (x : Nat → Int32) : W_tables (W_u_sizes w x) = W_tables w := rfl
theorem W_g_weeks_sizes (w : TW) (x : Nat → Int32) : W_weeks (W_u_sizes w x) = W_weeks w := rfl
theorem W_g_runs_sizes (w : TW) (x : Nat → Int32) : W_runs (W_u_sizes w x) = W_runs w := rfl
theorem W_g_surprises_sizes (w : TW) (x : Nat → Int32) : W_surprises (W_u_sizes w x) = W_surprises w := rfl
theorem W_g_sums_sizes (w : TW) (x : Nat → Int32) : W_sums (W_u_sizes w x) = W_sums w := rfl
theorem W_g_settings_sizes (w : TW) (x : Nat → Int32) : W_settings (W_u_sizes w x) = W_settings w := rfl
theorem W_g_sizes_sizes (w : TW) (x : Nat → Int32) : W_sizes (W_u_sizes w x) = x := rfl
theorem W_g_guesses_sizes (w : TW) (x : Nat → Int32) : W_guesses (W_u_sizes w x) = W_guesses w := rfl
theorem W_g_shares_sizes (w : TW) (x : Nat → Int32) : W_shares (W_u_sizes w x) = W_shares w := rfl
theorem W_g_memories_sizes (w : TW) (x : Nat → Int32) : W_memories (W_u_sizes w x) = W_memories w := rfl
theorem W_g_ages_sizes (w : TW) (x : Nat → Int32) : W_ages (W_u_sizes w x) = W_ages w := rfl
theorem W_g_surprisesOf_sizes (w : TW) (x : Nat → Int32) : W_surprisesOf (W_u_sizes w x) = W_surprisesOf w := rfl
theorem W_g_told_sizes (w : TW) (x : Nat → Int32) : W_told (W_u_sizes w x) = W_told w := rfl
theorem W_g_tables_guesses (w : TW) (x : Nat → Int32) : W_tables (W_u_guesses w x) = W_tables w := rfl
theorem W_g_weeks_guesses (w : TW) (x : Nat → Int32) : W_weeks (W_u_guesses w x) = W_weeks w := rfl
theorem W_g_runs_guesses (w : TW) (x : Nat → Int32) : W_runs (W_u_guesses w x) = W_runs w := rfl
theorem W_g_surprises_guesses (w : TW) (x : Nat → Int32) : W_surprises (W_u_guesses w x) = W_surprises w := rfl
theorem W_g_sums_guesses (w : TW) (x : Nat → Int32) : W_sums (W_u_guesses w x) = W_sums w := rfl
theorem W_g_settings_guesses (w : TW) (x : Nat → Int32) : W_settings (W_u_guesses w x) = W_settings w := rfl
theorem W_g_sizes_guesses (w : TW) (x : Nat → Int32) : W_sizes (W_u_guesses w x) = W_sizes w := rfl
theorem W_g_guesses_guesses (w : TW) (x : Nat → Int32) : W_guesses (W_u_guesses w x) = x := rfl
theorem W_g_shares_guesses (w : TW) (x : Nat → Int32) : W_shares (W_u_guesses w x) = W_shares w := rfl
theorem W_g_memories_guesses (w : TW) (x : Nat → Int32) : W_memories (W_u_guesses w x) = W_memories w := rfl
theorem W_g_ages_guesses (w : TW) (x : Nat → Int32) : W_ages (W_u_guesses w x) = W_ages w := rfl
theorem W_g_surprisesOf_guesses (w : TW) (x : Nat → Int32) : W_surprisesOf (W_u_guesses w x) = W_surprisesOf w := rfl
theorem W_g_told_guesses (w : TW) (x : Nat → Int32) : W_told (W_u_guesses w x) = W_told w := rfl
theorem W_g_tables_shares (w : TW) (x : Nat → Int32) : W_tables (W_u_shares w x) = W_tables w := rfl
theorem W_g_weeks_shares (w : TW) (x : Nat → Int32) : W_weeks (W_u_shares w x) = W_weeks w := rfl
theorem W_g_runs_shares (w : TW) (x : Nat → Int32) : W_runs (W_u_shares w x) = W_runs w := rfl
theorem W_g_surprises_shares (w : TW) (x : Nat → Int32) : W_surprises (W_u_shares w x) = W_surprises w := rfl
theorem W_g_sums_shares (w : TW) (x : Nat → Int32) : W_sums (W_u_shares w x) = W_sums w := rfl
theorem W_g_settings_shares (w : TW) (x : Nat → Int32) : W_settings (W_u_shares w x) = W_settings w := rfl
theorem W_g_sizes_shares (w : TW) (x : Nat → Int32) : W_sizes (W_u_shares w x) = W_sizes w := rfl
theorem W_g_guesses_shares (w : TW) (x : Nat → Int32) : W_guesses (W_u_shares w x) = W_guesses w := rfl
theorem W_g_shares_shares (w : TW) (x : Nat → Int32) : W_shares (W_u_shares w x) = x := rfl
theorem W_g_memories_shares (w : TW) (x : Nat → Int32) : W_memories (W_u_shares w x) = W_memories w := rfl
theorem W_g_ages_shares (w : TW) (x : Nat → Int32) : W_ages (W_u_shares w x) = W_ages w := rfl
theorem W_g_surprisesOf_shares (w : TW) (x : Nat → Int32) : W_surprisesOf (W_u_shares w x) = W_surprisesOf w := rfl
theorem W_g_told_shares (w : TW) (x : Nat → Int32) : W_told (W_u_shares w x) = W_told w := rfl
theorem W_g_tables_memories (w : TW) (x : Nat → Int32) : W_tables (W_u_memories w x) = W_tables w := rfl
theorem W_g_weeks_memories (w : TW) (x : Nat → Int32) : W_weeks (W_u_memories w x) = W_weeks w := rfl
theorem W_g_runs_memories (w : TW) (x : Nat → Int32) : W_runs (W_u_memories w x) = W_runs w := rfl
theorem W_g_surprises_memories (w : TW) (x : Nat → Int32) : W_surprises (W_u_memories w x) = W_surprises w := rfl
theorem W_g_sums_memories (w : TW) (x : Nat → Int32) : W_sums (W_u_memories w x) = W_sums w := rfl
theorem W_g_settings_memories (w : TW) (x : Nat → Int32) : W_settings (W_u_memories w x) = W_settings w := rfl
theorem W_g_sizes_memories (w : TW) (x : Nat → Int32) : W_sizes (W_u_memories w x) = W_sizes w := rfl
theorem W_g_guesses_memories (w : TW) (x : Nat → Int32) : W_guesses (W_u_memories w x) = W_guesses w := rfl
theorem W_g_shares_memories (w : TW) (x : Nat → Int32) : W_shares (W_u_memories w x) = W_shares w := rfl
theorem W_g_memories_memories (w : TW) (x : Nat → Int32) : W_memories (W_u_memories w x) = x := rfl
theorem W_g_ages_memories (w : TW) (x : Nat → Int32) : W_ages (W_u_memories w x) = W_ages w := rfl
theorem W_g_surprisesOf_memories (w : TW) (x : Nat → Int32) : W_surprisesOf (W_u_memories w x) = W_surprisesOf w := rfl
theorem W_g_told_memories (w : TW) (x : Nat → Int32) : W_told (W_u_memories w x) = W_told w := rfl
theorem W_g_tables_ages (w : TW) (x : Nat → Int32) : W_tables (W_u_ages w x) = W_tables w := rfl
theorem W_g_weeks_ages (w : TW) (x : Nat → Int32) : W_weeks (W_u_ages w x) = W_weeks w := rfl
theorem W_g_runs_ages (w : TW) (x : Nat → Int32) : W_runs (W_u_ages w x) = W_runs w := rfl
theorem W_g_surprises_ages (w : TW) (x : Nat → Int32) : W_surprises (W_u_ages w x) = W_surprises w := rfl
theorem W_g_sums_ages (w : TW) (x : Nat → Int32) : W_sums (W_u_ages w x) = W_sums w := rfl
theorem W_g_settings_ages (w : TW) (x : Nat → Int32) : W_settings (W_u_ages w x) = W_settings w := rfl
theorem W_g_sizes_ages (w : TW) (x : Nat → Int32) : W_sizes (W_u_ages w x) = W_sizes w := rfl
theorem W_g_guesses_ages (w : TW) (x : Nat → Int32) : W_guesses (W_u_ages w x) = W_guesses w := rfl
theorem W_g_shares_ages (w : TW) (x : Nat → Int32) : W_shares (W_u_ages w x) = W_shares w := rfl
theorem W_g_memories_ages (w : TW) (x : Nat → Int32) : W_memories (W_u_ages w x) = W_memories w := rfl
theorem W_g_ages_ages (w : TW) (x : Nat → Int32) : W_ages (W_u_ages w x) = x := rfl
theorem W_g_surprisesOf_ages (w : TW) (x : Nat → Int32) : W_surprisesOf (W_u_ages w x) = W_surprisesOf w := rfl
theorem W_g_told_ages (w : TW) (x : Nat → Int32) : W_told (W_u_ages w x) = W_told w := rfl
theorem W_g_tables_surprisesOf (w : TW) (x : Nat → Int32) : W_tables (W_u_surprisesOf w x) = W_tables w := rfl
theorem W_g_weeks_surprisesOf (w : TW) (x : Nat → Int32) : W_weeks (W_u_surprisesOf w x) = W_weeks w := rfl
theorem W_g_runs_surprisesOf (w : TW) (x : Nat → Int32) : W_runs (W_u_surprisesOf w x) = W_runs w := rfl
theorem W_g_surprises_surprisesOf (w : TW) (x : Nat → Int32) : W_surprises (W_u_surprisesOf w x) = W_surprises w := rfl
theorem W_g_sums_surprisesOf (w : TW) (x : Nat → Int32) : W_sums (W_u_surprisesOf w x) = W_sums w := rfl
theorem W_g_settings_surprisesOf (w : TW) (x : Nat → Int32) : W_settings (W_u_surprisesOf w x) = W_settings w := rfl
theorem W_g_sizes_surprisesOf (w : TW) (x : Nat → Int32) : W_sizes (W_u_surprisesOf w x) = W_sizes w := rfl
theorem W_g_guesses_surprisesOf (w : TW) (x : Nat → Int32) : W_guesses (W_u_surprisesOf w x) = W_guesses w := rfl
theorem W_g_shares_surprisesOf (w : TW) (x : Nat → Int32) : W_shares (W_u_surprisesOf w x) = W_shares w := rfl
theorem W_g_memories_surprisesOf (w : TW) (x : Nat → Int32) : W_memories (W_u_surprisesOf w x) = W_memories w := rfl
theorem W_g_ages_surprisesOf (w : TW) (x : Nat → Int32) : W_ages (W_u_surprisesOf w x) = W_ages w := rfl
theorem W_g_surprisesOf_surprisesOf (w : TW) (x : Nat → Int32) : W_surprisesOf (W_u_surprisesOf w x) = x := rfl
theorem W_g_told_surprisesOf (w : TW) (x : Nat → Int32) : W_told (W_u_surprisesOf w x) = W_told w := rfl
theorem W_g_tables_told (w : TW) (x : Nat → Int32) : W_tables (W_u_told w x) = W_tables w := rfl
theorem W_g_weeks_told (w : TW) (x : Nat → Int32) : W_weeks (W_u_told w x) = W_weeks w := rfl
theorem W_g_runs_told (w : TW) (x : Nat → Int32) : W_runs (W_u_told w x) = W_runs w := rfl
theorem W_g_surprises_told (w : TW) (x : Nat → Int32) : W_surprises (W_u_told w x) = W_surprises w := rfl
theorem W_g_sums_told (w : TW) (x : Nat → Int32) : W_sums (W_u_told w x) = W_sums w := rfl
theorem W_g_settings_told (w : TW) (x : Nat → Int32) : W_settings (W_u_told w x) = W_settings w := rfl
theorem W_g_sizes_told (w : TW) (x : Nat → Int32) : W_sizes (W_u_told w x) = W_sizes w := rfl
theorem W_g_guesses_told (w : TW) (x : Nat → Int32) : W_guesses (W_u_told w x) = W_guesses w := rfl
theorem W_g_shares_told (w : TW) (x : Nat → Int32) : W_shares (W_u_told w x) = W_shares w := rfl
theorem W_g_memories_told (w : TW) (x : Nat → Int32) : W_memories (W_u_told w x) = W_memories w := rfl
theorem W_g_ages_told (w : TW) (x : Nat → Int32) : W_ages (W_u_told w x) = W_ages w := rfl
theorem W_g_surprisesOf_told (w : TW) (x : Nat → Int32) : W_surprisesOf (W_u_told w x) = W_surprisesOf w := rfl
theorem W_g_told_told (w : TW) (x : Nat → Int32) : W_told (W_u_told w x) = x := rfl
def cW (dT : Nat → ClassId) (a : Nat → Nat) (w : TW) : va_W := [(a 0, .inr (6, [.int (W_tables w), .int (W_weeks w), .int (W_runs w), .int (W_surprises w), .ref (a 1), .ref (a 2), .ref (a 3), .ref (a 4), .ref (a 5), .ref (a 6), .ref (a 7), .ref (a 8), .ref (a 9)])), (a 1, .inl (dT 1, 4, .inr (.inl (W_sums w)))), (a 2, .inl (dT 0, 3, .inl (W_settings w))), (a 3, .inl (dT 0, 7, .inl (W_sizes w))), (a 4, .inl (dT 0, 21, .inl (W_guesses w))), (a 5, .inl (dT 0, 21, .inl (W_shares w))), (a 6, .inl (dT 0, 21, .inl (W_memories w))), (a 7, .inl (dT 0, 21, .inl (W_ages w))), (a 8, .inl (dT 0, 21, .inl (W_surprisesOf w))), (a 9, .inl (dT 0, 40, .inl (W_told w)))]
def cI_ (dT : Nat → ClassId) (a : Nat) (n : Nat) (f : Nat → Int32) : va_W := [(a, .inl (dT 0, n, .inl f))]
def cJ_ (dT : Nat → ClassId) (a : Nat) (n : Nat) (f : Nat → Int64) : va_W := [(a, .inl (dT 1, n, .inr (.inl f)))]
def cC_ (dT : Nat → ClassId) (a : Nat) (n : Nat) (f : Nat → Int32) : va_W := [(a, .inl (dT 2, n, .inl f))]
def cZ_ (dT : Nat → ClassId) (a : Nat) (n : Nat) (f : Nat → Int32) : va_W := [(a, .inl (dT 3, n, .inl f))]
abbrev TM : Type := Int32 × Int32 × Int32 × Int32 × Int32 × Int32
def M_refusal (w : TM) : Int32 := w.1
def M_size (w : TM) : Int32 := w.2.1
def M_acts (w : TM) : Int32 := w.2.2.1
def M_planned (w : TM) : Int32 := w.2.2.2.1
def M_spot (w : TM) : Int32 := w.2.2.2.2.1
def M_out (w : TM) : Int32 := w.2.2.2.2.2
def M_u_refusal (w : TM) (x : Int32) : TM := (x, M_size w, M_acts w, M_planned w, M_spot w, M_out w)
def M_u_size (w : TM) (x : Int32) : TM := (M_refusal w, x, M_acts w, M_planned w, M_spot w, M_out w)
def M_u_acts (w : TM) (x : Int32) : TM := (M_refusal w, M_size w, x, M_planned w, M_spot w, M_out w)
def M_u_planned (w : TM) (x : Int32) : TM := (M_refusal w, M_size w, M_acts w, x, M_spot w, M_out w)
def M_u_spot (w : TM) (x : Int32) : TM := (M_refusal w, M_size w, M_acts w, M_planned w, x, M_out w)
def M_u_out (w : TM) (x : Int32) : TM := (M_refusal w, M_size w, M_acts w, M_planned w, M_spot w, x)
def M_mk (x0 : Int32) (x1 : Int32) (x2 : Int32) (x3 : Int32) (x4 : Int32) (x5 : Int32) : TM := (x0, x1, x2, x3, x4, x5)
theorem M_m_refusal (x0 : Int32) (x1 : Int32) (x2 : Int32) (x3 : Int32) (x4 : Int32) (x5 : Int32) : M_refusal (M_mk x0 x1 x2 x3 x4 x5) = x0 := rfl
theorem M_m_size (x0 : Int32) (x1 : Int32) (x2 : Int32) (x3 : Int32) (x4 : Int32) (x5 : Int32) : M_size (M_mk x0 x1 x2 x3 x4 x5) = x1 := rfl
theorem M_m_acts (x0 : Int32) (x1 : Int32) (x2 : Int32) (x3 : Int32) (x4 : Int32) (x5 : Int32) : M_acts (M_mk x0 x1 x2 x3 x4 x5) = x2 := rfl
theorem M_m_planned (x0 : Int32) (x1 : Int32) (x2 : Int32) (x3 : Int32) (x4 : Int32) (x5 : Int32) : M_planned (M_mk x0 x1 x2 x3 x4 x5) = x3 := rfl
theorem M_m_spot (x0 : Int32) (x1 : Int32) (x2 : Int32) (x3 : Int32) (x4 : Int32) (x5 : Int32) : M_spot (M_mk x0 x1 x2 x3 x4 x5) = x4 := rfl
theorem M_m_out (x0 : Int32) (x1 : Int32) (x2 : Int32) (x3 : Int32) (x4 : Int32) (x5 : Int32) : M_out (M_mk x0 x1 x2 x3 x4 x5) = x5 := rfl
theorem M_g_refusal_refusal (w : TM) (x : Int32) : M_refusal (M_u_refusal w x) = x := rfl
theorem M_g_size_refusal (w : TM) (x : Int32) : M_size (M_u_refusal w x) = M_size w := rfl
theorem M_g_acts_refusal (w : TM) (x : Int32) : M_acts (M_u_refusal w x) = M_acts w := rfl
theorem M_g_planned_refusal (w : TM) (x : Int32) : M_planned (M_u_refusal w x) = M_planned w := rfl
theorem M_g_spot_refusal (w : TM) (x : Int32) : M_spot (M_u_refusal w x) = M_spot w := rfl
theorem M_g_out_refusal (w : TM) (x : Int32) : M_out (M_u_refusal w x) = M_out w := rfl
theorem M_g_refusal_size (w : TM) (x : Int32) : M_refusal (M_u_size w x) = M_refusal w := rfl
theorem M_g_size_size (w : TM) (x : Int32) : M_size (M_u_size w x) = x := rfl
theorem M_g_acts_size (w : TM) (x : Int32) : M_acts (M_u_size w x) = M_acts w := rfl
theorem M_g_planned_size (w : TM) (x : Int32) : M_planned (M_u_size w x) = M_planned w := rfl
theorem M_g_spot_size (w : TM) (x : Int32) : M_spot (M_u_size w x) = M_spot w := rfl
theorem M_g_out_size (w : TM) (x : Int32) : M_out (M_u_size w x) = M_out w := rfl
theorem M_g_refusal_acts (w : TM) (x : Int32) : M_refusal (M_u_acts w x) = M_refusal w := rfl
theorem M_g_size_acts (w : TM) (x : Int32) : M_size (M_u_acts w x) = M_size w := rfl
theorem M_g_acts_acts (w : TM) (x : Int32) : M_acts (M_u_acts w x) = x := rfl
theorem M_g_planned_acts (w : TM) (x : Int32) : M_planned (M_u_acts w x) = M_planned w := rfl
theorem M_g_spot_acts (w : TM) (x : Int32) : M_spot (M_u_acts w x) = M_spot w := rfl
theorem M_g_out_acts (w : TM) (x : Int32) : M_out (M_u_acts w x) = M_out w := rfl
theorem M_g_refusal_planned (w : TM) (x : Int32) : M_refusal (M_u_planned w x) = M_refusal w := rfl
theorem M_g_size_planned (w : TM) (x : Int32) : M_size (M_u_planned w x) = M_size w := rfl
theorem M_g_acts_planned (w : TM) (x : Int32) : M_acts (M_u_planned w x) = M_acts w := rfl
theorem M_g_planned_planned (w : TM) (x : Int32) : M_planned (M_u_planned w x) = x := rfl
theorem M_g_spot_planned (w : TM) (x : Int32) : M_spot (M_u_planned w x) = M_spot w := rfl
theorem M_g_out_planned (w : TM) (x : Int32) : M_out (M_u_planned w x) = M_out w := rfl
theorem M_g_refusal_spot (w : TM) (x : Int32) : M_refusal (M_u_spot w x) = M_refusal w := rfl
theorem M_g_size_spot (w : TM) (x : Int32) : M_size (M_u_spot w x) = M_size w := rfl
theorem M_g_acts_spot (w : TM) (x : Int32) : M_acts (M_u_spot w x) = M_acts w := rfl
theorem M_g_planned_spot (w : TM) (x : Int32) : M_planned (M_u_spot w x) = M_planned w := rfl
theorem M_g_spot_spot (w : TM) (x : Int32) : M_spot (M_u_spot w x) = x := rfl
theorem M_g_out_spot (w : TM) (x : Int32) : M_out (M_u_spot w x) = M_out w := rfl
theorem M_g_refusal_out (w : TM) (x : Int32) : M_refusal (M_u_out w x) = M_refusal w := rfl
theorem M_g_size_out (w : TM) (x : Int32) : M_size (M_u_out w x) = M_size w := rfl
theorem M_g_acts_out (w : TM) (x : Int32) : M_acts (M_u_out w x) = M_acts w := rfl
theorem M_g_planned_out (w : TM) (x : Int32) : M_planned (M_u_out w x) = M_planned w := rfl
theorem M_g_spot_out (w : TM) (x : Int32) : M_spot (M_u_out w x) = M_spot w := rfl
theorem M_g_out_out (w : TM) (x : Int32) : M_out (M_u_out w x) = x := rfl
def cSP (a : Nat → Nat → Nat) : va_W := [(a 0 0, .inr (7, [.ref (a 1 0), .ref (a 2 0), .ref (a 3 0), .ref (a 4 0), .ref (a 5 0), .ref (a 6 0), .ref (a 7 0), .ref (a 8 0), .ref (a 9 0)]))]
theorem TB_all {ws : List Cond} (ps : List Nat) (hp : ws = ps.filterMap (fun i => lw_tbl[i]?)) (h : ws.all goodWord = true) : ∀ w ∈ ws, w ∈ TB := by
  intro w hw
  have h1 := List.all_eq_true.mp h w hw
  rw [hp] at hw
  obtain ⟨i, -, hi⟩ := List.mem_filterMap.mp hw
  exact TB_mem i hi h1
theorem inX0 : ∀ w ∈ wsX00, w ∈ TB := TB_all [91, 93, 95, 97, 99] (by decide +kernel) (by decide +kernel)
theorem inX1 : ∀ w ∈ wsX10, w ∈ TB := TB_all [194, 196, 198] (by decide +kernel) (by decide +kernel)
theorem inX2 : ∀ w ∈ wsX20, w ∈ TB := TB_all [113, 115, 117, 119] (by decide +kernel) (by decide +kernel)
theorem inX3 : ∀ w ∈ wsX30, w ∈ TB := TB_all [232, 234, 236, 238, 240, 242, 244, 246, 248] (by decide +kernel) (by decide +kernel)
theorem inX5 : ∀ w ∈ wsX50, w ∈ TB := TB_all [211, 213] (by decide +kernel) (by decide +kernel)
theorem inX6 : ∀ w ∈ wsX60, w ∈ TB := TB_all [67, 69] (by decide +kernel) (by decide +kernel)
theorem inX7 : ∀ w ∈ wsX70, w ∈ TB := TB_all [154, 156, 158, 160, 162, 164, 166, 168, 170, 172, 174, 176, 178] (by decide +kernel) (by decide +kernel)
theorem inX8 : ∀ w ∈ wsX80, w ∈ TB := TB_all [260, 262, 264, 266, 268, 270, 272, 274, 276] (by decide +kernel) (by decide +kernel)
def inb (i : Int32) (n : Nat) : Bool := !(decide (i < 0) || decide (n ≤ i.toNatClampNeg))
theorem inb_in {i : Int32} {n : Nat} (h : inb i n = true) : vp_in i n := by
  unfold inb at h
  unfold vp_in
  simpa using h
theorem chk {α : Type} {b : Bool} {x : Option α} {o : α} (h : (if b = true then x else none) = some o) : b = true ∧ x = some o := by
  by_cases hb : b = true
  · rw [if_pos hb] at h; exact ⟨hb, h⟩
  · rw [if_neg hb] at h; cases h
theorem chp {α : Type} {b : Prop} [Decidable b] {x : Option α} {o : α} (h : (if b then x else none) = some o) : b ∧ x = some o := by
  by_cases hb : b
  · rw [if_pos hb] at h; exact ⟨hb, h⟩
  · rw [if_neg hb] at h; cases h
theorem chn {α : Type} {b : Prop} [Decidable b] {x : Option α} {o : α} (h : (if b then none else x) = some o) : ¬ b ∧ x = some o := by
  by_cases hb : b
  · rw [if_pos hb] at h; cases h
  · rw [if_neg hb] at h; exact ⟨hb, h⟩
theorem iteT {α : Type} {c : Prop} [Decidable c] {a b o : α} (hc : c) (h : (if c then a else b) = o) : a = o := by rw [if_pos hc] at h; exact h
theorem iteF {α : Type} {c : Prop} [Decidable c] {a b o : α} (hc : ¬ c) (h : (if c then a else b) = o) : b = o := by rw [if_neg hc] at h; exact h
theorem obind {α β : Type} {x : Option α} {f : α → Option β} {o : β} (h : x.bind f = some o) : ∃ a, x = some a ∧ f a = some o := Option.bind_eq_some_iff.mp h
theorem vfall {A0 : Nat → Prop} {ws : va_W} {H0 H : Heap} {locs : List Loc} (hD : va_D A0 ws) (hS : va_S A0 H0 H locs) (hA : ∀ q, H0.size ≤ q → A0 q) : ∀ q, va_A ws H.size q → A0 q := by
  intro q h
  rcases h with ⟨k, e, h⟩ | h
  · exact hD.2 k (q, e) h
  · exact hA q (Nat.le_trans hS.1 h)
def FUEL : Nat := 10000
section CALLA
variable {p : Program} {l : Launch} {e : Env} {R : Room} {s : State} {m : MethodId} {args : Array Value} {below : List Frame} {meth : Method} {c : Code} {H : Heap} {locs : List Loc} {cells slots : Nat} {Q : State → Prop}
variable {cc : ByteArray} {pc : Nat} {ls : Array Slot} {rest st0 : List Value} {D : va_G} {dT : Nat → ClassId} {A : Nat → Prop} {wc : va_W} {mc ms : Nat} {av : Array Value}
theorem cl_iA {S : Type} {post : Int32 → S → Prop} {wu : S → va_W} (hr : va_Run p l e R s m args below meth c H locs cells slots mc ms (F0 m pc ls st0) rest (va_Qi post (fun u t => cAt D dT (va_A wc H.size) (wu u) t) (va_A wc H.size) av) (va_A wc H.size))
    (hS : va_S A s.heap H locs) (hF : ∀ q, va_A wc H.size q → A q)
    (kk : ∀ (r : Int32) (u : S) (H1 : Heap) (locs1 : List Loc), post r u → va_P D vwCl (wu u) H1 → va_D A (wu u) → va_S A s.heap H1 locs1 → W p l e R s m args below meth c H1 locs1 (cells + mc) (slots + ms) Q (F0 m (pc + 3) ls (.int r :: rest))) :
    W p l e R s m args below meth c H locs cells slots Q (F0 m pc ls st0) := by
  refine va_calli hr hS (fun q _ h => hF q h) hF (fun r u t H1 locs1 ht hvm hw hB hz1 hk1 hS1 => ?_)
  obtain ⟨hP1, hK1, hD1⟩ := hB
  rw [ht] at hP1
  exact kk r u H1 locs1 hw hP1 (hD1.weaken (fun k q _ h => hF q.1 h)) hS1
theorem cl_lA {S : Type} {post : Int64 → S → Prop} {wu : S → va_W} (hr : va_Run p l e R s m args below meth c H locs cells slots mc ms (F0 m pc ls st0) rest (va_Ql post (fun u t => cAt D dT (va_A wc H.size) (wu u) t) (va_A wc H.size) av) (va_A wc H.size))
    (hS : va_S A s.heap H locs) (hF : ∀ q, va_A wc H.size q → A q)
    (kk : ∀ (r : Int64) (u : S) (H1 : Heap) (locs1 : List Loc), post r u → va_P D vwCl (wu u) H1 → va_D A (wu u) → va_S A s.heap H1 locs1 → W p l e R s m args below meth c H1 locs1 (cells + mc) (slots + ms) Q (F0 m (pc + 3) ls (.long r :: rest))) :
    W p l e R s m args below meth c H locs cells slots Q (F0 m pc ls st0) := by
  refine va_calll hr hS (fun q _ h => hF q h) hF (fun r u t H1 locs1 ht hvm hw hB hz1 hk1 hS1 => ?_)
  obtain ⟨hP1, hK1, hD1⟩ := hB
  rw [ht] at hP1
  exact kk r u H1 locs1 hw hP1 (hD1.weaken (fun k q _ h => hF q.1 h)) hS1
theorem cl_vA {S : Type} {post : S → Prop} {wu : S → va_W} (hr : va_Run p l e R s m args below meth c H locs cells slots mc ms (F0 m pc ls st0) rest (va_Qv post (fun u t => cAt D dT (va_A wc H.size) (wu u) t) (va_A wc H.size) av) (va_A wc H.size))
    (hS : va_S A s.heap H locs) (hF : ∀ q, va_A wc H.size q → A q)
    (kk : ∀ (u : S) (H1 : Heap) (locs1 : List Loc), post u → va_P D vwCl (wu u) H1 → va_D A (wu u) → va_S A s.heap H1 locs1 → W p l e R s m args below meth c H1 locs1 (cells + mc) (slots + ms) Q (F0 m (pc + 3) ls rest)) :
    W p l e R s m args below meth c H locs cells slots Q (F0 m pc ls st0) := by
  refine va_callv hr hS (fun q _ h => hF q h) hF (fun u t H1 locs1 ht hvm hw hB hz1 hk1 hS1 => ?_)
  obtain ⟨hP1, hK1, hD1⟩ := hB
  rw [ht] at hP1
  exact kk u H1 locs1 hw hP1 (hD1.weaken (fun k q _ h => hF q.1 h)) hS1
end CALLA
theorem ret2 {ρ σ : Type} {r : ρ} {u : σ} {o : ρ × σ} (h : some (r, u) = some o) : r = o.1 ∧ u = o.2 := by cases h; exact ⟨rfl, rfl⟩
theorem retv {ρ σ : Type} {r : ρ} {u : σ} {o : ρ × σ} (h : some (r, u) = some o) : u = o.2 := by cases h; rfl
theorem TB_SW {hd : Cond} {own : String} {idx : Nat} {y : MethodName} {b : ByteArray} {mL : Nat} {ret : Option FieldType} {hh : List (Nat × Nat × Nat × Nat)} (h1 : Cond.methodLink own idx y ∈ TB) (h2 : Cond.static y ∈ TB) (h3 : Cond.initialized y.cls ∈ TB) (h5 : Cond.codeWith y b mL ret hh ∈ TB) : GoodIn (hd :: TB) (va_wsS own idx y (Cond.codeWith y b mL ret hh :: TB)) := by
  refine TB_in fun w hw => ?_
  unfold va_wsS at hw
  rcases List.mem_append.mp hw with h | h
  · simp only [List.mem_cons, List.not_mem_nil, or_false] at h
    rcases h with rfl | rfl | rfl <;> assumption
  · exact (List.mem_cons.mp h).elim (fun e => by rw [e]; exact h5) id
