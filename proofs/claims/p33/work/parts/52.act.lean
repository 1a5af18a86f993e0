def f_L_act_J155   (s0 : Int32) (s1 : Int32) (s2 : Int32) (s3 : Int32) (g_p1_text : TT) (g_p1_entryReader : TE) (g_p1_world : TW) (g_p1_copy : TW) (g_p1_chosen : TP) (g_p1_other : TP) (g_p1_history : TH) (g_p1_slots : TS) : Option (Int32 × (TT × TE × TW × TW × TP × TP × TH × TS)) :=
    (if s0 = 0 then none else ((f_L_call g_p1_text g_p1_entryReader g_p1_world g_p1_copy g_p1_chosen g_p1_other g_p1_history g_p1_slots s3 (s2 + (s1 - s1 / s0 * s0)) (0 : Int32) (0 : Int32)).bind fun o10 => (some (o10.1, (o10.2.1, o10.2.2.1, o10.2.2.2.1, o10.2.2.2.2.1, o10.2.2.2.2.2.1, o10.2.2.2.2.2.2.1, o10.2.2.2.2.2.2.2.1, o10.2.2.2.2.2.2.2.2)))))
def f_L_act_J209   (s0 : Int32) (s1 : Int32) (s2 : Int32) (s3 : Int32) (s4 : Int32) (s5 : Int32) (g_p1_text : TT) (g_p1_entryReader : TE) (g_p1_world : TW) (g_p1_copy : TW) (g_p1_chosen : TP) (g_p1_other : TP) (g_p1_history : TH) (g_p1_slots : TS) : Option (Int32 × (TT × TE × TW × TW × TP × TP × TH × TS)) :=
    (if s0 = 0 then none else ((f_L_tryLink g_p1_world g_p1_history s5 s4 s3 (s2 + (s1 - s1 / s0 * s0))).bind fun o19 => (some (o19.1, (g_p1_text, g_p1_entryReader, o19.2.1, g_p1_copy, g_p1_chosen, g_p1_other, o19.2.2, g_p1_slots)))))
def f_L_act_J187   (x2 : Int32) (s0 : Int32) (s1 : Int32) (s2 : Int32) (s3 : Int32) (s4 : Int32) (g_p1_text : TT) (g_p1_entryReader : TE) (g_p1_world : TW) (g_p1_copy : TW) (g_p1_chosen : TP) (g_p1_other : TP) (g_p1_history : TH) (g_p1_slots : TS) : Option (Int32 × (TT × TE × TW × TW × TP × TP × TH × TS)) :=
    (if s0 = 0 then none else (if (x2 - x2 / (5 : Int32) * (5 : Int32)) = (0 : Int32) then (f_L_act_J209 (1000 : Int32) (x2 / (1024 : Int32)) (1 : Int32) (s2 + (s1 - s1 / s0 * s0)) s3 s4 g_p1_text g_p1_entryReader g_p1_world g_p1_copy g_p1_chosen g_p1_other g_p1_history g_p1_slots) else (f_L_act_J209 (80 : Int32) (x2 / (1024 : Int32)) (1 : Int32) (s2 + (s1 - s1 / s0 * s0)) s3 s4 g_p1_text g_p1_entryReader g_p1_world g_p1_copy g_p1_chosen g_p1_other g_p1_history g_p1_slots)))
def f_L_act_J241   (s0 : Int32) (s1 : Int32) (s2 : Int32) (s3 : Int32) (s4 : Int32) (s5 : Int32) (g_p1_text : TT) (g_p1_entryReader : TE) (g_p1_world : TW) (g_p1_copy : TW) (g_p1_chosen : TP) (g_p1_other : TP) (g_p1_history : TH) (g_p1_slots : TS) : Option (Int32 × (TT × TE × TW × TW × TP × TP × TH × TS)) :=
    (if s0 = 0 then none else ((f_L_call g_p1_text g_p1_entryReader g_p1_world g_p1_copy g_p1_chosen g_p1_other g_p1_history g_p1_slots s5 s4 s3 (s2 + (s1 - s1 / s0 * s0))).bind fun o24 => (some (o24.1, (o24.2.1, o24.2.2.1, o24.2.2.2.1, o24.2.2.2.2.1, o24.2.2.2.2.2.1, o24.2.2.2.2.2.2.1, o24.2.2.2.2.2.2.2.1, o24.2.2.2.2.2.2.2.2)))))
def f_L_act_J396   (x2 : Int32) (s0 : Int32) (s1 : Int32) (s3 : Int32) (g_p1_text : TT) (g_p1_entryReader : TE) (g_p1_world : TW) (g_p1_copy : TW) (g_p1_chosen : TP) (g_p1_other : TP) (g_p1_history : TH) (g_p1_slots : TS) : Option (Int32 × (TT × TE × TW × TW × TP × TP × TH × TS)) :=
    ((f_L_call g_p1_text g_p1_entryReader g_p1_world g_p1_copy g_p1_chosen g_p1_other g_p1_history g_p1_slots s1 s0 (0 : Int32) (0 : Int32)).bind fun o37 => (if (x2 - x2 / (64 : Int32) * (64 : Int32)) = (0 : Int32) then ((f_L_call o37.2.1 o37.2.2.1 o37.2.2.2.1 o37.2.2.2.2.1 o37.2.2.2.2.2.1 o37.2.2.2.2.2.2.1 o37.2.2.2.2.2.2.2.1 o37.2.2.2.2.2.2.2.2 (1 : Int32) (0 : Int32) (0 : Int32) (0 : Int32)).bind fun o39 => (some (((s3 + o37.1) + o39.1), (o39.2.1, o39.2.2.1, o39.2.2.2.1, o39.2.2.2.2.1, o39.2.2.2.2.2.1, o39.2.2.2.2.2.2.1, o39.2.2.2.2.2.2.2.1, o39.2.2.2.2.2.2.2.2)))) else (some (((s3 + o37.1) + (0 : Int32)), (o37.2.1, o37.2.2.1, o37.2.2.2.1, o37.2.2.2.2.1, o37.2.2.2.2.2.1, o37.2.2.2.2.2.2.1, o37.2.2.2.2.2.2.2.1, o37.2.2.2.2.2.2.2.2)))))
def f_L_act_J366   (x2 : Int32) (s0 : Int32) (s1 : Int32) (s3 : Int32) (g_p1_text : TT) (g_p1_entryReader : TE) (g_p1_world : TW) (g_p1_copy : TW) (g_p1_chosen : TP) (g_p1_other : TP) (g_p1_history : TH) (g_p1_slots : TS) : Option (Int32 × (TT × TE × TW × TW × TP × TP × TH × TS)) :=
    ((f_L_call g_p1_text g_p1_entryReader g_p1_world g_p1_copy g_p1_chosen g_p1_other g_p1_history g_p1_slots s1 s0 (0 : Int32) (0 : Int32)).bind fun o35 => (if (x2 - x2 / (8 : Int32) * (8 : Int32)) = (0 : Int32) then (f_L_act_J396 x2 (59 : Int32) (0 : Int32) (s3 + o35.1) o35.2.1 o35.2.2.1 o35.2.2.2.1 o35.2.2.2.2.1 o35.2.2.2.2.2.1 o35.2.2.2.2.2.2.1 o35.2.2.2.2.2.2.2.1 o35.2.2.2.2.2.2.2.2) else (f_L_act_J396 x2 ((48 : Int32) + ((x2 / (8 : Int32)) - (x2 / (8 : Int32)) / (7 : Int32) * (7 : Int32))) (0 : Int32) (s3 + o35.1) o35.2.1 o35.2.2.1 o35.2.2.2.1 o35.2.2.2.2.1 o35.2.2.2.2.2.1 o35.2.2.2.2.2.2.1 o35.2.2.2.2.2.2.2.1 o35.2.2.2.2.2.2.2.2)))
def f_L_act_J339   (x2 : Int32) (s0 : Int32) (s1 : Int32) (g_p1_text : TT) (g_p1_entryReader : TE) (g_p1_world : TW) (g_p1_copy : TW) (g_p1_chosen : TP) (g_p1_other : TP) (g_p1_history : TH) (g_p1_slots : TS) : Option (Int32 × (TT × TE × TW × TW × TP × TP × TH × TS)) :=
    ((f_L_call g_p1_text g_p1_entryReader g_p1_world g_p1_copy g_p1_chosen g_p1_other g_p1_history g_p1_slots s1 s0 (0 : Int32) (0 : Int32)).bind fun o33 => (if (x2 - x2 / (4 : Int32) * (4 : Int32)) = (0 : Int32) then (f_L_act_J366 x2 ((49 : Int32) + ((x2 / (4 : Int32)) - (x2 / (4 : Int32)) / (9 : Int32) * (9 : Int32))) (0 : Int32) o33.1 o33.2.1 o33.2.2.1 o33.2.2.2.1 o33.2.2.2.2.1 o33.2.2.2.2.2.1 o33.2.2.2.2.2.2.1 o33.2.2.2.2.2.2.2.1 o33.2.2.2.2.2.2.2.2) else (f_L_act_J366 x2 (62 : Int32) (0 : Int32) o33.1 o33.2.1 o33.2.2.1 o33.2.2.2.1 o33.2.2.2.2.1 o33.2.2.2.2.2.1 o33.2.2.2.2.2.2.1 o33.2.2.2.2.2.2.2.1 o33.2.2.2.2.2.2.2.2)))
def f_L_act_J36   (x1 : Int32) (x2 : Int32) (x3 : Int32) (x4 : Int32) (s0 : Int32) (g_p1_text : TT) (g_p1_entryReader : TE) (g_p1_world : TW) (g_p1_copy : TW) (g_p1_chosen : TP) (g_p1_other : TP) (g_p1_history : TH) (g_p1_slots : TS) : Option (Int32 × (TT × TE × TW × TW × TP × TP × TH × TS)) :=
    (if (x1 - x1 / (16 : Int32) * (16 : Int32)) = (0 : Int32) then (if x3 ≤ (4 : Int32) then (if (x2 - x2 / (3 : Int32) * (3 : Int32)) = (0 : Int32) then (f_L_act_J155 (9999 : Int32) x2 (1 : Int32) (7 : Int32) g_p1_text g_p1_entryReader g_p1_world g_p1_copy g_p1_chosen g_p1_other g_p1_history g_p1_slots) else (f_L_act_J155 (300 : Int32) x2 (1 : Int32) (7 : Int32) g_p1_text g_p1_entryReader g_p1_world g_p1_copy g_p1_chosen g_p1_other g_p1_history g_p1_slots)) else ((f_L_call g_p1_text g_p1_entryReader g_p1_world g_p1_copy g_p1_chosen g_p1_other g_p1_history g_p1_slots (8 : Int32) x4 ((1 : Int32) + ((x2 / (8 : Int32)) - (x2 / (8 : Int32)) / (900 : Int32) * (900 : Int32))) (0 : Int32)).bind fun o11 => (some (o11.1, (o11.2.1, o11.2.2.1, o11.2.2.2.1, o11.2.2.2.2.1, o11.2.2.2.2.2.1, o11.2.2.2.2.2.2.1, o11.2.2.2.2.2.2.2.1, o11.2.2.2.2.2.2.2.2))))) else (if (x1 - x1 / (16 : Int32) * (16 : Int32)) = (1 : Int32) then (if x3 ≤ (4 : Int32) then (if (x2 - x2 / (3 : Int32) * (3 : Int32)) = (0 : Int32) then (f_L_act_J155 (9999 : Int32) x2 (1 : Int32) (7 : Int32) g_p1_text g_p1_entryReader g_p1_world g_p1_copy g_p1_chosen g_p1_other g_p1_history g_p1_slots) else (f_L_act_J155 (300 : Int32) x2 (1 : Int32) (7 : Int32) g_p1_text g_p1_entryReader g_p1_world g_p1_copy g_p1_chosen g_p1_other g_p1_history g_p1_slots)) else ((f_L_call g_p1_text g_p1_entryReader g_p1_world g_p1_copy g_p1_chosen g_p1_other g_p1_history g_p1_slots (8 : Int32) x4 ((1 : Int32) + ((x2 / (8 : Int32)) - (x2 / (8 : Int32)) / (900 : Int32) * (900 : Int32))) (0 : Int32)).bind fun o14 => (some (o14.1, (o14.2.1, o14.2.2.1, o14.2.2.2.1, o14.2.2.2.2.1, o14.2.2.2.2.2.1, o14.2.2.2.2.2.2.1, o14.2.2.2.2.2.2.2.1, o14.2.2.2.2.2.2.2.2))))) else (if (x1 - x1 / (16 : Int32) * (16 : Int32)) = (2 : Int32) then (if (x2 - x2 / (3 : Int32) * (3 : Int32)) = (0 : Int32) then (f_L_act_J187 x2 (1000 : Int32) (x2 / (64 : Int32)) (1 : Int32) s0 x4 g_p1_text g_p1_entryReader g_p1_world g_p1_copy g_p1_chosen g_p1_other g_p1_history g_p1_slots) else (f_L_act_J187 x2 (50 : Int32) (x2 / (64 : Int32)) (1 : Int32) s0 x4 g_p1_text g_p1_entryReader g_p1_world g_p1_copy g_p1_chosen g_p1_other g_p1_history g_p1_slots)) else (if (x1 - x1 / (16 : Int32) * (16 : Int32)) = (3 : Int32) then (if (x2 - x2 / (3 : Int32) * (3 : Int32)) = (0 : Int32) then (f_L_act_J187 x2 (1000 : Int32) (x2 / (64 : Int32)) (1 : Int32) s0 x4 g_p1_text g_p1_entryReader g_p1_world g_p1_copy g_p1_chosen g_p1_other g_p1_history g_p1_slots) else (f_L_act_J187 x2 (50 : Int32) (x2 / (64 : Int32)) (1 : Int32) s0 x4 g_p1_text g_p1_entryReader g_p1_world g_p1_copy g_p1_chosen g_p1_other g_p1_history g_p1_slots)) else (if (x1 - x1 / (16 : Int32) * (16 : Int32)) = (4 : Int32) then (if (x2 - x2 / (3 : Int32) * (3 : Int32)) = (0 : Int32) then (f_L_act_J187 x2 (1000 : Int32) (x2 / (64 : Int32)) (1 : Int32) s0 x4 g_p1_text g_p1_entryReader g_p1_world g_p1_copy g_p1_chosen g_p1_other g_p1_history g_p1_slots) else (f_L_act_J187 x2 (50 : Int32) (x2 / (64 : Int32)) (1 : Int32) s0 x4 g_p1_text g_p1_entryReader g_p1_world g_p1_copy g_p1_chosen g_p1_other g_p1_history g_p1_slots)) else (if (x1 - x1 / (16 : Int32) * (16 : Int32)) = (5 : Int32) then (if (x2 - x2 / (3 : Int32) * (3 : Int32)) = (0 : Int32) then (f_L_act_J241 (1000 : Int32) (x2 / (64 : Int32)) (1 : Int32) s0 x4 (9 : Int32) g_p1_text g_p1_entryReader g_p1_world g_p1_copy g_p1_chosen g_p1_other g_p1_history g_p1_slots) else (f_L_act_J241 (90 : Int32) (x2 / (64 : Int32)) (1 : Int32) s0 x4 (9 : Int32) g_p1_text g_p1_entryReader g_p1_world g_p1_copy g_p1_chosen g_p1_other g_p1_history g_p1_slots)) else (if (x1 - x1 / (16 : Int32) * (16 : Int32)) = (6 : Int32) then (if (x2 - x2 / (3 : Int32) * (3 : Int32)) = (0 : Int32) then (f_L_act_J241 (1000 : Int32) (x2 / (64 : Int32)) (1 : Int32) s0 x4 (9 : Int32) g_p1_text g_p1_entryReader g_p1_world g_p1_copy g_p1_chosen g_p1_other g_p1_history g_p1_slots) else (f_L_act_J241 (90 : Int32) (x2 / (64 : Int32)) (1 : Int32) s0 x4 (9 : Int32) g_p1_text g_p1_entryReader g_p1_world g_p1_copy g_p1_chosen g_p1_other g_p1_history g_p1_slots)) else (if (x1 - x1 / (16 : Int32) * (16 : Int32)) = (7 : Int32) then ((f_L_call g_p1_text g_p1_entryReader g_p1_world g_p1_copy g_p1_chosen g_p1_other g_p1_history g_p1_slots (11 : Int32) ((1 : Int32) + (x2 - x2 / (3 : Int32) * (3 : Int32))) (0 : Int32) (0 : Int32)).bind fun o26 => (some (o26.1, (o26.2.1, o26.2.2.1, o26.2.2.2.1, o26.2.2.2.2.1, o26.2.2.2.2.2.1, o26.2.2.2.2.2.2.1, o26.2.2.2.2.2.2.2.1, o26.2.2.2.2.2.2.2.2)))) else (if (x1 - x1 / (16 : Int32) * (16 : Int32)) = (8 : Int32) then ((f_L_call g_p1_text g_p1_entryReader g_p1_world g_p1_copy g_p1_chosen g_p1_other g_p1_history g_p1_slots (12 : Int32) (x2 - x2 / (3 : Int32) * (3 : Int32)) ((1 : Int32) + ((x2 / (4 : Int32)) - (x2 / (4 : Int32)) / (10 : Int32) * (10 : Int32))) (0 : Int32)).bind fun o27 => (some (o27.1, (o27.2.1, o27.2.2.1, o27.2.2.2.1, o27.2.2.2.2.1, o27.2.2.2.2.2.1, o27.2.2.2.2.2.2.1, o27.2.2.2.2.2.2.2.1, o27.2.2.2.2.2.2.2.2)))) else (if (x1 - x1 / (16 : Int32) * (16 : Int32)) = (9 : Int32) then ((f_L_call g_p1_text g_p1_entryReader g_p1_world g_p1_copy g_p1_chosen g_p1_other g_p1_history g_p1_slots (13 : Int32) (0 : Int32) (0 : Int32) (0 : Int32)).bind fun o28 => (some (o28.1, (o28.2.1, o28.2.2.1, o28.2.2.2.1, o28.2.2.2.2.1, o28.2.2.2.2.2.1, o28.2.2.2.2.2.2.1, o28.2.2.2.2.2.2.2.1, o28.2.2.2.2.2.2.2.2)))) else (if (x1 - x1 / (16 : Int32) * (16 : Int32)) = (10 : Int32) then ((f_L_call g_p1_text g_p1_entryReader g_p1_world g_p1_copy g_p1_chosen g_p1_other g_p1_history g_p1_slots (18 : Int32) (x2 - x2 / (2 : Int32) * (2 : Int32)) (0 : Int32) (0 : Int32)).bind fun o29 => (some (o29.1, (o29.2.1, o29.2.2.1, o29.2.2.2.1, o29.2.2.2.2.1, o29.2.2.2.2.2.1, o29.2.2.2.2.2.2.1, o29.2.2.2.2.2.2.2.1, o29.2.2.2.2.2.2.2.2)))) else (if (x1 - x1 / (16 : Int32) * (16 : Int32)) = (11 : Int32) then ((f_L_call g_p1_text g_p1_entryReader g_p1_world g_p1_copy g_p1_chosen g_p1_other g_p1_history g_p1_slots (19 : Int32) (x2 - x2 / (2 : Int32) * (2 : Int32)) (0 : Int32) (0 : Int32)).bind fun o30 => (some (o30.1, (o30.2.1, o30.2.2.1, o30.2.2.2.1, o30.2.2.2.2.1, o30.2.2.2.2.2.1, o30.2.2.2.2.2.2.1, o30.2.2.2.2.2.2.2.1, o30.2.2.2.2.2.2.2.2)))) else (if (x1 - x1 / (16 : Int32) * (16 : Int32)) = (12 : Int32) then ((f_X8_clearText g_p1_text).bind fun o31 => (if (x2 - x2 / (4 : Int32) * (4 : Int32)) = (0 : Int32) then (f_L_act_J339 x2 (116 : Int32) (0 : Int32) o31.2 g_p1_entryReader g_p1_world g_p1_copy g_p1_chosen g_p1_other g_p1_history g_p1_slots) else (f_L_act_J339 x2 ((48 : Int32) + (x2 - x2 / (7 : Int32) * (7 : Int32))) (0 : Int32) o31.2 g_p1_entryReader g_p1_world g_p1_copy g_p1_chosen g_p1_other g_p1_history g_p1_slots))) else (if ((1 : Int32) <<< (x3 &&& 31)) = 0 then none else ((f_L_call g_p1_text g_p1_entryReader g_p1_world g_p1_copy g_p1_chosen g_p1_other g_p1_history g_p1_slots (10 : Int32) (x2 - x2 / ((1 : Int32) <<< (x3 &&& 31)) * ((1 : Int32) <<< (x3 &&& 31))) (0 : Int32) (0 : Int32)).bind fun o41 => (some (o41.1, (o41.2.1, o41.2.2.1, o41.2.2.2.1, o41.2.2.2.2.1, o41.2.2.2.2.2.1, o41.2.2.2.2.2.2.1, o41.2.2.2.2.2.2.2.1, o41.2.2.2.2.2.2.2.2))))))))))))))))))
def f_L_act_J20   (x1 : Int32) (x2 : Int32) (x3 : Int32) (s0 : Int32) (g_p1_text : TT) (g_p1_entryReader : TE) (g_p1_world : TW) (g_p1_copy : TW) (g_p1_chosen : TP) (g_p1_other : TP) (g_p1_history : TH) (g_p1_slots : TS) : Option (Int32 × (TT × TE × TW × TW × TP × TP × TH × TS)) :=
    (if x3 = (0 : Int32) then (f_L_act_J36 x1 x2 x3 s0 (0 : Int32) g_p1_text g_p1_entryReader g_p1_world g_p1_copy g_p1_chosen g_p1_other g_p1_history g_p1_slots) else (if x3 = 0 then none else (f_L_act_J36 x1 x2 x3 s0 ((x2 / (8 : Int32)) - (x2 / (8 : Int32)) / x3 * x3) g_p1_text g_p1_entryReader g_p1_world g_p1_copy g_p1_chosen g_p1_other g_p1_history g_p1_slots)))
def f_L_act (g_p1_text : TT) (g_p1_entryReader : TE) (g_p1_world : TW) (g_p1_copy : TW) (g_p1_chosen : TP) (g_p1_other : TP) (g_p1_history : TH) (g_p1_slots : TS) (v1 : Int32) (v2 : Int32) : Option (Int32 × (TT × TE × TW × TW × TP × TP × TH × TS)) :=
  ((f_L_call g_p1_text g_p1_entryReader g_p1_world g_p1_copy g_p1_chosen g_p1_other g_p1_history g_p1_slots (2 : Int32) (0 : Int32) (0 : Int32) (0 : Int32)).bind fun o1 => (if o1.1 = (0 : Int32) then (f_L_act_J20 v1 v2 o1.1 (0 : Int32) o1.2.1 o1.2.2.1 o1.2.2.2.1 o1.2.2.2.2.1 o1.2.2.2.2.2.1 o1.2.2.2.2.2.2.1 o1.2.2.2.2.2.2.2.1 o1.2.2.2.2.2.2.2.2) else (if o1.1 = 0 then none else (f_L_act_J20 v1 v2 o1.1 (v2 - v2 / o1.1 * o1.1) o1.2.1 o1.2.2.1 o1.2.2.2.1 o1.2.2.2.2.1 o1.2.2.2.2.2.1 o1.2.2.2.2.2.2.1 o1.2.2.2.2.2.2.2.1 o1.2.2.2.2.2.2.2.2))))
set_option maxHeartbeats 8000000 in
set_option maxRecDepth 100000 in
theorem c_L_act (l : Launch) (hlt : l.stackTraces = false) (D : va_G) (dT : Nat → ClassId) (a_p1 : Nat → Nat → Nat) (g_p1_text : TT) (g_p1_entryReader : TE) (g_p1_world : TW) (g_p1_copy : TW) (g_p1_chosen : TP) (g_p1_other : TP) (g_p1_history : TH) (g_p1_slots : TS) (v1 : Int32) (v2 : Int32) (o : (Int32 × (TT × TE × TW × TW × TP × TP × TH × TS))) (h : f_L_act g_p1_text g_p1_entryReader g_p1_world g_p1_copy g_p1_chosen g_p1_other g_p1_history g_p1_slots v1 v2 = some o) (sz : Nat) : Met l yL_act (WSm yL_act cL_act 6 (some .int)) { frames := 11, cells := 25, slots := 150, locals := 214 } (va_Pc [.ref (a_p1 0 0), .int v1, .int v2] (cPre D dT (cSP a_p1 ++ (cT dT (a_p1 1) g_p1_text ++ (cE dT (a_p1 2) g_p1_entryReader ++ (cW dT (a_p1 4) g_p1_world ++ (cW dT (a_p1 5) g_p1_copy ++ (cP dT (a_p1 8) g_p1_chosen ++ (cP dT (a_p1 9) g_p1_other ++ (cH dT (a_p1 6) g_p1_history ++ (cS dT (a_p1 7) g_p1_slots))))))))) sz)) (va_Qi (fun (r : Int32) (u : TT × TE × TW × TW × TP × TP × TH × TS) => r = o.1 ∧ u = o.2) (fun u t => cAt D dT (va_A (cSP a_p1 ++ (cT dT (a_p1 1) g_p1_text ++ (cE dT (a_p1 2) g_p1_entryReader ++ (cW dT (a_p1 4) g_p1_world ++ (cW dT (a_p1 5) g_p1_copy ++ (cP dT (a_p1 8) g_p1_chosen ++ (cP dT (a_p1 9) g_p1_other ++ (cH dT (a_p1 6) g_p1_history ++ (cS dT (a_p1 7) g_p1_slots))))))))) sz) (cSP a_p1 ++ (cT dT (a_p1 1) (u.1) ++ (cE dT (a_p1 2) (u.2.1) ++ (cW dT (a_p1 4) (u.2.2.1) ++ (cW dT (a_p1 5) (u.2.2.2.1) ++ (cP dT (a_p1 8) (u.2.2.2.2.1) ++ (cP dT (a_p1 9) (u.2.2.2.2.2.1) ++ (cH dT (a_p1 6) (u.2.2.2.2.2.2.1) ++ (cS dT (a_p1 7) (u.2.2.2.2.2.2.2)))))))))) t) (va_A (cSP a_p1 ++ (cT dT (a_p1 1) g_p1_text ++ (cE dT (a_p1 2) g_p1_entryReader ++ (cW dT (a_p1 4) g_p1_world ++ (cW dT (a_p1 5) g_p1_copy ++ (cP dT (a_p1 8) g_p1_chosen ++ (cP dT (a_p1 9) g_p1_other ++ (cH dT (a_p1 6) g_p1_history ++ (cS dT (a_p1 7) g_p1_slots))))))))) sz)) 25 150 (va_A (cSP a_p1 ++ (cT dT (a_p1 1) g_p1_text ++ (cE dT (a_p1 2) g_p1_entryReader ++ (cW dT (a_p1 4) g_p1_world ++ (cW dT (a_p1 5) g_p1_copy ++ (cP dT (a_p1 8) g_p1_chosen ++ (cP dT (a_p1 9) g_p1_other ++ (cH dT (a_p1 6) g_p1_history ++ (cS dT (a_p1 7) g_p1_slots))))))))) sz) := by
  refine mStart (WS := (cSP a_p1 ++ (cT dT (a_p1 1) g_p1_text ++ (cE dT (a_p1 2) g_p1_entryReader ++ (cW dT (a_p1 4) g_p1_world ++ (cW dT (a_p1 5) g_p1_copy ++ (cP dT (a_p1 8) g_p1_chosen ++ (cP dT (a_p1 9) g_p1_other ++ (cH dT (a_p1 6) g_p1_history ++ (cS dT (a_p1 7) g_p1_slots)))))))))) (Qc := fun A => va_Qi (fun (r : Int32) (u : TT × TE × TW × TW × TP × TP × TH × TS) => r = o.1 ∧ u = o.2) (fun u t => cAt D dT A (cSP a_p1 ++ (cT dT (a_p1 1) (u.1) ++ (cE dT (a_p1 2) (u.2.1) ++ (cW dT (a_p1 4) (u.2.2.1) ++ (cW dT (a_p1 5) (u.2.2.2.1) ++ (cP dT (a_p1 8) (u.2.2.2.2.1) ++ (cP dT (a_p1 9) (u.2.2.2.2.2.1) ++ (cH dT (a_p1 6) (u.2.2.2.2.2.2.1) ++ (cS dT (a_p1 7) (u.2.2.2.2.2.2.2)))))))))) t) A) RL rfl (by decide) (Nat.le_of_ble_eq_true rfl) ?_ sz
  intro p e s m below meth c A ls hx hb hml hr hlk hnm hts hqs hown hE hA hK hP hD hS hl
  have hl : lv_has ls 6 [(0, .ref (a_p1 0 0)), (1, .int v1), (2, .int v2)] := hl
  have L_f_L_act_J155 : ∀ (nc ns : Nat) (hnc : nc + 5 ≤ 25) (hns : ns + 30 ≤ 150)  (s0 : Int32) (s1 : Int32) (s2 : Int32) (s3 : Int32) (g_p1_text : TT) (g_p1_entryReader : TE) (g_p1_world : TW) (g_p1_copy : TW) (g_p1_chosen : TP) (g_p1_other : TP) (g_p1_history : TH) (g_p1_slots : TS)   (H : Heap) (locs : List Loc) (ls : Array Slot), f_L_act_J155   s0 s1 s2 s3 g_p1_text g_p1_entryReader g_p1_world g_p1_copy g_p1_chosen g_p1_other g_p1_history g_p1_slots = some o → va_P D vwCl (cSP a_p1 ++ (cT dT (a_p1 1) g_p1_text ++ (cE dT (a_p1 2) g_p1_entryReader ++ (cW dT (a_p1 4) g_p1_world ++ (cW dT (a_p1 5) g_p1_copy ++ (cP dT (a_p1 8) g_p1_chosen ++ (cP dT (a_p1 9) g_p1_other ++ (cH dT (a_p1 6) g_p1_history ++ (cS dT (a_p1 7) g_p1_slots))))))))) H → va_D A (cSP a_p1 ++ (cT dT (a_p1 1) g_p1_text ++ (cE dT (a_p1 2) g_p1_entryReader ++ (cW dT (a_p1 4) g_p1_world ++ (cW dT (a_p1 5) g_p1_copy ++ (cP dT (a_p1 8) g_p1_chosen ++ (cP dT (a_p1 9) g_p1_other ++ (cH dT (a_p1 6) g_p1_history ++ (cS dT (a_p1 7) g_p1_slots))))))))) → va_S A s.heap H locs → lv_has ls 6 [] → W p l e (headSpec (WSm yL_act cL_act 6 (some .int)) { frames := 11, cells := 25, slots := 150, locals := 214 }).room s m [.ref (a_p1 0 0), .int v1, .int v2].toArray below meth c H locs nc ns (MQ below (va_Qi (fun (r : Int32) (u : TT × TE × TW × TW × TP × TP × TH × TS) => r = o.1 ∧ u = o.2) (fun u t => cAt D dT A (cSP a_p1 ++ (cT dT (a_p1 1) (u.1) ++ (cE dT (a_p1 2) (u.2.1) ++ (cW dT (a_p1 4) (u.2.2.1) ++ (cW dT (a_p1 5) (u.2.2.2.1) ++ (cP dT (a_p1 8) (u.2.2.2.2.1) ++ (cP dT (a_p1 9) (u.2.2.2.2.2.1) ++ (cH dT (a_p1 6) (u.2.2.2.2.2.2.1) ++ (cS dT (a_p1 7) (u.2.2.2.2.2.2.2)))))))))) t) A) [.ref (a_p1 0 0), .int v1, .int v2].toArray s 25 150 A) (F0 m 155 ls [.int s0, .int s1, .int s2, .int s3, .ref (a_p1 0 0)]) := by
    intro nc ns hnc hns  s0 s1 s2 s3 g_p1_text g_p1_entryReader g_p1_world g_p1_copy g_p1_chosen g_p1_other g_p1_history g_p1_slots   H locs ls h hP hD hS hl
    unfold f_L_act_J155 at h
    obtain ⟨g9, h⟩ := chn h
    refine lv_irem hx hb dL_act_155 g9 ?_
    refine lv_iadd hx hb dL_act_156 ?_
    refine lv_iconst (v := 0) hx hb dL_act_157 (by decide) ?_
    refine lv_iconst (v := 0) hx hb dL_act_158 (by decide) ?_
    obtain ⟨o10, e10, h⟩ := obind h
    have hPq : va_P D vwCl ((cSP a_p1 ++ (cT dT (a_p1 1) g_p1_text ++ (cE dT (a_p1 2) g_p1_entryReader ++ (cW dT (a_p1 4) g_p1_world ++ (cW dT (a_p1 5) g_p1_copy ++ (cP dT (a_p1 8) g_p1_chosen ++ (cP dT (a_p1 9) g_p1_other ++ (cH dT (a_p1 6) g_p1_history ++ (cS dT (a_p1 7) g_p1_slots))))))))) ++ ([] : va_W)) _ := hP.perm (pw_30 (cSP a_p1) (cT dT (a_p1 1) g_p1_text) (cE dT (a_p1 2) g_p1_entryReader) (cW dT (a_p1 4) g_p1_world) (cW dT (a_p1 5) g_p1_copy) (cP dT (a_p1 8) g_p1_chosen) (cP dT (a_p1 9) g_p1_other) (cH dT (a_p1 6) g_p1_history) (cS dT (a_p1 7) g_p1_slots))
    have hDq : va_D A ((cSP a_p1 ++ (cT dT (a_p1 1) g_p1_text ++ (cE dT (a_p1 2) g_p1_entryReader ++ (cW dT (a_p1 4) g_p1_world ++ (cW dT (a_p1 5) g_p1_copy ++ (cP dT (a_p1 8) g_p1_chosen ++ (cP dT (a_p1 9) g_p1_other ++ (cH dT (a_p1 6) g_p1_history ++ (cS dT (a_p1 7) g_p1_slots))))))))) ++ ([] : va_W)) := hD.perm (pw_30 (cSP a_p1) (cT dT (a_p1 1) g_p1_text) (cE dT (a_p1 2) g_p1_entryReader) (cW dT (a_p1 4) g_p1_world) (cW dT (a_p1 5) g_p1_copy) (cP dT (a_p1 8) g_p1_chosen) (cP dT (a_p1 9) g_p1_other) (cH dT (a_p1 6) g_p1_history) (cS dT (a_p1 7) g_p1_slots))
    have hPc := hPq.left
    have hDc := hDq.left
    have hFc := va_freeL hDq hS hA
    refine cl_iL (wr := ([] : va_W)) (va_runS (As := [.ref (a_p1 0 0), .int s3, .int (s2 + (s1 - s1 / s0 * s0)), .int (0 : Int32), .int (0 : Int32)]) (rest := []) ⟨hx, hb, hml, hown, hts⟩ (c_L_call l hlt D dT a_p1 g_p1_text g_p1_entryReader g_p1_world g_p1_copy g_p1_chosen g_p1_other g_p1_history g_p1_slots s3 (s2 + (s1 - s1 / s0 * s0)) (0 : Int32) (0 : Int32) o10 e10 _) (va_cwS 5 hts (TB_S w_599 w_600 w_32 w_601) rfl rfl rfl nd_L_call ⟨Nat.le_of_ble_eq_true rfl, Nat.le_of_ble_eq_true rfl⟩) (cPre.S hPc hDc hK hE hS hFc) rfl rfl hl.1 rfl (lv_room (Nat.le_of_ble_eq_true rfl)) dL_act_159 ⟨rLe (b := 25) (by omega), rLe (b := 150) (by omega)⟩) hPq hDq hS hFc (fun r10 u10 H locs hw hP hD hS => ?_)
    obtain ⟨rfl, rfl⟩ := hw
    have hP : va_P D vwCl (cSP a_p1 ++ (cT dT (a_p1 1) o10.2.1 ++ (cE dT (a_p1 2) o10.2.2.1 ++ (cW dT (a_p1 4) o10.2.2.2.1 ++ (cW dT (a_p1 5) o10.2.2.2.2.1 ++ (cP dT (a_p1 8) o10.2.2.2.2.2.1 ++ (cP dT (a_p1 9) o10.2.2.2.2.2.2.1 ++ (cH dT (a_p1 6) o10.2.2.2.2.2.2.2.1 ++ (cS dT (a_p1 7) o10.2.2.2.2.2.2.2.2))))))))) H := hP.perm (pw_31 (cSP a_p1) (cT dT (a_p1 1) o10.2.1) (cE dT (a_p1 2) o10.2.2.1) (cW dT (a_p1 4) o10.2.2.2.1) (cW dT (a_p1 5) o10.2.2.2.2.1) (cP dT (a_p1 8) o10.2.2.2.2.2.1) (cP dT (a_p1 9) o10.2.2.2.2.2.2.1) (cH dT (a_p1 6) o10.2.2.2.2.2.2.2.1) (cS dT (a_p1 7) o10.2.2.2.2.2.2.2.2))
    have hD : va_D A (cSP a_p1 ++ (cT dT (a_p1 1) o10.2.1 ++ (cE dT (a_p1 2) o10.2.2.1 ++ (cW dT (a_p1 4) o10.2.2.2.1 ++ (cW dT (a_p1 5) o10.2.2.2.2.1 ++ (cP dT (a_p1 8) o10.2.2.2.2.2.1 ++ (cP dT (a_p1 9) o10.2.2.2.2.2.2.1 ++ (cH dT (a_p1 6) o10.2.2.2.2.2.2.2.1 ++ (cS dT (a_p1 7) o10.2.2.2.2.2.2.2.2))))))))) := hD.perm (pw_31 (cSP a_p1) (cT dT (a_p1 1) o10.2.1) (cE dT (a_p1 2) o10.2.2.1) (cW dT (a_p1 4) o10.2.2.2.1) (cW dT (a_p1 5) o10.2.2.2.2.1) (cP dT (a_p1 8) o10.2.2.2.2.2.1) (cP dT (a_p1 9) o10.2.2.2.2.2.2.1) (cH dT (a_p1 6) o10.2.2.2.2.2.2.2.1) (cS dT (a_p1 7) o10.2.2.2.2.2.2.2.2))
    refine W.widen (k := 25) (n := 150) (by omega) (by omega) ?_
    exact rt_i hx hb hr hlk hK hS ((o10.2.1, o10.2.2.1, o10.2.2.2.1, o10.2.2.2.2.1, o10.2.2.2.2.2.1, o10.2.2.2.2.2.2.1, o10.2.2.2.2.2.2.2.1, o10.2.2.2.2.2.2.2.2) : TT × TE × TW × TW × TP × TP × TH × TS) (ret2 h) hP hD dL_act_162
  have L_f_L_act_J209 : ∀ (nc ns : Nat) (hnc : nc + 5 ≤ 25) (hns : ns + 30 ≤ 150)  (s0 : Int32) (s1 : Int32) (s2 : Int32) (s3 : Int32) (s4 : Int32) (s5 : Int32) (g_p1_text : TT) (g_p1_entryReader : TE) (g_p1_world : TW) (g_p1_copy : TW) (g_p1_chosen : TP) (g_p1_other : TP) (g_p1_history : TH) (g_p1_slots : TS)   (H : Heap) (locs : List Loc) (ls : Array Slot), f_L_act_J209   s0 s1 s2 s3 s4 s5 g_p1_text g_p1_entryReader g_p1_world g_p1_copy g_p1_chosen g_p1_other g_p1_history g_p1_slots = some o → va_P D vwCl (cSP a_p1 ++ (cT dT (a_p1 1) g_p1_text ++ (cE dT (a_p1 2) g_p1_entryReader ++ (cW dT (a_p1 4) g_p1_world ++ (cW dT (a_p1 5) g_p1_copy ++ (cP dT (a_p1 8) g_p1_chosen ++ (cP dT (a_p1 9) g_p1_other ++ (cH dT (a_p1 6) g_p1_history ++ (cS dT (a_p1 7) g_p1_slots))))))))) H → va_D A (cSP a_p1 ++ (cT dT (a_p1 1) g_p1_text ++ (cE dT (a_p1 2) g_p1_entryReader ++ (cW dT (a_p1 4) g_p1_world ++ (cW dT (a_p1 5) g_p1_copy ++ (cP dT (a_p1 8) g_p1_chosen ++ (cP dT (a_p1 9) g_p1_other ++ (cH dT (a_p1 6) g_p1_history ++ (cS dT (a_p1 7) g_p1_slots))))))))) → va_S A s.heap H locs → lv_has ls 6 [] → W p l e (headSpec (WSm yL_act cL_act 6 (some .int)) { frames := 11, cells := 25, slots := 150, locals := 214 }).room s m [.ref (a_p1 0 0), .int v1, .int v2].toArray below meth c H locs nc ns (MQ below (va_Qi (fun (r : Int32) (u : TT × TE × TW × TW × TP × TP × TH × TS) => r = o.1 ∧ u = o.2) (fun u t => cAt D dT A (cSP a_p1 ++ (cT dT (a_p1 1) (u.1) ++ (cE dT (a_p1 2) (u.2.1) ++ (cW dT (a_p1 4) (u.2.2.1) ++ (cW dT (a_p1 5) (u.2.2.2.1) ++ (cP dT (a_p1 8) (u.2.2.2.2.1) ++ (cP dT (a_p1 9) (u.2.2.2.2.2.1) ++ (cH dT (a_p1 6) (u.2.2.2.2.2.2.1) ++ (cS dT (a_p1 7) (u.2.2.2.2.2.2.2)))))))))) t) A) [.ref (a_p1 0 0), .int v1, .int v2].toArray s 25 150 A) (F0 m 209 ls [.int s0, .int s1, .int s2, .int s3, .int s4, .int s5, .ref (a_p1 0 0)]) := by
    intro nc ns hnc hns  s0 s1 s2 s3 s4 s5 g_p1_text g_p1_entryReader g_p1_world g_p1_copy g_p1_chosen g_p1_other g_p1_history g_p1_slots   H locs ls h hP hD hS hl
    unfold f_L_act_J209 at h
    obtain ⟨g18, h⟩ := chn h
    refine lv_irem hx hb dL_act_209 g18 ?_
    refine lv_iadd hx hb dL_act_210 ?_
    obtain ⟨o19, e19, h⟩ := obind h
    have hPq : va_P D vwCl ((cSP a_p1 ++ (cW dT (a_p1 4) g_p1_world ++ (cH dT (a_p1 6) g_p1_history))) ++ (cT dT (a_p1 1) g_p1_text ++ (cE dT (a_p1 2) g_p1_entryReader ++ (cW dT (a_p1 5) g_p1_copy ++ (cP dT (a_p1 8) g_p1_chosen ++ (cP dT (a_p1 9) g_p1_other ++ (cS dT (a_p1 7) g_p1_slots))))))) _ := hP.perm (pw_18 (cSP a_p1) (cT dT (a_p1 1) g_p1_text) (cE dT (a_p1 2) g_p1_entryReader) (cW dT (a_p1 4) g_p1_world) (cW dT (a_p1 5) g_p1_copy) (cP dT (a_p1 8) g_p1_chosen) (cP dT (a_p1 9) g_p1_other) (cH dT (a_p1 6) g_p1_history) (cS dT (a_p1 7) g_p1_slots))
    have hDq : va_D A ((cSP a_p1 ++ (cW dT (a_p1 4) g_p1_world ++ (cH dT (a_p1 6) g_p1_history))) ++ (cT dT (a_p1 1) g_p1_text ++ (cE dT (a_p1 2) g_p1_entryReader ++ (cW dT (a_p1 5) g_p1_copy ++ (cP dT (a_p1 8) g_p1_chosen ++ (cP dT (a_p1 9) g_p1_other ++ (cS dT (a_p1 7) g_p1_slots))))))) := hD.perm (pw_18 (cSP a_p1) (cT dT (a_p1 1) g_p1_text) (cE dT (a_p1 2) g_p1_entryReader) (cW dT (a_p1 4) g_p1_world) (cW dT (a_p1 5) g_p1_copy) (cP dT (a_p1 8) g_p1_chosen) (cP dT (a_p1 9) g_p1_other) (cH dT (a_p1 6) g_p1_history) (cS dT (a_p1 7) g_p1_slots))
    have hPc := hPq.left
    have hDc := hDq.left
    have hFc := va_freeL hDq hS hA
    refine cl_iL (wr := (cT dT (a_p1 1) g_p1_text ++ (cE dT (a_p1 2) g_p1_entryReader ++ (cW dT (a_p1 5) g_p1_copy ++ (cP dT (a_p1 8) g_p1_chosen ++ (cP dT (a_p1 9) g_p1_other ++ (cS dT (a_p1 7) g_p1_slots))))))) (vx_runSW (As := [.ref (a_p1 0 0), .int s5, .int s4, .int s3, .int (s2 + (s1 - s1 / s0 * s0))]) (rest := []) ⟨hx, hb, hml, hown, hts⟩ (c_L_tryLink l hlt D dT a_p1 g_p1_world g_p1_history s5 s4 s3 (s2 + (s1 - s1 / s0 * s0)) o19 e19 _) (vx_cwSW 5 hts (TB_SW w_990 w_991 w_32 w_992) rfl rfl rfl nd_L_tryLink ⟨Nat.le_of_ble_eq_true rfl, Nat.le_of_ble_eq_true rfl⟩) (cPre.S hPc hDc hK hE hS hFc) rfl rfl hl.1 rfl (lv_room (Nat.le_of_ble_eq_true rfl)) dL_act_211 ⟨rLe (b := 25) (by omega), rLe (b := 150) (by omega)⟩) hPq hDq hS hFc (fun r19 u19 H locs hw hP hD hS => ?_)
    obtain ⟨rfl, rfl⟩ := hw
    have hP : va_P D vwCl (cSP a_p1 ++ (cT dT (a_p1 1) g_p1_text ++ (cE dT (a_p1 2) g_p1_entryReader ++ (cW dT (a_p1 4) o19.2.1 ++ (cW dT (a_p1 5) g_p1_copy ++ (cP dT (a_p1 8) g_p1_chosen ++ (cP dT (a_p1 9) g_p1_other ++ (cH dT (a_p1 6) o19.2.2 ++ (cS dT (a_p1 7) g_p1_slots))))))))) H := hP.perm (pw_19 (cSP a_p1) (cW dT (a_p1 4) o19.2.1) (cH dT (a_p1 6) o19.2.2) (cT dT (a_p1 1) g_p1_text) (cE dT (a_p1 2) g_p1_entryReader) (cW dT (a_p1 5) g_p1_copy) (cP dT (a_p1 8) g_p1_chosen) (cP dT (a_p1 9) g_p1_other) (cS dT (a_p1 7) g_p1_slots))
    have hD : va_D A (cSP a_p1 ++ (cT dT (a_p1 1) g_p1_text ++ (cE dT (a_p1 2) g_p1_entryReader ++ (cW dT (a_p1 4) o19.2.1 ++ (cW dT (a_p1 5) g_p1_copy ++ (cP dT (a_p1 8) g_p1_chosen ++ (cP dT (a_p1 9) g_p1_other ++ (cH dT (a_p1 6) o19.2.2 ++ (cS dT (a_p1 7) g_p1_slots))))))))) := hD.perm (pw_19 (cSP a_p1) (cW dT (a_p1 4) o19.2.1) (cH dT (a_p1 6) o19.2.2) (cT dT (a_p1 1) g_p1_text) (cE dT (a_p1 2) g_p1_entryReader) (cW dT (a_p1 5) g_p1_copy) (cP dT (a_p1 8) g_p1_chosen) (cP dT (a_p1 9) g_p1_other) (cS dT (a_p1 7) g_p1_slots))
    refine W.widen (k := 25) (n := 150) (by omega) (by omega) ?_
    exact rt_i hx hb hr hlk hK hS ((g_p1_text, g_p1_entryReader, o19.2.1, g_p1_copy, g_p1_chosen, g_p1_other, o19.2.2, g_p1_slots) : TT × TE × TW × TW × TP × TP × TH × TS) (ret2 h) hP hD dL_act_214
  have L_f_L_act_J187 : ∀ (nc ns : Nat) (hnc : nc + 5 ≤ 25) (hns : ns + 30 ≤ 150)  (x2 : Int32) (s0 : Int32) (s1 : Int32) (s2 : Int32) (s3 : Int32) (s4 : Int32) (g_p1_text : TT) (g_p1_entryReader : TE) (g_p1_world : TW) (g_p1_copy : TW) (g_p1_chosen : TP) (g_p1_other : TP) (g_p1_history : TH) (g_p1_slots : TS)   (H : Heap) (locs : List Loc) (ls : Array Slot), f_L_act_J187   x2 s0 s1 s2 s3 s4 g_p1_text g_p1_entryReader g_p1_world g_p1_copy g_p1_chosen g_p1_other g_p1_history g_p1_slots = some o → va_P D vwCl (cSP a_p1 ++ (cT dT (a_p1 1) g_p1_text ++ (cE dT (a_p1 2) g_p1_entryReader ++ (cW dT (a_p1 4) g_p1_world ++ (cW dT (a_p1 5) g_p1_copy ++ (cP dT (a_p1 8) g_p1_chosen ++ (cP dT (a_p1 9) g_p1_other ++ (cH dT (a_p1 6) g_p1_history ++ (cS dT (a_p1 7) g_p1_slots))))))))) H → va_D A (cSP a_p1 ++ (cT dT (a_p1 1) g_p1_text ++ (cE dT (a_p1 2) g_p1_entryReader ++ (cW dT (a_p1 4) g_p1_world ++ (cW dT (a_p1 5) g_p1_copy ++ (cP dT (a_p1 8) g_p1_chosen ++ (cP dT (a_p1 9) g_p1_other ++ (cH dT (a_p1 6) g_p1_history ++ (cS dT (a_p1 7) g_p1_slots))))))))) → va_S A s.heap H locs → lv_has ls 6 [(2, .int x2)] → W p l e (headSpec (WSm yL_act cL_act 6 (some .int)) { frames := 11, cells := 25, slots := 150, locals := 214 }).room s m [.ref (a_p1 0 0), .int v1, .int v2].toArray below meth c H locs nc ns (MQ below (va_Qi (fun (r : Int32) (u : TT × TE × TW × TW × TP × TP × TH × TS) => r = o.1 ∧ u = o.2) (fun u t => cAt D dT A (cSP a_p1 ++ (cT dT (a_p1 1) (u.1) ++ (cE dT (a_p1 2) (u.2.1) ++ (cW dT (a_p1 4) (u.2.2.1) ++ (cW dT (a_p1 5) (u.2.2.2.1) ++ (cP dT (a_p1 8) (u.2.2.2.2.1) ++ (cP dT (a_p1 9) (u.2.2.2.2.2.1) ++ (cH dT (a_p1 6) (u.2.2.2.2.2.2.1) ++ (cS dT (a_p1 7) (u.2.2.2.2.2.2.2)))))))))) t) A) [.ref (a_p1 0 0), .int v1, .int v2].toArray s 25 150 A) (F0 m 187 ls [.int s0, .int s1, .int s2, .int s3, .int s4, .ref (a_p1 0 0)]) := by
    intro nc ns hnc hns  x2 s0 s1 s2 s3 s4 g_p1_text g_p1_entryReader g_p1_world g_p1_copy g_p1_chosen g_p1_other g_p1_history g_p1_slots   H locs ls h hP hD hS hl
    unfold f_L_act_J187 at h
    obtain ⟨g16, h⟩ := chn h
    refine lv_irem hx hb dL_act_187 g16 ?_
    refine lv_iadd hx hb dL_act_188 ?_
    refine lv_iconst (v := 1) hx hb dL_act_189 (by decide) ?_
    refine lv_iload_n hx hb dL_act_190 rfl (lv_at hl 0 rfl) ?_
    refine lv_sipush (v := 1024) hx hb dL_act_191 (by decide) ?_
    refine lv_idiv hx hb dL_act_194 (by decide) ?_
    refine lv_iload_n hx hb dL_act_195 rfl (lv_at hl 0 rfl) ?_
    refine lv_iconst (v := 5) hx hb dL_act_196 (by decide) ?_
    refine lv_irem hx hb dL_act_197 (by decide) ?_
    refine lv_if_ne (tgt := 207) hx hb dL_act_198 (by decide) (fun c17 => ?_) (fun c17 => ?_)
    · replace h := iteF c17 h
      refine lv_bipush (v := 80) hx hb dL_act_207 (by decide) ?_
      refine L_f_L_act_J209 _ _ (by omega) (by omega)  (80 : Int32) (x2 / (1024 : Int32)) (1 : Int32) (s2 + (s1 - s1 / s0 * s0)) s3 s4 g_p1_text g_p1_entryReader g_p1_world g_p1_copy g_p1_chosen g_p1_other g_p1_history g_p1_slots   _ _ _ h hP hD hS (lv_sub hl [] rfl)
    · replace h := iteT c17 h
      refine lv_sipush (v := 1000) hx hb dL_act_201 (by decide) ?_
      refine lv_goto (tgt := 209) hx hb dL_act_204 (by decide) ?_
      refine L_f_L_act_J209 _ _ (by omega) (by omega)  (1000 : Int32) (x2 / (1024 : Int32)) (1 : Int32) (s2 + (s1 - s1 / s0 * s0)) s3 s4 g_p1_text g_p1_entryReader g_p1_world g_p1_copy g_p1_chosen g_p1_other g_p1_history g_p1_slots   _ _ _ h hP hD hS (lv_sub hl [] rfl)
  have L_f_L_act_J241 : ∀ (nc ns : Nat) (hnc : nc + 5 ≤ 25) (hns : ns + 30 ≤ 150)  (s0 : Int32) (s1 : Int32) (s2 : Int32) (s3 : Int32) (s4 : Int32) (s5 : Int32) (g_p1_text : TT) (g_p1_entryReader : TE) (g_p1_world : TW) (g_p1_copy : TW) (g_p1_chosen : TP) (g_p1_other : TP) (g_p1_history : TH) (g_p1_slots : TS)   (H : Heap) (locs : List Loc) (ls : Array Slot), f_L_act_J241   s0 s1 s2 s3 s4 s5 g_p1_text g_p1_entryReader g_p1_world g_p1_copy g_p1_chosen g_p1_other g_p1_history g_p1_slots = some o → va_P D vwCl (cSP a_p1 ++ (cT dT (a_p1 1) g_p1_text ++ (cE dT (a_p1 2) g_p1_entryReader ++ (cW dT (a_p1 4) g_p1_world ++ (cW dT (a_p1 5) g_p1_copy ++ (cP dT (a_p1 8) g_p1_chosen ++ (cP dT (a_p1 9) g_p1_other ++ (cH dT (a_p1 6) g_p1_history ++ (cS dT (a_p1 7) g_p1_slots))))))))) H → va_D A (cSP a_p1 ++ (cT dT (a_p1 1) g_p1_text ++ (cE dT (a_p1 2) g_p1_entryReader ++ (cW dT (a_p1 4) g_p1_world ++ (cW dT (a_p1 5) g_p1_copy ++ (cP dT (a_p1 8) g_p1_chosen ++ (cP dT (a_p1 9) g_p1_other ++ (cH dT (a_p1 6) g_p1_history ++ (cS dT (a_p1 7) g_p1_slots))))))))) → va_S A s.heap H locs → lv_has ls 6 [] → W p l e (headSpec (WSm yL_act cL_act 6 (some .int)) { frames := 11, cells := 25, slots := 150, locals := 214 }).room s m [.ref (a_p1 0 0), .int v1, .int v2].toArray below meth c H locs nc ns (MQ below (va_Qi (fun (r : Int32) (u : TT × TE × TW × TW × TP × TP × TH × TS) => r = o.1 ∧ u = o.2) (fun u t => cAt D dT A (cSP a_p1 ++ (cT dT (a_p1 1) (u.1) ++ (cE dT (a_p1 2) (u.2.1) ++ (cW dT (a_p1 4) (u.2.2.1) ++ (cW dT (a_p1 5) (u.2.2.2.1) ++ (cP dT (a_p1 8) (u.2.2.2.2.1) ++ (cP dT (a_p1 9) (u.2.2.2.2.2.1) ++ (cH dT (a_p1 6) (u.2.2.2.2.2.2.1) ++ (cS dT (a_p1 7) (u.2.2.2.2.2.2.2)))))))))) t) A) [.ref (a_p1 0 0), .int v1, .int v2].toArray s 25 150 A) (F0 m 241 ls [.int s0, .int s1, .int s2, .int s3, .int s4, .int s5, .ref (a_p1 0 0)]) := by
    intro nc ns hnc hns  s0 s1 s2 s3 s4 s5 g_p1_text g_p1_entryReader g_p1_world g_p1_copy g_p1_chosen g_p1_other g_p1_history g_p1_slots   H locs ls h hP hD hS hl
    unfold f_L_act_J241 at h
    obtain ⟨g23, h⟩ := chn h
    refine lv_irem hx hb dL_act_241 g23 ?_
    refine lv_iadd hx hb dL_act_242 ?_
    obtain ⟨o24, e24, h⟩ := obind h
    have hPq : va_P D vwCl ((cSP a_p1 ++ (cT dT (a_p1 1) g_p1_text ++ (cE dT (a_p1 2) g_p1_entryReader ++ (cW dT (a_p1 4) g_p1_world ++ (cW dT (a_p1 5) g_p1_copy ++ (cP dT (a_p1 8) g_p1_chosen ++ (cP dT (a_p1 9) g_p1_other ++ (cH dT (a_p1 6) g_p1_history ++ (cS dT (a_p1 7) g_p1_slots))))))))) ++ ([] : va_W)) _ := hP.perm (pw_30 (cSP a_p1) (cT dT (a_p1 1) g_p1_text) (cE dT (a_p1 2) g_p1_entryReader) (cW dT (a_p1 4) g_p1_world) (cW dT (a_p1 5) g_p1_copy) (cP dT (a_p1 8) g_p1_chosen) (cP dT (a_p1 9) g_p1_other) (cH dT (a_p1 6) g_p1_history) (cS dT (a_p1 7) g_p1_slots))
    have hDq : va_D A ((cSP a_p1 ++ (cT dT (a_p1 1) g_p1_text ++ (cE dT (a_p1 2) g_p1_entryReader ++ (cW dT (a_p1 4) g_p1_world ++ (cW dT (a_p1 5) g_p1_copy ++ (cP dT (a_p1 8) g_p1_chosen ++ (cP dT (a_p1 9) g_p1_other ++ (cH dT (a_p1 6) g_p1_history ++ (cS dT (a_p1 7) g_p1_slots))))))))) ++ ([] : va_W)) := hD.perm (pw_30 (cSP a_p1) (cT dT (a_p1 1) g_p1_text) (cE dT (a_p1 2) g_p1_entryReader) (cW dT (a_p1 4) g_p1_world) (cW dT (a_p1 5) g_p1_copy) (cP dT (a_p1 8) g_p1_chosen) (cP dT (a_p1 9) g_p1_other) (cH dT (a_p1 6) g_p1_history) (cS dT (a_p1 7) g_p1_slots))
    have hPc := hPq.left
    have hDc := hDq.left
    have hFc := va_freeL hDq hS hA
    refine cl_iL (wr := ([] : va_W)) (va_runS (As := [.ref (a_p1 0 0), .int s5, .int s4, .int s3, .int (s2 + (s1 - s1 / s0 * s0))]) (rest := []) ⟨hx, hb, hml, hown, hts⟩ (c_L_call l hlt D dT a_p1 g_p1_text g_p1_entryReader g_p1_world g_p1_copy g_p1_chosen g_p1_other g_p1_history g_p1_slots s5 s4 s3 (s2 + (s1 - s1 / s0 * s0)) o24 e24 _) (va_cwS 5 hts (TB_S w_599 w_600 w_32 w_601) rfl rfl rfl nd_L_call ⟨Nat.le_of_ble_eq_true rfl, Nat.le_of_ble_eq_true rfl⟩) (cPre.S hPc hDc hK hE hS hFc) rfl rfl hl.1 rfl (lv_room (Nat.le_of_ble_eq_true rfl)) dL_act_243 ⟨rLe (b := 25) (by omega), rLe (b := 150) (by omega)⟩) hPq hDq hS hFc (fun r24 u24 H locs hw hP hD hS => ?_)
    obtain ⟨rfl, rfl⟩ := hw
    have hP : va_P D vwCl (cSP a_p1 ++ (cT dT (a_p1 1) o24.2.1 ++ (cE dT (a_p1 2) o24.2.2.1 ++ (cW dT (a_p1 4) o24.2.2.2.1 ++ (cW dT (a_p1 5) o24.2.2.2.2.1 ++ (cP dT (a_p1 8) o24.2.2.2.2.2.1 ++ (cP dT (a_p1 9) o24.2.2.2.2.2.2.1 ++ (cH dT (a_p1 6) o24.2.2.2.2.2.2.2.1 ++ (cS dT (a_p1 7) o24.2.2.2.2.2.2.2.2))))))))) H := hP.perm (pw_31 (cSP a_p1) (cT dT (a_p1 1) o24.2.1) (cE dT (a_p1 2) o24.2.2.1) (cW dT (a_p1 4) o24.2.2.2.1) (cW dT (a_p1 5) o24.2.2.2.2.1) (cP dT (a_p1 8) o24.2.2.2.2.2.1) (cP dT (a_p1 9) o24.2.2.2.2.2.2.1) (cH dT (a_p1 6) o24.2.2.2.2.2.2.2.1) (cS dT (a_p1 7) o24.2.2.2.2.2.2.2.2))
    have hD : va_D A (cSP a_p1 ++ (cT dT (a_p1 1) o24.2.1 ++ (cE dT (a_p1 2) o24.2.2.1 ++ (cW dT (a_p1 4) o24.2.2.2.1 ++ (cW dT (a_p1 5) o24.2.2.2.2.1 ++ (cP dT (a_p1 8) o24.2.2.2.2.2.1 ++ (cP dT (a_p1 9) o24.2.2.2.2.2.2.1 ++ (cH dT (a_p1 6) o24.2.2.2.2.2.2.2.1 ++ (cS dT (a_p1 7) o24.2.2.2.2.2.2.2.2))))))))) := hD.perm (pw_31 (cSP a_p1) (cT dT (a_p1 1) o24.2.1) (cE dT (a_p1 2) o24.2.2.1) (cW dT (a_p1 4) o24.2.2.2.1) (cW dT (a_p1 5) o24.2.2.2.2.1) (cP dT (a_p1 8) o24.2.2.2.2.2.1) (cP dT (a_p1 9) o24.2.2.2.2.2.2.1) (cH dT (a_p1 6) o24.2.2.2.2.2.2.2.1) (cS dT (a_p1 7) o24.2.2.2.2.2.2.2.2))
    refine W.widen (k := 25) (n := 150) (by omega) (by omega) ?_
    exact rt_i hx hb hr hlk hK hS ((o24.2.1, o24.2.2.1, o24.2.2.2.1, o24.2.2.2.2.1, o24.2.2.2.2.2.1, o24.2.2.2.2.2.2.1, o24.2.2.2.2.2.2.2.1, o24.2.2.2.2.2.2.2.2) : TT × TE × TW × TW × TP × TP × TH × TS) (ret2 h) hP hD dL_act_246
  have L_f_L_act_J396 : ∀ (nc ns : Nat) (hnc : nc + 10 ≤ 25) (hns : ns + 60 ≤ 150)  (x2 : Int32) (s0 : Int32) (s1 : Int32) (s3 : Int32) (g_p1_text : TT) (g_p1_entryReader : TE) (g_p1_world : TW) (g_p1_copy : TW) (g_p1_chosen : TP) (g_p1_other : TP) (g_p1_history : TH) (g_p1_slots : TS)   (H : Heap) (locs : List Loc) (ls : Array Slot), f_L_act_J396   x2 s0 s1 s3 g_p1_text g_p1_entryReader g_p1_world g_p1_copy g_p1_chosen g_p1_other g_p1_history g_p1_slots = some o → va_P D vwCl (cSP a_p1 ++ (cT dT (a_p1 1) g_p1_text ++ (cE dT (a_p1 2) g_p1_entryReader ++ (cW dT (a_p1 4) g_p1_world ++ (cW dT (a_p1 5) g_p1_copy ++ (cP dT (a_p1 8) g_p1_chosen ++ (cP dT (a_p1 9) g_p1_other ++ (cH dT (a_p1 6) g_p1_history ++ (cS dT (a_p1 7) g_p1_slots))))))))) H → va_D A (cSP a_p1 ++ (cT dT (a_p1 1) g_p1_text ++ (cE dT (a_p1 2) g_p1_entryReader ++ (cW dT (a_p1 4) g_p1_world ++ (cW dT (a_p1 5) g_p1_copy ++ (cP dT (a_p1 8) g_p1_chosen ++ (cP dT (a_p1 9) g_p1_other ++ (cH dT (a_p1 6) g_p1_history ++ (cS dT (a_p1 7) g_p1_slots))))))))) → va_S A s.heap H locs → lv_has ls 6 [(0, .ref (a_p1 0 0)), (2, .int x2)] → W p l e (headSpec (WSm yL_act cL_act 6 (some .int)) { frames := 11, cells := 25, slots := 150, locals := 214 }).room s m [.ref (a_p1 0 0), .int v1, .int v2].toArray below meth c H locs nc ns (MQ below (va_Qi (fun (r : Int32) (u : TT × TE × TW × TW × TP × TP × TH × TS) => r = o.1 ∧ u = o.2) (fun u t => cAt D dT A (cSP a_p1 ++ (cT dT (a_p1 1) (u.1) ++ (cE dT (a_p1 2) (u.2.1) ++ (cW dT (a_p1 4) (u.2.2.1) ++ (cW dT (a_p1 5) (u.2.2.2.1) ++ (cP dT (a_p1 8) (u.2.2.2.2.1) ++ (cP dT (a_p1 9) (u.2.2.2.2.2.1) ++ (cH dT (a_p1 6) (u.2.2.2.2.2.2.1) ++ (cS dT (a_p1 7) (u.2.2.2.2.2.2.2)))))))))) t) A) [.ref (a_p1 0 0), .int v1, .int v2].toArray s 25 150 A) (F0 m 396 ls [.int s0, .int s1, .ref (a_p1 0 0), .int s3]) := by
    intro nc ns hnc hns  x2 s0 s1 s3 g_p1_text g_p1_entryReader g_p1_world g_p1_copy g_p1_chosen g_p1_other g_p1_history g_p1_slots   H locs ls h hP hD hS hl
    unfold f_L_act_J396 at h
    refine lv_iconst (v := 0) hx hb dL_act_396 (by decide) ?_
    refine lv_iconst (v := 0) hx hb dL_act_397 (by decide) ?_
    obtain ⟨o37, e37, h⟩ := obind h
    have hPq : va_P D vwCl ((cSP a_p1 ++ (cT dT (a_p1 1) g_p1_text ++ (cE dT (a_p1 2) g_p1_entryReader ++ (cW dT (a_p1 4) g_p1_world ++ (cW dT (a_p1 5) g_p1_copy ++ (cP dT (a_p1 8) g_p1_chosen ++ (cP dT (a_p1 9) g_p1_other ++ (cH dT (a_p1 6) g_p1_history ++ (cS dT (a_p1 7) g_p1_slots))))))))) ++ ([] : va_W)) _ := hP.perm (pw_30 (cSP a_p1) (cT dT (a_p1 1) g_p1_text) (cE dT (a_p1 2) g_p1_entryReader) (cW dT (a_p1 4) g_p1_world) (cW dT (a_p1 5) g_p1_copy) (cP dT (a_p1 8) g_p1_chosen) (cP dT (a_p1 9) g_p1_other) (cH dT (a_p1 6) g_p1_history) (cS dT (a_p1 7) g_p1_slots))
    have hDq : va_D A ((cSP a_p1 ++ (cT dT (a_p1 1) g_p1_text ++ (cE dT (a_p1 2) g_p1_entryReader ++ (cW dT (a_p1 4) g_p1_world ++ (cW dT (a_p1 5) g_p1_copy ++ (cP dT (a_p1 8) g_p1_chosen ++ (cP dT (a_p1 9) g_p1_other ++ (cH dT (a_p1 6) g_p1_history ++ (cS dT (a_p1 7) g_p1_slots))))))))) ++ ([] : va_W)) := hD.perm (pw_30 (cSP a_p1) (cT dT (a_p1 1) g_p1_text) (cE dT (a_p1 2) g_p1_entryReader) (cW dT (a_p1 4) g_p1_world) (cW dT (a_p1 5) g_p1_copy) (cP dT (a_p1 8) g_p1_chosen) (cP dT (a_p1 9) g_p1_other) (cH dT (a_p1 6) g_p1_history) (cS dT (a_p1 7) g_p1_slots))
    have hPc := hPq.left
    have hDc := hDq.left
    have hFc := va_freeL hDq hS hA
    refine cl_iL (wr := ([] : va_W)) (va_runS (As := [.ref (a_p1 0 0), .int s1, .int s0, .int (0 : Int32), .int (0 : Int32)]) (rest := [.int s3]) ⟨hx, hb, hml, hown, hts⟩ (c_L_call l hlt D dT a_p1 g_p1_text g_p1_entryReader g_p1_world g_p1_copy g_p1_chosen g_p1_other g_p1_history g_p1_slots s1 s0 (0 : Int32) (0 : Int32) o37 e37 _) (va_cwS 5 hts (TB_S w_599 w_600 w_32 w_601) rfl rfl rfl nd_L_call ⟨Nat.le_of_ble_eq_true rfl, Nat.le_of_ble_eq_true rfl⟩) (cPre.S hPc hDc hK hE hS hFc) rfl rfl hl.1 rfl (lv_room (Nat.le_of_ble_eq_true rfl)) dL_act_398 ⟨rLe (b := 25) (by omega), rLe (b := 150) (by omega)⟩) hPq hDq hS hFc (fun r37 u37 H locs hw hP hD hS => ?_)
    obtain ⟨rfl, rfl⟩ := hw
    have hP : va_P D vwCl (cSP a_p1 ++ (cT dT (a_p1 1) o37.2.1 ++ (cE dT (a_p1 2) o37.2.2.1 ++ (cW dT (a_p1 4) o37.2.2.2.1 ++ (cW dT (a_p1 5) o37.2.2.2.2.1 ++ (cP dT (a_p1 8) o37.2.2.2.2.2.1 ++ (cP dT (a_p1 9) o37.2.2.2.2.2.2.1 ++ (cH dT (a_p1 6) o37.2.2.2.2.2.2.2.1 ++ (cS dT (a_p1 7) o37.2.2.2.2.2.2.2.2))))))))) H := hP.perm (pw_31 (cSP a_p1) (cT dT (a_p1 1) o37.2.1) (cE dT (a_p1 2) o37.2.2.1) (cW dT (a_p1 4) o37.2.2.2.1) (cW dT (a_p1 5) o37.2.2.2.2.1) (cP dT (a_p1 8) o37.2.2.2.2.2.1) (cP dT (a_p1 9) o37.2.2.2.2.2.2.1) (cH dT (a_p1 6) o37.2.2.2.2.2.2.2.1) (cS dT (a_p1 7) o37.2.2.2.2.2.2.2.2))
    have hD : va_D A (cSP a_p1 ++ (cT dT (a_p1 1) o37.2.1 ++ (cE dT (a_p1 2) o37.2.2.1 ++ (cW dT (a_p1 4) o37.2.2.2.1 ++ (cW dT (a_p1 5) o37.2.2.2.2.1 ++ (cP dT (a_p1 8) o37.2.2.2.2.2.1 ++ (cP dT (a_p1 9) o37.2.2.2.2.2.2.1 ++ (cH dT (a_p1 6) o37.2.2.2.2.2.2.2.1 ++ (cS dT (a_p1 7) o37.2.2.2.2.2.2.2.2))))))))) := hD.perm (pw_31 (cSP a_p1) (cT dT (a_p1 1) o37.2.1) (cE dT (a_p1 2) o37.2.2.1) (cW dT (a_p1 4) o37.2.2.2.1) (cW dT (a_p1 5) o37.2.2.2.2.1) (cP dT (a_p1 8) o37.2.2.2.2.2.1) (cP dT (a_p1 9) o37.2.2.2.2.2.2.1) (cH dT (a_p1 6) o37.2.2.2.2.2.2.2.1) (cS dT (a_p1 7) o37.2.2.2.2.2.2.2.2))
    refine lv_iadd hx hb dL_act_401 ?_
    refine lv_iload_n hx hb dL_act_402 rfl (lv_at hl 1 rfl) ?_
    refine lv_bipush (v := 64) hx hb dL_act_403 (by decide) ?_
    refine lv_irem hx hb dL_act_405 (by decide) ?_
    refine lv_if_ne (tgt := 420) hx hb dL_act_406 (by decide) (fun c38 => ?_) (fun c38 => ?_)
    · replace h := iteF c38 h
      refine lv_iconst (v := 0) hx hb dL_act_420 (by decide) ?_
      refine lv_iadd hx hb dL_act_421 ?_
      refine W.widen (k := 25) (n := 150) (by omega) (by omega) ?_
      exact rt_i hx hb hr hlk hK hS ((o37.2.1, o37.2.2.1, o37.2.2.2.1, o37.2.2.2.2.1, o37.2.2.2.2.2.1, o37.2.2.2.2.2.2.1, o37.2.2.2.2.2.2.2.1, o37.2.2.2.2.2.2.2.2) : TT × TE × TW × TW × TP × TP × TH × TS) (ret2 h) hP hD dL_act_422
    · replace h := iteT c38 h
      refine lv_aload_n hx hb dL_act_409 rfl (lv_at hl 0 rfl) ?_
      refine lv_iconst (v := 1) hx hb dL_act_410 (by decide) ?_
      refine lv_iconst (v := 0) hx hb dL_act_411 (by decide) ?_
      refine lv_iconst (v := 0) hx hb dL_act_412 (by decide) ?_
      refine lv_iconst (v := 0) hx hb dL_act_413 (by decide) ?_
      obtain ⟨o39, e39, h⟩ := obind h
      have hPq : va_P D vwCl ((cSP a_p1 ++ (cT dT (a_p1 1) o37.2.1 ++ (cE dT (a_p1 2) o37.2.2.1 ++ (cW dT (a_p1 4) o37.2.2.2.1 ++ (cW dT (a_p1 5) o37.2.2.2.2.1 ++ (cP dT (a_p1 8) o37.2.2.2.2.2.1 ++ (cP dT (a_p1 9) o37.2.2.2.2.2.2.1 ++ (cH dT (a_p1 6) o37.2.2.2.2.2.2.2.1 ++ (cS dT (a_p1 7) o37.2.2.2.2.2.2.2.2))))))))) ++ ([] : va_W)) _ := hP.perm (pw_30 (cSP a_p1) (cT dT (a_p1 1) o37.2.1) (cE dT (a_p1 2) o37.2.2.1) (cW dT (a_p1 4) o37.2.2.2.1) (cW dT (a_p1 5) o37.2.2.2.2.1) (cP dT (a_p1 8) o37.2.2.2.2.2.1) (cP dT (a_p1 9) o37.2.2.2.2.2.2.1) (cH dT (a_p1 6) o37.2.2.2.2.2.2.2.1) (cS dT (a_p1 7) o37.2.2.2.2.2.2.2.2))
      have hDq : va_D A ((cSP a_p1 ++ (cT dT (a_p1 1) o37.2.1 ++ (cE dT (a_p1 2) o37.2.2.1 ++ (cW dT (a_p1 4) o37.2.2.2.1 ++ (cW dT (a_p1 5) o37.2.2.2.2.1 ++ (cP dT (a_p1 8) o37.2.2.2.2.2.1 ++ (cP dT (a_p1 9) o37.2.2.2.2.2.2.1 ++ (cH dT (a_p1 6) o37.2.2.2.2.2.2.2.1 ++ (cS dT (a_p1 7) o37.2.2.2.2.2.2.2.2))))))))) ++ ([] : va_W)) := hD.perm (pw_30 (cSP a_p1) (cT dT (a_p1 1) o37.2.1) (cE dT (a_p1 2) o37.2.2.1) (cW dT (a_p1 4) o37.2.2.2.1) (cW dT (a_p1 5) o37.2.2.2.2.1) (cP dT (a_p1 8) o37.2.2.2.2.2.1) (cP dT (a_p1 9) o37.2.2.2.2.2.2.1) (cH dT (a_p1 6) o37.2.2.2.2.2.2.2.1) (cS dT (a_p1 7) o37.2.2.2.2.2.2.2.2))
      have hPc := hPq.left
      have hDc := hDq.left
      have hFc := va_freeL hDq hS hA
      refine cl_iL (wr := ([] : va_W)) (va_runS (As := [.ref (a_p1 0 0), .int (1 : Int32), .int (0 : Int32), .int (0 : Int32), .int (0 : Int32)]) (rest := [.int (s3 + o37.1)]) ⟨hx, hb, hml, hown, hts⟩ (c_L_call l hlt D dT a_p1 o37.2.1 o37.2.2.1 o37.2.2.2.1 o37.2.2.2.2.1 o37.2.2.2.2.2.1 o37.2.2.2.2.2.2.1 o37.2.2.2.2.2.2.2.1 o37.2.2.2.2.2.2.2.2 (1 : Int32) (0 : Int32) (0 : Int32) (0 : Int32) o39 e39 _) (va_cwS 5 hts (TB_S w_599 w_600 w_32 w_601) rfl rfl rfl nd_L_call ⟨Nat.le_of_ble_eq_true rfl, Nat.le_of_ble_eq_true rfl⟩) (cPre.S hPc hDc hK hE hS hFc) rfl rfl hl.1 rfl (lv_room (Nat.le_of_ble_eq_true rfl)) dL_act_414 ⟨rLe (b := 25) (by omega), rLe (b := 150) (by omega)⟩) hPq hDq hS hFc (fun r39 u39 H locs hw hP hD hS => ?_)
      obtain ⟨rfl, rfl⟩ := hw
      have hP : va_P D vwCl (cSP a_p1 ++ (cT dT (a_p1 1) o39.2.1 ++ (cE dT (a_p1 2) o39.2.2.1 ++ (cW dT (a_p1 4) o39.2.2.2.1 ++ (cW dT (a_p1 5) o39.2.2.2.2.1 ++ (cP dT (a_p1 8) o39.2.2.2.2.2.1 ++ (cP dT (a_p1 9) o39.2.2.2.2.2.2.1 ++ (cH dT (a_p1 6) o39.2.2.2.2.2.2.2.1 ++ (cS dT (a_p1 7) o39.2.2.2.2.2.2.2.2))))))))) H := hP.perm (pw_31 (cSP a_p1) (cT dT (a_p1 1) o39.2.1) (cE dT (a_p1 2) o39.2.2.1) (cW dT (a_p1 4) o39.2.2.2.1) (cW dT (a_p1 5) o39.2.2.2.2.1) (cP dT (a_p1 8) o39.2.2.2.2.2.1) (cP dT (a_p1 9) o39.2.2.2.2.2.2.1) (cH dT (a_p1 6) o39.2.2.2.2.2.2.2.1) (cS dT (a_p1 7) o39.2.2.2.2.2.2.2.2))
      have hD : va_D A (cSP a_p1 ++ (cT dT (a_p1 1) o39.2.1 ++ (cE dT (a_p1 2) o39.2.2.1 ++ (cW dT (a_p1 4) o39.2.2.2.1 ++ (cW dT (a_p1 5) o39.2.2.2.2.1 ++ (cP dT (a_p1 8) o39.2.2.2.2.2.1 ++ (cP dT (a_p1 9) o39.2.2.2.2.2.2.1 ++ (cH dT (a_p1 6) o39.2.2.2.2.2.2.2.1 ++ (cS dT (a_p1 7) o39.2.2.2.2.2.2.2.2))))))))) := hD.perm (pw_31 (cSP a_p1) (cT dT (a_p1 1) o39.2.1) (cE dT (a_p1 2) o39.2.2.1) (cW dT (a_p1 4) o39.2.2.2.1) (cW dT (a_p1 5) o39.2.2.2.2.1) (cP dT (a_p1 8) o39.2.2.2.2.2.1) (cP dT (a_p1 9) o39.2.2.2.2.2.2.1) (cH dT (a_p1 6) o39.2.2.2.2.2.2.2.1) (cS dT (a_p1 7) o39.2.2.2.2.2.2.2.2))
      refine lv_goto (tgt := 421) hx hb dL_act_417 (by decide) ?_
      refine lv_iadd hx hb dL_act_421 ?_
      refine W.widen (k := 25) (n := 150) (by omega) (by omega) ?_
      exact rt_i hx hb hr hlk hK hS ((o39.2.1, o39.2.2.1, o39.2.2.2.1, o39.2.2.2.2.1, o39.2.2.2.2.2.1, o39.2.2.2.2.2.2.1, o39.2.2.2.2.2.2.2.1, o39.2.2.2.2.2.2.2.2) : TT × TE × TW × TW × TP × TP × TH × TS) (ret2 h) hP hD dL_act_422
  have L_f_L_act_J366 : ∀ (nc ns : Nat) (hnc : nc + 15 ≤ 25) (hns : ns + 90 ≤ 150)  (x2 : Int32) (s0 : Int32) (s1 : Int32) (s3 : Int32) (g_p1_text : TT) (g_p1_entryReader : TE) (g_p1_world : TW) (g_p1_copy : TW) (g_p1_chosen : TP) (g_p1_other : TP) (g_p1_history : TH) (g_p1_slots : TS)   (H : Heap) (locs : List Loc) (ls : Array Slot), f_L_act_J366   x2 s0 s1 s3 g_p1_text g_p1_entryReader g_p1_world g_p1_copy g_p1_chosen g_p1_other g_p1_history g_p1_slots = some o → va_P D vwCl (cSP a_p1 ++ (cT dT (a_p1 1) g_p1_text ++ (cE dT (a_p1 2) g_p1_entryReader ++ (cW dT (a_p1 4) g_p1_world ++ (cW dT (a_p1 5) g_p1_copy ++ (cP dT (a_p1 8) g_p1_chosen ++ (cP dT (a_p1 9) g_p1_other ++ (cH dT (a_p1 6) g_p1_history ++ (cS dT (a_p1 7) g_p1_slots))))))))) H → va_D A (cSP a_p1 ++ (cT dT (a_p1 1) g_p1_text ++ (cE dT (a_p1 2) g_p1_entryReader ++ (cW dT (a_p1 4) g_p1_world ++ (cW dT (a_p1 5) g_p1_copy ++ (cP dT (a_p1 8) g_p1_chosen ++ (cP dT (a_p1 9) g_p1_other ++ (cH dT (a_p1 6) g_p1_history ++ (cS dT (a_p1 7) g_p1_slots))))))))) → va_S A s.heap H locs → lv_has ls 6 [(0, .ref (a_p1 0 0)), (2, .int x2)] → W p l e (headSpec (WSm yL_act cL_act 6 (some .int)) { frames := 11, cells := 25, slots := 150, locals := 214 }).room s m [.ref (a_p1 0 0), .int v1, .int v2].toArray below meth c H locs nc ns (MQ below (va_Qi (fun (r : Int32) (u : TT × TE × TW × TW × TP × TP × TH × TS) => r = o.1 ∧ u = o.2) (fun u t => cAt D dT A (cSP a_p1 ++ (cT dT (a_p1 1) (u.1) ++ (cE dT (a_p1 2) (u.2.1) ++ (cW dT (a_p1 4) (u.2.2.1) ++ (cW dT (a_p1 5) (u.2.2.2.1) ++ (cP dT (a_p1 8) (u.2.2.2.2.1) ++ (cP dT (a_p1 9) (u.2.2.2.2.2.1) ++ (cH dT (a_p1 6) (u.2.2.2.2.2.2.1) ++ (cS dT (a_p1 7) (u.2.2.2.2.2.2.2)))))))))) t) A) [.ref (a_p1 0 0), .int v1, .int v2].toArray s 25 150 A) (F0 m 366 ls [.int s0, .int s1, .ref (a_p1 0 0), .int s3]) := by
    intro nc ns hnc hns  x2 s0 s1 s3 g_p1_text g_p1_entryReader g_p1_world g_p1_copy g_p1_chosen g_p1_other g_p1_history g_p1_slots   H locs ls h hP hD hS hl
    unfold f_L_act_J366 at h
    refine lv_iconst (v := 0) hx hb dL_act_366 (by decide) ?_
    refine lv_iconst (v := 0) hx hb dL_act_367 (by decide) ?_
    obtain ⟨o35, e35, h⟩ := obind h
    have hPq : va_P D vwCl ((cSP a_p1 ++ (cT dT (a_p1 1) g_p1_text ++ (cE dT (a_p1 2) g_p1_entryReader ++ (cW dT (a_p1 4) g_p1_world ++ (cW dT (a_p1 5) g_p1_copy ++ (cP dT (a_p1 8) g_p1_chosen ++ (cP dT (a_p1 9) g_p1_other ++ (cH dT (a_p1 6) g_p1_history ++ (cS dT (a_p1 7) g_p1_slots))))))))) ++ ([] : va_W)) _ := hP.perm (pw_30 (cSP a_p1) (cT dT (a_p1 1) g_p1_text) (cE dT (a_p1 2) g_p1_entryReader) (cW dT (a_p1 4) g_p1_world) (cW dT (a_p1 5) g_p1_copy) (cP dT (a_p1 8) g_p1_chosen) (cP dT (a_p1 9) g_p1_other) (cH dT (a_p1 6) g_p1_history) (cS dT (a_p1 7) g_p1_slots))
    have hDq : va_D A ((cSP a_p1 ++ (cT dT (a_p1 1) g_p1_text ++ (cE dT (a_p1 2) g_p1_entryReader ++ (cW dT (a_p1 4) g_p1_world ++ (cW dT (a_p1 5) g_p1_copy ++ (cP dT (a_p1 8) g_p1_chosen ++ (cP dT (a_p1 9) g_p1_other ++ (cH dT (a_p1 6) g_p1_history ++ (cS dT (a_p1 7) g_p1_slots))))))))) ++ ([] : va_W)) := hD.perm (pw_30 (cSP a_p1) (cT dT (a_p1 1) g_p1_text) (cE dT (a_p1 2) g_p1_entryReader) (cW dT (a_p1 4) g_p1_world) (cW dT (a_p1 5) g_p1_copy) (cP dT (a_p1 8) g_p1_chosen) (cP dT (a_p1 9) g_p1_other) (cH dT (a_p1 6) g_p1_history) (cS dT (a_p1 7) g_p1_slots))
    have hPc := hPq.left
    have hDc := hDq.left
    have hFc := va_freeL hDq hS hA
    refine cl_iL (wr := ([] : va_W)) (va_runS (As := [.ref (a_p1 0 0), .int s1, .int s0, .int (0 : Int32), .int (0 : Int32)]) (rest := [.int s3]) ⟨hx, hb, hml, hown, hts⟩ (c_L_call l hlt D dT a_p1 g_p1_text g_p1_entryReader g_p1_world g_p1_copy g_p1_chosen g_p1_other g_p1_history g_p1_slots s1 s0 (0 : Int32) (0 : Int32) o35 e35 _) (va_cwS 5 hts (TB_S w_599 w_600 w_32 w_601) rfl rfl rfl nd_L_call ⟨Nat.le_of_ble_eq_true rfl, Nat.le_of_ble_eq_true rfl⟩) (cPre.S hPc hDc hK hE hS hFc) rfl rfl hl.1 rfl (lv_room (Nat.le_of_ble_eq_true rfl)) dL_act_368 ⟨rLe (b := 25) (by omega), rLe (b := 150) (by omega)⟩) hPq hDq hS hFc (fun r35 u35 H locs hw hP hD hS => ?_)
    obtain ⟨rfl, rfl⟩ := hw
    have hP : va_P D vwCl (cSP a_p1 ++ (cT dT (a_p1 1) o35.2.1 ++ (cE dT (a_p1 2) o35.2.2.1 ++ (cW dT (a_p1 4) o35.2.2.2.1 ++ (cW dT (a_p1 5) o35.2.2.2.2.1 ++ (cP dT (a_p1 8) o35.2.2.2.2.2.1 ++ (cP dT (a_p1 9) o35.2.2.2.2.2.2.1 ++ (cH dT (a_p1 6) o35.2.2.2.2.2.2.2.1 ++ (cS dT (a_p1 7) o35.2.2.2.2.2.2.2.2))))))))) H := hP.perm (pw_31 (cSP a_p1) (cT dT (a_p1 1) o35.2.1) (cE dT (a_p1 2) o35.2.2.1) (cW dT (a_p1 4) o35.2.2.2.1) (cW dT (a_p1 5) o35.2.2.2.2.1) (cP dT (a_p1 8) o35.2.2.2.2.2.1) (cP dT (a_p1 9) o35.2.2.2.2.2.2.1) (cH dT (a_p1 6) o35.2.2.2.2.2.2.2.1) (cS dT (a_p1 7) o35.2.2.2.2.2.2.2.2))
    have hD : va_D A (cSP a_p1 ++ (cT dT (a_p1 1) o35.2.1 ++ (cE dT (a_p1 2) o35.2.2.1 ++ (cW dT (a_p1 4) o35.2.2.2.1 ++ (cW dT (a_p1 5) o35.2.2.2.2.1 ++ (cP dT (a_p1 8) o35.2.2.2.2.2.1 ++ (cP dT (a_p1 9) o35.2.2.2.2.2.2.1 ++ (cH dT (a_p1 6) o35.2.2.2.2.2.2.2.1 ++ (cS dT (a_p1 7) o35.2.2.2.2.2.2.2.2))))))))) := hD.perm (pw_31 (cSP a_p1) (cT dT (a_p1 1) o35.2.1) (cE dT (a_p1 2) o35.2.2.1) (cW dT (a_p1 4) o35.2.2.2.1) (cW dT (a_p1 5) o35.2.2.2.2.1) (cP dT (a_p1 8) o35.2.2.2.2.2.1) (cP dT (a_p1 9) o35.2.2.2.2.2.2.1) (cH dT (a_p1 6) o35.2.2.2.2.2.2.2.1) (cS dT (a_p1 7) o35.2.2.2.2.2.2.2.2))
    refine lv_iadd hx hb dL_act_371 ?_
    refine lv_aload_n hx hb dL_act_372 rfl (lv_at hl 0 rfl) ?_
    refine lv_iconst (v := 0) hx hb dL_act_373 (by decide) ?_
    refine lv_iload_n hx hb dL_act_374 rfl (lv_at hl 1 rfl) ?_
    refine lv_bipush (v := 8) hx hb dL_act_375 (by decide) ?_
    refine lv_irem hx hb dL_act_377 (by decide) ?_
    refine lv_if_ne (tgt := 386) hx hb dL_act_378 (by decide) (fun c36 => ?_) (fun c36 => ?_)
    · replace h := iteF c36 h
      refine lv_bipush (v := 48) hx hb dL_act_386 (by decide) ?_
      refine lv_iload_n hx hb dL_act_388 rfl (lv_at hl 1 rfl) ?_
      refine lv_bipush (v := 8) hx hb dL_act_389 (by decide) ?_
      refine lv_idiv hx hb dL_act_391 (by decide) ?_
      refine lv_bipush (v := 7) hx hb dL_act_392 (by decide) ?_
      refine lv_irem hx hb dL_act_394 (by decide) ?_
      refine lv_iadd hx hb dL_act_395 ?_
      refine L_f_L_act_J396 _ _ (by omega) (by omega)  x2 ((48 : Int32) + ((x2 / (8 : Int32)) - (x2 / (8 : Int32)) / (7 : Int32) * (7 : Int32))) (0 : Int32) (s3 + o35.1) o35.2.1 o35.2.2.1 o35.2.2.2.1 o35.2.2.2.2.1 o35.2.2.2.2.2.1 o35.2.2.2.2.2.2.1 o35.2.2.2.2.2.2.2.1 o35.2.2.2.2.2.2.2.2   _ _ _ h hP hD hS (lv_sub hl [0, 1] rfl)
    · replace h := iteT c36 h
      refine lv_bipush (v := 59) hx hb dL_act_381 (by decide) ?_
      refine lv_goto (tgt := 396) hx hb dL_act_383 (by decide) ?_
      refine L_f_L_act_J396 _ _ (by omega) (by omega)  x2 (59 : Int32) (0 : Int32) (s3 + o35.1) o35.2.1 o35.2.2.1 o35.2.2.2.1 o35.2.2.2.2.1 o35.2.2.2.2.2.1 o35.2.2.2.2.2.2.1 o35.2.2.2.2.2.2.2.1 o35.2.2.2.2.2.2.2.2   _ _ _ h hP hD hS (lv_sub hl [0, 1] rfl)
  have L_f_L_act_J339 : ∀ (nc ns : Nat) (hnc : nc + 20 ≤ 25) (hns : ns + 120 ≤ 150)  (x2 : Int32) (s0 : Int32) (s1 : Int32) (g_p1_text : TT) (g_p1_entryReader : TE) (g_p1_world : TW) (g_p1_copy : TW) (g_p1_chosen : TP) (g_p1_other : TP) (g_p1_history : TH) (g_p1_slots : TS)   (H : Heap) (locs : List Loc) (ls : Array Slot), f_L_act_J339   x2 s0 s1 g_p1_text g_p1_entryReader g_p1_world g_p1_copy g_p1_chosen g_p1_other g_p1_history g_p1_slots = some o → va_P D vwCl (cSP a_p1 ++ (cT dT (a_p1 1) g_p1_text ++ (cE dT (a_p1 2) g_p1_entryReader ++ (cW dT (a_p1 4) g_p1_world ++ (cW dT (a_p1 5) g_p1_copy ++ (cP dT (a_p1 8) g_p1_chosen ++ (cP dT (a_p1 9) g_p1_other ++ (cH dT (a_p1 6) g_p1_history ++ (cS dT (a_p1 7) g_p1_slots))))))))) H → va_D A (cSP a_p1 ++ (cT dT (a_p1 1) g_p1_text ++ (cE dT (a_p1 2) g_p1_entryReader ++ (cW dT (a_p1 4) g_p1_world ++ (cW dT (a_p1 5) g_p1_copy ++ (cP dT (a_p1 8) g_p1_chosen ++ (cP dT (a_p1 9) g_p1_other ++ (cH dT (a_p1 6) g_p1_history ++ (cS dT (a_p1 7) g_p1_slots))))))))) → va_S A s.heap H locs → lv_has ls 6 [(0, .ref (a_p1 0 0)), (2, .int x2)] → W p l e (headSpec (WSm yL_act cL_act 6 (some .int)) { frames := 11, cells := 25, slots := 150, locals := 214 }).room s m [.ref (a_p1 0 0), .int v1, .int v2].toArray below meth c H locs nc ns (MQ below (va_Qi (fun (r : Int32) (u : TT × TE × TW × TW × TP × TP × TH × TS) => r = o.1 ∧ u = o.2) (fun u t => cAt D dT A (cSP a_p1 ++ (cT dT (a_p1 1) (u.1) ++ (cE dT (a_p1 2) (u.2.1) ++ (cW dT (a_p1 4) (u.2.2.1) ++ (cW dT (a_p1 5) (u.2.2.2.1) ++ (cP dT (a_p1 8) (u.2.2.2.2.1) ++ (cP dT (a_p1 9) (u.2.2.2.2.2.1) ++ (cH dT (a_p1 6) (u.2.2.2.2.2.2.1) ++ (cS dT (a_p1 7) (u.2.2.2.2.2.2.2)))))))))) t) A) [.ref (a_p1 0 0), .int v1, .int v2].toArray s 25 150 A) (F0 m 339 ls [.int s0, .int s1, .ref (a_p1 0 0)]) := by
    intro nc ns hnc hns  x2 s0 s1 g_p1_text g_p1_entryReader g_p1_world g_p1_copy g_p1_chosen g_p1_other g_p1_history g_p1_slots   H locs ls h hP hD hS hl
    unfold f_L_act_J339 at h
    refine lv_iconst (v := 0) hx hb dL_act_339 (by decide) ?_
    refine lv_iconst (v := 0) hx hb dL_act_340 (by decide) ?_
    obtain ⟨o33, e33, h⟩ := obind h
    have hPq : va_P D vwCl ((cSP a_p1 ++ (cT dT (a_p1 1) g_p1_text ++ (cE dT (a_p1 2) g_p1_entryReader ++ (cW dT (a_p1 4) g_p1_world ++ (cW dT (a_p1 5) g_p1_copy ++ (cP dT (a_p1 8) g_p1_chosen ++ (cP dT (a_p1 9) g_p1_other ++ (cH dT (a_p1 6) g_p1_history ++ (cS dT (a_p1 7) g_p1_slots))))))))) ++ ([] : va_W)) _ := hP.perm (pw_30 (cSP a_p1) (cT dT (a_p1 1) g_p1_text) (cE dT (a_p1 2) g_p1_entryReader) (cW dT (a_p1 4) g_p1_world) (cW dT (a_p1 5) g_p1_copy) (cP dT (a_p1 8) g_p1_chosen) (cP dT (a_p1 9) g_p1_other) (cH dT (a_p1 6) g_p1_history) (cS dT (a_p1 7) g_p1_slots))
    have hDq : va_D A ((cSP a_p1 ++ (cT dT (a_p1 1) g_p1_text ++ (cE dT (a_p1 2) g_p1_entryReader ++ (cW dT (a_p1 4) g_p1_world ++ (cW dT (a_p1 5) g_p1_copy ++ (cP dT (a_p1 8) g_p1_chosen ++ (cP dT (a_p1 9) g_p1_other ++ (cH dT (a_p1 6) g_p1_history ++ (cS dT (a_p1 7) g_p1_slots))))))))) ++ ([] : va_W)) := hD.perm (pw_30 (cSP a_p1) (cT dT (a_p1 1) g_p1_text) (cE dT (a_p1 2) g_p1_entryReader) (cW dT (a_p1 4) g_p1_world) (cW dT (a_p1 5) g_p1_copy) (cP dT (a_p1 8) g_p1_chosen) (cP dT (a_p1 9) g_p1_other) (cH dT (a_p1 6) g_p1_history) (cS dT (a_p1 7) g_p1_slots))
    have hPc := hPq.left
    have hDc := hDq.left
    have hFc := va_freeL hDq hS hA
    refine cl_iL (wr := ([] : va_W)) (va_runS (As := [.ref (a_p1 0 0), .int s1, .int s0, .int (0 : Int32), .int (0 : Int32)]) (rest := []) ⟨hx, hb, hml, hown, hts⟩ (c_L_call l hlt D dT a_p1 g_p1_text g_p1_entryReader g_p1_world g_p1_copy g_p1_chosen g_p1_other g_p1_history g_p1_slots s1 s0 (0 : Int32) (0 : Int32) o33 e33 _) (va_cwS 5 hts (TB_S w_599 w_600 w_32 w_601) rfl rfl rfl nd_L_call ⟨Nat.le_of_ble_eq_true rfl, Nat.le_of_ble_eq_true rfl⟩) (cPre.S hPc hDc hK hE hS hFc) rfl rfl hl.1 rfl (lv_room (Nat.le_of_ble_eq_true rfl)) dL_act_341 ⟨rLe (b := 25) (by omega), rLe (b := 150) (by omega)⟩) hPq hDq hS hFc (fun r33 u33 H locs hw hP hD hS => ?_)
    obtain ⟨rfl, rfl⟩ := hw
    have hP : va_P D vwCl (cSP a_p1 ++ (cT dT (a_p1 1) o33.2.1 ++ (cE dT (a_p1 2) o33.2.2.1 ++ (cW dT (a_p1 4) o33.2.2.2.1 ++ (cW dT (a_p1 5) o33.2.2.2.2.1 ++ (cP dT (a_p1 8) o33.2.2.2.2.2.1 ++ (cP dT (a_p1 9) o33.2.2.2.2.2.2.1 ++ (cH dT (a_p1 6) o33.2.2.2.2.2.2.2.1 ++ (cS dT (a_p1 7) o33.2.2.2.2.2.2.2.2))))))))) H := hP.perm (pw_31 (cSP a_p1) (cT dT (a_p1 1) o33.2.1) (cE dT (a_p1 2) o33.2.2.1) (cW dT (a_p1 4) o33.2.2.2.1) (cW dT (a_p1 5) o33.2.2.2.2.1) (cP dT (a_p1 8) o33.2.2.2.2.2.1) (cP dT (a_p1 9) o33.2.2.2.2.2.2.1) (cH dT (a_p1 6) o33.2.2.2.2.2.2.2.1) (cS dT (a_p1 7) o33.2.2.2.2.2.2.2.2))
    have hD : va_D A (cSP a_p1 ++ (cT dT (a_p1 1) o33.2.1 ++ (cE dT (a_p1 2) o33.2.2.1 ++ (cW dT (a_p1 4) o33.2.2.2.1 ++ (cW dT (a_p1 5) o33.2.2.2.2.1 ++ (cP dT (a_p1 8) o33.2.2.2.2.2.1 ++ (cP dT (a_p1 9) o33.2.2.2.2.2.2.1 ++ (cH dT (a_p1 6) o33.2.2.2.2.2.2.2.1 ++ (cS dT (a_p1 7) o33.2.2.2.2.2.2.2.2))))))))) := hD.perm (pw_31 (cSP a_p1) (cT dT (a_p1 1) o33.2.1) (cE dT (a_p1 2) o33.2.2.1) (cW dT (a_p1 4) o33.2.2.2.1) (cW dT (a_p1 5) o33.2.2.2.2.1) (cP dT (a_p1 8) o33.2.2.2.2.2.1) (cP dT (a_p1 9) o33.2.2.2.2.2.2.1) (cH dT (a_p1 6) o33.2.2.2.2.2.2.2.1) (cS dT (a_p1 7) o33.2.2.2.2.2.2.2.2))
    refine lv_aload_n hx hb dL_act_344 rfl (lv_at hl 0 rfl) ?_
    refine lv_iconst (v := 0) hx hb dL_act_345 (by decide) ?_
    refine lv_iload_n hx hb dL_act_346 rfl (lv_at hl 1 rfl) ?_
    refine lv_iconst (v := 4) hx hb dL_act_347 (by decide) ?_
    refine lv_irem hx hb dL_act_348 (by decide) ?_
    refine lv_if_ne (tgt := 364) hx hb dL_act_349 (by decide) (fun c34 => ?_) (fun c34 => ?_)
    · replace h := iteF c34 h
      refine lv_bipush (v := 62) hx hb dL_act_364 (by decide) ?_
      refine L_f_L_act_J366 _ _ (by omega) (by omega)  x2 (62 : Int32) (0 : Int32) o33.1 o33.2.1 o33.2.2.1 o33.2.2.2.1 o33.2.2.2.2.1 o33.2.2.2.2.2.1 o33.2.2.2.2.2.2.1 o33.2.2.2.2.2.2.2.1 o33.2.2.2.2.2.2.2.2   _ _ _ h hP hD hS (lv_sub hl [0, 1] rfl)
    · replace h := iteT c34 h
      refine lv_bipush (v := 49) hx hb dL_act_352 (by decide) ?_
      refine lv_iload_n hx hb dL_act_354 rfl (lv_at hl 1 rfl) ?_
      refine lv_iconst (v := 4) hx hb dL_act_355 (by decide) ?_
      refine lv_idiv hx hb dL_act_356 (by decide) ?_
      refine lv_bipush (v := 9) hx hb dL_act_357 (by decide) ?_
      refine lv_irem hx hb dL_act_359 (by decide) ?_
      refine lv_iadd hx hb dL_act_360 ?_
      refine lv_goto (tgt := 366) hx hb dL_act_361 (by decide) ?_
      refine L_f_L_act_J366 _ _ (by omega) (by omega)  x2 ((49 : Int32) + ((x2 / (4 : Int32)) - (x2 / (4 : Int32)) / (9 : Int32) * (9 : Int32))) (0 : Int32) o33.1 o33.2.1 o33.2.2.1 o33.2.2.2.1 o33.2.2.2.2.1 o33.2.2.2.2.2.1 o33.2.2.2.2.2.2.1 o33.2.2.2.2.2.2.2.1 o33.2.2.2.2.2.2.2.2   _ _ _ h hP hD hS (lv_sub hl [0, 1] rfl)
  have L_f_L_act_J36 : ∀ (nc ns : Nat) (hnc : nc + 20 ≤ 25) (hns : ns + 120 ≤ 150)  (x1 : Int32) (x2 : Int32) (x3 : Int32) (x4 : Int32) (s0 : Int32) (g_p1_text : TT) (g_p1_entryReader : TE) (g_p1_world : TW) (g_p1_copy : TW) (g_p1_chosen : TP) (g_p1_other : TP) (g_p1_history : TH) (g_p1_slots : TS)   (H : Heap) (locs : List Loc) (ls : Array Slot), f_L_act_J36   x1 x2 x3 x4 s0 g_p1_text g_p1_entryReader g_p1_world g_p1_copy g_p1_chosen g_p1_other g_p1_history g_p1_slots = some o → va_P D vwCl (cSP a_p1 ++ (cT dT (a_p1 1) g_p1_text ++ (cE dT (a_p1 2) g_p1_entryReader ++ (cW dT (a_p1 4) g_p1_world ++ (cW dT (a_p1 5) g_p1_copy ++ (cP dT (a_p1 8) g_p1_chosen ++ (cP dT (a_p1 9) g_p1_other ++ (cH dT (a_p1 6) g_p1_history ++ (cS dT (a_p1 7) g_p1_slots))))))))) H → va_D A (cSP a_p1 ++ (cT dT (a_p1 1) g_p1_text ++ (cE dT (a_p1 2) g_p1_entryReader ++ (cW dT (a_p1 4) g_p1_world ++ (cW dT (a_p1 5) g_p1_copy ++ (cP dT (a_p1 8) g_p1_chosen ++ (cP dT (a_p1 9) g_p1_other ++ (cH dT (a_p1 6) g_p1_history ++ (cS dT (a_p1 7) g_p1_slots))))))))) → va_S A s.heap H locs → lv_has ls 6 [(0, .ref (a_p1 0 0)), (1, .int x1), (2, .int x2), (3, .int x3), (4, .int x4)] → W p l e (headSpec (WSm yL_act cL_act 6 (some .int)) { frames := 11, cells := 25, slots := 150, locals := 214 }).room s m [.ref (a_p1 0 0), .int v1, .int v2].toArray below meth c H locs nc ns (MQ below (va_Qi (fun (r : Int32) (u : TT × TE × TW × TW × TP × TP × TH × TS) => r = o.1 ∧ u = o.2) (fun u t => cAt D dT A (cSP a_p1 ++ (cT dT (a_p1 1) (u.1) ++ (cE dT (a_p1 2) (u.2.1) ++ (cW dT (a_p1 4) (u.2.2.1) ++ (cW dT (a_p1 5) (u.2.2.2.1) ++ (cP dT (a_p1 8) (u.2.2.2.2.1) ++ (cP dT (a_p1 9) (u.2.2.2.2.2.1) ++ (cH dT (a_p1 6) (u.2.2.2.2.2.2.1) ++ (cS dT (a_p1 7) (u.2.2.2.2.2.2.2)))))))))) t) A) [.ref (a_p1 0 0), .int v1, .int v2].toArray s 25 150 A) (F0 m 36 ls [.int s0]) := by
    intro nc ns hnc hns  x1 x2 x3 x4 s0 g_p1_text g_p1_entryReader g_p1_world g_p1_copy g_p1_chosen g_p1_other g_p1_history g_p1_slots   H locs ls h hP hD hS hl
    unfold f_L_act_J36 at h
    refine lv_istore (lv' := [(5, .int s0), (0, .ref (a_p1 0 0)), (1, .int x1), (2, .int x2), (3, .int x3), (4, .int x4)]) hx hb dL_act_36 hl (by decide) rfl (fun ls hl => ?_)
    refine lv_iload_n hx hb dL_act_38 rfl (lv_at hl 2 rfl) ?_
    refine lv_bipush (v := 16) hx hb dL_act_39 (by decide) ?_
    refine lv_irem hx hb dL_act_41 (by decide) ?_
    by_cases c6_0 : (x1 - x1 / (16 : Int32) * (16 : Int32)) = (0 : Int32)
    · replace h := iteT c6_0 h
      refine lv_tableIn (off := (66)) (tgt := 108) hx hb dL_act_42 (by rw [c6_0]; decide) (by rw [c6_0]; decide) (by rw [c6_0]; rfl) (by decide) ?_
      refine lv_iload_n hx hb dL_act_108 rfl (lv_at hl 4 rfl) ?_
      refine lv_iconst (v := 4) hx hb dL_act_109 (by decide) ?_
      refine lv_icmp_le (tgt := 135) hx hb dL_act_110 (by decide) (fun c7 => ?_) (fun c7 => ?_)
      · replace h := iteT c7 h
        refine lv_aload_n hx hb dL_act_135 rfl (lv_at hl 1 rfl) ?_
        refine lv_bipush (v := 7) hx hb dL_act_136 (by decide) ?_
        refine lv_iconst (v := 1) hx hb dL_act_138 (by decide) ?_
        refine lv_iload_n hx hb dL_act_139 rfl (lv_at hl 3 rfl) ?_
        refine lv_iload_n hx hb dL_act_140 rfl (lv_at hl 3 rfl) ?_
        refine lv_iconst (v := 3) hx hb dL_act_141 (by decide) ?_
        refine lv_irem hx hb dL_act_142 (by decide) ?_
        refine lv_if_ne (tgt := 152) hx hb dL_act_143 (by decide) (fun c8 => ?_) (fun c8 => ?_)
        · replace h := iteF c8 h
          refine lv_sipush (v := 300) hx hb dL_act_152 (by decide) ?_
          refine L_f_L_act_J155 _ _ (by omega) (by omega)  (300 : Int32) x2 (1 : Int32) (7 : Int32) g_p1_text g_p1_entryReader g_p1_world g_p1_copy g_p1_chosen g_p1_other g_p1_history g_p1_slots   _ _ _ h hP hD hS (lv_sub hl [] rfl)
        · replace h := iteT c8 h
          refine lv_sipush (v := 9999) hx hb dL_act_146 (by decide) ?_
          refine lv_goto (tgt := 155) hx hb dL_act_149 (by decide) ?_
          refine L_f_L_act_J155 _ _ (by omega) (by omega)  (9999 : Int32) x2 (1 : Int32) (7 : Int32) g_p1_text g_p1_entryReader g_p1_world g_p1_copy g_p1_chosen g_p1_other g_p1_history g_p1_slots   _ _ _ h hP hD hS (lv_sub hl [] rfl)
      · replace h := iteF c7 h
        refine lv_aload_n hx hb dL_act_113 rfl (lv_at hl 1 rfl) ?_
        refine lv_bipush (v := 8) hx hb dL_act_114 (by decide) ?_
        refine lv_iload hx hb dL_act_116 (lv_at hl 5 rfl) ?_
        refine lv_iconst (v := 1) hx hb dL_act_118 (by decide) ?_
        refine lv_iload_n hx hb dL_act_119 rfl (lv_at hl 3 rfl) ?_
        refine lv_bipush (v := 8) hx hb dL_act_120 (by decide) ?_
        refine lv_idiv hx hb dL_act_122 (by decide) ?_
        refine lv_sipush (v := 900) hx hb dL_act_123 (by decide) ?_
        refine lv_irem hx hb dL_act_126 (by decide) ?_
        refine lv_iadd hx hb dL_act_127 ?_
        refine lv_iconst (v := 0) hx hb dL_act_128 (by decide) ?_
        obtain ⟨o11, e11, h⟩ := obind h
        have hPq : va_P D vwCl ((cSP a_p1 ++ (cT dT (a_p1 1) g_p1_text ++ (cE dT (a_p1 2) g_p1_entryReader ++ (cW dT (a_p1 4) g_p1_world ++ (cW dT (a_p1 5) g_p1_copy ++ (cP dT (a_p1 8) g_p1_chosen ++ (cP dT (a_p1 9) g_p1_other ++ (cH dT (a_p1 6) g_p1_history ++ (cS dT (a_p1 7) g_p1_slots))))))))) ++ ([] : va_W)) _ := hP.perm (pw_30 (cSP a_p1) (cT dT (a_p1 1) g_p1_text) (cE dT (a_p1 2) g_p1_entryReader) (cW dT (a_p1 4) g_p1_world) (cW dT (a_p1 5) g_p1_copy) (cP dT (a_p1 8) g_p1_chosen) (cP dT (a_p1 9) g_p1_other) (cH dT (a_p1 6) g_p1_history) (cS dT (a_p1 7) g_p1_slots))
        have hDq : va_D A ((cSP a_p1 ++ (cT dT (a_p1 1) g_p1_text ++ (cE dT (a_p1 2) g_p1_entryReader ++ (cW dT (a_p1 4) g_p1_world ++ (cW dT (a_p1 5) g_p1_copy ++ (cP dT (a_p1 8) g_p1_chosen ++ (cP dT (a_p1 9) g_p1_other ++ (cH dT (a_p1 6) g_p1_history ++ (cS dT (a_p1 7) g_p1_slots))))))))) ++ ([] : va_W)) := hD.perm (pw_30 (cSP a_p1) (cT dT (a_p1 1) g_p1_text) (cE dT (a_p1 2) g_p1_entryReader) (cW dT (a_p1 4) g_p1_world) (cW dT (a_p1 5) g_p1_copy) (cP dT (a_p1 8) g_p1_chosen) (cP dT (a_p1 9) g_p1_other) (cH dT (a_p1 6) g_p1_history) (cS dT (a_p1 7) g_p1_slots))
        have hPc := hPq.left
        have hDc := hDq.left
        have hFc := va_freeL hDq hS hA
        refine cl_iL (wr := ([] : va_W)) (va_runS (As := [.ref (a_p1 0 0), .int (8 : Int32), .int x4, .int ((1 : Int32) + ((x2 / (8 : Int32)) - (x2 / (8 : Int32)) / (900 : Int32) * (900 : Int32))), .int (0 : Int32)]) (rest := []) ⟨hx, hb, hml, hown, hts⟩ (c_L_call l hlt D dT a_p1 g_p1_text g_p1_entryReader g_p1_world g_p1_copy g_p1_chosen g_p1_other g_p1_history g_p1_slots (8 : Int32) x4 ((1 : Int32) + ((x2 / (8 : Int32)) - (x2 / (8 : Int32)) / (900 : Int32) * (900 : Int32))) (0 : Int32) o11 e11 _) (va_cwS 5 hts (TB_S w_599 w_600 w_32 w_601) rfl rfl rfl nd_L_call ⟨Nat.le_of_ble_eq_true rfl, Nat.le_of_ble_eq_true rfl⟩) (cPre.S hPc hDc hK hE hS hFc) rfl rfl hl.1 rfl (lv_room (Nat.le_of_ble_eq_true rfl)) dL_act_129 ⟨rLe (b := 25) (by omega), rLe (b := 150) (by omega)⟩) hPq hDq hS hFc (fun r11 u11 H locs hw hP hD hS => ?_)
        obtain ⟨rfl, rfl⟩ := hw
        have hP : va_P D vwCl (cSP a_p1 ++ (cT dT (a_p1 1) o11.2.1 ++ (cE dT (a_p1 2) o11.2.2.1 ++ (cW dT (a_p1 4) o11.2.2.2.1 ++ (cW dT (a_p1 5) o11.2.2.2.2.1 ++ (cP dT (a_p1 8) o11.2.2.2.2.2.1 ++ (cP dT (a_p1 9) o11.2.2.2.2.2.2.1 ++ (cH dT (a_p1 6) o11.2.2.2.2.2.2.2.1 ++ (cS dT (a_p1 7) o11.2.2.2.2.2.2.2.2))))))))) H := hP.perm (pw_31 (cSP a_p1) (cT dT (a_p1 1) o11.2.1) (cE dT (a_p1 2) o11.2.2.1) (cW dT (a_p1 4) o11.2.2.2.1) (cW dT (a_p1 5) o11.2.2.2.2.1) (cP dT (a_p1 8) o11.2.2.2.2.2.1) (cP dT (a_p1 9) o11.2.2.2.2.2.2.1) (cH dT (a_p1 6) o11.2.2.2.2.2.2.2.1) (cS dT (a_p1 7) o11.2.2.2.2.2.2.2.2))
        have hD : va_D A (cSP a_p1 ++ (cT dT (a_p1 1) o11.2.1 ++ (cE dT (a_p1 2) o11.2.2.1 ++ (cW dT (a_p1 4) o11.2.2.2.1 ++ (cW dT (a_p1 5) o11.2.2.2.2.1 ++ (cP dT (a_p1 8) o11.2.2.2.2.2.1 ++ (cP dT (a_p1 9) o11.2.2.2.2.2.2.1 ++ (cH dT (a_p1 6) o11.2.2.2.2.2.2.2.1 ++ (cS dT (a_p1 7) o11.2.2.2.2.2.2.2.2))))))))) := hD.perm (pw_31 (cSP a_p1) (cT dT (a_p1 1) o11.2.1) (cE dT (a_p1 2) o11.2.2.1) (cW dT (a_p1 4) o11.2.2.2.1) (cW dT (a_p1 5) o11.2.2.2.2.1) (cP dT (a_p1 8) o11.2.2.2.2.2.1) (cP dT (a_p1 9) o11.2.2.2.2.2.2.1) (cH dT (a_p1 6) o11.2.2.2.2.2.2.2.1) (cS dT (a_p1 7) o11.2.2.2.2.2.2.2.2))
        refine lv_goto (tgt := 162) hx hb dL_act_132 (by decide) ?_
        refine W.widen (k := 25) (n := 150) (by omega) (by omega) ?_
        exact rt_i hx hb hr hlk hK hS ((o11.2.1, o11.2.2.1, o11.2.2.2.1, o11.2.2.2.2.1, o11.2.2.2.2.2.1, o11.2.2.2.2.2.2.1, o11.2.2.2.2.2.2.2.1, o11.2.2.2.2.2.2.2.2) : TT × TE × TW × TW × TP × TP × TH × TS) (ret2 h) hP hD dL_act_162
    replace h := iteF c6_0 h
    by_cases c6_1 : (x1 - x1 / (16 : Int32) * (16 : Int32)) = (1 : Int32)
    · replace h := iteT c6_1 h
      refine lv_tableIn (off := (66)) (tgt := 108) hx hb dL_act_42 (by rw [c6_1]; decide) (by rw [c6_1]; decide) (by rw [c6_1]; rfl) (by decide) ?_
      refine lv_iload_n hx hb dL_act_108 rfl (lv_at hl 4 rfl) ?_
      refine lv_iconst (v := 4) hx hb dL_act_109 (by decide) ?_
      refine lv_icmp_le (tgt := 135) hx hb dL_act_110 (by decide) (fun c12 => ?_) (fun c12 => ?_)
      · replace h := iteT c12 h
        refine lv_aload_n hx hb dL_act_135 rfl (lv_at hl 1 rfl) ?_
        refine lv_bipush (v := 7) hx hb dL_act_136 (by decide) ?_
        refine lv_iconst (v := 1) hx hb dL_act_138 (by decide) ?_
        refine lv_iload_n hx hb dL_act_139 rfl (lv_at hl 3 rfl) ?_
        refine lv_iload_n hx hb dL_act_140 rfl (lv_at hl 3 rfl) ?_
        refine lv_iconst (v := 3) hx hb dL_act_141 (by decide) ?_
        refine lv_irem hx hb dL_act_142 (by decide) ?_
        refine lv_if_ne (tgt := 152) hx hb dL_act_143 (by decide) (fun c13 => ?_) (fun c13 => ?_)
        · replace h := iteF c13 h
          refine lv_sipush (v := 300) hx hb dL_act_152 (by decide) ?_
          refine L_f_L_act_J155 _ _ (by omega) (by omega)  (300 : Int32) x2 (1 : Int32) (7 : Int32) g_p1_text g_p1_entryReader g_p1_world g_p1_copy g_p1_chosen g_p1_other g_p1_history g_p1_slots   _ _ _ h hP hD hS (lv_sub hl [] rfl)
        · replace h := iteT c13 h
          refine lv_sipush (v := 9999) hx hb dL_act_146 (by decide) ?_
          refine lv_goto (tgt := 155) hx hb dL_act_149 (by decide) ?_
          refine L_f_L_act_J155 _ _ (by omega) (by omega)  (9999 : Int32) x2 (1 : Int32) (7 : Int32) g_p1_text g_p1_entryReader g_p1_world g_p1_copy g_p1_chosen g_p1_other g_p1_history g_p1_slots   _ _ _ h hP hD hS (lv_sub hl [] rfl)
      · replace h := iteF c12 h
        refine lv_aload_n hx hb dL_act_113 rfl (lv_at hl 1 rfl) ?_
        refine lv_bipush (v := 8) hx hb dL_act_114 (by decide) ?_
        refine lv_iload hx hb dL_act_116 (lv_at hl 5 rfl) ?_
        refine lv_iconst (v := 1) hx hb dL_act_118 (by decide) ?_
        refine lv_iload_n hx hb dL_act_119 rfl (lv_at hl 3 rfl) ?_
        refine lv_bipush (v := 8) hx hb dL_act_120 (by decide) ?_
        refine lv_idiv hx hb dL_act_122 (by decide) ?_
        refine lv_sipush (v := 900) hx hb dL_act_123 (by decide) ?_
        refine lv_irem hx hb dL_act_126 (by decide) ?_
        refine lv_iadd hx hb dL_act_127 ?_
        refine lv_iconst (v := 0) hx hb dL_act_128 (by decide) ?_
        obtain ⟨o14, e14, h⟩ := obind h
        have hPq : va_P D vwCl ((cSP a_p1 ++ (cT dT (a_p1 1) g_p1_text ++ (cE dT (a_p1 2) g_p1_entryReader ++ (cW dT (a_p1 4) g_p1_world ++ (cW dT (a_p1 5) g_p1_copy ++ (cP dT (a_p1 8) g_p1_chosen ++ (cP dT (a_p1 9) g_p1_other ++ (cH dT (a_p1 6) g_p1_history ++ (cS dT (a_p1 7) g_p1_slots))))))))) ++ ([] : va_W)) _ := hP.perm (pw_30 (cSP a_p1) (cT dT (a_p1 1) g_p1_text) (cE dT (a_p1 2) g_p1_entryReader) (cW dT (a_p1 4) g_p1_world) (cW dT (a_p1 5) g_p1_copy) (cP dT (a_p1 8) g_p1_chosen) (cP dT (a_p1 9) g_p1_other) (cH dT (a_p1 6) g_p1_history) (cS dT (a_p1 7) g_p1_slots))
        have hDq : va_D A ((cSP a_p1 ++ (cT dT (a_p1 1) g_p1_text ++ (cE dT (a_p1 2) g_p1_entryReader ++ (cW dT (a_p1 4) g_p1_world ++ (cW dT (a_p1 5) g_p1_copy ++ (cP dT (a_p1 8) g_p1_chosen ++ (cP dT (a_p1 9) g_p1_other ++ (cH dT (a_p1 6) g_p1_history ++ (cS dT (a_p1 7) g_p1_slots))))))))) ++ ([] : va_W)) := hD.perm (pw_30 (cSP a_p1) (cT dT (a_p1 1) g_p1_text) (cE dT (a_p1 2) g_p1_entryReader) (cW dT (a_p1 4) g_p1_world) (cW dT (a_p1 5) g_p1_copy) (cP dT (a_p1 8) g_p1_chosen) (cP dT (a_p1 9) g_p1_other) (cH dT (a_p1 6) g_p1_history) (cS dT (a_p1 7) g_p1_slots))
        have hPc := hPq.left
        have hDc := hDq.left
        have hFc := va_freeL hDq hS hA
        refine cl_iL (wr := ([] : va_W)) (va_runS (As := [.ref (a_p1 0 0), .int (8 : Int32), .int x4, .int ((1 : Int32) + ((x2 / (8 : Int32)) - (x2 / (8 : Int32)) / (900 : Int32) * (900 : Int32))), .int (0 : Int32)]) (rest := []) ⟨hx, hb, hml, hown, hts⟩ (c_L_call l hlt D dT a_p1 g_p1_text g_p1_entryReader g_p1_world g_p1_copy g_p1_chosen g_p1_other g_p1_history g_p1_slots (8 : Int32) x4 ((1 : Int32) + ((x2 / (8 : Int32)) - (x2 / (8 : Int32)) / (900 : Int32) * (900 : Int32))) (0 : Int32) o14 e14 _) (va_cwS 5 hts (TB_S w_599 w_600 w_32 w_601) rfl rfl rfl nd_L_call ⟨Nat.le_of_ble_eq_true rfl, Nat.le_of_ble_eq_true rfl⟩) (cPre.S hPc hDc hK hE hS hFc) rfl rfl hl.1 rfl (lv_room (Nat.le_of_ble_eq_true rfl)) dL_act_129 ⟨rLe (b := 25) (by omega), rLe (b := 150) (by omega)⟩) hPq hDq hS hFc (fun r14 u14 H locs hw hP hD hS => ?_)
        obtain ⟨rfl, rfl⟩ := hw
        have hP : va_P D vwCl (cSP a_p1 ++ (cT dT (a_p1 1) o14.2.1 ++ (cE dT (a_p1 2) o14.2.2.1 ++ (cW dT (a_p1 4) o14.2.2.2.1 ++ (cW dT (a_p1 5) o14.2.2.2.2.1 ++ (cP dT (a_p1 8) o14.2.2.2.2.2.1 ++ (cP dT (a_p1 9) o14.2.2.2.2.2.2.1 ++ (cH dT (a_p1 6) o14.2.2.2.2.2.2.2.1 ++ (cS dT (a_p1 7) o14.2.2.2.2.2.2.2.2))))))))) H := hP.perm (pw_31 (cSP a_p1) (cT dT (a_p1 1) o14.2.1) (cE dT (a_p1 2) o14.2.2.1) (cW dT (a_p1 4) o14.2.2.2.1) (cW dT (a_p1 5) o14.2.2.2.2.1) (cP dT (a_p1 8) o14.2.2.2.2.2.1) (cP dT (a_p1 9) o14.2.2.2.2.2.2.1) (cH dT (a_p1 6) o14.2.2.2.2.2.2.2.1) (cS dT (a_p1 7) o14.2.2.2.2.2.2.2.2))
        have hD : va_D A (cSP a_p1 ++ (cT dT (a_p1 1) o14.2.1 ++ (cE dT (a_p1 2) o14.2.2.1 ++ (cW dT (a_p1 4) o14.2.2.2.1 ++ (cW dT (a_p1 5) o14.2.2.2.2.1 ++ (cP dT (a_p1 8) o14.2.2.2.2.2.1 ++ (cP dT (a_p1 9) o14.2.2.2.2.2.2.1 ++ (cH dT (a_p1 6) o14.2.2.2.2.2.2.2.1 ++ (cS dT (a_p1 7) o14.2.2.2.2.2.2.2.2))))))))) := hD.perm (pw_31 (cSP a_p1) (cT dT (a_p1 1) o14.2.1) (cE dT (a_p1 2) o14.2.2.1) (cW dT (a_p1 4) o14.2.2.2.1) (cW dT (a_p1 5) o14.2.2.2.2.1) (cP dT (a_p1 8) o14.2.2.2.2.2.1) (cP dT (a_p1 9) o14.2.2.2.2.2.2.1) (cH dT (a_p1 6) o14.2.2.2.2.2.2.2.1) (cS dT (a_p1 7) o14.2.2.2.2.2.2.2.2))
        refine lv_goto (tgt := 162) hx hb dL_act_132 (by decide) ?_
        refine W.widen (k := 25) (n := 150) (by omega) (by omega) ?_
        exact rt_i hx hb hr hlk hK hS ((o14.2.1, o14.2.2.1, o14.2.2.2.1, o14.2.2.2.2.1, o14.2.2.2.2.2.1, o14.2.2.2.2.2.2.1, o14.2.2.2.2.2.2.2.1, o14.2.2.2.2.2.2.2.2) : TT × TE × TW × TW × TP × TP × TH × TS) (ret2 h) hP hD dL_act_162
    replace h := iteF c6_1 h
    by_cases c6_2 : (x1 - x1 / (16 : Int32) * (16 : Int32)) = (2 : Int32)
    · replace h := iteT c6_2 h
      refine lv_tableIn (off := (121)) (tgt := 163) hx hb dL_act_42 (by rw [c6_2]; decide) (by rw [c6_2]; decide) (by rw [c6_2]; rfl) (by decide) ?_
      refine lv_aload_n hx hb dL_act_163 rfl (lv_at hl 1 rfl) ?_
      refine lv_iload hx hb dL_act_164 (lv_at hl 5 rfl) ?_
      refine lv_iload hx hb dL_act_166 (lv_at hl 0 rfl) ?_
      refine lv_iconst (v := 1) hx hb dL_act_168 (by decide) ?_
      refine lv_iload_n hx hb dL_act_169 rfl (lv_at hl 3 rfl) ?_
      refine lv_bipush (v := 64) hx hb dL_act_170 (by decide) ?_
      refine lv_idiv hx hb dL_act_172 (by decide) ?_
      refine lv_iload_n hx hb dL_act_173 rfl (lv_at hl 3 rfl) ?_
      refine lv_iconst (v := 3) hx hb dL_act_174 (by decide) ?_
      refine lv_irem hx hb dL_act_175 (by decide) ?_
      refine lv_if_ne (tgt := 185) hx hb dL_act_176 (by decide) (fun c15 => ?_) (fun c15 => ?_)
      · replace h := iteF c15 h
        refine lv_bipush (v := 50) hx hb dL_act_185 (by decide) ?_
        refine L_f_L_act_J187 _ _ (by omega) (by omega)  x2 (50 : Int32) (x2 / (64 : Int32)) (1 : Int32) s0 x4 g_p1_text g_p1_entryReader g_p1_world g_p1_copy g_p1_chosen g_p1_other g_p1_history g_p1_slots   _ _ _ h hP hD hS (lv_sub hl [3] rfl)
      · replace h := iteT c15 h
        refine lv_sipush (v := 1000) hx hb dL_act_179 (by decide) ?_
        refine lv_goto (tgt := 187) hx hb dL_act_182 (by decide) ?_
        refine L_f_L_act_J187 _ _ (by omega) (by omega)  x2 (1000 : Int32) (x2 / (64 : Int32)) (1 : Int32) s0 x4 g_p1_text g_p1_entryReader g_p1_world g_p1_copy g_p1_chosen g_p1_other g_p1_history g_p1_slots   _ _ _ h hP hD hS (lv_sub hl [3] rfl)
    replace h := iteF c6_2 h
    by_cases c6_3 : (x1 - x1 / (16 : Int32) * (16 : Int32)) = (3 : Int32)
    · replace h := iteT c6_3 h
      refine lv_tableIn (off := (121)) (tgt := 163) hx hb dL_act_42 (by rw [c6_3]; decide) (by rw [c6_3]; decide) (by rw [c6_3]; rfl) (by decide) ?_
      refine lv_aload_n hx hb dL_act_163 rfl (lv_at hl 1 rfl) ?_
      refine lv_iload hx hb dL_act_164 (lv_at hl 5 rfl) ?_
      refine lv_iload hx hb dL_act_166 (lv_at hl 0 rfl) ?_
      refine lv_iconst (v := 1) hx hb dL_act_168 (by decide) ?_
      refine lv_iload_n hx hb dL_act_169 rfl (lv_at hl 3 rfl) ?_
      refine lv_bipush (v := 64) hx hb dL_act_170 (by decide) ?_
      refine lv_idiv hx hb dL_act_172 (by decide) ?_
      refine lv_iload_n hx hb dL_act_173 rfl (lv_at hl 3 rfl) ?_
      refine lv_iconst (v := 3) hx hb dL_act_174 (by decide) ?_
      refine lv_irem hx hb dL_act_175 (by decide) ?_
      refine lv_if_ne (tgt := 185) hx hb dL_act_176 (by decide) (fun c20 => ?_) (fun c20 => ?_)
      · replace h := iteF c20 h
        refine lv_bipush (v := 50) hx hb dL_act_185 (by decide) ?_
        refine L_f_L_act_J187 _ _ (by omega) (by omega)  x2 (50 : Int32) (x2 / (64 : Int32)) (1 : Int32) s0 x4 g_p1_text g_p1_entryReader g_p1_world g_p1_copy g_p1_chosen g_p1_other g_p1_history g_p1_slots   _ _ _ h hP hD hS (lv_sub hl [3] rfl)
      · replace h := iteT c20 h
        refine lv_sipush (v := 1000) hx hb dL_act_179 (by decide) ?_
        refine lv_goto (tgt := 187) hx hb dL_act_182 (by decide) ?_
        refine L_f_L_act_J187 _ _ (by omega) (by omega)  x2 (1000 : Int32) (x2 / (64 : Int32)) (1 : Int32) s0 x4 g_p1_text g_p1_entryReader g_p1_world g_p1_copy g_p1_chosen g_p1_other g_p1_history g_p1_slots   _ _ _ h hP hD hS (lv_sub hl [3] rfl)
    replace h := iteF c6_3 h
    by_cases c6_4 : (x1 - x1 / (16 : Int32) * (16 : Int32)) = (4 : Int32)
    · replace h := iteT c6_4 h
      refine lv_tableIn (off := (121)) (tgt := 163) hx hb dL_act_42 (by rw [c6_4]; decide) (by rw [c6_4]; decide) (by rw [c6_4]; rfl) (by decide) ?_
      refine lv_aload_n hx hb dL_act_163 rfl (lv_at hl 1 rfl) ?_
      refine lv_iload hx hb dL_act_164 (lv_at hl 5 rfl) ?_
      refine lv_iload hx hb dL_act_166 (lv_at hl 0 rfl) ?_
      refine lv_iconst (v := 1) hx hb dL_act_168 (by decide) ?_
      refine lv_iload_n hx hb dL_act_169 rfl (lv_at hl 3 rfl) ?_
      refine lv_bipush (v := 64) hx hb dL_act_170 (by decide) ?_
      refine lv_idiv hx hb dL_act_172 (by decide) ?_
      refine lv_iload_n hx hb dL_act_173 rfl (lv_at hl 3 rfl) ?_
      refine lv_iconst (v := 3) hx hb dL_act_174 (by decide) ?_
      refine lv_irem hx hb dL_act_175 (by decide) ?_
      refine lv_if_ne (tgt := 185) hx hb dL_act_176 (by decide) (fun c21 => ?_) (fun c21 => ?_)
      · replace h := iteF c21 h
        refine lv_bipush (v := 50) hx hb dL_act_185 (by decide) ?_
        refine L_f_L_act_J187 _ _ (by omega) (by omega)  x2 (50 : Int32) (x2 / (64 : Int32)) (1 : Int32) s0 x4 g_p1_text g_p1_entryReader g_p1_world g_p1_copy g_p1_chosen g_p1_other g_p1_history g_p1_slots   _ _ _ h hP hD hS (lv_sub hl [3] rfl)
      · replace h := iteT c21 h
        refine lv_sipush (v := 1000) hx hb dL_act_179 (by decide) ?_
        refine lv_goto (tgt := 187) hx hb dL_act_182 (by decide) ?_
        refine L_f_L_act_J187 _ _ (by omega) (by omega)  x2 (1000 : Int32) (x2 / (64 : Int32)) (1 : Int32) s0 x4 g_p1_text g_p1_entryReader g_p1_world g_p1_copy g_p1_chosen g_p1_other g_p1_history g_p1_slots   _ _ _ h hP hD hS (lv_sub hl [3] rfl)
    replace h := iteF c6_4 h
    by_cases c6_5 : (x1 - x1 / (16 : Int32) * (16 : Int32)) = (5 : Int32)
    · replace h := iteT c6_5 h
      refine lv_tableIn (off := (173)) (tgt := 215) hx hb dL_act_42 (by rw [c6_5]; decide) (by rw [c6_5]; decide) (by rw [c6_5]; rfl) (by decide) ?_
      refine lv_aload_n hx hb dL_act_215 rfl (lv_at hl 1 rfl) ?_
      refine lv_bipush (v := 9) hx hb dL_act_216 (by decide) ?_
      refine lv_iload hx hb dL_act_218 (lv_at hl 5 rfl) ?_
      refine lv_iload hx hb dL_act_220 (lv_at hl 0 rfl) ?_
      refine lv_iconst (v := 1) hx hb dL_act_222 (by decide) ?_
      refine lv_iload_n hx hb dL_act_223 rfl (lv_at hl 3 rfl) ?_
      refine lv_bipush (v := 64) hx hb dL_act_224 (by decide) ?_
      refine lv_idiv hx hb dL_act_226 (by decide) ?_
      refine lv_iload_n hx hb dL_act_227 rfl (lv_at hl 3 rfl) ?_
      refine lv_iconst (v := 3) hx hb dL_act_228 (by decide) ?_
      refine lv_irem hx hb dL_act_229 (by decide) ?_
      refine lv_if_ne (tgt := 239) hx hb dL_act_230 (by decide) (fun c22 => ?_) (fun c22 => ?_)
      · replace h := iteF c22 h
        refine lv_bipush (v := 90) hx hb dL_act_239 (by decide) ?_
        refine L_f_L_act_J241 _ _ (by omega) (by omega)  (90 : Int32) (x2 / (64 : Int32)) (1 : Int32) s0 x4 (9 : Int32) g_p1_text g_p1_entryReader g_p1_world g_p1_copy g_p1_chosen g_p1_other g_p1_history g_p1_slots   _ _ _ h hP hD hS (lv_sub hl [] rfl)
      · replace h := iteT c22 h
        refine lv_sipush (v := 1000) hx hb dL_act_233 (by decide) ?_
        refine lv_goto (tgt := 241) hx hb dL_act_236 (by decide) ?_
        refine L_f_L_act_J241 _ _ (by omega) (by omega)  (1000 : Int32) (x2 / (64 : Int32)) (1 : Int32) s0 x4 (9 : Int32) g_p1_text g_p1_entryReader g_p1_world g_p1_copy g_p1_chosen g_p1_other g_p1_history g_p1_slots   _ _ _ h hP hD hS (lv_sub hl [] rfl)
    replace h := iteF c6_5 h
    by_cases c6_6 : (x1 - x1 / (16 : Int32) * (16 : Int32)) = (6 : Int32)
    · replace h := iteT c6_6 h
      refine lv_tableIn (off := (173)) (tgt := 215) hx hb dL_act_42 (by rw [c6_6]; decide) (by rw [c6_6]; decide) (by rw [c6_6]; rfl) (by decide) ?_
      refine lv_aload_n hx hb dL_act_215 rfl (lv_at hl 1 rfl) ?_
      refine lv_bipush (v := 9) hx hb dL_act_216 (by decide) ?_
      refine lv_iload hx hb dL_act_218 (lv_at hl 5 rfl) ?_
      refine lv_iload hx hb dL_act_220 (lv_at hl 0 rfl) ?_
      refine lv_iconst (v := 1) hx hb dL_act_222 (by decide) ?_
      refine lv_iload_n hx hb dL_act_223 rfl (lv_at hl 3 rfl) ?_
      refine lv_bipush (v := 64) hx hb dL_act_224 (by decide) ?_
      refine lv_idiv hx hb dL_act_226 (by decide) ?_
      refine lv_iload_n hx hb dL_act_227 rfl (lv_at hl 3 rfl) ?_
      refine lv_iconst (v := 3) hx hb dL_act_228 (by decide) ?_
      refine lv_irem hx hb dL_act_229 (by decide) ?_
      refine lv_if_ne (tgt := 239) hx hb dL_act_230 (by decide) (fun c25 => ?_) (fun c25 => ?_)
      · replace h := iteF c25 h
        refine lv_bipush (v := 90) hx hb dL_act_239 (by decide) ?_
        refine L_f_L_act_J241 _ _ (by omega) (by omega)  (90 : Int32) (x2 / (64 : Int32)) (1 : Int32) s0 x4 (9 : Int32) g_p1_text g_p1_entryReader g_p1_world g_p1_copy g_p1_chosen g_p1_other g_p1_history g_p1_slots   _ _ _ h hP hD hS (lv_sub hl [] rfl)
      · replace h := iteT c25 h
        refine lv_sipush (v := 1000) hx hb dL_act_233 (by decide) ?_
        refine lv_goto (tgt := 241) hx hb dL_act_236 (by decide) ?_
        refine L_f_L_act_J241 _ _ (by omega) (by omega)  (1000 : Int32) (x2 / (64 : Int32)) (1 : Int32) s0 x4 (9 : Int32) g_p1_text g_p1_entryReader g_p1_world g_p1_copy g_p1_chosen g_p1_other g_p1_history g_p1_slots   _ _ _ h hP hD hS (lv_sub hl [] rfl)
    replace h := iteF c6_6 h
    by_cases c6_7 : (x1 - x1 / (16 : Int32) * (16 : Int32)) = (7 : Int32)
    · replace h := iteT c6_7 h
      refine lv_tableIn (off := (205)) (tgt := 247) hx hb dL_act_42 (by rw [c6_7]; decide) (by rw [c6_7]; decide) (by rw [c6_7]; rfl) (by decide) ?_
      refine lv_aload_n hx hb dL_act_247 rfl (lv_at hl 1 rfl) ?_
      refine lv_bipush (v := 11) hx hb dL_act_248 (by decide) ?_
      refine lv_iconst (v := 1) hx hb dL_act_250 (by decide) ?_
      refine lv_iload_n hx hb dL_act_251 rfl (lv_at hl 3 rfl) ?_
      refine lv_iconst (v := 3) hx hb dL_act_252 (by decide) ?_
      refine lv_irem hx hb dL_act_253 (by decide) ?_
      refine lv_iadd hx hb dL_act_254 ?_
      refine lv_iconst (v := 0) hx hb dL_act_255 (by decide) ?_
      refine lv_iconst (v := 0) hx hb dL_act_256 (by decide) ?_
      obtain ⟨o26, e26, h⟩ := obind h
      have hPq : va_P D vwCl ((cSP a_p1 ++ (cT dT (a_p1 1) g_p1_text ++ (cE dT (a_p1 2) g_p1_entryReader ++ (cW dT (a_p1 4) g_p1_world ++ (cW dT (a_p1 5) g_p1_copy ++ (cP dT (a_p1 8) g_p1_chosen ++ (cP dT (a_p1 9) g_p1_other ++ (cH dT (a_p1 6) g_p1_history ++ (cS dT (a_p1 7) g_p1_slots))))))))) ++ ([] : va_W)) _ := hP.perm (pw_30 (cSP a_p1) (cT dT (a_p1 1) g_p1_text) (cE dT (a_p1 2) g_p1_entryReader) (cW dT (a_p1 4) g_p1_world) (cW dT (a_p1 5) g_p1_copy) (cP dT (a_p1 8) g_p1_chosen) (cP dT (a_p1 9) g_p1_other) (cH dT (a_p1 6) g_p1_history) (cS dT (a_p1 7) g_p1_slots))
      have hDq : va_D A ((cSP a_p1 ++ (cT dT (a_p1 1) g_p1_text ++ (cE dT (a_p1 2) g_p1_entryReader ++ (cW dT (a_p1 4) g_p1_world ++ (cW dT (a_p1 5) g_p1_copy ++ (cP dT (a_p1 8) g_p1_chosen ++ (cP dT (a_p1 9) g_p1_other ++ (cH dT (a_p1 6) g_p1_history ++ (cS dT (a_p1 7) g_p1_slots))))))))) ++ ([] : va_W)) := hD.perm (pw_30 (cSP a_p1) (cT dT (a_p1 1) g_p1_text) (cE dT (a_p1 2) g_p1_entryReader) (cW dT (a_p1 4) g_p1_world) (cW dT (a_p1 5) g_p1_copy) (cP dT (a_p1 8) g_p1_chosen) (cP dT (a_p1 9) g_p1_other) (cH dT (a_p1 6) g_p1_history) (cS dT (a_p1 7) g_p1_slots))
      have hPc := hPq.left
      have hDc := hDq.left
      have hFc := va_freeL hDq hS hA
      refine cl_iL (wr := ([] : va_W)) (va_runS (As := [.ref (a_p1 0 0), .int (11 : Int32), .int ((1 : Int32) + (x2 - x2 / (3 : Int32) * (3 : Int32))), .int (0 : Int32), .int (0 : Int32)]) (rest := []) ⟨hx, hb, hml, hown, hts⟩ (c_L_call l hlt D dT a_p1 g_p1_text g_p1_entryReader g_p1_world g_p1_copy g_p1_chosen g_p1_other g_p1_history g_p1_slots (11 : Int32) ((1 : Int32) + (x2 - x2 / (3 : Int32) * (3 : Int32))) (0 : Int32) (0 : Int32) o26 e26 _) (va_cwS 5 hts (TB_S w_599 w_600 w_32 w_601) rfl rfl rfl nd_L_call ⟨Nat.le_of_ble_eq_true rfl, Nat.le_of_ble_eq_true rfl⟩) (cPre.S hPc hDc hK hE hS hFc) rfl rfl hl.1 rfl (lv_room (Nat.le_of_ble_eq_true rfl)) dL_act_257 ⟨rLe (b := 25) (by omega), rLe (b := 150) (by omega)⟩) hPq hDq hS hFc (fun r26 u26 H locs hw hP hD hS => ?_)
      obtain ⟨rfl, rfl⟩ := hw
      have hP : va_P D vwCl (cSP a_p1 ++ (cT dT (a_p1 1) o26.2.1 ++ (cE dT (a_p1 2) o26.2.2.1 ++ (cW dT (a_p1 4) o26.2.2.2.1 ++ (cW dT (a_p1 5) o26.2.2.2.2.1 ++ (cP dT (a_p1 8) o26.2.2.2.2.2.1 ++ (cP dT (a_p1 9) o26.2.2.2.2.2.2.1 ++ (cH dT (a_p1 6) o26.2.2.2.2.2.2.2.1 ++ (cS dT (a_p1 7) o26.2.2.2.2.2.2.2.2))))))))) H := hP.perm (pw_31 (cSP a_p1) (cT dT (a_p1 1) o26.2.1) (cE dT (a_p1 2) o26.2.2.1) (cW dT (a_p1 4) o26.2.2.2.1) (cW dT (a_p1 5) o26.2.2.2.2.1) (cP dT (a_p1 8) o26.2.2.2.2.2.1) (cP dT (a_p1 9) o26.2.2.2.2.2.2.1) (cH dT (a_p1 6) o26.2.2.2.2.2.2.2.1) (cS dT (a_p1 7) o26.2.2.2.2.2.2.2.2))
      have hD : va_D A (cSP a_p1 ++ (cT dT (a_p1 1) o26.2.1 ++ (cE dT (a_p1 2) o26.2.2.1 ++ (cW dT (a_p1 4) o26.2.2.2.1 ++ (cW dT (a_p1 5) o26.2.2.2.2.1 ++ (cP dT (a_p1 8) o26.2.2.2.2.2.1 ++ (cP dT (a_p1 9) o26.2.2.2.2.2.2.1 ++ (cH dT (a_p1 6) o26.2.2.2.2.2.2.2.1 ++ (cS dT (a_p1 7) o26.2.2.2.2.2.2.2.2))))))))) := hD.perm (pw_31 (cSP a_p1) (cT dT (a_p1 1) o26.2.1) (cE dT (a_p1 2) o26.2.2.1) (cW dT (a_p1 4) o26.2.2.2.1) (cW dT (a_p1 5) o26.2.2.2.2.1) (cP dT (a_p1 8) o26.2.2.2.2.2.1) (cP dT (a_p1 9) o26.2.2.2.2.2.2.1) (cH dT (a_p1 6) o26.2.2.2.2.2.2.2.1) (cS dT (a_p1 7) o26.2.2.2.2.2.2.2.2))
      refine W.widen (k := 25) (n := 150) (by omega) (by omega) ?_
      exact rt_i hx hb hr hlk hK hS ((o26.2.1, o26.2.2.1, o26.2.2.2.1, o26.2.2.2.2.1, o26.2.2.2.2.2.1, o26.2.2.2.2.2.2.1, o26.2.2.2.2.2.2.2.1, o26.2.2.2.2.2.2.2.2) : TT × TE × TW × TW × TP × TP × TH × TS) (ret2 h) hP hD dL_act_260
    replace h := iteF c6_7 h
    by_cases c6_8 : (x1 - x1 / (16 : Int32) * (16 : Int32)) = (8 : Int32)
    · replace h := iteT c6_8 h
      refine lv_tableIn (off := (219)) (tgt := 261) hx hb dL_act_42 (by rw [c6_8]; decide) (by rw [c6_8]; decide) (by rw [c6_8]; rfl) (by decide) ?_
      refine lv_aload_n hx hb dL_act_261 rfl (lv_at hl 1 rfl) ?_
      refine lv_bipush (v := 12) hx hb dL_act_262 (by decide) ?_
      refine lv_iload_n hx hb dL_act_264 rfl (lv_at hl 3 rfl) ?_
      refine lv_iconst (v := 3) hx hb dL_act_265 (by decide) ?_
      refine lv_irem hx hb dL_act_266 (by decide) ?_
      refine lv_iconst (v := 1) hx hb dL_act_267 (by decide) ?_
      refine lv_iload_n hx hb dL_act_268 rfl (lv_at hl 3 rfl) ?_
      refine lv_iconst (v := 4) hx hb dL_act_269 (by decide) ?_
      refine lv_idiv hx hb dL_act_270 (by decide) ?_
      refine lv_bipush (v := 10) hx hb dL_act_271 (by decide) ?_
      refine lv_irem hx hb dL_act_273 (by decide) ?_
      refine lv_iadd hx hb dL_act_274 ?_
      refine lv_iconst (v := 0) hx hb dL_act_275 (by decide) ?_
      obtain ⟨o27, e27, h⟩ := obind h
      have hPq : va_P D vwCl ((cSP a_p1 ++ (cT dT (a_p1 1) g_p1_text ++ (cE dT (a_p1 2) g_p1_entryReader ++ (cW dT (a_p1 4) g_p1_world ++ (cW dT (a_p1 5) g_p1_copy ++ (cP dT (a_p1 8) g_p1_chosen ++ (cP dT (a_p1 9) g_p1_other ++ (cH dT (a_p1 6) g_p1_history ++ (cS dT (a_p1 7) g_p1_slots))))))))) ++ ([] : va_W)) _ := hP.perm (pw_30 (cSP a_p1) (cT dT (a_p1 1) g_p1_text) (cE dT (a_p1 2) g_p1_entryReader) (cW dT (a_p1 4) g_p1_world) (cW dT (a_p1 5) g_p1_copy) (cP dT (a_p1 8) g_p1_chosen) (cP dT (a_p1 9) g_p1_other) (cH dT (a_p1 6) g_p1_history) (cS dT (a_p1 7) g_p1_slots))
      have hDq : va_D A ((cSP a_p1 ++ (cT dT (a_p1 1) g_p1_text ++ (cE dT (a_p1 2) g_p1_entryReader ++ (cW dT (a_p1 4) g_p1_world ++ (cW dT (a_p1 5) g_p1_copy ++ (cP dT (a_p1 8) g_p1_chosen ++ (cP dT (a_p1 9) g_p1_other ++ (cH dT (a_p1 6) g_p1_history ++ (cS dT (a_p1 7) g_p1_slots))))))))) ++ ([] : va_W)) := hD.perm (pw_30 (cSP a_p1) (cT dT (a_p1 1) g_p1_text) (cE dT (a_p1 2) g_p1_entryReader) (cW dT (a_p1 4) g_p1_world) (cW dT (a_p1 5) g_p1_copy) (cP dT (a_p1 8) g_p1_chosen) (cP dT (a_p1 9) g_p1_other) (cH dT (a_p1 6) g_p1_history) (cS dT (a_p1 7) g_p1_slots))
      have hPc := hPq.left
      have hDc := hDq.left
      have hFc := va_freeL hDq hS hA
      refine cl_iL (wr := ([] : va_W)) (va_runS (As := [.ref (a_p1 0 0), .int (12 : Int32), .int (x2 - x2 / (3 : Int32) * (3 : Int32)), .int ((1 : Int32) + ((x2 / (4 : Int32)) - (x2 / (4 : Int32)) / (10 : Int32) * (10 : Int32))), .int (0 : Int32)]) (rest := []) ⟨hx, hb, hml, hown, hts⟩ (c_L_call l hlt D dT a_p1 g_p1_text g_p1_entryReader g_p1_world g_p1_copy g_p1_chosen g_p1_other g_p1_history g_p1_slots (12 : Int32) (x2 - x2 / (3 : Int32) * (3 : Int32)) ((1 : Int32) + ((x2 / (4 : Int32)) - (x2 / (4 : Int32)) / (10 : Int32) * (10 : Int32))) (0 : Int32) o27 e27 _) (va_cwS 5 hts (TB_S w_599 w_600 w_32 w_601) rfl rfl rfl nd_L_call ⟨Nat.le_of_ble_eq_true rfl, Nat.le_of_ble_eq_true rfl⟩) (cPre.S hPc hDc hK hE hS hFc) rfl rfl hl.1 rfl (lv_room (Nat.le_of_ble_eq_true rfl)) dL_act_276 ⟨rLe (b := 25) (by omega), rLe (b := 150) (by omega)⟩) hPq hDq hS hFc (fun r27 u27 H locs hw hP hD hS => ?_)
      obtain ⟨rfl, rfl⟩ := hw
      have hP : va_P D vwCl (cSP a_p1 ++ (cT dT (a_p1 1) o27.2.1 ++ (cE dT (a_p1 2) o27.2.2.1 ++ (cW dT (a_p1 4) o27.2.2.2.1 ++ (cW dT (a_p1 5) o27.2.2.2.2.1 ++ (cP dT (a_p1 8) o27.2.2.2.2.2.1 ++ (cP dT (a_p1 9) o27.2.2.2.2.2.2.1 ++ (cH dT (a_p1 6) o27.2.2.2.2.2.2.2.1 ++ (cS dT (a_p1 7) o27.2.2.2.2.2.2.2.2))))))))) H := hP.perm (pw_31 (cSP a_p1) (cT dT (a_p1 1) o27.2.1) (cE dT (a_p1 2) o27.2.2.1) (cW dT (a_p1 4) o27.2.2.2.1) (cW dT (a_p1 5) o27.2.2.2.2.1) (cP dT (a_p1 8) o27.2.2.2.2.2.1) (cP dT (a_p1 9) o27.2.2.2.2.2.2.1) (cH dT (a_p1 6) o27.2.2.2.2.2.2.2.1) (cS dT (a_p1 7) o27.2.2.2.2.2.2.2.2))
      have hD : va_D A (cSP a_p1 ++ (cT dT (a_p1 1) o27.2.1 ++ (cE dT (a_p1 2) o27.2.2.1 ++ (cW dT (a_p1 4) o27.2.2.2.1 ++ (cW dT (a_p1 5) o27.2.2.2.2.1 ++ (cP dT (a_p1 8) o27.2.2.2.2.2.1 ++ (cP dT (a_p1 9) o27.2.2.2.2.2.2.1 ++ (cH dT (a_p1 6) o27.2.2.2.2.2.2.2.1 ++ (cS dT (a_p1 7) o27.2.2.2.2.2.2.2.2))))))))) := hD.perm (pw_31 (cSP a_p1) (cT dT (a_p1 1) o27.2.1) (cE dT (a_p1 2) o27.2.2.1) (cW dT (a_p1 4) o27.2.2.2.1) (cW dT (a_p1 5) o27.2.2.2.2.1) (cP dT (a_p1 8) o27.2.2.2.2.2.1) (cP dT (a_p1 9) o27.2.2.2.2.2.2.1) (cH dT (a_p1 6) o27.2.2.2.2.2.2.2.1) (cS dT (a_p1 7) o27.2.2.2.2.2.2.2.2))
      refine W.widen (k := 25) (n := 150) (by omega) (by omega) ?_
      exact rt_i hx hb hr hlk hK hS ((o27.2.1, o27.2.2.1, o27.2.2.2.1, o27.2.2.2.2.1, o27.2.2.2.2.2.1, o27.2.2.2.2.2.2.1, o27.2.2.2.2.2.2.2.1, o27.2.2.2.2.2.2.2.2) : TT × TE × TW × TW × TP × TP × TH × TS) (ret2 h) hP hD dL_act_279
    replace h := iteF c6_8 h
    by_cases c6_9 : (x1 - x1 / (16 : Int32) * (16 : Int32)) = (9 : Int32)
    · replace h := iteT c6_9 h
      refine lv_tableIn (off := (238)) (tgt := 280) hx hb dL_act_42 (by rw [c6_9]; decide) (by rw [c6_9]; decide) (by rw [c6_9]; rfl) (by decide) ?_
      refine lv_aload_n hx hb dL_act_280 rfl (lv_at hl 1 rfl) ?_
      refine lv_bipush (v := 13) hx hb dL_act_281 (by decide) ?_
      refine lv_iconst (v := 0) hx hb dL_act_283 (by decide) ?_
      refine lv_iconst (v := 0) hx hb dL_act_284 (by decide) ?_
      refine lv_iconst (v := 0) hx hb dL_act_285 (by decide) ?_
      obtain ⟨o28, e28, h⟩ := obind h
      have hPq : va_P D vwCl ((cSP a_p1 ++ (cT dT (a_p1 1) g_p1_text ++ (cE dT (a_p1 2) g_p1_entryReader ++ (cW dT (a_p1 4) g_p1_world ++ (cW dT (a_p1 5) g_p1_copy ++ (cP dT (a_p1 8) g_p1_chosen ++ (cP dT (a_p1 9) g_p1_other ++ (cH dT (a_p1 6) g_p1_history ++ (cS dT (a_p1 7) g_p1_slots))))))))) ++ ([] : va_W)) _ := hP.perm (pw_30 (cSP a_p1) (cT dT (a_p1 1) g_p1_text) (cE dT (a_p1 2) g_p1_entryReader) (cW dT (a_p1 4) g_p1_world) (cW dT (a_p1 5) g_p1_copy) (cP dT (a_p1 8) g_p1_chosen) (cP dT (a_p1 9) g_p1_other) (cH dT (a_p1 6) g_p1_history) (cS dT (a_p1 7) g_p1_slots))
      have hDq : va_D A ((cSP a_p1 ++ (cT dT (a_p1 1) g_p1_text ++ (cE dT (a_p1 2) g_p1_entryReader ++ (cW dT (a_p1 4) g_p1_world ++ (cW dT (a_p1 5) g_p1_copy ++ (cP dT (a_p1 8) g_p1_chosen ++ (cP dT (a_p1 9) g_p1_other ++ (cH dT (a_p1 6) g_p1_history ++ (cS dT (a_p1 7) g_p1_slots))))))))) ++ ([] : va_W)) := hD.perm (pw_30 (cSP a_p1) (cT dT (a_p1 1) g_p1_text) (cE dT (a_p1 2) g_p1_entryReader) (cW dT (a_p1 4) g_p1_world) (cW dT (a_p1 5) g_p1_copy) (cP dT (a_p1 8) g_p1_chosen) (cP dT (a_p1 9) g_p1_other) (cH dT (a_p1 6) g_p1_history) (cS dT (a_p1 7) g_p1_slots))
      have hPc := hPq.left
      have hDc := hDq.left
      have hFc := va_freeL hDq hS hA
      refine cl_iL (wr := ([] : va_W)) (va_runS (As := [.ref (a_p1 0 0), .int (13 : Int32), .int (0 : Int32), .int (0 : Int32), .int (0 : Int32)]) (rest := []) ⟨hx, hb, hml, hown, hts⟩ (c_L_call l hlt D dT a_p1 g_p1_text g_p1_entryReader g_p1_world g_p1_copy g_p1_chosen g_p1_other g_p1_history g_p1_slots (13 : Int32) (0 : Int32) (0 : Int32) (0 : Int32) o28 e28 _) (va_cwS 5 hts (TB_S w_599 w_600 w_32 w_601) rfl rfl rfl nd_L_call ⟨Nat.le_of_ble_eq_true rfl, Nat.le_of_ble_eq_true rfl⟩) (cPre.S hPc hDc hK hE hS hFc) rfl rfl hl.1 rfl (lv_room (Nat.le_of_ble_eq_true rfl)) dL_act_286 ⟨rLe (b := 25) (by omega), rLe (b := 150) (by omega)⟩) hPq hDq hS hFc (fun r28 u28 H locs hw hP hD hS => ?_)
      obtain ⟨rfl, rfl⟩ := hw
      have hP : va_P D vwCl (cSP a_p1 ++ (cT dT (a_p1 1) o28.2.1 ++ (cE dT (a_p1 2) o28.2.2.1 ++ (cW dT (a_p1 4) o28.2.2.2.1 ++ (cW dT (a_p1 5) o28.2.2.2.2.1 ++ (cP dT (a_p1 8) o28.2.2.2.2.2.1 ++ (cP dT (a_p1 9) o28.2.2.2.2.2.2.1 ++ (cH dT (a_p1 6) o28.2.2.2.2.2.2.2.1 ++ (cS dT (a_p1 7) o28.2.2.2.2.2.2.2.2))))))))) H := hP.perm (pw_31 (cSP a_p1) (cT dT (a_p1 1) o28.2.1) (cE dT (a_p1 2) o28.2.2.1) (cW dT (a_p1 4) o28.2.2.2.1) (cW dT (a_p1 5) o28.2.2.2.2.1) (cP dT (a_p1 8) o28.2.2.2.2.2.1) (cP dT (a_p1 9) o28.2.2.2.2.2.2.1) (cH dT (a_p1 6) o28.2.2.2.2.2.2.2.1) (cS dT (a_p1 7) o28.2.2.2.2.2.2.2.2))
      have hD : va_D A (cSP a_p1 ++ (cT dT (a_p1 1) o28.2.1 ++ (cE dT (a_p1 2) o28.2.2.1 ++ (cW dT (a_p1 4) o28.2.2.2.1 ++ (cW dT (a_p1 5) o28.2.2.2.2.1 ++ (cP dT (a_p1 8) o28.2.2.2.2.2.1 ++ (cP dT (a_p1 9) o28.2.2.2.2.2.2.1 ++ (cH dT (a_p1 6) o28.2.2.2.2.2.2.2.1 ++ (cS dT (a_p1 7) o28.2.2.2.2.2.2.2.2))))))))) := hD.perm (pw_31 (cSP a_p1) (cT dT (a_p1 1) o28.2.1) (cE dT (a_p1 2) o28.2.2.1) (cW dT (a_p1 4) o28.2.2.2.1) (cW dT (a_p1 5) o28.2.2.2.2.1) (cP dT (a_p1 8) o28.2.2.2.2.2.1) (cP dT (a_p1 9) o28.2.2.2.2.2.2.1) (cH dT (a_p1 6) o28.2.2.2.2.2.2.2.1) (cS dT (a_p1 7) o28.2.2.2.2.2.2.2.2))
      refine W.widen (k := 25) (n := 150) (by omega) (by omega) ?_
      exact rt_i hx hb hr hlk hK hS ((o28.2.1, o28.2.2.1, o28.2.2.2.1, o28.2.2.2.2.1, o28.2.2.2.2.2.1, o28.2.2.2.2.2.2.1, o28.2.2.2.2.2.2.2.1, o28.2.2.2.2.2.2.2.2) : TT × TE × TW × TW × TP × TP × TH × TS) (ret2 h) hP hD dL_act_289
    replace h := iteF c6_9 h
    by_cases c6_10 : (x1 - x1 / (16 : Int32) * (16 : Int32)) = (10 : Int32)
    · replace h := iteT c6_10 h
      refine lv_tableIn (off := (248)) (tgt := 290) hx hb dL_act_42 (by rw [c6_10]; decide) (by rw [c6_10]; decide) (by rw [c6_10]; rfl) (by decide) ?_
      refine lv_aload_n hx hb dL_act_290 rfl (lv_at hl 1 rfl) ?_
      refine lv_bipush (v := 18) hx hb dL_act_291 (by decide) ?_
      refine lv_iload_n hx hb dL_act_293 rfl (lv_at hl 3 rfl) ?_
      refine lv_iconst (v := 2) hx hb dL_act_294 (by decide) ?_
      refine lv_irem hx hb dL_act_295 (by decide) ?_
      refine lv_iconst (v := 0) hx hb dL_act_296 (by decide) ?_
      refine lv_iconst (v := 0) hx hb dL_act_297 (by decide) ?_
      obtain ⟨o29, e29, h⟩ := obind h
      have hPq : va_P D vwCl ((cSP a_p1 ++ (cT dT (a_p1 1) g_p1_text ++ (cE dT (a_p1 2) g_p1_entryReader ++ (cW dT (a_p1 4) g_p1_world ++ (cW dT (a_p1 5) g_p1_copy ++ (cP dT (a_p1 8) g_p1_chosen ++ (cP dT (a_p1 9) g_p1_other ++ (cH dT (a_p1 6) g_p1_history ++ (cS dT (a_p1 7) g_p1_slots))))))))) ++ ([] : va_W)) _ := hP.perm (pw_30 (cSP a_p1) (cT dT (a_p1 1) g_p1_text) (cE dT (a_p1 2) g_p1_entryReader) (cW dT (a_p1 4) g_p1_world) (cW dT (a_p1 5) g_p1_copy) (cP dT (a_p1 8) g_p1_chosen) (cP dT (a_p1 9) g_p1_other) (cH dT (a_p1 6) g_p1_history) (cS dT (a_p1 7) g_p1_slots))
      have hDq : va_D A ((cSP a_p1 ++ (cT dT (a_p1 1) g_p1_text ++ (cE dT (a_p1 2) g_p1_entryReader ++ (cW dT (a_p1 4) g_p1_world ++ (cW dT (a_p1 5) g_p1_copy ++ (cP dT (a_p1 8) g_p1_chosen ++ (cP dT (a_p1 9) g_p1_other ++ (cH dT (a_p1 6) g_p1_history ++ (cS dT (a_p1 7) g_p1_slots))))))))) ++ ([] : va_W)) := hD.perm (pw_30 (cSP a_p1) (cT dT (a_p1 1) g_p1_text) (cE dT (a_p1 2) g_p1_entryReader) (cW dT (a_p1 4) g_p1_world) (cW dT (a_p1 5) g_p1_copy) (cP dT (a_p1 8) g_p1_chosen) (cP dT (a_p1 9) g_p1_other) (cH dT (a_p1 6) g_p1_history) (cS dT (a_p1 7) g_p1_slots))
      have hPc := hPq.left
      have hDc := hDq.left
      have hFc := va_freeL hDq hS hA
      refine cl_iL (wr := ([] : va_W)) (va_runS (As := [.ref (a_p1 0 0), .int (18 : Int32), .int (x2 - x2 / (2 : Int32) * (2 : Int32)), .int (0 : Int32), .int (0 : Int32)]) (rest := []) ⟨hx, hb, hml, hown, hts⟩ (c_L_call l hlt D dT a_p1 g_p1_text g_p1_entryReader g_p1_world g_p1_copy g_p1_chosen g_p1_other g_p1_history g_p1_slots (18 : Int32) (x2 - x2 / (2 : Int32) * (2 : Int32)) (0 : Int32) (0 : Int32) o29 e29 _) (va_cwS 5 hts (TB_S w_599 w_600 w_32 w_601) rfl rfl rfl nd_L_call ⟨Nat.le_of_ble_eq_true rfl, Nat.le_of_ble_eq_true rfl⟩) (cPre.S hPc hDc hK hE hS hFc) rfl rfl hl.1 rfl (lv_room (Nat.le_of_ble_eq_true rfl)) dL_act_298 ⟨rLe (b := 25) (by omega), rLe (b := 150) (by omega)⟩) hPq hDq hS hFc (fun r29 u29 H locs hw hP hD hS => ?_)
      obtain ⟨rfl, rfl⟩ := hw
      have hP : va_P D vwCl (cSP a_p1 ++ (cT dT (a_p1 1) o29.2.1 ++ (cE dT (a_p1 2) o29.2.2.1 ++ (cW dT (a_p1 4) o29.2.2.2.1 ++ (cW dT (a_p1 5) o29.2.2.2.2.1 ++ (cP dT (a_p1 8) o29.2.2.2.2.2.1 ++ (cP dT (a_p1 9) o29.2.2.2.2.2.2.1 ++ (cH dT (a_p1 6) o29.2.2.2.2.2.2.2.1 ++ (cS dT (a_p1 7) o29.2.2.2.2.2.2.2.2))))))))) H := hP.perm (pw_31 (cSP a_p1) (cT dT (a_p1 1) o29.2.1) (cE dT (a_p1 2) o29.2.2.1) (cW dT (a_p1 4) o29.2.2.2.1) (cW dT (a_p1 5) o29.2.2.2.2.1) (cP dT (a_p1 8) o29.2.2.2.2.2.1) (cP dT (a_p1 9) o29.2.2.2.2.2.2.1) (cH dT (a_p1 6) o29.2.2.2.2.2.2.2.1) (cS dT (a_p1 7) o29.2.2.2.2.2.2.2.2))
      have hD : va_D A (cSP a_p1 ++ (cT dT (a_p1 1) o29.2.1 ++ (cE dT (a_p1 2) o29.2.2.1 ++ (cW dT (a_p1 4) o29.2.2.2.1 ++ (cW dT (a_p1 5) o29.2.2.2.2.1 ++ (cP dT (a_p1 8) o29.2.2.2.2.2.1 ++ (cP dT (a_p1 9) o29.2.2.2.2.2.2.1 ++ (cH dT (a_p1 6) o29.2.2.2.2.2.2.2.1 ++ (cS dT (a_p1 7) o29.2.2.2.2.2.2.2.2))))))))) := hD.perm (pw_31 (cSP a_p1) (cT dT (a_p1 1) o29.2.1) (cE dT (a_p1 2) o29.2.2.1) (cW dT (a_p1 4) o29.2.2.2.1) (cW dT (a_p1 5) o29.2.2.2.2.1) (cP dT (a_p1 8) o29.2.2.2.2.2.1) (cP dT (a_p1 9) o29.2.2.2.2.2.2.1) (cH dT (a_p1 6) o29.2.2.2.2.2.2.2.1) (cS dT (a_p1 7) o29.2.2.2.2.2.2.2.2))
      refine W.widen (k := 25) (n := 150) (by omega) (by omega) ?_
      exact rt_i hx hb hr hlk hK hS ((o29.2.1, o29.2.2.1, o29.2.2.2.1, o29.2.2.2.2.1, o29.2.2.2.2.2.1, o29.2.2.2.2.2.2.1, o29.2.2.2.2.2.2.2.1, o29.2.2.2.2.2.2.2.2) : TT × TE × TW × TW × TP × TP × TH × TS) (ret2 h) hP hD dL_act_301
    replace h := iteF c6_10 h
    by_cases c6_11 : (x1 - x1 / (16 : Int32) * (16 : Int32)) = (11 : Int32)
    · replace h := iteT c6_11 h
      refine lv_tableIn (off := (260)) (tgt := 302) hx hb dL_act_42 (by rw [c6_11]; decide) (by rw [c6_11]; decide) (by rw [c6_11]; rfl) (by decide) ?_
      refine lv_aload_n hx hb dL_act_302 rfl (lv_at hl 1 rfl) ?_
      refine lv_bipush (v := 19) hx hb dL_act_303 (by decide) ?_
      refine lv_iload_n hx hb dL_act_305 rfl (lv_at hl 3 rfl) ?_
      refine lv_iconst (v := 2) hx hb dL_act_306 (by decide) ?_
      refine lv_irem hx hb dL_act_307 (by decide) ?_
      refine lv_iconst (v := 0) hx hb dL_act_308 (by decide) ?_
      refine lv_iconst (v := 0) hx hb dL_act_309 (by decide) ?_
      obtain ⟨o30, e30, h⟩ := obind h
      have hPq : va_P D vwCl ((cSP a_p1 ++ (cT dT (a_p1 1) g_p1_text ++ (cE dT (a_p1 2) g_p1_entryReader ++ (cW dT (a_p1 4) g_p1_world ++ (cW dT (a_p1 5) g_p1_copy ++ (cP dT (a_p1 8) g_p1_chosen ++ (cP dT (a_p1 9) g_p1_other ++ (cH dT (a_p1 6) g_p1_history ++ (cS dT (a_p1 7) g_p1_slots))))))))) ++ ([] : va_W)) _ := hP.perm (pw_30 (cSP a_p1) (cT dT (a_p1 1) g_p1_text) (cE dT (a_p1 2) g_p1_entryReader) (cW dT (a_p1 4) g_p1_world) (cW dT (a_p1 5) g_p1_copy) (cP dT (a_p1 8) g_p1_chosen) (cP dT (a_p1 9) g_p1_other) (cH dT (a_p1 6) g_p1_history) (cS dT (a_p1 7) g_p1_slots))
      have hDq : va_D A ((cSP a_p1 ++ (cT dT (a_p1 1) g_p1_text ++ (cE dT (a_p1 2) g_p1_entryReader ++ (cW dT (a_p1 4) g_p1_world ++ (cW dT (a_p1 5) g_p1_copy ++ (cP dT (a_p1 8) g_p1_chosen ++ (cP dT (a_p1 9) g_p1_other ++ (cH dT (a_p1 6) g_p1_history ++ (cS dT (a_p1 7) g_p1_slots))))))))) ++ ([] : va_W)) := hD.perm (pw_30 (cSP a_p1) (cT dT (a_p1 1) g_p1_text) (cE dT (a_p1 2) g_p1_entryReader) (cW dT (a_p1 4) g_p1_world) (cW dT (a_p1 5) g_p1_copy) (cP dT (a_p1 8) g_p1_chosen) (cP dT (a_p1 9) g_p1_other) (cH dT (a_p1 6) g_p1_history) (cS dT (a_p1 7) g_p1_slots))
      have hPc := hPq.left
      have hDc := hDq.left
      have hFc := va_freeL hDq hS hA
      refine cl_iL (wr := ([] : va_W)) (va_runS (As := [.ref (a_p1 0 0), .int (19 : Int32), .int (x2 - x2 / (2 : Int32) * (2 : Int32)), .int (0 : Int32), .int (0 : Int32)]) (rest := []) ⟨hx, hb, hml, hown, hts⟩ (c_L_call l hlt D dT a_p1 g_p1_text g_p1_entryReader g_p1_world g_p1_copy g_p1_chosen g_p1_other g_p1_history g_p1_slots (19 : Int32) (x2 - x2 / (2 : Int32) * (2 : Int32)) (0 : Int32) (0 : Int32) o30 e30 _) (va_cwS 5 hts (TB_S w_599 w_600 w_32 w_601) rfl rfl rfl nd_L_call ⟨Nat.le_of_ble_eq_true rfl, Nat.le_of_ble_eq_true rfl⟩) (cPre.S hPc hDc hK hE hS hFc) rfl rfl hl.1 rfl (lv_room (Nat.le_of_ble_eq_true rfl)) dL_act_310 ⟨rLe (b := 25) (by omega), rLe (b := 150) (by omega)⟩) hPq hDq hS hFc (fun r30 u30 H locs hw hP hD hS => ?_)
      obtain ⟨rfl, rfl⟩ := hw
      have hP : va_P D vwCl (cSP a_p1 ++ (cT dT (a_p1 1) o30.2.1 ++ (cE dT (a_p1 2) o30.2.2.1 ++ (cW dT (a_p1 4) o30.2.2.2.1 ++ (cW dT (a_p1 5) o30.2.2.2.2.1 ++ (cP dT (a_p1 8) o30.2.2.2.2.2.1 ++ (cP dT (a_p1 9) o30.2.2.2.2.2.2.1 ++ (cH dT (a_p1 6) o30.2.2.2.2.2.2.2.1 ++ (cS dT (a_p1 7) o30.2.2.2.2.2.2.2.2))))))))) H := hP.perm (pw_31 (cSP a_p1) (cT dT (a_p1 1) o30.2.1) (cE dT (a_p1 2) o30.2.2.1) (cW dT (a_p1 4) o30.2.2.2.1) (cW dT (a_p1 5) o30.2.2.2.2.1) (cP dT (a_p1 8) o30.2.2.2.2.2.1) (cP dT (a_p1 9) o30.2.2.2.2.2.2.1) (cH dT (a_p1 6) o30.2.2.2.2.2.2.2.1) (cS dT (a_p1 7) o30.2.2.2.2.2.2.2.2))
      have hD : va_D A (cSP a_p1 ++ (cT dT (a_p1 1) o30.2.1 ++ (cE dT (a_p1 2) o30.2.2.1 ++ (cW dT (a_p1 4) o30.2.2.2.1 ++ (cW dT (a_p1 5) o30.2.2.2.2.1 ++ (cP dT (a_p1 8) o30.2.2.2.2.2.1 ++ (cP dT (a_p1 9) o30.2.2.2.2.2.2.1 ++ (cH dT (a_p1 6) o30.2.2.2.2.2.2.2.1 ++ (cS dT (a_p1 7) o30.2.2.2.2.2.2.2.2))))))))) := hD.perm (pw_31 (cSP a_p1) (cT dT (a_p1 1) o30.2.1) (cE dT (a_p1 2) o30.2.2.1) (cW dT (a_p1 4) o30.2.2.2.1) (cW dT (a_p1 5) o30.2.2.2.2.1) (cP dT (a_p1 8) o30.2.2.2.2.2.1) (cP dT (a_p1 9) o30.2.2.2.2.2.2.1) (cH dT (a_p1 6) o30.2.2.2.2.2.2.2.1) (cS dT (a_p1 7) o30.2.2.2.2.2.2.2.2))
      refine W.widen (k := 25) (n := 150) (by omega) (by omega) ?_
      exact rt_i hx hb hr hlk hK hS ((o30.2.1, o30.2.2.1, o30.2.2.2.1, o30.2.2.2.2.1, o30.2.2.2.2.2.1, o30.2.2.2.2.2.2.1, o30.2.2.2.2.2.2.2.1, o30.2.2.2.2.2.2.2.2) : TT × TE × TW × TW × TP × TP × TH × TS) (ret2 h) hP hD dL_act_313
    replace h := iteF c6_11 h
    by_cases c6_12 : (x1 - x1 / (16 : Int32) * (16 : Int32)) = (12 : Int32)
    · replace h := iteT c6_12 h
      refine lv_tableIn (off := (272)) (tgt := 314) hx hb dL_act_42 (by rw [c6_12]; decide) (by rw [c6_12]; decide) (by rw [c6_12]; rfl) (by decide) ?_
      refine lv_aload_n hx hb dL_act_314 rfl (lv_at hl 1 rfl) ?_
      obtain ⟨o31, e31, h⟩ := obind h
      have hPq : va_P D vwCl ((cSP a_p1 ++ (cT dT (a_p1 1) g_p1_text)) ++ (cE dT (a_p1 2) g_p1_entryReader ++ (cW dT (a_p1 4) g_p1_world ++ (cW dT (a_p1 5) g_p1_copy ++ (cP dT (a_p1 8) g_p1_chosen ++ (cP dT (a_p1 9) g_p1_other ++ (cH dT (a_p1 6) g_p1_history ++ (cS dT (a_p1 7) g_p1_slots)))))))) _ := hP.perm (pw_12 (cSP a_p1) (cT dT (a_p1 1) g_p1_text) (cE dT (a_p1 2) g_p1_entryReader) (cW dT (a_p1 4) g_p1_world) (cW dT (a_p1 5) g_p1_copy) (cP dT (a_p1 8) g_p1_chosen) (cP dT (a_p1 9) g_p1_other) (cH dT (a_p1 6) g_p1_history) (cS dT (a_p1 7) g_p1_slots))
      have hDq : va_D A ((cSP a_p1 ++ (cT dT (a_p1 1) g_p1_text)) ++ (cE dT (a_p1 2) g_p1_entryReader ++ (cW dT (a_p1 4) g_p1_world ++ (cW dT (a_p1 5) g_p1_copy ++ (cP dT (a_p1 8) g_p1_chosen ++ (cP dT (a_p1 9) g_p1_other ++ (cH dT (a_p1 6) g_p1_history ++ (cS dT (a_p1 7) g_p1_slots)))))))) := hD.perm (pw_12 (cSP a_p1) (cT dT (a_p1 1) g_p1_text) (cE dT (a_p1 2) g_p1_entryReader) (cW dT (a_p1 4) g_p1_world) (cW dT (a_p1 5) g_p1_copy) (cP dT (a_p1 8) g_p1_chosen) (cP dT (a_p1 9) g_p1_other) (cH dT (a_p1 6) g_p1_history) (cS dT (a_p1 7) g_p1_slots))
      have hPc := hPq.left
      have hDc := hDq.left
      have hFc := va_freeL hDq hS hA
      refine cl_iL (wr := (cE dT (a_p1 2) g_p1_entryReader ++ (cW dT (a_p1 4) g_p1_world ++ (cW dT (a_p1 5) g_p1_copy ++ (cP dT (a_p1 8) g_p1_chosen ++ (cP dT (a_p1 9) g_p1_other ++ (cH dT (a_p1 6) g_p1_history ++ (cS dT (a_p1 7) g_p1_slots)))))))) (va_runV (As := []) (rest := []) ⟨hx, hb, hml, hown, hts⟩ (c_X8_clearText l hlt D dT a_p1 g_p1_text o31 e31 _) (cwV 0 hts (TB_V w_1058 w_1059 w_1060 w_33 w_1061) rfl rfl rfl ⟨rfl, nd_X8_clearText⟩ ⟨Nat.le_of_ble_eq_true rfl, Nat.le_of_ble_eq_true rfl⟩) (cPre.V hPc hDc hK hE hS hFc (va_recv hK hPc (ci := 7) (q0 := 0) rfl rfl)) rfl rfl hl.1 rfl (lv_room (Nat.le_of_ble_eq_true rfl)) dL_act_315 ⟨rLe (b := 25) (by omega), rLe (b := 150) (by omega)⟩) hPq hDq hS hFc (fun r31 u31 H locs hw hP hD hS => ?_)
      obtain ⟨rfl, rfl⟩ := hw
      have hP : va_P D vwCl (cSP a_p1 ++ (cT dT (a_p1 1) o31.2 ++ (cE dT (a_p1 2) g_p1_entryReader ++ (cW dT (a_p1 4) g_p1_world ++ (cW dT (a_p1 5) g_p1_copy ++ (cP dT (a_p1 8) g_p1_chosen ++ (cP dT (a_p1 9) g_p1_other ++ (cH dT (a_p1 6) g_p1_history ++ (cS dT (a_p1 7) g_p1_slots))))))))) H := hP.perm (pw_13 (cSP a_p1) (cT dT (a_p1 1) o31.2) (cE dT (a_p1 2) g_p1_entryReader) (cW dT (a_p1 4) g_p1_world) (cW dT (a_p1 5) g_p1_copy) (cP dT (a_p1 8) g_p1_chosen) (cP dT (a_p1 9) g_p1_other) (cH dT (a_p1 6) g_p1_history) (cS dT (a_p1 7) g_p1_slots))
      have hD : va_D A (cSP a_p1 ++ (cT dT (a_p1 1) o31.2 ++ (cE dT (a_p1 2) g_p1_entryReader ++ (cW dT (a_p1 4) g_p1_world ++ (cW dT (a_p1 5) g_p1_copy ++ (cP dT (a_p1 8) g_p1_chosen ++ (cP dT (a_p1 9) g_p1_other ++ (cH dT (a_p1 6) g_p1_history ++ (cS dT (a_p1 7) g_p1_slots))))))))) := hD.perm (pw_13 (cSP a_p1) (cT dT (a_p1 1) o31.2) (cE dT (a_p1 2) g_p1_entryReader) (cW dT (a_p1 4) g_p1_world) (cW dT (a_p1 5) g_p1_copy) (cP dT (a_p1 8) g_p1_chosen) (cP dT (a_p1 9) g_p1_other) (cH dT (a_p1 6) g_p1_history) (cS dT (a_p1 7) g_p1_slots))
      refine lv_pop hx hb dL_act_318 rfl ?_
      refine lv_aload_n hx hb dL_act_319 rfl (lv_at hl 1 rfl) ?_
      refine lv_iconst (v := 0) hx hb dL_act_320 (by decide) ?_
      refine lv_iload_n hx hb dL_act_321 rfl (lv_at hl 3 rfl) ?_
      refine lv_iconst (v := 4) hx hb dL_act_322 (by decide) ?_
      refine lv_irem hx hb dL_act_323 (by decide) ?_
      refine lv_if_ne (tgt := 332) hx hb dL_act_324 (by decide) (fun c32 => ?_) (fun c32 => ?_)
      · replace h := iteF c32 h
        refine lv_bipush (v := 48) hx hb dL_act_332 (by decide) ?_
        refine lv_iload_n hx hb dL_act_334 rfl (lv_at hl 3 rfl) ?_
        refine lv_bipush (v := 7) hx hb dL_act_335 (by decide) ?_
        refine lv_irem hx hb dL_act_337 (by decide) ?_
        refine lv_iadd hx hb dL_act_338 ?_
        refine L_f_L_act_J339 _ _ (by omega) (by omega)  x2 ((48 : Int32) + (x2 - x2 / (7 : Int32) * (7 : Int32))) (0 : Int32) o31.2 g_p1_entryReader g_p1_world g_p1_copy g_p1_chosen g_p1_other g_p1_history g_p1_slots   _ _ _ h hP hD hS (lv_sub hl [1, 3] rfl)
      · replace h := iteT c32 h
        refine lv_bipush (v := 116) hx hb dL_act_327 (by decide) ?_
        refine lv_goto (tgt := 339) hx hb dL_act_329 (by decide) ?_
        refine L_f_L_act_J339 _ _ (by omega) (by omega)  x2 (116 : Int32) (0 : Int32) o31.2 g_p1_entryReader g_p1_world g_p1_copy g_p1_chosen g_p1_other g_p1_history g_p1_slots   _ _ _ h hP hD hS (lv_sub hl [1, 3] rfl)
    replace h := iteF c6_12 h
    have e6_0 : ¬ Int32.toInt (x1 - x1 / (16 : Int32) * (16 : Int32)) = (0 : Int) := fun q => c6_0 (Int32.toInt_inj.mp (q.trans (by decide)))
    have e6_1 : ¬ Int32.toInt (x1 - x1 / (16 : Int32) * (16 : Int32)) = (1 : Int) := fun q => c6_1 (Int32.toInt_inj.mp (q.trans (by decide)))
    have e6_2 : ¬ Int32.toInt (x1 - x1 / (16 : Int32) * (16 : Int32)) = (2 : Int) := fun q => c6_2 (Int32.toInt_inj.mp (q.trans (by decide)))
    have e6_3 : ¬ Int32.toInt (x1 - x1 / (16 : Int32) * (16 : Int32)) = (3 : Int) := fun q => c6_3 (Int32.toInt_inj.mp (q.trans (by decide)))
    have e6_4 : ¬ Int32.toInt (x1 - x1 / (16 : Int32) * (16 : Int32)) = (4 : Int) := fun q => c6_4 (Int32.toInt_inj.mp (q.trans (by decide)))
    have e6_5 : ¬ Int32.toInt (x1 - x1 / (16 : Int32) * (16 : Int32)) = (5 : Int) := fun q => c6_5 (Int32.toInt_inj.mp (q.trans (by decide)))
    have e6_6 : ¬ Int32.toInt (x1 - x1 / (16 : Int32) * (16 : Int32)) = (6 : Int) := fun q => c6_6 (Int32.toInt_inj.mp (q.trans (by decide)))
    have e6_7 : ¬ Int32.toInt (x1 - x1 / (16 : Int32) * (16 : Int32)) = (7 : Int) := fun q => c6_7 (Int32.toInt_inj.mp (q.trans (by decide)))
    have e6_8 : ¬ Int32.toInt (x1 - x1 / (16 : Int32) * (16 : Int32)) = (8 : Int) := fun q => c6_8 (Int32.toInt_inj.mp (q.trans (by decide)))
    have e6_9 : ¬ Int32.toInt (x1 - x1 / (16 : Int32) * (16 : Int32)) = (9 : Int) := fun q => c6_9 (Int32.toInt_inj.mp (q.trans (by decide)))
    have e6_10 : ¬ Int32.toInt (x1 - x1 / (16 : Int32) * (16 : Int32)) = (10 : Int) := fun q => c6_10 (Int32.toInt_inj.mp (q.trans (by decide)))
    have e6_11 : ¬ Int32.toInt (x1 - x1 / (16 : Int32) * (16 : Int32)) = (11 : Int) := fun q => c6_11 (Int32.toInt_inj.mp (q.trans (by decide)))
    have e6_12 : ¬ Int32.toInt (x1 - x1 / (16 : Int32) * (16 : Int32)) = (12 : Int) := fun q => c6_12 (Int32.toInt_inj.mp (q.trans (by decide)))
    refine lv_tableOut (tgt := 423) hx hb dL_act_42 (by omega) (by decide) ?_
    refine lv_aload_n hx hb dL_act_423 rfl (lv_at hl 1 rfl) ?_
    refine lv_bipush (v := 10) hx hb dL_act_424 (by decide) ?_
    refine lv_iload_n hx hb dL_act_426 rfl (lv_at hl 3 rfl) ?_
    refine lv_iconst (v := 1) hx hb dL_act_427 (by decide) ?_
    refine lv_iload_n hx hb dL_act_428 rfl (lv_at hl 4 rfl) ?_
    refine lv_ishl hx hb dL_act_429 ?_
    obtain ⟨g40, h⟩ := chn h
    refine lv_irem hx hb dL_act_430 g40 ?_
    refine lv_iconst (v := 0) hx hb dL_act_431 (by decide) ?_
    refine lv_iconst (v := 0) hx hb dL_act_432 (by decide) ?_
    obtain ⟨o41, e41, h⟩ := obind h
    have hPq : va_P D vwCl ((cSP a_p1 ++ (cT dT (a_p1 1) g_p1_text ++ (cE dT (a_p1 2) g_p1_entryReader ++ (cW dT (a_p1 4) g_p1_world ++ (cW dT (a_p1 5) g_p1_copy ++ (cP dT (a_p1 8) g_p1_chosen ++ (cP dT (a_p1 9) g_p1_other ++ (cH dT (a_p1 6) g_p1_history ++ (cS dT (a_p1 7) g_p1_slots))))))))) ++ ([] : va_W)) _ := hP.perm (pw_30 (cSP a_p1) (cT dT (a_p1 1) g_p1_text) (cE dT (a_p1 2) g_p1_entryReader) (cW dT (a_p1 4) g_p1_world) (cW dT (a_p1 5) g_p1_copy) (cP dT (a_p1 8) g_p1_chosen) (cP dT (a_p1 9) g_p1_other) (cH dT (a_p1 6) g_p1_history) (cS dT (a_p1 7) g_p1_slots))
    have hDq : va_D A ((cSP a_p1 ++ (cT dT (a_p1 1) g_p1_text ++ (cE dT (a_p1 2) g_p1_entryReader ++ (cW dT (a_p1 4) g_p1_world ++ (cW dT (a_p1 5) g_p1_copy ++ (cP dT (a_p1 8) g_p1_chosen ++ (cP dT (a_p1 9) g_p1_other ++ (cH dT (a_p1 6) g_p1_history ++ (cS dT (a_p1 7) g_p1_slots))))))))) ++ ([] : va_W)) := hD.perm (pw_30 (cSP a_p1) (cT dT (a_p1 1) g_p1_text) (cE dT (a_p1 2) g_p1_entryReader) (cW dT (a_p1 4) g_p1_world) (cW dT (a_p1 5) g_p1_copy) (cP dT (a_p1 8) g_p1_chosen) (cP dT (a_p1 9) g_p1_other) (cH dT (a_p1 6) g_p1_history) (cS dT (a_p1 7) g_p1_slots))
    have hPc := hPq.left
    have hDc := hDq.left
    have hFc := va_freeL hDq hS hA
    refine cl_iL (wr := ([] : va_W)) (va_runS (As := [.ref (a_p1 0 0), .int (10 : Int32), .int (x2 - x2 / ((1 : Int32) <<< (x3 &&& 31)) * ((1 : Int32) <<< (x3 &&& 31))), .int (0 : Int32), .int (0 : Int32)]) (rest := []) ⟨hx, hb, hml, hown, hts⟩ (c_L_call l hlt D dT a_p1 g_p1_text g_p1_entryReader g_p1_world g_p1_copy g_p1_chosen g_p1_other g_p1_history g_p1_slots (10 : Int32) (x2 - x2 / ((1 : Int32) <<< (x3 &&& 31)) * ((1 : Int32) <<< (x3 &&& 31))) (0 : Int32) (0 : Int32) o41 e41 _) (va_cwS 5 hts (TB_S w_599 w_600 w_32 w_601) rfl rfl rfl nd_L_call ⟨Nat.le_of_ble_eq_true rfl, Nat.le_of_ble_eq_true rfl⟩) (cPre.S hPc hDc hK hE hS hFc) rfl rfl hl.1 rfl (lv_room (Nat.le_of_ble_eq_true rfl)) dL_act_433 ⟨rLe (b := 25) (by omega), rLe (b := 150) (by omega)⟩) hPq hDq hS hFc (fun r41 u41 H locs hw hP hD hS => ?_)
    obtain ⟨rfl, rfl⟩ := hw
    have hP : va_P D vwCl (cSP a_p1 ++ (cT dT (a_p1 1) o41.2.1 ++ (cE dT (a_p1 2) o41.2.2.1 ++ (cW dT (a_p1 4) o41.2.2.2.1 ++ (cW dT (a_p1 5) o41.2.2.2.2.1 ++ (cP dT (a_p1 8) o41.2.2.2.2.2.1 ++ (cP dT (a_p1 9) o41.2.2.2.2.2.2.1 ++ (cH dT (a_p1 6) o41.2.2.2.2.2.2.2.1 ++ (cS dT (a_p1 7) o41.2.2.2.2.2.2.2.2))))))))) H := hP.perm (pw_31 (cSP a_p1) (cT dT (a_p1 1) o41.2.1) (cE dT (a_p1 2) o41.2.2.1) (cW dT (a_p1 4) o41.2.2.2.1) (cW dT (a_p1 5) o41.2.2.2.2.1) (cP dT (a_p1 8) o41.2.2.2.2.2.1) (cP dT (a_p1 9) o41.2.2.2.2.2.2.1) (cH dT (a_p1 6) o41.2.2.2.2.2.2.2.1) (cS dT (a_p1 7) o41.2.2.2.2.2.2.2.2))
    have hD : va_D A (cSP a_p1 ++ (cT dT (a_p1 1) o41.2.1 ++ (cE dT (a_p1 2) o41.2.2.1 ++ (cW dT (a_p1 4) o41.2.2.2.1 ++ (cW dT (a_p1 5) o41.2.2.2.2.1 ++ (cP dT (a_p1 8) o41.2.2.2.2.2.1 ++ (cP dT (a_p1 9) o41.2.2.2.2.2.2.1 ++ (cH dT (a_p1 6) o41.2.2.2.2.2.2.2.1 ++ (cS dT (a_p1 7) o41.2.2.2.2.2.2.2.2))))))))) := hD.perm (pw_31 (cSP a_p1) (cT dT (a_p1 1) o41.2.1) (cE dT (a_p1 2) o41.2.2.1) (cW dT (a_p1 4) o41.2.2.2.1) (cW dT (a_p1 5) o41.2.2.2.2.1) (cP dT (a_p1 8) o41.2.2.2.2.2.1) (cP dT (a_p1 9) o41.2.2.2.2.2.2.1) (cH dT (a_p1 6) o41.2.2.2.2.2.2.2.1) (cS dT (a_p1 7) o41.2.2.2.2.2.2.2.2))
    refine W.widen (k := 25) (n := 150) (by omega) (by omega) ?_
    exact rt_i hx hb hr hlk hK hS ((o41.2.1, o41.2.2.1, o41.2.2.2.1, o41.2.2.2.2.1, o41.2.2.2.2.2.1, o41.2.2.2.2.2.2.1, o41.2.2.2.2.2.2.2.1, o41.2.2.2.2.2.2.2.2) : TT × TE × TW × TW × TP × TP × TH × TS) (ret2 h) hP hD dL_act_436
  have L_f_L_act_J20 : ∀ (nc ns : Nat) (hnc : nc + 20 ≤ 25) (hns : ns + 120 ≤ 150)  (x1 : Int32) (x2 : Int32) (x3 : Int32) (s0 : Int32) (g_p1_text : TT) (g_p1_entryReader : TE) (g_p1_world : TW) (g_p1_copy : TW) (g_p1_chosen : TP) (g_p1_other : TP) (g_p1_history : TH) (g_p1_slots : TS)   (H : Heap) (locs : List Loc) (ls : Array Slot), f_L_act_J20   x1 x2 x3 s0 g_p1_text g_p1_entryReader g_p1_world g_p1_copy g_p1_chosen g_p1_other g_p1_history g_p1_slots = some o → va_P D vwCl (cSP a_p1 ++ (cT dT (a_p1 1) g_p1_text ++ (cE dT (a_p1 2) g_p1_entryReader ++ (cW dT (a_p1 4) g_p1_world ++ (cW dT (a_p1 5) g_p1_copy ++ (cP dT (a_p1 8) g_p1_chosen ++ (cP dT (a_p1 9) g_p1_other ++ (cH dT (a_p1 6) g_p1_history ++ (cS dT (a_p1 7) g_p1_slots))))))))) H → va_D A (cSP a_p1 ++ (cT dT (a_p1 1) g_p1_text ++ (cE dT (a_p1 2) g_p1_entryReader ++ (cW dT (a_p1 4) g_p1_world ++ (cW dT (a_p1 5) g_p1_copy ++ (cP dT (a_p1 8) g_p1_chosen ++ (cP dT (a_p1 9) g_p1_other ++ (cH dT (a_p1 6) g_p1_history ++ (cS dT (a_p1 7) g_p1_slots))))))))) → va_S A s.heap H locs → lv_has ls 6 [(0, .ref (a_p1 0 0)), (1, .int x1), (2, .int x2), (3, .int x3)] → W p l e (headSpec (WSm yL_act cL_act 6 (some .int)) { frames := 11, cells := 25, slots := 150, locals := 214 }).room s m [.ref (a_p1 0 0), .int v1, .int v2].toArray below meth c H locs nc ns (MQ below (va_Qi (fun (r : Int32) (u : TT × TE × TW × TW × TP × TP × TH × TS) => r = o.1 ∧ u = o.2) (fun u t => cAt D dT A (cSP a_p1 ++ (cT dT (a_p1 1) (u.1) ++ (cE dT (a_p1 2) (u.2.1) ++ (cW dT (a_p1 4) (u.2.2.1) ++ (cW dT (a_p1 5) (u.2.2.2.1) ++ (cP dT (a_p1 8) (u.2.2.2.2.1) ++ (cP dT (a_p1 9) (u.2.2.2.2.2.1) ++ (cH dT (a_p1 6) (u.2.2.2.2.2.2.1) ++ (cS dT (a_p1 7) (u.2.2.2.2.2.2.2)))))))))) t) A) [.ref (a_p1 0 0), .int v1, .int v2].toArray s 25 150 A) (F0 m 20 ls [.int s0]) := by
    intro nc ns hnc hns  x1 x2 x3 s0 g_p1_text g_p1_entryReader g_p1_world g_p1_copy g_p1_chosen g_p1_other g_p1_history g_p1_slots   H locs ls h hP hD hS hl
    unfold f_L_act_J20 at h
    refine lv_istore (lv' := [(4, .int s0), (0, .ref (a_p1 0 0)), (1, .int x1), (2, .int x2), (3, .int x3)]) hx hb dL_act_20 hl (by decide) rfl (fun ls hl => ?_)
    refine lv_iload_n hx hb dL_act_22 rfl (lv_at hl 4 rfl) ?_
    refine lv_if_ne (tgt := 30) hx hb dL_act_23 (by decide) (fun c4 => ?_) (fun c4 => ?_)
    · replace h := iteF c4 h
      refine lv_iload_n hx hb dL_act_30 rfl (lv_at hl 3 rfl) ?_
      refine lv_bipush (v := 8) hx hb dL_act_31 (by decide) ?_
      refine lv_idiv hx hb dL_act_33 (by decide) ?_
      refine lv_iload_n hx hb dL_act_34 rfl (lv_at hl 4 rfl) ?_
      obtain ⟨g5, h⟩ := chn h
      refine lv_irem hx hb dL_act_35 g5 ?_
      refine L_f_L_act_J36 _ _ (by omega) (by omega)  x1 x2 x3 s0 ((x2 / (8 : Int32)) - (x2 / (8 : Int32)) / x3 * x3) g_p1_text g_p1_entryReader g_p1_world g_p1_copy g_p1_chosen g_p1_other g_p1_history g_p1_slots   _ _ _ h hP hD hS (lv_sub hl [1, 2, 3, 4, 0] rfl)
    · replace h := iteT c4 h
      refine lv_iconst (v := 0) hx hb dL_act_26 (by decide) ?_
      refine lv_goto (tgt := 36) hx hb dL_act_27 (by decide) ?_
      refine L_f_L_act_J36 _ _ (by omega) (by omega)  x1 x2 x3 s0 (0 : Int32) g_p1_text g_p1_entryReader g_p1_world g_p1_copy g_p1_chosen g_p1_other g_p1_history g_p1_slots   _ _ _ h hP hD hS (lv_sub hl [1, 2, 3, 4, 0] rfl)
  unfold f_L_act at h
  refine lv_aload_n hx hb dL_act_0 rfl (lv_at hl 0 rfl) ?_
  refine lv_iconst (v := 2) hx hb dL_act_1 (by decide) ?_
  refine lv_iconst (v := 0) hx hb dL_act_2 (by decide) ?_
  refine lv_iconst (v := 0) hx hb dL_act_3 (by decide) ?_
  refine lv_iconst (v := 0) hx hb dL_act_4 (by decide) ?_
  obtain ⟨o1, e1, h⟩ := obind h
  have hPq : va_P D vwCl ((cSP a_p1 ++ (cT dT (a_p1 1) g_p1_text ++ (cE dT (a_p1 2) g_p1_entryReader ++ (cW dT (a_p1 4) g_p1_world ++ (cW dT (a_p1 5) g_p1_copy ++ (cP dT (a_p1 8) g_p1_chosen ++ (cP dT (a_p1 9) g_p1_other ++ (cH dT (a_p1 6) g_p1_history ++ (cS dT (a_p1 7) g_p1_slots))))))))) ++ ([] : va_W)) _ := hP.perm (pw_30 (cSP a_p1) (cT dT (a_p1 1) g_p1_text) (cE dT (a_p1 2) g_p1_entryReader) (cW dT (a_p1 4) g_p1_world) (cW dT (a_p1 5) g_p1_copy) (cP dT (a_p1 8) g_p1_chosen) (cP dT (a_p1 9) g_p1_other) (cH dT (a_p1 6) g_p1_history) (cS dT (a_p1 7) g_p1_slots))
  have hDq : va_D A ((cSP a_p1 ++ (cT dT (a_p1 1) g_p1_text ++ (cE dT (a_p1 2) g_p1_entryReader ++ (cW dT (a_p1 4) g_p1_world ++ (cW dT (a_p1 5) g_p1_copy ++ (cP dT (a_p1 8) g_p1_chosen ++ (cP dT (a_p1 9) g_p1_other ++ (cH dT (a_p1 6) g_p1_history ++ (cS dT (a_p1 7) g_p1_slots))))))))) ++ ([] : va_W)) := hD.perm (pw_30 (cSP a_p1) (cT dT (a_p1 1) g_p1_text) (cE dT (a_p1 2) g_p1_entryReader) (cW dT (a_p1 4) g_p1_world) (cW dT (a_p1 5) g_p1_copy) (cP dT (a_p1 8) g_p1_chosen) (cP dT (a_p1 9) g_p1_other) (cH dT (a_p1 6) g_p1_history) (cS dT (a_p1 7) g_p1_slots))
  have hPc := hPq.left
  have hDc := hDq.left
  have hFc := va_freeL hDq hS hA
  refine cl_iL (wr := ([] : va_W)) (va_runS (As := [.ref (a_p1 0 0), .int (2 : Int32), .int (0 : Int32), .int (0 : Int32), .int (0 : Int32)]) (rest := []) ⟨hx, hb, hml, hown, hts⟩ (c_L_call l hlt D dT a_p1 g_p1_text g_p1_entryReader g_p1_world g_p1_copy g_p1_chosen g_p1_other g_p1_history g_p1_slots (2 : Int32) (0 : Int32) (0 : Int32) (0 : Int32) o1 e1 _) (va_cwS 5 hts (TB_S w_599 w_600 w_32 w_601) rfl rfl rfl nd_L_call ⟨Nat.le_of_ble_eq_true rfl, Nat.le_of_ble_eq_true rfl⟩) (cPre.S hPc hDc hK hE hS hFc) rfl rfl hl.1 rfl (lv_room (Nat.le_of_ble_eq_true rfl)) dL_act_5 ⟨rLe (b := 25) (by omega), rLe (b := 150) (by omega)⟩) hPq hDq hS hFc (fun r1 u1 H locs hw hP hD hS => ?_)
  obtain ⟨rfl, rfl⟩ := hw
  have hP : va_P D vwCl (cSP a_p1 ++ (cT dT (a_p1 1) o1.2.1 ++ (cE dT (a_p1 2) o1.2.2.1 ++ (cW dT (a_p1 4) o1.2.2.2.1 ++ (cW dT (a_p1 5) o1.2.2.2.2.1 ++ (cP dT (a_p1 8) o1.2.2.2.2.2.1 ++ (cP dT (a_p1 9) o1.2.2.2.2.2.2.1 ++ (cH dT (a_p1 6) o1.2.2.2.2.2.2.2.1 ++ (cS dT (a_p1 7) o1.2.2.2.2.2.2.2.2))))))))) H := hP.perm (pw_31 (cSP a_p1) (cT dT (a_p1 1) o1.2.1) (cE dT (a_p1 2) o1.2.2.1) (cW dT (a_p1 4) o1.2.2.2.1) (cW dT (a_p1 5) o1.2.2.2.2.1) (cP dT (a_p1 8) o1.2.2.2.2.2.1) (cP dT (a_p1 9) o1.2.2.2.2.2.2.1) (cH dT (a_p1 6) o1.2.2.2.2.2.2.2.1) (cS dT (a_p1 7) o1.2.2.2.2.2.2.2.2))
  have hD : va_D A (cSP a_p1 ++ (cT dT (a_p1 1) o1.2.1 ++ (cE dT (a_p1 2) o1.2.2.1 ++ (cW dT (a_p1 4) o1.2.2.2.1 ++ (cW dT (a_p1 5) o1.2.2.2.2.1 ++ (cP dT (a_p1 8) o1.2.2.2.2.2.1 ++ (cP dT (a_p1 9) o1.2.2.2.2.2.2.1 ++ (cH dT (a_p1 6) o1.2.2.2.2.2.2.2.1 ++ (cS dT (a_p1 7) o1.2.2.2.2.2.2.2.2))))))))) := hD.perm (pw_31 (cSP a_p1) (cT dT (a_p1 1) o1.2.1) (cE dT (a_p1 2) o1.2.2.1) (cW dT (a_p1 4) o1.2.2.2.1) (cW dT (a_p1 5) o1.2.2.2.2.1) (cP dT (a_p1 8) o1.2.2.2.2.2.1) (cP dT (a_p1 9) o1.2.2.2.2.2.2.1) (cH dT (a_p1 6) o1.2.2.2.2.2.2.2.1) (cS dT (a_p1 7) o1.2.2.2.2.2.2.2.2))
  refine lv_istore_n (lv' := [(3, .int o1.1), (0, .ref (a_p1 0 0)), (1, .int v1), (2, .int v2)]) hx hb dL_act_8 rfl hl (by decide) rfl (fun ls hl => ?_)
  refine lv_iload_n hx hb dL_act_9 rfl (lv_at hl 0 rfl) ?_
  refine lv_if_ne (tgt := 17) hx hb dL_act_10 (by decide) (fun c2 => ?_) (fun c2 => ?_)
  · replace h := iteF c2 h
    refine lv_iload_n hx hb dL_act_17 rfl (lv_at hl 3 rfl) ?_
    refine lv_iload_n hx hb dL_act_18 rfl (lv_at hl 0 rfl) ?_
    obtain ⟨g3, h⟩ := chn h
    refine lv_irem hx hb dL_act_19 g3 ?_
    refine L_f_L_act_J20 _ _ (by omega) (by omega)  v1 v2 o1.1 (v2 - v2 / o1.1 * o1.1) o1.2.1 o1.2.2.1 o1.2.2.2.1 o1.2.2.2.2.1 o1.2.2.2.2.2.1 o1.2.2.2.2.2.2.1 o1.2.2.2.2.2.2.2.1 o1.2.2.2.2.2.2.2.2   _ _ _ h hP hD hS (lv_sub hl [1, 2, 3, 0] rfl)
  · replace h := iteT c2 h
    refine lv_iconst (v := 0) hx hb dL_act_13 (by decide) ?_
    refine lv_goto (tgt := 20) hx hb dL_act_14 (by decide) ?_
    refine L_f_L_act_J20 _ _ (by omega) (by omega)  v1 v2 o1.1 (0 : Int32) o1.2.1 o1.2.2.1 o1.2.2.2.1 o1.2.2.2.2.1 o1.2.2.2.2.2.1 o1.2.2.2.2.2.2.1 o1.2.2.2.2.2.2.2.1 o1.2.2.2.2.2.2.2.2   _ _ _ h hP hD hS (lv_sub hl [1, 2, 3, 0] rfl)

