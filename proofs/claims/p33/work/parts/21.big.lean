set_option maxRecDepth 100000 in
theorem w_598 : (.code yL_refuses cL_refuses 6 (some .boolean) : Cond) ∈ TB := TB_mem 598 rfl rfl
set_option maxRecDepth 100000 in
theorem w_1043 : (.code yL_alike cL_alike 7 (some .boolean) : Cond) ∈ TB := TB_mem 1043 rfl rfl
set_option maxRecDepth 100000 in
theorem w_1054 : (.code yL_holds cL_holds 22 (some .boolean) : Cond) ∈ TB := TB_mem 1054 rfl rfl
