theorem wj_X6_init : Cond.instanceMethod yX6_init ∈ WS := inWS 52 (by decide +kernel) rfl
theorem wl_L_9 : Cond.methodLink RL 9 yX6_init ∈ WS := inWS 51 (by decide +kernel) rfl
theorem lki_L_9 : LkI RL 9 mX6_init 0 := ⟨wl_L_9, wj_X6_init, rfl, ok_X6_init, rfl⟩
theorem wj_X7_init : Cond.instanceMethod yX7_init ∈ WS := inWS 673 (by decide +kernel) rfl
theorem wl_L_12 : Cond.methodLink RL 12 yX7_init ∈ WS := inWS 672 (by decide +kernel) rfl
theorem lki_L_12 : LkI RL 12 mX7_init 0 := ⟨wl_L_12, wj_X7_init, rfl, ok_X7_init, rfl⟩
theorem wq_L_7 : Cond.classLink RL 7 RX6 ∈ WS := inWS 49 (by decide +kernel) rfl
theorem wt_X6 : Cond.instantiable RX6 9 ∈ WS := inWS 50 (by decide +kernel) rfl
theorem nk_L_7 : NLk RL 7 6 := ⟨RX6, TX6, 9, tyX6, rfl, rfl, iw_X6, tyX6_ok, wq_L_7, wt_X6, wi_X6, by decide +kernel⟩
theorem wq_L_10 : Cond.classLink RL 10 RX7 ∈ WS := inWS 670 (by decide +kernel) rfl
theorem wt_X7 : Cond.instantiable RX7 28 ∈ WS := inWS 671 (by decide +kernel) rfl
theorem nk_L_10 : NLk RL 10 7 := ⟨RX7, TX7, 28, tyX7, rfl, rfl, iw_X7, tyX7_ok, wq_L_10, wt_X7, wi_X7, by decide +kernel⟩
theorem wq_X2_9a : Cond.classLink RX2 9 "[[I" ∈ WS := inWS 178 (by decide +kernel) rfl
theorem wq_X5_9a : Cond.classLink RX5 9 "DebtCoats$Person" ∈ WS := inWS 63 (by decide +kernel) rfl
theorem wj_X1_init : Cond.instanceMethod yX1_init ∈ WS := inWS 67 (by decide +kernel) rfl
theorem lki_X5_27 : LkIN RX5 27 mX1_init 0 "DebtCoats" := ⟨List.mem_of_getElem? (i := 66) (by decide +kernel), wj_X1_init, rfl, ok_X1_init, rfl⟩
theorem wq_X5_9 : Cond.classLink RX5 9 RX1 ∈ WS := inWS 63 (by decide +kernel) rfl
theorem wt_X1 : Cond.instantiable RX1 10 ∈ WS := inWS 65 (by decide +kernel) rfl
theorem nk_X5_9 : NLk RX5 9 1 := ⟨RX1, TX1, 10, tyX1, rfl, rfl, iw_X1, tyX1_ok, wq_X5_9, wt_X1, wi_X1, by decide +kernel⟩
theorem wq_X6_50a : Cond.classLink RX6 50 "DebtCoats$Sheet" ∈ WS := inWS 241 (by decide +kernel) rfl
theorem wj_X5_init : Cond.instanceMethod yX5_init ∈ WS := inWS 60 (by decide +kernel) rfl
theorem wl_X6_9 : Cond.methodLink RX6 9 yX5_init ∈ WS := inWS 59 (by decide +kernel) rfl
theorem lki_X6_9 : LkI RX6 9 mX5_init 0 := ⟨wl_X6_9, wj_X5_init, rfl, ok_X5_init, rfl⟩
theorem lki_X6_24 : LkIN RX6 24 mX1_init 0 "DebtCoats" := ⟨List.mem_of_getElem? (i := 171) (by decide +kernel), wj_X1_init, rfl, ok_X1_init, rfl⟩
theorem wj_X2_init : Cond.instanceMethod yX2_init ∈ WS := inWS 175 (by decide +kernel) rfl
theorem lki_X6_31 : LkIN RX6 31 mX2_init 0 "DebtCoats" := ⟨List.mem_of_getElem? (i := 174) (by decide +kernel), wj_X2_init, rfl, ok_X2_init, rfl⟩
theorem wj_X0_init : Cond.instanceMethod yX0_init ∈ WS := inWS 208 (by decide +kernel) rfl
theorem lki_X6_38 : LkIN RX6 38 mX0_init 0 "DebtCoats" := ⟨List.mem_of_getElem? (i := 207) (by decide +kernel), wj_X0_init, rfl, ok_X0_init, rfl⟩
theorem wj_X4_init : Cond.instanceMethod yX4_init ∈ WS := inWS 227 (by decide +kernel) rfl
theorem lki_X6_45 : LkIN RX6 45 mX4_init 0 "DebtCoats" := ⟨List.mem_of_getElem? (i := 226) (by decide +kernel), wj_X4_init, rfl, ok_X4_init, rfl⟩
theorem wj_X3_init : Cond.instanceMethod yX3_init ∈ WS := inWS 245 (by decide +kernel) rfl
theorem lki_X6_56 : LkIN RX6 56 mX3_init 0 "DebtCoats" := ⟨List.mem_of_getElem? (i := 244) (by decide +kernel), wj_X3_init, rfl, ok_X3_init, rfl⟩
theorem wq_X6_7 : Cond.classLink RX6 7 RX5 ∈ WS := inWS 57 (by decide +kernel) rfl
theorem wt_X5 : Cond.instantiable RX5 10 ∈ WS := inWS 58 (by decide +kernel) rfl
theorem nk_X6_7 : NLk RX6 7 5 := ⟨RX5, TX5, 10, tyX5, rfl, rfl, iw_X5, tyX5_ok, wq_X6_7, wt_X5, wi_X5, by decide +kernel⟩
theorem wq_X6_22 : Cond.classLink RX6 22 RX1 ∈ WS := inWS 170 (by decide +kernel) rfl
theorem nk_X6_22 : NLk RX6 22 1 := ⟨RX1, TX1, 10, tyX1, rfl, rfl, iw_X1, tyX1_ok, wq_X6_22, wt_X1, wi_X1, by decide +kernel⟩
theorem wq_X6_29 : Cond.classLink RX6 29 RX2 ∈ WS := inWS 172 (by decide +kernel) rfl
theorem wt_X2 : Cond.instantiable RX2 7 ∈ WS := inWS 173 (by decide +kernel) rfl
theorem nk_X6_29 : NLk RX6 29 2 := ⟨RX2, TX2, 7, tyX2, rfl, rfl, iw_X2, tyX2_ok, wq_X6_29, wt_X2, wi_X2, by decide +kernel⟩
theorem wq_X6_36 : Cond.classLink RX6 36 RX0 ∈ WS := inWS 205 (by decide +kernel) rfl
theorem wt_X0 : Cond.instantiable RX0 3 ∈ WS := inWS 206 (by decide +kernel) rfl
theorem nk_X6_36 : NLk RX6 36 0 := ⟨RX0, TX0, 3, tyX0, rfl, rfl, iw_X0, tyX0_ok, wq_X6_36, wt_X0, wi_X0, by decide +kernel⟩
theorem wq_X6_43 : Cond.classLink RX6 43 RX4 ∈ WS := inWS 224 (by decide +kernel) rfl
theorem wt_X4 : Cond.instantiable RX4 3 ∈ WS := inWS 225 (by decide +kernel) rfl
theorem nk_X6_43 : NLk RX6 43 4 := ⟨RX4, TX4, 3, tyX4, rfl, rfl, iw_X4, tyX4_ok, wq_X6_43, wt_X4, wi_X4, by decide +kernel⟩
theorem wq_X6_50 : Cond.classLink RX6 50 RX3 ∈ WS := inWS 241 (by decide +kernel) rfl
theorem wt_X3 : Cond.instantiable RX3 4 ∈ WS := inWS 243 (by decide +kernel) rfl
theorem nk_X6_50 : NLk RX6 50 3 := ⟨RX3, TX3, 4, tyX3, rfl, rfl, iw_X3, tyX3_ok, wq_X6_50, wt_X3, wi_X3, by decide +kernel⟩
theorem wao_X1 : Cond.arrayOver (.object "DebtCoats$Person") ∈ lw_tbl := List.mem_of_getElem? (i := 64) (by decide +kernel)
theorem wac_int : Cond.arrayClass .int ∈ WS := inWS 126 (by decide +kernel) rfl
theorem wao_int : Cond.arrayOver (.array .int) ∈ lw_tbl := List.mem_of_getElem? (i := 179) (by decide +kernel)
theorem wao_X3 : Cond.arrayOver (.object "DebtCoats$Sheet") ∈ lw_tbl := List.mem_of_getElem? (i := 242) (by decide +kernel)
