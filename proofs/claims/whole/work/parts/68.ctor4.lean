section CTOR
variable {sh : List Shp} {me : Mem} {d : Nat}
set_option maxHeartbeats 4000000 in
set_option maxRecDepth 100000 in
theorem c_C_init (hs : sh[0]? = some (.inl 6)) (hn : sh.length = 1) (hz : Zr me 1) (hd : 3 ≤ d) : CN d 135 1168 mX6_init sh [.ref 0] me (shK sh ++ shSs 4) (kM me) := by
  refine CallsG.mk (L := [.ref 0, .float 0]) (by decide) (Nat.le_of_ble_eq_true rfl) rfl ?_
  have z1 : Zr me 2 := hz.up (by omega)
  have z1b : Zr (k1M me) 36 := Zr.ref (psM_zr z1 5) (by omega) (by omega)
  have z2 : Zr (k1M me) 37 := z1b.up (by omega)
  have z2b : Zr (k2M me) 71 := Zr.ref (psM_zr z2 5) (by omega) (by omega)
  have z3 : Zr (k2M me) 72 := z2b.up (by omega)
  have z3b : Zr (k3M me) 106 := Zr.ref (psM_zr z3 5) (by omega) (by omega)
  have z4 : Zr (k3M me) 107 := z3b.up (by omega)
  have z4b : Zr (k4M me) 112 := Zr.ref (refP_zr z4) (by omega) (by omega)
  have z5 : Zr (k4M me) 113 := z4b.up (by omega)
  have z5b : Zr (k5M me) 123 := Zr.ref (plM_zr z5) (by omega) (by omega)
  have z6 : Zr (k5M me) 124 := z5b.up (by omega)
  have z6b : Zr (k6M me) 125 := Zr.ref (Zr.ref (z6.up (by omega)) (by omega) (by omega)) (by omega) (by omega)
  have z7 : Zr (k6M me) 126 := z6b.up (by omega)
  have z7b : Zr (k7M me) 127 := Zr.ref (Zr.ref (z7.up (by omega)) (by omega) (by omega)) (by omega) (by omega)
  have z8 : Zr (k8M me) 128 := Zr.ref (z7b.up (by omega)) (by omega) (by omega)
  refine ld_a0 (np := 1) dX6_init_0 rfl ?_
  refine wl_obj (np := 4) dX6_init_1 rfl wl0_X6_1 (Nat.le_of_ble_eq_true rfl) (by omega) ?_
  refine ld_a0 (np := 5) dX6_init_4 rfl ?_
  refine wl_newL (np := 8) (n := 1) (F := 10) dX6_init_5 rfl nk_X6_7 rfl (by simp only [List.length_append, List.length_cons, List.length_nil, List.length_replicate, shP_len, shW4_len, shPl_len, shPs_len, shSs_len, hn] <;> omega) (hz) (by omega) (by omega) (by (repeat first | refine Rfs.ref (by omega) ?_ | refine Rfs.int ?_ | refine Rfs.flt ?_ | refine Rfs.scr ?_); exact Rfs.nil) (by (repeat first | refine Rfs.ref (by omega) ?_ | refine Rfs.int ?_ | refine Rfs.flt ?_ | refine Rfs.scr ?_); exact Rfs.nil) (by omega) (by omega) ?_
  refine wl_dup (np := 9) dX6_init_8 rfl rfl ?_
  refine wl_callI (np := 12) (n := 2) (n2 := 36) dX6_init_9 rfl lki_X6_9 (Nat.le_of_ble_eq_true rfl) (by omega) (by omega) (by omega) (by simp only [List.length_append, List.length_cons, List.length_nil, List.length_replicate, shP_len, shW4_len, shPl_len, shPs_len, shSs_len, hn] <;> omega) (by simp only [List.length_append, List.length_cons, List.length_nil, List.length_replicate, shP_len, shW4_len, shPl_len, shPs_len, shSs_len, hn] <;> omega) (by omega) (by omega) (by omega) (by (repeat first | refine Rfs.ref (by omega) ?_ | refine Rfs.int ?_ | refine Rfs.flt ?_ | refine Rfs.scr ?_); exact Rfs.nil) (by (repeat first | refine Rfs.ref (by omega) ?_ | refine Rfs.int ?_ | refine Rfs.flt ?_ | refine Rfs.scr ?_); exact Rfs.nil) (c_W_init (w := 1) (apE (by simp only [List.length_append, List.length_cons, List.length_nil, shP_len, shW4_len, shPl_len, shPs_len, shSs_len, hn] <;> omega)) (by simp only [List.length_append, List.length_cons, List.length_nil, shP_len, shW4_len, shPl_len, shPs_len, shSs_len, hn] <;> omega) z1 (by omega) (by omega)) ?_
  refine wl_putrF (np := 15) dX6_init_12 rfl fl_X6_10 (fun C T N h => by cases h; exact ⟨rfl, rfl⟩) rfl rfl (by (repeat apply apL); exact hs) ?_
  rw [show uR (psM me 1 5) 0 0 (some 1) = k1M me from rfl]
  refine ld_a0 (np := 16) dX6_init_15 rfl ?_
  refine wl_newL (np := 19) (n := 36) (F := 10) dX6_init_16 rfl nk_X6_7 rfl (by simp only [List.length_append, List.length_cons, List.length_nil, List.length_replicate, shP_len, shW4_len, shPl_len, shPs_len, shSs_len, hn] <;> omega) (z1b) (by omega) (by omega) (by (repeat first | refine Rfs.ref (by omega) ?_ | refine Rfs.int ?_ | refine Rfs.flt ?_ | refine Rfs.scr ?_); exact Rfs.nil) (by (repeat first | refine Rfs.ref (by omega) ?_ | refine Rfs.int ?_ | refine Rfs.flt ?_ | refine Rfs.scr ?_); exact Rfs.nil) (by omega) (by omega) ?_
  refine wl_dup (np := 20) dX6_init_19 rfl rfl ?_
  refine wl_callI (np := 23) (n := 37) (n2 := 71) dX6_init_20 rfl lki_X6_9 (Nat.le_of_ble_eq_true rfl) (by omega) (by omega) (by omega) (by simp only [List.length_append, List.length_cons, List.length_nil, List.length_replicate, shP_len, shW4_len, shPl_len, shPs_len, shSs_len, hn] <;> omega) (by simp only [List.length_append, List.length_cons, List.length_nil, List.length_replicate, shP_len, shW4_len, shPl_len, shPs_len, shSs_len, hn] <;> omega) (by omega) (by omega) (by omega) (by (repeat first | refine Rfs.ref (by omega) ?_ | refine Rfs.int ?_ | refine Rfs.flt ?_ | refine Rfs.scr ?_); exact Rfs.nil) (by (repeat first | refine Rfs.ref (by omega) ?_ | refine Rfs.int ?_ | refine Rfs.flt ?_ | refine Rfs.scr ?_); exact Rfs.nil) (c_W_init (w := 36) (apE (by simp only [List.length_append, List.length_cons, List.length_nil, shP_len, shW4_len, shPl_len, shPs_len, shSs_len, hn] <;> omega)) (by simp only [List.length_append, List.length_cons, List.length_nil, shP_len, shW4_len, shPl_len, shPs_len, shSs_len, hn] <;> omega) z2 (by omega) (by omega)) ?_
  refine wl_putrF (np := 26) dX6_init_23 rfl fl_X6_16 (fun C T N h => by cases h; exact ⟨rfl, rfl⟩) rfl rfl (by (repeat apply apL); exact hs) ?_
  rw [show uR (psM (k1M me) 36 5) 0 1 (some 36) = k2M me from rfl]
  refine ld_a0 (np := 27) dX6_init_26 rfl ?_
  refine wl_newL (np := 30) (n := 71) (F := 10) dX6_init_27 rfl nk_X6_7 rfl (by simp only [List.length_append, List.length_cons, List.length_nil, List.length_replicate, shP_len, shW4_len, shPl_len, shPs_len, shSs_len, hn] <;> omega) (z2b) (by omega) (by omega) (by (repeat first | refine Rfs.ref (by omega) ?_ | refine Rfs.int ?_ | refine Rfs.flt ?_ | refine Rfs.scr ?_); exact Rfs.nil) (by (repeat first | refine Rfs.ref (by omega) ?_ | refine Rfs.int ?_ | refine Rfs.flt ?_ | refine Rfs.scr ?_); exact Rfs.nil) (by omega) (by omega) ?_
  refine wl_dup (np := 31) dX6_init_30 rfl rfl ?_
  refine wl_callI (np := 34) (n := 72) (n2 := 106) dX6_init_31 rfl lki_X6_9 (Nat.le_of_ble_eq_true rfl) (by omega) (by omega) (by omega) (by simp only [List.length_append, List.length_cons, List.length_nil, List.length_replicate, shP_len, shW4_len, shPl_len, shPs_len, shSs_len, hn] <;> omega) (by simp only [List.length_append, List.length_cons, List.length_nil, List.length_replicate, shP_len, shW4_len, shPl_len, shPs_len, shSs_len, hn] <;> omega) (by omega) (by omega) (by omega) (by (repeat first | refine Rfs.ref (by omega) ?_ | refine Rfs.int ?_ | refine Rfs.flt ?_ | refine Rfs.scr ?_); exact Rfs.nil) (by (repeat first | refine Rfs.ref (by omega) ?_ | refine Rfs.int ?_ | refine Rfs.flt ?_ | refine Rfs.scr ?_); exact Rfs.nil) (c_W_init (w := 71) (apE (by simp only [List.length_append, List.length_cons, List.length_nil, shP_len, shW4_len, shPl_len, shPs_len, shSs_len, hn] <;> omega)) (by simp only [List.length_append, List.length_cons, List.length_nil, shP_len, shW4_len, shPl_len, shPs_len, shSs_len, hn] <;> omega) z3 (by omega) (by omega)) ?_
  refine wl_putrF (np := 37) dX6_init_34 rfl fl_X6_19 (fun C T N h => by cases h; exact ⟨rfl, rfl⟩) rfl rfl (by (repeat apply apL); exact hs) ?_
  rw [show uR (psM (k2M me) 71 5) 0 2 (some 71) = k3M me from rfl]
  refine ld_a0 (np := 38) dX6_init_37 rfl ?_
  refine wl_newL (np := 41) (n := 106) (F := 10) dX6_init_38 rfl nk_X6_22 rfl (by simp only [List.length_append, List.length_cons, List.length_nil, List.length_replicate, shP_len, shW4_len, shPl_len, shPs_len, shSs_len, hn] <;> omega) (z3b) (by omega) (by omega) (by (repeat first | refine Rfs.ref (by omega) ?_ | refine Rfs.int ?_ | refine Rfs.flt ?_ | refine Rfs.scr ?_); exact Rfs.nil) (by (repeat first | refine Rfs.ref (by omega) ?_ | refine Rfs.int ?_ | refine Rfs.flt ?_ | refine Rfs.scr ?_); exact Rfs.nil) (by omega) (by omega) ?_
  refine wl_dup (np := 42) dX6_init_41 rfl rfl ?_
  refine wl_callIN (np := 45) (n := 107) (n2 := 112) dX6_init_42 rfl lki_X6_24 (Nat.le_of_ble_eq_true rfl) (by omega) (by omega) (by omega) (by simp only [List.length_append, List.length_cons, List.length_nil, List.length_replicate, shP_len, shW4_len, shPl_len, shPs_len, shSs_len, hn] <;> omega) (by simp only [List.length_append, List.length_cons, List.length_nil, List.length_replicate, shP_len, shW4_len, shPl_len, shPs_len, shSs_len, hn] <;> omega) (by omega) (by omega) (by omega) (by (repeat first | refine Rfs.ref (by omega) ?_ | refine Rfs.int ?_ | refine Rfs.flt ?_ | refine Rfs.scr ?_); exact Rfs.nil) (by (repeat first | refine Rfs.ref (by omega) ?_ | refine Rfs.int ?_ | refine Rfs.flt ?_ | refine Rfs.scr ?_); exact Rfs.nil) (c_P_init (q := 106) (apE (by simp only [List.length_append, List.length_cons, List.length_nil, shP_len, shW4_len, shPl_len, shPs_len, shSs_len, hn] <;> omega)) (by simp only [List.length_append, List.length_cons, List.length_nil, shP_len, shW4_len, shPl_len, shPs_len, shSs_len, hn] <;> omega) z4 (by omega) (by omega)) ?_
  refine wl_putrF (np := 48) dX6_init_45 rfl fl_X6_25 (fun C T N h => by cases h; exact ⟨rfl, rfl⟩) rfl rfl (by (repeat apply apL); exact hs) ?_
  rw [show uR (refP (k3M me) 106) 0 3 (some 106) = k4M me from rfl]
  refine ld_a0 (np := 49) dX6_init_48 rfl ?_
  refine wl_newL (np := 52) (n := 112) (F := 7) dX6_init_49 rfl nk_X6_29 rfl (by simp only [List.length_append, List.length_cons, List.length_nil, List.length_replicate, shP_len, shW4_len, shPl_len, shPs_len, shSs_len, hn] <;> omega) (z4b) (by omega) (by omega) (by (repeat first | refine Rfs.ref (by omega) ?_ | refine Rfs.int ?_ | refine Rfs.flt ?_ | refine Rfs.scr ?_); exact Rfs.nil) (by (repeat first | refine Rfs.ref (by omega) ?_ | refine Rfs.int ?_ | refine Rfs.flt ?_ | refine Rfs.scr ?_); exact Rfs.nil) (by omega) (by omega) ?_
  refine wl_dup (np := 53) dX6_init_52 rfl rfl ?_
  refine wl_callIN (np := 56) (n := 113) (n2 := 123) dX6_init_53 rfl lki_X6_31 (Nat.le_of_ble_eq_true rfl) (by omega) (by omega) (by omega) (by simp only [List.length_append, List.length_cons, List.length_nil, List.length_replicate, shP_len, shW4_len, shPl_len, shPs_len, shSs_len, hn] <;> omega) (by simp only [List.length_append, List.length_cons, List.length_nil, List.length_replicate, shP_len, shW4_len, shPl_len, shPs_len, shSs_len, hn] <;> omega) (by omega) (by omega) (by omega) (by (repeat first | refine Rfs.ref (by omega) ?_ | refine Rfs.int ?_ | refine Rfs.flt ?_ | refine Rfs.scr ?_); exact Rfs.nil) (by (repeat first | refine Rfs.ref (by omega) ?_ | refine Rfs.int ?_ | refine Rfs.flt ?_ | refine Rfs.scr ?_); exact Rfs.nil) (c_Pl_init (q := 112) (apE (by simp only [List.length_append, List.length_cons, List.length_nil, shP_len, shW4_len, shPl_len, shPs_len, shSs_len, hn] <;> omega)) (by simp only [List.length_append, List.length_cons, List.length_nil, shP_len, shW4_len, shPl_len, shPs_len, shSs_len, hn] <;> omega) z5 (by omega) (by omega)) ?_
  refine wl_putrF (np := 59) dX6_init_56 rfl fl_X6_32 (fun C T N h => by cases h; exact ⟨rfl, rfl⟩) rfl rfl (by (repeat apply apL); exact hs) ?_
  rw [show uR (plM (k4M me) 112) 0 4 (some 112) = k5M me from rfl]
  refine ld_a0 (np := 60) dX6_init_59 rfl ?_
  refine wl_newL (np := 63) (n := 123) (F := 3) dX6_init_60 rfl nk_X6_36 rfl (by simp only [List.length_append, List.length_cons, List.length_nil, List.length_replicate, shP_len, shW4_len, shPl_len, shPs_len, shSs_len, hn] <;> omega) (z5b) (by omega) (by omega) (by (repeat first | refine Rfs.ref (by omega) ?_ | refine Rfs.int ?_ | refine Rfs.flt ?_ | refine Rfs.scr ?_); exact Rfs.nil) (by (repeat first | refine Rfs.ref (by omega) ?_ | refine Rfs.int ?_ | refine Rfs.flt ?_ | refine Rfs.scr ?_); exact Rfs.nil) (by omega) (by omega) ?_
  refine wl_dup (np := 64) dX6_init_63 rfl rfl ?_
  refine wl_callIN (np := 67) (n := 124) (n2 := 125) dX6_init_64 rfl lki_X6_38 (Nat.le_of_ble_eq_true rfl) (by omega) (by omega) (by omega) (by simp only [List.length_append, List.length_cons, List.length_nil, List.length_replicate, shP_len, shW4_len, shPl_len, shPs_len, shSs_len, hn] <;> omega) (by simp only [List.length_append, List.length_cons, List.length_nil, List.length_replicate, shP_len, shW4_len, shPl_len, shPs_len, shSs_len, hn] <;> omega) (by omega) (by omega) (by omega) (by (repeat first | refine Rfs.ref (by omega) ?_ | refine Rfs.int ?_ | refine Rfs.flt ?_ | refine Rfs.scr ?_); exact Rfs.nil) (by (repeat first | refine Rfs.ref (by omega) ?_ | refine Rfs.int ?_ | refine Rfs.flt ?_ | refine Rfs.scr ?_); exact Rfs.nil) (c_B_init (q := 123) (apE (by simp only [List.length_append, List.length_cons, List.length_nil, shP_len, shW4_len, shPl_len, shPs_len, shSs_len, hn] <;> omega)) (by simp only [List.length_append, List.length_cons, List.length_nil, shP_len, shW4_len, shPl_len, shPs_len, shSs_len, hn] <;> omega) z6 (by omega) (by omega)) ?_
  refine wl_putrF (np := 70) dX6_init_67 rfl fl_X6_39 (fun C T N h => by cases h; exact ⟨rfl, rfl⟩) rfl rfl (by (repeat apply apL); exact hs) ?_
  rw [show uR (uR (k5M me) 123 0 (some (123 + 1))) 0 5 (some 123) = k6M me from rfl]
  refine ld_a0 (np := 71) dX6_init_70 rfl ?_
  refine wl_newL (np := 74) (n := 125) (F := 3) dX6_init_71 rfl nk_X6_43 rfl (by simp only [List.length_append, List.length_cons, List.length_nil, List.length_replicate, shP_len, shW4_len, shPl_len, shPs_len, shSs_len, hn] <;> omega) (z6b) (by omega) (by omega) (by (repeat first | refine Rfs.ref (by omega) ?_ | refine Rfs.int ?_ | refine Rfs.flt ?_ | refine Rfs.scr ?_); exact Rfs.nil) (by (repeat first | refine Rfs.ref (by omega) ?_ | refine Rfs.int ?_ | refine Rfs.flt ?_ | refine Rfs.scr ?_); exact Rfs.nil) (by omega) (by omega) ?_
  refine wl_dup (np := 75) dX6_init_74 rfl rfl ?_
  refine wl_callIN (np := 78) (n := 126) (n2 := 127) dX6_init_75 rfl lki_X6_45 (Nat.le_of_ble_eq_true rfl) (by omega) (by omega) (by omega) (by simp only [List.length_append, List.length_cons, List.length_nil, List.length_replicate, shP_len, shW4_len, shPl_len, shPs_len, shSs_len, hn] <;> omega) (by simp only [List.length_append, List.length_cons, List.length_nil, List.length_replicate, shP_len, shW4_len, shPl_len, shPs_len, shSs_len, hn] <;> omega) (by omega) (by omega) (by omega) (by (repeat first | refine Rfs.ref (by omega) ?_ | refine Rfs.int ?_ | refine Rfs.flt ?_ | refine Rfs.scr ?_); exact Rfs.nil) (by (repeat first | refine Rfs.ref (by omega) ?_ | refine Rfs.int ?_ | refine Rfs.flt ?_ | refine Rfs.scr ?_); exact Rfs.nil) (c_T_init (q := 125) (apE (by simp only [List.length_append, List.length_cons, List.length_nil, shP_len, shW4_len, shPl_len, shPs_len, shSs_len, hn] <;> omega)) (by simp only [List.length_append, List.length_cons, List.length_nil, shP_len, shW4_len, shPl_len, shPs_len, shSs_len, hn] <;> omega) z7 (by omega) (by omega)) ?_
  refine wl_putrF (np := 81) dX6_init_78 rfl fl_X6_46 (fun C T N h => by cases h; exact ⟨rfl, rfl⟩) rfl rfl (by (repeat apply apL); exact hs) ?_
  rw [show uR (uR (k6M me) 125 0 (some (125 + 1))) 0 6 (some 125) = k7M me from rfl]
  refine ld_a0 (np := 82) dX6_init_81 rfl ?_
  refine wl_iconst (np := 83) (v := nI 4) dX6_init_82 rfl (rfl) ?_
  refine wl_newqL (np := 86) (n := 127) (N := 4) (t := 1) dX6_init_83 rfl rfl (by decide) (fun _ => rfl) wq_X6_50a wao_X3 (by simp only [List.length_append, List.length_cons, List.length_nil, List.length_replicate, shP_len, shW4_len, shPl_len, shPs_len, shSs_len, hn] <;> omega) (z7b) (by omega) (by omega) (by (repeat first | refine Rfs.ref (by omega) ?_ | refine Rfs.int ?_ | refine Rfs.flt ?_ | refine Rfs.scr ?_); exact Rfs.nil) (by (repeat first | refine Rfs.ref (by omega) ?_ | refine Rfs.int ?_ | refine Rfs.flt ?_ | refine Rfs.scr ?_); exact Rfs.nil) (by omega) (by omega) ?_
  refine wl_putrF (np := 89) dX6_init_86 rfl fl_X6_52 (fun C T N h => by cases h; exact ⟨rfl, rfl⟩) rfl rfl (by (repeat apply apL); exact hs) ?_
  refine wl_iconst (np := 90) (v := 0) dX6_init_89 rfl (rfl) ?_
  refine st_i1 (np := 91) dX6_init_90 rfl (by decide) rfl ?_
  have e0 : sh ++ [.inl 5] ++ shW4 ++ shPs 5 ++ [.inl 5] ++ shW4 ++ shPs 5 ++ [.inl 5] ++ shW4 ++ shPs 5 ++ [.inl 1] ++ shP ++ [.inl 2] ++ shPl ++ [.inl 0] ++ [.inr (0, 3)] ++ [.inl 4] ++ [.inr (0, 80)] ++ [.inr (1 + 1, 4)] = shK sh ++ shSs 0 := by
    show _ = shK sh ++ []
    rw [List.append_nil]
    rfl
  rw [show uR (k7M me) 0 7 (some 127) = k8M me from rfl, e0]
  have hk0 : (shK sh)[0]? = some (.inl 6) := by
    unfold shK
    repeat apply apL
    exact hs
  have hk127 : (shK sh)[127]? = some (.inr (1 + 1, 4)) := by
    unfold shK
    exact apE (by simp only [List.length_append, List.length_cons, List.length_nil, shP_len, shW4_len, shPl_len, shPs_len, shSs_len, hn] <;> omega)
  exact Wa.up (by omega) (by omega) (c_C_loop (shK_len hn) hk0 hk127 (by omega) z8 (by unfold k8M; simp [gR_uR]) hd 4 0 (by omega))
end CTOR
