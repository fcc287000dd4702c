section CTOR
variable {sh : List Shp} {me : Mem} {d : Nat}
/-! the reference -/
def shMo : List Shp := [.inr (0, 200)] ++ [.inr (0, 200)] ++ [.inr (0, 25)] ++ [.inr (0, 12)] ++ [.inr (0, 2)] ++ [.inr (0, 8)] ++ [.inr (0, 8)] ++ [.inr (0, 80)] ++ [.inr (0, 24)] ++ [.inr (0, 6)] ++ [.inr (0, 6)] ++ [.inr (0, 40)] ++ [.inr (0, 270)] ++ [.inr (0, 4)] ++ [.inr (0, 4)] ++ [.inr (0, 96)] ++ [.inr (0, 24)]
def mo0 (me : Mem) : Mem := uR (uR (uR (uR (uR (uR (uR (uR (uR (uR (uR (uR (uR (uR (uR (uR (uR (uR me 136 1 (some 137)) 136 2 (some 138)) 136 3 (some 137)) 136 4 (some 139)) 136 5 (some 140)) 136 6 (some 141)) 136 10 (some 142)) 136 11 (some 143)) 136 12 (some 144)) 136 16 (some 145)) 136 17 (some 146)) 136 18 (some 147)) 136 21 (some 148)) 136 22 (some 149)) 136 24 (some 150)) 136 25 (some 151)) 136 26 (some 152)) 136 27 (some 153)
def lnM (me : Mem) : Nat → Mem
  | 0 => me
  | k + 1 => uI (lnM me k) 150 k (-1)
theorem lnM_R {me : Mem} {a b : Nat} : ∀ k, gR (lnM me k) a b = gR me a b
  | 0 => rfl
  | k + 1 => (gR_uI _ _ _ _ _ _).trans (lnM_R k)
set_option maxHeartbeats 4000000 in
set_option maxRecDepth 100000 in
theorem c_Mo_init (hs : sh[136]? = some (.inl 7)) (hn : sh.length = 137) (hz : Zr me 137) (hd : 1 ≤ d) : CN d 17 1009 mX7_init sh [.ref 136] me (sh ++ shMo) (lnM (mo0 me) 4) := by
  refine CallsG.mk (L := [.ref 136, .float 0]) (by decide) (Nat.le_of_ble_eq_true rfl) rfl ?_
  have h150 : (sh ++ shMo)[150]? = some (.inr (0, 4)) := by
    rw [List.getElem?_append_right (by omega), hn]
    rfl
  have h136 : (sh ++ shMo)[136]? = some (.inl 7) := apL hs
  have key : ∀ fu p, p + fu = 4 → Wa mX7_init (0, fun _ => 0) d 17 1009 sh.length (fun r s m => r = none ∧ s = sh ++ shMo ∧ m = lnM (mo0 me) 4) 150 [.ref 136, .int (nI p)] [] (sh ++ shMo) (lnM (mo0 me) p) 17 1009 := by
    intro fu
    induction fu with
    | zero =>
      intro p hp
      have hp5 : p = 4 := by omega
      subst hp5
      refine ld_i1 (np := 151) dX7_init_150 rfl ?_
      refine wl_iconst (np := 152) (v := nI 4) dX7_init_151 rfl (rfl) ?_
      refine wl_icmp_ge (np := 155) (tg := 168) dX7_init_152 rfl rfl (fun c_152 => ?_) (fun c_152 => ?_)
      · refine wl_ret dX7_init_168 rfl (by omega) (by omega) ?_
        exact ⟨rfl, rfl, rfl⟩
      · exact absurd (Int32.le_refl _) c_152
    | succ fu ih =>
      intro p hp
      have hln : gR (lnM (mo0 me) p) 136 24 = some 150 := (lnM_R p).trans (by unfold mo0; simp [gR_uR])
      refine ld_i1 (np := 151) dX7_init_150 rfl ?_
      refine wl_iconst (np := 152) (v := nI 4) dX7_init_151 rfl (rfl) ?_
      refine wl_icmp_ge (np := 155) (tg := 168) dX7_init_152 rfl rfl (fun c_152 => ?_) (fun c_152 => ?_)
      · rw [nI_leI (by decide) (by omega)] at c_152
        omega
      · refine ld_a0 (np := 156) dX7_init_155 rfl ?_
        refine wl_getr (np := 159) dX7_init_156 rfl fl_X7_52 rfl (by first | exact h136 | exact h150) (by assumption) ?_
        refine ld_i1 (np := 160) dX7_init_159 rfl ?_
        refine wl_iconst (np := 161) (v := -1) dX7_init_160 rfl (rfl) ?_
        refine wl_iastoreN (np := 162) dX7_init_161 rfl (by first | (simp only [nIm, nIa, ← nI_succ]; exact rfl) | exact nI_z | exact nI_o | exact rfl) (by first | exact h136 | exact h150) (by omega) (by first | decide | omega) ?_
        refine inc_1 (np := 165) (v := _ + 1) dX7_init_162 rfl rfl (by decide) rfl ?_
        refine wl_goto (tg := 150) dX7_init_165 rfl ?_
        rw [← nI_succ]
        exact ih (p + 1) (by omega)
  have hnow : gR (uR (uR me 136 1 (some 137)) 136 2 (some 138)) 136 1 = some 137 := by simp [gR_uR]
  refine ld_a0 (np := 1) dX7_init_0 rfl ?_
  refine wl_obj (np := 4) dX7_init_1 rfl wl0_X7_1 (Nat.le_of_ble_eq_true rfl) (by omega) ?_
  refine ld_a0 (np := 5) dX7_init_4 rfl ?_
  refine wl_sipush (np := 8) (v := nI 200) dX7_init_5 rfl (by decide) ?_
  refine wl_newiL (np := 10) (n := 137) (N := 200) dX7_init_8 rfl rfl (by decide) (by simp only [List.length_append, List.length_cons, List.length_nil, List.length_replicate, shP_len, shW4_len, shPl_len, shPs_len, shSs_len, hn] <;> omega) (by first | assumption | ((repeat refine Zr.ref ?_ (by omega) (by omega)); first | assumption | exact Zr.up hz (by omega))) (by omega) (by omega) (by (repeat first | refine Rfs.ref (by omega) ?_ | refine Rfs.int ?_ | refine Rfs.flt ?_ | refine Rfs.scr ?_); exact Rfs.nil) (by (repeat first | refine Rfs.ref (by omega) ?_ | refine Rfs.int ?_ | refine Rfs.flt ?_ | refine Rfs.scr ?_); exact Rfs.nil) (by omega) (by omega) ?_
  refine wl_putrF (np := 13) dX7_init_10 rfl fl_X7_7 (fun C T N h => by cases h; exact ⟨rfl, rfl⟩) rfl rfl (by (repeat first | assumption | exact apE (by simp only [List.length_append, List.length_cons, List.length_nil, List.length_replicate, shP_len, shW4_len, shPl_len, shPs_len, shSs_len, hn] <;> omega) | apply apL)) ?_
  refine ld_a0 (np := 14) dX7_init_13 rfl ?_
  refine wl_sipush (np := 17) (v := nI 200) dX7_init_14 rfl (by decide) ?_
  refine wl_newiL (np := 19) (n := 138) (N := 200) dX7_init_17 rfl rfl (by decide) (by simp only [List.length_append, List.length_cons, List.length_nil, List.length_replicate, shP_len, shW4_len, shPl_len, shPs_len, shSs_len, hn] <;> omega) (by first | assumption | ((repeat refine Zr.ref ?_ (by omega) (by omega)); first | assumption | exact Zr.up hz (by omega))) (by omega) (by omega) (by (repeat first | refine Rfs.ref (by omega) ?_ | refine Rfs.int ?_ | refine Rfs.flt ?_ | refine Rfs.scr ?_); exact Rfs.nil) (by (repeat first | refine Rfs.ref (by omega) ?_ | refine Rfs.int ?_ | refine Rfs.flt ?_ | refine Rfs.scr ?_); exact Rfs.nil) (by omega) (by omega) ?_
  refine wl_putrF (np := 22) dX7_init_19 rfl fl_X7_13 (fun C T N h => by cases h; exact ⟨rfl, rfl⟩) rfl rfl (by (repeat first | assumption | exact apE (by simp only [List.length_append, List.length_cons, List.length_nil, List.length_replicate, shP_len, shW4_len, shPl_len, shPs_len, shSs_len, hn] <;> omega) | apply apL)) ?_
  refine ld_a0 (np := 23) dX7_init_22 rfl ?_
  refine ld_a0 (np := 24) dX7_init_23 rfl ?_
  refine wl_getr (np := 27) dX7_init_24 rfl fl_X7_7 rfl (by (repeat apply apL); exact hs) (by assumption) ?_
  refine wl_putr (np := 30) dX7_init_27 rfl fl_X7_16 nf_7_3 rfl (by (repeat apply apL); exact hs) ?_
  refine ld_a0 (np := 31) dX7_init_30 rfl ?_
  refine wl_bipush (np := 33) (v := nI 25) dX7_init_31 rfl (by decide) ?_
  refine wl_newiL (np := 35) (n := 139) (N := 25) dX7_init_33 rfl rfl (by decide) (by simp only [List.length_append, List.length_cons, List.length_nil, List.length_replicate, shP_len, shW4_len, shPl_len, shPs_len, shSs_len, hn] <;> omega) (by first | assumption | ((repeat refine Zr.ref ?_ (by omega) (by omega)); first | assumption | exact Zr.up hz (by omega))) (by omega) (by omega) (by (repeat first | refine Rfs.ref (by omega) ?_ | refine Rfs.int ?_ | refine Rfs.flt ?_ | refine Rfs.scr ?_); exact Rfs.nil) (by (repeat first | refine Rfs.ref (by omega) ?_ | refine Rfs.int ?_ | refine Rfs.flt ?_ | refine Rfs.scr ?_); exact Rfs.nil) (by omega) (by omega) ?_
  refine wl_putrF (np := 38) dX7_init_35 rfl fl_X7_19 (fun C T N h => by cases h; exact ⟨rfl, rfl⟩) rfl rfl (by (repeat first | assumption | exact apE (by simp only [List.length_append, List.length_cons, List.length_nil, List.length_replicate, shP_len, shW4_len, shPl_len, shPs_len, shSs_len, hn] <;> omega) | apply apL)) ?_
  refine ld_a0 (np := 39) dX7_init_38 rfl ?_
  refine wl_bipush (np := 41) (v := nI 12) dX7_init_39 rfl (by decide) ?_
  refine wl_newiL (np := 43) (n := 140) (N := 12) dX7_init_41 rfl rfl (by decide) (by simp only [List.length_append, List.length_cons, List.length_nil, List.length_replicate, shP_len, shW4_len, shPl_len, shPs_len, shSs_len, hn] <;> omega) (by first | assumption | ((repeat refine Zr.ref ?_ (by omega) (by omega)); first | assumption | exact Zr.up hz (by omega))) (by omega) (by omega) (by (repeat first | refine Rfs.ref (by omega) ?_ | refine Rfs.int ?_ | refine Rfs.flt ?_ | refine Rfs.scr ?_); exact Rfs.nil) (by (repeat first | refine Rfs.ref (by omega) ?_ | refine Rfs.int ?_ | refine Rfs.flt ?_ | refine Rfs.scr ?_); exact Rfs.nil) (by omega) (by omega) ?_
  refine wl_putrF (np := 46) dX7_init_43 rfl fl_X7_22 (fun C T N h => by cases h; exact ⟨rfl, rfl⟩) rfl rfl (by (repeat first | assumption | exact apE (by simp only [List.length_append, List.length_cons, List.length_nil, List.length_replicate, shP_len, shW4_len, shPl_len, shPs_len, shSs_len, hn] <;> omega) | apply apL)) ?_
  refine ld_a0 (np := 47) dX7_init_46 rfl ?_
  refine wl_iconst (np := 48) (v := nI 2) dX7_init_47 rfl (rfl) ?_
  refine wl_newiL (np := 50) (n := 141) (N := 2) dX7_init_48 rfl rfl (by decide) (by simp only [List.length_append, List.length_cons, List.length_nil, List.length_replicate, shP_len, shW4_len, shPl_len, shPs_len, shSs_len, hn] <;> omega) (by first | assumption | ((repeat refine Zr.ref ?_ (by omega) (by omega)); first | assumption | exact Zr.up hz (by omega))) (by omega) (by omega) (by (repeat first | refine Rfs.ref (by omega) ?_ | refine Rfs.int ?_ | refine Rfs.flt ?_ | refine Rfs.scr ?_); exact Rfs.nil) (by (repeat first | refine Rfs.ref (by omega) ?_ | refine Rfs.int ?_ | refine Rfs.flt ?_ | refine Rfs.scr ?_); exact Rfs.nil) (by omega) (by omega) ?_
  refine wl_putrF (np := 53) dX7_init_50 rfl fl_X7_25 (fun C T N h => by cases h; exact ⟨rfl, rfl⟩) rfl rfl (by (repeat first | assumption | exact apE (by simp only [List.length_append, List.length_cons, List.length_nil, List.length_replicate, shP_len, shW4_len, shPl_len, shPs_len, shSs_len, hn] <;> omega) | apply apL)) ?_
  refine ld_a0 (np := 54) dX7_init_53 rfl ?_
  refine wl_bipush (np := 56) (v := nI 8) dX7_init_54 rfl (by decide) ?_
  refine wl_newiL (np := 58) (n := 142) (N := 8) dX7_init_56 rfl rfl (by decide) (by simp only [List.length_append, List.length_cons, List.length_nil, List.length_replicate, shP_len, shW4_len, shPl_len, shPs_len, shSs_len, hn] <;> omega) (by first | assumption | ((repeat refine Zr.ref ?_ (by omega) (by omega)); first | assumption | exact Zr.up hz (by omega))) (by omega) (by omega) (by (repeat first | refine Rfs.ref (by omega) ?_ | refine Rfs.int ?_ | refine Rfs.flt ?_ | refine Rfs.scr ?_); exact Rfs.nil) (by (repeat first | refine Rfs.ref (by omega) ?_ | refine Rfs.int ?_ | refine Rfs.flt ?_ | refine Rfs.scr ?_); exact Rfs.nil) (by omega) (by omega) ?_
  refine wl_putrF (np := 61) dX7_init_58 rfl fl_X7_28 (fun C T N h => by cases h; exact ⟨rfl, rfl⟩) rfl rfl (by (repeat first | assumption | exact apE (by simp only [List.length_append, List.length_cons, List.length_nil, List.length_replicate, shP_len, shW4_len, shPl_len, shPs_len, shSs_len, hn] <;> omega) | apply apL)) ?_
  refine ld_a0 (np := 62) dX7_init_61 rfl ?_
  refine wl_bipush (np := 64) (v := nI 8) dX7_init_62 rfl (by decide) ?_
  refine wl_newiL (np := 66) (n := 143) (N := 8) dX7_init_64 rfl rfl (by decide) (by simp only [List.length_append, List.length_cons, List.length_nil, List.length_replicate, shP_len, shW4_len, shPl_len, shPs_len, shSs_len, hn] <;> omega) (by first | assumption | ((repeat refine Zr.ref ?_ (by omega) (by omega)); first | assumption | exact Zr.up hz (by omega))) (by omega) (by omega) (by (repeat first | refine Rfs.ref (by omega) ?_ | refine Rfs.int ?_ | refine Rfs.flt ?_ | refine Rfs.scr ?_); exact Rfs.nil) (by (repeat first | refine Rfs.ref (by omega) ?_ | refine Rfs.int ?_ | refine Rfs.flt ?_ | refine Rfs.scr ?_); exact Rfs.nil) (by omega) (by omega) ?_
  refine wl_putrF (np := 69) dX7_init_66 rfl fl_X7_31 (fun C T N h => by cases h; exact ⟨rfl, rfl⟩) rfl rfl (by (repeat first | assumption | exact apE (by simp only [List.length_append, List.length_cons, List.length_nil, List.length_replicate, shP_len, shW4_len, shPl_len, shPs_len, shSs_len, hn] <;> omega) | apply apL)) ?_
  refine ld_a0 (np := 70) dX7_init_69 rfl ?_
  refine wl_bipush (np := 72) (v := nI 80) dX7_init_70 rfl (by decide) ?_
  refine wl_newiL (np := 74) (n := 144) (N := 80) dX7_init_72 rfl rfl (by decide) (by simp only [List.length_append, List.length_cons, List.length_nil, List.length_replicate, shP_len, shW4_len, shPl_len, shPs_len, shSs_len, hn] <;> omega) (by first | assumption | ((repeat refine Zr.ref ?_ (by omega) (by omega)); first | assumption | exact Zr.up hz (by omega))) (by omega) (by omega) (by (repeat first | refine Rfs.ref (by omega) ?_ | refine Rfs.int ?_ | refine Rfs.flt ?_ | refine Rfs.scr ?_); exact Rfs.nil) (by (repeat first | refine Rfs.ref (by omega) ?_ | refine Rfs.int ?_ | refine Rfs.flt ?_ | refine Rfs.scr ?_); exact Rfs.nil) (by omega) (by omega) ?_
  refine wl_putrF (np := 77) dX7_init_74 rfl fl_X7_34 (fun C T N h => by cases h; exact ⟨rfl, rfl⟩) rfl rfl (by (repeat first | assumption | exact apE (by simp only [List.length_append, List.length_cons, List.length_nil, List.length_replicate, shP_len, shW4_len, shPl_len, shPs_len, shSs_len, hn] <;> omega) | apply apL)) ?_
  refine ld_a0 (np := 78) dX7_init_77 rfl ?_
  refine wl_bipush (np := 80) (v := nI 24) dX7_init_78 rfl (by decide) ?_
  refine wl_newiL (np := 82) (n := 145) (N := 24) dX7_init_80 rfl rfl (by decide) (by simp only [List.length_append, List.length_cons, List.length_nil, List.length_replicate, shP_len, shW4_len, shPl_len, shPs_len, shSs_len, hn] <;> omega) (by first | assumption | ((repeat refine Zr.ref ?_ (by omega) (by omega)); first | assumption | exact Zr.up hz (by omega))) (by omega) (by omega) (by (repeat first | refine Rfs.ref (by omega) ?_ | refine Rfs.int ?_ | refine Rfs.flt ?_ | refine Rfs.scr ?_); exact Rfs.nil) (by (repeat first | refine Rfs.ref (by omega) ?_ | refine Rfs.int ?_ | refine Rfs.flt ?_ | refine Rfs.scr ?_); exact Rfs.nil) (by omega) (by omega) ?_
  refine wl_putrF (np := 85) dX7_init_82 rfl fl_X7_37 (fun C T N h => by cases h; exact ⟨rfl, rfl⟩) rfl rfl (by (repeat first | assumption | exact apE (by simp only [List.length_append, List.length_cons, List.length_nil, List.length_replicate, shP_len, shW4_len, shPl_len, shPs_len, shSs_len, hn] <;> omega) | apply apL)) ?_
  refine ld_a0 (np := 86) dX7_init_85 rfl ?_
  refine wl_bipush (np := 88) (v := nI 6) dX7_init_86 rfl (by decide) ?_
  refine wl_newiL (np := 90) (n := 146) (N := 6) dX7_init_88 rfl rfl (by decide) (by simp only [List.length_append, List.length_cons, List.length_nil, List.length_replicate, shP_len, shW4_len, shPl_len, shPs_len, shSs_len, hn] <;> omega) (by first | assumption | ((repeat refine Zr.ref ?_ (by omega) (by omega)); first | assumption | exact Zr.up hz (by omega))) (by omega) (by omega) (by (repeat first | refine Rfs.ref (by omega) ?_ | refine Rfs.int ?_ | refine Rfs.flt ?_ | refine Rfs.scr ?_); exact Rfs.nil) (by (repeat first | refine Rfs.ref (by omega) ?_ | refine Rfs.int ?_ | refine Rfs.flt ?_ | refine Rfs.scr ?_); exact Rfs.nil) (by omega) (by omega) ?_
  refine wl_putrF (np := 93) dX7_init_90 rfl fl_X7_40 (fun C T N h => by cases h; exact ⟨rfl, rfl⟩) rfl rfl (by (repeat first | assumption | exact apE (by simp only [List.length_append, List.length_cons, List.length_nil, List.length_replicate, shP_len, shW4_len, shPl_len, shPs_len, shSs_len, hn] <;> omega) | apply apL)) ?_
  refine ld_a0 (np := 94) dX7_init_93 rfl ?_
  refine wl_bipush (np := 96) (v := nI 6) dX7_init_94 rfl (by decide) ?_
  refine wl_newiL (np := 98) (n := 147) (N := 6) dX7_init_96 rfl rfl (by decide) (by simp only [List.length_append, List.length_cons, List.length_nil, List.length_replicate, shP_len, shW4_len, shPl_len, shPs_len, shSs_len, hn] <;> omega) (by first | assumption | ((repeat refine Zr.ref ?_ (by omega) (by omega)); first | assumption | exact Zr.up hz (by omega))) (by omega) (by omega) (by (repeat first | refine Rfs.ref (by omega) ?_ | refine Rfs.int ?_ | refine Rfs.flt ?_ | refine Rfs.scr ?_); exact Rfs.nil) (by (repeat first | refine Rfs.ref (by omega) ?_ | refine Rfs.int ?_ | refine Rfs.flt ?_ | refine Rfs.scr ?_); exact Rfs.nil) (by omega) (by omega) ?_
  refine wl_putrF (np := 101) dX7_init_98 rfl fl_X7_43 (fun C T N h => by cases h; exact ⟨rfl, rfl⟩) rfl rfl (by (repeat first | assumption | exact apE (by simp only [List.length_append, List.length_cons, List.length_nil, List.length_replicate, shP_len, shW4_len, shPl_len, shPs_len, shSs_len, hn] <;> omega) | apply apL)) ?_
  refine ld_a0 (np := 102) dX7_init_101 rfl ?_
  refine wl_bipush (np := 104) (v := nI 40) dX7_init_102 rfl (by decide) ?_
  refine wl_newiL (np := 106) (n := 148) (N := 40) dX7_init_104 rfl rfl (by decide) (by simp only [List.length_append, List.length_cons, List.length_nil, List.length_replicate, shP_len, shW4_len, shPl_len, shPs_len, shSs_len, hn] <;> omega) (by first | assumption | ((repeat refine Zr.ref ?_ (by omega) (by omega)); first | assumption | exact Zr.up hz (by omega))) (by omega) (by omega) (by (repeat first | refine Rfs.ref (by omega) ?_ | refine Rfs.int ?_ | refine Rfs.flt ?_ | refine Rfs.scr ?_); exact Rfs.nil) (by (repeat first | refine Rfs.ref (by omega) ?_ | refine Rfs.int ?_ | refine Rfs.flt ?_ | refine Rfs.scr ?_); exact Rfs.nil) (by omega) (by omega) ?_
  refine wl_putrF (np := 109) dX7_init_106 rfl fl_X7_46 (fun C T N h => by cases h; exact ⟨rfl, rfl⟩) rfl rfl (by (repeat first | assumption | exact apE (by simp only [List.length_append, List.length_cons, List.length_nil, List.length_replicate, shP_len, shW4_len, shPl_len, shPs_len, shSs_len, hn] <;> omega) | apply apL)) ?_
  refine ld_a0 (np := 110) dX7_init_109 rfl ?_
  refine wl_sipush (np := 113) (v := nI 270) dX7_init_110 rfl (by decide) ?_
  refine wl_newiL (np := 115) (n := 149) (N := 270) dX7_init_113 rfl rfl (by decide) (by simp only [List.length_append, List.length_cons, List.length_nil, List.length_replicate, shP_len, shW4_len, shPl_len, shPs_len, shSs_len, hn] <;> omega) (by first | assumption | ((repeat refine Zr.ref ?_ (by omega) (by omega)); first | assumption | exact Zr.up hz (by omega))) (by omega) (by omega) (by (repeat first | refine Rfs.ref (by omega) ?_ | refine Rfs.int ?_ | refine Rfs.flt ?_ | refine Rfs.scr ?_); exact Rfs.nil) (by (repeat first | refine Rfs.ref (by omega) ?_ | refine Rfs.int ?_ | refine Rfs.flt ?_ | refine Rfs.scr ?_); exact Rfs.nil) (by omega) (by omega) ?_
  refine wl_putrF (np := 118) dX7_init_115 rfl fl_X7_49 (fun C T N h => by cases h; exact ⟨rfl, rfl⟩) rfl rfl (by (repeat first | assumption | exact apE (by simp only [List.length_append, List.length_cons, List.length_nil, List.length_replicate, shP_len, shW4_len, shPl_len, shPs_len, shSs_len, hn] <;> omega) | apply apL)) ?_
  refine ld_a0 (np := 119) dX7_init_118 rfl ?_
  refine wl_iconst (np := 120) (v := nI 4) dX7_init_119 rfl (rfl) ?_
  refine wl_newiL (np := 122) (n := 150) (N := 4) dX7_init_120 rfl rfl (by decide) (by simp only [List.length_append, List.length_cons, List.length_nil, List.length_replicate, shP_len, shW4_len, shPl_len, shPs_len, shSs_len, hn] <;> omega) (by first | assumption | ((repeat refine Zr.ref ?_ (by omega) (by omega)); first | assumption | exact Zr.up hz (by omega))) (by omega) (by omega) (by (repeat first | refine Rfs.ref (by omega) ?_ | refine Rfs.int ?_ | refine Rfs.flt ?_ | refine Rfs.scr ?_); exact Rfs.nil) (by (repeat first | refine Rfs.ref (by omega) ?_ | refine Rfs.int ?_ | refine Rfs.flt ?_ | refine Rfs.scr ?_); exact Rfs.nil) (by omega) (by omega) ?_
  refine wl_putrF (np := 125) dX7_init_122 rfl fl_X7_52 (fun C T N h => by cases h; exact ⟨rfl, rfl⟩) rfl rfl (by (repeat first | assumption | exact apE (by simp only [List.length_append, List.length_cons, List.length_nil, List.length_replicate, shP_len, shW4_len, shPl_len, shPs_len, shSs_len, hn] <;> omega) | apply apL)) ?_
  refine ld_a0 (np := 126) dX7_init_125 rfl ?_
  refine wl_iconst (np := 127) (v := nI 4) dX7_init_126 rfl (rfl) ?_
  refine wl_newiL (np := 129) (n := 151) (N := 4) dX7_init_127 rfl rfl (by decide) (by simp only [List.length_append, List.length_cons, List.length_nil, List.length_replicate, shP_len, shW4_len, shPl_len, shPs_len, shSs_len, hn] <;> omega) (by first | assumption | ((repeat refine Zr.ref ?_ (by omega) (by omega)); first | assumption | exact Zr.up hz (by omega))) (by omega) (by omega) (by (repeat first | refine Rfs.ref (by omega) ?_ | refine Rfs.int ?_ | refine Rfs.flt ?_ | refine Rfs.scr ?_); exact Rfs.nil) (by (repeat first | refine Rfs.ref (by omega) ?_ | refine Rfs.int ?_ | refine Rfs.flt ?_ | refine Rfs.scr ?_); exact Rfs.nil) (by omega) (by omega) ?_
  refine wl_putrF (np := 132) dX7_init_129 rfl fl_X7_55 (fun C T N h => by cases h; exact ⟨rfl, rfl⟩) rfl rfl (by (repeat first | assumption | exact apE (by simp only [List.length_append, List.length_cons, List.length_nil, List.length_replicate, shP_len, shW4_len, shPl_len, shPs_len, shSs_len, hn] <;> omega) | apply apL)) ?_
  refine ld_a0 (np := 133) dX7_init_132 rfl ?_
  refine wl_bipush (np := 135) (v := nI 96) dX7_init_133 rfl (by decide) ?_
  refine wl_newiL (np := 137) (n := 152) (N := 96) dX7_init_135 rfl rfl (by decide) (by simp only [List.length_append, List.length_cons, List.length_nil, List.length_replicate, shP_len, shW4_len, shPl_len, shPs_len, shSs_len, hn] <;> omega) (by first | assumption | ((repeat refine Zr.ref ?_ (by omega) (by omega)); first | assumption | exact Zr.up hz (by omega))) (by omega) (by omega) (by (repeat first | refine Rfs.ref (by omega) ?_ | refine Rfs.int ?_ | refine Rfs.flt ?_ | refine Rfs.scr ?_); exact Rfs.nil) (by (repeat first | refine Rfs.ref (by omega) ?_ | refine Rfs.int ?_ | refine Rfs.flt ?_ | refine Rfs.scr ?_); exact Rfs.nil) (by omega) (by omega) ?_
  refine wl_putrF (np := 140) dX7_init_137 rfl fl_X7_58 (fun C T N h => by cases h; exact ⟨rfl, rfl⟩) rfl rfl (by (repeat first | assumption | exact apE (by simp only [List.length_append, List.length_cons, List.length_nil, List.length_replicate, shP_len, shW4_len, shPl_len, shPs_len, shSs_len, hn] <;> omega) | apply apL)) ?_
  refine ld_a0 (np := 141) dX7_init_140 rfl ?_
  refine wl_bipush (np := 143) (v := nI 24) dX7_init_141 rfl (by decide) ?_
  refine wl_newiL (np := 145) (n := 153) (N := 24) dX7_init_143 rfl rfl (by decide) (by simp only [List.length_append, List.length_cons, List.length_nil, List.length_replicate, shP_len, shW4_len, shPl_len, shPs_len, shSs_len, hn] <;> omega) (by first | assumption | ((repeat refine Zr.ref ?_ (by omega) (by omega)); first | assumption | exact Zr.up hz (by omega))) (by omega) (by omega) (by (repeat first | refine Rfs.ref (by omega) ?_ | refine Rfs.int ?_ | refine Rfs.flt ?_ | refine Rfs.scr ?_); exact Rfs.nil) (by (repeat first | refine Rfs.ref (by omega) ?_ | refine Rfs.int ?_ | refine Rfs.flt ?_ | refine Rfs.scr ?_); exact Rfs.nil) (by omega) (by omega) ?_
  refine wl_putrF (np := 148) dX7_init_145 rfl fl_X7_61 (fun C T N h => by cases h; exact ⟨rfl, rfl⟩) rfl rfl (by (repeat first | assumption | exact apE (by simp only [List.length_append, List.length_cons, List.length_nil, List.length_replicate, shP_len, shW4_len, shPl_len, shPs_len, shSs_len, hn] <;> omega) | apply apL)) ?_
  refine wl_iconst (np := 149) (v := 0) dX7_init_148 rfl (rfl) ?_
  refine st_i1 (np := 150) dX7_init_149 rfl (by decide) rfl ?_
  have e0 : sh ++ [.inr (0, 200)] ++ [.inr (0, 200)] ++ [.inr (0, 25)] ++ [.inr (0, 12)] ++ [.inr (0, 2)] ++ [.inr (0, 8)] ++ [.inr (0, 8)] ++ [.inr (0, 80)] ++ [.inr (0, 24)] ++ [.inr (0, 6)] ++ [.inr (0, 6)] ++ [.inr (0, 40)] ++ [.inr (0, 270)] ++ [.inr (0, 4)] ++ [.inr (0, 4)] ++ [.inr (0, 96)] ++ [.inr (0, 24)] = sh ++ shMo := by
    unfold shMo
    simp only [List.append_assoc]
  rw [e0]
  exact Wa.up (by omega) (by omega) (key 4 0 (by omega))
end CTOR
