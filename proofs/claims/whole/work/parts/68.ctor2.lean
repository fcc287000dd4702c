section CTOR
variable {sh : List Shp} {me : Mem} {d : Nat}
/-! all that the class makes -/
def k1M (me : Mem) : Mem := uR (psM me 1 5) 0 0 (some 1)
def k2M (me : Mem) : Mem := uR (psM (k1M me) 36 5) 0 1 (some 36)
def k3M (me : Mem) : Mem := uR (psM (k2M me) 71 5) 0 2 (some 71)
def k4M (me : Mem) : Mem := uR (refP (k3M me) 106) 0 3 (some 106)
def k5M (me : Mem) : Mem := uR (plM (k4M me) 112) 0 4 (some 112)
def k6M (me : Mem) : Mem := uR (uR (k5M me) 123 0 (some 124)) 0 5 (some 123)
def k7M (me : Mem) : Mem := uR (uR (k6M me) 125 0 (some 126)) 0 6 (some 125)
def k8M (me : Mem) : Mem := uR (k7M me) 0 7 (some 127)
def kM (me : Mem) : Mem := uI (ssM (k8M me) 4) 0 8 0
def shK (sh : List Shp) : List Shp := sh ++ [.inl 5] ++ shW4 ++ shPs 5 ++ [.inl 5] ++ shW4 ++ shPs 5 ++ [.inl 5] ++ shW4 ++ shPs 5 ++ [.inl 1] ++ shP ++ [.inl 2] ++ shPl ++ [.inl 0] ++ [.inr (0, 3)] ++ [.inl 4] ++ [.inr (0, 80)] ++ [.inr (1 + 1, 4)]
theorem shK_len (hn : sh.length = 1) : (shK sh).length = 128 := by
  unfold shK
  simp only [List.length_append, List.length_cons, List.length_nil, shP_len, shW4_len, shPl_len, shPs_len, hn]
theorem ssM_all {me : Mem} (h : gR me 0 7 = some 127) : ∀ p, gR (ssM me p) 0 7 = some 127
  | 0 => h
  | p + 1 => by
    show gR (uR (uR (ssM me p) (128 + 2 * p) 0 (some (129 + 2 * p))) 127 p (some (128 + 2 * p))) 0 7 = _
    rw [gR_uR, if_neg (fun x => by have := x.1; omega), gR_uR, if_neg (fun x => by have := x.1; omega)]
    exact ssM_all h p
set_option maxHeartbeats 4000000 in
set_option maxRecDepth 100000 in
theorem c_C_loop {K : List Shp} {n0 : Nat} (hK : K.length = 128) (hk0 : K[0]? = some (.inl 6)) (hk127 : K[127]? = some (.inr (1 + 1, 4))) (h0 : n0 ≤ 128) (z8 : Zr me 128) (h7 : gR me 0 7 = some 127) (hd : 3 ≤ d) : ∀ fu p, p + fu = 4 → Wa mX6_init (0, fun _ => 0) d 135 1168 n0 (fun r s m => r = none ∧ s = K ++ shSs 4 ∧ m = uI (ssM me 4) 0 8 0) 91 [.ref 0, .int (nI p)] [] (K ++ shSs p) (ssM me p) (127 + 2 * p) (1056 + 28 * p) := by
  intro fu
  induction fu with
  | zero =>
    intro p hp
    have hp5 : p = 4 := by omega
    subst hp5
    refine ld_i1 (np := 92) dX6_init_91 rfl ?_
    refine wl_iconst (np := 93) (v := nI 4) dX6_init_92 rfl (rfl) ?_
    refine wl_icmp_ge (np := 96) (tg := 115) dX6_init_93 rfl rfl (fun c_93 => ?_) (fun c_93 => ?_)
    · refine ld_a0 (np := 116) dX6_init_115 rfl ?_
      refine wl_iconst (np := 117) (v := 0) dX6_init_116 rfl (rfl) ?_
      refine wl_putz (np := 120) dX6_init_117 rfl fl_X6_57 nf_6_8 rfl (by decide) (by exact apL hk0) ?_
      refine wl_ret dX6_init_120 rfl (by omega) (by omega) ?_
      exact ⟨rfl, rfl, rfl⟩
    · exact absurd (Int32.le_refl _) c_93
  | succ fu ih =>
    intro p hp
    have hall : gR (ssM me p) 0 7 = some 127 := ssM_all h7 p
    have hzp := ssM_zr z8 p
    have hzp2 : Zr (ssM me p) (128 + 2 * p + 1) := hzp.up (by omega)
    have hob : (K ++ shSs p ++ [.inl 3] ++ [.inr (0, 24)] : List Shp)[128 + 2 * p]? = some (.inl 3) := apL (apE (by simp only [List.length_append, shSs_len, hK]))
    have har : (K ++ shSs p ++ [.inl 3] ++ [.inr (0, 24)] : List Shp)[127]? = some (.inr (1 + 1, 4)) := apL (apL (apL hk127))
    refine ld_i1 (np := 92) dX6_init_91 rfl ?_
    refine wl_iconst (np := 93) (v := nI 4) dX6_init_92 rfl (rfl) ?_
    refine wl_icmp_ge (np := 96) (tg := 115) dX6_init_93 rfl rfl (fun c_93 => ?_) (fun c_93 => ?_)
    · rw [nI_leI (by decide) (by omega)] at c_93
      omega
    · refine ld_a0 (np := 97) dX6_init_96 rfl ?_
      refine wl_getr (np := 100) dX6_init_97 rfl fl_X6_52 rfl (by exact apL hk0) (by assumption) ?_
      refine ld_i1 (np := 101) dX6_init_100 rfl ?_
      refine wl_newL (np := 104) (n := 128 + 2 * p) (F := 4) dX6_init_101 rfl nk_X6_50 rfl (by simp only [List.length_append, List.length_cons, List.length_nil, shSs_len, hK] <;> omega) (by first | assumption | ((repeat refine Zr.ref ?_ (by omega) (by omega)); first | assumption | exact Zr.up hz (by omega))) (by omega) (by omega) (by (repeat first | refine Rfs.ref (by omega) ?_ | refine Rfs.int ?_ | refine Rfs.flt ?_ | refine Rfs.scr ?_); exact Rfs.nil) (by (repeat first | refine Rfs.ref (by omega) ?_ | refine Rfs.int ?_ | refine Rfs.flt ?_ | refine Rfs.scr ?_); exact Rfs.nil) (by omega) (by omega) ?_
      refine wl_dup (np := 105) dX6_init_104 rfl rfl ?_
      refine wl_callIN (np := 108) (n := 128 + 2 * p + 1) (n2 := 128 + 2 * p + 2) dX6_init_105 rfl lki_X6_56 (Nat.le_of_ble_eq_true rfl) (by omega) (by omega) (by omega) (by simp only [List.length_append, List.length_cons, List.length_nil, shSs_len, hK] <;> omega) (by simp only [List.length_append, List.length_cons, List.length_nil, shSs_len, hK] <;> omega) (by omega) (by omega) (by omega) (by (repeat first | refine Rfs.ref (by omega) ?_ | refine Rfs.int ?_ | refine Rfs.flt ?_ | refine Rfs.scr ?_); exact Rfs.nil) (by (repeat first | refine Rfs.ref (by omega) ?_ | refine Rfs.int ?_ | refine Rfs.flt ?_ | refine Rfs.scr ?_); exact Rfs.nil) (c_Sh_init (apE (by simp only [List.length_append, shSs_len, hK])) (by simp only [List.length_append, List.length_cons, List.length_nil, shSs_len, hK]) hzp2 (by omega) (by omega)) ?_
      refine wl_aastoreN (np := 109) (t := 1) (ci := 3) (j := p) dX6_init_108 rfl (by first | exact har | exact hob) (fun _ => rfl) (by first | exact har | exact hob) rfl rfl (by omega) (by decide) ?_
      refine inc_1 (np := 112) (v := _ + 1) dX6_init_109 rfl rfl (by decide) rfl ?_
      refine wl_goto (tg := 91) dX6_init_112 rfl ?_
      rw [← nI_succ]
      have e1 : K ++ shSs p ++ [.inl 3] ++ [.inr (0, 24)] = K ++ shSs (p + 1) := by
        show _ = K ++ (shSs p ++ [.inl 3, .inr (0, 24)])
        simp only [List.append_assoc, List.cons_append, List.nil_append]
      have e2 : uR (uR (ssM me p) (128 + 2 * p) 0 (some (128 + 2 * p + 1))) 127 p (some (128 + 2 * p)) = ssM me (p + 1) := by
        show _ = uR (uR (ssM me p) (128 + 2 * p) 0 (some (129 + 2 * p))) 127 p (some (128 + 2 * p))
        rw [show 129 + 2 * p = 128 + 2 * p + 1 by omega]
      rw [e1, e2]
      exact Wa.up (by omega) (by omega) (ih (p + 1) (by omega))
end CTOR
