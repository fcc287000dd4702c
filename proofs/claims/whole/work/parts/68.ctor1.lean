/-! ===== the constructors ===== -/
def shP : List Shp := [.inr (0, 8), .inr (0, 8), .inr (0, 8), .inr (0, 8), .inr (0, 5)]
def refP (me : Mem) (q : Nat) : Mem := uR (uR (uR (uR (uR me q 0 (some (q + 1))) q 1 (some (q + 2))) q 2 (some (q + 3))) q 3 (some (q + 4))) q 4 (some (q + 5))
def shW4 : List Shp := [.inr (1, 5), .inr (0, 12), .inr (0, 8), .inr (0, 8)]
def shPs : Nat → List Shp
  | 0 => []
  | p + 1 => shPs p ++ (.inl 1 :: shP)
def w4M (me : Mem) (w : Nat) : Mem := uR (uR (uR (uR me w 0 (some (w + 1))) w 1 (some (w + 2))) w 2 (some (w + 3))) w 3 (some (w + 4))
def psM (me : Mem) (w : Nat) : Nat → Mem
  | 0 => w4M me w
  | p + 1 => uR (refP (psM me w p) (w + 5 + 6 * p)) (w + 1) p (some (w + 5 + 6 * p))
def shPl : List Shp := (.inr (3, 7) :: List.replicate 7 (.inr (0, 8))) ++ [.inr (0, 6)] ++ [.inr (0, 6)]
def plM (me : Mem) (q : Nat) : Mem := uR (uR (uR (muM me (q + 1) 7) q 0 (some (q + 1))) q 1 (some (q + 9))) q 2 (some (q + 10))
def shSs : Nat → List Shp
  | 0 => []
  | p + 1 => shSs p ++ [.inl 3, .inr (0, 24)]
def ssM (me : Mem) : Nat → Mem
  | 0 => me
  | p + 1 => uR (uR (ssM me p) (128 + 2 * p) 0 (some (129 + 2 * p))) 127 p (some (128 + 2 * p))
theorem shP_len : shP.length = 5 := rfl
theorem shW4_len : shW4.length = 4 := rfl
theorem shPl_len : shPl.length = 10 := rfl
theorem shPs_len : ∀ p, (shPs p).length = 6 * p
  | 0 => rfl
  | p + 1 => by
    show (shPs p ++ (.inl 1 :: shP)).length = _
    rw [List.length_append, shPs_len p, List.length_cons, shP_len]
    omega
theorem shSs_len : ∀ p, (shSs p).length = 2 * p
  | 0 => rfl
  | p + 1 => by
    show (shSs p ++ ([.inl 3, .inr (0, 24)] : List Shp)).length = _
    rw [List.length_append, shSs_len p]
    show 2 * p + 2 = _
    omega
theorem refP_o {me : Mem} {q a b : Nat} (h : a ≠ q) : gR (refP me q) a b = gR me a b := by
  unfold refP
  rw [gR_uR, if_neg (fun x => h x.1), gR_uR, if_neg (fun x => h x.1), gR_uR, if_neg (fun x => h x.1), gR_uR, if_neg (fun x => h x.1), gR_uR, if_neg (fun x => h x.1)]
theorem refP_zr {me : Mem} {q : Nat} (h : Zr me (q + 1)) : Zr (refP me q) (q + 6) := by
  unfold refP
  repeat refine Zr.ref ?_ (by omega) (by omega)
  exact h.up (by omega)
theorem w4M_zr {me : Mem} {w : Nat} (h : Zr me (w + 1)) : Zr (w4M me w) (w + 5) := by
  unfold w4M
  repeat refine Zr.ref ?_ (by omega) (by omega)
  exact h.up (by omega)
theorem psM_zr {me : Mem} {w : Nat} (h : Zr me (w + 1)) : ∀ p, Zr (psM me w p) (w + 5 + 6 * p)
  | 0 => w4M_zr h
  | p + 1 => by
    show Zr (uR (refP (psM me w p) (w + 5 + 6 * p)) (w + 1) p (some (w + 5 + 6 * p))) _
    refine Zr.ref ?_ (by omega) (by omega)
    exact (refP_zr ((psM_zr h p).up (by omega))).up (by omega)
theorem psM_all {me : Mem} {w : Nat} : ∀ p, gR (psM me w p) w 0 = some (w + 1)
  | 0 => by
    show gR (w4M me w) w 0 = _
    unfold w4M
    simp [gR_uR]
  | p + 1 => by
    show gR (uR (refP (psM me w p) (w + 5 + 6 * p)) (w + 1) p (some (w + 5 + 6 * p))) w 0 = _
    rw [gR_uR, if_neg (fun x => by have := x.1; omega), refP_o (by omega)]
    exact psM_all p
theorem plM_zr {me : Mem} {q : Nat} (h : Zr me (q + 1)) : Zr (plM me q) (q + 11) := by
  unfold plM
  repeat refine Zr.ref ?_ (by omega) (by omega)
  exact (h.mu (N := 7)).up (by omega)
theorem ssM_zr {me : Mem} (h : Zr me 128) : ∀ p, Zr (ssM me p) (128 + 2 * p)
  | 0 => h
  | p + 1 => by
    show Zr (uR (uR (ssM me p) (128 + 2 * p) 0 (some (129 + 2 * p))) 127 p (some (128 + 2 * p))) _
    refine Zr.ref (Zr.ref ?_ (by omega) (by omega)) (by omega) (by omega)
    exact (ssM_zr h p).up (by omega)
section CTOR
variable {sh : List Shp} {me : Mem} {d : Nat}
set_option maxHeartbeats 4000000 in
set_option maxRecDepth 100000 in
theorem c_P_init {q : Nat} (hs : sh[q]? = some (.inl 1)) (hn : sh.length = q + 1) (hz : Zr me (q + 1)) (hb : q < 900000) (hd : 1 ≤ d) : CN d 5 37 mX1_init sh [.ref q] me (sh ++ shP) (refP me q) := by
  refine CallsG.mk (L := [.ref q]) (by decide) (Nat.le_of_ble_eq_true rfl) rfl ?_
  refine ld_a0 (np := 1) dX1_init_0 rfl ?_
  refine wl_obj (np := 4) dX1_init_1 rfl wl0_X1_3 (Nat.le_of_ble_eq_true rfl) (by omega) ?_
  refine ld_a0 (np := 5) dX1_init_4 rfl ?_
  refine wl_bipush (np := 7) (v := nI 8) dX1_init_5 rfl (by decide) ?_
  refine wl_newiL (np := 9) (n := q + 1) (N := 8) dX1_init_7 rfl rfl (by decide) (by simp only [List.length_append, List.length_cons, List.length_nil, List.length_replicate, shP_len, shW4_len, shPl_len, shPs_len, shSs_len, hn] <;> omega) (by first | assumption | ((repeat refine Zr.ref ?_ (by omega) (by omega)); first | assumption | exact Zr.up hz (by omega))) (by omega) (by omega) (by (repeat first | refine Rfs.ref (by omega) ?_ | refine Rfs.int ?_ | refine Rfs.flt ?_ | refine Rfs.scr ?_); exact Rfs.nil) (by (repeat first | refine Rfs.ref (by omega) ?_ | refine Rfs.int ?_ | refine Rfs.flt ?_ | refine Rfs.scr ?_); exact Rfs.nil) (by omega) (by omega) ?_
  refine wl_putrF (np := 12) dX1_init_9 rfl fl_X1_9 (fun C T N h => by cases h; exact ⟨rfl, rfl⟩) rfl rfl (by (repeat first | assumption | exact apE (by simp only [List.length_append, List.length_cons, List.length_nil, List.length_replicate, shP_len, shW4_len, shPl_len, shPs_len, shSs_len, hn] <;> omega) | apply apL)) ?_
  refine ld_a0 (np := 13) dX1_init_12 rfl ?_
  refine wl_bipush (np := 15) (v := nI 8) dX1_init_13 rfl (by decide) ?_
  refine wl_newiL (np := 17) (n := q + 2) (N := 8) dX1_init_15 rfl rfl (by decide) (by simp only [List.length_append, List.length_cons, List.length_nil, List.length_replicate, shP_len, shW4_len, shPl_len, shPs_len, shSs_len, hn] <;> omega) (by first | assumption | ((repeat refine Zr.ref ?_ (by omega) (by omega)); first | assumption | exact Zr.up hz (by omega))) (by omega) (by omega) (by (repeat first | refine Rfs.ref (by omega) ?_ | refine Rfs.int ?_ | refine Rfs.flt ?_ | refine Rfs.scr ?_); exact Rfs.nil) (by (repeat first | refine Rfs.ref (by omega) ?_ | refine Rfs.int ?_ | refine Rfs.flt ?_ | refine Rfs.scr ?_); exact Rfs.nil) (by omega) (by omega) ?_
  refine wl_putrF (np := 20) dX1_init_17 rfl fl_X1_15 (fun C T N h => by cases h; exact ⟨rfl, rfl⟩) rfl rfl (by (repeat first | assumption | exact apE (by simp only [List.length_append, List.length_cons, List.length_nil, List.length_replicate, shP_len, shW4_len, shPl_len, shPs_len, shSs_len, hn] <;> omega) | apply apL)) ?_
  refine ld_a0 (np := 21) dX1_init_20 rfl ?_
  refine wl_bipush (np := 23) (v := nI 8) dX1_init_21 rfl (by decide) ?_
  refine wl_newiL (np := 25) (n := q + 3) (N := 8) dX1_init_23 rfl rfl (by decide) (by simp only [List.length_append, List.length_cons, List.length_nil, List.length_replicate, shP_len, shW4_len, shPl_len, shPs_len, shSs_len, hn] <;> omega) (by first | assumption | ((repeat refine Zr.ref ?_ (by omega) (by omega)); first | assumption | exact Zr.up hz (by omega))) (by omega) (by omega) (by (repeat first | refine Rfs.ref (by omega) ?_ | refine Rfs.int ?_ | refine Rfs.flt ?_ | refine Rfs.scr ?_); exact Rfs.nil) (by (repeat first | refine Rfs.ref (by omega) ?_ | refine Rfs.int ?_ | refine Rfs.flt ?_ | refine Rfs.scr ?_); exact Rfs.nil) (by omega) (by omega) ?_
  refine wl_putrF (np := 28) dX1_init_25 rfl fl_X1_18 (fun C T N h => by cases h; exact ⟨rfl, rfl⟩) rfl rfl (by (repeat first | assumption | exact apE (by simp only [List.length_append, List.length_cons, List.length_nil, List.length_replicate, shP_len, shW4_len, shPl_len, shPs_len, shSs_len, hn] <;> omega) | apply apL)) ?_
  refine ld_a0 (np := 29) dX1_init_28 rfl ?_
  refine wl_bipush (np := 31) (v := nI 8) dX1_init_29 rfl (by decide) ?_
  refine wl_newiL (np := 33) (n := q + 4) (N := 8) dX1_init_31 rfl rfl (by decide) (by simp only [List.length_append, List.length_cons, List.length_nil, List.length_replicate, shP_len, shW4_len, shPl_len, shPs_len, shSs_len, hn] <;> omega) (by first | assumption | ((repeat refine Zr.ref ?_ (by omega) (by omega)); first | assumption | exact Zr.up hz (by omega))) (by omega) (by omega) (by (repeat first | refine Rfs.ref (by omega) ?_ | refine Rfs.int ?_ | refine Rfs.flt ?_ | refine Rfs.scr ?_); exact Rfs.nil) (by (repeat first | refine Rfs.ref (by omega) ?_ | refine Rfs.int ?_ | refine Rfs.flt ?_ | refine Rfs.scr ?_); exact Rfs.nil) (by omega) (by omega) ?_
  refine wl_putrF (np := 36) dX1_init_33 rfl fl_X1_21 (fun C T N h => by cases h; exact ⟨rfl, rfl⟩) rfl rfl (by (repeat first | assumption | exact apE (by simp only [List.length_append, List.length_cons, List.length_nil, List.length_replicate, shP_len, shW4_len, shPl_len, shPs_len, shSs_len, hn] <;> omega) | apply apL)) ?_
  refine ld_a0 (np := 37) dX1_init_36 rfl ?_
  refine wl_iconst (np := 38) (v := nI 5) dX1_init_37 rfl (rfl) ?_
  refine wl_newiL (np := 40) (n := q + 5) (N := 5) dX1_init_38 rfl rfl (by decide) (by simp only [List.length_append, List.length_cons, List.length_nil, List.length_replicate, shP_len, shW4_len, shPl_len, shPs_len, shSs_len, hn] <;> omega) (by first | assumption | ((repeat refine Zr.ref ?_ (by omega) (by omega)); first | assumption | exact Zr.up hz (by omega))) (by omega) (by omega) (by (repeat first | refine Rfs.ref (by omega) ?_ | refine Rfs.int ?_ | refine Rfs.flt ?_ | refine Rfs.scr ?_); exact Rfs.nil) (by (repeat first | refine Rfs.ref (by omega) ?_ | refine Rfs.int ?_ | refine Rfs.flt ?_ | refine Rfs.scr ?_); exact Rfs.nil) (by omega) (by omega) ?_
  refine wl_putrF (np := 43) dX1_init_40 rfl fl_X1_24 (fun C T N h => by cases h; exact ⟨rfl, rfl⟩) rfl rfl (by (repeat first | assumption | exact apE (by simp only [List.length_append, List.length_cons, List.length_nil, List.length_replicate, shP_len, shW4_len, shPl_len, shPs_len, shSs_len, hn] <;> omega) | apply apL)) ?_
  refine wl_ret dX1_init_43 rfl (by omega) (by omega) ?_
  exact ⟨rfl, by simp [shP], rfl⟩
set_option maxHeartbeats 4000000 in
set_option maxRecDepth 100000 in
theorem c_W_init {w : Nat} (hs : sh[w]? = some (.inl 5)) (hn : sh.length = w + 1) (hz : Zr me (w + 1)) (hb : w < 800000) (hd : 2 ≤ d) : CN d 34 268 mX5_init sh [.ref w] me (sh ++ shW4 ++ shPs 5) (psM me w 5) := by
  refine CallsG.mk (L := [.ref w, .float 0]) (by decide) (Nat.le_of_ble_eq_true rfl) rfl ?_
  have key : ∀ fu p, p + fu = 5 → Wa mX5_init (0, fun _ => 0) d 34 268 sh.length (fun r s m => r = none ∧ s = sh ++ shW4 ++ shPs 5 ∧ m = psM me w 5) 38 [.ref w, .int (nI p)] [] (sh ++ shW4 ++ shPs p) (psM me w p) (4 + 6 * p) (33 + 47 * p) := by
    intro fu
    induction fu with
    | zero =>
      intro p hp
      have hp5 : p = 5 := by omega
      subst hp5
      refine ld_i1 (np := 39) dX5_init_38 rfl ?_
      refine wl_iconst (np := 40) (v := nI 5) dX5_init_39 rfl (rfl) ?_
      refine wl_icmp_ge (np := 43) (tg := 62) dX5_init_40 rfl rfl (fun c_40 => ?_) (fun c_40 => ?_)
      · refine wl_ret dX5_init_62 rfl (by omega) (by omega) ?_
        exact ⟨rfl, rfl, rfl⟩
      · exact absurd (Int32.le_refl _) c_40
    | succ fu ih =>
      intro p hp
      have hall := psM_all (me := me) (w := w) p
      have hzp := psM_zr hz p
      have hzp2 : Zr (psM me w p) (w + 5 + 6 * p + 1) := hzp.up (by omega)
      refine ld_i1 (np := 39) dX5_init_38 rfl ?_
      refine wl_iconst (np := 40) (v := nI 5) dX5_init_39 rfl (rfl) ?_
      refine wl_icmp_ge (np := 43) (tg := 62) dX5_init_40 rfl rfl (fun c_40 => ?_) (fun c_40 => ?_)
      · rw [nI_leI (by decide) (by omega)] at c_40
        omega
      · refine ld_a0 (np := 44) dX5_init_43 rfl ?_
        refine wl_getr (np := 47) dX5_init_44 rfl fl_X5_11 rfl (by (repeat first | assumption | exact apE (by simp only [List.length_append, List.length_cons, List.length_nil, List.length_replicate, shP_len, shW4_len, shPl_len, shPs_len, shSs_len, hn] <;> omega) | apply apL)) (by assumption) ?_
        refine ld_i1 (np := 48) dX5_init_47 rfl ?_
        refine wl_newL (np := 51) (n := w + 5 + 6 * p) (F := 10) dX5_init_48 rfl nk_X5_9 rfl (by simp only [List.length_append, List.length_cons, List.length_nil, List.length_replicate, shP_len, shW4_len, shPl_len, shPs_len, shSs_len, hn] <;> omega) (by first | assumption | ((repeat refine Zr.ref ?_ (by omega) (by omega)); first | assumption | exact Zr.up hz (by omega))) (by omega) (by omega) (by (repeat first | refine Rfs.ref (by omega) ?_ | refine Rfs.int ?_ | refine Rfs.flt ?_ | refine Rfs.scr ?_); exact Rfs.nil) (by (repeat first | refine Rfs.ref (by omega) ?_ | refine Rfs.int ?_ | refine Rfs.flt ?_ | refine Rfs.scr ?_); exact Rfs.nil) (by omega) (by omega) ?_
        refine wl_dup (np := 52) dX5_init_51 rfl rfl ?_
        refine wl_callIN (np := 55) (n := w + 5 + 6 * p + 1) (n2 := w + 5 + 6 * p + 6) dX5_init_52 rfl lki_X5_27 (Nat.le_of_ble_eq_true rfl) (by omega) (by omega) (by omega) (by simp only [List.length_append, List.length_cons, List.length_nil, List.length_replicate, shP_len, shW4_len, shPl_len, shPs_len, shSs_len, hn] <;> omega) (by simp only [List.length_append, List.length_cons, List.length_nil, List.length_replicate, shP_len, shW4_len, shPl_len, shPs_len, shSs_len, hn] <;> omega) (by omega) (by omega) (by omega) (by (repeat first | refine Rfs.ref (by omega) ?_ | refine Rfs.int ?_ | refine Rfs.flt ?_ | refine Rfs.scr ?_); exact Rfs.nil) (by (repeat first | refine Rfs.ref (by omega) ?_ | refine Rfs.int ?_ | refine Rfs.flt ?_ | refine Rfs.scr ?_); exact Rfs.nil) (c_P_init (apE (by simp only [List.length_append, shW4_len, shPs_len, hn] <;> omega)) (by simp only [List.length_append, List.length_cons, List.length_nil, shW4_len, shPs_len, hn] <;> omega) hzp2 (by omega) (by omega)) ?_
        refine wl_aastoreN (np := 56) (t := 0) (ci := 1) (j := p) dX5_init_55 rfl (by (repeat first | assumption | exact apE (by simp only [List.length_append, List.length_cons, List.length_nil, List.length_replicate, shP_len, shW4_len, shPl_len, shPs_len, shSs_len, hn] <;> omega) | apply apL)) (fun _ => rfl) (by (repeat first | assumption | exact apE (by simp only [List.length_append, List.length_cons, List.length_nil, List.length_replicate, shP_len, shW4_len, shPl_len, shPs_len, shSs_len, hn] <;> omega) | apply apL)) rfl rfl (by omega) (by decide) ?_
        refine inc_1 (np := 59) (v := _ + 1) dX5_init_56 rfl rfl (by decide) rfl ?_
        refine wl_goto (tg := 38) dX5_init_59 rfl ?_
        rw [← nI_succ]
        have e1 : sh ++ shW4 ++ shPs p ++ [.inl 1] ++ shP = sh ++ shW4 ++ shPs (p + 1) := by
          show _ = sh ++ shW4 ++ (shPs p ++ (.inl 1 :: shP))
          simp only [List.append_assoc, List.cons_append, List.nil_append]
        rw [e1]
        exact Wa.up (by omega) (by omega) (ih (p + 1) (by omega))
  refine ld_a0 (np := 1) dX5_init_0 rfl ?_
  refine wl_obj (np := 4) dX5_init_1 rfl wl0_X5_3 (Nat.le_of_ble_eq_true rfl) (by omega) ?_
  refine ld_a0 (np := 5) dX5_init_4 rfl ?_
  refine wl_iconst (np := 6) (v := nI 5) dX5_init_5 rfl (rfl) ?_
  refine wl_newqL (np := 9) (n := w + 1) (N := 5) (t := 0) dX5_init_6 rfl rfl (by decide) (fun _ => rfl) wq_X5_9a wao_X1 (by simp only [List.length_append, List.length_cons, List.length_nil, List.length_replicate, shP_len, shW4_len, shPl_len, shPs_len, shSs_len, hn] <;> omega) (by first | assumption | ((repeat refine Zr.ref ?_ (by omega) (by omega)); first | assumption | exact Zr.up hz (by omega))) (by omega) (by omega) (by (repeat first | refine Rfs.ref (by omega) ?_ | refine Rfs.int ?_ | refine Rfs.flt ?_ | refine Rfs.scr ?_); exact Rfs.nil) (by (repeat first | refine Rfs.ref (by omega) ?_ | refine Rfs.int ?_ | refine Rfs.flt ?_ | refine Rfs.scr ?_); exact Rfs.nil) (by omega) (by omega) ?_
  refine wl_putrF (np := 12) dX5_init_9 rfl fl_X5_11 (fun C T N h => by cases h; exact ⟨rfl, rfl⟩) rfl rfl (by (repeat first | assumption | exact apE (by simp only [List.length_append, List.length_cons, List.length_nil, List.length_replicate, shP_len, shW4_len, shPl_len, shPs_len, shSs_len, hn] <;> omega) | apply apL)) ?_
  refine ld_a0 (np := 13) dX5_init_12 rfl ?_
  refine wl_bipush (np := 15) (v := nI 12) dX5_init_13 rfl (by decide) ?_
  refine wl_newiL (np := 17) (n := w + 2) (N := 12) dX5_init_15 rfl rfl (by decide) (by simp only [List.length_append, List.length_cons, List.length_nil, List.length_replicate, shP_len, shW4_len, shPl_len, shPs_len, shSs_len, hn] <;> omega) (by first | assumption | ((repeat refine Zr.ref ?_ (by omega) (by omega)); first | assumption | exact Zr.up hz (by omega))) (by omega) (by omega) (by (repeat first | refine Rfs.ref (by omega) ?_ | refine Rfs.int ?_ | refine Rfs.flt ?_ | refine Rfs.scr ?_); exact Rfs.nil) (by (repeat first | refine Rfs.ref (by omega) ?_ | refine Rfs.int ?_ | refine Rfs.flt ?_ | refine Rfs.scr ?_); exact Rfs.nil) (by omega) (by omega) ?_
  refine wl_putrF (np := 20) dX5_init_17 rfl fl_X5_17 (fun C T N h => by cases h; exact ⟨rfl, rfl⟩) rfl rfl (by (repeat first | assumption | exact apE (by simp only [List.length_append, List.length_cons, List.length_nil, List.length_replicate, shP_len, shW4_len, shPl_len, shPs_len, shSs_len, hn] <;> omega) | apply apL)) ?_
  refine ld_a0 (np := 21) dX5_init_20 rfl ?_
  refine wl_bipush (np := 23) (v := nI 8) dX5_init_21 rfl (by decide) ?_
  refine wl_newiL (np := 25) (n := w + 3) (N := 8) dX5_init_23 rfl rfl (by decide) (by simp only [List.length_append, List.length_cons, List.length_nil, List.length_replicate, shP_len, shW4_len, shPl_len, shPs_len, shSs_len, hn] <;> omega) (by first | assumption | ((repeat refine Zr.ref ?_ (by omega) (by omega)); first | assumption | exact Zr.up hz (by omega))) (by omega) (by omega) (by (repeat first | refine Rfs.ref (by omega) ?_ | refine Rfs.int ?_ | refine Rfs.flt ?_ | refine Rfs.scr ?_); exact Rfs.nil) (by (repeat first | refine Rfs.ref (by omega) ?_ | refine Rfs.int ?_ | refine Rfs.flt ?_ | refine Rfs.scr ?_); exact Rfs.nil) (by omega) (by omega) ?_
  refine wl_putrF (np := 28) dX5_init_25 rfl fl_X5_21 (fun C T N h => by cases h; exact ⟨rfl, rfl⟩) rfl rfl (by (repeat first | assumption | exact apE (by simp only [List.length_append, List.length_cons, List.length_nil, List.length_replicate, shP_len, shW4_len, shPl_len, shPs_len, shSs_len, hn] <;> omega) | apply apL)) ?_
  refine ld_a0 (np := 29) dX5_init_28 rfl ?_
  refine wl_bipush (np := 31) (v := nI 8) dX5_init_29 rfl (by decide) ?_
  refine wl_newiL (np := 33) (n := w + 4) (N := 8) dX5_init_31 rfl rfl (by decide) (by simp only [List.length_append, List.length_cons, List.length_nil, List.length_replicate, shP_len, shW4_len, shPl_len, shPs_len, shSs_len, hn] <;> omega) (by first | assumption | ((repeat refine Zr.ref ?_ (by omega) (by omega)); first | assumption | exact Zr.up hz (by omega))) (by omega) (by omega) (by (repeat first | refine Rfs.ref (by omega) ?_ | refine Rfs.int ?_ | refine Rfs.flt ?_ | refine Rfs.scr ?_); exact Rfs.nil) (by (repeat first | refine Rfs.ref (by omega) ?_ | refine Rfs.int ?_ | refine Rfs.flt ?_ | refine Rfs.scr ?_); exact Rfs.nil) (by omega) (by omega) ?_
  refine wl_putrF (np := 36) dX5_init_33 rfl fl_X5_24 (fun C T N h => by cases h; exact ⟨rfl, rfl⟩) rfl rfl (by (repeat first | assumption | exact apE (by simp only [List.length_append, List.length_cons, List.length_nil, List.length_replicate, shP_len, shW4_len, shPl_len, shPs_len, shSs_len, hn] <;> omega) | apply apL)) ?_
  refine wl_iconst (np := 37) (v := 0) dX5_init_36 rfl (rfl) ?_
  refine st_i1 (np := 38) dX5_init_37 rfl (by decide) rfl ?_
  have e0 : sh ++ [.inr (0 + 1, 5)] ++ [.inr (0, 12)] ++ [.inr (0, 8)] ++ [.inr (0, 8)] = sh ++ shW4 ++ shPs 0 := by
    show _ = sh ++ shW4 ++ []
    unfold shW4
    simp only [List.append_assoc, List.cons_append, List.nil_append, List.append_nil]
  rw [e0]
  exact Wa.up (by omega) (by omega) (key 5 0 (by omega))
set_option maxHeartbeats 4000000 in
set_option maxRecDepth 100000 in
theorem c_Pl_init {q : Nat} (hs : sh[q]? = some (.inl 2)) (hn : sh.length = q + 1) (hz : Zr me (q + 1)) (hb : q < 900000) (hd : 1 ≤ d) : CN d 10 75 mX2_init sh [.ref q] me (sh ++ shPl) (plM me q) := by
  refine CallsG.mk (L := [.ref q]) (by decide) (Nat.le_of_ble_eq_true rfl) rfl ?_
  have hz2 : Zr (muM me (q + 1) 7) (q + 9) := (hz.mu (N := 7)).up (by omega)
  refine ld_a0 (np := 1) dX2_init_0 rfl ?_
  refine wl_obj (np := 4) dX2_init_1 rfl wl0_X2_3 (Nat.le_of_ble_eq_true rfl) (by omega) ?_
  refine ld_a0 (np := 5) dX2_init_4 rfl ?_
  refine wl_bipush (np := 7) (v := nI 7) dX2_init_5 rfl (by decide) ?_
  refine wl_bipush (np := 9) (v := nI 8) dX2_init_7 rfl (by decide) ?_
  refine wl_multiL (np := 13) (n := q + 1) (N := 7) (K := 8) dX2_init_9 rfl wq_X2_9a rfl rfl (by decide) (by decide) (by simp only [List.length_append, List.length_cons, List.length_nil, List.length_replicate, shP_len, shW4_len, shPl_len, shPs_len, shSs_len, hn] <;> omega) (by first | assumption | ((repeat refine Zr.ref ?_ (by omega) (by omega)); first | assumption | exact Zr.up hz2 (by omega) | exact Zr.up hz (by omega))) (by omega) (by omega) (by (repeat first | refine Rfs.ref (by omega) ?_ | refine Rfs.int ?_ | refine Rfs.flt ?_ | refine Rfs.scr ?_); exact Rfs.nil) (by (repeat first | refine Rfs.ref (by omega) ?_ | refine Rfs.int ?_ | refine Rfs.flt ?_ | refine Rfs.scr ?_); exact Rfs.nil) (by omega) (by omega) ?_
  refine wl_putrF (np := 16) dX2_init_13 rfl fl_X2_11 (fun C T N h => by cases h; exact ⟨rfl, rfl⟩) rfl rfl (by (repeat first | assumption | exact apE (by simp only [List.length_append, List.length_cons, List.length_nil, List.length_replicate, shP_len, shW4_len, shPl_len, shPs_len, shSs_len, hn] <;> omega) | apply apL)) ?_
  refine ld_a0 (np := 17) dX2_init_16 rfl ?_
  refine wl_bipush (np := 19) (v := nI 6) dX2_init_17 rfl (by decide) ?_
  refine wl_newiL (np := 21) (n := q + 9) (N := 6) dX2_init_19 rfl rfl (by decide) (by simp only [List.length_append, List.length_cons, List.length_nil, List.length_replicate, shP_len, shW4_len, shPl_len, shPs_len, shSs_len, hn] <;> omega) (by first | assumption | ((repeat refine Zr.ref ?_ (by omega) (by omega)); first | assumption | exact Zr.up hz2 (by omega) | exact Zr.up hz (by omega))) (by omega) (by omega) (by (repeat first | refine Rfs.ref (by omega) ?_ | refine Rfs.int ?_ | refine Rfs.flt ?_ | refine Rfs.scr ?_); exact Rfs.nil) (by (repeat first | refine Rfs.ref (by omega) ?_ | refine Rfs.int ?_ | refine Rfs.flt ?_ | refine Rfs.scr ?_); exact Rfs.nil) (by omega) (by omega) ?_
  refine wl_putrF (np := 24) dX2_init_21 rfl fl_X2_16 (fun C T N h => by cases h; exact ⟨rfl, rfl⟩) rfl rfl (by (repeat first | assumption | exact apE (by simp only [List.length_append, List.length_cons, List.length_nil, List.length_replicate, shP_len, shW4_len, shPl_len, shPs_len, shSs_len, hn] <;> omega) | apply apL)) ?_
  refine ld_a0 (np := 25) dX2_init_24 rfl ?_
  refine wl_bipush (np := 27) (v := nI 6) dX2_init_25 rfl (by decide) ?_
  refine wl_newiL (np := 29) (n := q + 10) (N := 6) dX2_init_27 rfl rfl (by decide) (by simp only [List.length_append, List.length_cons, List.length_nil, List.length_replicate, shP_len, shW4_len, shPl_len, shPs_len, shSs_len, hn] <;> omega) (by first | assumption | ((repeat refine Zr.ref ?_ (by omega) (by omega)); first | assumption | exact Zr.up hz2 (by omega) | exact Zr.up hz (by omega))) (by omega) (by omega) (by (repeat first | refine Rfs.ref (by omega) ?_ | refine Rfs.int ?_ | refine Rfs.flt ?_ | refine Rfs.scr ?_); exact Rfs.nil) (by (repeat first | refine Rfs.ref (by omega) ?_ | refine Rfs.int ?_ | refine Rfs.flt ?_ | refine Rfs.scr ?_); exact Rfs.nil) (by omega) (by omega) ?_
  refine wl_putrF (np := 32) dX2_init_29 rfl fl_X2_20 (fun C T N h => by cases h; exact ⟨rfl, rfl⟩) rfl rfl (by (repeat first | assumption | exact apE (by simp only [List.length_append, List.length_cons, List.length_nil, List.length_replicate, shP_len, shW4_len, shPl_len, shPs_len, shSs_len, hn] <;> omega) | apply apL)) ?_
  refine wl_ret dX2_init_32 rfl (by omega) (by omega) ?_
  refine ⟨rfl, ?_, rfl⟩
  unfold shPl
  simp only [List.append_assoc]
set_option maxHeartbeats 4000000 in
set_option maxRecDepth 100000 in
theorem c_B_init {q : Nat} (hs : sh[q]? = some (.inl 0)) (hn : sh.length = q + 1) (hz : Zr me (q + 1)) (hb : q < 900000) (hd : 1 ≤ d) : CN d 1 3 mX0_init sh [.ref q] me (sh ++ [.inr (0, 3)]) (uR me q 0 (some (q + 1))) := by
  refine CallsG.mk (L := [.ref q]) (by decide) (Nat.le_of_ble_eq_true rfl) rfl ?_
  refine ld_a0 (np := 1) dX0_init_0 rfl ?_
  refine wl_obj (np := 4) dX0_init_1 rfl wl0_X0_1 (Nat.le_of_ble_eq_true rfl) (by omega) ?_
  refine ld_a0 (np := 5) dX0_init_4 rfl ?_
  refine wl_iconst (np := 6) (v := nI 3) dX0_init_5 rfl (rfl) ?_
  refine wl_newiL (np := 8) (n := q + 1) (N := 3) dX0_init_6 rfl rfl (by decide) (by simp only [List.length_append, List.length_cons, List.length_nil, List.length_replicate, shP_len, shW4_len, shPl_len, shPs_len, shSs_len, hn] <;> omega) (by first | assumption | ((repeat refine Zr.ref ?_ (by omega) (by omega)); first | assumption | exact Zr.up hz (by omega))) (by omega) (by omega) (by (repeat first | refine Rfs.ref (by omega) ?_ | refine Rfs.int ?_ | refine Rfs.flt ?_ | refine Rfs.scr ?_); exact Rfs.nil) (by (repeat first | refine Rfs.ref (by omega) ?_ | refine Rfs.int ?_ | refine Rfs.flt ?_ | refine Rfs.scr ?_); exact Rfs.nil) (by omega) (by omega) ?_
  refine wl_putrF (np := 11) dX0_init_8 rfl fl_X0_7 (fun C T N h => by cases h; exact ⟨rfl, rfl⟩) rfl rfl (by (repeat first | assumption | exact apE (by simp only [List.length_append, List.length_cons, List.length_nil, List.length_replicate, shP_len, shW4_len, shPl_len, shPs_len, shSs_len, hn] <;> omega) | apply apL)) ?_
  refine wl_ret dX0_init_11 rfl (by omega) (by omega) ?_
  exact ⟨rfl, rfl, rfl⟩
set_option maxHeartbeats 4000000 in
set_option maxRecDepth 100000 in
theorem c_T_init {q : Nat} (hs : sh[q]? = some (.inl 4)) (hn : sh.length = q + 1) (hz : Zr me (q + 1)) (hb : q < 900000) (hd : 1 ≤ d) : CN d 1 80 mX4_init sh [.ref q] me (sh ++ [.inr (0, 80)]) (uR me q 0 (some (q + 1))) := by
  refine CallsG.mk (L := [.ref q]) (by decide) (Nat.le_of_ble_eq_true rfl) rfl ?_
  refine ld_a0 (np := 1) dX4_init_0 rfl ?_
  refine wl_obj (np := 4) dX4_init_1 rfl wl0_X4_3 (Nat.le_of_ble_eq_true rfl) (by omega) ?_
  refine ld_a0 (np := 5) dX4_init_4 rfl ?_
  refine wl_bipush (np := 7) (v := nI 80) dX4_init_5 rfl (by decide) ?_
  refine wl_newiL (np := 9) (n := q + 1) (N := 80) dX4_init_7 rfl rfl (by decide) (by simp only [List.length_append, List.length_cons, List.length_nil, List.length_replicate, shP_len, shW4_len, shPl_len, shPs_len, shSs_len, hn] <;> omega) (by first | assumption | ((repeat refine Zr.ref ?_ (by omega) (by omega)); first | assumption | exact Zr.up hz (by omega))) (by omega) (by omega) (by (repeat first | refine Rfs.ref (by omega) ?_ | refine Rfs.int ?_ | refine Rfs.flt ?_ | refine Rfs.scr ?_); exact Rfs.nil) (by (repeat first | refine Rfs.ref (by omega) ?_ | refine Rfs.int ?_ | refine Rfs.flt ?_ | refine Rfs.scr ?_); exact Rfs.nil) (by omega) (by omega) ?_
  refine wl_putrF (np := 12) dX4_init_9 rfl fl_X4_9 (fun C T N h => by cases h; exact ⟨rfl, rfl⟩) rfl rfl (by (repeat first | assumption | exact apE (by simp only [List.length_append, List.length_cons, List.length_nil, List.length_replicate, shP_len, shW4_len, shPl_len, shPs_len, shSs_len, hn] <;> omega) | apply apL)) ?_
  refine wl_ret dX4_init_12 rfl (by omega) (by omega) ?_
  exact ⟨rfl, rfl, rfl⟩
set_option maxHeartbeats 4000000 in
set_option maxRecDepth 100000 in
theorem c_Sh_init {q : Nat} (hs : sh[q]? = some (.inl 3)) (hn : sh.length = q + 1) (hz : Zr me (q + 1)) (hb : q < 900000) (hd : 1 ≤ d) : CN d 1 24 mX3_init sh [.ref q] me (sh ++ [.inr (0, 24)]) (uR me q 0 (some (q + 1))) := by
  refine CallsG.mk (L := [.ref q]) (by decide) (Nat.le_of_ble_eq_true rfl) rfl ?_
  refine ld_a0 (np := 1) dX3_init_0 rfl ?_
  refine wl_obj (np := 4) dX3_init_1 rfl wl0_X3_3 (Nat.le_of_ble_eq_true rfl) (by omega) ?_
  refine ld_a0 (np := 5) dX3_init_4 rfl ?_
  refine wl_bipush (np := 7) (v := nI 24) dX3_init_5 rfl (by decide) ?_
  refine wl_newiL (np := 9) (n := q + 1) (N := 24) dX3_init_7 rfl rfl (by decide) (by simp only [List.length_append, List.length_cons, List.length_nil, List.length_replicate, shP_len, shW4_len, shPl_len, shPs_len, shSs_len, hn] <;> omega) (by first | assumption | ((repeat refine Zr.ref ?_ (by omega) (by omega)); first | assumption | exact Zr.up hz (by omega))) (by omega) (by omega) (by (repeat first | refine Rfs.ref (by omega) ?_ | refine Rfs.int ?_ | refine Rfs.flt ?_ | refine Rfs.scr ?_); exact Rfs.nil) (by (repeat first | refine Rfs.ref (by omega) ?_ | refine Rfs.int ?_ | refine Rfs.flt ?_ | refine Rfs.scr ?_); exact Rfs.nil) (by omega) (by omega) ?_
  refine wl_putrF (np := 12) dX3_init_9 rfl fl_X3_9 (fun C T N h => by cases h; exact ⟨rfl, rfl⟩) rfl rfl (by (repeat first | assumption | exact apE (by simp only [List.length_append, List.length_cons, List.length_nil, List.length_replicate, shP_len, shW4_len, shPl_len, shPs_len, shSs_len, hn] <;> omega) | apply apL)) ?_
  refine wl_ret dX3_init_12 rfl (by omega) (by omega) ?_
  exact ⟨rfl, rfl, rfl⟩
end CTOR
