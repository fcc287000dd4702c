section LAW
variable {sh : List Shp} {me : Mem} {S : St} {nm : String} {sx : Scr} {Lx k : Nat}
set_option maxHeartbeats 4000000 in
set_option maxRecDepth 100000 in
theorem law_21 (hI : InvL sh me S k) (hsx : sx.1 = Lx + 1) (hL : Lx ≤ 384) (h6 : 6 * k + 6 ≤ Lx) (kc : ∀ m S', InvL sh m S' (k + 1) → Wa (mL nm) sx 20 600000 7302249 0 QL 1174 [.retAddr 0, .ref 0, .ref 136, .int (nI (6 * k))] [] sh m 600000 7302249) : Wa (mL nm) sx 20 600000 7302249 0 QL 913 [.retAddr 0, .ref 0, .ref 136, .int (nI (6 * k))] [] sh me 600000 7302249 := by
  obtain ⟨hFC, hFM, hRC, hRM, hok, hb0⟩ := id hI
  have z0 := hFC.1
  have z1 := hFM.1
  refine ld_a1 (np := 914) dL_law_913 rfl ?_
  refine ciV_0 (np := 917) dL_law_914 rfl lk_L_105 (by assumption) (Nat.le_of_ble_eq_true rfl) (by omega) (Nat.le_refl _) (Nat.le_refl _) (c_dc_image hFC hRC (by omega)) (fun x_914 m_914 h_914 => ?_)
  obtain ⟨rfl, g1⟩ := h_914
  obtain ⟨hFM1, hRM1⟩ := g1.toM hFM hRM
  refine ld_a2 (np := 918) dL_law_917 rfl ?_
  refine ciV_0 (np := 921) dL_law_918 rfl lk_L_109 (by assumption) (Nat.le_of_ble_eq_true rfl) (by omega) (Nat.le_refl _) (Nat.le_refl _) (c_M_image hFM1 hRM1 (by omega)) (fun x_918 m_918 h_918 => ?_)
  obtain ⟨rfl, g2⟩ := h_918
  have hI2 := inv_next hI g1 g2 (ok_image hok)
  refine wl_icmp_eq (np := 924) (tg := 1174) dL_law_921 rfl rfl (fun c_921 => ?_) (fun c_921 => ?_)
  · exact kc _ _ hI2
  · exact absurd rfl c_921
set_option maxHeartbeats 4000000 in
set_option maxRecDepth 100000 in
theorem law_22 (hI : InvL sh me S k) (hsx : sx.1 = Lx + 1) (hL : Lx ≤ 384) (h6 : 6 * k + 6 ≤ Lx) (kc : ∀ m S', InvL sh m S' (k + 1) → Wa (mL nm) sx 20 600000 7302249 0 QL 1174 [.retAddr 0, .ref 0, .ref 136, .int (nI (6 * k))] [] sh m 600000 7302249) : Wa (mL nm) sx 20 600000 7302249 0 QL 926 [.retAddr 0, .ref 0, .ref 136, .int (nI (6 * k))] [] sh me 600000 7302249 := by
  obtain ⟨hFC, hFM, hRC, hRM, hok, hb0⟩ := id hI
  have z0 := hFC.1
  have z1 := hFM.1
  refine ld_a1 (np := 927) dL_law_926 rfl ?_
  refine ciV_0 (np := 930) dL_law_927 rfl lk_L_110 (by assumption) (Nat.le_of_ble_eq_true rfl) (by omega) (Nat.le_refl _) (Nat.le_refl _) (c_dc_restore hFC hRC (by omega)) (fun x_927 m_927 h_927 => ?_)
  obtain ⟨rfl, g1⟩ := h_927
  obtain ⟨hFM1, hRM1⟩ := g1.toM hFM hRM
  refine ld_a2 (np := 931) dL_law_930 rfl ?_
  refine ciV_0 (np := 934) dL_law_931 rfl lk_L_113 (by assumption) (Nat.le_of_ble_eq_true rfl) (by omega) (Nat.le_refl _) (Nat.le_refl _) (c_M_restore hFM1 hRM1 (by omega)) (fun x_931 m_931 h_931 => ?_)
  obtain ⟨rfl, g2⟩ := h_931
  have hI2 := inv_next hI g1 g2 (ok_restore hok)
  refine wl_icmp_eq (np := 937) (tg := 1174) dL_law_934 rfl rfl (fun c_934 => ?_) (fun c_934 => ?_)
  · exact kc _ _ hI2
  · exact absurd rfl c_934
set_option maxHeartbeats 4000000 in
set_option maxRecDepth 100000 in
theorem law_23 (hI : InvL sh me S k) (hsx : sx.1 = Lx + 1) (hL : Lx ≤ 384) (h6 : 6 * k + 6 ≤ Lx) (kc : ∀ m S', InvL sh m S' (k + 1) → Wa (mL nm) sx 20 600000 7302249 0 QL 1174 [.retAddr 0, .ref 0, .ref 136, .int (nI (6 * k))] [] sh m 600000 7302249) : Wa (mL nm) sx 20 600000 7302249 0 QL 939 [.retAddr 0, .ref 0, .ref 136, .int (nI (6 * k))] [] sh me 600000 7302249 := by
  obtain ⟨hFC, hFM, hRC, hRM, hok, hb0⟩ := id hI
  have z0 := hFC.1
  have z1 := hFM.1
  refine ld_a1 (np := 940) dL_law_939 rfl ?_
  refine ldS_a0 (np := 941) dL_law_940 rfl ?_
  refine ld_i3 (np := 942) dL_law_941 rfl ?_
  refine wl_iconst (np := 943) (v := 1) dL_law_942 rfl (rfl) ?_
  refine wl_iadd (np := 944) dL_law_943 rfl ?_
  refine wl_sloadN (np := 945) dL_law_944 rfl hsx hb0 (by first | (simp only [nIm, nIa, ← nI_succ]; exact rfl) | exact nI_z | exact nI_o | exact rfl) (by omega) (by omega) ?_
  refine ldS_a0 (np := 946) dL_law_945 rfl ?_
  refine ld_i3 (np := 947) dL_law_946 rfl ?_
  refine wl_iconst (np := 948) (v := nI 2) dL_law_947 rfl (rfl) ?_
  refine wl_iadd (np := 949) dL_law_948 rfl ?_
  refine wl_sloadN (np := 950) dL_law_949 rfl hsx hb0 (by first | (simp only [nIm, nIa, ← nI_succ]; exact rfl) | exact nI_z | exact nI_o | exact rfl) (by omega) (by omega) ?_
  refine ldS_a0 (np := 951) dL_law_950 rfl ?_
  refine ld_i3 (np := 952) dL_law_951 rfl ?_
  refine wl_iconst (np := 953) (v := nI 3) dL_law_952 rfl (rfl) ?_
  refine wl_iadd (np := 954) dL_law_953 rfl ?_
  refine wl_sloadN (np := 955) dL_law_954 rfl hsx hb0 (by first | (simp only [nIm, nIa, ← nI_succ]; exact rfl) | exact nI_z | exact nI_o | exact rfl) (by omega) (by omega) ?_
  refine ldS_a0 (np := 956) dL_law_955 rfl ?_
  refine ld_i3 (np := 957) dL_law_956 rfl ?_
  refine wl_iconst (np := 958) (v := nI 4) dL_law_957 rfl (rfl) ?_
  refine wl_iadd (np := 959) dL_law_958 rfl ?_
  refine wl_sloadN (np := 960) dL_law_959 rfl hsx hb0 (by first | (simp only [nIm, nIa, ← nI_succ]; exact rfl) | exact nI_z | exact nI_o | exact rfl) (by omega) (by omega) ?_
  refine ciV_4 (np := 963) dL_law_960 rfl lk_L_114 (by assumption) (Nat.le_of_ble_eq_true rfl) (by omega) (Nat.le_refl _) (Nat.le_refl _) (c_dc_judged _ _ _ _ hFC hRC hok.len (by omega)) (fun x_960 m_960 h_960 => ?_)
  obtain ⟨rfl, g1⟩ := h_960
  obtain ⟨hFM1, hRM1⟩ := g1.toM hFM hRM
  refine ld_a2 (np := 964) dL_law_963 rfl ?_
  refine ldS_a0 (np := 965) dL_law_964 rfl ?_
  refine ld_i3 (np := 966) dL_law_965 rfl ?_
  refine wl_iconst (np := 967) (v := 1) dL_law_966 rfl (rfl) ?_
  refine wl_iadd (np := 968) dL_law_967 rfl ?_
  refine wl_sloadN (np := 969) dL_law_968 rfl hsx hb0 (by first | (simp only [nIm, nIa, ← nI_succ]; exact rfl) | exact nI_z | exact nI_o | exact rfl) (by omega) (by omega) ?_
  refine ldS_a0 (np := 970) dL_law_969 rfl ?_
  refine ld_i3 (np := 971) dL_law_970 rfl ?_
  refine wl_iconst (np := 972) (v := nI 2) dL_law_971 rfl (rfl) ?_
  refine wl_iadd (np := 973) dL_law_972 rfl ?_
  refine wl_sloadN (np := 974) dL_law_973 rfl hsx hb0 (by first | (simp only [nIm, nIa, ← nI_succ]; exact rfl) | exact nI_z | exact nI_o | exact rfl) (by omega) (by omega) ?_
  refine ldS_a0 (np := 975) dL_law_974 rfl ?_
  refine ld_i3 (np := 976) dL_law_975 rfl ?_
  refine wl_iconst (np := 977) (v := nI 3) dL_law_976 rfl (rfl) ?_
  refine wl_iadd (np := 978) dL_law_977 rfl ?_
  refine wl_sloadN (np := 979) dL_law_978 rfl hsx hb0 (by first | (simp only [nIm, nIa, ← nI_succ]; exact rfl) | exact nI_z | exact nI_o | exact rfl) (by omega) (by omega) ?_
  refine ldS_a0 (np := 980) dL_law_979 rfl ?_
  refine ld_i3 (np := 981) dL_law_980 rfl ?_
  refine wl_iconst (np := 982) (v := nI 4) dL_law_981 rfl (rfl) ?_
  refine wl_iadd (np := 983) dL_law_982 rfl ?_
  refine wl_sloadN (np := 984) dL_law_983 rfl hsx hb0 (by first | (simp only [nIm, nIa, ← nI_succ]; exact rfl) | exact nI_z | exact nI_o | exact rfl) (by omega) (by omega) ?_
  refine ciV_4 (np := 987) dL_law_984 rfl lk_L_117 (by assumption) (Nat.le_of_ble_eq_true rfl) (by omega) (Nat.le_refl _) (Nat.le_refl _) (c_M_judged _ _ _ _ hFM1 hRM1 hok.1.1 (by omega) (by omega)) (fun x_984 m_984 h_984 => ?_)
  obtain ⟨rfl, g2⟩ := h_984
  have hI2 := inv_next hI g1 g2 (ok_judged hok _ _ _ _)
  refine wl_icmp_eq (np := 990) (tg := 1174) dL_law_987 rfl rfl (fun c_987 => ?_) (fun c_987 => ?_)
  · exact kc _ _ hI2
  · exact absurd rfl c_987
set_option maxHeartbeats 4000000 in
set_option maxRecDepth 100000 in
theorem law_24 (hI : InvL sh me S k) (hsx : sx.1 = Lx + 1) (hL : Lx ≤ 384) (h6 : 6 * k + 6 ≤ Lx) (kc : ∀ m S', InvL sh m S' (k + 1) → Wa (mL nm) sx 20 600000 7302249 0 QL 1174 [.retAddr 0, .ref 0, .ref 136, .int (nI (6 * k))] [] sh m 600000 7302249) : Wa (mL nm) sx 20 600000 7302249 0 QL 992 [.retAddr 0, .ref 0, .ref 136, .int (nI (6 * k))] [] sh me 600000 7302249 := by
  obtain ⟨hFC, hFM, hRC, hRM, hok, hb0⟩ := id hI
  have z0 := hFC.1
  have z1 := hFM.1
  refine ld_a1 (np := 993) dL_law_992 rfl ?_
  refine ldS_a0 (np := 994) dL_law_993 rfl ?_
  refine ld_i3 (np := 995) dL_law_994 rfl ?_
  refine wl_iconst (np := 996) (v := 1) dL_law_995 rfl (rfl) ?_
  refine wl_iadd (np := 997) dL_law_996 rfl ?_
  refine wl_sloadN (np := 998) dL_law_997 rfl hsx hb0 (by first | (simp only [nIm, nIa, ← nI_succ]; exact rfl) | exact nI_z | exact nI_o | exact rfl) (by omega) (by omega) ?_
  refine ldS_a0 (np := 999) dL_law_998 rfl ?_
  refine ld_i3 (np := 1000) dL_law_999 rfl ?_
  refine wl_iconst (np := 1001) (v := nI 2) dL_law_1000 rfl (rfl) ?_
  refine wl_iadd (np := 1002) dL_law_1001 rfl ?_
  refine wl_sloadN (np := 1003) dL_law_1002 rfl hsx hb0 (by first | (simp only [nIm, nIa, ← nI_succ]; exact rfl) | exact nI_z | exact nI_o | exact rfl) (by omega) (by omega) ?_
  refine ldS_a0 (np := 1004) dL_law_1003 rfl ?_
  refine ld_i3 (np := 1005) dL_law_1004 rfl ?_
  refine wl_iconst (np := 1006) (v := nI 3) dL_law_1005 rfl (rfl) ?_
  refine wl_iadd (np := 1007) dL_law_1006 rfl ?_
  refine wl_sloadN (np := 1008) dL_law_1007 rfl hsx hb0 (by first | (simp only [nIm, nIa, ← nI_succ]; exact rfl) | exact nI_z | exact nI_o | exact rfl) (by omega) (by omega) ?_
  refine ciV_3 (np := 1011) dL_law_1008 rfl lk_L_118 (by assumption) (Nat.le_of_ble_eq_true rfl) (by omega) (Nat.le_refl _) (Nat.le_refl _) (c_dc_sheet _ _ _ hFC hRC (by omega)) (fun x_1008 m_1008 h_1008 => ?_)
  obtain ⟨rfl, g1⟩ := h_1008
  obtain ⟨hFM1, hRM1⟩ := g1.toM hFM hRM
  refine ld_a2 (np := 1012) dL_law_1011 rfl ?_
  refine ldS_a0 (np := 1013) dL_law_1012 rfl ?_
  refine ld_i3 (np := 1014) dL_law_1013 rfl ?_
  refine wl_iconst (np := 1015) (v := 1) dL_law_1014 rfl (rfl) ?_
  refine wl_iadd (np := 1016) dL_law_1015 rfl ?_
  refine wl_sloadN (np := 1017) dL_law_1016 rfl hsx hb0 (by first | (simp only [nIm, nIa, ← nI_succ]; exact rfl) | exact nI_z | exact nI_o | exact rfl) (by omega) (by omega) ?_
  refine ldS_a0 (np := 1018) dL_law_1017 rfl ?_
  refine ld_i3 (np := 1019) dL_law_1018 rfl ?_
  refine wl_iconst (np := 1020) (v := nI 2) dL_law_1019 rfl (rfl) ?_
  refine wl_iadd (np := 1021) dL_law_1020 rfl ?_
  refine wl_sloadN (np := 1022) dL_law_1021 rfl hsx hb0 (by first | (simp only [nIm, nIa, ← nI_succ]; exact rfl) | exact nI_z | exact nI_o | exact rfl) (by omega) (by omega) ?_
  refine ldS_a0 (np := 1023) dL_law_1022 rfl ?_
  refine ld_i3 (np := 1024) dL_law_1023 rfl ?_
  refine wl_iconst (np := 1025) (v := nI 3) dL_law_1024 rfl (rfl) ?_
  refine wl_iadd (np := 1026) dL_law_1025 rfl ?_
  refine wl_sloadN (np := 1027) dL_law_1026 rfl hsx hb0 (by first | (simp only [nIm, nIa, ← nI_succ]; exact rfl) | exact nI_z | exact nI_o | exact rfl) (by omega) (by omega) ?_
  refine ciV_3 (np := 1030) dL_law_1027 rfl lk_L_121 (by assumption) (Nat.le_of_ble_eq_true rfl) (by omega) (Nat.le_refl _) (Nat.le_refl _) (c_M_sheet _ _ _ hFM1 hRM1 (by omega)) (fun x_1027 m_1027 h_1027 => ?_)
  obtain ⟨rfl, g2⟩ := h_1027
  have hI2 := inv_next hI g1 g2 (ok_sheet hok _ _ _)
  refine wl_icmp_eq (np := 1033) (tg := 1174) dL_law_1030 rfl rfl (fun c_1030 => ?_) (fun c_1030 => ?_)
  · exact kc _ _ hI2
  · exact absurd rfl c_1030
set_option maxHeartbeats 4000000 in
set_option maxRecDepth 100000 in
theorem law_25 (hI : InvL sh me S k) (hsx : sx.1 = Lx + 1) (hL : Lx ≤ 384) (h6 : 6 * k + 6 ≤ Lx) (kc : ∀ m S', InvL sh m S' (k + 1) → Wa (mL nm) sx 20 600000 7302249 0 QL 1174 [.retAddr 0, .ref 0, .ref 136, .int (nI (6 * k))] [] sh m 600000 7302249) : Wa (mL nm) sx 20 600000 7302249 0 QL 1035 [.retAddr 0, .ref 0, .ref 136, .int (nI (6 * k))] [] sh me 600000 7302249 := by
  obtain ⟨hFC, hFM, hRC, hRM, hok, hb0⟩ := id hI
  have z0 := hFC.1
  have z1 := hFM.1
  refine ld_a1 (np := 1036) dL_law_1035 rfl ?_
  refine ldS_a0 (np := 1037) dL_law_1036 rfl ?_
  refine ld_i3 (np := 1038) dL_law_1037 rfl ?_
  refine wl_iconst (np := 1039) (v := 1) dL_law_1038 rfl (rfl) ?_
  refine wl_iadd (np := 1040) dL_law_1039 rfl ?_
  refine wl_sloadN (np := 1041) dL_law_1040 rfl hsx hb0 (by first | (simp only [nIm, nIa, ← nI_succ]; exact rfl) | exact nI_z | exact nI_o | exact rfl) (by omega) (by omega) ?_
  refine ciV_1 (np := 1044) dL_law_1041 rfl lk_L_122 (by assumption) (Nat.le_of_ble_eq_true rfl) (by omega) (Nat.le_refl _) (Nat.le_refl _) (c_dc_drop _ hFC hRC (by omega)) (fun x_1041 m_1041 h_1041 => ?_)
  obtain ⟨rfl, g1⟩ := h_1041
  obtain ⟨hFM1, hRM1⟩ := g1.toM hFM hRM
  refine ld_a2 (np := 1045) dL_law_1044 rfl ?_
  refine ldS_a0 (np := 1046) dL_law_1045 rfl ?_
  refine ld_i3 (np := 1047) dL_law_1046 rfl ?_
  refine wl_iconst (np := 1048) (v := 1) dL_law_1047 rfl (rfl) ?_
  refine wl_iadd (np := 1049) dL_law_1048 rfl ?_
  refine wl_sloadN (np := 1050) dL_law_1049 rfl hsx hb0 (by first | (simp only [nIm, nIa, ← nI_succ]; exact rfl) | exact nI_z | exact nI_o | exact rfl) (by omega) (by omega) ?_
  refine ciV_1 (np := 1053) dL_law_1050 rfl lk_L_125 (by assumption) (Nat.le_of_ble_eq_true rfl) (by omega) (Nat.le_refl _) (Nat.le_refl _) (c_M_drop _ hFM1 hRM1 (by omega)) (fun x_1050 m_1050 h_1050 => ?_)
  obtain ⟨rfl, g2⟩ := h_1050
  have hI2 := inv_next hI g1 g2 (ok_drop hok _)
  refine wl_icmp_eq (np := 1056) (tg := 1174) dL_law_1053 rfl rfl (fun c_1053 => ?_) (fun c_1053 => ?_)
  · exact kc _ _ hI2
  · exact absurd rfl c_1053
set_option maxHeartbeats 4000000 in
set_option maxRecDepth 100000 in
theorem law_26 (hI : InvL sh me S k) (hsx : sx.1 = Lx + 1) (hL : Lx ≤ 384) (h6 : 6 * k + 6 ≤ Lx) (kc : ∀ m S', InvL sh m S' (k + 1) → Wa (mL nm) sx 20 600000 7302249 0 QL 1174 [.retAddr 0, .ref 0, .ref 136, .int (nI (6 * k))] [] sh m 600000 7302249) : Wa (mL nm) sx 20 600000 7302249 0 QL 1058 [.retAddr 0, .ref 0, .ref 136, .int (nI (6 * k))] [] sh me 600000 7302249 := by
  obtain ⟨hFC, hFM, hRC, hRM, hok, hb0⟩ := id hI
  have z0 := hFC.1
  have z1 := hFM.1
  refine ld_a1 (np := 1059) dL_law_1058 rfl ?_
  refine ldS_a0 (np := 1060) dL_law_1059 rfl ?_
  refine ld_i3 (np := 1061) dL_law_1060 rfl ?_
  refine wl_iconst (np := 1062) (v := 1) dL_law_1061 rfl (rfl) ?_
  refine wl_iadd (np := 1063) dL_law_1062 rfl ?_
  refine wl_sloadN (np := 1064) dL_law_1063 rfl hsx hb0 (by first | (simp only [nIm, nIa, ← nI_succ]; exact rfl) | exact nI_z | exact nI_o | exact rfl) (by omega) (by omega) ?_
  refine ldS_a0 (np := 1065) dL_law_1064 rfl ?_
  refine ld_i3 (np := 1066) dL_law_1065 rfl ?_
  refine wl_iconst (np := 1067) (v := nI 2) dL_law_1066 rfl (rfl) ?_
  refine wl_iadd (np := 1068) dL_law_1067 rfl ?_
  refine wl_sloadN (np := 1069) dL_law_1068 rfl hsx hb0 (by first | (simp only [nIm, nIa, ← nI_succ]; exact rfl) | exact nI_z | exact nI_o | exact rfl) (by omega) (by omega) ?_
  refine ldS_a0 (np := 1070) dL_law_1069 rfl ?_
  refine ld_i3 (np := 1071) dL_law_1070 rfl ?_
  refine wl_iconst (np := 1072) (v := nI 3) dL_law_1071 rfl (rfl) ?_
  refine wl_iadd (np := 1073) dL_law_1072 rfl ?_
  refine wl_sloadN (np := 1074) dL_law_1073 rfl hsx hb0 (by first | (simp only [nIm, nIa, ← nI_succ]; exact rfl) | exact nI_z | exact nI_o | exact rfl) (by omega) (by omega) ?_
  refine ldS_a0 (np := 1075) dL_law_1074 rfl ?_
  refine ld_i3 (np := 1076) dL_law_1075 rfl ?_
  refine wl_iconst (np := 1077) (v := nI 4) dL_law_1076 rfl (rfl) ?_
  refine wl_iadd (np := 1078) dL_law_1077 rfl ?_
  refine wl_sloadN (np := 1079) dL_law_1078 rfl hsx hb0 (by first | (simp only [nIm, nIa, ← nI_succ]; exact rfl) | exact nI_z | exact nI_o | exact rfl) (by omega) (by omega) ?_
  refine ciV_4 (np := 1082) dL_law_1079 rfl lk_L_126 (by assumption) (Nat.le_of_ble_eq_true rfl) (by omega) (Nat.le_refl _) (Nat.le_refl _) (c_dc_item _ _ _ _ hFC hRC (by omega)) (fun x_1079 m_1079 h_1079 => ?_)
  obtain ⟨rfl, g1⟩ := h_1079
  obtain ⟨hFM1, hRM1⟩ := g1.toM hFM hRM
  refine ld_a2 (np := 1083) dL_law_1082 rfl ?_
  refine ldS_a0 (np := 1084) dL_law_1083 rfl ?_
  refine ld_i3 (np := 1085) dL_law_1084 rfl ?_
  refine wl_iconst (np := 1086) (v := 1) dL_law_1085 rfl (rfl) ?_
  refine wl_iadd (np := 1087) dL_law_1086 rfl ?_
  refine wl_sloadN (np := 1088) dL_law_1087 rfl hsx hb0 (by first | (simp only [nIm, nIa, ← nI_succ]; exact rfl) | exact nI_z | exact nI_o | exact rfl) (by omega) (by omega) ?_
  refine ldS_a0 (np := 1089) dL_law_1088 rfl ?_
  refine ld_i3 (np := 1090) dL_law_1089 rfl ?_
  refine wl_iconst (np := 1091) (v := nI 2) dL_law_1090 rfl (rfl) ?_
  refine wl_iadd (np := 1092) dL_law_1091 rfl ?_
  refine wl_sloadN (np := 1093) dL_law_1092 rfl hsx hb0 (by first | (simp only [nIm, nIa, ← nI_succ]; exact rfl) | exact nI_z | exact nI_o | exact rfl) (by omega) (by omega) ?_
  refine ldS_a0 (np := 1094) dL_law_1093 rfl ?_
  refine ld_i3 (np := 1095) dL_law_1094 rfl ?_
  refine wl_iconst (np := 1096) (v := nI 3) dL_law_1095 rfl (rfl) ?_
  refine wl_iadd (np := 1097) dL_law_1096 rfl ?_
  refine wl_sloadN (np := 1098) dL_law_1097 rfl hsx hb0 (by first | (simp only [nIm, nIa, ← nI_succ]; exact rfl) | exact nI_z | exact nI_o | exact rfl) (by omega) (by omega) ?_
  refine ldS_a0 (np := 1099) dL_law_1098 rfl ?_
  refine ld_i3 (np := 1100) dL_law_1099 rfl ?_
  refine wl_iconst (np := 1101) (v := nI 4) dL_law_1100 rfl (rfl) ?_
  refine wl_iadd (np := 1102) dL_law_1101 rfl ?_
  refine wl_sloadN (np := 1103) dL_law_1102 rfl hsx hb0 (by first | (simp only [nIm, nIa, ← nI_succ]; exact rfl) | exact nI_z | exact nI_o | exact rfl) (by omega) (by omega) ?_
  refine ciV_4 (np := 1106) dL_law_1103 rfl lk_L_129 (by assumption) (Nat.le_of_ble_eq_true rfl) (by omega) (Nat.le_refl _) (Nat.le_refl _) (c_M_item _ _ _ _ hFM1 hRM1 (by omega)) (fun x_1103 m_1103 h_1103 => ?_)
  obtain ⟨rfl, g2⟩ := h_1103
  have hI2 := inv_next hI g1 g2 (ok_item hok _ _ _ _)
  refine wl_icmp_eq (np := 1109) (tg := 1174) dL_law_1106 rfl rfl (fun c_1106 => ?_) (fun c_1106 => ?_)
  · exact kc _ _ hI2
  · exact absurd rfl c_1106
set_option maxHeartbeats 4000000 in
set_option maxRecDepth 100000 in
theorem law_27 (hI : InvL sh me S k) (hsx : sx.1 = Lx + 1) (hL : Lx ≤ 384) (h6 : 6 * k + 6 ≤ Lx) (kc : ∀ m S', InvL sh m S' (k + 1) → Wa (mL nm) sx 20 600000 7302249 0 QL 1174 [.retAddr 0, .ref 0, .ref 136, .int (nI (6 * k))] [] sh m 600000 7302249) : Wa (mL nm) sx 20 600000 7302249 0 QL 1111 [.retAddr 0, .ref 0, .ref 136, .int (nI (6 * k))] [] sh me 600000 7302249 := by
  obtain ⟨hFC, hFM, hRC, hRM, hok, hb0⟩ := id hI
  have z0 := hFC.1
  have z1 := hFM.1
  refine ld_a1 (np := 1112) dL_law_1111 rfl ?_
  refine ldS_a0 (np := 1113) dL_law_1112 rfl ?_
  refine ld_i3 (np := 1114) dL_law_1113 rfl ?_
  refine wl_iconst (np := 1115) (v := 1) dL_law_1114 rfl (rfl) ?_
  refine wl_iadd (np := 1116) dL_law_1115 rfl ?_
  refine wl_sloadN (np := 1117) dL_law_1116 rfl hsx hb0 (by first | (simp only [nIm, nIa, ← nI_succ]; exact rfl) | exact nI_z | exact nI_o | exact rfl) (by omega) (by omega) ?_
  refine ldS_a0 (np := 1118) dL_law_1117 rfl ?_
  refine ld_i3 (np := 1119) dL_law_1118 rfl ?_
  refine wl_iconst (np := 1120) (v := nI 2) dL_law_1119 rfl (rfl) ?_
  refine wl_iadd (np := 1121) dL_law_1120 rfl ?_
  refine wl_sloadN (np := 1122) dL_law_1121 rfl hsx hb0 (by first | (simp only [nIm, nIa, ← nI_succ]; exact rfl) | exact nI_z | exact nI_o | exact rfl) (by omega) (by omega) ?_
  refine ldS_a0 (np := 1123) dL_law_1122 rfl ?_
  refine ld_i3 (np := 1124) dL_law_1123 rfl ?_
  refine wl_iconst (np := 1125) (v := nI 3) dL_law_1124 rfl (rfl) ?_
  refine wl_iadd (np := 1126) dL_law_1125 rfl ?_
  refine wl_sloadN (np := 1127) dL_law_1126 rfl hsx hb0 (by first | (simp only [nIm, nIa, ← nI_succ]; exact rfl) | exact nI_z | exact nI_o | exact rfl) (by omega) (by omega) ?_
  refine ldS_a0 (np := 1128) dL_law_1127 rfl ?_
  refine ld_i3 (np := 1129) dL_law_1128 rfl ?_
  refine wl_iconst (np := 1130) (v := nI 4) dL_law_1129 rfl (rfl) ?_
  refine wl_iadd (np := 1131) dL_law_1130 rfl ?_
  refine wl_sloadN (np := 1132) dL_law_1131 rfl hsx hb0 (by first | (simp only [nIm, nIa, ← nI_succ]; exact rfl) | exact nI_z | exact nI_o | exact rfl) (by omega) (by omega) ?_
  refine ldS_a0 (np := 1133) dL_law_1132 rfl ?_
  refine ld_i3 (np := 1134) dL_law_1133 rfl ?_
  refine wl_iconst (np := 1135) (v := nI 5) dL_law_1134 rfl (rfl) ?_
  refine wl_iadd (np := 1136) dL_law_1135 rfl ?_
  refine wl_sloadN (np := 1137) dL_law_1136 rfl hsx hb0 (by first | (simp only [nIm, nIa, ← nI_succ]; exact rfl) | exact nI_z | exact nI_o | exact rfl) (by omega) (by omega) ?_
  refine ciV_5 (np := 1140) dL_law_1137 rfl lk_L_130 (by assumption) (Nat.le_of_ble_eq_true rfl) (by omega) (Nat.le_refl _) (Nat.le_refl _) (c_dc_copy _ _ _ _ _ hFC hRC (by omega)) (fun x_1137 m_1137 h_1137 => ?_)
  obtain ⟨rfl, g1⟩ := h_1137
  obtain ⟨hFM1, hRM1⟩ := g1.toM hFM hRM
  refine ld_a2 (np := 1141) dL_law_1140 rfl ?_
  refine ldS_a0 (np := 1142) dL_law_1141 rfl ?_
  refine ld_i3 (np := 1143) dL_law_1142 rfl ?_
  refine wl_iconst (np := 1144) (v := 1) dL_law_1143 rfl (rfl) ?_
  refine wl_iadd (np := 1145) dL_law_1144 rfl ?_
  refine wl_sloadN (np := 1146) dL_law_1145 rfl hsx hb0 (by first | (simp only [nIm, nIa, ← nI_succ]; exact rfl) | exact nI_z | exact nI_o | exact rfl) (by omega) (by omega) ?_
  refine ldS_a0 (np := 1147) dL_law_1146 rfl ?_
  refine ld_i3 (np := 1148) dL_law_1147 rfl ?_
  refine wl_iconst (np := 1149) (v := nI 2) dL_law_1148 rfl (rfl) ?_
  refine wl_iadd (np := 1150) dL_law_1149 rfl ?_
  refine wl_sloadN (np := 1151) dL_law_1150 rfl hsx hb0 (by first | (simp only [nIm, nIa, ← nI_succ]; exact rfl) | exact nI_z | exact nI_o | exact rfl) (by omega) (by omega) ?_
  refine ldS_a0 (np := 1152) dL_law_1151 rfl ?_
  refine ld_i3 (np := 1153) dL_law_1152 rfl ?_
  refine wl_iconst (np := 1154) (v := nI 3) dL_law_1153 rfl (rfl) ?_
  refine wl_iadd (np := 1155) dL_law_1154 rfl ?_
  refine wl_sloadN (np := 1156) dL_law_1155 rfl hsx hb0 (by first | (simp only [nIm, nIa, ← nI_succ]; exact rfl) | exact nI_z | exact nI_o | exact rfl) (by omega) (by omega) ?_
  refine ldS_a0 (np := 1157) dL_law_1156 rfl ?_
  refine ld_i3 (np := 1158) dL_law_1157 rfl ?_
  refine wl_iconst (np := 1159) (v := nI 4) dL_law_1158 rfl (rfl) ?_
  refine wl_iadd (np := 1160) dL_law_1159 rfl ?_
  refine wl_sloadN (np := 1161) dL_law_1160 rfl hsx hb0 (by first | (simp only [nIm, nIa, ← nI_succ]; exact rfl) | exact nI_z | exact nI_o | exact rfl) (by omega) (by omega) ?_
  refine ldS_a0 (np := 1162) dL_law_1161 rfl ?_
  refine ld_i3 (np := 1163) dL_law_1162 rfl ?_
  refine wl_iconst (np := 1164) (v := nI 5) dL_law_1163 rfl (rfl) ?_
  refine wl_iadd (np := 1165) dL_law_1164 rfl ?_
  refine wl_sloadN (np := 1166) dL_law_1165 rfl hsx hb0 (by first | (simp only [nIm, nIa, ← nI_succ]; exact rfl) | exact nI_z | exact nI_o | exact rfl) (by omega) (by omega) ?_
  refine ciV_5 (np := 1169) dL_law_1166 rfl lk_L_133 (by assumption) (Nat.le_of_ble_eq_true rfl) (by omega) (Nat.le_refl _) (Nat.le_refl _) (c_M_copy _ _ _ _ _ hFM1 hRM1 (by omega)) (fun x_1166 m_1166 h_1166 => ?_)
  obtain ⟨rfl, g2⟩ := h_1166
  have hI2 := inv_next hI g1 g2 (ok_copy hok _ _ _ _ _)
  refine wl_icmp_eq (np := 1172) (tg := 1174) dL_law_1169 rfl rfl (fun c_1169 => ?_) (fun c_1169 => ?_)
  · exact kc _ _ hI2
  · exact absurd rfl c_1169
end LAW
