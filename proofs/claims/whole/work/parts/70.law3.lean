section LAW
variable {sh : List Shp} {me : Mem} {S : St} {nm : String} {sx : Scr} {Lx k : Nat}
set_option maxHeartbeats 4000000 in
set_option maxRecDepth 100000 in
theorem law_14 (hI : InvL sh me S k) (hsx : sx.1 = Lx + 1) (hL : Lx ≤ 384) (h6 : 6 * k + 6 ≤ Lx) (kc : ∀ m S', InvL sh m S' (k + 1) → Wa (mL nm) sx 20 600000 7302249 0 QL 1174 [.retAddr 0, .ref 0, .ref 136, .int (nI (6 * k))] [] sh m 600000 7302249) : Wa (mL nm) sx 20 600000 7302249 0 QL 692 [.retAddr 0, .ref 0, .ref 136, .int (nI (6 * k))] [] sh me 600000 7302249 := by
  obtain ⟨hFC, hFM, hRC, hRM, hok, hb0⟩ := id hI
  have z0 := hFC.1
  have z1 := hFM.1
  refine ld_a1 (np := 693) dL_law_692 rfl ?_
  refine ldS_a0 (np := 694) dL_law_693 rfl ?_
  refine ld_i3 (np := 695) dL_law_694 rfl ?_
  refine wl_iconst (np := 696) (v := 1) dL_law_695 rfl (rfl) ?_
  refine wl_iadd (np := 697) dL_law_696 rfl ?_
  refine wl_sloadN (np := 698) dL_law_697 rfl hsx hb0 (by first | (simp only [nIm, nIa, ← nI_succ]; exact rfl) | exact nI_z | exact nI_o | exact rfl) (by omega) (by omega) ?_
  refine ciV_1 (np := 701) dL_law_698 rfl lk_L_76 (by assumption) (Nat.le_of_ble_eq_true rfl) (by omega) (Nat.le_refl _) (Nat.le_refl _) (c_dc_rings _ hFC hRC hok.len (by omega)) (fun x_698 m_698 h_698 => ?_)
  obtain ⟨rfl, g1⟩ := h_698
  obtain ⟨hFM1, hRM1⟩ := g1.toM hFM hRM
  refine ld_a2 (np := 702) dL_law_701 rfl ?_
  refine ldS_a0 (np := 703) dL_law_702 rfl ?_
  refine ld_i3 (np := 704) dL_law_703 rfl ?_
  refine wl_iconst (np := 705) (v := 1) dL_law_704 rfl (rfl) ?_
  refine wl_iadd (np := 706) dL_law_705 rfl ?_
  refine wl_sloadN (np := 707) dL_law_706 rfl hsx hb0 (by first | (simp only [nIm, nIa, ← nI_succ]; exact rfl) | exact nI_z | exact nI_o | exact rfl) (by omega) (by omega) ?_
  refine ciV_1 (np := 710) dL_law_707 rfl lk_L_79 (by assumption) (Nat.le_of_ble_eq_true rfl) (by omega) (Nat.le_refl _) (Nat.le_refl _) (c_M_rings _ hFM1 hRM1 hok.len (by omega)) (fun x_707 m_707 h_707 => ?_)
  obtain ⟨rfl, g2⟩ := h_707
  have hI2 := inv_next hI g1 g2 (ok_rings hok _)
  refine wl_icmp_eq (np := 713) (tg := 1174) dL_law_710 rfl rfl (fun c_710 => ?_) (fun c_710 => ?_)
  · exact kc _ _ hI2
  · exact absurd rfl c_710
set_option maxHeartbeats 4000000 in
set_option maxRecDepth 100000 in
theorem law_15 (hI : InvL sh me S k) (hsx : sx.1 = Lx + 1) (hL : Lx ≤ 384) (h6 : 6 * k + 6 ≤ Lx) (kc : ∀ m S', InvL sh m S' (k + 1) → Wa (mL nm) sx 20 600000 7302249 0 QL 1174 [.retAddr 0, .ref 0, .ref 136, .int (nI (6 * k))] [] sh m 600000 7302249) : Wa (mL nm) sx 20 600000 7302249 0 QL 715 [.retAddr 0, .ref 0, .ref 136, .int (nI (6 * k))] [] sh me 600000 7302249 := by
  obtain ⟨hFC, hFM, hRC, hRM, hok, hb0⟩ := id hI
  have z0 := hFC.1
  have z1 := hFM.1
  refine ld_a1 (np := 716) dL_law_715 rfl ?_
  refine ldS_a0 (np := 717) dL_law_716 rfl ?_
  refine ld_i3 (np := 718) dL_law_717 rfl ?_
  refine wl_iconst (np := 719) (v := 1) dL_law_718 rfl (rfl) ?_
  refine wl_iadd (np := 720) dL_law_719 rfl ?_
  refine wl_sloadN (np := 721) dL_law_720 rfl hsx hb0 (by first | (simp only [nIm, nIa, ← nI_succ]; exact rfl) | exact nI_z | exact nI_o | exact rfl) (by omega) (by omega) ?_
  refine ciV_1 (np := 724) dL_law_721 rfl lk_L_80 (by assumption) (Nat.le_of_ble_eq_true rfl) (by omega) (Nat.le_refl _) (Nat.le_refl _) (c_dc_owed _ hFC hRC (by omega)) (fun x_721 m_721 h_721 => ?_)
  obtain ⟨rfl, g1⟩ := h_721
  obtain ⟨hFM1, hRM1⟩ := g1.toM hFM hRM
  refine ld_a2 (np := 725) dL_law_724 rfl ?_
  refine ldS_a0 (np := 726) dL_law_725 rfl ?_
  refine ld_i3 (np := 727) dL_law_726 rfl ?_
  refine wl_iconst (np := 728) (v := 1) dL_law_727 rfl (rfl) ?_
  refine wl_iadd (np := 729) dL_law_728 rfl ?_
  refine wl_sloadN (np := 730) dL_law_729 rfl hsx hb0 (by first | (simp only [nIm, nIa, ← nI_succ]; exact rfl) | exact nI_z | exact nI_o | exact rfl) (by omega) (by omega) ?_
  refine ciV_1 (np := 733) dL_law_730 rfl lk_L_83 (by assumption) (Nat.le_of_ble_eq_true rfl) (by omega) (Nat.le_refl _) (Nat.le_refl _) (c_M_owed _ hFM1 hRM1 (by omega)) (fun x_730 m_730 h_730 => ?_)
  obtain ⟨rfl, g2⟩ := h_730
  have hI2 := inv_next hI g1 g2 (ok_owed hok _)
  refine wl_icmp_eq (np := 736) (tg := 1174) dL_law_733 rfl rfl (fun c_733 => ?_) (fun c_733 => ?_)
  · exact kc _ _ hI2
  · exact absurd rfl c_733
set_option maxHeartbeats 4000000 in
set_option maxRecDepth 100000 in
theorem law_16 (hI : InvL sh me S k) (hsx : sx.1 = Lx + 1) (hL : Lx ≤ 384) (h6 : 6 * k + 6 ≤ Lx) (kc : ∀ m S', InvL sh m S' (k + 1) → Wa (mL nm) sx 20 600000 7302249 0 QL 1174 [.retAddr 0, .ref 0, .ref 136, .int (nI (6 * k))] [] sh m 600000 7302249) : Wa (mL nm) sx 20 600000 7302249 0 QL 738 [.retAddr 0, .ref 0, .ref 136, .int (nI (6 * k))] [] sh me 600000 7302249 := by
  obtain ⟨hFC, hFM, hRC, hRM, hok, hb0⟩ := id hI
  have z0 := hFC.1
  have z1 := hFM.1
  refine ld_a1 (np := 739) dL_law_738 rfl ?_
  refine ldS_a0 (np := 740) dL_law_739 rfl ?_
  refine ld_i3 (np := 741) dL_law_740 rfl ?_
  refine wl_iconst (np := 742) (v := 1) dL_law_741 rfl (rfl) ?_
  refine wl_iadd (np := 743) dL_law_742 rfl ?_
  refine wl_sloadN (np := 744) dL_law_743 rfl hsx hb0 (by first | (simp only [nIm, nIa, ← nI_succ]; exact rfl) | exact nI_z | exact nI_o | exact rfl) (by omega) (by omega) ?_
  refine ldS_a0 (np := 745) dL_law_744 rfl ?_
  refine ld_i3 (np := 746) dL_law_745 rfl ?_
  refine wl_iconst (np := 747) (v := nI 2) dL_law_746 rfl (rfl) ?_
  refine wl_iadd (np := 748) dL_law_747 rfl ?_
  refine wl_sloadN (np := 749) dL_law_748 rfl hsx hb0 (by first | (simp only [nIm, nIa, ← nI_succ]; exact rfl) | exact nI_z | exact nI_o | exact rfl) (by omega) (by omega) ?_
  refine ciV_2 (np := 752) dL_law_749 rfl lk_L_84 (by assumption) (Nat.le_of_ble_eq_true rfl) (by omega) (Nat.le_refl _) (Nat.le_refl _) (c_dc_free _ _ hFC hRC hok.1.1 (by omega) (by omega)) (fun x_749 m_749 h_749 => ?_)
  obtain ⟨rfl, g1⟩ := h_749
  obtain ⟨hFM1, hRM1⟩ := g1.toM hFM hRM
  refine ld_a2 (np := 753) dL_law_752 rfl ?_
  refine ldS_a0 (np := 754) dL_law_753 rfl ?_
  refine ld_i3 (np := 755) dL_law_754 rfl ?_
  refine wl_iconst (np := 756) (v := 1) dL_law_755 rfl (rfl) ?_
  refine wl_iadd (np := 757) dL_law_756 rfl ?_
  refine wl_sloadN (np := 758) dL_law_757 rfl hsx hb0 (by first | (simp only [nIm, nIa, ← nI_succ]; exact rfl) | exact nI_z | exact nI_o | exact rfl) (by omega) (by omega) ?_
  refine ldS_a0 (np := 759) dL_law_758 rfl ?_
  refine ld_i3 (np := 760) dL_law_759 rfl ?_
  refine wl_iconst (np := 761) (v := nI 2) dL_law_760 rfl (rfl) ?_
  refine wl_iadd (np := 762) dL_law_761 rfl ?_
  refine wl_sloadN (np := 763) dL_law_762 rfl hsx hb0 (by first | (simp only [nIm, nIa, ← nI_succ]; exact rfl) | exact nI_z | exact nI_o | exact rfl) (by omega) (by omega) ?_
  refine ciV_2 (np := 766) dL_law_763 rfl lk_L_87 (by assumption) (Nat.le_of_ble_eq_true rfl) (by omega) (Nat.le_refl _) (Nat.le_refl _) (c_M_free _ _ hFM1 hRM1 hok.1.1 (by omega) (by omega)) (fun x_763 m_763 h_763 => ?_)
  obtain ⟨rfl, g2⟩ := h_763
  have hI2 := inv_next hI g1 g2 (ok_free hok _ _)
  refine wl_icmp_eq (np := 769) (tg := 1174) dL_law_766 rfl rfl (fun c_766 => ?_) (fun c_766 => ?_)
  · exact kc _ _ hI2
  · exact absurd rfl c_766
set_option maxHeartbeats 4000000 in
set_option maxRecDepth 100000 in
theorem law_17 (hI : InvL sh me S k) (hsx : sx.1 = Lx + 1) (hL : Lx ≤ 384) (h6 : 6 * k + 6 ≤ Lx) (kc : ∀ m S', InvL sh m S' (k + 1) → Wa (mL nm) sx 20 600000 7302249 0 QL 1174 [.retAddr 0, .ref 0, .ref 136, .int (nI (6 * k))] [] sh m 600000 7302249) : Wa (mL nm) sx 20 600000 7302249 0 QL 771 [.retAddr 0, .ref 0, .ref 136, .int (nI (6 * k))] [] sh me 600000 7302249 := by
  obtain ⟨hFC, hFM, hRC, hRM, hok, hb0⟩ := id hI
  have z0 := hFC.1
  have z1 := hFM.1
  refine ld_a1 (np := 772) dL_law_771 rfl ?_
  refine ldS_a0 (np := 773) dL_law_772 rfl ?_
  refine ld_i3 (np := 774) dL_law_773 rfl ?_
  refine wl_iconst (np := 775) (v := 1) dL_law_774 rfl (rfl) ?_
  refine wl_iadd (np := 776) dL_law_775 rfl ?_
  refine wl_sloadN (np := 777) dL_law_776 rfl hsx hb0 (by first | (simp only [nIm, nIa, ← nI_succ]; exact rfl) | exact nI_z | exact nI_o | exact rfl) (by omega) (by omega) ?_
  refine ldS_a0 (np := 778) dL_law_777 rfl ?_
  refine ld_i3 (np := 779) dL_law_778 rfl ?_
  refine wl_iconst (np := 780) (v := nI 2) dL_law_779 rfl (rfl) ?_
  refine wl_iadd (np := 781) dL_law_780 rfl ?_
  refine wl_sloadN (np := 782) dL_law_781 rfl hsx hb0 (by first | (simp only [nIm, nIa, ← nI_succ]; exact rfl) | exact nI_z | exact nI_o | exact rfl) (by omega) (by omega) ?_
  refine ciV_2 (np := 785) dL_law_782 rfl lk_L_88 (by assumption) (Nat.le_of_ble_eq_true rfl) (by omega) (Nat.le_refl _) (Nat.le_refl _) (c_dc_saves _ _ hFC hRC hok.1.1 (by omega) (by omega)) (fun x_782 m_782 h_782 => ?_)
  obtain ⟨rfl, g1⟩ := h_782
  obtain ⟨hFM1, hRM1⟩ := g1.toM hFM hRM
  refine ld_a2 (np := 786) dL_law_785 rfl ?_
  refine ldS_a0 (np := 787) dL_law_786 rfl ?_
  refine ld_i3 (np := 788) dL_law_787 rfl ?_
  refine wl_iconst (np := 789) (v := 1) dL_law_788 rfl (rfl) ?_
  refine wl_iadd (np := 790) dL_law_789 rfl ?_
  refine wl_sloadN (np := 791) dL_law_790 rfl hsx hb0 (by first | (simp only [nIm, nIa, ← nI_succ]; exact rfl) | exact nI_z | exact nI_o | exact rfl) (by omega) (by omega) ?_
  refine ldS_a0 (np := 792) dL_law_791 rfl ?_
  refine ld_i3 (np := 793) dL_law_792 rfl ?_
  refine wl_iconst (np := 794) (v := nI 2) dL_law_793 rfl (rfl) ?_
  refine wl_iadd (np := 795) dL_law_794 rfl ?_
  refine wl_sloadN (np := 796) dL_law_795 rfl hsx hb0 (by first | (simp only [nIm, nIa, ← nI_succ]; exact rfl) | exact nI_z | exact nI_o | exact rfl) (by omega) (by omega) ?_
  refine ciV_2 (np := 799) dL_law_796 rfl lk_L_91 (by assumption) (Nat.le_of_ble_eq_true rfl) (by omega) (Nat.le_refl _) (Nat.le_refl _) (c_M_saves _ _ hFM1 hRM1 hok.1.1 (by omega) (by omega)) (fun x_796 m_796 h_796 => ?_)
  obtain ⟨rfl, g2⟩ := h_796
  have hI2 := inv_next hI g1 g2 (ok_saves hok _ _)
  refine wl_icmp_eq (np := 802) (tg := 1174) dL_law_799 rfl rfl (fun c_799 => ?_) (fun c_799 => ?_)
  · exact kc _ _ hI2
  · exact absurd rfl c_799
set_option maxHeartbeats 4000000 in
set_option maxRecDepth 100000 in
theorem law_18 (hI : InvL sh me S k) (hsx : sx.1 = Lx + 1) (hL : Lx ≤ 384) (h6 : 6 * k + 6 ≤ Lx) (kc : ∀ m S', InvL sh m S' (k + 1) → Wa (mL nm) sx 20 600000 7302249 0 QL 1174 [.retAddr 0, .ref 0, .ref 136, .int (nI (6 * k))] [] sh m 600000 7302249) : Wa (mL nm) sx 20 600000 7302249 0 QL 804 [.retAddr 0, .ref 0, .ref 136, .int (nI (6 * k))] [] sh me 600000 7302249 := by
  obtain ⟨hFC, hFM, hRC, hRM, hok, hb0⟩ := id hI
  have z0 := hFC.1
  have z1 := hFM.1
  refine ld_a1 (np := 805) dL_law_804 rfl ?_
  refine ldS_a0 (np := 806) dL_law_805 rfl ?_
  refine ld_i3 (np := 807) dL_law_806 rfl ?_
  refine wl_iconst (np := 808) (v := 1) dL_law_807 rfl (rfl) ?_
  refine wl_iadd (np := 809) dL_law_808 rfl ?_
  refine wl_sloadN (np := 810) dL_law_809 rfl hsx hb0 (by first | (simp only [nIm, nIa, ← nI_succ]; exact rfl) | exact nI_z | exact nI_o | exact rfl) (by omega) (by omega) ?_
  refine ciV_1 (np := 813) dL_law_810 rfl lk_L_92 (by assumption) (Nat.le_of_ble_eq_true rfl) (by omega) (Nat.le_refl _) (Nat.le_refl _) (c_dc_bears _ hFC hRC (by omega)) (fun x_810 m_810 h_810 => ?_)
  obtain ⟨rfl, g1⟩ := h_810
  obtain ⟨hFM1, hRM1⟩ := g1.toM hFM hRM
  refine ld_a2 (np := 814) dL_law_813 rfl ?_
  refine ldS_a0 (np := 815) dL_law_814 rfl ?_
  refine ld_i3 (np := 816) dL_law_815 rfl ?_
  refine wl_iconst (np := 817) (v := 1) dL_law_816 rfl (rfl) ?_
  refine wl_iadd (np := 818) dL_law_817 rfl ?_
  refine wl_sloadN (np := 819) dL_law_818 rfl hsx hb0 (by first | (simp only [nIm, nIa, ← nI_succ]; exact rfl) | exact nI_z | exact nI_o | exact rfl) (by omega) (by omega) ?_
  refine ciV_1 (np := 822) dL_law_819 rfl lk_L_95 (by assumption) (Nat.le_of_ble_eq_true rfl) (by omega) (Nat.le_refl _) (Nat.le_refl _) (c_M_bears _ hFM1 hRM1 (by omega)) (fun x_819 m_819 h_819 => ?_)
  obtain ⟨rfl, g2⟩ := h_819
  have hI2 := inv_next hI g1 g2 (ok_bears hok _)
  refine wl_icmp_eq (np := 825) (tg := 1174) dL_law_822 rfl rfl (fun c_822 => ?_) (fun c_822 => ?_)
  · exact kc _ _ hI2
  · exact absurd rfl c_822
set_option maxHeartbeats 4000000 in
set_option maxRecDepth 100000 in
theorem law_19 (hI : InvL sh me S k) (hsx : sx.1 = Lx + 1) (hL : Lx ≤ 384) (h6 : 6 * k + 6 ≤ Lx) (kc : ∀ m S', InvL sh m S' (k + 1) → Wa (mL nm) sx 20 600000 7302249 0 QL 1174 [.retAddr 0, .ref 0, .ref 136, .int (nI (6 * k))] [] sh m 600000 7302249) : Wa (mL nm) sx 20 600000 7302249 0 QL 827 [.retAddr 0, .ref 0, .ref 136, .int (nI (6 * k))] [] sh me 600000 7302249 := by
  obtain ⟨hFC, hFM, hRC, hRM, hok, hb0⟩ := id hI
  have z0 := hFC.1
  have z1 := hFM.1
  refine ld_a1 (np := 828) dL_law_827 rfl ?_
  refine ldS_a0 (np := 829) dL_law_828 rfl ?_
  refine ld_i3 (np := 830) dL_law_829 rfl ?_
  refine wl_iconst (np := 831) (v := 1) dL_law_830 rfl (rfl) ?_
  refine wl_iadd (np := 832) dL_law_831 rfl ?_
  refine wl_sloadN (np := 833) dL_law_832 rfl hsx hb0 (by first | (simp only [nIm, nIa, ← nI_succ]; exact rfl) | exact nI_z | exact nI_o | exact rfl) (by omega) (by omega) ?_
  refine ldS_a0 (np := 834) dL_law_833 rfl ?_
  refine ld_i3 (np := 835) dL_law_834 rfl ?_
  refine wl_iconst (np := 836) (v := nI 2) dL_law_835 rfl (rfl) ?_
  refine wl_iadd (np := 837) dL_law_836 rfl ?_
  refine wl_sloadN (np := 838) dL_law_837 rfl hsx hb0 (by first | (simp only [nIm, nIa, ← nI_succ]; exact rfl) | exact nI_z | exact nI_o | exact rfl) (by omega) (by omega) ?_
  refine ciV_2 (np := 841) dL_law_838 rfl lk_L_96 (by assumption) (Nat.le_of_ble_eq_true rfl) (by omega) (Nat.le_refl _) (Nat.le_refl _) (c_dc_ware _ _ hFC hRC (by omega)) (fun x_838 m_838 h_838 => ?_)
  obtain ⟨rfl, g1⟩ := h_838
  obtain ⟨hFM1, hRM1⟩ := g1.toM hFM hRM
  refine ld_a2 (np := 842) dL_law_841 rfl ?_
  refine ldS_a0 (np := 843) dL_law_842 rfl ?_
  refine ld_i3 (np := 844) dL_law_843 rfl ?_
  refine wl_iconst (np := 845) (v := 1) dL_law_844 rfl (rfl) ?_
  refine wl_iadd (np := 846) dL_law_845 rfl ?_
  refine wl_sloadN (np := 847) dL_law_846 rfl hsx hb0 (by first | (simp only [nIm, nIa, ← nI_succ]; exact rfl) | exact nI_z | exact nI_o | exact rfl) (by omega) (by omega) ?_
  refine ldS_a0 (np := 848) dL_law_847 rfl ?_
  refine ld_i3 (np := 849) dL_law_848 rfl ?_
  refine wl_iconst (np := 850) (v := nI 2) dL_law_849 rfl (rfl) ?_
  refine wl_iadd (np := 851) dL_law_850 rfl ?_
  refine wl_sloadN (np := 852) dL_law_851 rfl hsx hb0 (by first | (simp only [nIm, nIa, ← nI_succ]; exact rfl) | exact nI_z | exact nI_o | exact rfl) (by omega) (by omega) ?_
  refine ciV_2 (np := 855) dL_law_852 rfl lk_L_99 (by assumption) (Nat.le_of_ble_eq_true rfl) (by omega) (Nat.le_refl _) (Nat.le_refl _) (c_M_ware _ _ hFM1 hRM1 (by omega)) (fun x_852 m_852 h_852 => ?_)
  obtain ⟨rfl, g2⟩ := h_852
  have hI2 := inv_next hI g1 g2 (ok_ware hok _ _)
  refine wl_icmp_eq (np := 858) (tg := 1174) dL_law_855 rfl rfl (fun c_855 => ?_) (fun c_855 => ?_)
  · exact kc _ _ hI2
  · exact absurd rfl c_855
set_option maxHeartbeats 4000000 in
set_option maxRecDepth 100000 in
theorem law_20 (hI : InvL sh me S k) (hsx : sx.1 = Lx + 1) (hL : Lx ≤ 384) (h6 : 6 * k + 6 ≤ Lx) (kc : ∀ m S', InvL sh m S' (k + 1) → Wa (mL nm) sx 20 600000 7302249 0 QL 1174 [.retAddr 0, .ref 0, .ref 136, .int (nI (6 * k))] [] sh m 600000 7302249) : Wa (mL nm) sx 20 600000 7302249 0 QL 860 [.retAddr 0, .ref 0, .ref 136, .int (nI (6 * k))] [] sh me 600000 7302249 := by
  obtain ⟨hFC, hFM, hRC, hRM, hok, hb0⟩ := id hI
  have z0 := hFC.1
  have z1 := hFM.1
  refine ld_a1 (np := 861) dL_law_860 rfl ?_
  refine ldS_a0 (np := 862) dL_law_861 rfl ?_
  refine ld_i3 (np := 863) dL_law_862 rfl ?_
  refine wl_iconst (np := 864) (v := 1) dL_law_863 rfl (rfl) ?_
  refine wl_iadd (np := 865) dL_law_864 rfl ?_
  refine wl_sloadN (np := 866) dL_law_865 rfl hsx hb0 (by first | (simp only [nIm, nIa, ← nI_succ]; exact rfl) | exact nI_z | exact nI_o | exact rfl) (by omega) (by omega) ?_
  refine ldS_a0 (np := 867) dL_law_866 rfl ?_
  refine ld_i3 (np := 868) dL_law_867 rfl ?_
  refine wl_iconst (np := 869) (v := nI 2) dL_law_868 rfl (rfl) ?_
  refine wl_iadd (np := 870) dL_law_869 rfl ?_
  refine wl_sloadN (np := 871) dL_law_870 rfl hsx hb0 (by first | (simp only [nIm, nIa, ← nI_succ]; exact rfl) | exact nI_z | exact nI_o | exact rfl) (by omega) (by omega) ?_
  refine ldS_a0 (np := 872) dL_law_871 rfl ?_
  refine ld_i3 (np := 873) dL_law_872 rfl ?_
  refine wl_iconst (np := 874) (v := nI 3) dL_law_873 rfl (rfl) ?_
  refine wl_iadd (np := 875) dL_law_874 rfl ?_
  refine wl_sloadN (np := 876) dL_law_875 rfl hsx hb0 (by first | (simp only [nIm, nIa, ← nI_succ]; exact rfl) | exact nI_z | exact nI_o | exact rfl) (by omega) (by omega) ?_
  refine ldS_a0 (np := 877) dL_law_876 rfl ?_
  refine ld_i3 (np := 878) dL_law_877 rfl ?_
  refine wl_iconst (np := 879) (v := nI 4) dL_law_878 rfl (rfl) ?_
  refine wl_iadd (np := 880) dL_law_879 rfl ?_
  refine wl_sloadN (np := 881) dL_law_880 rfl hsx hb0 (by first | (simp only [nIm, nIa, ← nI_succ]; exact rfl) | exact nI_z | exact nI_o | exact rfl) (by omega) (by omega) ?_
  refine ciV_4 (np := 884) dL_law_881 rfl lk_L_100 (by assumption) (Nat.le_of_ble_eq_true rfl) (by omega) (Nat.le_refl _) (Nat.le_refl _) (c_dc_under _ _ _ _ hFC hRC (by omega)) (fun x_881 m_881 h_881 => ?_)
  obtain ⟨rfl, g1⟩ := h_881
  obtain ⟨hFM1, hRM1⟩ := g1.toM hFM hRM
  refine ld_a2 (np := 885) dL_law_884 rfl ?_
  refine ldS_a0 (np := 886) dL_law_885 rfl ?_
  refine ld_i3 (np := 887) dL_law_886 rfl ?_
  refine wl_iconst (np := 888) (v := 1) dL_law_887 rfl (rfl) ?_
  refine wl_iadd (np := 889) dL_law_888 rfl ?_
  refine wl_sloadN (np := 890) dL_law_889 rfl hsx hb0 (by first | (simp only [nIm, nIa, ← nI_succ]; exact rfl) | exact nI_z | exact nI_o | exact rfl) (by omega) (by omega) ?_
  refine ldS_a0 (np := 891) dL_law_890 rfl ?_
  refine ld_i3 (np := 892) dL_law_891 rfl ?_
  refine wl_iconst (np := 893) (v := nI 2) dL_law_892 rfl (rfl) ?_
  refine wl_iadd (np := 894) dL_law_893 rfl ?_
  refine wl_sloadN (np := 895) dL_law_894 rfl hsx hb0 (by first | (simp only [nIm, nIa, ← nI_succ]; exact rfl) | exact nI_z | exact nI_o | exact rfl) (by omega) (by omega) ?_
  refine ldS_a0 (np := 896) dL_law_895 rfl ?_
  refine ld_i3 (np := 897) dL_law_896 rfl ?_
  refine wl_iconst (np := 898) (v := nI 3) dL_law_897 rfl (rfl) ?_
  refine wl_iadd (np := 899) dL_law_898 rfl ?_
  refine wl_sloadN (np := 900) dL_law_899 rfl hsx hb0 (by first | (simp only [nIm, nIa, ← nI_succ]; exact rfl) | exact nI_z | exact nI_o | exact rfl) (by omega) (by omega) ?_
  refine ldS_a0 (np := 901) dL_law_900 rfl ?_
  refine ld_i3 (np := 902) dL_law_901 rfl ?_
  refine wl_iconst (np := 903) (v := nI 4) dL_law_902 rfl (rfl) ?_
  refine wl_iadd (np := 904) dL_law_903 rfl ?_
  refine wl_sloadN (np := 905) dL_law_904 rfl hsx hb0 (by first | (simp only [nIm, nIa, ← nI_succ]; exact rfl) | exact nI_z | exact nI_o | exact rfl) (by omega) (by omega) ?_
  refine ciV_4 (np := 908) dL_law_905 rfl lk_L_104 (by assumption) (Nat.le_of_ble_eq_true rfl) (by omega) (Nat.le_refl _) (Nat.le_refl _) (c_M_under _ _ _ _ hFM1 hRM1 (by omega)) (fun x_905 m_905 h_905 => ?_)
  obtain ⟨rfl, g2⟩ := h_905
  have hI2 := inv_next hI g1 g2 (ok_under hok _ _ _ _)
  refine wl_icmp_eq (np := 911) (tg := 1174) dL_law_908 rfl rfl (fun c_908 => ?_) (fun c_908 => ?_)
  · exact kc _ _ hI2
  · exact absurd rfl c_908
end LAW
