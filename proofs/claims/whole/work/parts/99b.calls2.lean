set_option maxHeartbeats 4000000 in
set_option maxRecDepth 100000 in
theorem k_seed (l : Launch) {L : Nat} {xs : Nat → Int32} {rw : List zC} {M : zM} {cells slots i : Nat} {Q : Option Value → List zC → zM → Prop} (hi : i + 7 ≤ L) (hL : L ≤ 3584) (hc : cells + 2 ≤ 600000) (hs : slots + 26 ≤ 7302250) (hw : WI rw M) (K : ∀ (rw' : List zC) (M' : zM) (c' s' : Nat), WI rw' M' → c' ≤ cells + 2 → s' ≤ slots + 26 → LA (scr L xs) l (some 0) room_1 yL_law cL_law 4 ret Q c' s' 1361 (lsI i) [] (zSh ++ rw') M') : LA (scr L xs) l (some 0) room_1 yL_law cL_law 4 ret Q cells slots 648 (lsI i) [] (zSh ++ rw) M := by
  obtain ⟨t, z, hw⟩ := hw
  refine L_aload_n dL_law_648 rfl rfl ?_
  refine L_arg (i := i) (j := 1) dL_law_649 dL_law_650 dL_law_651 rfl dL_law_652 dL_law_653 (by omega) hL ?_
  refine L_cV1 mv_X4_seed ml_L_81 (c4_seed l hw.si hw.nb _) dL_law_654 (Nat.le_of_ble_eq_true rfl) ⟨by decide, by decide⟩ ⟨by show _ ≤ 600000; omega, by show _ ≤ 7302250; omega⟩ sh_0 rfl (fun v S1 M1 hq => ?_)
  obtain ⟨rfl, rfl, hS1, hf1⟩ := hq
  have hR1 := RI_fr hw.ri hf1 (fun i q => by first | omega | (unfold PT at q; omega) | (unfold PT PQ at q; omega))
  refine ⟨?_, fun q9 h9 => by cases h9; exact Nat.zero_le _⟩
  dsimp only [zrst, List.cons_append, List.nil_append]
  refine L_aload_n dL_law_657 rfl rfl ?_
  refine L_arg (i := i) (j := 1) dL_law_658 dL_law_659 dL_law_660 rfl dL_law_661 dL_law_662 (by omega) hL ?_
  refine L_cV1 mv_X5_seed ml_L_84 (c5p_seed l hR1 hw.nb _) dL_law_663 (Nat.le_of_ble_eq_true rfl) ⟨by decide, by decide⟩ ⟨by show _ ≤ 600000; omega, by show _ ≤ 7302250; omega⟩ sh_34 rfl (fun v S2 M2 hq => ?_)
  obtain ⟨rfl, rfl, hR2, hf2⟩ := hq
  refine ⟨?_, fun q9 h9 => by cases h9; exact Nat.zero_le _⟩
  dsimp only [zrst, List.cons_append, List.nil_append]
  refine L_icmp_eq (tgt := 1361) dL_law_666 (by decide) (fun _ => ?_) (fun q => absurd rfl q)
  exact K _ _ _ _ (⟨_, z, WJ_w hw (fun i q => by first | omega | (unfold PT at q; omega) | (unfold PT PQ at q; omega)) hS1 hf1 hR2 hf2 (OK_seed hw.nb hw.ub _)⟩) (Nat.le_add_right _ _) (Nat.le_add_right _ _)
set_option maxHeartbeats 4000000 in
set_option maxRecDepth 100000 in
theorem k_ahead (l : Launch) {L : Nat} {xs : Nat → Int32} {rw : List zC} {M : zM} {cells slots i : Nat} {Q : Option Value → List zC → zM → Prop} (hi : i + 7 ≤ L) (hL : L ≤ 3584) (hc : cells + 2 ≤ 600000) (hs : slots + 26 ≤ 7302250) (hw : WI rw M) (K : ∀ (rw' : List zC) (M' : zM) (c' s' : Nat), WI rw' M' → c' ≤ cells + 2 → s' ≤ slots + 26 → LA (scr L xs) l (some 0) room_1 yL_law cL_law 4 ret Q c' s' 1361 (lsI i) [] (zSh ++ rw') M') : LA (scr L xs) l (some 0) room_1 yL_law cL_law 4 ret Q cells slots 671 (lsI i) [] (zSh ++ rw) M := by
  obtain ⟨t, z, hw⟩ := hw
  refine L_aload_n dL_law_671 rfl rfl ?_
  refine L_arg (i := i) (j := 1) dL_law_672 dL_law_673 dL_law_674 rfl dL_law_675 dL_law_676 (by omega) hL ?_
  refine L_arg (i := i) (j := 2) dL_law_677 dL_law_678 dL_law_679 rfl dL_law_680 dL_law_681 (by omega) hL ?_
  refine L_arg (i := i) (j := 3) dL_law_682 dL_law_683 dL_law_684 rfl dL_law_685 dL_law_686 (by omega) hL ?_
  refine L_cV3 mv_X4_ahead ml_L_85 (c4_ahead l hw.si hw.nb _ _ _) dL_law_687 (Nat.le_of_ble_eq_true rfl) ⟨by decide, by decide⟩ ⟨by show _ ≤ 600000; omega, by show _ ≤ 7302250; omega⟩ sh_0 rfl (fun v S1 M1 hq => ?_)
  obtain ⟨rfl, rfl, rfl⟩ := hq
  refine ⟨?_, fun q9 h9 => by cases h9; exact Nat.zero_le _⟩
  dsimp only [zrst, List.cons_append, List.nil_append]
  refine L_aload_n dL_law_690 rfl rfl ?_
  refine L_arg (i := i) (j := 1) dL_law_691 dL_law_692 dL_law_693 rfl dL_law_694 dL_law_695 (by omega) hL ?_
  refine L_arg (i := i) (j := 2) dL_law_696 dL_law_697 dL_law_698 rfl dL_law_699 dL_law_700 (by omega) hL ?_
  refine L_arg (i := i) (j := 3) dL_law_701 dL_law_702 dL_law_703 rfl dL_law_704 dL_law_705 (by omega) hL ?_
  refine L_cV3 mv_X5_ahead ml_L_88 (c5p_ahead l hw.ri hw.nb _ _ _) dL_law_706 (Nat.le_of_ble_eq_true rfl) ⟨by decide, by decide⟩ ⟨by show _ ≤ 600000; omega, by show _ ≤ 7302250; omega⟩ sh_34 rfl (fun v S2 M2 hq => ?_)
  obtain ⟨rfl, rfl, rfl⟩ := hq
  refine ⟨?_, fun q9 h9 => by cases h9; exact Nat.zero_le _⟩
  dsimp only [zrst, List.cons_append, List.nil_append]
  refine L_icmp_eq (tgt := 1361) dL_law_709 (by decide) (fun _ => ?_) (fun q => absurd rfl q)
  exact K _ _ _ _ (⟨t, z, hw⟩) (Nat.le_add_right _ _) (Nat.le_add_right _ _)
set_option maxHeartbeats 4000000 in
set_option maxRecDepth 100000 in
theorem k_showsAhead (l : Launch) {L : Nat} {xs : Nat → Int32} {rw : List zC} {M : zM} {cells slots i : Nat} {Q : Option Value → List zC → zM → Prop} (hi : i + 7 ≤ L) (hL : L ≤ 3584) (hc : cells + 2 ≤ 600000) (hs : slots + 26 ≤ 7302250) (hw : WI rw M) (K : ∀ (rw' : List zC) (M' : zM) (c' s' : Nat), WI rw' M' → c' ≤ cells + 2 → s' ≤ slots + 26 → LA (scr L xs) l (some 0) room_1 yL_law cL_law 4 ret Q c' s' 1361 (lsI i) [] (zSh ++ rw') M') : LA (scr L xs) l (some 0) room_1 yL_law cL_law 4 ret Q cells slots 714 (lsI i) [] (zSh ++ rw) M := by
  obtain ⟨t, z, hw⟩ := hw
  refine L_aload_n dL_law_714 rfl rfl ?_
  refine L_arg (i := i) (j := 1) dL_law_715 dL_law_716 dL_law_717 rfl dL_law_718 dL_law_719 (by omega) hL ?_
  refine L_arg (i := i) (j := 2) dL_law_720 dL_law_721 dL_law_722 rfl dL_law_723 dL_law_724 (by omega) hL ?_
  refine L_arg (i := i) (j := 3) dL_law_725 dL_law_726 dL_law_727 rfl dL_law_728 dL_law_729 (by omega) hL ?_
  refine L_cV3 mv_X4_showsAhead ml_L_89 (c4_showsAhead l hw.si hw.nb _ _ _) dL_law_730 (Nat.le_of_ble_eq_true rfl) ⟨by decide, by decide⟩ ⟨by show _ ≤ 600000; omega, by show _ ≤ 7302250; omega⟩ sh_0 rfl (fun v S1 M1 hq => ?_)
  obtain ⟨rfl, rfl, rfl⟩ := hq
  refine ⟨?_, fun q9 h9 => by cases h9; exact Nat.zero_le _⟩
  dsimp only [zrst, List.cons_append, List.nil_append]
  refine L_aload_n dL_law_733 rfl rfl ?_
  refine L_arg (i := i) (j := 1) dL_law_734 dL_law_735 dL_law_736 rfl dL_law_737 dL_law_738 (by omega) hL ?_
  refine L_arg (i := i) (j := 2) dL_law_739 dL_law_740 dL_law_741 rfl dL_law_742 dL_law_743 (by omega) hL ?_
  refine L_arg (i := i) (j := 3) dL_law_744 dL_law_745 dL_law_746 rfl dL_law_747 dL_law_748 (by omega) hL ?_
  refine L_cV3 mv_X5_showsAhead ml_L_92 (c5p_showsAhead l hw.ri hw.nb _ _ _) dL_law_749 (Nat.le_of_ble_eq_true rfl) ⟨by decide, by decide⟩ ⟨by show _ ≤ 600000; omega, by show _ ≤ 7302250; omega⟩ sh_34 rfl (fun v S2 M2 hq => ?_)
  obtain ⟨rfl, rfl, rfl⟩ := hq
  refine ⟨?_, fun q9 h9 => by cases h9; exact Nat.zero_le _⟩
  dsimp only [zrst, List.cons_append, List.nil_append]
  refine L_icmp_eq (tgt := 1361) dL_law_752 (by decide) (fun _ => ?_) (fun q => absurd rfl q)
  exact K _ _ _ _ (⟨t, z, hw⟩) (Nat.le_add_right _ _) (Nat.le_add_right _ _)
set_option maxHeartbeats 4000000 in
set_option maxRecDepth 100000 in
theorem k_again (l : Launch) {L : Nat} {xs : Nat → Int32} {rw : List zC} {M : zM} {cells slots i : Nat} {Q : Option Value → List zC → zM → Prop} (hi : i + 7 ≤ L) (hL : L ≤ 3584) (hc : cells + 2 ≤ 600000) (hs : slots + 26 ≤ 7302250) (hw : WI rw M) (K : ∀ (rw' : List zC) (M' : zM) (c' s' : Nat), WI rw' M' → c' ≤ cells + 2 → s' ≤ slots + 26 → LA (scr L xs) l (some 0) room_1 yL_law cL_law 4 ret Q c' s' 1361 (lsI i) [] (zSh ++ rw') M') : LA (scr L xs) l (some 0) room_1 yL_law cL_law 4 ret Q cells slots 757 (lsI i) [] (zSh ++ rw) M := by
  obtain ⟨t, z, hw⟩ := hw
  refine L_aload_n dL_law_757 rfl rfl ?_
  refine L_arg (i := i) (j := 1) dL_law_758 dL_law_759 dL_law_760 rfl dL_law_761 dL_law_762 (by omega) hL ?_
  refine L_arg (i := i) (j := 2) dL_law_763 dL_law_764 dL_law_765 rfl dL_law_766 dL_law_767 (by omega) hL ?_
  refine L_cV2 mv_X4_again ml_L_93 (c4_again l hw.si hw.nb _ _) dL_law_768 (Nat.le_of_ble_eq_true rfl) ⟨by decide, by decide⟩ ⟨by show _ ≤ 600000; omega, by show _ ≤ 7302250; omega⟩ sh_0 rfl (fun v S1 M1 hq => ?_)
  obtain ⟨rfl, rfl, rfl⟩ := hq
  refine ⟨?_, fun q9 h9 => by cases h9; exact Nat.zero_le _⟩
  dsimp only [zrst, List.cons_append, List.nil_append]
  refine L_aload_n dL_law_771 rfl rfl ?_
  refine L_arg (i := i) (j := 1) dL_law_772 dL_law_773 dL_law_774 rfl dL_law_775 dL_law_776 (by omega) hL ?_
  refine L_arg (i := i) (j := 2) dL_law_777 dL_law_778 dL_law_779 rfl dL_law_780 dL_law_781 (by omega) hL ?_
  refine L_cV2 mv_X5_again ml_L_96 (c5p_again l hw.ri hw.nb _ _) dL_law_782 (Nat.le_of_ble_eq_true rfl) ⟨by decide, by decide⟩ ⟨by show _ ≤ 600000; omega, by show _ ≤ 7302250; omega⟩ sh_34 rfl (fun v S2 M2 hq => ?_)
  obtain ⟨rfl, rfl, rfl⟩ := hq
  refine ⟨?_, fun q9 h9 => by cases h9; exact Nat.zero_le _⟩
  dsimp only [zrst, List.cons_append, List.nil_append]
  refine L_icmp_eq (tgt := 1361) dL_law_785 (by decide) (fun _ => ?_) (fun q => absurd rfl q)
  exact K _ _ _ _ (⟨t, z, hw⟩) (Nat.le_add_right _ _) (Nat.le_add_right _ _)
set_option maxHeartbeats 4000000 in
set_option maxRecDepth 100000 in
theorem k_wedding (l : Launch) {L : Nat} {xs : Nat → Int32} {rw : List zC} {M : zM} {cells slots i : Nat} {Q : Option Value → List zC → zM → Prop} (hi : i + 7 ≤ L) (hL : L ≤ 3584) (hc : cells + 2 ≤ 600000) (hs : slots + 26 ≤ 7302250) (hw : WI rw M) (K : ∀ (rw' : List zC) (M' : zM) (c' s' : Nat), WI rw' M' → c' ≤ cells + 2 → s' ≤ slots + 26 → LA (scr L xs) l (some 0) room_1 yL_law cL_law 4 ret Q c' s' 1361 (lsI i) [] (zSh ++ rw') M') : LA (scr L xs) l (some 0) room_1 yL_law cL_law 4 ret Q cells slots 790 (lsI i) [] (zSh ++ rw) M := by
  obtain ⟨t, z, hw⟩ := hw
  refine L_aload_n dL_law_790 rfl rfl ?_
  refine L_arg (i := i) (j := 1) dL_law_791 dL_law_792 dL_law_793 rfl dL_law_794 dL_law_795 (by omega) hL ?_
  refine L_arg (i := i) (j := 2) dL_law_796 dL_law_797 dL_law_798 rfl dL_law_799 dL_law_800 (by omega) hL ?_
  refine L_arg (i := i) (j := 3) dL_law_801 dL_law_802 dL_law_803 rfl dL_law_804 dL_law_805 (by omega) hL ?_
  refine L_arg (i := i) (j := 4) dL_law_806 dL_law_807 dL_law_808 rfl dL_law_809 dL_law_810 (by omega) hL ?_
  refine L_cV4 mv_X4_wedding ml_L_97 (c4_wedding l hw.si hw.nb _ _ _ _) dL_law_811 (Nat.le_of_ble_eq_true rfl) ⟨by decide, by decide⟩ ⟨by show _ ≤ 600000; omega, by show _ ≤ 7302250; omega⟩ sh_0 rfl (fun v S1 M1 hq => ?_)
  obtain ⟨rfl, rfl, hf1⟩ := hq
  have hw := WJ_f hw (fun i q => by omega) hf1 (fun m hm => by rw [(hf1 31 (by decide)).1]; exact hw.z31 m hm)
  refine ⟨?_, fun q9 h9 => by cases h9; exact Nat.zero_le _⟩
  dsimp only [zrst, List.cons_append, List.nil_append]
  refine L_aload_n dL_law_814 rfl rfl ?_
  refine L_arg (i := i) (j := 1) dL_law_815 dL_law_816 dL_law_817 rfl dL_law_818 dL_law_819 (by omega) hL ?_
  refine L_arg (i := i) (j := 2) dL_law_820 dL_law_821 dL_law_822 rfl dL_law_823 dL_law_824 (by omega) hL ?_
  refine L_arg (i := i) (j := 3) dL_law_825 dL_law_826 dL_law_827 rfl dL_law_828 dL_law_829 (by omega) hL ?_
  refine L_arg (i := i) (j := 4) dL_law_830 dL_law_831 dL_law_832 rfl dL_law_833 dL_law_834 (by omega) hL ?_
  refine L_cV4 mv_X5_wedding ml_L_101 (c5p_wedding l hw.ri hw.nb _ _ _ _) dL_law_835 (Nat.le_of_ble_eq_true rfl) ⟨by decide, by decide⟩ ⟨by show _ ≤ 600000; omega, by show _ ≤ 7302250; omega⟩ sh_34 rfl (fun v S2 M2 hq => ?_)
  obtain ⟨rfl, rfl, rfl⟩ := hq
  refine ⟨?_, fun q9 h9 => by cases h9; exact Nat.zero_le _⟩
  dsimp only [zrst, List.cons_append, List.nil_append]
  refine L_icmp_eq (tgt := 1361) dL_law_838 (by decide) (fun _ => ?_) (fun q => absurd rfl q)
  exact K _ _ _ _ (⟨t, z, hw⟩) (Nat.le_add_right _ _) (Nat.le_add_right _ _)
set_option maxHeartbeats 4000000 in
set_option maxRecDepth 100000 in
theorem k_bestCut (l : Launch) {L : Nat} {xs : Nat → Int32} {rw : List zC} {M : zM} {cells slots i : Nat} {Q : Option Value → List zC → zM → Prop} (hi : i + 7 ≤ L) (hL : L ≤ 3584) (hc : cells + 2 ≤ 600000) (hs : slots + 26 ≤ 7302250) (hw : WI rw M) (K : ∀ (rw' : List zC) (M' : zM) (c' s' : Nat), WI rw' M' → c' ≤ cells + 2 → s' ≤ slots + 26 → LA (scr L xs) l (some 0) room_1 yL_law cL_law 4 ret Q c' s' 1361 (lsI i) [] (zSh ++ rw') M') : LA (scr L xs) l (some 0) room_1 yL_law cL_law 4 ret Q cells slots 843 (lsI i) [] (zSh ++ rw) M := by
  obtain ⟨t, z, hw⟩ := hw
  refine L_aload_n dL_law_843 rfl rfl ?_
  refine L_arg (i := i) (j := 1) dL_law_844 dL_law_845 dL_law_846 rfl dL_law_847 dL_law_848 (by omega) hL ?_
  refine L_arg (i := i) (j := 2) dL_law_849 dL_law_850 dL_law_851 rfl dL_law_852 dL_law_853 (by omega) hL ?_
  refine L_arg (i := i) (j := 3) dL_law_854 dL_law_855 dL_law_856 rfl dL_law_857 dL_law_858 (by omega) hL ?_
  refine L_arg (i := i) (j := 4) dL_law_859 dL_law_860 dL_law_861 rfl dL_law_862 dL_law_863 (by omega) hL ?_
  refine L_cV4 mv_X4_bestCut ml_L_102 (c4_bestCut l hw.si hw.nb _ _ _ _) dL_law_864 (Nat.le_of_ble_eq_true rfl) ⟨by decide, by decide⟩ ⟨by show _ ≤ 600000; omega, by show _ ≤ 7302250; omega⟩ sh_0 rfl (fun v S1 M1 hq => ?_)
  obtain ⟨rfl, rfl, hf1⟩ := hq
  have hw := WJ_f hw (fun i q => by omega) hf1 (fun m hm => by rw [(hf1 31 (by decide)).1]; exact hw.z31 m hm)
  refine ⟨?_, fun q9 h9 => by cases h9; exact Nat.zero_le _⟩
  dsimp only [zrst, List.cons_append, List.nil_append]
  refine L_aload_n dL_law_867 rfl rfl ?_
  refine L_arg (i := i) (j := 1) dL_law_868 dL_law_869 dL_law_870 rfl dL_law_871 dL_law_872 (by omega) hL ?_
  refine L_arg (i := i) (j := 2) dL_law_873 dL_law_874 dL_law_875 rfl dL_law_876 dL_law_877 (by omega) hL ?_
  refine L_arg (i := i) (j := 3) dL_law_878 dL_law_879 dL_law_880 rfl dL_law_881 dL_law_882 (by omega) hL ?_
  refine L_arg (i := i) (j := 4) dL_law_883 dL_law_884 dL_law_885 rfl dL_law_886 dL_law_887 (by omega) hL ?_
  refine L_cV4 mv_X5_bestCut ml_L_105 (c5p_bestCut l hw.ri hw.nb _ _ _ _) dL_law_888 (Nat.le_of_ble_eq_true rfl) ⟨by decide, by decide⟩ ⟨by show _ ≤ 600000; omega, by show _ ≤ 7302250; omega⟩ sh_34 rfl (fun v S2 M2 hq => ?_)
  obtain ⟨rfl, rfl, ⟨T, hR2, hT2⟩, hf2⟩ := hq
  refine ⟨?_, fun q9 h9 => by cases h9; exact Nat.zero_le _⟩
  dsimp only [zrst, List.cons_append, List.nil_append]
  refine L_icmp_eq (tgt := 1361) dL_law_891 (by decide) (fun _ => ?_) (fun q => absurd rfl q)
  exact K _ _ _ _ (⟨T, z, WJ_T hw hR2 hT2 hf2⟩) (Nat.le_add_right _ _) (Nat.le_add_right _ _)
set_option maxHeartbeats 4000000 in
set_option maxRecDepth 100000 in
theorem k_wear (l : Launch) {L : Nat} {xs : Nat → Int32} {rw : List zC} {M : zM} {cells slots i : Nat} {Q : Option Value → List zC → zM → Prop} (hi : i + 7 ≤ L) (hL : L ≤ 3584) (hc : cells + 2 ≤ 600000) (hs : slots + 26 ≤ 7302250) (hw : WI rw M) (K : ∀ (rw' : List zC) (M' : zM) (c' s' : Nat), WI rw' M' → c' ≤ cells + 2 → s' ≤ slots + 26 → LA (scr L xs) l (some 0) room_1 yL_law cL_law 4 ret Q c' s' 1361 (lsI i) [] (zSh ++ rw') M') : LA (scr L xs) l (some 0) room_1 yL_law cL_law 4 ret Q cells slots 896 (lsI i) [] (zSh ++ rw) M := by
  obtain ⟨t, z, hw⟩ := hw
  refine L_aload_n dL_law_896 rfl rfl ?_
  refine L_arg (i := i) (j := 1) dL_law_897 dL_law_898 dL_law_899 rfl dL_law_900 dL_law_901 (by omega) hL ?_
  refine L_cV1 mv_X4_wear ml_L_106 (c4_wear l hw.si hw.nb _) dL_law_902 (Nat.le_of_ble_eq_true rfl) ⟨by decide, by decide⟩ ⟨by show _ ≤ 600000; omega, by show _ ≤ 7302250; omega⟩ sh_0 rfl (fun v S1 M1 hq => ?_)
  obtain ⟨rfl, rfl, hf1⟩ := hq
  have hw := WJ_f hw (fun i q => by omega) hf1 (fun m hm => by rw [(hf1 31 (by decide)).1]; exact hw.z31 m hm)
  refine ⟨?_, fun q9 h9 => by cases h9; exact Nat.zero_le _⟩
  dsimp only [zrst, List.cons_append, List.nil_append]
  refine L_aload_n dL_law_905 rfl rfl ?_
  refine L_arg (i := i) (j := 1) dL_law_906 dL_law_907 dL_law_908 rfl dL_law_909 dL_law_910 (by omega) hL ?_
  refine L_cV1 mv_X5_wear ml_L_109 (c5p_wear l hw.ri hw.nb _) dL_law_911 (Nat.le_of_ble_eq_true rfl) ⟨by decide, by decide⟩ ⟨by show _ ≤ 600000; omega, by show _ ≤ 7302250; omega⟩ sh_34 rfl (fun v S2 M2 hq => ?_)
  obtain ⟨rfl, rfl, rfl⟩ := hq
  refine ⟨?_, fun q9 h9 => by cases h9; exact Nat.zero_le _⟩
  dsimp only [zrst, List.cons_append, List.nil_append]
  refine L_icmp_eq (tgt := 1361) dL_law_914 (by decide) (fun _ => ?_) (fun q => absurd rfl q)
  exact K _ _ _ _ (⟨t, z, hw⟩) (Nat.le_add_right _ _) (Nat.le_add_right _ _)
set_option maxHeartbeats 4000000 in
set_option maxRecDepth 100000 in
theorem k_luck (l : Launch) {L : Nat} {xs : Nat → Int32} {rw : List zC} {M : zM} {cells slots i : Nat} {Q : Option Value → List zC → zM → Prop} (hi : i + 7 ≤ L) (hL : L ≤ 3584) (hc : cells + 2 ≤ 600000) (hs : slots + 26 ≤ 7302250) (hw : WI rw M) (K : ∀ (rw' : List zC) (M' : zM) (c' s' : Nat), WI rw' M' → c' ≤ cells + 2 → s' ≤ slots + 26 → LA (scr L xs) l (some 0) room_1 yL_law cL_law 4 ret Q c' s' 1361 (lsI i) [] (zSh ++ rw') M') : LA (scr L xs) l (some 0) room_1 yL_law cL_law 4 ret Q cells slots 919 (lsI i) [] (zSh ++ rw) M := by
  obtain ⟨t, z, hw⟩ := hw
  refine L_aload_n dL_law_919 rfl rfl ?_
  refine L_arg (i := i) (j := 1) dL_law_920 dL_law_921 dL_law_922 rfl dL_law_923 dL_law_924 (by omega) hL ?_
  refine L_arg (i := i) (j := 2) dL_law_925 dL_law_926 dL_law_927 rfl dL_law_928 dL_law_929 (by omega) hL ?_
  refine L_arg (i := i) (j := 3) dL_law_930 dL_law_931 dL_law_932 rfl dL_law_933 dL_law_934 (by omega) hL ?_
  refine L_cV3 mv_X4_luck ml_L_110 (c4_luck l hw.si hw.nb _ _ _) dL_law_935 (Nat.le_of_ble_eq_true rfl) ⟨by decide, by decide⟩ ⟨by show _ ≤ 600000; omega, by show _ ≤ 7302250; omega⟩ sh_0 rfl (fun v S1 M1 hq => ?_)
  obtain ⟨rfl, rfl, rfl⟩ := hq
  refine ⟨?_, fun q9 h9 => by cases h9; exact Nat.zero_le _⟩
  dsimp only [zrst, List.cons_append, List.nil_append]
  refine L_aload_n dL_law_938 rfl rfl ?_
  refine L_arg (i := i) (j := 1) dL_law_939 dL_law_940 dL_law_941 rfl dL_law_942 dL_law_943 (by omega) hL ?_
  refine L_arg (i := i) (j := 2) dL_law_944 dL_law_945 dL_law_946 rfl dL_law_947 dL_law_948 (by omega) hL ?_
  refine L_arg (i := i) (j := 3) dL_law_949 dL_law_950 dL_law_951 rfl dL_law_952 dL_law_953 (by omega) hL ?_
  refine L_cV3 mv_X5_luck ml_L_113 (c5p_luck l hw.ri hw.nb _ _ _) dL_law_954 (Nat.le_of_ble_eq_true rfl) ⟨by decide, by decide⟩ ⟨by show _ ≤ 600000; omega, by show _ ≤ 7302250; omega⟩ sh_34 rfl (fun v S2 M2 hq => ?_)
  obtain ⟨rfl, rfl, rfl⟩ := hq
  refine ⟨?_, fun q9 h9 => by cases h9; exact Nat.zero_le _⟩
  dsimp only [zrst, List.cons_append, List.nil_append]
  refine L_icmp_eq (tgt := 1361) dL_law_957 (by decide) (fun _ => ?_) (fun q => absurd rfl q)
  exact K _ _ _ _ (⟨t, z, hw⟩) (Nat.le_add_right _ _) (Nat.le_add_right _ _)
set_option maxHeartbeats 4000000 in
set_option maxRecDepth 100000 in
theorem k_warrant (l : Launch) {L : Nat} {xs : Nat → Int32} {rw : List zC} {M : zM} {cells slots i : Nat} {Q : Option Value → List zC → zM → Prop} (hi : i + 7 ≤ L) (hL : L ≤ 3584) (hc : cells + 2 ≤ 600000) (hs : slots + 26 ≤ 7302250) (hw : WI rw M) (K : ∀ (rw' : List zC) (M' : zM) (c' s' : Nat), WI rw' M' → c' ≤ cells + 2 → s' ≤ slots + 26 → LA (scr L xs) l (some 0) room_1 yL_law cL_law 4 ret Q c' s' 1361 (lsI i) [] (zSh ++ rw') M') : LA (scr L xs) l (some 0) room_1 yL_law cL_law 4 ret Q cells slots 962 (lsI i) [] (zSh ++ rw) M := by
  obtain ⟨t, z, hw⟩ := hw
  refine L_aload_n dL_law_962 rfl rfl ?_
  refine L_arg (i := i) (j := 1) dL_law_963 dL_law_964 dL_law_965 rfl dL_law_966 dL_law_967 (by omega) hL ?_
  refine L_cV1 mv_X4_warrant ml_L_114 (c4_warrant l hw.si hw.nb _) dL_law_968 (Nat.le_of_ble_eq_true rfl) ⟨by decide, by decide⟩ ⟨by show _ ≤ 600000; omega, by show _ ≤ 7302250; omega⟩ sh_0 rfl (fun v S1 M1 hq => ?_)
  obtain ⟨rfl, rfl, rfl⟩ := hq
  refine ⟨?_, fun q9 h9 => by cases h9; exact Nat.zero_le _⟩
  dsimp only [zrst, List.cons_append, List.nil_append]
  refine L_aload_n dL_law_971 rfl rfl ?_
  refine L_arg (i := i) (j := 1) dL_law_972 dL_law_973 dL_law_974 rfl dL_law_975 dL_law_976 (by omega) hL ?_
  refine L_cV1 mv_X5_warrant ml_L_117 (c5p_warrant l hw.ri hw.nb _) dL_law_977 (Nat.le_of_ble_eq_true rfl) ⟨by decide, by decide⟩ ⟨by show _ ≤ 600000; omega, by show _ ≤ 7302250; omega⟩ sh_34 rfl (fun v S2 M2 hq => ?_)
  obtain ⟨rfl, rfl, rfl⟩ := hq
  refine ⟨?_, fun q9 h9 => by cases h9; exact Nat.zero_le _⟩
  dsimp only [zrst, List.cons_append, List.nil_append]
  refine L_icmp_eq (tgt := 1361) dL_law_980 (by decide) (fun _ => ?_) (fun q => absurd rfl q)
  exact K _ _ _ _ (⟨t, z, hw⟩) (Nat.le_add_right _ _) (Nat.le_add_right _ _)
set_option maxHeartbeats 4000000 in
set_option maxRecDepth 100000 in
theorem k_image (l : Launch) {L : Nat} {xs : Nat → Int32} {rw : List zC} {M : zM} {cells slots i : Nat} {Q : Option Value → List zC → zM → Prop} (hi : i + 7 ≤ L) (hL : L ≤ 3584) (hc : cells + 2 ≤ 600000) (hs : slots + 26 ≤ 7302250) (hw : WI rw M) (K : ∀ (rw' : List zC) (M' : zM) (c' s' : Nat), WI rw' M' → c' ≤ cells + 2 → s' ≤ slots + 26 → LA (scr L xs) l (some 0) room_1 yL_law cL_law 4 ret Q c' s' 1361 (lsI i) [] (zSh ++ rw') M') : LA (scr L xs) l (some 0) room_1 yL_law cL_law 4 ret Q cells slots 985 (lsI i) [] (zSh ++ rw) M := by
  obtain ⟨t, z, hw⟩ := hw
  refine L_aload_n dL_law_985 rfl rfl ?_
  refine L_cV0 mv_X4_image ml_L_118 (c4_image l hw.si hw.nb hw.ub.1) dL_law_986 (Nat.le_of_ble_eq_true rfl) ⟨by decide, by decide⟩ ⟨by show _ ≤ 600000; omega, by show _ ≤ 7302250; omega⟩ sh_0 rfl (fun v S1 M1 hq => ?_)
  obtain ⟨rfl, rfl, hK, h02, hf1⟩ := hq
  have hR1 := RI_fr hw.ri hf1 (fun i q => by first | omega | (unfold PT at q; omega) | (unfold PT PQ at q; omega))
  refine ⟨?_, fun q9 h9 => by cases h9; exact Nat.zero_le _⟩
  dsimp only [zrst, List.cons_append, List.nil_append]
  refine L_aload_n dL_law_989 rfl rfl ?_
  refine L_cV0 mv_X5_image ml_L_121 (c5p_image l hR1) dL_law_990 (Nat.le_of_ble_eq_true rfl) ⟨by decide, by decide⟩ ⟨by show _ ≤ 600000; omega, by show _ ≤ 7302250; omega⟩ sh_34 rfl (fun v S2 M2 hq => ?_)
  obtain ⟨rfl, rfl, hR2, hf2⟩ := hq
  refine ⟨?_, fun q9 h9 => by cases h9; exact Nat.zero_le _⟩
  dsimp only [zrst, List.cons_append, List.nil_append]
  refine L_icmp_eq (tgt := 1361) dL_law_993 (by decide) (fun _ => ?_) (fun q => absurd rfl q)
  exact K _ _ _ _ (⟨_, z, WJ_image hw hK h02 hf1 hR2 hf2⟩) (Nat.le_add_right _ _) (Nat.le_add_right _ _)
set_option maxHeartbeats 4000000 in
set_option maxRecDepth 100000 in
theorem k_restore (l : Launch) {L : Nat} {xs : Nat → Int32} {rw : List zC} {M : zM} {cells slots i : Nat} {Q : Option Value → List zC → zM → Prop} (hi : i + 7 ≤ L) (hL : L ≤ 3584) (hc : cells + 2 ≤ 600000) (hs : slots + 26 ≤ 7302250) (hw : WI rw M) (K : ∀ (rw' : List zC) (M' : zM) (c' s' : Nat), WI rw' M' → c' ≤ cells + 2 → s' ≤ slots + 26 → LA (scr L xs) l (some 0) room_1 yL_law cL_law 4 ret Q c' s' 1361 (lsI i) [] (zSh ++ rw') M') : LA (scr L xs) l (some 0) room_1 yL_law cL_law 4 ret Q cells slots 998 (lsI i) [] (zSh ++ rw) M := by
  obtain ⟨t, z, hw⟩ := hw
  refine L_aload_n dL_law_998 rfl rfl ?_
  refine L_cV0 mv_X4_restore ml_L_122 (c4_restore l hw.si hw.im.1 hw.im.2.1 (fun q => ⟨(hw.im.2.2 q).1, (hw.im.2.2 q).2.1, (hw.im.2.2 q).2.2.1⟩)) dL_law_999 (Nat.le_of_ble_eq_true rfl) ⟨by decide, by decide⟩ ⟨by show _ ≤ 600000; omega, by show _ ≤ 7302250; omega⟩ sh_0 rfl (fun v S1 M1 hq => ?_)
  obtain ⟨rfl, rfl, hS1, hf1⟩ := hq
  have hR1 := RI_fr hw.ri hf1 (fun i q => by first | omega | (unfold PT at q; omega) | (unfold PT PQ at q; omega))
  refine ⟨?_, fun q9 h9 => by cases h9; exact Nat.zero_le _⟩
  dsimp only [zrst, List.cons_append, List.nil_append]
  refine L_aload_n dL_law_1002 rfl rfl ?_
  refine L_cV0 mv_X5_restore ml_L_125 (c5p_restore l hR1 hw.im.2.1) dL_law_1003 (Nat.le_of_ble_eq_true rfl) ⟨by decide, by decide⟩ ⟨by show _ ≤ 600000; omega, by show _ ≤ 7302250; omega⟩ sh_34 rfl (fun v S2 M2 hq => ?_)
  obtain ⟨rfl, rfl, hR2, hf2⟩ := hq
  refine ⟨?_, fun q9 h9 => by cases h9; exact Nat.zero_le _⟩
  dsimp only [zrst, List.cons_append, List.nil_append]
  refine L_icmp_eq (tgt := 1361) dL_law_1006 (by decide) (fun _ => ?_) (fun q => absurd rfl q)
  exact K _ _ _ _ (⟨_, z, WJ_w hw (fun i q => by first | omega | (unfold PT at q; omega) | (unfold PT PQ at q; omega)) hS1 hf1 hR2 hf2 (OK_restore hw.nb hw.ub hw.im.2.1 (fun q => (hw.im.2.2 q).2))⟩) (Nat.le_add_right _ _) (Nat.le_add_right _ _)
set_option maxHeartbeats 4000000 in
set_option maxRecDepth 100000 in
theorem k_done (l : Launch) {L : Nat} {xs : Nat → Int32} {rw : List zC} {M : zM} {cells slots i : Nat} {Q : Option Value → List zC → zM → Prop} (hi : i + 7 ≤ L) (hL : L ≤ 3584) (hc : cells + 2 ≤ 600000) (hs : slots + 26 ≤ 7302250) (hw : WI rw M) (K : ∀ (rw' : List zC) (M' : zM) (c' s' : Nat), WI rw' M' → c' ≤ cells + 2 → s' ≤ slots + 26 → LA (scr L xs) l (some 0) room_1 yL_law cL_law 4 ret Q c' s' 1361 (lsI i) [] (zSh ++ rw') M') : LA (scr L xs) l (some 0) room_1 yL_law cL_law 4 ret Q cells slots 1011 (lsI i) [] (zSh ++ rw) M := by
  obtain ⟨t, z, hw⟩ := hw
  refine L_aload_n dL_law_1011 rfl rfl ?_
  refine L_arg (i := i) (j := 1) dL_law_1012 dL_law_1013 dL_law_1014 rfl dL_law_1015 dL_law_1016 (by omega) hL ?_
  refine L_arg (i := i) (j := 2) dL_law_1017 dL_law_1018 dL_law_1019 rfl dL_law_1020 dL_law_1021 (by omega) hL ?_
  refine L_arg (i := i) (j := 3) dL_law_1022 dL_law_1023 dL_law_1024 rfl dL_law_1025 dL_law_1026 (by omega) hL ?_
  refine L_arg (i := i) (j := 4) dL_law_1027 dL_law_1028 dL_law_1029 rfl dL_law_1030 dL_law_1031 (by omega) hL ?_
  refine L_arg (i := i) (j := 5) dL_law_1032 dL_law_1033 dL_law_1034 rfl dL_law_1035 dL_law_1036 (by omega) hL ?_
  refine L_cV5 mv_X4_done ml_L_126 (c4_done l hw.si hw.nb hw.sh.1 hw.z31 (fun j k => M.2.1 43 (24 * j + k)) (fun j r ri L hj hz k hk => hw.sh.2.2.1 j r ri L hj hz k hk) _ _ _ _ _) dL_law_1037 (Nat.le_of_ble_eq_true rfl) ⟨by decide, by decide⟩ ⟨by show _ ≤ 600000; omega, by show _ ≤ 7302250; omega⟩ sh_0 rfl (fun v S1 M1 hq => ?_)
  obtain ⟨rfl, rfl, h31, hf1⟩ := hq
  have hw1 := WJ_f hw (fun i q => by omega) hf1 h31
  refine ⟨?_, fun q9 h9 => by cases h9; exact Nat.zero_le _⟩
  dsimp only [zrst, List.cons_append, List.nil_append]
  refine L_aload_n dL_law_1040 rfl rfl ?_
  refine L_arg (i := i) (j := 1) dL_law_1041 dL_law_1042 dL_law_1043 rfl dL_law_1044 dL_law_1045 (by omega) hL ?_
  refine L_arg (i := i) (j := 2) dL_law_1046 dL_law_1047 dL_law_1048 rfl dL_law_1049 dL_law_1050 (by omega) hL ?_
  refine L_arg (i := i) (j := 3) dL_law_1051 dL_law_1052 dL_law_1053 rfl dL_law_1054 dL_law_1055 (by omega) hL ?_
  refine L_arg (i := i) (j := 4) dL_law_1056 dL_law_1057 dL_law_1058 rfl dL_law_1059 dL_law_1060 (by omega) hL ?_
  refine L_arg (i := i) (j := 5) dL_law_1061 dL_law_1062 dL_law_1063 rfl dL_law_1064 dL_law_1065 (by omega) hL ?_
  refine L_cV5 mv_X5_done ml_L_130 (c5p_done l hw1.ri hw1.sh.2.1 hw1.nb (fun j k => M.2.1 43 (24 * j + k)) (fun j r ri L _ _ k _ => congrFun (hf1 43 (by decide)).2.1 _) _ _ _ _ _) dL_law_1066 (Nat.le_of_ble_eq_true rfl) ⟨by decide, by decide⟩ ⟨by show _ ≤ 600000; omega, by show _ ≤ 7302250; omega⟩ sh_34 rfl (fun v S2 M2 hq => ?_)
  obtain ⟨rfl, rfl, rfl⟩ := hq
  refine ⟨?_, fun q9 h9 => by cases h9; exact Nat.zero_le _⟩
  dsimp only [zrst, List.cons_append, List.nil_append]
  refine L_icmp_eq (tgt := 1361) dL_law_1069 (by decide) (fun _ => ?_) (fun q => absurd rfl q)
  exact K _ _ _ _ (⟨t, z, hw1⟩) (Nat.le_add_right _ _) (Nat.le_add_right _ _)
set_option maxHeartbeats 4000000 in
set_option maxRecDepth 100000 in
theorem k_film (l : Launch) {L : Nat} {xs : Nat → Int32} {rw : List zC} {M : zM} {cells slots i : Nat} {Q : Option Value → List zC → zM → Prop} (hi : i + 7 ≤ L) (hL : L ≤ 3584) (hc : cells + 2 ≤ 600000) (hs : slots + 26 ≤ 7302250) (hw : WI rw M) (K : ∀ (rw' : List zC) (M' : zM) (c' s' : Nat), WI rw' M' → c' ≤ cells + 2 → s' ≤ slots + 26 → LA (scr L xs) l (some 0) room_1 yL_law cL_law 4 ret Q c' s' 1361 (lsI i) [] (zSh ++ rw') M') : LA (scr L xs) l (some 0) room_1 yL_law cL_law 4 ret Q cells slots 1074 (lsI i) [] (zSh ++ rw) M := by
  obtain ⟨t, z, hw⟩ := hw
  refine L_aload_n dL_law_1074 rfl rfl ?_
  refine L_arg (i := i) (j := 1) dL_law_1075 dL_law_1076 dL_law_1077 rfl dL_law_1078 dL_law_1079 (by omega) hL ?_
  refine L_arg (i := i) (j := 2) dL_law_1080 dL_law_1081 dL_law_1082 rfl dL_law_1083 dL_law_1084 (by omega) hL ?_
  refine L_arg (i := i) (j := 3) dL_law_1085 dL_law_1086 dL_law_1087 rfl dL_law_1088 dL_law_1089 (by omega) hL ?_
  refine L_arg (i := i) (j := 4) dL_law_1090 dL_law_1091 dL_law_1092 rfl dL_law_1093 dL_law_1094 (by omega) hL ?_
  refine L_arg (i := i) (j := 5) dL_law_1095 dL_law_1096 dL_law_1097 rfl dL_law_1098 dL_law_1099 (by omega) hL ?_
  refine L_argB (i := i) (j := 6) dL_law_1100 dL_law_1101 dL_law_1102 rfl dL_law_1104 dL_law_1105 (by omega) hL ?_
  refine L_cV6 mv_X4_film ml_L_131 (c4_film l hw.si hw.nb hw.sh.1 _ _ _ _ _ _) dL_law_1106 (Nat.le_of_ble_eq_true rfl) ⟨by decide, by decide⟩ ⟨by show _ ≤ 600000; omega, by show _ ≤ 7302250; omega⟩ sh_0 rfl (fun v S1 M1 hq => ?_)
  obtain ⟨rfl, rfl, rfl⟩ := hq
  refine ⟨?_, fun q9 h9 => by cases h9; exact Nat.zero_le _⟩
  dsimp only [zrst, List.cons_append, List.nil_append]
  refine L_aload_n dL_law_1109 rfl rfl ?_
  refine L_arg (i := i) (j := 1) dL_law_1110 dL_law_1111 dL_law_1112 rfl dL_law_1113 dL_law_1114 (by omega) hL ?_
  refine L_arg (i := i) (j := 2) dL_law_1115 dL_law_1116 dL_law_1117 rfl dL_law_1118 dL_law_1119 (by omega) hL ?_
  refine L_arg (i := i) (j := 3) dL_law_1120 dL_law_1121 dL_law_1122 rfl dL_law_1123 dL_law_1124 (by omega) hL ?_
  refine L_arg (i := i) (j := 4) dL_law_1125 dL_law_1126 dL_law_1127 rfl dL_law_1128 dL_law_1129 (by omega) hL ?_
  refine L_arg (i := i) (j := 5) dL_law_1130 dL_law_1131 dL_law_1132 rfl dL_law_1133 dL_law_1134 (by omega) hL ?_
  refine L_argB (i := i) (j := 6) dL_law_1135 dL_law_1136 dL_law_1137 rfl dL_law_1139 dL_law_1140 (by omega) hL ?_
  refine L_cV6 mv_X5_film ml_L_135 (c5p_film l (RI_1 hw.ri (mc_film_1 _ _ _ _ _ _)) (SHR_1 hw.sh.2.1 (mc_film_1 _ _ _ _ _ _)) hw.nb _ _ _ _ _ _) dL_law_1141 (Nat.le_of_ble_eq_true rfl) ⟨by decide, by decide⟩ ⟨by show _ ≤ 600000; omega, by show _ ≤ 7302250; omega⟩ sh_34 rfl (fun v S2 M2 hq => ?_)
  obtain ⟨rfl, rfl, rfl⟩ := hq
  refine ⟨?_, fun q9 h9 => by cases h9; exact Nat.zero_le _⟩
  dsimp only [zrst, List.cons_append, List.nil_append]
  refine L_icmp_eq (tgt := 1361) dL_law_1144 (by decide) (fun _ => ?_) (fun q => absurd rfl q)
  exact K _ _ _ _ (⟨t, z, WJ_film hw _ _ _ _ _ _⟩) (Nat.le_add_right _ _) (Nat.le_add_right _ _)
set_option maxHeartbeats 4000000 in
set_option maxRecDepth 100000 in
theorem k_sheet (l : Launch) {L : Nat} {xs : Nat → Int32} {rw : List zC} {M : zM} {cells slots i : Nat} {Q : Option Value → List zC → zM → Prop} (hi : i + 7 ≤ L) (hL : L ≤ 3584) (hc : cells + 2 ≤ 600000) (hs : slots + 26 ≤ 7302250) (hw : WI rw M) (K : ∀ (rw' : List zC) (M' : zM) (c' s' : Nat), WI rw' M' → c' ≤ cells + 2 → s' ≤ slots + 26 → LA (scr L xs) l (some 0) room_1 yL_law cL_law 4 ret Q c' s' 1361 (lsI i) [] (zSh ++ rw') M') : LA (scr L xs) l (some 0) room_1 yL_law cL_law 4 ret Q cells slots 1149 (lsI i) [] (zSh ++ rw) M := by
  obtain ⟨t, z, hw⟩ := hw
  refine L_aload_n dL_law_1149 rfl rfl ?_
  refine L_arg (i := i) (j := 1) dL_law_1150 dL_law_1151 dL_law_1152 rfl dL_law_1153 dL_law_1154 (by omega) hL ?_
  refine L_arg (i := i) (j := 2) dL_law_1155 dL_law_1156 dL_law_1157 rfl dL_law_1158 dL_law_1159 (by omega) hL ?_
  refine L_arg (i := i) (j := 3) dL_law_1160 dL_law_1161 dL_law_1162 rfl dL_law_1163 dL_law_1164 (by omega) hL ?_
  refine L_callVA (as := [_, _, _]) mv_X4_sheet ml_L_136 (c4_sheet l hw.fw.zwf _ _ _) dL_law_1165 rfl rfl (Nat.le_of_ble_eq_true rfl) ⟨by decide, by decide⟩ ⟨by show _ ≤ 600000; omega, by show _ ≤ 7302250; omega⟩ sh_0 rfl (fun v hv => lsI_wf hv) (fun v hv => nomatch hv) (fun v S1 M1 hq => ?_)
  obtain ⟨rfl, hq⟩ := hq
  rcases hq with ⟨hg, rfl, rfl⟩ | ⟨hg, rfl, rfl⟩
  · refine ⟨?_, Nat.zero_le _⟩
    dsimp only [zrst, List.cons_append, List.nil_append]
    refine L_aload_n dL_law_1168 rfl rfl ?_
    refine L_arg (i := i) (j := 1) dL_law_1169 dL_law_1170 dL_law_1171 rfl dL_law_1172 dL_law_1173 (by omega) hL ?_
    refine L_arg (i := i) (j := 2) dL_law_1174 dL_law_1175 dL_law_1176 rfl dL_law_1177 dL_law_1178 (by omega) hL ?_
    refine L_arg (i := i) (j := 3) dL_law_1179 dL_law_1180 dL_law_1181 rfl dL_law_1182 dL_law_1183 (by omega) hL ?_
    refine L_cV3 mv_X5_sheet ml_L_139 (c5p_sheet l _ _ _) dL_law_1184 (Nat.le_of_ble_eq_true rfl) ⟨by decide, by decide⟩ ⟨by show _ ≤ 600000; omega, by show _ ≤ 7302250; omega⟩ sh_34 rfl (fun v S2 M2 hq => ?_)
    obtain ⟨rfl, rfl, rfl⟩ := hq
    refine ⟨?_, fun q9 h9 => by cases h9; exact Nat.zero_le _⟩
    dsimp only [zrst, List.cons_append, List.nil_append]
    refine L_icmp_eq (tgt := 1361) dL_law_1187 (by decide) (fun _ => ?_) (fun q => absurd rfl q)
    exact K _ _ _ _ (WJ_sheet hw hg) (Nat.le_refl _) (Nat.le_refl _)
  · refine ⟨?_, Nat.zero_le _⟩
    dsimp only [zrst, List.cons_append, List.nil_append]
    refine L_aload_n dL_law_1168 rfl rfl ?_
    refine L_arg (i := i) (j := 1) dL_law_1169 dL_law_1170 dL_law_1171 rfl dL_law_1172 dL_law_1173 (by omega) hL ?_
    refine L_arg (i := i) (j := 2) dL_law_1174 dL_law_1175 dL_law_1176 rfl dL_law_1177 dL_law_1178 (by omega) hL ?_
    refine L_arg (i := i) (j := 3) dL_law_1179 dL_law_1180 dL_law_1181 rfl dL_law_1182 dL_law_1183 (by omega) hL ?_
    refine L_cV3 mv_X5_sheet ml_L_139 (c5p_sheet l _ _ _) dL_law_1184 (Nat.le_of_ble_eq_true rfl) ⟨by decide, by decide⟩ ⟨by show _ ≤ 600000; omega, by show _ ≤ 7302250; omega⟩ sh_34 rfl (fun v S2 M2 hq => ?_)
    obtain ⟨rfl, rfl, rfl⟩ := hq
    refine ⟨?_, fun q9 h9 => by cases h9; exact Nat.zero_le _⟩
    dsimp only [zrst, List.cons_append, List.nil_append]
    refine L_icmp_eq (tgt := 1361) dL_law_1187 (by decide) (fun _ => ?_) (fun q => absurd rfl q)
    refine K _ _ _ _ ⟨t, z, ?_⟩ (Nat.le_refl _) (Nat.le_refl _)
    rw [show mr_sheet (xs (i + 1)) (xs (i + 2)) (xs (i + 3)) M1 = M1 from if_neg hg]
    exact hw
set_option maxHeartbeats 4000000 in
set_option maxRecDepth 100000 in
theorem k_drop (l : Launch) {L : Nat} {xs : Nat → Int32} {rw : List zC} {M : zM} {cells slots i : Nat} {Q : Option Value → List zC → zM → Prop} (hi : i + 7 ≤ L) (hL : L ≤ 3584) (hc : cells + 2 ≤ 600000) (hs : slots + 26 ≤ 7302250) (hw : WI rw M) (K : ∀ (rw' : List zC) (M' : zM) (c' s' : Nat), WI rw' M' → c' ≤ cells + 2 → s' ≤ slots + 26 → LA (scr L xs) l (some 0) room_1 yL_law cL_law 4 ret Q c' s' 1361 (lsI i) [] (zSh ++ rw') M') : LA (scr L xs) l (some 0) room_1 yL_law cL_law 4 ret Q cells slots 1192 (lsI i) [] (zSh ++ rw) M := by
  obtain ⟨t, z, hw⟩ := hw
  refine L_aload_n dL_law_1192 rfl rfl ?_
  refine L_arg (i := i) (j := 1) dL_law_1193 dL_law_1194 dL_law_1195 rfl dL_law_1196 dL_law_1197 (by omega) hL ?_
  refine L_cV1 mv_X4_drop ml_L_140 (c4_drop l hw.sh.1 _) dL_law_1198 (Nat.le_of_ble_eq_true rfl) ⟨by decide, by decide⟩ ⟨by show _ ≤ 600000; omega, by show _ ≤ 7302250; omega⟩ sh_0 rfl (fun v S1 M1 hq => ?_)
  obtain ⟨rfl, rfl, rfl⟩ := hq
  refine ⟨?_, fun q9 h9 => by cases h9; exact Nat.zero_le _⟩
  dsimp only [zrst, List.cons_append, List.nil_append]
  refine L_aload_n dL_law_1201 rfl rfl ?_
  refine L_arg (i := i) (j := 1) dL_law_1202 dL_law_1203 dL_law_1204 rfl dL_law_1205 dL_law_1206 (by omega) hL ?_
  refine L_cV1 mv_X5_drop ml_L_143 (c5p_drop l (RI_1 hw.ri (mc_drop_1 _)) (SHR_1 hw.sh.2.1 (mc_drop_1 _)) _) dL_law_1207 (Nat.le_of_ble_eq_true rfl) ⟨by decide, by decide⟩ ⟨by show _ ≤ 600000; omega, by show _ ≤ 7302250; omega⟩ sh_34 rfl (fun v S2 M2 hq => ?_)
  obtain ⟨rfl, rfl, rfl⟩ := hq
  refine ⟨?_, fun q9 h9 => by cases h9; exact Nat.zero_le _⟩
  dsimp only [zrst, List.cons_append, List.nil_append]
  refine L_icmp_eq (tgt := 1361) dL_law_1210 (by decide) (fun _ => ?_) (fun q => absurd rfl q)
  exact K _ _ _ _ (WJ_drop hw _) (Nat.le_add_right _ _) (Nat.le_add_right _ _)
set_option maxHeartbeats 4000000 in
set_option maxRecDepth 100000 in
theorem k_item (l : Launch) {L : Nat} {xs : Nat → Int32} {rw : List zC} {M : zM} {cells slots i : Nat} {Q : Option Value → List zC → zM → Prop} (hi : i + 7 ≤ L) (hL : L ≤ 3584) (hc : cells + 2 ≤ 600000) (hs : slots + 26 ≤ 7302250) (hw : WI rw M) (K : ∀ (rw' : List zC) (M' : zM) (c' s' : Nat), WI rw' M' → c' ≤ cells + 2 → s' ≤ slots + 26 → LA (scr L xs) l (some 0) room_1 yL_law cL_law 4 ret Q c' s' 1361 (lsI i) [] (zSh ++ rw') M') : LA (scr L xs) l (some 0) room_1 yL_law cL_law 4 ret Q cells slots 1215 (lsI i) [] (zSh ++ rw) M := by
  obtain ⟨t, z, hw⟩ := hw
  refine L_aload_n dL_law_1215 rfl rfl ?_
  refine L_arg (i := i) (j := 1) dL_law_1216 dL_law_1217 dL_law_1218 rfl dL_law_1219 dL_law_1220 (by omega) hL ?_
  refine L_arg (i := i) (j := 2) dL_law_1221 dL_law_1222 dL_law_1223 rfl dL_law_1224 dL_law_1225 (by omega) hL ?_
  refine L_arg (i := i) (j := 3) dL_law_1226 dL_law_1227 dL_law_1228 rfl dL_law_1229 dL_law_1230 (by omega) hL ?_
  refine L_arg (i := i) (j := 4) dL_law_1231 dL_law_1232 dL_law_1233 rfl dL_law_1234 dL_law_1235 (by omega) hL ?_
  refine L_i2l dL_law_1236 rfl ?_
  refine L_bipush (v := nI 32) dL_law_1237 rfl ?_
  refine L_lshl dL_law_1239 rfl ?_
  refine L_arg (i := i) (j := 5) dL_law_1240 dL_law_1241 dL_law_1242 rfl dL_law_1243 dL_law_1244 (by omega) hL ?_
  refine L_i2l dL_law_1245 rfl ?_
  refine L_ldc2 kc_L_144 dL_law_1246 ?_
  refine L_land dL_law_1249 ?_
  refine L_lor dL_law_1250 ?_
  refine L_cV4 mv_X4_item ml_L_146 (c4_item l hw.sh.1 _ _ _ _) dL_law_1251 (Nat.le_of_ble_eq_true rfl) ⟨by decide, by decide⟩ ⟨by show _ ≤ 600000; omega, by show _ ≤ 7302250; omega⟩ sh_0 rfl (fun v S1 M1 hq => ?_)
  obtain ⟨rfl, rfl, rfl⟩ := hq
  refine ⟨?_, fun q9 h9 => by cases h9; exact Nat.zero_le _⟩
  dsimp only [zrst, List.cons_append, List.nil_append]
  refine L_aload_n dL_law_1254 rfl rfl ?_
  refine L_arg (i := i) (j := 1) dL_law_1255 dL_law_1256 dL_law_1257 rfl dL_law_1258 dL_law_1259 (by omega) hL ?_
  refine L_arg (i := i) (j := 2) dL_law_1260 dL_law_1261 dL_law_1262 rfl dL_law_1263 dL_law_1264 (by omega) hL ?_
  refine L_arg (i := i) (j := 3) dL_law_1265 dL_law_1266 dL_law_1267 rfl dL_law_1268 dL_law_1269 (by omega) hL ?_
  refine L_arg (i := i) (j := 4) dL_law_1270 dL_law_1271 dL_law_1272 rfl dL_law_1273 dL_law_1274 (by omega) hL ?_
  refine L_i2l dL_law_1275 rfl ?_
  refine L_bipush (v := nI 32) dL_law_1276 rfl ?_
  refine L_lshl dL_law_1278 rfl ?_
  refine L_arg (i := i) (j := 5) dL_law_1279 dL_law_1280 dL_law_1281 rfl dL_law_1282 dL_law_1283 (by omega) hL ?_
  refine L_i2l dL_law_1284 rfl ?_
  refine L_ldc2 kc_L_144 dL_law_1285 ?_
  refine L_land dL_law_1288 ?_
  refine L_lor dL_law_1289 ?_
  refine L_cV4 mv_X5_item ml_L_150 (c5p_item l (RI_1 hw.ri (mc_item_1 _ _ _ _)) (SHR_1 hw.sh.2.1 (mc_item_1 _ _ _ _)) _ _ _ _) dL_law_1290 (Nat.le_of_ble_eq_true rfl) ⟨by decide, by decide⟩ ⟨by show _ ≤ 600000; omega, by show _ ≤ 7302250; omega⟩ sh_34 rfl (fun v S2 M2 hq => ?_)
  obtain ⟨rfl, rfl, rfl⟩ := hq
  refine ⟨?_, fun q9 h9 => by cases h9; exact Nat.zero_le _⟩
  dsimp only [zrst, List.cons_append, List.nil_append]
  refine L_icmp_eq (tgt := 1361) dL_law_1293 (by decide) (fun _ => ?_) (fun q => absurd rfl q)
  exact K _ _ _ _ (⟨t, z, WJ_item hw _ _ _ _⟩) (Nat.le_add_right _ _) (Nat.le_add_right _ _)
set_option maxHeartbeats 4000000 in
set_option maxRecDepth 100000 in
theorem k_copy (l : Launch) {L : Nat} {xs : Nat → Int32} {rw : List zC} {M : zM} {cells slots i : Nat} {Q : Option Value → List zC → zM → Prop} (hi : i + 7 ≤ L) (hL : L ≤ 3584) (hc : cells + 2 ≤ 600000) (hs : slots + 26 ≤ 7302250) (hw : WI rw M) (K : ∀ (rw' : List zC) (M' : zM) (c' s' : Nat), WI rw' M' → c' ≤ cells + 2 → s' ≤ slots + 26 → LA (scr L xs) l (some 0) room_1 yL_law cL_law 4 ret Q c' s' 1361 (lsI i) [] (zSh ++ rw') M') : LA (scr L xs) l (some 0) room_1 yL_law cL_law 4 ret Q cells slots 1298 (lsI i) [] (zSh ++ rw) M := by
  obtain ⟨t, z, hw⟩ := hw
  refine L_aload_n dL_law_1298 rfl rfl ?_
  refine L_arg (i := i) (j := 1) dL_law_1299 dL_law_1300 dL_law_1301 rfl dL_law_1302 dL_law_1303 (by omega) hL ?_
  refine L_arg (i := i) (j := 2) dL_law_1304 dL_law_1305 dL_law_1306 rfl dL_law_1307 dL_law_1308 (by omega) hL ?_
  refine L_arg (i := i) (j := 3) dL_law_1309 dL_law_1310 dL_law_1311 rfl dL_law_1312 dL_law_1313 (by omega) hL ?_
  refine L_arg (i := i) (j := 4) dL_law_1314 dL_law_1315 dL_law_1316 rfl dL_law_1317 dL_law_1318 (by omega) hL ?_
  refine L_arg (i := i) (j := 5) dL_law_1319 dL_law_1320 dL_law_1321 rfl dL_law_1322 dL_law_1323 (by omega) hL ?_
  refine L_cV5 mv_X4_copy ml_L_151 (c4_copy l hw.sh.1 _ _ _ _ _) dL_law_1324 (Nat.le_of_ble_eq_true rfl) ⟨by decide, by decide⟩ ⟨by show _ ≤ 600000; omega, by show _ ≤ 7302250; omega⟩ sh_0 rfl (fun v S1 M1 hq => ?_)
  obtain ⟨rfl, rfl, rfl⟩ := hq
  refine ⟨?_, fun q9 h9 => by cases h9; exact Nat.zero_le _⟩
  dsimp only [zrst, List.cons_append, List.nil_append]
  refine L_aload_n dL_law_1327 rfl rfl ?_
  refine L_arg (i := i) (j := 1) dL_law_1328 dL_law_1329 dL_law_1330 rfl dL_law_1331 dL_law_1332 (by omega) hL ?_
  refine L_arg (i := i) (j := 2) dL_law_1333 dL_law_1334 dL_law_1335 rfl dL_law_1336 dL_law_1337 (by omega) hL ?_
  refine L_arg (i := i) (j := 3) dL_law_1338 dL_law_1339 dL_law_1340 rfl dL_law_1341 dL_law_1342 (by omega) hL ?_
  refine L_arg (i := i) (j := 4) dL_law_1343 dL_law_1344 dL_law_1345 rfl dL_law_1346 dL_law_1347 (by omega) hL ?_
  refine L_arg (i := i) (j := 5) dL_law_1348 dL_law_1349 dL_law_1350 rfl dL_law_1351 dL_law_1352 (by omega) hL ?_
  refine L_cV5 mv_X5_copy ml_L_154 (c5p_copy l (RI_1 hw.ri (mc_copy_1 _ _ _ _ _)) (SHR_1 hw.sh.2.1 (mc_copy_1 _ _ _ _ _)) _ _ _ _ _) dL_law_1353 (Nat.le_of_ble_eq_true rfl) ⟨by decide, by decide⟩ ⟨by show _ ≤ 600000; omega, by show _ ≤ 7302250; omega⟩ sh_34 rfl (fun v S2 M2 hq => ?_)
  obtain ⟨rfl, rfl, rfl⟩ := hq
  refine ⟨?_, fun q9 h9 => by cases h9; exact Nat.zero_le _⟩
  dsimp only [zrst, List.cons_append, List.nil_append]
  refine L_icmp_eq (tgt := 1361) dL_law_1356 (by decide) (fun _ => ?_) (fun q => absurd rfl q)
  exact K _ _ _ _ (⟨t, z, WJ_copy hw _ _ _ _ _⟩) (Nat.le_add_right _ _) (Nat.le_add_right _ _)
