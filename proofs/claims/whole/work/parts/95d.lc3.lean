set_option maxHeartbeats 400000 in
set_option maxRecDepth 100000 in
theorem lc_12 {E : awE} {S : awS} {M : aM} {j kc ks : Nat} {Q : Option Value → awS → Nat → Nat → Prop} (I : lwS S M) (hj : 7 * j + 7 ≤ awE_n E) (hnb : awE_n E < 2 ^ 31) (k : lwK E M j kc ks Q) : awV true E m_law 740 (lwL j) [] S kc ks Q := by
  refine av_aload_n (i := 1) dL_law_740 rfl rfl rfl ?_
  refine av_aload_n (i := 0) dL_law_741 rfl rfl rfl ?_
  refine av_iload dL_law_742 rfl ?_
  refine av_iconst (v := 1) dL_law_744 (by decide) ?_
  refine av_iadd1 dL_law_745 ?_
  refine av_sldN dL_law_746 (by omega) hnb ?_
  refine av_aload_n (i := 0) dL_law_747 rfl rfl rfl ?_
  refine av_iload dL_law_748 rfl ?_
  refine av_iconst (v := nI 2) dL_law_750 (by decide) ?_
  refine av_iaddN dL_law_751 ?_
  refine av_sldN dL_law_752 (by omega) hnb ?_
  refine av_invV (c := 12) (n := 2) (As := [_, _]) dL_law_753 cb_X11_truth cv_L_80.1 cv_L_80.2.1 cv_L_80.2.2 rfl (by decide) rfl ⟨Nat.le_of_ble_eq_true rfl, Nat.le_of_ble_eq_true rfl⟩ (Nat.le_of_ble_eq_true rfl) rfl (I.call (p := mTruth M _ _) (fun Q h => c_truth I.2.2.1.1 I.2.2.1.2 (rd_post (p := mTruth M _ _) I.2.2.1 rd_mTruth h)) (fun S1 mc ms n1 b1 b2 => ?_))
  refine av_aload_n (i := 2) dL_law_756 rfl rfl rfl ?_
  refine av_aload_n (i := 0) dL_law_757 rfl rfl rfl ?_
  refine av_iload dL_law_758 rfl ?_
  refine av_iconst (v := 1) dL_law_760 (by decide) ?_
  refine av_iadd1 dL_law_761 ?_
  refine av_sldN dL_law_762 (by omega) hnb ?_
  refine av_aload_n (i := 0) dL_law_763 rfl rfl rfl ?_
  refine av_iload dL_law_764 rfl ?_
  refine av_iconst (v := nI 2) dL_law_766 (by decide) ?_
  refine av_iaddN dL_law_767 ?_
  refine av_sldN dL_law_768 (by omega) hnb ?_
  refine av_sE (par_e n1.1) ?_
  refine av_invV (c := 13) (n := 2) (As := [_, _]) dL_law_769 cb_X12_truth cv_L_84.1 cv_L_84.2.1 cv_L_84.2.2 rfl (by decide) rfl ⟨Nat.le_of_ble_eq_true rfl, Nat.le_of_ble_eq_true rfl⟩ (Nat.le_of_ble_eq_true rfl) rfl (t_truth n1.2.1 I.2.2.1.1.mI _ _ ?_)
  refine av_icmp_eq (tgt := 1485) dL_law_772 (by decide) (fun c_772 => ?_) (fun c_772 => ?_)
  · exact k _ _ _ _ (lwS.put n1.2.1 n1.2.2.1 n1.2.2.2.1) n1.2.2.2.2 (by omega) (by omega)
  · exact absurd rfl c_772
set_option maxHeartbeats 400000 in
set_option maxRecDepth 100000 in
theorem lc_13 {E : awE} {S : awS} {M : aM} {j kc ks : Nat} {Q : Option Value → awS → Nat → Nat → Prop} (I : lwS S M) (hj : 7 * j + 7 ≤ awE_n E) (hnb : awE_n E < 2 ^ 31) (k : lwK E M j kc ks Q) : awV true E m_law 777 (lwL j) [] S kc ks Q := by
  refine av_aload_n (i := 1) dL_law_777 rfl rfl rfl ?_
  refine av_aload_n (i := 0) dL_law_778 rfl rfl rfl ?_
  refine av_iload dL_law_779 rfl ?_
  refine av_iconst (v := 1) dL_law_781 (by decide) ?_
  refine av_iadd1 dL_law_782 ?_
  refine av_sldN dL_law_783 (by omega) hnb ?_
  refine av_aload_n (i := 0) dL_law_784 rfl rfl rfl ?_
  refine av_iload dL_law_785 rfl ?_
  refine av_iconst (v := nI 2) dL_law_787 (by decide) ?_
  refine av_iaddN dL_law_788 ?_
  refine av_sldN dL_law_789 (by omega) hnb ?_
  refine av_aload_n (i := 0) dL_law_790 rfl rfl rfl ?_
  refine av_iload dL_law_791 rfl ?_
  refine av_iconst (v := nI 3) dL_law_793 (by decide) ?_
  refine av_iaddN dL_law_794 ?_
  refine av_sldN dL_law_795 (by omega) hnb ?_
  refine av_invV (c := 12) (n := 3) (As := [_, _, _]) dL_law_796 cb_X11_counts cv_L_85.1 cv_L_85.2.1 cv_L_85.2.2 rfl (by decide) rfl ⟨Nat.le_of_ble_eq_true rfl, Nat.le_of_ble_eq_true rfl⟩ (Nat.le_of_ble_eq_true rfl) rfl (I.call (p := mCounts M _ _ _) (fun Q h => c_counts I.2.2.1.1 I.2.2.1.2 (rd_post (p := mCounts M _ _ _) I.2.2.1 rd_mCounts h)) (fun S1 mc ms n1 b1 b2 => ?_))
  refine av_aload_n (i := 2) dL_law_799 rfl rfl rfl ?_
  refine av_aload_n (i := 0) dL_law_800 rfl rfl rfl ?_
  refine av_iload dL_law_801 rfl ?_
  refine av_iconst (v := 1) dL_law_803 (by decide) ?_
  refine av_iadd1 dL_law_804 ?_
  refine av_sldN dL_law_805 (by omega) hnb ?_
  refine av_aload_n (i := 0) dL_law_806 rfl rfl rfl ?_
  refine av_iload dL_law_807 rfl ?_
  refine av_iconst (v := nI 2) dL_law_809 (by decide) ?_
  refine av_iaddN dL_law_810 ?_
  refine av_sldN dL_law_811 (by omega) hnb ?_
  refine av_aload_n (i := 0) dL_law_812 rfl rfl rfl ?_
  refine av_iload dL_law_813 rfl ?_
  refine av_iconst (v := nI 3) dL_law_815 (by decide) ?_
  refine av_iaddN dL_law_816 ?_
  refine av_sldN dL_law_817 (by omega) hnb ?_
  refine av_sE (par_e n1.1) ?_
  refine av_invV (c := 13) (n := 3) (As := [_, _, _]) dL_law_818 cb_X12_counts cv_L_88.1 cv_L_88.2.1 cv_L_88.2.2 rfl (by decide) rfl ⟨Nat.le_of_ble_eq_true rfl, Nat.le_of_ble_eq_true rfl⟩ (Nat.le_of_ble_eq_true rfl) rfl (t_counts n1.2.1 I.2.2.1.1.mI _ _ _ ?_)
  refine av_icmp_eq (tgt := 1485) dL_law_821 (by decide) (fun c_821 => ?_) (fun c_821 => ?_)
  · exact k _ _ _ _ (lwS.put n1.2.1 n1.2.2.1 n1.2.2.2.1) n1.2.2.2.2 (by omega) (by omega)
  · exact absurd rfl c_821
set_option maxHeartbeats 400000 in
set_option maxRecDepth 100000 in
theorem lc_14 {E : awE} {S : awS} {M : aM} {j kc ks : Nat} {Q : Option Value → awS → Nat → Nat → Prop} (I : lwS S M) (hj : 7 * j + 7 ≤ awE_n E) (hnb : awE_n E < 2 ^ 31) (k : lwK E M j kc ks Q) : awV true E m_law 826 (lwL j) [] S kc ks Q := by
  refine av_aload_n (i := 1) dL_law_826 rfl rfl rfl ?_
  refine av_aload_n (i := 0) dL_law_827 rfl rfl rfl ?_
  refine av_iload dL_law_828 rfl ?_
  refine av_iconst (v := 1) dL_law_830 (by decide) ?_
  refine av_iadd1 dL_law_831 ?_
  refine av_sldN dL_law_832 (by omega) hnb ?_
  refine av_aload_n (i := 0) dL_law_833 rfl rfl rfl ?_
  refine av_iload dL_law_834 rfl ?_
  refine av_iconst (v := nI 2) dL_law_836 (by decide) ?_
  refine av_iaddN dL_law_837 ?_
  refine av_sldN dL_law_838 (by omega) hnb ?_
  refine av_invV (c := 12) (n := 2) (As := [_, _]) dL_law_839 cb_X11_alarm cv_L_89.1 cv_L_89.2.1 cv_L_89.2.2 rfl (by decide) rfl ⟨Nat.le_of_ble_eq_true rfl, Nat.le_of_ble_eq_true rfl⟩ (Nat.le_of_ble_eq_true rfl) rfl (I.call (p := mAlarm M _ _) (fun Q h => c_alarm I.2.2.1.1 I.2.2.1.2 (rd_post (p := mAlarm M _ _) I.2.2.1 rd_mAlarm h)) (fun S1 mc ms n1 b1 b2 => ?_))
  refine av_aload_n (i := 2) dL_law_842 rfl rfl rfl ?_
  refine av_aload_n (i := 0) dL_law_843 rfl rfl rfl ?_
  refine av_iload dL_law_844 rfl ?_
  refine av_iconst (v := 1) dL_law_846 (by decide) ?_
  refine av_iadd1 dL_law_847 ?_
  refine av_sldN dL_law_848 (by omega) hnb ?_
  refine av_aload_n (i := 0) dL_law_849 rfl rfl rfl ?_
  refine av_iload dL_law_850 rfl ?_
  refine av_iconst (v := nI 2) dL_law_852 (by decide) ?_
  refine av_iaddN dL_law_853 ?_
  refine av_sldN dL_law_854 (by omega) hnb ?_
  refine av_sE (par_e n1.1) ?_
  refine av_invV (c := 13) (n := 2) (As := [_, _]) dL_law_855 cb_X12_alarm cv_L_92.1 cv_L_92.2.1 cv_L_92.2.2 rfl (by decide) rfl ⟨Nat.le_of_ble_eq_true rfl, Nat.le_of_ble_eq_true rfl⟩ (Nat.le_of_ble_eq_true rfl) rfl (t_alarm n1.2.1 I.2.2.1.1.mI _ _ ?_)
  refine av_icmp_eq (tgt := 1485) dL_law_858 (by decide) (fun c_858 => ?_) (fun c_858 => ?_)
  · exact k _ _ _ _ (lwS.put n1.2.1 n1.2.2.1 n1.2.2.2.1) n1.2.2.2.2 (by omega) (by omega)
  · exact absurd rfl c_858
set_option maxHeartbeats 400000 in
set_option maxRecDepth 100000 in
theorem lc_15 {E : awE} {S : awS} {M : aM} {j kc ks : Nat} {Q : Option Value → awS → Nat → Nat → Prop} (I : lwS S M) (hj : 7 * j + 7 ≤ awE_n E) (hnb : awE_n E < 2 ^ 31) (k : lwK E M j kc ks Q) : awV true E m_law 863 (lwL j) [] S kc ks Q := by
  refine av_aload_n (i := 1) dL_law_863 rfl rfl rfl ?_
  refine av_aload_n (i := 0) dL_law_864 rfl rfl rfl ?_
  refine av_iload dL_law_865 rfl ?_
  refine av_iconst (v := 1) dL_law_867 (by decide) ?_
  refine av_iadd1 dL_law_868 ?_
  refine av_sldN dL_law_869 (by omega) hnb ?_
  refine av_aload_n (i := 0) dL_law_870 rfl rfl rfl ?_
  refine av_iload dL_law_871 rfl ?_
  refine av_iconst (v := nI 2) dL_law_873 (by decide) ?_
  refine av_iaddN dL_law_874 ?_
  refine av_sldN dL_law_875 (by omega) hnb ?_
  refine av_invV (c := 12) (n := 2) (As := [_, _]) dL_law_876 cb_X11_letter cv_L_93.1 cv_L_93.2.1 cv_L_93.2.2 rfl (by decide) rfl ⟨Nat.le_of_ble_eq_true rfl, Nat.le_of_ble_eq_true rfl⟩ (Nat.le_of_ble_eq_true rfl) rfl (I.call (p := mLetter M _ _) (fun Q h => c_letter I.2.2.1.1 I.2.2.1.2 (rd_post (p := mLetter M _ _) I.2.2.1 rd_mLetter h)) (fun S1 mc ms n1 b1 b2 => ?_))
  refine av_aload_n (i := 2) dL_law_879 rfl rfl rfl ?_
  refine av_aload_n (i := 0) dL_law_880 rfl rfl rfl ?_
  refine av_iload dL_law_881 rfl ?_
  refine av_iconst (v := 1) dL_law_883 (by decide) ?_
  refine av_iadd1 dL_law_884 ?_
  refine av_sldN dL_law_885 (by omega) hnb ?_
  refine av_aload_n (i := 0) dL_law_886 rfl rfl rfl ?_
  refine av_iload dL_law_887 rfl ?_
  refine av_iconst (v := nI 2) dL_law_889 (by decide) ?_
  refine av_iaddN dL_law_890 ?_
  refine av_sldN dL_law_891 (by omega) hnb ?_
  refine av_sE (par_e n1.1) ?_
  refine av_invV (c := 13) (n := 2) (As := [_, _]) dL_law_892 cb_X12_letter cv_L_96.1 cv_L_96.2.1 cv_L_96.2.2 rfl (by decide) rfl ⟨Nat.le_of_ble_eq_true rfl, Nat.le_of_ble_eq_true rfl⟩ (Nat.le_of_ble_eq_true rfl) rfl (t_letter n1.2.1 I.2.2.1.1.mI _ _ ?_)
  refine av_icmp_eq (tgt := 1485) dL_law_895 (by decide) (fun c_895 => ?_) (fun c_895 => ?_)
  · exact k _ _ _ _ (lwS.put n1.2.1 n1.2.2.1 n1.2.2.2.1) n1.2.2.2.2 (by omega) (by omega)
  · exact absurd rfl c_895
set_option maxHeartbeats 400000 in
set_option maxRecDepth 100000 in
theorem lc_16 {E : awE} {S : awS} {M : aM} {j kc ks : Nat} {Q : Option Value → awS → Nat → Nat → Prop} (I : lwS S M) (hj : 7 * j + 7 ≤ awE_n E) (hnb : awE_n E < 2 ^ 31) (k : lwK E M j kc ks Q) : awV true E m_law 900 (lwL j) [] S kc ks Q := by
  refine av_aload_n (i := 1) dL_law_900 rfl rfl rfl ?_
  refine av_aload_n (i := 0) dL_law_901 rfl rfl rfl ?_
  refine av_iload dL_law_902 rfl ?_
  refine av_iconst (v := 1) dL_law_904 (by decide) ?_
  refine av_iadd1 dL_law_905 ?_
  refine av_sldN dL_law_906 (by omega) hnb ?_
  refine av_aload_n (i := 0) dL_law_907 rfl rfl rfl ?_
  refine av_iload dL_law_908 rfl ?_
  refine av_iconst (v := nI 2) dL_law_910 (by decide) ?_
  refine av_iaddN dL_law_911 ?_
  refine av_sldN dL_law_912 (by omega) hnb ?_
  refine av_invV (c := 12) (n := 2) (As := [_, _]) dL_law_913 cb_X11_holds cv_L_97.1 cv_L_97.2.1 cv_L_97.2.2 rfl (by decide) rfl ⟨Nat.le_of_ble_eq_true rfl, Nat.le_of_ble_eq_true rfl⟩ (Nat.le_of_ble_eq_true rfl) rfl (I.call (p := mHolds M _ _) (fun Q h => c_holds I.2.2.1.1 I.2.2.1.2 (rd_post (p := mHolds M _ _) I.2.2.1 rd_mHolds h)) (fun S1 mc ms n1 b1 b2 => ?_))
  refine av_aload_n (i := 2) dL_law_916 rfl rfl rfl ?_
  refine av_aload_n (i := 0) dL_law_917 rfl rfl rfl ?_
  refine av_iload dL_law_918 rfl ?_
  refine av_iconst (v := 1) dL_law_920 (by decide) ?_
  refine av_iadd1 dL_law_921 ?_
  refine av_sldN dL_law_922 (by omega) hnb ?_
  refine av_aload_n (i := 0) dL_law_923 rfl rfl rfl ?_
  refine av_iload dL_law_924 rfl ?_
  refine av_iconst (v := nI 2) dL_law_926 (by decide) ?_
  refine av_iaddN dL_law_927 ?_
  refine av_sldN dL_law_928 (by omega) hnb ?_
  refine av_sE (par_e n1.1) ?_
  refine av_invV (c := 13) (n := 2) (As := [_, _]) dL_law_929 cb_X12_holds cv_L_100.1 cv_L_100.2.1 cv_L_100.2.2 rfl (by decide) rfl ⟨Nat.le_of_ble_eq_true rfl, Nat.le_of_ble_eq_true rfl⟩ (Nat.le_of_ble_eq_true rfl) rfl (t_holds n1.2.1 I.2.2.1.1.mI _ _ ?_)
  refine av_icmp_eq (tgt := 1485) dL_law_932 (by decide) (fun c_932 => ?_) (fun c_932 => ?_)
  · exact k _ _ _ _ (lwS.put n1.2.1 n1.2.2.1 n1.2.2.2.1) n1.2.2.2.2 (by omega) (by omega)
  · exact absurd rfl c_932
set_option maxHeartbeats 400000 in
set_option maxRecDepth 100000 in
theorem lc_17 {E : awE} {S : awS} {M : aM} {j kc ks : Nat} {Q : Option Value → awS → Nat → Nat → Prop} (I : lwS S M) (hj : 7 * j + 7 ≤ awE_n E) (hnb : awE_n E < 2 ^ 31) (k : lwK E M j kc ks Q) : awV true E m_law 937 (lwL j) [] S kc ks Q := by
  refine av_aload_n (i := 1) dL_law_937 rfl rfl rfl ?_
  refine av_aload_n (i := 0) dL_law_938 rfl rfl rfl ?_
  refine av_iload dL_law_939 rfl ?_
  refine av_iconst (v := 1) dL_law_941 (by decide) ?_
  refine av_iadd1 dL_law_942 ?_
  refine av_sldN dL_law_943 (by omega) hnb ?_
  refine av_invV (c := 12) (n := 1) (As := [_]) dL_law_944 cb_X11_why cv_L_101.1 cv_L_101.2.1 cv_L_101.2.2 rfl (by decide) rfl ⟨Nat.le_of_ble_eq_true rfl, Nat.le_of_ble_eq_true rfl⟩ (Nat.le_of_ble_eq_true rfl) rfl (I.call (p := mWhy M _) (fun Q h => c_why I.2.2.1.1 I.2.2.1.2 (rd_post (p := mWhy M _) I.2.2.1 rd_mWhy h)) (fun S1 mc ms n1 b1 b2 => ?_))
  refine av_aload_n (i := 2) dL_law_947 rfl rfl rfl ?_
  refine av_aload_n (i := 0) dL_law_948 rfl rfl rfl ?_
  refine av_iload dL_law_949 rfl ?_
  refine av_iconst (v := 1) dL_law_951 (by decide) ?_
  refine av_iadd1 dL_law_952 ?_
  refine av_sldN dL_law_953 (by omega) hnb ?_
  refine av_sE (par_e n1.1) ?_
  refine av_invV (c := 13) (n := 1) (As := [_]) dL_law_954 cb_X12_why cv_L_104.1 cv_L_104.2.1 cv_L_104.2.2 rfl (by decide) rfl ⟨Nat.le_of_ble_eq_true rfl, Nat.le_of_ble_eq_true rfl⟩ (Nat.le_of_ble_eq_true rfl) rfl (t_why n1.2.1 I.2.2.1.1.mI _ ?_)
  refine av_icmp_eq (tgt := 1485) dL_law_957 (by decide) (fun c_957 => ?_) (fun c_957 => ?_)
  · exact k _ _ _ _ (lwS.put n1.2.1 n1.2.2.1 n1.2.2.2.1) n1.2.2.2.2 (by omega) (by omega)
  · exact absurd rfl c_957
set_option maxHeartbeats 400000 in
set_option maxRecDepth 100000 in
theorem lc_18 {E : awE} {S : awS} {M : aM} {j kc ks : Nat} {Q : Option Value → awS → Nat → Nat → Prop} (I : lwS S M) (hj : 7 * j + 7 ≤ awE_n E) (hnb : awE_n E < 2 ^ 31) (k : lwK E M j kc ks Q) : awV true E m_law 962 (lwL j) [] S kc ks Q := by
  refine av_aload_n (i := 1) dL_law_962 rfl rfl rfl ?_
  refine av_aload_n (i := 0) dL_law_963 rfl rfl rfl ?_
  refine av_iload dL_law_964 rfl ?_
  refine av_iconst (v := 1) dL_law_966 (by decide) ?_
  refine av_iadd1 dL_law_967 ?_
  refine av_sldN dL_law_968 (by omega) hnb ?_
  refine av_aload_n (i := 0) dL_law_969 rfl rfl rfl ?_
  refine av_iload dL_law_970 rfl ?_
  refine av_iconst (v := nI 2) dL_law_972 (by decide) ?_
  refine av_iaddN dL_law_973 ?_
  refine av_sldN dL_law_974 (by omega) hnb ?_
  refine av_invV (c := 12) (n := 2) (As := [_, _]) dL_law_975 cb_X11_whyNot cv_L_105.1 cv_L_105.2.1 cv_L_105.2.2 rfl (by decide) rfl ⟨Nat.le_of_ble_eq_true rfl, Nat.le_of_ble_eq_true rfl⟩ (Nat.le_of_ble_eq_true rfl) rfl (I.call (p := mWhyNot M _ _) (fun Q h => c_whyNot I.2.2.1.1 I.2.2.1.2 (rd_post (p := mWhyNot M _ _) I.2.2.1 rd_mWhyNot h)) (fun S1 mc ms n1 b1 b2 => ?_))
  refine av_aload_n (i := 2) dL_law_978 rfl rfl rfl ?_
  refine av_aload_n (i := 0) dL_law_979 rfl rfl rfl ?_
  refine av_iload dL_law_980 rfl ?_
  refine av_iconst (v := 1) dL_law_982 (by decide) ?_
  refine av_iadd1 dL_law_983 ?_
  refine av_sldN dL_law_984 (by omega) hnb ?_
  refine av_aload_n (i := 0) dL_law_985 rfl rfl rfl ?_
  refine av_iload dL_law_986 rfl ?_
  refine av_iconst (v := nI 2) dL_law_988 (by decide) ?_
  refine av_iaddN dL_law_989 ?_
  refine av_sldN dL_law_990 (by omega) hnb ?_
  refine av_sE (par_e n1.1) ?_
  refine av_invV (c := 13) (n := 2) (As := [_, _]) dL_law_991 cb_X12_whyNot cv_L_108.1 cv_L_108.2.1 cv_L_108.2.2 rfl (by decide) rfl ⟨Nat.le_of_ble_eq_true rfl, Nat.le_of_ble_eq_true rfl⟩ (Nat.le_of_ble_eq_true rfl) rfl (t_whyNot n1.2.1 I.2.2.1.1.mI _ _ ?_)
  refine av_icmp_eq (tgt := 1485) dL_law_994 (by decide) (fun c_994 => ?_) (fun c_994 => ?_)
  · exact k _ _ _ _ (lwS.put n1.2.1 n1.2.2.1 n1.2.2.2.1) n1.2.2.2.2 (by omega) (by omega)
  · exact absurd rfl c_994
set_option maxHeartbeats 400000 in
set_option maxRecDepth 100000 in
theorem lc_19 {E : awE} {S : awS} {M : aM} {j kc ks : Nat} {Q : Option Value → awS → Nat → Nat → Prop} (I : lwS S M) (hj : 7 * j + 7 ≤ awE_n E) (hnb : awE_n E < 2 ^ 31) (k : lwK E M j kc ks Q) : awV true E m_law 999 (lwL j) [] S kc ks Q := by
  refine av_aload_n (i := 1) dL_law_999 rfl rfl rfl ?_
  refine av_aload_n (i := 0) dL_law_1000 rfl rfl rfl ?_
  refine av_iload dL_law_1001 rfl ?_
  refine av_iconst (v := 1) dL_law_1003 (by decide) ?_
  refine av_iadd1 dL_law_1004 ?_
  refine av_sldN dL_law_1005 (by omega) hnb ?_
  refine av_aload_n (i := 0) dL_law_1006 rfl rfl rfl ?_
  refine av_iload dL_law_1007 rfl ?_
  refine av_iconst (v := nI 2) dL_law_1009 (by decide) ?_
  refine av_iaddN dL_law_1010 ?_
  refine av_sldN dL_law_1011 (by omega) hnb ?_
  refine av_invV (c := 12) (n := 2) (As := [_, _]) dL_law_1012 cb_X11_awake cv_L_109.1 cv_L_109.2.1 cv_L_109.2.2 rfl (by decide) rfl ⟨Nat.le_of_ble_eq_true rfl, Nat.le_of_ble_eq_true rfl⟩ (Nat.le_of_ble_eq_true rfl) rfl (I.call (fun Q h => c_awake I.2.2.1 h) (fun S1 mc ms n1 b1 b2 => ?_))
  refine av_aload_n (i := 2) dL_law_1015 rfl rfl rfl ?_
  refine av_aload_n (i := 0) dL_law_1016 rfl rfl rfl ?_
  refine av_iload dL_law_1017 rfl ?_
  refine av_iconst (v := 1) dL_law_1019 (by decide) ?_
  refine av_iadd1 dL_law_1020 ?_
  refine av_sldN dL_law_1021 (by omega) hnb ?_
  refine av_aload_n (i := 0) dL_law_1022 rfl rfl rfl ?_
  refine av_iload dL_law_1023 rfl ?_
  refine av_iconst (v := nI 2) dL_law_1025 (by decide) ?_
  refine av_iaddN dL_law_1026 ?_
  refine av_sldN dL_law_1027 (by omega) hnb ?_
  refine av_sE (par_e n1.1) ?_
  refine av_invV (c := 13) (n := 2) (As := [_, _]) dL_law_1028 cb_X12_awake cv_L_112.1 cv_L_112.2.1 cv_L_112.2.2 rfl (by decide) rfl ⟨Nat.le_of_ble_eq_true rfl, Nat.le_of_ble_eq_true rfl⟩ (Nat.le_of_ble_eq_true rfl) rfl (t_awake n1.2.1 I.2.2.1.1.mI _ _ ?_)
  refine av_icmp_eq (tgt := 1485) dL_law_1031 (by decide) (fun c_1031 => ?_) (fun c_1031 => ?_)
  · exact k _ _ _ _ (lwS.put n1.2.1 n1.2.2.1 n1.2.2.2.1) n1.2.2.2.2 (by omega) (by omega)
  · exact absurd rfl c_1031
