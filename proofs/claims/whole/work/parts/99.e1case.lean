/-! the law's cases -/
/-- start -/
theorem lc_13 {K : LK} (C : LCx K) {σ : St} (hR : Rel σ) {i : Nat} (hi : i + 6 ≤ K.L) (kk : ∀ σ', Rel σ' → LW K σ' 1838 (lvL K i) []) : LW K σ 691 (lvL K i) [] := by
  obtain ⟨Rz1, hM1, h1⟩ := p_start hR 
  refine lw_aload C 2 dL_law_691 rfl ?_
  refine lw_call C (b := 0) (ci := 8) [] (rest := []) hM1 lk_L_70 rfl rfl (by decide) rfl (by show (0 : Nat) ≤ 8; decide) rfl dL_law_692 rfl (fun v σ1 hq => ?_)
  obtain ⟨⟨x, rfl⟩, Rz2, hM2, h2⟩ := h1 v σ1 hq
  refine lw_aload C 3 dL_law_695 rfl ?_
  refine lw_call C (b := 73) (ci := 9) [] (rest := [.int x]) hM2 lk_L_73 rfl rfl (by decide) rfl (by show (1 : Nat) ≤ 8; decide) rfl dL_law_696 rfl (fun w σ2 hq2 => ?_)
  obtain ⟨rfl, hR2⟩ := h2 w σ2 hq2
  exact lw_eqI C 1838 dL_law_699 (by decide) (kk σ2 hR2)
/-- ahead -/
theorem lc_14 {K : LK} (C : LCx K) {σ : St} (hR : Rel σ) {i : Nat} (hi : i + 6 ≤ K.L) (kk : ∀ σ', Rel σ' → LW K σ' 1838 (lvL K i) []) : LW K σ 704 (lvL K i) [] := by
  obtain ⟨Rz1, hM1, h1⟩ := p_ahead hR (K.xs (i + 1)) (K.xs (i + 2))
  refine lw_aload C 2 dL_law_704 rfl ?_
  refine lw_arg C 1 (by decide) (by omega) dL_law_705 dL_law_706 dL_law_707 dL_law_708 dL_law_709 ?_
  refine lw_arg C 2 (by decide) (by omega) dL_law_710 dL_law_711 dL_law_712 dL_law_713 dL_law_714 ?_
  refine lw_call C (b := 0) (ci := 8) [K.xs (i + 1), K.xs (i + 2)] (rest := []) hM1 lk_L_74 rfl rfl (by decide) rfl (by show (0 : Nat) ≤ 8; decide) rfl dL_law_715 rfl (fun v σ1 hq => ?_)
  obtain ⟨⟨x, rfl⟩, Rz2, hM2, h2⟩ := h1 v σ1 hq
  refine lw_aload C 3 dL_law_718 rfl ?_
  refine lw_arg C 1 (by decide) (by omega) dL_law_719 dL_law_720 dL_law_721 dL_law_722 dL_law_723 ?_
  refine lw_arg C 2 (by decide) (by omega) dL_law_724 dL_law_725 dL_law_726 dL_law_727 dL_law_728 ?_
  refine lw_call C (b := 73) (ci := 9) [K.xs (i + 1), K.xs (i + 2)] (rest := [.int x]) hM2 lk_L_77 rfl rfl (by decide) rfl (by show (1 : Nat) ≤ 8; decide) rfl dL_law_729 rfl (fun w σ2 hq2 => ?_)
  obtain ⟨rfl, hR2⟩ := h2 w σ2 hq2
  exact lw_eqI C 1838 dL_law_732 (by decide) (kk σ2 hR2)
/-- winner -/
theorem lc_15 {K : LK} (C : LCx K) {σ : St} (hR : Rel σ) {i : Nat} (hi : i + 6 ≤ K.L) (kk : ∀ σ', Rel σ' → LW K σ' 1838 (lvL K i) []) : LW K σ 737 (lvL K i) [] := by
  obtain ⟨Rz1, hM1, h1⟩ := p_winner hR 
  refine lw_aload C 2 dL_law_737 rfl ?_
  refine lw_call C (b := 0) (ci := 8) [] (rest := []) hM1 lk_L_78 rfl rfl (by decide) rfl (by show (0 : Nat) ≤ 8; decide) rfl dL_law_738 rfl (fun v σ1 hq => ?_)
  obtain ⟨⟨x, rfl⟩, Rz2, hM2, h2⟩ := h1 v σ1 hq
  refine lw_aload C 3 dL_law_741 rfl ?_
  refine lw_call C (b := 73) (ci := 9) [] (rest := [.int x]) hM2 lk_L_81 rfl rfl (by decide) rfl (by show (1 : Nat) ≤ 8; decide) rfl dL_law_742 rfl (fun w σ2 hq2 => ?_)
  obtain ⟨rfl, hR2⟩ := h2 w σ2 hq2
  exact lw_eqI C 1838 dL_law_745 (by decide) (kk σ2 hR2)
/-- place -/
theorem lc_16 {K : LK} (C : LCx K) {σ : St} (hR : Rel σ) {i : Nat} (hi : i + 6 ≤ K.L) (kk : ∀ σ', Rel σ' → LW K σ' 1838 (lvL K i) []) : LW K σ 750 (lvL K i) [] := by
  obtain ⟨Rz1, hM1, h1⟩ := p_place hR (K.xs (i + 1))
  refine lw_aload C 2 dL_law_750 rfl ?_
  refine lw_arg C 1 (by decide) (by omega) dL_law_751 dL_law_752 dL_law_753 dL_law_754 dL_law_755 ?_
  refine lw_call C (b := 0) (ci := 8) [K.xs (i + 1)] (rest := []) hM1 lk_L_82 rfl rfl (by decide) rfl (by show (0 : Nat) ≤ 8; decide) rfl dL_law_756 rfl (fun v σ1 hq => ?_)
  obtain ⟨⟨x, rfl⟩, Rz2, hM2, h2⟩ := h1 v σ1 hq
  refine lw_aload C 3 dL_law_759 rfl ?_
  refine lw_arg C 1 (by decide) (by omega) dL_law_760 dL_law_761 dL_law_762 dL_law_763 dL_law_764 ?_
  refine lw_call C (b := 73) (ci := 9) [K.xs (i + 1)] (rest := [.int x]) hM2 lk_L_85 rfl rfl (by decide) rfl (by show (1 : Nat) ≤ 8; decide) rfl dL_law_765 rfl (fun w σ2 hq2 => ?_)
  obtain ⟨rfl, hR2⟩ := h2 w σ2 hq2
  exact lw_eqI C 1838 dL_law_768 (by decide) (kk σ2 hR2)
/-- wins -/
theorem lc_17 {K : LK} (C : LCx K) {σ : St} (hR : Rel σ) {i : Nat} (hi : i + 6 ≤ K.L) (kk : ∀ σ', Rel σ' → LW K σ' 1838 (lvL K i) []) : LW K σ 773 (lvL K i) [] := by
  obtain ⟨Rz1, hM1, h1⟩ := p_wins hR (K.xs (i + 1)) (K.xs (i + 2))
  refine lw_aload C 2 dL_law_773 rfl ?_
  refine lw_arg C 1 (by decide) (by omega) dL_law_774 dL_law_775 dL_law_776 dL_law_777 dL_law_778 ?_
  refine lw_arg C 2 (by decide) (by omega) dL_law_779 dL_law_780 dL_law_781 dL_law_782 dL_law_783 ?_
  refine lw_call C (b := 0) (ci := 8) [K.xs (i + 1), K.xs (i + 2)] (rest := []) hM1 lk_L_86 rfl rfl (by decide) rfl (by show (0 : Nat) ≤ 8; decide) rfl dL_law_784 rfl (fun v σ1 hq => ?_)
  obtain ⟨⟨x, rfl⟩, Rz2, hM2, h2⟩ := h1 v σ1 hq
  refine lw_aload C 3 dL_law_787 rfl ?_
  refine lw_arg C 1 (by decide) (by omega) dL_law_788 dL_law_789 dL_law_790 dL_law_791 dL_law_792 ?_
  refine lw_arg C 2 (by decide) (by omega) dL_law_793 dL_law_794 dL_law_795 dL_law_796 dL_law_797 ?_
  refine lw_call C (b := 73) (ci := 9) [K.xs (i + 1), K.xs (i + 2)] (rest := [.int x]) hM2 lk_L_89 rfl rfl (by decide) rfl (by show (1 : Nat) ≤ 8; decide) rfl dL_law_798 rfl (fun w σ2 hq2 => ?_)
  obtain ⟨rfl, hR2⟩ := h2 w σ2 hq2
  exact lw_eqI C 1838 dL_law_801 (by decide) (kk σ2 hR2)
/-- clean -/
theorem lc_18 {K : LK} (C : LCx K) {σ : St} (hR : Rel σ) {i : Nat} (hi : i + 6 ≤ K.L) (kk : ∀ σ', Rel σ' → LW K σ' 1838 (lvL K i) []) : LW K σ 806 (lvL K i) [] := by
  obtain ⟨Rz1, hM1, h1⟩ := p_clean hR (K.xs (i + 1)) (K.xs (i + 2)) (K.xs (i + 3))
  refine lw_aload C 2 dL_law_806 rfl ?_
  refine lw_arg C 1 (by decide) (by omega) dL_law_807 dL_law_808 dL_law_809 dL_law_810 dL_law_811 ?_
  refine lw_arg C 2 (by decide) (by omega) dL_law_812 dL_law_813 dL_law_814 dL_law_815 dL_law_816 ?_
  refine lw_arg C 3 (by decide) (by omega) dL_law_817 dL_law_818 dL_law_819 dL_law_820 dL_law_821 ?_
  refine lw_call C (b := 0) (ci := 8) [K.xs (i + 1), K.xs (i + 2), K.xs (i + 3)] (rest := []) hM1 lk_L_90 rfl rfl (by decide) rfl (by show (0 : Nat) ≤ 8; decide) rfl dL_law_822 rfl (fun v σ1 hq => ?_)
  obtain ⟨⟨x, rfl⟩, Rz2, hM2, h2⟩ := h1 v σ1 hq
  refine lw_aload C 3 dL_law_825 rfl ?_
  refine lw_arg C 1 (by decide) (by omega) dL_law_826 dL_law_827 dL_law_828 dL_law_829 dL_law_830 ?_
  refine lw_arg C 2 (by decide) (by omega) dL_law_831 dL_law_832 dL_law_833 dL_law_834 dL_law_835 ?_
  refine lw_arg C 3 (by decide) (by omega) dL_law_836 dL_law_837 dL_law_838 dL_law_839 dL_law_840 ?_
  refine lw_call C (b := 73) (ci := 9) [K.xs (i + 1), K.xs (i + 2), K.xs (i + 3)] (rest := [.long x]) hM2 lk_L_94 rfl rfl (by decide) rfl (by show (2 : Nat) ≤ 8; decide) rfl dL_law_841 rfl (fun w σ2 hq2 => ?_)
  obtain ⟨rfl, hR2⟩ := h2 w σ2 hq2
  exact lw_eqL C 1838 dL_law_844 dL_law_845 (by decide) (kk σ2 hR2)
/-- drops -/
theorem lc_19 {K : LK} (C : LCx K) {σ : St} (hR : Rel σ) {i : Nat} (hi : i + 6 ≤ K.L) (kk : ∀ σ', Rel σ' → LW K σ' 1838 (lvL K i) []) : LW K σ 850 (lvL K i) [] := by
  obtain ⟨Rz1, hM1, h1⟩ := p_drops hR (K.xs (i + 1)) (K.xs (i + 2)) (K.xs (i + 3)) (K.xs (i + 4))
  refine lw_aload C 2 dL_law_850 rfl ?_
  refine lw_arg C 1 (by decide) (by omega) dL_law_851 dL_law_852 dL_law_853 dL_law_854 dL_law_855 ?_
  refine lw_arg C 2 (by decide) (by omega) dL_law_856 dL_law_857 dL_law_858 dL_law_859 dL_law_860 ?_
  refine lw_arg C 3 (by decide) (by omega) dL_law_861 dL_law_862 dL_law_863 dL_law_864 dL_law_865 ?_
  refine lw_arg C 4 (by decide) (by omega) dL_law_866 dL_law_867 dL_law_868 dL_law_869 dL_law_870 ?_
  refine lw_call C (b := 0) (ci := 8) [K.xs (i + 1), K.xs (i + 2), K.xs (i + 3), K.xs (i + 4)] (rest := []) hM1 lk_L_95 rfl rfl (by decide) rfl (by show (0 : Nat) ≤ 8; decide) rfl dL_law_871 rfl (fun v σ1 hq => ?_)
  obtain ⟨⟨x, rfl⟩, Rz2, hM2, h2⟩ := h1 v σ1 hq
  refine lw_aload C 3 dL_law_874 rfl ?_
  refine lw_arg C 1 (by decide) (by omega) dL_law_875 dL_law_876 dL_law_877 dL_law_878 dL_law_879 ?_
  refine lw_arg C 2 (by decide) (by omega) dL_law_880 dL_law_881 dL_law_882 dL_law_883 dL_law_884 ?_
  refine lw_arg C 3 (by decide) (by omega) dL_law_885 dL_law_886 dL_law_887 dL_law_888 dL_law_889 ?_
  refine lw_arg C 4 (by decide) (by omega) dL_law_890 dL_law_891 dL_law_892 dL_law_893 dL_law_894 ?_
  refine lw_call C (b := 73) (ci := 9) [K.xs (i + 1), K.xs (i + 2), K.xs (i + 3), K.xs (i + 4)] (rest := [.long x]) hM2 lk_L_99 rfl rfl (by decide) rfl (by show (2 : Nat) ≤ 8; decide) rfl dL_law_895 rfl (fun w σ2 hq2 => ?_)
  obtain ⟨rfl, hR2⟩ := h2 w σ2 hq2
  exact lw_eqL C 1838 dL_law_898 dL_law_899 (by decide) (kk σ2 hR2)
/-- mean -/
theorem lc_20 {K : LK} (C : LCx K) {σ : St} (hR : Rel σ) {i : Nat} (hi : i + 6 ≤ K.L) (kk : ∀ σ', Rel σ' → LW K σ' 1838 (lvL K i) []) : LW K σ 904 (lvL K i) [] := by
  obtain ⟨Rz1, hM1, h1⟩ := p_mean hR (K.xs (i + 1)) (K.xs (i + 2)) (K.xs (i + 3))
  refine lw_aload C 2 dL_law_904 rfl ?_
  refine lw_arg C 1 (by decide) (by omega) dL_law_905 dL_law_906 dL_law_907 dL_law_908 dL_law_909 ?_
  refine lw_arg C 2 (by decide) (by omega) dL_law_910 dL_law_911 dL_law_912 dL_law_913 dL_law_914 ?_
  refine lw_arg C 3 (by decide) (by omega) dL_law_915 dL_law_916 dL_law_917 dL_law_918 dL_law_919 ?_
  refine lw_call C (b := 0) (ci := 8) [K.xs (i + 1), K.xs (i + 2), K.xs (i + 3)] (rest := []) hM1 lk_L_100 rfl rfl (by decide) rfl (by show (0 : Nat) ≤ 8; decide) rfl dL_law_920 rfl (fun v σ1 hq => ?_)
  obtain ⟨⟨x, rfl⟩, Rz2, hM2, h2⟩ := h1 v σ1 hq
  refine lw_aload C 3 dL_law_923 rfl ?_
  refine lw_arg C 1 (by decide) (by omega) dL_law_924 dL_law_925 dL_law_926 dL_law_927 dL_law_928 ?_
  refine lw_arg C 2 (by decide) (by omega) dL_law_929 dL_law_930 dL_law_931 dL_law_932 dL_law_933 ?_
  refine lw_arg C 3 (by decide) (by omega) dL_law_934 dL_law_935 dL_law_936 dL_law_937 dL_law_938 ?_
  refine lw_call C (b := 73) (ci := 9) [K.xs (i + 1), K.xs (i + 2), K.xs (i + 3)] (rest := [.int x]) hM2 lk_L_103 rfl rfl (by decide) rfl (by show (1 : Nat) ≤ 8; decide) rfl dL_law_939 rfl (fun w σ2 hq2 => ?_)
  obtain ⟨rfl, hR2⟩ := h2 w σ2 hq2
  exact lw_eqI C 1838 dL_law_942 (by decide) (kk σ2 hR2)
/-- least -/
theorem lc_21 {K : LK} (C : LCx K) {σ : St} (hR : Rel σ) {i : Nat} (hi : i + 6 ≤ K.L) (kk : ∀ σ', Rel σ' → LW K σ' 1838 (lvL K i) []) : LW K σ 947 (lvL K i) [] := by
  obtain ⟨Rz1, hM1, h1⟩ := p_least hR (K.xs (i + 1)) (K.xs (i + 2)) (K.xs (i + 3))
  refine lw_aload C 2 dL_law_947 rfl ?_
  refine lw_arg C 1 (by decide) (by omega) dL_law_948 dL_law_949 dL_law_950 dL_law_951 dL_law_952 ?_
  refine lw_arg C 2 (by decide) (by omega) dL_law_953 dL_law_954 dL_law_955 dL_law_956 dL_law_957 ?_
  refine lw_arg C 3 (by decide) (by omega) dL_law_958 dL_law_959 dL_law_960 dL_law_961 dL_law_962 ?_
  refine lw_call C (b := 0) (ci := 8) [K.xs (i + 1), K.xs (i + 2), K.xs (i + 3)] (rest := []) hM1 lk_L_104 rfl rfl (by decide) rfl (by show (0 : Nat) ≤ 8; decide) rfl dL_law_963 rfl (fun v σ1 hq => ?_)
  obtain ⟨⟨x, rfl⟩, Rz2, hM2, h2⟩ := h1 v σ1 hq
  refine lw_aload C 3 dL_law_966 rfl ?_
  refine lw_arg C 1 (by decide) (by omega) dL_law_967 dL_law_968 dL_law_969 dL_law_970 dL_law_971 ?_
  refine lw_arg C 2 (by decide) (by omega) dL_law_972 dL_law_973 dL_law_974 dL_law_975 dL_law_976 ?_
  refine lw_arg C 3 (by decide) (by omega) dL_law_977 dL_law_978 dL_law_979 dL_law_980 dL_law_981 ?_
  refine lw_call C (b := 73) (ci := 9) [K.xs (i + 1), K.xs (i + 2), K.xs (i + 3)] (rest := [.int x]) hM2 lk_L_107 rfl rfl (by decide) rfl (by show (1 : Nat) ≤ 8; decide) rfl dL_law_982 rfl (fun w σ2 hq2 => ?_)
  obtain ⟨rfl, hR2⟩ := h2 w σ2 hq2
  exact lw_eqI C 1838 dL_law_985 (by decide) (kk σ2 hR2)
/-- best -/
theorem lc_22 {K : LK} (C : LCx K) {σ : St} (hR : Rel σ) {i : Nat} (hi : i + 6 ≤ K.L) (kk : ∀ σ', Rel σ' → LW K σ' 1838 (lvL K i) []) : LW K σ 990 (lvL K i) [] := by
  obtain ⟨Rz1, hM1, h1⟩ := p_best hR (K.xs (i + 1)) (K.xs (i + 2)) (K.xs (i + 3))
  refine lw_aload C 2 dL_law_990 rfl ?_
  refine lw_arg C 1 (by decide) (by omega) dL_law_991 dL_law_992 dL_law_993 dL_law_994 dL_law_995 ?_
  refine lw_arg C 2 (by decide) (by omega) dL_law_996 dL_law_997 dL_law_998 dL_law_999 dL_law_1000 ?_
  refine lw_arg C 3 (by decide) (by omega) dL_law_1001 dL_law_1002 dL_law_1003 dL_law_1004 dL_law_1005 ?_
  refine lw_call C (b := 0) (ci := 8) [K.xs (i + 1), K.xs (i + 2), K.xs (i + 3)] (rest := []) hM1 lk_L_108 rfl rfl (by decide) rfl (by show (0 : Nat) ≤ 8; decide) rfl dL_law_1006 rfl (fun v σ1 hq => ?_)
  obtain ⟨⟨x, rfl⟩, Rz2, hM2, h2⟩ := h1 v σ1 hq
  refine lw_aload C 3 dL_law_1009 rfl ?_
  refine lw_arg C 1 (by decide) (by omega) dL_law_1010 dL_law_1011 dL_law_1012 dL_law_1013 dL_law_1014 ?_
  refine lw_arg C 2 (by decide) (by omega) dL_law_1015 dL_law_1016 dL_law_1017 dL_law_1018 dL_law_1019 ?_
  refine lw_arg C 3 (by decide) (by omega) dL_law_1020 dL_law_1021 dL_law_1022 dL_law_1023 dL_law_1024 ?_
  refine lw_call C (b := 73) (ci := 9) [K.xs (i + 1), K.xs (i + 2), K.xs (i + 3)] (rest := [.int x]) hM2 lk_L_111 rfl rfl (by decide) rfl (by show (1 : Nat) ≤ 8; decide) rfl dL_law_1025 rfl (fun w σ2 hq2 => ?_)
  obtain ⟨rfl, hR2⟩ := h2 w σ2 hq2
  exact lw_eqI C 1838 dL_law_1028 (by decide) (kk σ2 hR2)
/-- train -/
theorem lc_23 {K : LK} (C : LCx K) {σ : St} (hR : Rel σ) {i : Nat} (hi : i + 6 ≤ K.L) (kk : ∀ σ', Rel σ' → LW K σ' 1838 (lvL K i) []) : LW K σ 1033 (lvL K i) [] := by
  obtain ⟨Rz1, hM1, h1⟩ := p_train hR (K.xs (i + 1))
  refine lw_aload C 2 dL_law_1033 rfl ?_
  refine lw_arg C 1 (by decide) (by omega) dL_law_1034 dL_law_1035 dL_law_1036 dL_law_1037 dL_law_1038 ?_
  refine lw_call C (b := 0) (ci := 8) [K.xs (i + 1)] (rest := []) hM1 lk_L_112 rfl rfl (by decide) rfl (by show (0 : Nat) ≤ 8; decide) rfl dL_law_1039 rfl (fun v σ1 hq => ?_)
  obtain ⟨⟨x, rfl⟩, Rz2, hM2, h2⟩ := h1 v σ1 hq
  refine lw_aload C 3 dL_law_1042 rfl ?_
  refine lw_arg C 1 (by decide) (by omega) dL_law_1043 dL_law_1044 dL_law_1045 dL_law_1046 dL_law_1047 ?_
  refine lw_call C (b := 73) (ci := 9) [K.xs (i + 1)] (rest := [.int x]) hM2 lk_L_115 rfl rfl (by decide) rfl (by show (1 : Nat) ≤ 8; decide) rfl dL_law_1048 rfl (fun w σ2 hq2 => ?_)
  obtain ⟨rfl, hR2⟩ := h2 w σ2 hq2
  exact lw_eqI C 1838 dL_law_1051 (by decide) (kk σ2 hR2)
/-- even -/
theorem lc_24 {K : LK} (C : LCx K) {σ : St} (hR : Rel σ) {i : Nat} (hi : i + 6 ≤ K.L) (kk : ∀ σ', Rel σ' → LW K σ' 1838 (lvL K i) []) : LW K σ 1056 (lvL K i) [] := by
  obtain ⟨Rz1, hM1, h1⟩ := p_even hR (K.xs (i + 1))
  refine lw_aload C 2 dL_law_1056 rfl ?_
  refine lw_arg C 1 (by decide) (by omega) dL_law_1057 dL_law_1058 dL_law_1059 dL_law_1060 dL_law_1061 ?_
  refine lw_call C (b := 0) (ci := 8) [K.xs (i + 1)] (rest := []) hM1 lk_L_116 rfl rfl (by decide) rfl (by show (0 : Nat) ≤ 8; decide) rfl dL_law_1062 rfl (fun v σ1 hq => ?_)
  obtain ⟨⟨x, rfl⟩, Rz2, hM2, h2⟩ := h1 v σ1 hq
  refine lw_aload C 3 dL_law_1065 rfl ?_
  refine lw_arg C 1 (by decide) (by omega) dL_law_1066 dL_law_1067 dL_law_1068 dL_law_1069 dL_law_1070 ?_
  refine lw_call C (b := 73) (ci := 9) [K.xs (i + 1)] (rest := [.int x]) hM2 lk_L_119 rfl rfl (by decide) rfl (by show (1 : Nat) ≤ 8; decide) rfl dL_law_1071 rfl (fun w σ2 hq2 => ?_)
  obtain ⟨rfl, hR2⟩ := h2 w σ2 hq2
  exact lw_eqI C 1838 dL_law_1074 (by decide) (kk σ2 hR2)
/-- costs -/
theorem lc_25 {K : LK} (C : LCx K) {σ : St} (hR : Rel σ) {i : Nat} (hi : i + 6 ≤ K.L) (kk : ∀ σ', Rel σ' → LW K σ' 1838 (lvL K i) []) : LW K σ 1079 (lvL K i) [] := by
  obtain ⟨Rz1, hM1, h1⟩ := p_costs hR (K.xs (i + 1)) (K.xs (i + 2))
  refine lw_aload C 2 dL_law_1079 rfl ?_
  refine lw_arg C 1 (by decide) (by omega) dL_law_1080 dL_law_1081 dL_law_1082 dL_law_1083 dL_law_1084 ?_
  refine lw_arg C 2 (by decide) (by omega) dL_law_1085 dL_law_1086 dL_law_1087 dL_law_1088 dL_law_1089 ?_
  refine lw_call C (b := 0) (ci := 8) [K.xs (i + 1), K.xs (i + 2)] (rest := []) hM1 lk_L_120 rfl rfl (by decide) rfl (by show (0 : Nat) ≤ 8; decide) rfl dL_law_1090 rfl (fun v σ1 hq => ?_)
  obtain ⟨⟨x, rfl⟩, Rz2, hM2, h2⟩ := h1 v σ1 hq
  refine lw_aload C 3 dL_law_1093 rfl ?_
  refine lw_arg C 1 (by decide) (by omega) dL_law_1094 dL_law_1095 dL_law_1096 dL_law_1097 dL_law_1098 ?_
  refine lw_arg C 2 (by decide) (by omega) dL_law_1099 dL_law_1100 dL_law_1101 dL_law_1102 dL_law_1103 ?_
  refine lw_call C (b := 73) (ci := 9) [K.xs (i + 1), K.xs (i + 2)] (rest := [.int x]) hM2 lk_L_123 rfl rfl (by decide) rfl (by show (1 : Nat) ≤ 8; decide) rfl dL_law_1104 rfl (fun w σ2 hq2 => ?_)
  obtain ⟨rfl, hR2⟩ := h2 w σ2 hq2
  exact lw_eqI C 1838 dL_law_1107 (by decide) (kk σ2 hR2)
