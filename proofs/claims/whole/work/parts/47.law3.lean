set_option maxRecDepth 20000 in
theorem lc_18 {p : Program} {l : Launch} {e : Env} {s : State} {m : MethodId} {below : List Frame} {meth : Method} {c : Code} {b L : Nat} {xs : Nat → Int32} {D : va_G} {c3 : sw_C3} {ad : Nat → Nat} {i : Nat} {σ : sw_S} {N : Int} (X : lw_X p s m meth c b L xs D c3 ad) (hi : i + 6 ≤ L) (hN : 0 ≤ N ∧ N ≤ 900000) (J : sw_J N σ σ) (kk : ∀ σ2, sw_J (N + 400) σ2 σ2 → lw_E p l e s m below meth c b D c3 ad 1367 i [] σ2) : lw_E p l e s m below meth c b D c3 ad 752 i [] σ := by
  obtain ⟨Q1, h1, k1⟩ := st_broken N hN σ J ((xs (i + 1)).toInt) ((xs (i + 2)).toInt) (sw_i32g _) (sw_i32g _)
  refine lr_x X (show decode code 752 = .ok (.aload_n 1, 1) by decide +kernel) ?_
  refine lr_arg X hi 1 1 rfl (by decide) (show decode code 753 = .ok (.aload_n 0, 1) by decide +kernel) (show decode code 754 = .ok (.iload_n 3, 1) by decide +kernel) (show decode code 755 = .ok (.iconst 1, 1) by decide +kernel) (show decode code 756 = .ok (.iadd, 1) by decide +kernel) (show decode code 757 = .ok (.iaload, 1) by decide +kernel) ?_
  refine lr_arg X hi 2 2 rfl (by decide) (show decode code 758 = .ok (.aload_n 0, 1) by decide +kernel) (show decode code 759 = .ok (.iload_n 3, 1) by decide +kernel) (show decode code 760 = .ok (.iconst 2, 1) by decide +kernel) (show decode code 761 = .ok (.iadd, 1) by decide +kernel) (show decode code 762 = .ok (.iaload, 1) by decide +kernel) ?_
  refine lr_call X cV_X7_broken ml_L_89 ⟨by decide, by decide⟩ (o := 0) rfl rfl [.inl ((xs (i + 1)).toInt), .inl ((xs (i + 2)).toInt)] [] rfl (by decide) h1 rfl (show decode code 763 = .ok (.invokevirtual 89, 3) by decide +kernel) (fun r1 σ1 q1 => ?_)
  obtain ⟨Q2, h2, k2⟩ := k1 r1 σ1 q1
  refine lr_m X (show decode code 766 = .ok (.aload_n 2, 1) by decide +kernel) ?_
  refine lr_arg X hi 1 1 rfl (by decide) (show decode code 767 = .ok (.aload_n 0, 1) by decide +kernel) (show decode code 768 = .ok (.iload_n 3, 1) by decide +kernel) (show decode code 769 = .ok (.iconst 1, 1) by decide +kernel) (show decode code 770 = .ok (.iadd, 1) by decide +kernel) (show decode code 771 = .ok (.iaload, 1) by decide +kernel) ?_
  refine lr_arg X hi 2 2 rfl (by decide) (show decode code 772 = .ok (.aload_n 0, 1) by decide +kernel) (show decode code 773 = .ok (.iload_n 3, 1) by decide +kernel) (show decode code 774 = .ok (.iconst 2, 1) by decide +kernel) (show decode code 775 = .ok (.iadd, 1) by decide +kernel) (show decode code 776 = .ok (.iaload, 1) by decide +kernel) ?_
  refine lr_call X cV_X8_broken ml_L_92 ⟨by decide, by decide⟩ (o := 26) rfl rfl [.inl ((xs (i + 1)).toInt), .inl ((xs (i + 2)).toInt)] r1.toList rfl (by cases r1 <;> simp) h2 (by simp) (show decode code 777 = .ok (.invokevirtual 92, 3) by decide +kernel) (fun r2 σ2 q2 => ?_)
  obtain ⟨x, e1, e2, J2⟩ := k2 r2 σ2 q2
  subst e1
  subst e2
  exact lr_eq X 1367 (by decide) (show decode code 780 = .ok (.if_icmp .eq 587, 3) by decide +kernel) (kk σ2 J2)
set_option maxRecDepth 20000 in
theorem lc_19 {p : Program} {l : Launch} {e : Env} {s : State} {m : MethodId} {below : List Frame} {meth : Method} {c : Code} {b L : Nat} {xs : Nat → Int32} {D : va_G} {c3 : sw_C3} {ad : Nat → Nat} {i : Nat} {σ : sw_S} {N : Int} (X : lw_X p s m meth c b L xs D c3 ad) (hi : i + 6 ≤ L) (hN : 0 ≤ N ∧ N ≤ 900000) (J : sw_J N σ σ) (kk : ∀ σ2, sw_J (N + 400) σ2 σ2 → lw_E p l e s m below meth c b D c3 ad 1367 i [] σ2) : lw_E p l e s m below meth c b D c3 ad 785 i [] σ := by
  obtain ⟨Q1, h1, k1⟩ := st_worst N hN σ J ((xs (i + 1)).toInt) (sw_i32g _)
  refine lr_x X (show decode code 785 = .ok (.aload_n 1, 1) by decide +kernel) ?_
  refine lr_arg X hi 1 1 rfl (by decide) (show decode code 786 = .ok (.aload_n 0, 1) by decide +kernel) (show decode code 787 = .ok (.iload_n 3, 1) by decide +kernel) (show decode code 788 = .ok (.iconst 1, 1) by decide +kernel) (show decode code 789 = .ok (.iadd, 1) by decide +kernel) (show decode code 790 = .ok (.iaload, 1) by decide +kernel) ?_
  refine lr_call X cV_X7_worst ml_L_93 ⟨by decide, by decide⟩ (o := 0) rfl rfl [.inl ((xs (i + 1)).toInt)] [] rfl (by decide) h1 rfl (show decode code 791 = .ok (.invokevirtual 93, 3) by decide +kernel) (fun r1 σ1 q1 => ?_)
  obtain ⟨Q2, h2, k2⟩ := k1 r1 σ1 q1
  refine lr_m X (show decode code 794 = .ok (.aload_n 2, 1) by decide +kernel) ?_
  refine lr_arg X hi 1 1 rfl (by decide) (show decode code 795 = .ok (.aload_n 0, 1) by decide +kernel) (show decode code 796 = .ok (.iload_n 3, 1) by decide +kernel) (show decode code 797 = .ok (.iconst 1, 1) by decide +kernel) (show decode code 798 = .ok (.iadd, 1) by decide +kernel) (show decode code 799 = .ok (.iaload, 1) by decide +kernel) ?_
  refine lr_call X cV_X8_worst ml_L_96 ⟨by decide, by decide⟩ (o := 26) rfl rfl [.inl ((xs (i + 1)).toInt)] r1.toList rfl (by cases r1 <;> simp) h2 (by simp) (show decode code 800 = .ok (.invokevirtual 96, 3) by decide +kernel) (fun r2 σ2 q2 => ?_)
  obtain ⟨x, e1, e2, J2⟩ := k2 r2 σ2 q2
  subst e1
  subst e2
  exact lr_eq X 1367 (by decide) (show decode code 803 = .ok (.if_icmp .eq 564, 3) by decide +kernel) (kk σ2 J2)
set_option maxRecDepth 20000 in
theorem lc_20 {p : Program} {l : Launch} {e : Env} {s : State} {m : MethodId} {below : List Frame} {meth : Method} {c : Code} {b L : Nat} {xs : Nat → Int32} {D : va_G} {c3 : sw_C3} {ad : Nat → Nat} {i : Nat} {σ : sw_S} {N : Int} (X : lw_X p s m meth c b L xs D c3 ad) (hi : i + 6 ≤ L) (hN : 0 ≤ N ∧ N ≤ 900000) (J : sw_J N σ σ) (kk : ∀ σ2, sw_J (N + 400) σ2 σ2 → lw_E p l e s m below meth c b D c3 ad 1367 i [] σ2) : lw_E p l e s m below meth c b D c3 ad 808 i [] σ := by
  obtain ⟨Q1, h1, k1⟩ := st_worstAt N hN σ J ((xs (i + 1)).toInt) (sw_i32g _)
  refine lr_x X (show decode code 808 = .ok (.aload_n 1, 1) by decide +kernel) ?_
  refine lr_arg X hi 1 1 rfl (by decide) (show decode code 809 = .ok (.aload_n 0, 1) by decide +kernel) (show decode code 810 = .ok (.iload_n 3, 1) by decide +kernel) (show decode code 811 = .ok (.iconst 1, 1) by decide +kernel) (show decode code 812 = .ok (.iadd, 1) by decide +kernel) (show decode code 813 = .ok (.iaload, 1) by decide +kernel) ?_
  refine lr_call X cV_X7_worstAt ml_L_97 ⟨by decide, by decide⟩ (o := 0) rfl rfl [.inl ((xs (i + 1)).toInt)] [] rfl (by decide) h1 rfl (show decode code 814 = .ok (.invokevirtual 97, 3) by decide +kernel) (fun r1 σ1 q1 => ?_)
  obtain ⟨Q2, h2, k2⟩ := k1 r1 σ1 q1
  refine lr_m X (show decode code 817 = .ok (.aload_n 2, 1) by decide +kernel) ?_
  refine lr_arg X hi 1 1 rfl (by decide) (show decode code 818 = .ok (.aload_n 0, 1) by decide +kernel) (show decode code 819 = .ok (.iload_n 3, 1) by decide +kernel) (show decode code 820 = .ok (.iconst 1, 1) by decide +kernel) (show decode code 821 = .ok (.iadd, 1) by decide +kernel) (show decode code 822 = .ok (.iaload, 1) by decide +kernel) ?_
  refine lr_call X cV_X8_worstAt ml_L_100 ⟨by decide, by decide⟩ (o := 26) rfl rfl [.inl ((xs (i + 1)).toInt)] r1.toList rfl (by cases r1 <;> simp) h2 (by simp) (show decode code 823 = .ok (.invokevirtual 100, 3) by decide +kernel) (fun r2 σ2 q2 => ?_)
  obtain ⟨x, e1, e2, J2⟩ := k2 r2 σ2 q2
  subst e1
  subst e2
  exact lr_eq X 1367 (by decide) (show decode code 826 = .ok (.if_icmp .eq 541, 3) by decide +kernel) (kk σ2 J2)
set_option maxRecDepth 20000 in
theorem lc_21 {p : Program} {l : Launch} {e : Env} {s : State} {m : MethodId} {below : List Frame} {meth : Method} {c : Code} {b L : Nat} {xs : Nat → Int32} {D : va_G} {c3 : sw_C3} {ad : Nat → Nat} {i : Nat} {σ : sw_S} {N : Int} (X : lw_X p s m meth c b L xs D c3 ad) (hi : i + 6 ≤ L) (hN : 0 ≤ N ∧ N ≤ 900000) (J : sw_J N σ σ) (kk : ∀ σ2, sw_J (N + 400) σ2 σ2 → lw_E p l e s m below meth c b D c3 ad 1367 i [] σ2) : lw_E p l e s m below meth c b D c3 ad 831 i [] σ := by
  obtain ⟨Q1, h1, k1⟩ := st_cut N hN σ J ((xs (i + 1)).toInt) (sw_i32g _)
  refine lr_x X (show decode code 831 = .ok (.aload_n 1, 1) by decide +kernel) ?_
  refine lr_arg X hi 1 1 rfl (by decide) (show decode code 832 = .ok (.aload_n 0, 1) by decide +kernel) (show decode code 833 = .ok (.iload_n 3, 1) by decide +kernel) (show decode code 834 = .ok (.iconst 1, 1) by decide +kernel) (show decode code 835 = .ok (.iadd, 1) by decide +kernel) (show decode code 836 = .ok (.iaload, 1) by decide +kernel) ?_
  refine lr_call X cV_X7_cut ml_L_101 ⟨by decide, by decide⟩ (o := 0) rfl rfl [.inl ((xs (i + 1)).toInt)] [] rfl (by decide) h1 rfl (show decode code 837 = .ok (.invokevirtual 101, 3) by decide +kernel) (fun r1 σ1 q1 => ?_)
  obtain ⟨Q2, h2, k2⟩ := k1 r1 σ1 q1
  refine lr_m X (show decode code 840 = .ok (.aload_n 2, 1) by decide +kernel) ?_
  refine lr_arg X hi 1 1 rfl (by decide) (show decode code 841 = .ok (.aload_n 0, 1) by decide +kernel) (show decode code 842 = .ok (.iload_n 3, 1) by decide +kernel) (show decode code 843 = .ok (.iconst 1, 1) by decide +kernel) (show decode code 844 = .ok (.iadd, 1) by decide +kernel) (show decode code 845 = .ok (.iaload, 1) by decide +kernel) ?_
  refine lr_call X cV_X8_cut ml_L_104 ⟨by decide, by decide⟩ (o := 26) rfl rfl [.inl ((xs (i + 1)).toInt)] r1.toList rfl (by cases r1 <;> simp) h2 (by simp) (show decode code 846 = .ok (.invokevirtual 104, 3) by decide +kernel) (fun r2 σ2 q2 => ?_)
  obtain ⟨x, e1, e2, J2⟩ := k2 r2 σ2 q2
  subst e1
  subst e2
  exact lr_eq X 1367 (by decide) (show decode code 849 = .ok (.if_icmp .eq 518, 3) by decide +kernel) (kk σ2 J2)
set_option maxRecDepth 20000 in
theorem lc_22 {p : Program} {l : Launch} {e : Env} {s : State} {m : MethodId} {below : List Frame} {meth : Method} {c : Code} {b L : Nat} {xs : Nat → Int32} {D : va_G} {c3 : sw_C3} {ad : Nat → Nat} {i : Nat} {σ : sw_S} {N : Int} (X : lw_X p s m meth c b L xs D c3 ad) (hi : i + 6 ≤ L) (hN : 0 ≤ N ∧ N ≤ 900000) (J : sw_J N σ σ) (kk : ∀ σ2, sw_J (N + 400) σ2 σ2 → lw_E p l e s m below meth c b D c3 ad 1367 i [] σ2) : lw_E p l e s m below meth c b D c3 ad 854 i [] σ := by
  obtain ⟨Q1, h1, k1⟩ := st_mend N hN σ J ((xs (i + 1)).toInt) ((xs (i + 2)).toInt) (sw_i32g _) (sw_i32g _)
  refine lr_x X (show decode code 854 = .ok (.aload_n 1, 1) by decide +kernel) ?_
  refine lr_arg X hi 1 1 rfl (by decide) (show decode code 855 = .ok (.aload_n 0, 1) by decide +kernel) (show decode code 856 = .ok (.iload_n 3, 1) by decide +kernel) (show decode code 857 = .ok (.iconst 1, 1) by decide +kernel) (show decode code 858 = .ok (.iadd, 1) by decide +kernel) (show decode code 859 = .ok (.iaload, 1) by decide +kernel) ?_
  refine lr_arg X hi 2 2 rfl (by decide) (show decode code 860 = .ok (.aload_n 0, 1) by decide +kernel) (show decode code 861 = .ok (.iload_n 3, 1) by decide +kernel) (show decode code 862 = .ok (.iconst 2, 1) by decide +kernel) (show decode code 863 = .ok (.iadd, 1) by decide +kernel) (show decode code 864 = .ok (.iaload, 1) by decide +kernel) ?_
  refine lr_call X cV_X7_mend ml_L_105 ⟨by decide, by decide⟩ (o := 0) rfl rfl [.inl ((xs (i + 1)).toInt), .inl ((xs (i + 2)).toInt)] [] rfl (by decide) h1 rfl (show decode code 865 = .ok (.invokevirtual 105, 3) by decide +kernel) (fun r1 σ1 q1 => ?_)
  obtain ⟨Q2, h2, k2⟩ := k1 r1 σ1 q1
  refine lr_m X (show decode code 868 = .ok (.aload_n 2, 1) by decide +kernel) ?_
  refine lr_arg X hi 1 1 rfl (by decide) (show decode code 869 = .ok (.aload_n 0, 1) by decide +kernel) (show decode code 870 = .ok (.iload_n 3, 1) by decide +kernel) (show decode code 871 = .ok (.iconst 1, 1) by decide +kernel) (show decode code 872 = .ok (.iadd, 1) by decide +kernel) (show decode code 873 = .ok (.iaload, 1) by decide +kernel) ?_
  refine lr_arg X hi 2 2 rfl (by decide) (show decode code 874 = .ok (.aload_n 0, 1) by decide +kernel) (show decode code 875 = .ok (.iload_n 3, 1) by decide +kernel) (show decode code 876 = .ok (.iconst 2, 1) by decide +kernel) (show decode code 877 = .ok (.iadd, 1) by decide +kernel) (show decode code 878 = .ok (.iaload, 1) by decide +kernel) ?_
  refine lr_call X cV_X8_mend ml_L_108 ⟨by decide, by decide⟩ (o := 26) rfl rfl [.inl ((xs (i + 1)).toInt), .inl ((xs (i + 2)).toInt)] r1.toList rfl (by cases r1 <;> simp) h2 (by simp) (show decode code 879 = .ok (.invokevirtual 108, 3) by decide +kernel) (fun r2 σ2 q2 => ?_)
  obtain ⟨x, e1, e2, J2⟩ := k2 r2 σ2 q2
  subst e1
  subst e2
  exact lr_eq X 1367 (by decide) (show decode code 882 = .ok (.if_icmp .eq 485, 3) by decide +kernel) (kk σ2 J2)
set_option maxRecDepth 20000 in
theorem lc_23 {p : Program} {l : Launch} {e : Env} {s : State} {m : MethodId} {below : List Frame} {meth : Method} {c : Code} {b L : Nat} {xs : Nat → Int32} {D : va_G} {c3 : sw_C3} {ad : Nat → Nat} {i : Nat} {σ : sw_S} {N : Int} (X : lw_X p s m meth c b L xs D c3 ad) (hi : i + 6 ≤ L) (hN : 0 ≤ N ∧ N ≤ 900000) (J : sw_J N σ σ) (kk : ∀ σ2, sw_J (N + 400) σ2 σ2 → lw_E p l e s m below meth c b D c3 ad 1367 i [] σ2) : lw_E p l e s m below meth c b D c3 ad 887 i [] σ := by
  obtain ⟨Q1, h1, k1⟩ := st_shift N hN σ J ((xs (i + 1)).toInt) ((xs (i + 2)).toInt) ((xs (i + 3)).toInt) ((xs (i + 4)).toInt) (sw_i32g _) (sw_i32g _) (sw_i32g _) (sw_i32g _)
  refine lr_x X (show decode code 887 = .ok (.aload_n 1, 1) by decide +kernel) ?_
  refine lr_arg X hi 1 1 rfl (by decide) (show decode code 888 = .ok (.aload_n 0, 1) by decide +kernel) (show decode code 889 = .ok (.iload_n 3, 1) by decide +kernel) (show decode code 890 = .ok (.iconst 1, 1) by decide +kernel) (show decode code 891 = .ok (.iadd, 1) by decide +kernel) (show decode code 892 = .ok (.iaload, 1) by decide +kernel) ?_
  refine lr_arg X hi 2 2 rfl (by decide) (show decode code 893 = .ok (.aload_n 0, 1) by decide +kernel) (show decode code 894 = .ok (.iload_n 3, 1) by decide +kernel) (show decode code 895 = .ok (.iconst 2, 1) by decide +kernel) (show decode code 896 = .ok (.iadd, 1) by decide +kernel) (show decode code 897 = .ok (.iaload, 1) by decide +kernel) ?_
  refine lr_arg X hi 3 3 rfl (by decide) (show decode code 898 = .ok (.aload_n 0, 1) by decide +kernel) (show decode code 899 = .ok (.iload_n 3, 1) by decide +kernel) (show decode code 900 = .ok (.iconst 3, 1) by decide +kernel) (show decode code 901 = .ok (.iadd, 1) by decide +kernel) (show decode code 902 = .ok (.iaload, 1) by decide +kernel) ?_
  refine lr_arg X hi 4 4 rfl (by decide) (show decode code 903 = .ok (.aload_n 0, 1) by decide +kernel) (show decode code 904 = .ok (.iload_n 3, 1) by decide +kernel) (show decode code 905 = .ok (.iconst 4, 1) by decide +kernel) (show decode code 906 = .ok (.iadd, 1) by decide +kernel) (show decode code 907 = .ok (.iaload, 1) by decide +kernel) ?_
  refine lr_call X cV_X7_shift ml_L_109 ⟨by decide, by decide⟩ (o := 0) rfl rfl [.inl ((xs (i + 1)).toInt), .inl ((xs (i + 2)).toInt), .inl ((xs (i + 3)).toInt), .inl ((xs (i + 4)).toInt)] [] rfl (by decide) h1 rfl (show decode code 908 = .ok (.invokevirtual 109, 3) by decide +kernel) (fun r1 σ1 q1 => ?_)
  obtain ⟨Q2, h2, k2⟩ := k1 r1 σ1 q1
  refine lr_m X (show decode code 911 = .ok (.aload_n 2, 1) by decide +kernel) ?_
  refine lr_arg X hi 1 1 rfl (by decide) (show decode code 912 = .ok (.aload_n 0, 1) by decide +kernel) (show decode code 913 = .ok (.iload_n 3, 1) by decide +kernel) (show decode code 914 = .ok (.iconst 1, 1) by decide +kernel) (show decode code 915 = .ok (.iadd, 1) by decide +kernel) (show decode code 916 = .ok (.iaload, 1) by decide +kernel) ?_
  refine lr_arg X hi 2 2 rfl (by decide) (show decode code 917 = .ok (.aload_n 0, 1) by decide +kernel) (show decode code 918 = .ok (.iload_n 3, 1) by decide +kernel) (show decode code 919 = .ok (.iconst 2, 1) by decide +kernel) (show decode code 920 = .ok (.iadd, 1) by decide +kernel) (show decode code 921 = .ok (.iaload, 1) by decide +kernel) ?_
  refine lr_arg X hi 3 3 rfl (by decide) (show decode code 922 = .ok (.aload_n 0, 1) by decide +kernel) (show decode code 923 = .ok (.iload_n 3, 1) by decide +kernel) (show decode code 924 = .ok (.iconst 3, 1) by decide +kernel) (show decode code 925 = .ok (.iadd, 1) by decide +kernel) (show decode code 926 = .ok (.iaload, 1) by decide +kernel) ?_
  refine lr_arg X hi 4 4 rfl (by decide) (show decode code 927 = .ok (.aload_n 0, 1) by decide +kernel) (show decode code 928 = .ok (.iload_n 3, 1) by decide +kernel) (show decode code 929 = .ok (.iconst 4, 1) by decide +kernel) (show decode code 930 = .ok (.iadd, 1) by decide +kernel) (show decode code 931 = .ok (.iaload, 1) by decide +kernel) ?_
  refine lr_call X cV_X8_shift ml_L_113 ⟨by decide, by decide⟩ (o := 26) rfl rfl [.inl ((xs (i + 1)).toInt), .inl ((xs (i + 2)).toInt), .inl ((xs (i + 3)).toInt), .inl ((xs (i + 4)).toInt)] r1.toList rfl (by cases r1 <;> simp) h2 (by simp) (show decode code 932 = .ok (.invokevirtual 113, 3) by decide +kernel) (fun r2 σ2 q2 => ?_)
  obtain ⟨x, e1, e2, J2⟩ := k2 r2 σ2 q2
  subst e1
  subst e2
  exact lr_eq X 1367 (by decide) (show decode code 935 = .ok (.if_icmp .eq 432, 3) by decide +kernel) (kk σ2 J2)
set_option maxRecDepth 20000 in
theorem lc_24 {p : Program} {l : Launch} {e : Env} {s : State} {m : MethodId} {below : List Frame} {meth : Method} {c : Code} {b L : Nat} {xs : Nat → Int32} {D : va_G} {c3 : sw_C3} {ad : Nat → Nat} {i : Nat} {σ : sw_S} {N : Int} (X : lw_X p s m meth c b L xs D c3 ad) (hi : i + 6 ≤ L) (hN : 0 ≤ N ∧ N ≤ 900000) (J : sw_J N σ σ) (kk : ∀ σ2, sw_J (N + 400) σ2 σ2 → lw_E p l e s m below meth c b D c3 ad 1367 i [] σ2) : lw_E p l e s m below meth c b D c3 ad 940 i [] σ := by
  obtain ⟨Q1, h1, k1⟩ := st_both N hN σ J ((xs (i + 1)).toInt) ((xs (i + 2)).toInt) ((xs (i + 3)).toInt) (sw_i32g _) (sw_i32g _) (sw_i32g _)
  refine lr_x X (show decode code 940 = .ok (.aload_n 1, 1) by decide +kernel) ?_
  refine lr_arg X hi 1 1 rfl (by decide) (show decode code 941 = .ok (.aload_n 0, 1) by decide +kernel) (show decode code 942 = .ok (.iload_n 3, 1) by decide +kernel) (show decode code 943 = .ok (.iconst 1, 1) by decide +kernel) (show decode code 944 = .ok (.iadd, 1) by decide +kernel) (show decode code 945 = .ok (.iaload, 1) by decide +kernel) ?_
  refine lr_arg X hi 2 2 rfl (by decide) (show decode code 946 = .ok (.aload_n 0, 1) by decide +kernel) (show decode code 947 = .ok (.iload_n 3, 1) by decide +kernel) (show decode code 948 = .ok (.iconst 2, 1) by decide +kernel) (show decode code 949 = .ok (.iadd, 1) by decide +kernel) (show decode code 950 = .ok (.iaload, 1) by decide +kernel) ?_
  refine lr_arg X hi 3 3 rfl (by decide) (show decode code 951 = .ok (.aload_n 0, 1) by decide +kernel) (show decode code 952 = .ok (.iload_n 3, 1) by decide +kernel) (show decode code 953 = .ok (.iconst 3, 1) by decide +kernel) (show decode code 954 = .ok (.iadd, 1) by decide +kernel) (show decode code 955 = .ok (.iaload, 1) by decide +kernel) ?_
  refine lr_call X cV_X7_both ml_L_114 ⟨by decide, by decide⟩ (o := 0) rfl rfl [.inl ((xs (i + 1)).toInt), .inl ((xs (i + 2)).toInt), .inl ((xs (i + 3)).toInt)] [] rfl (by decide) h1 rfl (show decode code 956 = .ok (.invokevirtual 114, 3) by decide +kernel) (fun r1 σ1 q1 => ?_)
  obtain ⟨Q2, h2, k2⟩ := k1 r1 σ1 q1
  refine lr_m X (show decode code 959 = .ok (.aload_n 2, 1) by decide +kernel) ?_
  refine lr_arg X hi 1 1 rfl (by decide) (show decode code 960 = .ok (.aload_n 0, 1) by decide +kernel) (show decode code 961 = .ok (.iload_n 3, 1) by decide +kernel) (show decode code 962 = .ok (.iconst 1, 1) by decide +kernel) (show decode code 963 = .ok (.iadd, 1) by decide +kernel) (show decode code 964 = .ok (.iaload, 1) by decide +kernel) ?_
  refine lr_arg X hi 2 2 rfl (by decide) (show decode code 965 = .ok (.aload_n 0, 1) by decide +kernel) (show decode code 966 = .ok (.iload_n 3, 1) by decide +kernel) (show decode code 967 = .ok (.iconst 2, 1) by decide +kernel) (show decode code 968 = .ok (.iadd, 1) by decide +kernel) (show decode code 969 = .ok (.iaload, 1) by decide +kernel) ?_
  refine lr_arg X hi 3 3 rfl (by decide) (show decode code 970 = .ok (.aload_n 0, 1) by decide +kernel) (show decode code 971 = .ok (.iload_n 3, 1) by decide +kernel) (show decode code 972 = .ok (.iconst 3, 1) by decide +kernel) (show decode code 973 = .ok (.iadd, 1) by decide +kernel) (show decode code 974 = .ok (.iaload, 1) by decide +kernel) ?_
  refine lr_call X cV_X8_both ml_L_117 ⟨by decide, by decide⟩ (o := 26) rfl rfl [.inl ((xs (i + 1)).toInt), .inl ((xs (i + 2)).toInt), .inl ((xs (i + 3)).toInt)] r1.toList rfl (by cases r1 <;> simp) h2 (by simp) (show decode code 975 = .ok (.invokevirtual 117, 3) by decide +kernel) (fun r2 σ2 q2 => ?_)
  obtain ⟨x, e1, e2, J2⟩ := k2 r2 σ2 q2
  subst e1
  subst e2
  exact lr_eq X 1367 (by decide) (show decode code 978 = .ok (.if_icmp .eq 389, 3) by decide +kernel) (kk σ2 J2)
set_option maxRecDepth 20000 in
theorem lc_25 {p : Program} {l : Launch} {e : Env} {s : State} {m : MethodId} {below : List Frame} {meth : Method} {c : Code} {b L : Nat} {xs : Nat → Int32} {D : va_G} {c3 : sw_C3} {ad : Nat → Nat} {i : Nat} {σ : sw_S} {N : Int} (X : lw_X p s m meth c b L xs D c3 ad) (hi : i + 6 ≤ L) (hN : 0 ≤ N ∧ N ≤ 900000) (J : sw_J N σ σ) (kk : ∀ σ2, sw_J (N + 400) σ2 σ2 → lw_E p l e s m below meth c b D c3 ad 1367 i [] σ2) : lw_E p l e s m below meth c b D c3 ad 983 i [] σ := by
  obtain ⟨Q1, h1, k1⟩ := st_log N hN σ J ((xs (i + 1)).toInt) ((xs (i + 2)).toInt) (sw_i32g _) (sw_i32g _)
  refine lr_x X (show decode code 983 = .ok (.aload_n 1, 1) by decide +kernel) ?_
  refine lr_arg X hi 1 1 rfl (by decide) (show decode code 984 = .ok (.aload_n 0, 1) by decide +kernel) (show decode code 985 = .ok (.iload_n 3, 1) by decide +kernel) (show decode code 986 = .ok (.iconst 1, 1) by decide +kernel) (show decode code 987 = .ok (.iadd, 1) by decide +kernel) (show decode code 988 = .ok (.iaload, 1) by decide +kernel) ?_
  refine lr_arg X hi 2 2 rfl (by decide) (show decode code 989 = .ok (.aload_n 0, 1) by decide +kernel) (show decode code 990 = .ok (.iload_n 3, 1) by decide +kernel) (show decode code 991 = .ok (.iconst 2, 1) by decide +kernel) (show decode code 992 = .ok (.iadd, 1) by decide +kernel) (show decode code 993 = .ok (.iaload, 1) by decide +kernel) ?_
  refine lr_call X cV_X7_log ml_L_118 ⟨by decide, by decide⟩ (o := 0) rfl rfl [.inl ((xs (i + 1)).toInt), .inl ((xs (i + 2)).toInt)] [] rfl (by decide) h1 rfl (show decode code 994 = .ok (.invokevirtual 118, 3) by decide +kernel) (fun r1 σ1 q1 => ?_)
  obtain ⟨Q2, h2, k2⟩ := k1 r1 σ1 q1
  refine lr_m X (show decode code 997 = .ok (.aload_n 2, 1) by decide +kernel) ?_
  refine lr_arg X hi 1 1 rfl (by decide) (show decode code 998 = .ok (.aload_n 0, 1) by decide +kernel) (show decode code 999 = .ok (.iload_n 3, 1) by decide +kernel) (show decode code 1000 = .ok (.iconst 1, 1) by decide +kernel) (show decode code 1001 = .ok (.iadd, 1) by decide +kernel) (show decode code 1002 = .ok (.iaload, 1) by decide +kernel) ?_
  refine lr_arg X hi 2 2 rfl (by decide) (show decode code 1003 = .ok (.aload_n 0, 1) by decide +kernel) (show decode code 1004 = .ok (.iload_n 3, 1) by decide +kernel) (show decode code 1005 = .ok (.iconst 2, 1) by decide +kernel) (show decode code 1006 = .ok (.iadd, 1) by decide +kernel) (show decode code 1007 = .ok (.iaload, 1) by decide +kernel) ?_
  refine lr_call X cV_X8_log ml_L_121 ⟨by decide, by decide⟩ (o := 26) rfl rfl [.inl ((xs (i + 1)).toInt), .inl ((xs (i + 2)).toInt)] r1.toList rfl (by cases r1 <;> simp) h2 (by simp) (show decode code 1008 = .ok (.invokevirtual 121, 3) by decide +kernel) (fun r2 σ2 q2 => ?_)
  obtain ⟨x, e1, e2, J2⟩ := k2 r2 σ2 q2
  subst e1
  subst e2
  exact lr_eq X 1367 (by decide) (show decode code 1011 = .ok (.if_icmp .eq 356, 3) by decide +kernel) (kk σ2 J2)
set_option maxRecDepth 20000 in
theorem lc_26 {p : Program} {l : Launch} {e : Env} {s : State} {m : MethodId} {below : List Frame} {meth : Method} {c : Code} {b L : Nat} {xs : Nat → Int32} {D : va_G} {c3 : sw_C3} {ad : Nat → Nat} {i : Nat} {σ : sw_S} {N : Int} (X : lw_X p s m meth c b L xs D c3 ad) (hi : i + 6 ≤ L) (hN : 0 ≤ N ∧ N ≤ 900000) (J : sw_J N σ σ) (kk : ∀ σ2, sw_J (N + 400) σ2 σ2 → lw_E p l e s m below meth c b D c3 ad 1367 i [] σ2) : lw_E p l e s m below meth c b D c3 ad 1016 i [] σ := by
  obtain ⟨Q1, h1, k1⟩ := st_sheet N hN σ J ((xs (i + 1)).toInt) ((xs (i + 2)).toInt) ((xs (i + 3)).toInt) (sw_i32g _) (sw_i32g _) (sw_i32g _)
  refine lr_x X (show decode code 1016 = .ok (.aload_n 1, 1) by decide +kernel) ?_
  refine lr_arg X hi 1 1 rfl (by decide) (show decode code 1017 = .ok (.aload_n 0, 1) by decide +kernel) (show decode code 1018 = .ok (.iload_n 3, 1) by decide +kernel) (show decode code 1019 = .ok (.iconst 1, 1) by decide +kernel) (show decode code 1020 = .ok (.iadd, 1) by decide +kernel) (show decode code 1021 = .ok (.iaload, 1) by decide +kernel) ?_
  refine lr_arg X hi 2 2 rfl (by decide) (show decode code 1022 = .ok (.aload_n 0, 1) by decide +kernel) (show decode code 1023 = .ok (.iload_n 3, 1) by decide +kernel) (show decode code 1024 = .ok (.iconst 2, 1) by decide +kernel) (show decode code 1025 = .ok (.iadd, 1) by decide +kernel) (show decode code 1026 = .ok (.iaload, 1) by decide +kernel) ?_
  refine lr_arg X hi 3 3 rfl (by decide) (show decode code 1027 = .ok (.aload_n 0, 1) by decide +kernel) (show decode code 1028 = .ok (.iload_n 3, 1) by decide +kernel) (show decode code 1029 = .ok (.iconst 3, 1) by decide +kernel) (show decode code 1030 = .ok (.iadd, 1) by decide +kernel) (show decode code 1031 = .ok (.iaload, 1) by decide +kernel) ?_
  refine lr_call X cV_X7_sheet ml_L_122 ⟨by decide, by decide⟩ (o := 0) rfl rfl [.inl ((xs (i + 1)).toInt), .inl ((xs (i + 2)).toInt), .inl ((xs (i + 3)).toInt)] [] rfl (by decide) h1 rfl (show decode code 1032 = .ok (.invokevirtual 122, 3) by decide +kernel) (fun r1 σ1 q1 => ?_)
  obtain ⟨Q2, h2, k2⟩ := k1 r1 σ1 q1
  refine lr_m X (show decode code 1035 = .ok (.aload_n 2, 1) by decide +kernel) ?_
  refine lr_arg X hi 1 1 rfl (by decide) (show decode code 1036 = .ok (.aload_n 0, 1) by decide +kernel) (show decode code 1037 = .ok (.iload_n 3, 1) by decide +kernel) (show decode code 1038 = .ok (.iconst 1, 1) by decide +kernel) (show decode code 1039 = .ok (.iadd, 1) by decide +kernel) (show decode code 1040 = .ok (.iaload, 1) by decide +kernel) ?_
  refine lr_arg X hi 2 2 rfl (by decide) (show decode code 1041 = .ok (.aload_n 0, 1) by decide +kernel) (show decode code 1042 = .ok (.iload_n 3, 1) by decide +kernel) (show decode code 1043 = .ok (.iconst 2, 1) by decide +kernel) (show decode code 1044 = .ok (.iadd, 1) by decide +kernel) (show decode code 1045 = .ok (.iaload, 1) by decide +kernel) ?_
  refine lr_arg X hi 3 3 rfl (by decide) (show decode code 1046 = .ok (.aload_n 0, 1) by decide +kernel) (show decode code 1047 = .ok (.iload_n 3, 1) by decide +kernel) (show decode code 1048 = .ok (.iconst 3, 1) by decide +kernel) (show decode code 1049 = .ok (.iadd, 1) by decide +kernel) (show decode code 1050 = .ok (.iaload, 1) by decide +kernel) ?_
  refine lr_call X cV_X8_sheet ml_L_125 ⟨by decide, by decide⟩ (o := 26) rfl rfl [.inl ((xs (i + 1)).toInt), .inl ((xs (i + 2)).toInt), .inl ((xs (i + 3)).toInt)] r1.toList rfl (by cases r1 <;> simp) h2 (by simp) (show decode code 1051 = .ok (.invokevirtual 125, 3) by decide +kernel) (fun r2 σ2 q2 => ?_)
  obtain ⟨x, e1, e2, J2⟩ := k2 r2 σ2 q2
  subst e1
  subst e2
  exact lr_eq X 1367 (by decide) (show decode code 1054 = .ok (.if_icmp .eq 313, 3) by decide +kernel) (kk σ2 J2)
set_option maxRecDepth 20000 in
theorem lc_27 {p : Program} {l : Launch} {e : Env} {s : State} {m : MethodId} {below : List Frame} {meth : Method} {c : Code} {b L : Nat} {xs : Nat → Int32} {D : va_G} {c3 : sw_C3} {ad : Nat → Nat} {i : Nat} {σ : sw_S} {N : Int} (X : lw_X p s m meth c b L xs D c3 ad) (hi : i + 6 ≤ L) (hN : 0 ≤ N ∧ N ≤ 900000) (J : sw_J N σ σ) (kk : ∀ σ2, sw_J (N + 400) σ2 σ2 → lw_E p l e s m below meth c b D c3 ad 1367 i [] σ2) : lw_E p l e s m below meth c b D c3 ad 1059 i [] σ := by
  obtain ⟨Q1, h1, k1⟩ := st_lose N hN σ J ((xs (i + 1)).toInt) (sw_i32g _)
  refine lr_x X (show decode code 1059 = .ok (.aload_n 1, 1) by decide +kernel) ?_
  refine lr_arg X hi 1 1 rfl (by decide) (show decode code 1060 = .ok (.aload_n 0, 1) by decide +kernel) (show decode code 1061 = .ok (.iload_n 3, 1) by decide +kernel) (show decode code 1062 = .ok (.iconst 1, 1) by decide +kernel) (show decode code 1063 = .ok (.iadd, 1) by decide +kernel) (show decode code 1064 = .ok (.iaload, 1) by decide +kernel) ?_
  refine lr_call X cV_X7_lose ml_L_126 ⟨by decide, by decide⟩ (o := 0) rfl rfl [.inl ((xs (i + 1)).toInt)] [] rfl (by decide) h1 rfl (show decode code 1065 = .ok (.invokevirtual 126, 3) by decide +kernel) (fun r1 σ1 q1 => ?_)
  obtain ⟨Q2, h2, k2⟩ := k1 r1 σ1 q1
  refine lr_m X (show decode code 1068 = .ok (.aload_n 2, 1) by decide +kernel) ?_
  refine lr_arg X hi 1 1 rfl (by decide) (show decode code 1069 = .ok (.aload_n 0, 1) by decide +kernel) (show decode code 1070 = .ok (.iload_n 3, 1) by decide +kernel) (show decode code 1071 = .ok (.iconst 1, 1) by decide +kernel) (show decode code 1072 = .ok (.iadd, 1) by decide +kernel) (show decode code 1073 = .ok (.iaload, 1) by decide +kernel) ?_
  refine lr_call X cV_X8_lose ml_L_129 ⟨by decide, by decide⟩ (o := 26) rfl rfl [.inl ((xs (i + 1)).toInt)] r1.toList rfl (by cases r1 <;> simp) h2 (by simp) (show decode code 1074 = .ok (.invokevirtual 129, 3) by decide +kernel) (fun r2 σ2 q2 => ?_)
  obtain ⟨x, e1, e2, J2⟩ := k2 r2 σ2 q2
  subst e1
  subst e2
  exact lr_eq X 1367 (by decide) (show decode code 1077 = .ok (.if_icmp .eq 290, 3) by decide +kernel) (kk σ2 J2)
set_option maxRecDepth 20000 in
theorem lc_28 {p : Program} {l : Launch} {e : Env} {s : State} {m : MethodId} {below : List Frame} {meth : Method} {c : Code} {b L : Nat} {xs : Nat → Int32} {D : va_G} {c3 : sw_C3} {ad : Nat → Nat} {i : Nat} {σ : sw_S} {N : Int} (X : lw_X p s m meth c b L xs D c3 ad) (hi : i + 6 ≤ L) (hN : 0 ≤ N ∧ N ≤ 900000) (J : sw_J N σ σ) (kk : ∀ σ2, sw_J (N + 400) σ2 σ2 → lw_E p l e s m below meth c b D c3 ad 1367 i [] σ2) : lw_E p l e s m below meth c b D c3 ad 1082 i [] σ := by
  obtain ⟨Q1, h1, k1⟩ := st_put N hN σ J ((xs (i + 1)).toInt) ((xs (i + 2)).toInt) ((xs (i + 3)).toInt) ((xs (i + 4)).toInt) (sw_i32g _) (sw_i32g _) (sw_i32g _) (sw_i32g _)
  refine lr_x X (show decode code 1082 = .ok (.aload_n 1, 1) by decide +kernel) ?_
  refine lr_arg X hi 1 1 rfl (by decide) (show decode code 1083 = .ok (.aload_n 0, 1) by decide +kernel) (show decode code 1084 = .ok (.iload_n 3, 1) by decide +kernel) (show decode code 1085 = .ok (.iconst 1, 1) by decide +kernel) (show decode code 1086 = .ok (.iadd, 1) by decide +kernel) (show decode code 1087 = .ok (.iaload, 1) by decide +kernel) ?_
  refine lr_arg X hi 2 2 rfl (by decide) (show decode code 1088 = .ok (.aload_n 0, 1) by decide +kernel) (show decode code 1089 = .ok (.iload_n 3, 1) by decide +kernel) (show decode code 1090 = .ok (.iconst 2, 1) by decide +kernel) (show decode code 1091 = .ok (.iadd, 1) by decide +kernel) (show decode code 1092 = .ok (.iaload, 1) by decide +kernel) ?_
  refine lr_arg X hi 3 3 rfl (by decide) (show decode code 1093 = .ok (.aload_n 0, 1) by decide +kernel) (show decode code 1094 = .ok (.iload_n 3, 1) by decide +kernel) (show decode code 1095 = .ok (.iconst 3, 1) by decide +kernel) (show decode code 1096 = .ok (.iadd, 1) by decide +kernel) (show decode code 1097 = .ok (.iaload, 1) by decide +kernel) ?_
  refine lr_arg X hi 4 4 rfl (by decide) (show decode code 1098 = .ok (.aload_n 0, 1) by decide +kernel) (show decode code 1099 = .ok (.iload_n 3, 1) by decide +kernel) (show decode code 1100 = .ok (.iconst 4, 1) by decide +kernel) (show decode code 1101 = .ok (.iadd, 1) by decide +kernel) (show decode code 1102 = .ok (.iaload, 1) by decide +kernel) ?_
  refine lr_call X cV_X7_put ml_L_130 ⟨by decide, by decide⟩ (o := 0) rfl rfl [.inl ((xs (i + 1)).toInt), .inl ((xs (i + 2)).toInt), .inl ((xs (i + 3)).toInt), .inl ((xs (i + 4)).toInt)] [] rfl (by decide) h1 rfl (show decode code 1103 = .ok (.invokevirtual 130, 3) by decide +kernel) (fun r1 σ1 q1 => ?_)
  obtain ⟨Q2, h2, k2⟩ := k1 r1 σ1 q1
  refine lr_m X (show decode code 1106 = .ok (.aload_n 2, 1) by decide +kernel) ?_
  refine lr_arg X hi 1 1 rfl (by decide) (show decode code 1107 = .ok (.aload_n 0, 1) by decide +kernel) (show decode code 1108 = .ok (.iload_n 3, 1) by decide +kernel) (show decode code 1109 = .ok (.iconst 1, 1) by decide +kernel) (show decode code 1110 = .ok (.iadd, 1) by decide +kernel) (show decode code 1111 = .ok (.iaload, 1) by decide +kernel) ?_
  refine lr_arg X hi 2 2 rfl (by decide) (show decode code 1112 = .ok (.aload_n 0, 1) by decide +kernel) (show decode code 1113 = .ok (.iload_n 3, 1) by decide +kernel) (show decode code 1114 = .ok (.iconst 2, 1) by decide +kernel) (show decode code 1115 = .ok (.iadd, 1) by decide +kernel) (show decode code 1116 = .ok (.iaload, 1) by decide +kernel) ?_
  refine lr_arg X hi 3 3 rfl (by decide) (show decode code 1117 = .ok (.aload_n 0, 1) by decide +kernel) (show decode code 1118 = .ok (.iload_n 3, 1) by decide +kernel) (show decode code 1119 = .ok (.iconst 3, 1) by decide +kernel) (show decode code 1120 = .ok (.iadd, 1) by decide +kernel) (show decode code 1121 = .ok (.iaload, 1) by decide +kernel) ?_
  refine lr_arg X hi 4 4 rfl (by decide) (show decode code 1122 = .ok (.aload_n 0, 1) by decide +kernel) (show decode code 1123 = .ok (.iload_n 3, 1) by decide +kernel) (show decode code 1124 = .ok (.iconst 4, 1) by decide +kernel) (show decode code 1125 = .ok (.iadd, 1) by decide +kernel) (show decode code 1126 = .ok (.iaload, 1) by decide +kernel) ?_
  refine lr_call X cV_X8_put ml_L_133 ⟨by decide, by decide⟩ (o := 26) rfl rfl [.inl ((xs (i + 1)).toInt), .inl ((xs (i + 2)).toInt), .inl ((xs (i + 3)).toInt), .inl ((xs (i + 4)).toInt)] r1.toList rfl (by cases r1 <;> simp) h2 (by simp) (show decode code 1127 = .ok (.invokevirtual 133, 3) by decide +kernel) (fun r2 σ2 q2 => ?_)
  obtain ⟨x, e1, e2, J2⟩ := k2 r2 σ2 q2
  subst e1
  subst e2
  exact lr_eq X 1367 (by decide) (show decode code 1130 = .ok (.if_icmp .eq 237, 3) by decide +kernel) (kk σ2 J2)
set_option maxRecDepth 20000 in
theorem lc_29 {p : Program} {l : Launch} {e : Env} {s : State} {m : MethodId} {below : List Frame} {meth : Method} {c : Code} {b L : Nat} {xs : Nat → Int32} {D : va_G} {c3 : sw_C3} {ad : Nat → Nat} {i : Nat} {σ : sw_S} {N : Int} (X : lw_X p s m meth c b L xs D c3 ad) (hi : i + 6 ≤ L) (hN : 0 ≤ N ∧ N ≤ 900000) (J : sw_J N σ σ) (kk : ∀ σ2, sw_J (N + 400) σ2 σ2 → lw_E p l e s m below meth c b D c3 ad 1367 i [] σ2) : lw_E p l e s m below meth c b D c3 ad 1135 i [] σ := by
  obtain ⟨Q1, h1, k1⟩ := st_get N hN σ J ((xs (i + 1)).toInt) ((xs (i + 2)).toInt) ((xs (i + 3)).toInt) (sw_i32g _) (sw_i32g _) (sw_i32g _)
  refine lr_x X (show decode code 1135 = .ok (.aload_n 1, 1) by decide +kernel) ?_
  refine lr_arg X hi 1 1 rfl (by decide) (show decode code 1136 = .ok (.aload_n 0, 1) by decide +kernel) (show decode code 1137 = .ok (.iload_n 3, 1) by decide +kernel) (show decode code 1138 = .ok (.iconst 1, 1) by decide +kernel) (show decode code 1139 = .ok (.iadd, 1) by decide +kernel) (show decode code 1140 = .ok (.iaload, 1) by decide +kernel) ?_
  refine lr_arg X hi 2 2 rfl (by decide) (show decode code 1141 = .ok (.aload_n 0, 1) by decide +kernel) (show decode code 1142 = .ok (.iload_n 3, 1) by decide +kernel) (show decode code 1143 = .ok (.iconst 2, 1) by decide +kernel) (show decode code 1144 = .ok (.iadd, 1) by decide +kernel) (show decode code 1145 = .ok (.iaload, 1) by decide +kernel) ?_
  refine lr_arg X hi 3 3 rfl (by decide) (show decode code 1146 = .ok (.aload_n 0, 1) by decide +kernel) (show decode code 1147 = .ok (.iload_n 3, 1) by decide +kernel) (show decode code 1148 = .ok (.iconst 3, 1) by decide +kernel) (show decode code 1149 = .ok (.iadd, 1) by decide +kernel) (show decode code 1150 = .ok (.iaload, 1) by decide +kernel) ?_
  refine lr_call X cV_X7_get ml_L_134 ⟨by decide, by decide⟩ (o := 0) rfl rfl [.inl ((xs (i + 1)).toInt), .inl ((xs (i + 2)).toInt), .inl ((xs (i + 3)).toInt)] [] rfl (by decide) h1 rfl (show decode code 1151 = .ok (.invokevirtual 134, 3) by decide +kernel) (fun r1 σ1 q1 => ?_)
  obtain ⟨Q2, h2, k2⟩ := k1 r1 σ1 q1
  refine lr_m X (show decode code 1154 = .ok (.aload_n 2, 1) by decide +kernel) ?_
  refine lr_arg X hi 1 1 rfl (by decide) (show decode code 1155 = .ok (.aload_n 0, 1) by decide +kernel) (show decode code 1156 = .ok (.iload_n 3, 1) by decide +kernel) (show decode code 1157 = .ok (.iconst 1, 1) by decide +kernel) (show decode code 1158 = .ok (.iadd, 1) by decide +kernel) (show decode code 1159 = .ok (.iaload, 1) by decide +kernel) ?_
  refine lr_arg X hi 2 2 rfl (by decide) (show decode code 1160 = .ok (.aload_n 0, 1) by decide +kernel) (show decode code 1161 = .ok (.iload_n 3, 1) by decide +kernel) (show decode code 1162 = .ok (.iconst 2, 1) by decide +kernel) (show decode code 1163 = .ok (.iadd, 1) by decide +kernel) (show decode code 1164 = .ok (.iaload, 1) by decide +kernel) ?_
  refine lr_arg X hi 3 3 rfl (by decide) (show decode code 1165 = .ok (.aload_n 0, 1) by decide +kernel) (show decode code 1166 = .ok (.iload_n 3, 1) by decide +kernel) (show decode code 1167 = .ok (.iconst 3, 1) by decide +kernel) (show decode code 1168 = .ok (.iadd, 1) by decide +kernel) (show decode code 1169 = .ok (.iaload, 1) by decide +kernel) ?_
  refine lr_call X cV_X8_get ml_L_137 ⟨by decide, by decide⟩ (o := 26) rfl rfl [.inl ((xs (i + 1)).toInt), .inl ((xs (i + 2)).toInt), .inl ((xs (i + 3)).toInt)] r1.toList rfl (by cases r1 <;> simp) h2 (by simp) (show decode code 1170 = .ok (.invokevirtual 137, 3) by decide +kernel) (fun r2 σ2 q2 => ?_)
  obtain ⟨x, e1, e2, J2⟩ := k2 r2 σ2 q2
  subst e1
  subst e2
  exact lr_eq X 1367 (by decide) (show decode code 1173 = .ok (.if_icmp .eq 194, 3) by decide +kernel) (kk σ2 J2)
set_option maxRecDepth 20000 in
theorem lc_30 {p : Program} {l : Launch} {e : Env} {s : State} {m : MethodId} {below : List Frame} {meth : Method} {c : Code} {b L : Nat} {xs : Nat → Int32} {D : va_G} {c3 : sw_C3} {ad : Nat → Nat} {i : Nat} {σ : sw_S} {N : Int} (X : lw_X p s m meth c b L xs D c3 ad) (hi : i + 6 ≤ L) (hN : 0 ≤ N ∧ N ≤ 900000) (J : sw_J N σ σ) (kk : ∀ σ2, sw_J (N + 400) σ2 σ2 → lw_E p l e s m below meth c b D c3 ad 1367 i [] σ2) : lw_E p l e s m below meth c b D c3 ad 1178 i [] σ := by
  obtain ⟨Q1, h1, k1⟩ := st_copy N hN σ J ((xs (i + 1)).toInt) ((xs (i + 2)).toInt) ((xs (i + 3)).toInt) ((xs (i + 4)).toInt) ((xs (i + 5)).toInt) (sw_i32g _) (sw_i32g _) (sw_i32g _) (sw_i32g _) (sw_i32g _)
  refine lr_x X (show decode code 1178 = .ok (.aload_n 1, 1) by decide +kernel) ?_
  refine lr_arg X hi 1 1 rfl (by decide) (show decode code 1179 = .ok (.aload_n 0, 1) by decide +kernel) (show decode code 1180 = .ok (.iload_n 3, 1) by decide +kernel) (show decode code 1181 = .ok (.iconst 1, 1) by decide +kernel) (show decode code 1182 = .ok (.iadd, 1) by decide +kernel) (show decode code 1183 = .ok (.iaload, 1) by decide +kernel) ?_
  refine lr_arg X hi 2 2 rfl (by decide) (show decode code 1184 = .ok (.aload_n 0, 1) by decide +kernel) (show decode code 1185 = .ok (.iload_n 3, 1) by decide +kernel) (show decode code 1186 = .ok (.iconst 2, 1) by decide +kernel) (show decode code 1187 = .ok (.iadd, 1) by decide +kernel) (show decode code 1188 = .ok (.iaload, 1) by decide +kernel) ?_
  refine lr_arg X hi 3 3 rfl (by decide) (show decode code 1189 = .ok (.aload_n 0, 1) by decide +kernel) (show decode code 1190 = .ok (.iload_n 3, 1) by decide +kernel) (show decode code 1191 = .ok (.iconst 3, 1) by decide +kernel) (show decode code 1192 = .ok (.iadd, 1) by decide +kernel) (show decode code 1193 = .ok (.iaload, 1) by decide +kernel) ?_
  refine lr_arg X hi 4 4 rfl (by decide) (show decode code 1194 = .ok (.aload_n 0, 1) by decide +kernel) (show decode code 1195 = .ok (.iload_n 3, 1) by decide +kernel) (show decode code 1196 = .ok (.iconst 4, 1) by decide +kernel) (show decode code 1197 = .ok (.iadd, 1) by decide +kernel) (show decode code 1198 = .ok (.iaload, 1) by decide +kernel) ?_
  refine lr_arg X hi 5 5 rfl (by decide) (show decode code 1199 = .ok (.aload_n 0, 1) by decide +kernel) (show decode code 1200 = .ok (.iload_n 3, 1) by decide +kernel) (show decode code 1201 = .ok (.iconst 5, 1) by decide +kernel) (show decode code 1202 = .ok (.iadd, 1) by decide +kernel) (show decode code 1203 = .ok (.iaload, 1) by decide +kernel) ?_
  refine lr_call X cV_X7_copy ml_L_138 ⟨by decide, by decide⟩ (o := 0) rfl rfl [.inl ((xs (i + 1)).toInt), .inl ((xs (i + 2)).toInt), .inl ((xs (i + 3)).toInt), .inl ((xs (i + 4)).toInt), .inl ((xs (i + 5)).toInt)] [] rfl (by decide) h1 rfl (show decode code 1204 = .ok (.invokevirtual 138, 3) by decide +kernel) (fun r1 σ1 q1 => ?_)
  obtain ⟨Q2, h2, k2⟩ := k1 r1 σ1 q1
  refine lr_m X (show decode code 1207 = .ok (.aload_n 2, 1) by decide +kernel) ?_
  refine lr_arg X hi 1 1 rfl (by decide) (show decode code 1208 = .ok (.aload_n 0, 1) by decide +kernel) (show decode code 1209 = .ok (.iload_n 3, 1) by decide +kernel) (show decode code 1210 = .ok (.iconst 1, 1) by decide +kernel) (show decode code 1211 = .ok (.iadd, 1) by decide +kernel) (show decode code 1212 = .ok (.iaload, 1) by decide +kernel) ?_
  refine lr_arg X hi 2 2 rfl (by decide) (show decode code 1213 = .ok (.aload_n 0, 1) by decide +kernel) (show decode code 1214 = .ok (.iload_n 3, 1) by decide +kernel) (show decode code 1215 = .ok (.iconst 2, 1) by decide +kernel) (show decode code 1216 = .ok (.iadd, 1) by decide +kernel) (show decode code 1217 = .ok (.iaload, 1) by decide +kernel) ?_
  refine lr_arg X hi 3 3 rfl (by decide) (show decode code 1218 = .ok (.aload_n 0, 1) by decide +kernel) (show decode code 1219 = .ok (.iload_n 3, 1) by decide +kernel) (show decode code 1220 = .ok (.iconst 3, 1) by decide +kernel) (show decode code 1221 = .ok (.iadd, 1) by decide +kernel) (show decode code 1222 = .ok (.iaload, 1) by decide +kernel) ?_
  refine lr_arg X hi 4 4 rfl (by decide) (show decode code 1223 = .ok (.aload_n 0, 1) by decide +kernel) (show decode code 1224 = .ok (.iload_n 3, 1) by decide +kernel) (show decode code 1225 = .ok (.iconst 4, 1) by decide +kernel) (show decode code 1226 = .ok (.iadd, 1) by decide +kernel) (show decode code 1227 = .ok (.iaload, 1) by decide +kernel) ?_
  refine lr_arg X hi 5 5 rfl (by decide) (show decode code 1228 = .ok (.aload_n 0, 1) by decide +kernel) (show decode code 1229 = .ok (.iload_n 3, 1) by decide +kernel) (show decode code 1230 = .ok (.iconst 5, 1) by decide +kernel) (show decode code 1231 = .ok (.iadd, 1) by decide +kernel) (show decode code 1232 = .ok (.iaload, 1) by decide +kernel) ?_
  refine lr_call X cV_X8_copy ml_L_142 ⟨by decide, by decide⟩ (o := 26) rfl rfl [.inl ((xs (i + 1)).toInt), .inl ((xs (i + 2)).toInt), .inl ((xs (i + 3)).toInt), .inl ((xs (i + 4)).toInt), .inl ((xs (i + 5)).toInt)] r1.toList rfl (by cases r1 <;> simp) h2 (by simp) (show decode code 1233 = .ok (.invokevirtual 142, 3) by decide +kernel) (fun r2 σ2 q2 => ?_)
  obtain ⟨x, e1, e2, J2⟩ := k2 r2 σ2 q2
  subst e1
  subst e2
  exact lr_eq X 1367 (by decide) (show decode code 1236 = .ok (.if_icmp .eq 131, 3) by decide +kernel) (kk σ2 J2)
set_option maxRecDepth 20000 in
theorem lc_31 {p : Program} {l : Launch} {e : Env} {s : State} {m : MethodId} {below : List Frame} {meth : Method} {c : Code} {b L : Nat} {xs : Nat → Int32} {D : va_G} {c3 : sw_C3} {ad : Nat → Nat} {i : Nat} {σ : sw_S} {N : Int} (X : lw_X p s m meth c b L xs D c3 ad) (hi : i + 6 ≤ L) (hN : 0 ≤ N ∧ N ≤ 900000) (J : sw_J N σ σ) (kk : ∀ σ2, sw_J (N + 400) σ2 σ2 → lw_E p l e s m below meth c b D c3 ad 1367 i [] σ2) : lw_E p l e s m below meth c b D c3 ad 1241 i [] σ := by
  obtain ⟨Q1, h1, k1⟩ := st_read N hN σ J ((xs (i + 1)).toInt) (sw_i32g _)
  refine lr_x X (show decode code 1241 = .ok (.aload_n 1, 1) by decide +kernel) ?_
  refine lr_arg X hi 1 1 rfl (by decide) (show decode code 1242 = .ok (.aload_n 0, 1) by decide +kernel) (show decode code 1243 = .ok (.iload_n 3, 1) by decide +kernel) (show decode code 1244 = .ok (.iconst 1, 1) by decide +kernel) (show decode code 1245 = .ok (.iadd, 1) by decide +kernel) (show decode code 1246 = .ok (.iaload, 1) by decide +kernel) ?_
  refine lr_call X cV_X7_read ml_L_143 ⟨by decide, by decide⟩ (o := 0) rfl rfl [.inl ((xs (i + 1)).toInt)] [] rfl (by decide) h1 rfl (show decode code 1247 = .ok (.invokevirtual 143, 3) by decide +kernel) (fun r1 σ1 q1 => ?_)
  obtain ⟨Q2, h2, k2⟩ := k1 r1 σ1 q1
  refine lr_m X (show decode code 1250 = .ok (.aload_n 2, 1) by decide +kernel) ?_
  refine lr_arg X hi 1 1 rfl (by decide) (show decode code 1251 = .ok (.aload_n 0, 1) by decide +kernel) (show decode code 1252 = .ok (.iload_n 3, 1) by decide +kernel) (show decode code 1253 = .ok (.iconst 1, 1) by decide +kernel) (show decode code 1254 = .ok (.iadd, 1) by decide +kernel) (show decode code 1255 = .ok (.iaload, 1) by decide +kernel) ?_
  refine lr_call X cV_X8_read ml_L_146 ⟨by decide, by decide⟩ (o := 26) rfl rfl [.inl ((xs (i + 1)).toInt)] r1.toList rfl (by cases r1 <;> simp) h2 (by simp) (show decode code 1256 = .ok (.invokevirtual 146, 3) by decide +kernel) (fun r2 σ2 q2 => ?_)
  obtain ⟨x, e1, e2, J2⟩ := k2 r2 σ2 q2
  subst e1
  subst e2
  exact lr_eq X 1367 (by decide) (show decode code 1259 = .ok (.if_icmp .eq 108, 3) by decide +kernel) (kk σ2 J2)
set_option maxRecDepth 20000 in
theorem lc_32 {p : Program} {l : Launch} {e : Env} {s : State} {m : MethodId} {below : List Frame} {meth : Method} {c : Code} {b L : Nat} {xs : Nat → Int32} {D : va_G} {c3 : sw_C3} {ad : Nat → Nat} {i : Nat} {σ : sw_S} {N : Int} (X : lw_X p s m meth c b L xs D c3 ad) (hi : i + 6 ≤ L) (hN : 0 ≤ N ∧ N ≤ 900000) (J : sw_J N σ σ) (kk : ∀ σ2, sw_J (N + 400) σ2 σ2 → lw_E p l e s m below meth c b D c3 ad 1367 i [] σ2) : lw_E p l e s m below meth c b D c3 ad 1264 i [] σ := by
  obtain ⟨Q1, h1, k1⟩ := st_write N hN σ J ((xs (i + 1)).toInt) ((xs (i + 2)).toInt) (sw_i32g _) (sw_i32g _)
  refine lr_x X (show decode code 1264 = .ok (.aload_n 1, 1) by decide +kernel) ?_
  refine lr_arg X hi 1 1 rfl (by decide) (show decode code 1265 = .ok (.aload_n 0, 1) by decide +kernel) (show decode code 1266 = .ok (.iload_n 3, 1) by decide +kernel) (show decode code 1267 = .ok (.iconst 1, 1) by decide +kernel) (show decode code 1268 = .ok (.iadd, 1) by decide +kernel) (show decode code 1269 = .ok (.iaload, 1) by decide +kernel) ?_
  refine lr_arg X hi 2 2 rfl (by decide) (show decode code 1270 = .ok (.aload_n 0, 1) by decide +kernel) (show decode code 1271 = .ok (.iload_n 3, 1) by decide +kernel) (show decode code 1272 = .ok (.iconst 2, 1) by decide +kernel) (show decode code 1273 = .ok (.iadd, 1) by decide +kernel) (show decode code 1274 = .ok (.iaload, 1) by decide +kernel) ?_
  refine lr_call X cV_X7_write ml_L_147 ⟨by decide, by decide⟩ (o := 0) rfl rfl [.inl ((xs (i + 1)).toInt), .inl ((xs (i + 2)).toInt)] [] rfl (by decide) h1 rfl (show decode code 1275 = .ok (.invokevirtual 147, 3) by decide +kernel) (fun r1 σ1 q1 => ?_)
  obtain ⟨Q2, h2, k2⟩ := k1 r1 σ1 q1
  refine lr_m X (show decode code 1278 = .ok (.aload_n 2, 1) by decide +kernel) ?_
  refine lr_arg X hi 1 1 rfl (by decide) (show decode code 1279 = .ok (.aload_n 0, 1) by decide +kernel) (show decode code 1280 = .ok (.iload_n 3, 1) by decide +kernel) (show decode code 1281 = .ok (.iconst 1, 1) by decide +kernel) (show decode code 1282 = .ok (.iadd, 1) by decide +kernel) (show decode code 1283 = .ok (.iaload, 1) by decide +kernel) ?_
  refine lr_arg X hi 2 2 rfl (by decide) (show decode code 1284 = .ok (.aload_n 0, 1) by decide +kernel) (show decode code 1285 = .ok (.iload_n 3, 1) by decide +kernel) (show decode code 1286 = .ok (.iconst 2, 1) by decide +kernel) (show decode code 1287 = .ok (.iadd, 1) by decide +kernel) (show decode code 1288 = .ok (.iaload, 1) by decide +kernel) ?_
  refine lr_call X cV_X8_write ml_L_150 ⟨by decide, by decide⟩ (o := 26) rfl rfl [.inl ((xs (i + 1)).toInt), .inl ((xs (i + 2)).toInt)] r1.toList rfl (by cases r1 <;> simp) h2 (by simp) (show decode code 1289 = .ok (.invokevirtual 150, 3) by decide +kernel) (fun r2 σ2 q2 => ?_)
  obtain ⟨x, e1, e2, J2⟩ := k2 r2 σ2 q2
  subst e1
  subst e2
  exact lr_eq X 1367 (by decide) (show decode code 1292 = .ok (.if_icmp .eq 75, 3) by decide +kernel) (kk σ2 J2)
set_option maxRecDepth 20000 in
theorem lc_33 {p : Program} {l : Launch} {e : Env} {s : State} {m : MethodId} {below : List Frame} {meth : Method} {c : Code} {b L : Nat} {xs : Nat → Int32} {D : va_G} {c3 : sw_C3} {ad : Nat → Nat} {i : Nat} {σ : sw_S} {N : Int} (X : lw_X p s m meth c b L xs D c3 ad) (hi : i + 6 ≤ L) (hN : 0 ≤ N ∧ N ≤ 900000) (J : sw_J N σ σ) (kk : ∀ σ2, sw_J (N + 400) σ2 σ2 → lw_E p l e s m below meth c b D c3 ad 1367 i [] σ2) : lw_E p l e s m below meth c b D c3 ad 1297 i [] σ := by
  obtain ⟨Q1, h1, k1⟩ := st_plan N hN σ J ((xs (i + 1)).toInt) ((xs (i + 2)).toInt) (sw_i32g _) (sw_i32g _)
  refine lr_x X (show decode code 1297 = .ok (.aload_n 1, 1) by decide +kernel) ?_
  refine lr_arg X hi 1 1 rfl (by decide) (show decode code 1298 = .ok (.aload_n 0, 1) by decide +kernel) (show decode code 1299 = .ok (.iload_n 3, 1) by decide +kernel) (show decode code 1300 = .ok (.iconst 1, 1) by decide +kernel) (show decode code 1301 = .ok (.iadd, 1) by decide +kernel) (show decode code 1302 = .ok (.iaload, 1) by decide +kernel) ?_
  refine lr_arg X hi 2 2 rfl (by decide) (show decode code 1303 = .ok (.aload_n 0, 1) by decide +kernel) (show decode code 1304 = .ok (.iload_n 3, 1) by decide +kernel) (show decode code 1305 = .ok (.iconst 2, 1) by decide +kernel) (show decode code 1306 = .ok (.iadd, 1) by decide +kernel) (show decode code 1307 = .ok (.iaload, 1) by decide +kernel) ?_
  refine lr_call X cV_X7_plan ml_L_151 ⟨by decide, by decide⟩ (o := 0) rfl rfl [.inl ((xs (i + 1)).toInt), .inl ((xs (i + 2)).toInt)] [] rfl (by decide) h1 rfl (show decode code 1308 = .ok (.invokevirtual 151, 3) by decide +kernel) (fun r1 σ1 q1 => ?_)
  obtain ⟨Q2, h2, k2⟩ := k1 r1 σ1 q1
  refine lr_m X (show decode code 1311 = .ok (.aload_n 2, 1) by decide +kernel) ?_
  refine lr_arg X hi 1 1 rfl (by decide) (show decode code 1312 = .ok (.aload_n 0, 1) by decide +kernel) (show decode code 1313 = .ok (.iload_n 3, 1) by decide +kernel) (show decode code 1314 = .ok (.iconst 1, 1) by decide +kernel) (show decode code 1315 = .ok (.iadd, 1) by decide +kernel) (show decode code 1316 = .ok (.iaload, 1) by decide +kernel) ?_
  refine lr_arg X hi 2 2 rfl (by decide) (show decode code 1317 = .ok (.aload_n 0, 1) by decide +kernel) (show decode code 1318 = .ok (.iload_n 3, 1) by decide +kernel) (show decode code 1319 = .ok (.iconst 2, 1) by decide +kernel) (show decode code 1320 = .ok (.iadd, 1) by decide +kernel) (show decode code 1321 = .ok (.iaload, 1) by decide +kernel) ?_
  refine lr_call X cV_X8_plan ml_L_154 ⟨by decide, by decide⟩ (o := 26) rfl rfl [.inl ((xs (i + 1)).toInt), .inl ((xs (i + 2)).toInt)] r1.toList rfl (by cases r1 <;> simp) h2 (by simp) (show decode code 1322 = .ok (.invokevirtual 154, 3) by decide +kernel) (fun r2 σ2 q2 => ?_)
  obtain ⟨x, e1, e2, J2⟩ := k2 r2 σ2 q2
  subst e1
  subst e2
  exact lr_eq X 1367 (by decide) (show decode code 1325 = .ok (.if_icmp .eq 42, 3) by decide +kernel) (kk σ2 J2)
set_option maxRecDepth 20000 in
theorem lc_34 {p : Program} {l : Launch} {e : Env} {s : State} {m : MethodId} {below : List Frame} {meth : Method} {c : Code} {b L : Nat} {xs : Nat → Int32} {D : va_G} {c3 : sw_C3} {ad : Nat → Nat} {i : Nat} {σ : sw_S} {N : Int} (X : lw_X p s m meth c b L xs D c3 ad) (hi : i + 6 ≤ L) (hN : 0 ≤ N ∧ N ≤ 900000) (J : sw_J N σ σ) (kk : ∀ σ2, sw_J (N + 400) σ2 σ2 → lw_E p l e s m below meth c b D c3 ad 1367 i [] σ2) : lw_E p l e s m below meth c b D c3 ad 1330 i [] σ := by
  obtain ⟨Q1, h1, k1⟩ := st_check N hN σ J ((xs (i + 1)).toInt) (sw_i32g _)
  refine lr_x X (show decode code 1330 = .ok (.aload_n 1, 1) by decide +kernel) ?_
  refine lr_arg X hi 1 1 rfl (by decide) (show decode code 1331 = .ok (.aload_n 0, 1) by decide +kernel) (show decode code 1332 = .ok (.iload_n 3, 1) by decide +kernel) (show decode code 1333 = .ok (.iconst 1, 1) by decide +kernel) (show decode code 1334 = .ok (.iadd, 1) by decide +kernel) (show decode code 1335 = .ok (.iaload, 1) by decide +kernel) ?_
  refine lr_call X cV_X7_check ml_L_155 ⟨by decide, by decide⟩ (o := 0) rfl rfl [.inl ((xs (i + 1)).toInt)] [] rfl (by decide) h1 rfl (show decode code 1336 = .ok (.invokevirtual 155, 3) by decide +kernel) (fun r1 σ1 q1 => ?_)
  obtain ⟨Q2, h2, k2⟩ := k1 r1 σ1 q1
  refine lr_m X (show decode code 1339 = .ok (.aload_n 2, 1) by decide +kernel) ?_
  refine lr_arg X hi 1 1 rfl (by decide) (show decode code 1340 = .ok (.aload_n 0, 1) by decide +kernel) (show decode code 1341 = .ok (.iload_n 3, 1) by decide +kernel) (show decode code 1342 = .ok (.iconst 1, 1) by decide +kernel) (show decode code 1343 = .ok (.iadd, 1) by decide +kernel) (show decode code 1344 = .ok (.iaload, 1) by decide +kernel) ?_
  refine lr_call X cV_X8_check ml_L_158 ⟨by decide, by decide⟩ (o := 26) rfl rfl [.inl ((xs (i + 1)).toInt)] r1.toList rfl (by cases r1 <;> simp) h2 (by simp) (show decode code 1345 = .ok (.invokevirtual 158, 3) by decide +kernel) (fun r2 σ2 q2 => ?_)
  obtain ⟨x, e1, e2, J2⟩ := k2 r2 σ2 q2
  subst e1
  subst e2
  exact lr_eq X 1367 (by decide) (show decode code 1348 = .ok (.if_icmp .eq 19, 3) by decide +kernel) (kk σ2 J2)
set_option maxRecDepth 20000 in
theorem lc_35 {p : Program} {l : Launch} {e : Env} {s : State} {m : MethodId} {below : List Frame} {meth : Method} {c : Code} {b L : Nat} {xs : Nat → Int32} {D : va_G} {c3 : sw_C3} {ad : Nat → Nat} {i : Nat} {σ : sw_S} {N : Int} (X : lw_X p s m meth c b L xs D c3 ad) (hi : i + 6 ≤ L) (hN : 0 ≤ N ∧ N ≤ 900000) (J : sw_J N σ σ) (kk : ∀ σ2, sw_J (N + 400) σ2 σ2 → lw_E p l e s m below meth c b D c3 ad 1367 i [] σ2) : lw_E p l e s m below meth c b D c3 ad 1353 i [] σ := by
  obtain ⟨Q1, h1, k1⟩ := st_digest N σ J
  refine lr_x X (show decode code 1353 = .ok (.aload_n 1, 1) by decide +kernel) ?_
  refine lr_call X cV_X7_digest ml_L_159 ⟨by decide, by decide⟩ (o := 0) rfl rfl [] [] rfl (by decide) h1 rfl (show decode code 1354 = .ok (.invokevirtual 159, 3) by decide +kernel) (fun r1 σ1 q1 => ?_)
  obtain ⟨Q2, h2, k2⟩ := k1 r1 σ1 q1
  refine lr_m X (show decode code 1357 = .ok (.aload_n 2, 1) by decide +kernel) ?_
  refine lr_call X cV_X8_digest ml_L_163 ⟨by decide, by decide⟩ (o := 26) rfl rfl [] r1.toList rfl (by cases r1 <;> simp) h2 (by simp) (show decode code 1358 = .ok (.invokevirtual 163, 3) by decide +kernel) (fun r2 σ2 q2 => ?_)
  obtain ⟨x, e1, e2, J2⟩ := k2 r2 σ2 q2
  subst e1
  subst e2
  exact lr_leq X 1367 (show decode code 1361 = .ok (.lcmp, 1) by decide +kernel) (by decide) (show decode code 1362 = .ok (.ifCond .eq 5, 3) by decide +kernel) (kk σ2 J2)
