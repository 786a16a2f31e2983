theorem dL_law_873 : decode cL_law 873 = .ok (.aload_n 1, 1) := by decide +kernel
theorem dL_law_874 : decode cL_law 874 = .ok (.aload_n 0, 1) := by decide +kernel
theorem dL_law_875 : decode cL_law 875 = .ok (.iload_n 3, 1) := by decide +kernel
theorem dL_law_876 : decode cL_law 876 = .ok (.iconst 1, 1) := by decide +kernel
theorem dL_law_877 : decode cL_law 877 = .ok (.iadd, 1) := by decide +kernel
theorem dL_law_878 : decode cL_law 878 = .ok (.iaload, 1) := by decide +kernel
theorem dL_law_879 : decode cL_law 879 = .ok (.aload_n 0, 1) := by decide +kernel
theorem dL_law_880 : decode cL_law 880 = .ok (.iload_n 3, 1) := by decide +kernel
theorem dL_law_881 : decode cL_law 881 = .ok (.iconst 2, 1) := by decide +kernel
theorem dL_law_882 : decode cL_law 882 = .ok (.iadd, 1) := by decide +kernel
theorem dL_law_883 : decode cL_law 883 = .ok (.iaload, 1) := by decide +kernel
theorem dL_law_884 : decode cL_law 884 = .ok (.invokevirtual 95, 3) := by decide +kernel
theorem dL_law_887 : decode cL_law 887 = .ok (.aload_n 2, 1) := by decide +kernel
theorem dL_law_888 : decode cL_law 888 = .ok (.aload_n 0, 1) := by decide +kernel
theorem dL_law_889 : decode cL_law 889 = .ok (.iload_n 3, 1) := by decide +kernel
theorem dL_law_890 : decode cL_law 890 = .ok (.iconst 1, 1) := by decide +kernel
theorem dL_law_891 : decode cL_law 891 = .ok (.iadd, 1) := by decide +kernel
theorem dL_law_892 : decode cL_law 892 = .ok (.iaload, 1) := by decide +kernel
theorem dL_law_893 : decode cL_law 893 = .ok (.aload_n 0, 1) := by decide +kernel
theorem dL_law_894 : decode cL_law 894 = .ok (.iload_n 3, 1) := by decide +kernel
theorem dL_law_895 : decode cL_law 895 = .ok (.iconst 2, 1) := by decide +kernel
theorem dL_law_896 : decode cL_law 896 = .ok (.iadd, 1) := by decide +kernel
theorem dL_law_897 : decode cL_law 897 = .ok (.iaload, 1) := by decide +kernel
theorem dL_law_898 : decode cL_law 898 = .ok (.invokevirtual 98, 3) := by decide +kernel
theorem dL_law_901 : decode cL_law 901 = .ok (.if_icmp .eq 742, 3) := by decide +kernel
theorem dL_law_904 : decode cL_law 904 = .ok (.iconst 0, 1) := by decide +kernel
theorem dL_law_905 : decode cL_law 905 = .ok (.ireturn, 1) := by decide +kernel
set_option maxRecDepth 20000 in
set_option maxHeartbeats 4000000 in
theorem C_law_19 {nm : String} (K : xK) (L : xL) (k : Int32 → xH → Option (Int32 × xH)) (a0 a1 a2 : Nat) (hk : ∀ (a3 : Int32) (h : xH), Sim K L cL_law RL nm 4 8 (fun q : Int32 × xH => q.2) (xRz cL_law) 1643 [(0, .ref a0), (1, .ref a1), (2, .ref a2), (3, .int a3)] [] h (k a3 h)) (a3 : Int32) (h : xH) : Sim K L cL_law RL nm 4 8 (fun q : Int32 × xH => q.2) (xRz cL_law) 873 [(0, .ref a0), (1, .ref a1), (2, .ref a2), (3, .int a3)] [] h (f_law_c19 k a0 a1 a2 a3 h) := by
  unfold f_law_c19
  refine S_aload_n (pc := 873) 1 rfl dL_law_873 rfl ?_
  refine S_aload_n (pc := 874) 0 rfl dL_law_874 rfl ?_
  refine S_iload_n (pc := 875) 3 rfl dL_law_875 rfl ?_
  refine S_iconst (pc := 876) dL_law_876 ic_1 ?_
  refine S_iadd (pc := 877) dL_law_877 ?_
  refine S_aI (pc := 878) dL_law_878 (fun v1 => ?_)
  refine S_aload_n (pc := 879) 0 rfl dL_law_879 rfl ?_
  refine S_iload_n (pc := 880) 3 rfl dL_law_880 rfl ?_
  refine S_iconst (pc := 881) dL_law_881 ic_2 ?_
  refine S_iadd (pc := 882) dL_law_882 ?_
  refine S_aI (pc := 883) dL_law_883 (fun v2 => ?_)
  refine S_call_i (pc := 884) (rest := []) (fun q hq => (x_if hq).elim (fun z => R_V (av := [.int v1, .int v2]) (q := (RX11, TX11, 12)) (M_X11_size _ a1 v1 v2 h z.2) z.1 rfl wd_582 wd_579 wd_580 wd_44 wd_581 ⟨rfl, hd_X11_size⟩ ⟨Nat.le_of_ble_eq_true rfl, Nat.le_of_ble_eq_true rfl⟩ rfl (Nat.le_of_ble_eq_true rfl) dL_law_884) (fun hq => (by cases hq))) (fun _ h => absurd h List.not_mem_nil) (fun q3 => ?_)
  refine S_aload_n (pc := 887) 2 rfl dL_law_887 rfl ?_
  refine S_aload_n (pc := 888) 0 rfl dL_law_888 rfl ?_
  refine S_iload_n (pc := 889) 3 rfl dL_law_889 rfl ?_
  refine S_iconst (pc := 890) dL_law_890 ic_1 ?_
  refine S_iadd (pc := 891) dL_law_891 ?_
  refine S_aI (pc := 892) dL_law_892 (fun v4 => ?_)
  refine S_aload_n (pc := 893) 0 rfl dL_law_893 rfl ?_
  refine S_iload_n (pc := 894) 3 rfl dL_law_894 rfl ?_
  refine S_iconst (pc := 895) dL_law_895 ic_2 ?_
  refine S_iadd (pc := 896) dL_law_896 ?_
  refine S_aI (pc := 897) dL_law_897 (fun v5 => ?_)
  refine S_call_i (pc := 898) (rest := [.int q3.1]) (fun q hq => (x_if hq).elim (fun z => R_V (av := [.int v4, .int v5]) (q := (RX12, TX12, 28)) (M_X12_size _ a2 v4 v5 q3.2 z.2) z.1 rfl wd_1092 wd_1089 wd_1090 wd_50 wd_1091 ⟨rfl, hd_X12_size⟩ ⟨Nat.le_of_ble_eq_true rfl, Nat.le_of_ble_eq_true rfl⟩ rfl (Nat.le_of_ble_eq_true rfl) dL_law_898) (fun hq => (by cases hq))) (fun _ h => List.mem_cons_of_mem _ (List.mem_cons_of_mem _ (List.mem_cons_of_mem _ (h)))) (fun q6 => ?_)
  refine S_icmp_eq (pc := 901) (tgt := 1643) dL_law_901 (by decide) ?_ ?_
  · refine S_sub [0, 1, 2, 3] rfl ?_
    exact hk a3 q6.2
  · refine S_iconst (pc := 904) dL_law_904 ic_0 ?_
    exact Sim.fin ⟨dL_law_905, rfl, rfl, x_nar (Or.inl rfl)⟩ rfl
theorem dL_law_906 : decode cL_law 906 = .ok (.aload_n 1, 1) := by decide +kernel
theorem dL_law_907 : decode cL_law 907 = .ok (.aload_n 0, 1) := by decide +kernel
theorem dL_law_908 : decode cL_law 908 = .ok (.iload_n 3, 1) := by decide +kernel
theorem dL_law_909 : decode cL_law 909 = .ok (.iconst 1, 1) := by decide +kernel
theorem dL_law_910 : decode cL_law 910 = .ok (.iadd, 1) := by decide +kernel
theorem dL_law_911 : decode cL_law 911 = .ok (.iaload, 1) := by decide +kernel
theorem dL_law_912 : decode cL_law 912 = .ok (.aload_n 0, 1) := by decide +kernel
theorem dL_law_913 : decode cL_law 913 = .ok (.iload_n 3, 1) := by decide +kernel
theorem dL_law_914 : decode cL_law 914 = .ok (.iconst 2, 1) := by decide +kernel
theorem dL_law_915 : decode cL_law 915 = .ok (.iadd, 1) := by decide +kernel
theorem dL_law_916 : decode cL_law 916 = .ok (.iaload, 1) := by decide +kernel
theorem dL_law_917 : decode cL_law 917 = .ok (.invokevirtual 99, 3) := by decide +kernel
theorem dL_law_920 : decode cL_law 920 = .ok (.aload_n 2, 1) := by decide +kernel
theorem dL_law_921 : decode cL_law 921 = .ok (.aload_n 0, 1) := by decide +kernel
theorem dL_law_922 : decode cL_law 922 = .ok (.iload_n 3, 1) := by decide +kernel
theorem dL_law_923 : decode cL_law 923 = .ok (.iconst 1, 1) := by decide +kernel
theorem dL_law_924 : decode cL_law 924 = .ok (.iadd, 1) := by decide +kernel
theorem dL_law_925 : decode cL_law 925 = .ok (.iaload, 1) := by decide +kernel
theorem dL_law_926 : decode cL_law 926 = .ok (.aload_n 0, 1) := by decide +kernel
theorem dL_law_927 : decode cL_law 927 = .ok (.iload_n 3, 1) := by decide +kernel
theorem dL_law_928 : decode cL_law 928 = .ok (.iconst 2, 1) := by decide +kernel
theorem dL_law_929 : decode cL_law 929 = .ok (.iadd, 1) := by decide +kernel
theorem dL_law_930 : decode cL_law 930 = .ok (.iaload, 1) := by decide +kernel
theorem dL_law_931 : decode cL_law 931 = .ok (.invokevirtual 103, 3) := by decide +kernel
theorem dL_law_934 : decode cL_law 934 = .ok (.lcmp, 1) := by decide +kernel
theorem dL_law_935 : decode cL_law 935 = .ok (.ifCond .eq 708, 3) := by decide +kernel
theorem dL_law_938 : decode cL_law 938 = .ok (.iconst 0, 1) := by decide +kernel
theorem dL_law_939 : decode cL_law 939 = .ok (.ireturn, 1) := by decide +kernel
set_option maxRecDepth 20000 in
set_option maxHeartbeats 4000000 in
theorem C_law_20 {nm : String} (K : xK) (L : xL) (k : Int32 → xH → Option (Int32 × xH)) (a0 a1 a2 : Nat) (hk : ∀ (a3 : Int32) (h : xH), Sim K L cL_law RL nm 4 8 (fun q : Int32 × xH => q.2) (xRz cL_law) 1643 [(0, .ref a0), (1, .ref a1), (2, .ref a2), (3, .int a3)] [] h (k a3 h)) (a3 : Int32) (h : xH) : Sim K L cL_law RL nm 4 8 (fun q : Int32 × xH => q.2) (xRz cL_law) 906 [(0, .ref a0), (1, .ref a1), (2, .ref a2), (3, .int a3)] [] h (f_law_c20 k a0 a1 a2 a3 h) := by
  unfold f_law_c20
  refine S_aload_n (pc := 906) 1 rfl dL_law_906 rfl ?_
  refine S_aload_n (pc := 907) 0 rfl dL_law_907 rfl ?_
  refine S_iload_n (pc := 908) 3 rfl dL_law_908 rfl ?_
  refine S_iconst (pc := 909) dL_law_909 ic_1 ?_
  refine S_iadd (pc := 910) dL_law_910 ?_
  refine S_aI (pc := 911) dL_law_911 (fun v1 => ?_)
  refine S_aload_n (pc := 912) 0 rfl dL_law_912 rfl ?_
  refine S_iload_n (pc := 913) 3 rfl dL_law_913 rfl ?_
  refine S_iconst (pc := 914) dL_law_914 ic_2 ?_
  refine S_iadd (pc := 915) dL_law_915 ?_
  refine S_aI (pc := 916) dL_law_916 (fun v2 => ?_)
  refine S_call_l (pc := 917) (rest := []) (fun q hq => (x_if hq).elim (fun z => R_V (av := [.int v1, .int v2]) (q := (RX11, TX11, 12)) (M_X11_payload _ a1 v1 v2 h z.2) z.1 rfl wd_591 wd_588 wd_589 wd_44 wd_590 ⟨rfl, hd_X11_payload⟩ ⟨Nat.le_of_ble_eq_true rfl, Nat.le_of_ble_eq_true rfl⟩ rfl (Nat.le_of_ble_eq_true rfl) dL_law_917) (fun hq => (by cases hq))) (fun _ h => absurd h List.not_mem_nil) (fun q3 => ?_)
  refine S_aload_n (pc := 920) 2 rfl dL_law_920 rfl ?_
  refine S_aload_n (pc := 921) 0 rfl dL_law_921 rfl ?_
  refine S_iload_n (pc := 922) 3 rfl dL_law_922 rfl ?_
  refine S_iconst (pc := 923) dL_law_923 ic_1 ?_
  refine S_iadd (pc := 924) dL_law_924 ?_
  refine S_aI (pc := 925) dL_law_925 (fun v4 => ?_)
  refine S_aload_n (pc := 926) 0 rfl dL_law_926 rfl ?_
  refine S_iload_n (pc := 927) 3 rfl dL_law_927 rfl ?_
  refine S_iconst (pc := 928) dL_law_928 ic_2 ?_
  refine S_iadd (pc := 929) dL_law_929 ?_
  refine S_aI (pc := 930) dL_law_930 (fun v5 => ?_)
  refine S_call_l (pc := 931) (rest := [.long q3.1]) (fun q hq => (x_if hq).elim (fun z => R_V (av := [.int v4, .int v5]) (q := (RX12, TX12, 28)) (M_X12_payload _ a2 v4 v5 q3.2 z.2) z.1 rfl wd_1096 wd_1093 wd_1094 wd_50 wd_1095 ⟨rfl, hd_X12_payload⟩ ⟨Nat.le_of_ble_eq_true rfl, Nat.le_of_ble_eq_true rfl⟩ rfl (Nat.le_of_ble_eq_true rfl) dL_law_931) (fun hq => (by cases hq))) (fun _ h => List.mem_cons_of_mem _ (List.mem_cons_of_mem _ (List.mem_cons_of_mem _ (h)))) (fun q6 => ?_)
  refine S_lcmp (pc := 934) dL_law_934 ?_
  refine S_if_eq (pc := 935) (tgt := 1643) dL_law_935 (by decide) ?_ ?_
  · refine S_sub [0, 1, 2, 3] rfl ?_
    exact hk a3 q6.2
  · refine S_iconst (pc := 938) dL_law_938 ic_0 ?_
    exact Sim.fin ⟨dL_law_939, rfl, rfl, x_nar (Or.inl rfl)⟩ rfl
theorem dL_law_940 : decode cL_law 940 = .ok (.aload_n 1, 1) := by decide +kernel
theorem dL_law_941 : decode cL_law 941 = .ok (.aload_n 0, 1) := by decide +kernel
theorem dL_law_942 : decode cL_law 942 = .ok (.iload_n 3, 1) := by decide +kernel
theorem dL_law_943 : decode cL_law 943 = .ok (.iconst 1, 1) := by decide +kernel
theorem dL_law_944 : decode cL_law 944 = .ok (.iadd, 1) := by decide +kernel
theorem dL_law_945 : decode cL_law 945 = .ok (.iaload, 1) := by decide +kernel
theorem dL_law_946 : decode cL_law 946 = .ok (.aload_n 0, 1) := by decide +kernel
theorem dL_law_947 : decode cL_law 947 = .ok (.iload_n 3, 1) := by decide +kernel
theorem dL_law_948 : decode cL_law 948 = .ok (.iconst 2, 1) := by decide +kernel
theorem dL_law_949 : decode cL_law 949 = .ok (.iadd, 1) := by decide +kernel
theorem dL_law_950 : decode cL_law 950 = .ok (.iaload, 1) := by decide +kernel
theorem dL_law_951 : decode cL_law 951 = .ok (.invokevirtual 104, 3) := by decide +kernel
theorem dL_law_954 : decode cL_law 954 = .ok (.aload_n 2, 1) := by decide +kernel
theorem dL_law_955 : decode cL_law 955 = .ok (.aload_n 0, 1) := by decide +kernel
theorem dL_law_956 : decode cL_law 956 = .ok (.iload_n 3, 1) := by decide +kernel
theorem dL_law_957 : decode cL_law 957 = .ok (.iconst 1, 1) := by decide +kernel
theorem dL_law_958 : decode cL_law 958 = .ok (.iadd, 1) := by decide +kernel
theorem dL_law_959 : decode cL_law 959 = .ok (.iaload, 1) := by decide +kernel
theorem dL_law_960 : decode cL_law 960 = .ok (.aload_n 0, 1) := by decide +kernel
theorem dL_law_961 : decode cL_law 961 = .ok (.iload_n 3, 1) := by decide +kernel
theorem dL_law_962 : decode cL_law 962 = .ok (.iconst 2, 1) := by decide +kernel
theorem dL_law_963 : decode cL_law 963 = .ok (.iadd, 1) := by decide +kernel
theorem dL_law_964 : decode cL_law 964 = .ok (.iaload, 1) := by decide +kernel
theorem dL_law_965 : decode cL_law 965 = .ok (.invokevirtual 107, 3) := by decide +kernel
theorem dL_law_968 : decode cL_law 968 = .ok (.if_icmp .eq 675, 3) := by decide +kernel
theorem dL_law_971 : decode cL_law 971 = .ok (.iconst 0, 1) := by decide +kernel
theorem dL_law_972 : decode cL_law 972 = .ok (.ireturn, 1) := by decide +kernel
set_option maxRecDepth 20000 in
set_option maxHeartbeats 4000000 in
theorem C_law_21 {nm : String} (K : xK) (L : xL) (k : Int32 → xH → Option (Int32 × xH)) (a0 a1 a2 : Nat) (hk : ∀ (a3 : Int32) (h : xH), Sim K L cL_law RL nm 4 8 (fun q : Int32 × xH => q.2) (xRz cL_law) 1643 [(0, .ref a0), (1, .ref a1), (2, .ref a2), (3, .int a3)] [] h (k a3 h)) (a3 : Int32) (h : xH) : Sim K L cL_law RL nm 4 8 (fun q : Int32 × xH => q.2) (xRz cL_law) 940 [(0, .ref a0), (1, .ref a1), (2, .ref a2), (3, .int a3)] [] h (f_law_c21 k a0 a1 a2 a3 h) := by
  unfold f_law_c21
  refine S_aload_n (pc := 940) 1 rfl dL_law_940 rfl ?_
  refine S_aload_n (pc := 941) 0 rfl dL_law_941 rfl ?_
  refine S_iload_n (pc := 942) 3 rfl dL_law_942 rfl ?_
  refine S_iconst (pc := 943) dL_law_943 ic_1 ?_
  refine S_iadd (pc := 944) dL_law_944 ?_
  refine S_aI (pc := 945) dL_law_945 (fun v1 => ?_)
  refine S_aload_n (pc := 946) 0 rfl dL_law_946 rfl ?_
  refine S_iload_n (pc := 947) 3 rfl dL_law_947 rfl ?_
  refine S_iconst (pc := 948) dL_law_948 ic_2 ?_
  refine S_iadd (pc := 949) dL_law_949 ?_
  refine S_aI (pc := 950) dL_law_950 (fun v2 => ?_)
  refine S_call_i (pc := 951) (rest := []) (fun q hq => (x_if hq).elim (fun z => R_V (av := [.int v1, .int v2]) (q := (RX11, TX11, 12)) (M_X11_choose _ a1 v1 v2 h z.2) z.1 rfl wd_601 wd_598 wd_599 wd_44 wd_600 ⟨rfl, hd_X11_choose⟩ ⟨Nat.le_of_ble_eq_true rfl, Nat.le_of_ble_eq_true rfl⟩ rfl (Nat.le_of_ble_eq_true rfl) dL_law_951) (fun hq => (by cases hq))) (fun _ h => absurd h List.not_mem_nil) (fun q3 => ?_)
  refine S_aload_n (pc := 954) 2 rfl dL_law_954 rfl ?_
  refine S_aload_n (pc := 955) 0 rfl dL_law_955 rfl ?_
  refine S_iload_n (pc := 956) 3 rfl dL_law_956 rfl ?_
  refine S_iconst (pc := 957) dL_law_957 ic_1 ?_
  refine S_iadd (pc := 958) dL_law_958 ?_
  refine S_aI (pc := 959) dL_law_959 (fun v4 => ?_)
  refine S_aload_n (pc := 960) 0 rfl dL_law_960 rfl ?_
  refine S_iload_n (pc := 961) 3 rfl dL_law_961 rfl ?_
  refine S_iconst (pc := 962) dL_law_962 ic_2 ?_
  refine S_iadd (pc := 963) dL_law_963 ?_
  refine S_aI (pc := 964) dL_law_964 (fun v5 => ?_)
  refine S_call_i (pc := 965) (rest := [.int q3.1]) (fun q hq => (x_if hq).elim (fun z => R_V (av := [.int v4, .int v5]) (q := (RX12, TX12, 28)) (M_X12_choose _ a2 v4 v5 q3.2 z.2) z.1 rfl wd_1101 wd_1098 wd_1099 wd_50 wd_1100 ⟨rfl, hd_X12_choose⟩ ⟨Nat.le_of_ble_eq_true rfl, Nat.le_of_ble_eq_true rfl⟩ rfl (Nat.le_of_ble_eq_true rfl) dL_law_965) (fun hq => (by cases hq))) (fun _ h => List.mem_cons_of_mem _ (List.mem_cons_of_mem _ (List.mem_cons_of_mem _ (h)))) (fun q6 => ?_)
  refine S_icmp_eq (pc := 968) (tgt := 1643) dL_law_968 (by decide) ?_ ?_
  · refine S_sub [0, 1, 2, 3] rfl ?_
    exact hk a3 q6.2
  · refine S_iconst (pc := 971) dL_law_971 ic_0 ?_
    exact Sim.fin ⟨dL_law_972, rfl, rfl, x_nar (Or.inl rfl)⟩ rfl
theorem dL_law_973 : decode cL_law 973 = .ok (.aload_n 1, 1) := by decide +kernel
theorem dL_law_974 : decode cL_law 974 = .ok (.aload_n 0, 1) := by decide +kernel
theorem dL_law_975 : decode cL_law 975 = .ok (.iload_n 3, 1) := by decide +kernel
theorem dL_law_976 : decode cL_law 976 = .ok (.iconst 1, 1) := by decide +kernel
theorem dL_law_977 : decode cL_law 977 = .ok (.iadd, 1) := by decide +kernel
theorem dL_law_978 : decode cL_law 978 = .ok (.iaload, 1) := by decide +kernel
theorem dL_law_979 : decode cL_law 979 = .ok (.invokevirtual 108, 3) := by decide +kernel
theorem dL_law_982 : decode cL_law 982 = .ok (.aload_n 2, 1) := by decide +kernel
theorem dL_law_983 : decode cL_law 983 = .ok (.aload_n 0, 1) := by decide +kernel
theorem dL_law_984 : decode cL_law 984 = .ok (.iload_n 3, 1) := by decide +kernel
theorem dL_law_985 : decode cL_law 985 = .ok (.iconst 1, 1) := by decide +kernel
theorem dL_law_986 : decode cL_law 986 = .ok (.iadd, 1) := by decide +kernel
theorem dL_law_987 : decode cL_law 987 = .ok (.iaload, 1) := by decide +kernel
theorem dL_law_988 : decode cL_law 988 = .ok (.invokevirtual 111, 3) := by decide +kernel
theorem dL_law_991 : decode cL_law 991 = .ok (.if_icmp .eq 652, 3) := by decide +kernel
theorem dL_law_994 : decode cL_law 994 = .ok (.iconst 0, 1) := by decide +kernel
theorem dL_law_995 : decode cL_law 995 = .ok (.ireturn, 1) := by decide +kernel
set_option maxRecDepth 20000 in
set_option maxHeartbeats 4000000 in
theorem C_law_22 {nm : String} (K : xK) (L : xL) (k : Int32 → xH → Option (Int32 × xH)) (a0 a1 a2 : Nat) (hk : ∀ (a3 : Int32) (h : xH), Sim K L cL_law RL nm 4 8 (fun q : Int32 × xH => q.2) (xRz cL_law) 1643 [(0, .ref a0), (1, .ref a1), (2, .ref a2), (3, .int a3)] [] h (k a3 h)) (a3 : Int32) (h : xH) : Sim K L cL_law RL nm 4 8 (fun q : Int32 × xH => q.2) (xRz cL_law) 973 [(0, .ref a0), (1, .ref a1), (2, .ref a2), (3, .int a3)] [] h (f_law_c22 k a0 a1 a2 a3 h) := by
  unfold f_law_c22
  refine S_aload_n (pc := 973) 1 rfl dL_law_973 rfl ?_
  refine S_aload_n (pc := 974) 0 rfl dL_law_974 rfl ?_
  refine S_iload_n (pc := 975) 3 rfl dL_law_975 rfl ?_
  refine S_iconst (pc := 976) dL_law_976 ic_1 ?_
  refine S_iadd (pc := 977) dL_law_977 ?_
  refine S_aI (pc := 978) dL_law_978 (fun v1 => ?_)
  refine S_call_i (pc := 979) (rest := []) (fun q hq => (x_if hq).elim (fun z => R_V (av := [.int v1]) (q := (RX11, TX11, 12)) (M_X11_offset _ a1 v1 h z.2) z.1 rfl wd_605 wd_602 wd_603 wd_44 wd_604 ⟨rfl, hd_X11_offset⟩ ⟨Nat.le_of_ble_eq_true rfl, Nat.le_of_ble_eq_true rfl⟩ rfl (Nat.le_of_ble_eq_true rfl) dL_law_979) (fun hq => (by cases hq))) (fun _ h => absurd h List.not_mem_nil) (fun q2 => ?_)
  refine S_aload_n (pc := 982) 2 rfl dL_law_982 rfl ?_
  refine S_aload_n (pc := 983) 0 rfl dL_law_983 rfl ?_
  refine S_iload_n (pc := 984) 3 rfl dL_law_984 rfl ?_
  refine S_iconst (pc := 985) dL_law_985 ic_1 ?_
  refine S_iadd (pc := 986) dL_law_986 ?_
  refine S_aI (pc := 987) dL_law_987 (fun v3 => ?_)
  refine S_call_i (pc := 988) (rest := [.int q2.1]) (fun q hq => (x_if hq).elim (fun z => R_V (av := [.int v3]) (q := (RX12, TX12, 28)) (M_X12_offset _ a2 v3 q2.2 z.2) z.1 rfl wd_1105 wd_1102 wd_1103 wd_50 wd_1104 ⟨rfl, hd_X12_offset⟩ ⟨Nat.le_of_ble_eq_true rfl, Nat.le_of_ble_eq_true rfl⟩ rfl (Nat.le_of_ble_eq_true rfl) dL_law_988) (fun hq => (by cases hq))) (fun _ h => List.mem_cons_of_mem _ (List.mem_cons_of_mem _ (h))) (fun q4 => ?_)
  refine S_icmp_eq (pc := 991) (tgt := 1643) dL_law_991 (by decide) ?_ ?_
  · refine S_sub [0, 1, 2, 3] rfl ?_
    exact hk a3 q4.2
  · refine S_iconst (pc := 994) dL_law_994 ic_0 ?_
    exact Sim.fin ⟨dL_law_995, rfl, rfl, x_nar (Or.inl rfl)⟩ rfl
theorem dL_law_996 : decode cL_law 996 = .ok (.aload_n 1, 1) := by decide +kernel
theorem dL_law_997 : decode cL_law 997 = .ok (.aload_n 0, 1) := by decide +kernel
theorem dL_law_998 : decode cL_law 998 = .ok (.iload_n 3, 1) := by decide +kernel
theorem dL_law_999 : decode cL_law 999 = .ok (.iconst 1, 1) := by decide +kernel
theorem dL_law_1000 : decode cL_law 1000 = .ok (.iadd, 1) := by decide +kernel
theorem dL_law_1001 : decode cL_law 1001 = .ok (.iaload, 1) := by decide +kernel
theorem dL_law_1002 : decode cL_law 1002 = .ok (.aload_n 0, 1) := by decide +kernel
theorem dL_law_1003 : decode cL_law 1003 = .ok (.iload_n 3, 1) := by decide +kernel
theorem dL_law_1004 : decode cL_law 1004 = .ok (.iconst 2, 1) := by decide +kernel
theorem dL_law_1005 : decode cL_law 1005 = .ok (.iadd, 1) := by decide +kernel
theorem dL_law_1006 : decode cL_law 1006 = .ok (.iaload, 1) := by decide +kernel
theorem dL_law_1007 : decode cL_law 1007 = .ok (.invokevirtual 112, 3) := by decide +kernel
theorem dL_law_1010 : decode cL_law 1010 = .ok (.aload_n 2, 1) := by decide +kernel
theorem dL_law_1011 : decode cL_law 1011 = .ok (.aload_n 0, 1) := by decide +kernel
theorem dL_law_1012 : decode cL_law 1012 = .ok (.iload_n 3, 1) := by decide +kernel
theorem dL_law_1013 : decode cL_law 1013 = .ok (.iconst 1, 1) := by decide +kernel
theorem dL_law_1014 : decode cL_law 1014 = .ok (.iadd, 1) := by decide +kernel
theorem dL_law_1015 : decode cL_law 1015 = .ok (.iaload, 1) := by decide +kernel
theorem dL_law_1016 : decode cL_law 1016 = .ok (.aload_n 0, 1) := by decide +kernel
theorem dL_law_1017 : decode cL_law 1017 = .ok (.iload_n 3, 1) := by decide +kernel
theorem dL_law_1018 : decode cL_law 1018 = .ok (.iconst 2, 1) := by decide +kernel
theorem dL_law_1019 : decode cL_law 1019 = .ok (.iadd, 1) := by decide +kernel
theorem dL_law_1020 : decode cL_law 1020 = .ok (.iaload, 1) := by decide +kernel
theorem dL_law_1021 : decode cL_law 1021 = .ok (.invokevirtual 115, 3) := by decide +kernel
theorem dL_law_1024 : decode cL_law 1024 = .ok (.if_icmp .eq 619, 3) := by decide +kernel
theorem dL_law_1027 : decode cL_law 1027 = .ok (.iconst 0, 1) := by decide +kernel
theorem dL_law_1028 : decode cL_law 1028 = .ok (.ireturn, 1) := by decide +kernel
set_option maxRecDepth 20000 in
set_option maxHeartbeats 4000000 in
theorem C_law_23 {nm : String} (K : xK) (L : xL) (k : Int32 → xH → Option (Int32 × xH)) (a0 a1 a2 : Nat) (hk : ∀ (a3 : Int32) (h : xH), Sim K L cL_law RL nm 4 8 (fun q : Int32 × xH => q.2) (xRz cL_law) 1643 [(0, .ref a0), (1, .ref a1), (2, .ref a2), (3, .int a3)] [] h (k a3 h)) (a3 : Int32) (h : xH) : Sim K L cL_law RL nm 4 8 (fun q : Int32 × xH => q.2) (xRz cL_law) 996 [(0, .ref a0), (1, .ref a1), (2, .ref a2), (3, .int a3)] [] h (f_law_c23 k a0 a1 a2 a3 h) := by
  unfold f_law_c23
  refine S_aload_n (pc := 996) 1 rfl dL_law_996 rfl ?_
  refine S_aload_n (pc := 997) 0 rfl dL_law_997 rfl ?_
  refine S_iload_n (pc := 998) 3 rfl dL_law_998 rfl ?_
  refine S_iconst (pc := 999) dL_law_999 ic_1 ?_
  refine S_iadd (pc := 1000) dL_law_1000 ?_
  refine S_aI (pc := 1001) dL_law_1001 (fun v1 => ?_)
  refine S_aload_n (pc := 1002) 0 rfl dL_law_1002 rfl ?_
  refine S_iload_n (pc := 1003) 3 rfl dL_law_1003 rfl ?_
  refine S_iconst (pc := 1004) dL_law_1004 ic_2 ?_
  refine S_iadd (pc := 1005) dL_law_1005 ?_
  refine S_aI (pc := 1006) dL_law_1006 (fun v2 => ?_)
  refine S_call_i (pc := 1007) (rest := []) (fun q hq => (x_if hq).elim (fun z => R_V (av := [.int v1, .int v2]) (q := (RX11, TX11, 12)) (M_X11_mask _ a1 v1 v2 h z.2) z.1 rfl wd_609 wd_606 wd_607 wd_44 wd_608 ⟨rfl, hd_X11_mask⟩ ⟨Nat.le_of_ble_eq_true rfl, Nat.le_of_ble_eq_true rfl⟩ rfl (Nat.le_of_ble_eq_true rfl) dL_law_1007) (fun hq => (by cases hq))) (fun _ h => absurd h List.not_mem_nil) (fun q3 => ?_)
  refine S_aload_n (pc := 1010) 2 rfl dL_law_1010 rfl ?_
  refine S_aload_n (pc := 1011) 0 rfl dL_law_1011 rfl ?_
  refine S_iload_n (pc := 1012) 3 rfl dL_law_1012 rfl ?_
  refine S_iconst (pc := 1013) dL_law_1013 ic_1 ?_
  refine S_iadd (pc := 1014) dL_law_1014 ?_
  refine S_aI (pc := 1015) dL_law_1015 (fun v4 => ?_)
  refine S_aload_n (pc := 1016) 0 rfl dL_law_1016 rfl ?_
  refine S_iload_n (pc := 1017) 3 rfl dL_law_1017 rfl ?_
  refine S_iconst (pc := 1018) dL_law_1018 ic_2 ?_
  refine S_iadd (pc := 1019) dL_law_1019 ?_
  refine S_aI (pc := 1020) dL_law_1020 (fun v5 => ?_)
  refine S_call_i (pc := 1021) (rest := [.int q3.1]) (fun q hq => (x_if hq).elim (fun z => R_V (av := [.int v4, .int v5]) (q := (RX12, TX12, 28)) (M_X12_mask _ a2 v4 v5 q3.2 z.2) z.1 rfl wd_1109 wd_1106 wd_1107 wd_50 wd_1108 ⟨rfl, hd_X12_mask⟩ ⟨Nat.le_of_ble_eq_true rfl, Nat.le_of_ble_eq_true rfl⟩ rfl (Nat.le_of_ble_eq_true rfl) dL_law_1021) (fun hq => (by cases hq))) (fun _ h => List.mem_cons_of_mem _ (List.mem_cons_of_mem _ (List.mem_cons_of_mem _ (h)))) (fun q6 => ?_)
  refine S_icmp_eq (pc := 1024) (tgt := 1643) dL_law_1024 (by decide) ?_ ?_
  · refine S_sub [0, 1, 2, 3] rfl ?_
    exact hk a3 q6.2
  · refine S_iconst (pc := 1027) dL_law_1027 ic_0 ?_
    exact Sim.fin ⟨dL_law_1028, rfl, rfl, x_nar (Or.inl rfl)⟩ rfl
theorem dL_law_1029 : decode cL_law 1029 = .ok (.aload_n 1, 1) := by decide +kernel
theorem dL_law_1030 : decode cL_law 1030 = .ok (.aload_n 0, 1) := by decide +kernel
theorem dL_law_1031 : decode cL_law 1031 = .ok (.iload_n 3, 1) := by decide +kernel
theorem dL_law_1032 : decode cL_law 1032 = .ok (.iconst 1, 1) := by decide +kernel
theorem dL_law_1033 : decode cL_law 1033 = .ok (.iadd, 1) := by decide +kernel
theorem dL_law_1034 : decode cL_law 1034 = .ok (.iaload, 1) := by decide +kernel
theorem dL_law_1035 : decode cL_law 1035 = .ok (.aload_n 0, 1) := by decide +kernel
theorem dL_law_1036 : decode cL_law 1036 = .ok (.iload_n 3, 1) := by decide +kernel
theorem dL_law_1037 : decode cL_law 1037 = .ok (.iconst 2, 1) := by decide +kernel
theorem dL_law_1038 : decode cL_law 1038 = .ok (.iadd, 1) := by decide +kernel
theorem dL_law_1039 : decode cL_law 1039 = .ok (.iaload, 1) := by decide +kernel
theorem dL_law_1040 : decode cL_law 1040 = .ok (.aload_n 0, 1) := by decide +kernel
theorem dL_law_1041 : decode cL_law 1041 = .ok (.iload_n 3, 1) := by decide +kernel
theorem dL_law_1042 : decode cL_law 1042 = .ok (.iconst 3, 1) := by decide +kernel
theorem dL_law_1043 : decode cL_law 1043 = .ok (.iadd, 1) := by decide +kernel
theorem dL_law_1044 : decode cL_law 1044 = .ok (.iaload, 1) := by decide +kernel
theorem dL_law_1045 : decode cL_law 1045 = .ok (.invokevirtual 116, 3) := by decide +kernel
theorem dL_law_1048 : decode cL_law 1048 = .ok (.aload_n 2, 1) := by decide +kernel
theorem dL_law_1049 : decode cL_law 1049 = .ok (.aload_n 0, 1) := by decide +kernel
theorem dL_law_1050 : decode cL_law 1050 = .ok (.iload_n 3, 1) := by decide +kernel
theorem dL_law_1051 : decode cL_law 1051 = .ok (.iconst 1, 1) := by decide +kernel
theorem dL_law_1052 : decode cL_law 1052 = .ok (.iadd, 1) := by decide +kernel
theorem dL_law_1053 : decode cL_law 1053 = .ok (.iaload, 1) := by decide +kernel
theorem dL_law_1054 : decode cL_law 1054 = .ok (.aload_n 0, 1) := by decide +kernel
theorem dL_law_1055 : decode cL_law 1055 = .ok (.iload_n 3, 1) := by decide +kernel
theorem dL_law_1056 : decode cL_law 1056 = .ok (.iconst 2, 1) := by decide +kernel
theorem dL_law_1057 : decode cL_law 1057 = .ok (.iadd, 1) := by decide +kernel
theorem dL_law_1058 : decode cL_law 1058 = .ok (.iaload, 1) := by decide +kernel
theorem dL_law_1059 : decode cL_law 1059 = .ok (.aload_n 0, 1) := by decide +kernel
theorem dL_law_1060 : decode cL_law 1060 = .ok (.iload_n 3, 1) := by decide +kernel
theorem dL_law_1061 : decode cL_law 1061 = .ok (.iconst 3, 1) := by decide +kernel
theorem dL_law_1062 : decode cL_law 1062 = .ok (.iadd, 1) := by decide +kernel
theorem dL_law_1063 : decode cL_law 1063 = .ok (.iaload, 1) := by decide +kernel
theorem dL_law_1064 : decode cL_law 1064 = .ok (.invokevirtual 119, 3) := by decide +kernel
theorem dL_law_1067 : decode cL_law 1067 = .ok (.if_icmp .eq 576, 3) := by decide +kernel
theorem dL_law_1070 : decode cL_law 1070 = .ok (.iconst 0, 1) := by decide +kernel
theorem dL_law_1071 : decode cL_law 1071 = .ok (.ireturn, 1) := by decide +kernel
set_option maxRecDepth 20000 in
set_option maxHeartbeats 4000000 in
theorem C_law_24 {nm : String} (K : xK) (L : xL) (k : Int32 → xH → Option (Int32 × xH)) (a0 a1 a2 : Nat) (hk : ∀ (a3 : Int32) (h : xH), Sim K L cL_law RL nm 4 8 (fun q : Int32 × xH => q.2) (xRz cL_law) 1643 [(0, .ref a0), (1, .ref a1), (2, .ref a2), (3, .int a3)] [] h (k a3 h)) (a3 : Int32) (h : xH) : Sim K L cL_law RL nm 4 8 (fun q : Int32 × xH => q.2) (xRz cL_law) 1029 [(0, .ref a0), (1, .ref a1), (2, .ref a2), (3, .int a3)] [] h (f_law_c24 k a0 a1 a2 a3 h) := by
  unfold f_law_c24
  refine S_aload_n (pc := 1029) 1 rfl dL_law_1029 rfl ?_
  refine S_aload_n (pc := 1030) 0 rfl dL_law_1030 rfl ?_
  refine S_iload_n (pc := 1031) 3 rfl dL_law_1031 rfl ?_
  refine S_iconst (pc := 1032) dL_law_1032 ic_1 ?_
  refine S_iadd (pc := 1033) dL_law_1033 ?_
  refine S_aI (pc := 1034) dL_law_1034 (fun v1 => ?_)
  refine S_aload_n (pc := 1035) 0 rfl dL_law_1035 rfl ?_
  refine S_iload_n (pc := 1036) 3 rfl dL_law_1036 rfl ?_
  refine S_iconst (pc := 1037) dL_law_1037 ic_2 ?_
  refine S_iadd (pc := 1038) dL_law_1038 ?_
  refine S_aI (pc := 1039) dL_law_1039 (fun v2 => ?_)
  refine S_aload_n (pc := 1040) 0 rfl dL_law_1040 rfl ?_
  refine S_iload_n (pc := 1041) 3 rfl dL_law_1041 rfl ?_
  refine S_iconst (pc := 1042) dL_law_1042 ic_3 ?_
  refine S_iadd (pc := 1043) dL_law_1043 ?_
  refine S_aI (pc := 1044) dL_law_1044 (fun v3 => ?_)
  refine S_call_i (pc := 1045) (rest := []) (fun q hq => (x_if hq).elim (fun z => R_V (av := [.int v1, .int v2, .int v3]) (q := (RX11, TX11, 12)) (M_X11_rank _ a1 v1 v2 v3 h z.2) z.1 rfl wd_616 wd_613 wd_614 wd_44 wd_615 ⟨rfl, hd_X11_rank⟩ ⟨Nat.le_of_ble_eq_true rfl, Nat.le_of_ble_eq_true rfl⟩ rfl (Nat.le_of_ble_eq_true rfl) dL_law_1045) (fun hq => (by cases hq))) (fun _ h => absurd h List.not_mem_nil) (fun q4 => ?_)
  refine S_aload_n (pc := 1048) 2 rfl dL_law_1048 rfl ?_
  refine S_aload_n (pc := 1049) 0 rfl dL_law_1049 rfl ?_
  refine S_iload_n (pc := 1050) 3 rfl dL_law_1050 rfl ?_
  refine S_iconst (pc := 1051) dL_law_1051 ic_1 ?_
  refine S_iadd (pc := 1052) dL_law_1052 ?_
  refine S_aI (pc := 1053) dL_law_1053 (fun v5 => ?_)
  refine S_aload_n (pc := 1054) 0 rfl dL_law_1054 rfl ?_
  refine S_iload_n (pc := 1055) 3 rfl dL_law_1055 rfl ?_
  refine S_iconst (pc := 1056) dL_law_1056 ic_2 ?_
  refine S_iadd (pc := 1057) dL_law_1057 ?_
  refine S_aI (pc := 1058) dL_law_1058 (fun v6 => ?_)
  refine S_aload_n (pc := 1059) 0 rfl dL_law_1059 rfl ?_
  refine S_iload_n (pc := 1060) 3 rfl dL_law_1060 rfl ?_
  refine S_iconst (pc := 1061) dL_law_1061 ic_3 ?_
  refine S_iadd (pc := 1062) dL_law_1062 ?_
  refine S_aI (pc := 1063) dL_law_1063 (fun v7 => ?_)
  refine S_call_i (pc := 1064) (rest := [.int q4.1]) (fun q hq => (x_if hq).elim (fun z => R_V (av := [.int v5, .int v6, .int v7]) (q := (RX12, TX12, 28)) (M_X12_rank _ a2 v5 v6 v7 q4.2 z.2) z.1 rfl wd_1113 wd_1110 wd_1111 wd_50 wd_1112 ⟨rfl, hd_X12_rank⟩ ⟨Nat.le_of_ble_eq_true rfl, Nat.le_of_ble_eq_true rfl⟩ rfl (Nat.le_of_ble_eq_true rfl) dL_law_1064) (fun hq => (by cases hq))) (fun _ h => List.mem_cons_of_mem _ (List.mem_cons_of_mem _ (List.mem_cons_of_mem _ (List.mem_cons_of_mem _ (h))))) (fun q8 => ?_)
  refine S_icmp_eq (pc := 1067) (tgt := 1643) dL_law_1067 (by decide) ?_ ?_
  · refine S_sub [0, 1, 2, 3] rfl ?_
    exact hk a3 q8.2
  · refine S_iconst (pc := 1070) dL_law_1070 ic_0 ?_
    exact Sim.fin ⟨dL_law_1071, rfl, rfl, x_nar (Or.inl rfl)⟩ rfl
theorem dL_law_1072 : decode cL_law 1072 = .ok (.aload_n 1, 1) := by decide +kernel
theorem dL_law_1073 : decode cL_law 1073 = .ok (.aload_n 0, 1) := by decide +kernel
theorem dL_law_1074 : decode cL_law 1074 = .ok (.iload_n 3, 1) := by decide +kernel
theorem dL_law_1075 : decode cL_law 1075 = .ok (.iconst 1, 1) := by decide +kernel
theorem dL_law_1076 : decode cL_law 1076 = .ok (.iadd, 1) := by decide +kernel
theorem dL_law_1077 : decode cL_law 1077 = .ok (.iaload, 1) := by decide +kernel
theorem dL_law_1078 : decode cL_law 1078 = .ok (.aload_n 0, 1) := by decide +kernel
theorem dL_law_1079 : decode cL_law 1079 = .ok (.iload_n 3, 1) := by decide +kernel
theorem dL_law_1080 : decode cL_law 1080 = .ok (.iconst 2, 1) := by decide +kernel
theorem dL_law_1081 : decode cL_law 1081 = .ok (.iadd, 1) := by decide +kernel
theorem dL_law_1082 : decode cL_law 1082 = .ok (.iaload, 1) := by decide +kernel
theorem dL_law_1083 : decode cL_law 1083 = .ok (.aload_n 0, 1) := by decide +kernel
theorem dL_law_1084 : decode cL_law 1084 = .ok (.iload_n 3, 1) := by decide +kernel
theorem dL_law_1085 : decode cL_law 1085 = .ok (.iconst 3, 1) := by decide +kernel
theorem dL_law_1086 : decode cL_law 1086 = .ok (.iadd, 1) := by decide +kernel
theorem dL_law_1087 : decode cL_law 1087 = .ok (.iaload, 1) := by decide +kernel
theorem dL_law_1088 : decode cL_law 1088 = .ok (.invokevirtual 120, 3) := by decide +kernel
theorem dL_law_1091 : decode cL_law 1091 = .ok (.aload_n 2, 1) := by decide +kernel
theorem dL_law_1092 : decode cL_law 1092 = .ok (.aload_n 0, 1) := by decide +kernel
theorem dL_law_1093 : decode cL_law 1093 = .ok (.iload_n 3, 1) := by decide +kernel
theorem dL_law_1094 : decode cL_law 1094 = .ok (.iconst 1, 1) := by decide +kernel
theorem dL_law_1095 : decode cL_law 1095 = .ok (.iadd, 1) := by decide +kernel
theorem dL_law_1096 : decode cL_law 1096 = .ok (.iaload, 1) := by decide +kernel
theorem dL_law_1097 : decode cL_law 1097 = .ok (.aload_n 0, 1) := by decide +kernel
theorem dL_law_1098 : decode cL_law 1098 = .ok (.iload_n 3, 1) := by decide +kernel
theorem dL_law_1099 : decode cL_law 1099 = .ok (.iconst 2, 1) := by decide +kernel
theorem dL_law_1100 : decode cL_law 1100 = .ok (.iadd, 1) := by decide +kernel
theorem dL_law_1101 : decode cL_law 1101 = .ok (.iaload, 1) := by decide +kernel
theorem dL_law_1102 : decode cL_law 1102 = .ok (.aload_n 0, 1) := by decide +kernel
theorem dL_law_1103 : decode cL_law 1103 = .ok (.iload_n 3, 1) := by decide +kernel
theorem dL_law_1104 : decode cL_law 1104 = .ok (.iconst 3, 1) := by decide +kernel
theorem dL_law_1105 : decode cL_law 1105 = .ok (.iadd, 1) := by decide +kernel
theorem dL_law_1106 : decode cL_law 1106 = .ok (.iaload, 1) := by decide +kernel
theorem dL_law_1107 : decode cL_law 1107 = .ok (.invokevirtual 123, 3) := by decide +kernel
theorem dL_law_1110 : decode cL_law 1110 = .ok (.if_icmp .eq 533, 3) := by decide +kernel
theorem dL_law_1113 : decode cL_law 1113 = .ok (.iconst 0, 1) := by decide +kernel
theorem dL_law_1114 : decode cL_law 1114 = .ok (.ireturn, 1) := by decide +kernel
set_option maxRecDepth 20000 in
set_option maxHeartbeats 4000000 in
theorem C_law_25 {nm : String} (K : xK) (L : xL) (k : Int32 → xH → Option (Int32 × xH)) (a0 a1 a2 : Nat) (hk : ∀ (a3 : Int32) (h : xH), Sim K L cL_law RL nm 4 8 (fun q : Int32 × xH => q.2) (xRz cL_law) 1643 [(0, .ref a0), (1, .ref a1), (2, .ref a2), (3, .int a3)] [] h (k a3 h)) (a3 : Int32) (h : xH) : Sim K L cL_law RL nm 4 8 (fun q : Int32 × xH => q.2) (xRz cL_law) 1072 [(0, .ref a0), (1, .ref a1), (2, .ref a2), (3, .int a3)] [] h (f_law_c25 k a0 a1 a2 a3 h) := by
  unfold f_law_c25
  refine S_aload_n (pc := 1072) 1 rfl dL_law_1072 rfl ?_
  refine S_aload_n (pc := 1073) 0 rfl dL_law_1073 rfl ?_
  refine S_iload_n (pc := 1074) 3 rfl dL_law_1074 rfl ?_
  refine S_iconst (pc := 1075) dL_law_1075 ic_1 ?_
  refine S_iadd (pc := 1076) dL_law_1076 ?_
  refine S_aI (pc := 1077) dL_law_1077 (fun v1 => ?_)
  refine S_aload_n (pc := 1078) 0 rfl dL_law_1078 rfl ?_
  refine S_iload_n (pc := 1079) 3 rfl dL_law_1079 rfl ?_
  refine S_iconst (pc := 1080) dL_law_1080 ic_2 ?_
  refine S_iadd (pc := 1081) dL_law_1081 ?_
  refine S_aI (pc := 1082) dL_law_1082 (fun v2 => ?_)
  refine S_aload_n (pc := 1083) 0 rfl dL_law_1083 rfl ?_
  refine S_iload_n (pc := 1084) 3 rfl dL_law_1084 rfl ?_
  refine S_iconst (pc := 1085) dL_law_1085 ic_3 ?_
  refine S_iadd (pc := 1086) dL_law_1086 ?_
  refine S_aI (pc := 1087) dL_law_1087 (fun v3 => ?_)
  refine S_call_i (pc := 1088) (rest := []) (fun q hq => (x_if hq).elim (fun z => R_V (av := [.int v1, .int v2, .int v3]) (q := (RX11, TX11, 12)) (M_X11_select _ a1 v1 v2 v3 h z.2) z.1 rfl wd_624 wd_621 wd_622 wd_44 wd_623 ⟨rfl, hd_X11_select⟩ ⟨Nat.le_of_ble_eq_true rfl, Nat.le_of_ble_eq_true rfl⟩ rfl (Nat.le_of_ble_eq_true rfl) dL_law_1088) (fun hq => (by cases hq))) (fun _ h => absurd h List.not_mem_nil) (fun q4 => ?_)
  refine S_aload_n (pc := 1091) 2 rfl dL_law_1091 rfl ?_
  refine S_aload_n (pc := 1092) 0 rfl dL_law_1092 rfl ?_
  refine S_iload_n (pc := 1093) 3 rfl dL_law_1093 rfl ?_
  refine S_iconst (pc := 1094) dL_law_1094 ic_1 ?_
  refine S_iadd (pc := 1095) dL_law_1095 ?_
  refine S_aI (pc := 1096) dL_law_1096 (fun v5 => ?_)
  refine S_aload_n (pc := 1097) 0 rfl dL_law_1097 rfl ?_
  refine S_iload_n (pc := 1098) 3 rfl dL_law_1098 rfl ?_
  refine S_iconst (pc := 1099) dL_law_1099 ic_2 ?_
  refine S_iadd (pc := 1100) dL_law_1100 ?_
  refine S_aI (pc := 1101) dL_law_1101 (fun v6 => ?_)
  refine S_aload_n (pc := 1102) 0 rfl dL_law_1102 rfl ?_
  refine S_iload_n (pc := 1103) 3 rfl dL_law_1103 rfl ?_
  refine S_iconst (pc := 1104) dL_law_1104 ic_3 ?_
  refine S_iadd (pc := 1105) dL_law_1105 ?_
  refine S_aI (pc := 1106) dL_law_1106 (fun v7 => ?_)
  refine S_call_i (pc := 1107) (rest := [.int q4.1]) (fun q hq => (x_if hq).elim (fun z => R_V (av := [.int v5, .int v6, .int v7]) (q := (RX12, TX12, 28)) (M_X12_select _ a2 v5 v6 v7 q4.2 z.2) z.1 rfl wd_1121 wd_1118 wd_1119 wd_50 wd_1120 ⟨rfl, hd_X12_select⟩ ⟨Nat.le_of_ble_eq_true rfl, Nat.le_of_ble_eq_true rfl⟩ rfl (Nat.le_of_ble_eq_true rfl) dL_law_1107) (fun hq => (by cases hq))) (fun _ h => List.mem_cons_of_mem _ (List.mem_cons_of_mem _ (List.mem_cons_of_mem _ (List.mem_cons_of_mem _ (h))))) (fun q8 => ?_)
  refine S_icmp_eq (pc := 1110) (tgt := 1643) dL_law_1110 (by decide) ?_ ?_
  · refine S_sub [0, 1, 2, 3] rfl ?_
    exact hk a3 q8.2
  · refine S_iconst (pc := 1113) dL_law_1113 ic_0 ?_
    exact Sim.fin ⟨dL_law_1114, rfl, rfl, x_nar (Or.inl rfl)⟩ rfl
theorem dL_law_1115 : decode cL_law 1115 = .ok (.aload_n 1, 1) := by decide +kernel
theorem dL_law_1116 : decode cL_law 1116 = .ok (.aload_n 0, 1) := by decide +kernel
theorem dL_law_1117 : decode cL_law 1117 = .ok (.iload_n 3, 1) := by decide +kernel
theorem dL_law_1118 : decode cL_law 1118 = .ok (.iconst 1, 1) := by decide +kernel
theorem dL_law_1119 : decode cL_law 1119 = .ok (.iadd, 1) := by decide +kernel
theorem dL_law_1120 : decode cL_law 1120 = .ok (.iaload, 1) := by decide +kernel
theorem dL_law_1121 : decode cL_law 1121 = .ok (.aload_n 0, 1) := by decide +kernel
theorem dL_law_1122 : decode cL_law 1122 = .ok (.iload_n 3, 1) := by decide +kernel
theorem dL_law_1123 : decode cL_law 1123 = .ok (.iconst 2, 1) := by decide +kernel
theorem dL_law_1124 : decode cL_law 1124 = .ok (.iadd, 1) := by decide +kernel
theorem dL_law_1125 : decode cL_law 1125 = .ok (.iaload, 1) := by decide +kernel
theorem dL_law_1126 : decode cL_law 1126 = .ok (.aload_n 0, 1) := by decide +kernel
theorem dL_law_1127 : decode cL_law 1127 = .ok (.iload_n 3, 1) := by decide +kernel
theorem dL_law_1128 : decode cL_law 1128 = .ok (.iconst 3, 1) := by decide +kernel
theorem dL_law_1129 : decode cL_law 1129 = .ok (.iadd, 1) := by decide +kernel
theorem dL_law_1130 : decode cL_law 1130 = .ok (.iaload, 1) := by decide +kernel
theorem dL_law_1131 : decode cL_law 1131 = .ok (.invokevirtual 124, 3) := by decide +kernel
theorem dL_law_1134 : decode cL_law 1134 = .ok (.aload_n 2, 1) := by decide +kernel
theorem dL_law_1135 : decode cL_law 1135 = .ok (.aload_n 0, 1) := by decide +kernel
theorem dL_law_1136 : decode cL_law 1136 = .ok (.iload_n 3, 1) := by decide +kernel
theorem dL_law_1137 : decode cL_law 1137 = .ok (.iconst 1, 1) := by decide +kernel
theorem dL_law_1138 : decode cL_law 1138 = .ok (.iadd, 1) := by decide +kernel
theorem dL_law_1139 : decode cL_law 1139 = .ok (.iaload, 1) := by decide +kernel
theorem dL_law_1140 : decode cL_law 1140 = .ok (.aload_n 0, 1) := by decide +kernel
theorem dL_law_1141 : decode cL_law 1141 = .ok (.iload_n 3, 1) := by decide +kernel
theorem dL_law_1142 : decode cL_law 1142 = .ok (.iconst 2, 1) := by decide +kernel
theorem dL_law_1143 : decode cL_law 1143 = .ok (.iadd, 1) := by decide +kernel
theorem dL_law_1144 : decode cL_law 1144 = .ok (.iaload, 1) := by decide +kernel
theorem dL_law_1145 : decode cL_law 1145 = .ok (.aload_n 0, 1) := by decide +kernel
theorem dL_law_1146 : decode cL_law 1146 = .ok (.iload_n 3, 1) := by decide +kernel
theorem dL_law_1147 : decode cL_law 1147 = .ok (.iconst 3, 1) := by decide +kernel
theorem dL_law_1148 : decode cL_law 1148 = .ok (.iadd, 1) := by decide +kernel
theorem dL_law_1149 : decode cL_law 1149 = .ok (.iaload, 1) := by decide +kernel
theorem dL_law_1150 : decode cL_law 1150 = .ok (.invokevirtual 127, 3) := by decide +kernel
theorem dL_law_1153 : decode cL_law 1153 = .ok (.if_icmp .eq 490, 3) := by decide +kernel
theorem dL_law_1156 : decode cL_law 1156 = .ok (.iconst 0, 1) := by decide +kernel
theorem dL_law_1157 : decode cL_law 1157 = .ok (.ireturn, 1) := by decide +kernel
set_option maxRecDepth 20000 in
set_option maxHeartbeats 4000000 in
theorem C_law_26 {nm : String} (K : xK) (L : xL) (k : Int32 → xH → Option (Int32 × xH)) (a0 a1 a2 : Nat) (hk : ∀ (a3 : Int32) (h : xH), Sim K L cL_law RL nm 4 8 (fun q : Int32 × xH => q.2) (xRz cL_law) 1643 [(0, .ref a0), (1, .ref a1), (2, .ref a2), (3, .int a3)] [] h (k a3 h)) (a3 : Int32) (h : xH) : Sim K L cL_law RL nm 4 8 (fun q : Int32 × xH => q.2) (xRz cL_law) 1115 [(0, .ref a0), (1, .ref a1), (2, .ref a2), (3, .int a3)] [] h (f_law_c26 k a0 a1 a2 a3 h) := by
  unfold f_law_c26
  refine S_aload_n (pc := 1115) 1 rfl dL_law_1115 rfl ?_
  refine S_aload_n (pc := 1116) 0 rfl dL_law_1116 rfl ?_
  refine S_iload_n (pc := 1117) 3 rfl dL_law_1117 rfl ?_
  refine S_iconst (pc := 1118) dL_law_1118 ic_1 ?_
  refine S_iadd (pc := 1119) dL_law_1119 ?_
  refine S_aI (pc := 1120) dL_law_1120 (fun v1 => ?_)
  refine S_aload_n (pc := 1121) 0 rfl dL_law_1121 rfl ?_
  refine S_iload_n (pc := 1122) 3 rfl dL_law_1122 rfl ?_
  refine S_iconst (pc := 1123) dL_law_1123 ic_2 ?_
  refine S_iadd (pc := 1124) dL_law_1124 ?_
  refine S_aI (pc := 1125) dL_law_1125 (fun v2 => ?_)
  refine S_aload_n (pc := 1126) 0 rfl dL_law_1126 rfl ?_
  refine S_iload_n (pc := 1127) 3 rfl dL_law_1127 rfl ?_
  refine S_iconst (pc := 1128) dL_law_1128 ic_3 ?_
  refine S_iadd (pc := 1129) dL_law_1129 ?_
  refine S_aI (pc := 1130) dL_law_1130 (fun v3 => ?_)
  refine S_call_i (pc := 1131) (rest := []) (fun q hq => (x_if hq).elim (fun z => R_V (av := [.int v1, .int v2, .int v3]) (q := (RX11, TX11, 12)) (M_X11_next _ a1 v1 v2 v3 h z.2) z.1 rfl wd_629 wd_626 wd_627 wd_44 wd_628 ⟨rfl, hd_X11_next⟩ ⟨Nat.le_of_ble_eq_true rfl, Nat.le_of_ble_eq_true rfl⟩ rfl (Nat.le_of_ble_eq_true rfl) dL_law_1131) (fun hq => (by cases hq))) (fun _ h => absurd h List.not_mem_nil) (fun q4 => ?_)
  refine S_aload_n (pc := 1134) 2 rfl dL_law_1134 rfl ?_
  refine S_aload_n (pc := 1135) 0 rfl dL_law_1135 rfl ?_
  refine S_iload_n (pc := 1136) 3 rfl dL_law_1136 rfl ?_
  refine S_iconst (pc := 1137) dL_law_1137 ic_1 ?_
  refine S_iadd (pc := 1138) dL_law_1138 ?_
  refine S_aI (pc := 1139) dL_law_1139 (fun v5 => ?_)
  refine S_aload_n (pc := 1140) 0 rfl dL_law_1140 rfl ?_
  refine S_iload_n (pc := 1141) 3 rfl dL_law_1141 rfl ?_
  refine S_iconst (pc := 1142) dL_law_1142 ic_2 ?_
  refine S_iadd (pc := 1143) dL_law_1143 ?_
  refine S_aI (pc := 1144) dL_law_1144 (fun v6 => ?_)
  refine S_aload_n (pc := 1145) 0 rfl dL_law_1145 rfl ?_
  refine S_iload_n (pc := 1146) 3 rfl dL_law_1146 rfl ?_
  refine S_iconst (pc := 1147) dL_law_1147 ic_3 ?_
  refine S_iadd (pc := 1148) dL_law_1148 ?_
  refine S_aI (pc := 1149) dL_law_1149 (fun v7 => ?_)
  refine S_call_i (pc := 1150) (rest := [.int q4.1]) (fun q hq => (x_if hq).elim (fun z => R_V (av := [.int v5, .int v6, .int v7]) (q := (RX12, TX12, 28)) (M_X12_next _ a2 v5 v6 v7 q4.2 z.2) z.1 rfl wd_1125 wd_1122 wd_1123 wd_50 wd_1124 ⟨rfl, hd_X12_next⟩ ⟨Nat.le_of_ble_eq_true rfl, Nat.le_of_ble_eq_true rfl⟩ rfl (Nat.le_of_ble_eq_true rfl) dL_law_1150) (fun hq => (by cases hq))) (fun _ h => List.mem_cons_of_mem _ (List.mem_cons_of_mem _ (List.mem_cons_of_mem _ (List.mem_cons_of_mem _ (h))))) (fun q8 => ?_)
  refine S_icmp_eq (pc := 1153) (tgt := 1643) dL_law_1153 (by decide) ?_ ?_
  · refine S_sub [0, 1, 2, 3] rfl ?_
    exact hk a3 q8.2
  · refine S_iconst (pc := 1156) dL_law_1156 ic_0 ?_
    exact Sim.fin ⟨dL_law_1157, rfl, rfl, x_nar (Or.inl rfl)⟩ rfl
theorem dL_law_1158 : decode cL_law 1158 = .ok (.aload_n 1, 1) := by decide +kernel
theorem dL_law_1159 : decode cL_law 1159 = .ok (.aload_n 0, 1) := by decide +kernel
theorem dL_law_1160 : decode cL_law 1160 = .ok (.iload_n 3, 1) := by decide +kernel
theorem dL_law_1161 : decode cL_law 1161 = .ok (.iconst 1, 1) := by decide +kernel
theorem dL_law_1162 : decode cL_law 1162 = .ok (.iadd, 1) := by decide +kernel
theorem dL_law_1163 : decode cL_law 1163 = .ok (.iaload, 1) := by decide +kernel
theorem dL_law_1164 : decode cL_law 1164 = .ok (.aload_n 0, 1) := by decide +kernel
theorem dL_law_1165 : decode cL_law 1165 = .ok (.iload_n 3, 1) := by decide +kernel
theorem dL_law_1166 : decode cL_law 1166 = .ok (.iconst 2, 1) := by decide +kernel
theorem dL_law_1167 : decode cL_law 1167 = .ok (.iadd, 1) := by decide +kernel
theorem dL_law_1168 : decode cL_law 1168 = .ok (.iaload, 1) := by decide +kernel
theorem dL_law_1169 : decode cL_law 1169 = .ok (.aload_n 0, 1) := by decide +kernel
theorem dL_law_1170 : decode cL_law 1170 = .ok (.iload_n 3, 1) := by decide +kernel
theorem dL_law_1171 : decode cL_law 1171 = .ok (.iconst 3, 1) := by decide +kernel
theorem dL_law_1172 : decode cL_law 1172 = .ok (.iadd, 1) := by decide +kernel
theorem dL_law_1173 : decode cL_law 1173 = .ok (.iaload, 1) := by decide +kernel
theorem dL_law_1174 : decode cL_law 1174 = .ok (.invokevirtual 128, 3) := by decide +kernel
theorem dL_law_1177 : decode cL_law 1177 = .ok (.aload_n 2, 1) := by decide +kernel
theorem dL_law_1178 : decode cL_law 1178 = .ok (.aload_n 0, 1) := by decide +kernel
theorem dL_law_1179 : decode cL_law 1179 = .ok (.iload_n 3, 1) := by decide +kernel
theorem dL_law_1180 : decode cL_law 1180 = .ok (.iconst 1, 1) := by decide +kernel
theorem dL_law_1181 : decode cL_law 1181 = .ok (.iadd, 1) := by decide +kernel
theorem dL_law_1182 : decode cL_law 1182 = .ok (.iaload, 1) := by decide +kernel
theorem dL_law_1183 : decode cL_law 1183 = .ok (.aload_n 0, 1) := by decide +kernel
theorem dL_law_1184 : decode cL_law 1184 = .ok (.iload_n 3, 1) := by decide +kernel
theorem dL_law_1185 : decode cL_law 1185 = .ok (.iconst 2, 1) := by decide +kernel
theorem dL_law_1186 : decode cL_law 1186 = .ok (.iadd, 1) := by decide +kernel
theorem dL_law_1187 : decode cL_law 1187 = .ok (.iaload, 1) := by decide +kernel
theorem dL_law_1188 : decode cL_law 1188 = .ok (.aload_n 0, 1) := by decide +kernel
theorem dL_law_1189 : decode cL_law 1189 = .ok (.iload_n 3, 1) := by decide +kernel
theorem dL_law_1190 : decode cL_law 1190 = .ok (.iconst 3, 1) := by decide +kernel
theorem dL_law_1191 : decode cL_law 1191 = .ok (.iadd, 1) := by decide +kernel
theorem dL_law_1192 : decode cL_law 1192 = .ok (.iaload, 1) := by decide +kernel
theorem dL_law_1193 : decode cL_law 1193 = .ok (.invokevirtual 131, 3) := by decide +kernel
theorem dL_law_1196 : decode cL_law 1196 = .ok (.if_icmp .eq 447, 3) := by decide +kernel
theorem dL_law_1199 : decode cL_law 1199 = .ok (.iconst 0, 1) := by decide +kernel
theorem dL_law_1200 : decode cL_law 1200 = .ok (.ireturn, 1) := by decide +kernel
set_option maxRecDepth 20000 in
set_option maxHeartbeats 4000000 in
theorem C_law_27 {nm : String} (K : xK) (L : xL) (k : Int32 → xH → Option (Int32 × xH)) (a0 a1 a2 : Nat) (hk : ∀ (a3 : Int32) (h : xH), Sim K L cL_law RL nm 4 8 (fun q : Int32 × xH => q.2) (xRz cL_law) 1643 [(0, .ref a0), (1, .ref a1), (2, .ref a2), (3, .int a3)] [] h (k a3 h)) (a3 : Int32) (h : xH) : Sim K L cL_law RL nm 4 8 (fun q : Int32 × xH => q.2) (xRz cL_law) 1158 [(0, .ref a0), (1, .ref a1), (2, .ref a2), (3, .int a3)] [] h (f_law_c27 k a0 a1 a2 a3 h) := by
  unfold f_law_c27
  refine S_aload_n (pc := 1158) 1 rfl dL_law_1158 rfl ?_
  refine S_aload_n (pc := 1159) 0 rfl dL_law_1159 rfl ?_
  refine S_iload_n (pc := 1160) 3 rfl dL_law_1160 rfl ?_
  refine S_iconst (pc := 1161) dL_law_1161 ic_1 ?_
  refine S_iadd (pc := 1162) dL_law_1162 ?_
  refine S_aI (pc := 1163) dL_law_1163 (fun v1 => ?_)
  refine S_aload_n (pc := 1164) 0 rfl dL_law_1164 rfl ?_
  refine S_iload_n (pc := 1165) 3 rfl dL_law_1165 rfl ?_
  refine S_iconst (pc := 1166) dL_law_1166 ic_2 ?_
  refine S_iadd (pc := 1167) dL_law_1167 ?_
  refine S_aI (pc := 1168) dL_law_1168 (fun v2 => ?_)
  refine S_aload_n (pc := 1169) 0 rfl dL_law_1169 rfl ?_
  refine S_iload_n (pc := 1170) 3 rfl dL_law_1170 rfl ?_
  refine S_iconst (pc := 1171) dL_law_1171 ic_3 ?_
  refine S_iadd (pc := 1172) dL_law_1172 ?_
  refine S_aI (pc := 1173) dL_law_1173 (fun v3 => ?_)
  refine S_call_i (pc := 1174) (rest := []) (fun q hq => (x_if hq).elim (fun z => R_V (av := [.int v1, .int v2, .int v3]) (q := (RX11, TX11, 12)) (M_X11_last _ a1 v1 v2 v3 h z.2) z.1 rfl wd_633 wd_630 wd_631 wd_44 wd_632 ⟨rfl, hd_X11_last⟩ ⟨Nat.le_of_ble_eq_true rfl, Nat.le_of_ble_eq_true rfl⟩ rfl (Nat.le_of_ble_eq_true rfl) dL_law_1174) (fun hq => (by cases hq))) (fun _ h => absurd h List.not_mem_nil) (fun q4 => ?_)
  refine S_aload_n (pc := 1177) 2 rfl dL_law_1177 rfl ?_
  refine S_aload_n (pc := 1178) 0 rfl dL_law_1178 rfl ?_
  refine S_iload_n (pc := 1179) 3 rfl dL_law_1179 rfl ?_
  refine S_iconst (pc := 1180) dL_law_1180 ic_1 ?_
  refine S_iadd (pc := 1181) dL_law_1181 ?_
  refine S_aI (pc := 1182) dL_law_1182 (fun v5 => ?_)
  refine S_aload_n (pc := 1183) 0 rfl dL_law_1183 rfl ?_
  refine S_iload_n (pc := 1184) 3 rfl dL_law_1184 rfl ?_
  refine S_iconst (pc := 1185) dL_law_1185 ic_2 ?_
  refine S_iadd (pc := 1186) dL_law_1186 ?_
  refine S_aI (pc := 1187) dL_law_1187 (fun v6 => ?_)
  refine S_aload_n (pc := 1188) 0 rfl dL_law_1188 rfl ?_
  refine S_iload_n (pc := 1189) 3 rfl dL_law_1189 rfl ?_
  refine S_iconst (pc := 1190) dL_law_1190 ic_3 ?_
  refine S_iadd (pc := 1191) dL_law_1191 ?_
  refine S_aI (pc := 1192) dL_law_1192 (fun v7 => ?_)
  refine S_call_i (pc := 1193) (rest := [.int q4.1]) (fun q hq => (x_if hq).elim (fun z => R_V (av := [.int v5, .int v6, .int v7]) (q := (RX12, TX12, 28)) (M_X12_last _ a2 v5 v6 v7 q4.2 z.2) z.1 rfl wd_1129 wd_1126 wd_1127 wd_50 wd_1128 ⟨rfl, hd_X12_last⟩ ⟨Nat.le_of_ble_eq_true rfl, Nat.le_of_ble_eq_true rfl⟩ rfl (Nat.le_of_ble_eq_true rfl) dL_law_1193) (fun hq => (by cases hq))) (fun _ h => List.mem_cons_of_mem _ (List.mem_cons_of_mem _ (List.mem_cons_of_mem _ (List.mem_cons_of_mem _ (h))))) (fun q8 => ?_)
  refine S_icmp_eq (pc := 1196) (tgt := 1643) dL_law_1196 (by decide) ?_ ?_
  · refine S_sub [0, 1, 2, 3] rfl ?_
    exact hk a3 q8.2
  · refine S_iconst (pc := 1199) dL_law_1199 ic_0 ?_
    exact Sim.fin ⟨dL_law_1200, rfl, rfl, x_nar (Or.inl rfl)⟩ rfl
