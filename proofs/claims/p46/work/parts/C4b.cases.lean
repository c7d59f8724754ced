theorem dL_law_843 : decode cL_law 843 = .ok (.aload_n 1, 1) := lw_f43 (lw_at lw_e26 (j := 11) rfl)
theorem dL_law_844 : decode cL_law 844 = .ok (.aload_n 0, 1) := lw_f42 (lw_at lw_e26 (j := 12) rfl)
theorem dL_law_845 : decode cL_law 845 = .ok (.iload_n 3, 1) := lw_f29 (lw_at lw_e26 (j := 13) rfl)
theorem dL_law_846 : decode cL_law 846 = .ok (.iconst 1, 1) := lw_f4 (lw_at lw_e26 (j := 14) rfl)
theorem dL_law_847 : decode cL_law 847 = .ok (.iadd, 1) := lw_f96 (lw_at lw_e26 (j := 15) rfl)
theorem dL_law_848 : decode cL_law 848 = .ok (.iaload, 1) := lw_f46 (lw_at lw_e26 (j := 16) rfl)
theorem dL_law_849 : decode cL_law 849 = .ok (.aload_n 0, 1) := lw_f42 (lw_at lw_e26 (j := 17) rfl)
theorem dL_law_850 : decode cL_law 850 = .ok (.iload_n 3, 1) := lw_f29 (lw_at lw_e26 (j := 18) rfl)
theorem dL_law_851 : decode cL_law 851 = .ok (.iconst 2, 1) := lw_f5 (lw_at lw_e26 (j := 19) rfl)
theorem dL_law_852 : decode cL_law 852 = .ok (.iadd, 1) := lw_f96 (lw_at lw_e26 (j := 20) rfl)
theorem dL_law_853 : decode cL_law 853 = .ok (.iaload, 1) := lw_f46 (lw_at lw_e26 (j := 21) rfl)
theorem dL_law_854 : decode cL_law 854 = .ok (.aload_n 0, 1) := lw_f42 (lw_at lw_e26 (j := 22) rfl)
theorem dL_law_855 : decode cL_law 855 = .ok (.iload_n 3, 1) := lw_f29 (lw_at lw_e26 (j := 23) rfl)
theorem dL_law_856 : decode cL_law 856 = .ok (.iconst 3, 1) := lw_f6 (lw_at lw_e26 (j := 24) rfl)
theorem dL_law_857 : decode cL_law 857 = .ok (.iadd, 1) := lw_f96 (lw_at lw_e26 (j := 25) rfl)
theorem dL_law_858 : decode cL_law 858 = .ok (.iaload, 1) := lw_f46 (lw_at lw_e26 (j := 26) rfl)
theorem dL_law_859 : decode cL_law 859 = .ok (.aload_n 0, 1) := lw_f42 (lw_at lw_e26 (j := 27) rfl)
theorem dL_law_860 : decode cL_law 860 = .ok (.iload_n 3, 1) := lw_f29 (lw_at lw_e26 (j := 28) rfl)
theorem dL_law_861 : decode cL_law 861 = .ok (.iconst 4, 1) := lw_f7 (lw_at lw_e26 (j := 29) rfl)
theorem dL_law_862 : decode cL_law 862 = .ok (.iadd, 1) := lw_f96 (lw_at lw_e26 (j := 30) rfl)
theorem dL_law_863 : decode cL_law 863 = .ok (.iaload, 1) := lw_f46 (lw_at lw_e26 (j := 31) rfl)
theorem dL_law_864 : decode cL_law 864 = .ok (.aload_n 0, 1) := lw_f42 (lw_at lw_e27 (j := 0) rfl)
theorem dL_law_865 : decode cL_law 865 = .ok (.iload_n 3, 1) := lw_f29 (lw_at lw_e27 (j := 1) rfl)
theorem dL_law_866 : decode cL_law 866 = .ok (.iconst 5, 1) := lw_f8 (lw_at lw_e27 (j := 2) rfl)
theorem dL_law_867 : decode cL_law 867 = .ok (.iadd, 1) := lw_f96 (lw_at lw_e27 (j := 3) rfl)
theorem dL_law_868 : decode cL_law 868 = .ok (.iaload, 1) := lw_f46 (lw_at lw_e27 (j := 4) rfl)
theorem dL_law_869 : decode cL_law 869 = .ok (.invokevirtual 80, 3) := lw_f182 (lw_at lw_e27 (j := 5) rfl) (lw_at lw_e27 (j := 6) rfl) (lw_at lw_e27 (j := 7) rfl) rfl
theorem dL_law_872 : decode cL_law 872 = .ok (.pop, 1) := lw_f87 (lw_at lw_e27 (j := 8) rfl)
theorem dL_law_873 : decode cL_law 873 = .ok (.aload_n 2, 1) := lw_f44 (lw_at lw_e27 (j := 9) rfl)
theorem dL_law_874 : decode cL_law 874 = .ok (.aload_n 0, 1) := lw_f42 (lw_at lw_e27 (j := 10) rfl)
theorem dL_law_875 : decode cL_law 875 = .ok (.iload_n 3, 1) := lw_f29 (lw_at lw_e27 (j := 11) rfl)
theorem dL_law_876 : decode cL_law 876 = .ok (.iconst 1, 1) := lw_f4 (lw_at lw_e27 (j := 12) rfl)
theorem dL_law_877 : decode cL_law 877 = .ok (.iadd, 1) := lw_f96 (lw_at lw_e27 (j := 13) rfl)
theorem dL_law_878 : decode cL_law 878 = .ok (.iaload, 1) := lw_f46 (lw_at lw_e27 (j := 14) rfl)
theorem dL_law_879 : decode cL_law 879 = .ok (.aload_n 0, 1) := lw_f42 (lw_at lw_e27 (j := 15) rfl)
theorem dL_law_880 : decode cL_law 880 = .ok (.iload_n 3, 1) := lw_f29 (lw_at lw_e27 (j := 16) rfl)
theorem dL_law_881 : decode cL_law 881 = .ok (.iconst 2, 1) := lw_f5 (lw_at lw_e27 (j := 17) rfl)
theorem dL_law_882 : decode cL_law 882 = .ok (.iadd, 1) := lw_f96 (lw_at lw_e27 (j := 18) rfl)
theorem dL_law_883 : decode cL_law 883 = .ok (.iaload, 1) := lw_f46 (lw_at lw_e27 (j := 19) rfl)
theorem dL_law_884 : decode cL_law 884 = .ok (.aload_n 0, 1) := lw_f42 (lw_at lw_e27 (j := 20) rfl)
theorem dL_law_885 : decode cL_law 885 = .ok (.iload_n 3, 1) := lw_f29 (lw_at lw_e27 (j := 21) rfl)
theorem dL_law_886 : decode cL_law 886 = .ok (.iconst 3, 1) := lw_f6 (lw_at lw_e27 (j := 22) rfl)
theorem dL_law_887 : decode cL_law 887 = .ok (.iadd, 1) := lw_f96 (lw_at lw_e27 (j := 23) rfl)
theorem dL_law_888 : decode cL_law 888 = .ok (.iaload, 1) := lw_f46 (lw_at lw_e27 (j := 24) rfl)
theorem dL_law_889 : decode cL_law 889 = .ok (.aload_n 0, 1) := lw_f42 (lw_at lw_e27 (j := 25) rfl)
theorem dL_law_890 : decode cL_law 890 = .ok (.iload_n 3, 1) := lw_f29 (lw_at lw_e27 (j := 26) rfl)
theorem dL_law_891 : decode cL_law 891 = .ok (.iconst 4, 1) := lw_f7 (lw_at lw_e27 (j := 27) rfl)
theorem dL_law_892 : decode cL_law 892 = .ok (.iadd, 1) := lw_f96 (lw_at lw_e27 (j := 28) rfl)
theorem dL_law_893 : decode cL_law 893 = .ok (.iaload, 1) := lw_f46 (lw_at lw_e27 (j := 29) rfl)
theorem dL_law_894 : decode cL_law 894 = .ok (.aload_n 0, 1) := lw_f42 (lw_at lw_e27 (j := 30) rfl)
theorem dL_law_895 : decode cL_law 895 = .ok (.iload_n 3, 1) := lw_f29 (lw_at lw_e27 (j := 31) rfl)
theorem dL_law_896 : decode cL_law 896 = .ok (.iconst 5, 1) := lw_f8 (lw_at lw_e28 (j := 0) rfl)
theorem dL_law_897 : decode cL_law 897 = .ok (.iadd, 1) := lw_f96 (lw_at lw_e28 (j := 1) rfl)
theorem dL_law_898 : decode cL_law 898 = .ok (.iaload, 1) := lw_f46 (lw_at lw_e28 (j := 2) rfl)
theorem dL_law_899 : decode cL_law 899 = .ok (.invokevirtual 83, 3) := lw_f182 (lw_at lw_e28 (j := 3) rfl) (lw_at lw_e28 (j := 4) rfl) (lw_at lw_e28 (j := 5) rfl) rfl
theorem dL_law_902 : decode cL_law 902 = .ok (.pop, 1) := lw_f87 (lw_at lw_e28 (j := 6) rfl)
theorem dL_law_903 : decode cL_law 903 = .ok (.goto 1102, 3) := lw_f167 (lw_at lw_e28 (j := 7) rfl) (lw_at lw_e28 (j := 8) rfl) (lw_at lw_e28 (j := 9) rfl) (by decide)
theorem wk_1028 : Cond.methodLink RL 80 yX11_drawn ∈ tl_L := List.mem_filter.mpr ⟨lw_m5 (i := 5) rfl, rfl⟩
theorem wk_1029 : Cond.instanceMethod yX11_drawn ∈ tl_L := List.mem_filter.mpr ⟨lw_m5 (i := 6) rfl, rfl⟩
theorem wk_1030 : Cond.selects RX11 yX11_drawn yX11_drawn ∈ tl_L := List.mem_filter.mpr ⟨lw_m5 (i := 7) rfl, rfl⟩
theorem wk_1031 : Cond.code yX11_drawn cX11_drawn 12 (some .int) ∈ tl_L := List.mem_filter.mpr ⟨lw_m5 (i := 8) rfl, rfl⟩
theorem wk_1032 : Cond.methodLink RL 83 yX12_drawn ∈ tl_L := List.mem_filter.mpr ⟨lw_m8 (i := 81) rfl, rfl⟩
theorem wk_1033 : Cond.instanceMethod yX12_drawn ∈ tl_L := List.mem_filter.mpr ⟨lw_m8 (i := 82) rfl, rfl⟩
theorem wk_1034 : Cond.selects RX12 yX12_drawn yX12_drawn ∈ tl_L := List.mem_filter.mpr ⟨lw_m8 (i := 83) rfl, rfl⟩
theorem wk_1035 : Cond.code yX12_drawn cX12_drawn 12 (some .int) ∈ tl_L := List.mem_filter.mpr ⟨lw_m8 (i := 84) rfl, rfl⟩
theorem lk_L_80 : tl_kV RL 80 RX11 yX11_drawn cX11_drawn 12 (some .int) 5 := ⟨wk_1031, wk_1028, wk_1029, wk_1030, wk_2, ⟨by decide +kernel, by decide +kernel, by decide +kernel⟩⟩
theorem lk_L_83 : tl_kV RL 83 RX12 yX12_drawn cX12_drawn 12 (some .int) 5 := ⟨wk_1035, wk_1032, wk_1033, wk_1034, wk_5, ⟨by decide +kernel, by decide +kernel, by decide +kernel⟩⟩
theorem dL_law_906 : decode cL_law 906 = .ok (.aload_n 1, 1) := lw_f43 (lw_at lw_e28 (j := 10) rfl)
theorem dL_law_907 : decode cL_law 907 = .ok (.aload_n 0, 1) := lw_f42 (lw_at lw_e28 (j := 11) rfl)
theorem dL_law_908 : decode cL_law 908 = .ok (.iload_n 3, 1) := lw_f29 (lw_at lw_e28 (j := 12) rfl)
theorem dL_law_909 : decode cL_law 909 = .ok (.iconst 1, 1) := lw_f4 (lw_at lw_e28 (j := 13) rfl)
theorem dL_law_910 : decode cL_law 910 = .ok (.iadd, 1) := lw_f96 (lw_at lw_e28 (j := 14) rfl)
theorem dL_law_911 : decode cL_law 911 = .ok (.iaload, 1) := lw_f46 (lw_at lw_e28 (j := 15) rfl)
theorem dL_law_912 : decode cL_law 912 = .ok (.aload_n 0, 1) := lw_f42 (lw_at lw_e28 (j := 16) rfl)
theorem dL_law_913 : decode cL_law 913 = .ok (.iload_n 3, 1) := lw_f29 (lw_at lw_e28 (j := 17) rfl)
theorem dL_law_914 : decode cL_law 914 = .ok (.iconst 2, 1) := lw_f5 (lw_at lw_e28 (j := 18) rfl)
theorem dL_law_915 : decode cL_law 915 = .ok (.iadd, 1) := lw_f96 (lw_at lw_e28 (j := 19) rfl)
theorem dL_law_916 : decode cL_law 916 = .ok (.iaload, 1) := lw_f46 (lw_at lw_e28 (j := 20) rfl)
theorem dL_law_917 : decode cL_law 917 = .ok (.aload_n 0, 1) := lw_f42 (lw_at lw_e28 (j := 21) rfl)
theorem dL_law_918 : decode cL_law 918 = .ok (.iload_n 3, 1) := lw_f29 (lw_at lw_e28 (j := 22) rfl)
theorem dL_law_919 : decode cL_law 919 = .ok (.iconst 3, 1) := lw_f6 (lw_at lw_e28 (j := 23) rfl)
theorem dL_law_920 : decode cL_law 920 = .ok (.iadd, 1) := lw_f96 (lw_at lw_e28 (j := 24) rfl)
theorem dL_law_921 : decode cL_law 921 = .ok (.iaload, 1) := lw_f46 (lw_at lw_e28 (j := 25) rfl)
theorem dL_law_922 : decode cL_law 922 = .ok (.invokevirtual 84, 3) := lw_f182 (lw_at lw_e28 (j := 26) rfl) (lw_at lw_e28 (j := 27) rfl) (lw_at lw_e28 (j := 28) rfl) rfl
theorem dL_law_925 : decode cL_law 925 = .ok (.pop2, 1) := lw_f88 (lw_at lw_e28 (j := 29) rfl)
theorem dL_law_926 : decode cL_law 926 = .ok (.aload_n 2, 1) := lw_f44 (lw_at lw_e28 (j := 30) rfl)
theorem dL_law_927 : decode cL_law 927 = .ok (.aload_n 0, 1) := lw_f42 (lw_at lw_e28 (j := 31) rfl)
theorem dL_law_928 : decode cL_law 928 = .ok (.iload_n 3, 1) := lw_f29 (lw_at lw_e29 (j := 0) rfl)
theorem dL_law_929 : decode cL_law 929 = .ok (.iconst 1, 1) := lw_f4 (lw_at lw_e29 (j := 1) rfl)
theorem dL_law_930 : decode cL_law 930 = .ok (.iadd, 1) := lw_f96 (lw_at lw_e29 (j := 2) rfl)
theorem dL_law_931 : decode cL_law 931 = .ok (.iaload, 1) := lw_f46 (lw_at lw_e29 (j := 3) rfl)
theorem dL_law_932 : decode cL_law 932 = .ok (.aload_n 0, 1) := lw_f42 (lw_at lw_e29 (j := 4) rfl)
theorem dL_law_933 : decode cL_law 933 = .ok (.iload_n 3, 1) := lw_f29 (lw_at lw_e29 (j := 5) rfl)
theorem dL_law_934 : decode cL_law 934 = .ok (.iconst 2, 1) := lw_f5 (lw_at lw_e29 (j := 6) rfl)
theorem dL_law_935 : decode cL_law 935 = .ok (.iadd, 1) := lw_f96 (lw_at lw_e29 (j := 7) rfl)
theorem dL_law_936 : decode cL_law 936 = .ok (.iaload, 1) := lw_f46 (lw_at lw_e29 (j := 8) rfl)
theorem dL_law_937 : decode cL_law 937 = .ok (.aload_n 0, 1) := lw_f42 (lw_at lw_e29 (j := 9) rfl)
theorem dL_law_938 : decode cL_law 938 = .ok (.iload_n 3, 1) := lw_f29 (lw_at lw_e29 (j := 10) rfl)
theorem dL_law_939 : decode cL_law 939 = .ok (.iconst 3, 1) := lw_f6 (lw_at lw_e29 (j := 11) rfl)
theorem dL_law_940 : decode cL_law 940 = .ok (.iadd, 1) := lw_f96 (lw_at lw_e29 (j := 12) rfl)
theorem dL_law_941 : decode cL_law 941 = .ok (.iaload, 1) := lw_f46 (lw_at lw_e29 (j := 13) rfl)
theorem dL_law_942 : decode cL_law 942 = .ok (.invokevirtual 87, 3) := lw_f182 (lw_at lw_e29 (j := 14) rfl) (lw_at lw_e29 (j := 15) rfl) (lw_at lw_e29 (j := 16) rfl) rfl
theorem dL_law_945 : decode cL_law 945 = .ok (.pop2, 1) := lw_f88 (lw_at lw_e29 (j := 17) rfl)
theorem dL_law_946 : decode cL_law 946 = .ok (.goto 1059, 3) := lw_f167 (lw_at lw_e29 (j := 18) rfl) (lw_at lw_e29 (j := 19) rfl) (lw_at lw_e29 (j := 20) rfl) (by decide)
theorem wk_1037 : Cond.methodLink RL 84 yX11_bent ∈ tl_L := List.mem_filter.mpr ⟨lw_m5 (i := 10) rfl, rfl⟩
theorem wk_1038 : Cond.instanceMethod yX11_bent ∈ tl_L := List.mem_filter.mpr ⟨lw_m5 (i := 11) rfl, rfl⟩
theorem wk_1039 : Cond.selects RX11 yX11_bent yX11_bent ∈ tl_L := List.mem_filter.mpr ⟨lw_m5 (i := 12) rfl, rfl⟩
theorem wk_1040 : Cond.code yX11_bent cX11_bent 4 (some .long) ∈ tl_L := List.mem_filter.mpr ⟨lw_m5 (i := 13) rfl, rfl⟩
theorem wk_1044 : Cond.methodLink RL 87 yX12_bent ∈ tl_L := List.mem_filter.mpr ⟨lw_m8 (i := 86) rfl, rfl⟩
theorem wk_1045 : Cond.instanceMethod yX12_bent ∈ tl_L := List.mem_filter.mpr ⟨lw_m8 (i := 87) rfl, rfl⟩
theorem wk_1046 : Cond.selects RX12 yX12_bent yX12_bent ∈ tl_L := List.mem_filter.mpr ⟨lw_m8 (i := 88) rfl, rfl⟩
theorem wk_1047 : Cond.code yX12_bent cX12_bent 4 (some .long) ∈ tl_L := List.mem_filter.mpr ⟨lw_m8 (i := 89) rfl, rfl⟩
theorem lk_L_84 : tl_kV RL 84 RX11 yX11_bent cX11_bent 4 (some .long) 3 := ⟨wk_1040, wk_1037, wk_1038, wk_1039, wk_2, ⟨by decide +kernel, by decide +kernel, by decide +kernel⟩⟩
theorem lk_L_87 : tl_kV RL 87 RX12 yX12_bent cX12_bent 4 (some .long) 3 := ⟨wk_1047, wk_1044, wk_1045, wk_1046, wk_5, ⟨by decide +kernel, by decide +kernel, by decide +kernel⟩⟩
theorem dL_law_949 : decode cL_law 949 = .ok (.aload_n 1, 1) := lw_f43 (lw_at lw_e29 (j := 21) rfl)
theorem dL_law_950 : decode cL_law 950 = .ok (.aload_n 0, 1) := lw_f42 (lw_at lw_e29 (j := 22) rfl)
theorem dL_law_951 : decode cL_law 951 = .ok (.iload_n 3, 1) := lw_f29 (lw_at lw_e29 (j := 23) rfl)
theorem dL_law_952 : decode cL_law 952 = .ok (.iconst 1, 1) := lw_f4 (lw_at lw_e29 (j := 24) rfl)
theorem dL_law_953 : decode cL_law 953 = .ok (.iadd, 1) := lw_f96 (lw_at lw_e29 (j := 25) rfl)
theorem dL_law_954 : decode cL_law 954 = .ok (.iaload, 1) := lw_f46 (lw_at lw_e29 (j := 26) rfl)
theorem dL_law_955 : decode cL_law 955 = .ok (.aload_n 0, 1) := lw_f42 (lw_at lw_e29 (j := 27) rfl)
theorem dL_law_956 : decode cL_law 956 = .ok (.iload_n 3, 1) := lw_f29 (lw_at lw_e29 (j := 28) rfl)
theorem dL_law_957 : decode cL_law 957 = .ok (.iconst 2, 1) := lw_f5 (lw_at lw_e29 (j := 29) rfl)
theorem dL_law_958 : decode cL_law 958 = .ok (.iadd, 1) := lw_f96 (lw_at lw_e29 (j := 30) rfl)
theorem dL_law_959 : decode cL_law 959 = .ok (.iaload, 1) := lw_f46 (lw_at lw_e29 (j := 31) rfl)
theorem dL_law_960 : decode cL_law 960 = .ok (.aload_n 0, 1) := lw_f42 (lw_at lw_e30 (j := 0) rfl)
theorem dL_law_961 : decode cL_law 961 = .ok (.iload_n 3, 1) := lw_f29 (lw_at lw_e30 (j := 1) rfl)
theorem dL_law_962 : decode cL_law 962 = .ok (.iconst 3, 1) := lw_f6 (lw_at lw_e30 (j := 2) rfl)
theorem dL_law_963 : decode cL_law 963 = .ok (.iadd, 1) := lw_f96 (lw_at lw_e30 (j := 3) rfl)
theorem dL_law_964 : decode cL_law 964 = .ok (.iaload, 1) := lw_f46 (lw_at lw_e30 (j := 4) rfl)
theorem dL_law_965 : decode cL_law 965 = .ok (.aload_n 0, 1) := lw_f42 (lw_at lw_e30 (j := 5) rfl)
theorem dL_law_966 : decode cL_law 966 = .ok (.iload_n 3, 1) := lw_f29 (lw_at lw_e30 (j := 6) rfl)
theorem dL_law_967 : decode cL_law 967 = .ok (.iconst 4, 1) := lw_f7 (lw_at lw_e30 (j := 7) rfl)
theorem dL_law_968 : decode cL_law 968 = .ok (.iadd, 1) := lw_f96 (lw_at lw_e30 (j := 8) rfl)
theorem dL_law_969 : decode cL_law 969 = .ok (.iaload, 1) := lw_f46 (lw_at lw_e30 (j := 9) rfl)
theorem dL_law_970 : decode cL_law 970 = .ok (.invokevirtual 88, 3) := lw_f182 (lw_at lw_e30 (j := 10) rfl) (lw_at lw_e30 (j := 11) rfl) (lw_at lw_e30 (j := 12) rfl) rfl
theorem dL_law_973 : decode cL_law 973 = .ok (.pop2, 1) := lw_f88 (lw_at lw_e30 (j := 13) rfl)
theorem dL_law_974 : decode cL_law 974 = .ok (.aload_n 2, 1) := lw_f44 (lw_at lw_e30 (j := 14) rfl)
theorem dL_law_975 : decode cL_law 975 = .ok (.aload_n 0, 1) := lw_f42 (lw_at lw_e30 (j := 15) rfl)
theorem dL_law_976 : decode cL_law 976 = .ok (.iload_n 3, 1) := lw_f29 (lw_at lw_e30 (j := 16) rfl)
theorem dL_law_977 : decode cL_law 977 = .ok (.iconst 1, 1) := lw_f4 (lw_at lw_e30 (j := 17) rfl)
theorem dL_law_978 : decode cL_law 978 = .ok (.iadd, 1) := lw_f96 (lw_at lw_e30 (j := 18) rfl)
theorem dL_law_979 : decode cL_law 979 = .ok (.iaload, 1) := lw_f46 (lw_at lw_e30 (j := 19) rfl)
theorem dL_law_980 : decode cL_law 980 = .ok (.aload_n 0, 1) := lw_f42 (lw_at lw_e30 (j := 20) rfl)
theorem dL_law_981 : decode cL_law 981 = .ok (.iload_n 3, 1) := lw_f29 (lw_at lw_e30 (j := 21) rfl)
theorem dL_law_982 : decode cL_law 982 = .ok (.iconst 2, 1) := lw_f5 (lw_at lw_e30 (j := 22) rfl)
theorem dL_law_983 : decode cL_law 983 = .ok (.iadd, 1) := lw_f96 (lw_at lw_e30 (j := 23) rfl)
theorem dL_law_984 : decode cL_law 984 = .ok (.iaload, 1) := lw_f46 (lw_at lw_e30 (j := 24) rfl)
theorem dL_law_985 : decode cL_law 985 = .ok (.aload_n 0, 1) := lw_f42 (lw_at lw_e30 (j := 25) rfl)
theorem dL_law_986 : decode cL_law 986 = .ok (.iload_n 3, 1) := lw_f29 (lw_at lw_e30 (j := 26) rfl)
theorem dL_law_987 : decode cL_law 987 = .ok (.iconst 3, 1) := lw_f6 (lw_at lw_e30 (j := 27) rfl)
theorem dL_law_988 : decode cL_law 988 = .ok (.iadd, 1) := lw_f96 (lw_at lw_e30 (j := 28) rfl)
theorem dL_law_989 : decode cL_law 989 = .ok (.iaload, 1) := lw_f46 (lw_at lw_e30 (j := 29) rfl)
theorem dL_law_990 : decode cL_law 990 = .ok (.aload_n 0, 1) := lw_f42 (lw_at lw_e30 (j := 30) rfl)
theorem dL_law_991 : decode cL_law 991 = .ok (.iload_n 3, 1) := lw_f29 (lw_at lw_e30 (j := 31) rfl)
theorem dL_law_992 : decode cL_law 992 = .ok (.iconst 4, 1) := lw_f7 (lw_at lw_e31 (j := 0) rfl)
theorem dL_law_993 : decode cL_law 993 = .ok (.iadd, 1) := lw_f96 (lw_at lw_e31 (j := 1) rfl)
theorem dL_law_994 : decode cL_law 994 = .ok (.iaload, 1) := lw_f46 (lw_at lw_e31 (j := 2) rfl)
theorem dL_law_995 : decode cL_law 995 = .ok (.invokevirtual 92, 3) := lw_f182 (lw_at lw_e31 (j := 3) rfl) (lw_at lw_e31 (j := 4) rfl) (lw_at lw_e31 (j := 5) rfl) rfl
theorem dL_law_998 : decode cL_law 998 = .ok (.pop2, 1) := lw_f88 (lw_at lw_e31 (j := 6) rfl)
theorem dL_law_999 : decode cL_law 999 = .ok (.goto 1006, 3) := lw_f167 (lw_at lw_e31 (j := 7) rfl) (lw_at lw_e31 (j := 8) rfl) (lw_at lw_e31 (j := 9) rfl) (by decide)
theorem wk_1049 : Cond.methodLink RL 88 yX11_best ∈ tl_L := List.mem_filter.mpr ⟨lw_m5 (i := 18) rfl, rfl⟩
theorem wk_1050 : Cond.instanceMethod yX11_best ∈ tl_L := List.mem_filter.mpr ⟨lw_m5 (i := 19) rfl, rfl⟩
theorem wk_1051 : Cond.selects RX11 yX11_best yX11_best ∈ tl_L := List.mem_filter.mpr ⟨lw_m5 (i := 20) rfl, rfl⟩
theorem wk_1052 : Cond.code yX11_best cX11_best 11 (some .long) ∈ tl_L := List.mem_filter.mpr ⟨lw_m5 (i := 21) rfl, rfl⟩
theorem wk_1060 : Cond.methodLink RL 92 yX12_best ∈ tl_L := List.mem_filter.mpr ⟨lw_m8 (i := 91) rfl, rfl⟩
theorem wk_1061 : Cond.instanceMethod yX12_best ∈ tl_L := List.mem_filter.mpr ⟨lw_m8 (i := 92) rfl, rfl⟩
theorem wk_1062 : Cond.selects RX12 yX12_best yX12_best ∈ tl_L := List.mem_filter.mpr ⟨lw_m8 (i := 93) rfl, rfl⟩
theorem wk_1063 : Cond.code yX12_best cX12_best 13 (some .long) ∈ tl_L := List.mem_filter.mpr ⟨lw_m8 (i := 94) rfl, rfl⟩
theorem lk_L_88 : tl_kV RL 88 RX11 yX11_best cX11_best 11 (some .long) 4 := ⟨wk_1052, wk_1049, wk_1050, wk_1051, wk_2, ⟨by decide +kernel, by decide +kernel, by decide +kernel⟩⟩
theorem lk_L_92 : tl_kV RL 92 RX12 yX12_best cX12_best 13 (some .long) 4 := ⟨wk_1063, wk_1060, wk_1061, wk_1062, wk_5, ⟨by decide +kernel, by decide +kernel, by decide +kernel⟩⟩
theorem dL_law_1002 : decode cL_law 1002 = .ok (.aload_n 1, 1) := lw_f43 (lw_at lw_e31 (j := 10) rfl)
theorem dL_law_1003 : decode cL_law 1003 = .ok (.aload_n 0, 1) := lw_f42 (lw_at lw_e31 (j := 11) rfl)
theorem dL_law_1004 : decode cL_law 1004 = .ok (.iload_n 3, 1) := lw_f29 (lw_at lw_e31 (j := 12) rfl)
theorem dL_law_1005 : decode cL_law 1005 = .ok (.iconst 1, 1) := lw_f4 (lw_at lw_e31 (j := 13) rfl)
theorem dL_law_1006 : decode cL_law 1006 = .ok (.iadd, 1) := lw_f96 (lw_at lw_e31 (j := 14) rfl)
theorem dL_law_1007 : decode cL_law 1007 = .ok (.iaload, 1) := lw_f46 (lw_at lw_e31 (j := 15) rfl)
theorem dL_law_1008 : decode cL_law 1008 = .ok (.aload_n 0, 1) := lw_f42 (lw_at lw_e31 (j := 16) rfl)
theorem dL_law_1009 : decode cL_law 1009 = .ok (.iload_n 3, 1) := lw_f29 (lw_at lw_e31 (j := 17) rfl)
theorem dL_law_1010 : decode cL_law 1010 = .ok (.iconst 2, 1) := lw_f5 (lw_at lw_e31 (j := 18) rfl)
theorem dL_law_1011 : decode cL_law 1011 = .ok (.iadd, 1) := lw_f96 (lw_at lw_e31 (j := 19) rfl)
theorem dL_law_1012 : decode cL_law 1012 = .ok (.iaload, 1) := lw_f46 (lw_at lw_e31 (j := 20) rfl)
theorem dL_law_1013 : decode cL_law 1013 = .ok (.aload_n 0, 1) := lw_f42 (lw_at lw_e31 (j := 21) rfl)
theorem dL_law_1014 : decode cL_law 1014 = .ok (.iload_n 3, 1) := lw_f29 (lw_at lw_e31 (j := 22) rfl)
theorem dL_law_1015 : decode cL_law 1015 = .ok (.iconst 3, 1) := lw_f6 (lw_at lw_e31 (j := 23) rfl)
theorem dL_law_1016 : decode cL_law 1016 = .ok (.iadd, 1) := lw_f96 (lw_at lw_e31 (j := 24) rfl)
theorem dL_law_1017 : decode cL_law 1017 = .ok (.iaload, 1) := lw_f46 (lw_at lw_e31 (j := 25) rfl)
theorem dL_law_1018 : decode cL_law 1018 = .ok (.aload_n 0, 1) := lw_f42 (lw_at lw_e31 (j := 26) rfl)
theorem dL_law_1019 : decode cL_law 1019 = .ok (.iload_n 3, 1) := lw_f29 (lw_at lw_e31 (j := 27) rfl)
theorem dL_law_1020 : decode cL_law 1020 = .ok (.iconst 4, 1) := lw_f7 (lw_at lw_e31 (j := 28) rfl)
theorem dL_law_1021 : decode cL_law 1021 = .ok (.iadd, 1) := lw_f96 (lw_at lw_e31 (j := 29) rfl)
theorem dL_law_1022 : decode cL_law 1022 = .ok (.iaload, 1) := lw_f46 (lw_at lw_e31 (j := 30) rfl)
theorem dL_law_1023 : decode cL_law 1023 = .ok (.invokevirtual 93, 3) := lw_f182 (lw_at lw_e31 (j := 31) rfl) (lw_at lw_e32 (j := 0) rfl) (lw_at lw_e32 (j := 1) rfl) rfl
theorem dL_law_1026 : decode cL_law 1026 = .ok (.pop, 1) := lw_f87 (lw_at lw_e32 (j := 2) rfl)
theorem dL_law_1027 : decode cL_law 1027 = .ok (.aload_n 2, 1) := lw_f44 (lw_at lw_e32 (j := 3) rfl)
theorem dL_law_1028 : decode cL_law 1028 = .ok (.aload_n 0, 1) := lw_f42 (lw_at lw_e32 (j := 4) rfl)
theorem dL_law_1029 : decode cL_law 1029 = .ok (.iload_n 3, 1) := lw_f29 (lw_at lw_e32 (j := 5) rfl)
theorem dL_law_1030 : decode cL_law 1030 = .ok (.iconst 1, 1) := lw_f4 (lw_at lw_e32 (j := 6) rfl)
theorem dL_law_1031 : decode cL_law 1031 = .ok (.iadd, 1) := lw_f96 (lw_at lw_e32 (j := 7) rfl)
theorem dL_law_1032 : decode cL_law 1032 = .ok (.iaload, 1) := lw_f46 (lw_at lw_e32 (j := 8) rfl)
theorem dL_law_1033 : decode cL_law 1033 = .ok (.aload_n 0, 1) := lw_f42 (lw_at lw_e32 (j := 9) rfl)
theorem dL_law_1034 : decode cL_law 1034 = .ok (.iload_n 3, 1) := lw_f29 (lw_at lw_e32 (j := 10) rfl)
theorem dL_law_1035 : decode cL_law 1035 = .ok (.iconst 2, 1) := lw_f5 (lw_at lw_e32 (j := 11) rfl)
theorem dL_law_1036 : decode cL_law 1036 = .ok (.iadd, 1) := lw_f96 (lw_at lw_e32 (j := 12) rfl)
theorem dL_law_1037 : decode cL_law 1037 = .ok (.iaload, 1) := lw_f46 (lw_at lw_e32 (j := 13) rfl)
theorem dL_law_1038 : decode cL_law 1038 = .ok (.aload_n 0, 1) := lw_f42 (lw_at lw_e32 (j := 14) rfl)
theorem dL_law_1039 : decode cL_law 1039 = .ok (.iload_n 3, 1) := lw_f29 (lw_at lw_e32 (j := 15) rfl)
theorem dL_law_1040 : decode cL_law 1040 = .ok (.iconst 3, 1) := lw_f6 (lw_at lw_e32 (j := 16) rfl)
theorem dL_law_1041 : decode cL_law 1041 = .ok (.iadd, 1) := lw_f96 (lw_at lw_e32 (j := 17) rfl)
theorem dL_law_1042 : decode cL_law 1042 = .ok (.iaload, 1) := lw_f46 (lw_at lw_e32 (j := 18) rfl)
theorem dL_law_1043 : decode cL_law 1043 = .ok (.aload_n 0, 1) := lw_f42 (lw_at lw_e32 (j := 19) rfl)
theorem dL_law_1044 : decode cL_law 1044 = .ok (.iload_n 3, 1) := lw_f29 (lw_at lw_e32 (j := 20) rfl)
theorem dL_law_1045 : decode cL_law 1045 = .ok (.iconst 4, 1) := lw_f7 (lw_at lw_e32 (j := 21) rfl)
theorem dL_law_1046 : decode cL_law 1046 = .ok (.iadd, 1) := lw_f96 (lw_at lw_e32 (j := 22) rfl)
theorem dL_law_1047 : decode cL_law 1047 = .ok (.iaload, 1) := lw_f46 (lw_at lw_e32 (j := 23) rfl)
theorem dL_law_1048 : decode cL_law 1048 = .ok (.invokevirtual 96, 3) := lw_f182 (lw_at lw_e32 (j := 24) rfl) (lw_at lw_e32 (j := 25) rfl) (lw_at lw_e32 (j := 26) rfl) rfl
theorem dL_law_1051 : decode cL_law 1051 = .ok (.pop, 1) := lw_f87 (lw_at lw_e32 (j := 27) rfl)
theorem dL_law_1052 : decode cL_law 1052 = .ok (.goto 953, 3) := lw_f167 (lw_at lw_e32 (j := 28) rfl) (lw_at lw_e32 (j := 29) rfl) (lw_at lw_e32 (j := 30) rfl) (by decide)
theorem wk_1065 : Cond.methodLink RL 93 yX11_taken ∈ tl_L := List.mem_filter.mpr ⟨lw_m5 (i := 30) rfl, rfl⟩
theorem wk_1066 : Cond.instanceMethod yX11_taken ∈ tl_L := List.mem_filter.mpr ⟨lw_m5 (i := 31) rfl, rfl⟩
theorem wk_1067 : Cond.selects RX11 yX11_taken yX11_taken ∈ tl_L := List.mem_filter.mpr ⟨lw_m5 (i := 32) rfl, rfl⟩
theorem wk_1068 : Cond.code yX11_taken cX11_taken 11 (some .int) ∈ tl_L := List.mem_filter.mpr ⟨lw_m5 (i := 33) rfl, rfl⟩
theorem wk_1073 : Cond.methodLink RL 96 yX12_taken ∈ tl_L := List.mem_filter.mpr ⟨lw_m8 (i := 96) rfl, rfl⟩
theorem wk_1074 : Cond.instanceMethod yX12_taken ∈ tl_L := List.mem_filter.mpr ⟨lw_m8 (i := 97) rfl, rfl⟩
theorem wk_1075 : Cond.selects RX12 yX12_taken yX12_taken ∈ tl_L := List.mem_filter.mpr ⟨lw_m8 (i := 98) rfl, rfl⟩
theorem wk_1076 : Cond.code yX12_taken cX12_taken 12 (some .int) ∈ tl_L := List.mem_filter.mpr ⟨lw_m8 (i := 99) rfl, rfl⟩
theorem lk_L_93 : tl_kV RL 93 RX11 yX11_taken cX11_taken 11 (some .int) 4 := ⟨wk_1068, wk_1065, wk_1066, wk_1067, wk_2, ⟨by decide +kernel, by decide +kernel, by decide +kernel⟩⟩
theorem lk_L_96 : tl_kV RL 96 RX12 yX12_taken cX12_taken 12 (some .int) 4 := ⟨wk_1076, wk_1073, wk_1074, wk_1075, wk_5, ⟨by decide +kernel, by decide +kernel, by decide +kernel⟩⟩
theorem dL_law_1055 : decode cL_law 1055 = .ok (.aload_n 1, 1) := lw_f43 (lw_at lw_e32 (j := 31) rfl)
theorem dL_law_1056 : decode cL_law 1056 = .ok (.aload_n 0, 1) := lw_f42 (lw_at lw_e33 (j := 0) rfl)
theorem dL_law_1057 : decode cL_law 1057 = .ok (.iload_n 3, 1) := lw_f29 (lw_at lw_e33 (j := 1) rfl)
theorem dL_law_1058 : decode cL_law 1058 = .ok (.iconst 1, 1) := lw_f4 (lw_at lw_e33 (j := 2) rfl)
theorem dL_law_1059 : decode cL_law 1059 = .ok (.iadd, 1) := lw_f96 (lw_at lw_e33 (j := 3) rfl)
theorem dL_law_1060 : decode cL_law 1060 = .ok (.iaload, 1) := lw_f46 (lw_at lw_e33 (j := 4) rfl)
theorem dL_law_1061 : decode cL_law 1061 = .ok (.aload_n 0, 1) := lw_f42 (lw_at lw_e33 (j := 5) rfl)
theorem dL_law_1062 : decode cL_law 1062 = .ok (.iload_n 3, 1) := lw_f29 (lw_at lw_e33 (j := 6) rfl)
theorem dL_law_1063 : decode cL_law 1063 = .ok (.iconst 2, 1) := lw_f5 (lw_at lw_e33 (j := 7) rfl)
theorem dL_law_1064 : decode cL_law 1064 = .ok (.iadd, 1) := lw_f96 (lw_at lw_e33 (j := 8) rfl)
theorem dL_law_1065 : decode cL_law 1065 = .ok (.iaload, 1) := lw_f46 (lw_at lw_e33 (j := 9) rfl)
theorem dL_law_1066 : decode cL_law 1066 = .ok (.aload_n 0, 1) := lw_f42 (lw_at lw_e33 (j := 10) rfl)
theorem dL_law_1067 : decode cL_law 1067 = .ok (.iload_n 3, 1) := lw_f29 (lw_at lw_e33 (j := 11) rfl)
theorem dL_law_1068 : decode cL_law 1068 = .ok (.iconst 3, 1) := lw_f6 (lw_at lw_e33 (j := 12) rfl)
theorem dL_law_1069 : decode cL_law 1069 = .ok (.iadd, 1) := lw_f96 (lw_at lw_e33 (j := 13) rfl)
theorem dL_law_1070 : decode cL_law 1070 = .ok (.iaload, 1) := lw_f46 (lw_at lw_e33 (j := 14) rfl)
theorem dL_law_1071 : decode cL_law 1071 = .ok (.invokevirtual 97, 3) := lw_f182 (lw_at lw_e33 (j := 15) rfl) (lw_at lw_e33 (j := 16) rfl) (lw_at lw_e33 (j := 17) rfl) rfl
theorem dL_law_1074 : decode cL_law 1074 = .ok (.pop, 1) := lw_f87 (lw_at lw_e33 (j := 18) rfl)
theorem dL_law_1075 : decode cL_law 1075 = .ok (.aload_n 2, 1) := lw_f44 (lw_at lw_e33 (j := 19) rfl)
theorem dL_law_1076 : decode cL_law 1076 = .ok (.aload_n 0, 1) := lw_f42 (lw_at lw_e33 (j := 20) rfl)
theorem dL_law_1077 : decode cL_law 1077 = .ok (.iload_n 3, 1) := lw_f29 (lw_at lw_e33 (j := 21) rfl)
theorem dL_law_1078 : decode cL_law 1078 = .ok (.iconst 1, 1) := lw_f4 (lw_at lw_e33 (j := 22) rfl)
theorem dL_law_1079 : decode cL_law 1079 = .ok (.iadd, 1) := lw_f96 (lw_at lw_e33 (j := 23) rfl)
theorem dL_law_1080 : decode cL_law 1080 = .ok (.iaload, 1) := lw_f46 (lw_at lw_e33 (j := 24) rfl)
theorem dL_law_1081 : decode cL_law 1081 = .ok (.aload_n 0, 1) := lw_f42 (lw_at lw_e33 (j := 25) rfl)
theorem dL_law_1082 : decode cL_law 1082 = .ok (.iload_n 3, 1) := lw_f29 (lw_at lw_e33 (j := 26) rfl)
theorem dL_law_1083 : decode cL_law 1083 = .ok (.iconst 2, 1) := lw_f5 (lw_at lw_e33 (j := 27) rfl)
theorem dL_law_1084 : decode cL_law 1084 = .ok (.iadd, 1) := lw_f96 (lw_at lw_e33 (j := 28) rfl)
theorem dL_law_1085 : decode cL_law 1085 = .ok (.iaload, 1) := lw_f46 (lw_at lw_e33 (j := 29) rfl)
theorem dL_law_1086 : decode cL_law 1086 = .ok (.aload_n 0, 1) := lw_f42 (lw_at lw_e33 (j := 30) rfl)
theorem dL_law_1087 : decode cL_law 1087 = .ok (.iload_n 3, 1) := lw_f29 (lw_at lw_e33 (j := 31) rfl)
theorem dL_law_1088 : decode cL_law 1088 = .ok (.iconst 3, 1) := lw_f6 (lw_at lw_e34 (j := 0) rfl)
theorem dL_law_1089 : decode cL_law 1089 = .ok (.iadd, 1) := lw_f96 (lw_at lw_e34 (j := 1) rfl)
theorem dL_law_1090 : decode cL_law 1090 = .ok (.iaload, 1) := lw_f46 (lw_at lw_e34 (j := 2) rfl)
theorem dL_law_1091 : decode cL_law 1091 = .ok (.invokevirtual 100, 3) := lw_f182 (lw_at lw_e34 (j := 3) rfl) (lw_at lw_e34 (j := 4) rfl) (lw_at lw_e34 (j := 5) rfl) rfl
theorem dL_law_1094 : decode cL_law 1094 = .ok (.pop, 1) := lw_f87 (lw_at lw_e34 (j := 6) rfl)
theorem dL_law_1095 : decode cL_law 1095 = .ok (.goto 910, 3) := lw_f167 (lw_at lw_e34 (j := 7) rfl) (lw_at lw_e34 (j := 8) rfl) (lw_at lw_e34 (j := 9) rfl) (by decide)
theorem wk_1078 : Cond.methodLink RL 97 yX11_apart ∈ tl_L := List.mem_filter.mpr ⟨lw_m5 (i := 39) rfl, rfl⟩
theorem wk_1079 : Cond.instanceMethod yX11_apart ∈ tl_L := List.mem_filter.mpr ⟨lw_m5 (i := 40) rfl, rfl⟩
theorem wk_1080 : Cond.selects RX11 yX11_apart yX11_apart ∈ tl_L := List.mem_filter.mpr ⟨lw_m5 (i := 41) rfl, rfl⟩
theorem wk_1081 : Cond.code yX11_apart cX11_apart 8 (some .int) ∈ tl_L := List.mem_filter.mpr ⟨lw_m5 (i := 42) rfl, rfl⟩
theorem wk_1087 : Cond.methodLink RL 100 yX12_apart ∈ tl_L := List.mem_filter.mpr ⟨lw_m8 (i := 101) rfl, rfl⟩
theorem wk_1088 : Cond.instanceMethod yX12_apart ∈ tl_L := List.mem_filter.mpr ⟨lw_m8 (i := 102) rfl, rfl⟩
theorem wk_1089 : Cond.selects RX12 yX12_apart yX12_apart ∈ tl_L := List.mem_filter.mpr ⟨lw_m8 (i := 103) rfl, rfl⟩
theorem wk_1090 : Cond.code yX12_apart cX12_apart 6 (some .int) ∈ tl_L := List.mem_filter.mpr ⟨lw_m8 (i := 104) rfl, rfl⟩
theorem lk_L_100 : tl_kV RL 100 RX12 yX12_apart cX12_apart 6 (some .int) 3 := ⟨wk_1090, wk_1087, wk_1088, wk_1089, wk_5, ⟨by decide +kernel, by decide +kernel, by decide +kernel⟩⟩
theorem lk_L_97 : tl_kV RL 97 RX11 yX11_apart cX11_apart 8 (some .int) 3 := ⟨wk_1081, wk_1078, wk_1079, wk_1080, wk_2, ⟨by decide +kernel, by decide +kernel, by decide +kernel⟩⟩
theorem dL_law_1098 : decode cL_law 1098 = .ok (.aload_n 1, 1) := lw_f43 (lw_at lw_e34 (j := 10) rfl)
theorem dL_law_1099 : decode cL_law 1099 = .ok (.aload_n 0, 1) := lw_f42 (lw_at lw_e34 (j := 11) rfl)
theorem dL_law_1100 : decode cL_law 1100 = .ok (.iload_n 3, 1) := lw_f29 (lw_at lw_e34 (j := 12) rfl)
theorem dL_law_1101 : decode cL_law 1101 = .ok (.iconst 1, 1) := lw_f4 (lw_at lw_e34 (j := 13) rfl)
theorem dL_law_1102 : decode cL_law 1102 = .ok (.iadd, 1) := lw_f96 (lw_at lw_e34 (j := 14) rfl)
theorem dL_law_1103 : decode cL_law 1103 = .ok (.iaload, 1) := lw_f46 (lw_at lw_e34 (j := 15) rfl)
theorem dL_law_1104 : decode cL_law 1104 = .ok (.aload_n 0, 1) := lw_f42 (lw_at lw_e34 (j := 16) rfl)
theorem dL_law_1105 : decode cL_law 1105 = .ok (.iload_n 3, 1) := lw_f29 (lw_at lw_e34 (j := 17) rfl)
theorem dL_law_1106 : decode cL_law 1106 = .ok (.iconst 2, 1) := lw_f5 (lw_at lw_e34 (j := 18) rfl)
theorem dL_law_1107 : decode cL_law 1107 = .ok (.iadd, 1) := lw_f96 (lw_at lw_e34 (j := 19) rfl)
theorem dL_law_1108 : decode cL_law 1108 = .ok (.iaload, 1) := lw_f46 (lw_at lw_e34 (j := 20) rfl)
theorem dL_law_1109 : decode cL_law 1109 = .ok (.aload_n 0, 1) := lw_f42 (lw_at lw_e34 (j := 21) rfl)
theorem dL_law_1110 : decode cL_law 1110 = .ok (.iload_n 3, 1) := lw_f29 (lw_at lw_e34 (j := 22) rfl)
theorem dL_law_1111 : decode cL_law 1111 = .ok (.iconst 3, 1) := lw_f6 (lw_at lw_e34 (j := 23) rfl)
theorem dL_law_1112 : decode cL_law 1112 = .ok (.iadd, 1) := lw_f96 (lw_at lw_e34 (j := 24) rfl)
theorem dL_law_1113 : decode cL_law 1113 = .ok (.iaload, 1) := lw_f46 (lw_at lw_e34 (j := 25) rfl)
theorem dL_law_1114 : decode cL_law 1114 = .ok (.aload_n 0, 1) := lw_f42 (lw_at lw_e34 (j := 26) rfl)
theorem dL_law_1115 : decode cL_law 1115 = .ok (.iload_n 3, 1) := lw_f29 (lw_at lw_e34 (j := 27) rfl)
theorem dL_law_1116 : decode cL_law 1116 = .ok (.iconst 4, 1) := lw_f7 (lw_at lw_e34 (j := 28) rfl)
theorem dL_law_1117 : decode cL_law 1117 = .ok (.iadd, 1) := lw_f96 (lw_at lw_e34 (j := 29) rfl)
theorem dL_law_1118 : decode cL_law 1118 = .ok (.iaload, 1) := lw_f46 (lw_at lw_e34 (j := 30) rfl)
theorem dL_law_1119 : decode cL_law 1119 = .ok (.invokevirtual 101, 3) := lw_f182 (lw_at lw_e34 (j := 31) rfl) (lw_at lw_e35 (j := 0) rfl) (lw_at lw_e35 (j := 1) rfl) rfl
theorem dL_law_1122 : decode cL_law 1122 = .ok (.pop2, 1) := lw_f88 (lw_at lw_e35 (j := 2) rfl)
theorem dL_law_1123 : decode cL_law 1123 = .ok (.aload_n 2, 1) := lw_f44 (lw_at lw_e35 (j := 3) rfl)
theorem dL_law_1124 : decode cL_law 1124 = .ok (.aload_n 0, 1) := lw_f42 (lw_at lw_e35 (j := 4) rfl)
theorem dL_law_1125 : decode cL_law 1125 = .ok (.iload_n 3, 1) := lw_f29 (lw_at lw_e35 (j := 5) rfl)
theorem dL_law_1126 : decode cL_law 1126 = .ok (.iconst 1, 1) := lw_f4 (lw_at lw_e35 (j := 6) rfl)
theorem dL_law_1127 : decode cL_law 1127 = .ok (.iadd, 1) := lw_f96 (lw_at lw_e35 (j := 7) rfl)
theorem dL_law_1128 : decode cL_law 1128 = .ok (.iaload, 1) := lw_f46 (lw_at lw_e35 (j := 8) rfl)
theorem dL_law_1129 : decode cL_law 1129 = .ok (.aload_n 0, 1) := lw_f42 (lw_at lw_e35 (j := 9) rfl)
theorem dL_law_1130 : decode cL_law 1130 = .ok (.iload_n 3, 1) := lw_f29 (lw_at lw_e35 (j := 10) rfl)
theorem dL_law_1131 : decode cL_law 1131 = .ok (.iconst 2, 1) := lw_f5 (lw_at lw_e35 (j := 11) rfl)
theorem dL_law_1132 : decode cL_law 1132 = .ok (.iadd, 1) := lw_f96 (lw_at lw_e35 (j := 12) rfl)
theorem dL_law_1133 : decode cL_law 1133 = .ok (.iaload, 1) := lw_f46 (lw_at lw_e35 (j := 13) rfl)
theorem dL_law_1134 : decode cL_law 1134 = .ok (.aload_n 0, 1) := lw_f42 (lw_at lw_e35 (j := 14) rfl)
theorem dL_law_1135 : decode cL_law 1135 = .ok (.iload_n 3, 1) := lw_f29 (lw_at lw_e35 (j := 15) rfl)
theorem dL_law_1136 : decode cL_law 1136 = .ok (.iconst 3, 1) := lw_f6 (lw_at lw_e35 (j := 16) rfl)
theorem dL_law_1137 : decode cL_law 1137 = .ok (.iadd, 1) := lw_f96 (lw_at lw_e35 (j := 17) rfl)
theorem dL_law_1138 : decode cL_law 1138 = .ok (.iaload, 1) := lw_f46 (lw_at lw_e35 (j := 18) rfl)
theorem dL_law_1139 : decode cL_law 1139 = .ok (.aload_n 0, 1) := lw_f42 (lw_at lw_e35 (j := 19) rfl)
theorem dL_law_1140 : decode cL_law 1140 = .ok (.iload_n 3, 1) := lw_f29 (lw_at lw_e35 (j := 20) rfl)
theorem dL_law_1141 : decode cL_law 1141 = .ok (.iconst 4, 1) := lw_f7 (lw_at lw_e35 (j := 21) rfl)
theorem dL_law_1142 : decode cL_law 1142 = .ok (.iadd, 1) := lw_f96 (lw_at lw_e35 (j := 22) rfl)
theorem dL_law_1143 : decode cL_law 1143 = .ok (.iaload, 1) := lw_f46 (lw_at lw_e35 (j := 23) rfl)
theorem dL_law_1144 : decode cL_law 1144 = .ok (.invokevirtual 104, 3) := lw_f182 (lw_at lw_e35 (j := 24) rfl) (lw_at lw_e35 (j := 25) rfl) (lw_at lw_e35 (j := 26) rfl) rfl
theorem dL_law_1147 : decode cL_law 1147 = .ok (.pop2, 1) := lw_f88 (lw_at lw_e35 (j := 27) rfl)
theorem dL_law_1148 : decode cL_law 1148 = .ok (.goto 857, 3) := lw_f167 (lw_at lw_e35 (j := 28) rfl) (lw_at lw_e35 (j := 29) rfl) (lw_at lw_e35 (j := 30) rfl) (by decide)
theorem wk_1093 : Cond.methodLink RL 101 yX11_stuff ∈ tl_L := List.mem_filter.mpr ⟨lw_m5 (i := 48) rfl, rfl⟩
theorem wk_1094 : Cond.instanceMethod yX11_stuff ∈ tl_L := List.mem_filter.mpr ⟨lw_m5 (i := 49) rfl, rfl⟩
theorem wk_1095 : Cond.selects RX11 yX11_stuff yX11_stuff ∈ tl_L := List.mem_filter.mpr ⟨lw_m5 (i := 50) rfl, rfl⟩
theorem wk_1096 : Cond.code yX11_stuff cX11_stuff 5 (some .long) ∈ tl_L := List.mem_filter.mpr ⟨lw_m5 (i := 51) rfl, rfl⟩
theorem wk_1120 : Cond.methodLink RL 104 yX12_stuff ∈ tl_L := List.mem_filter.mpr ⟨lw_m8 (i := 107) rfl, rfl⟩
theorem wk_1121 : Cond.instanceMethod yX12_stuff ∈ tl_L := List.mem_filter.mpr ⟨lw_m8 (i := 108) rfl, rfl⟩
theorem wk_1122 : Cond.selects RX12 yX12_stuff yX12_stuff ∈ tl_L := List.mem_filter.mpr ⟨lw_m8 (i := 109) rfl, rfl⟩
theorem wk_1123 : Cond.code yX12_stuff cX12_stuff 5 (some .long) ∈ tl_L := List.mem_filter.mpr ⟨lw_m8 (i := 110) rfl, rfl⟩
theorem lk_L_101 : tl_kV RL 101 RX11 yX11_stuff cX11_stuff 5 (some .long) 4 := ⟨wk_1096, wk_1093, wk_1094, wk_1095, wk_2, ⟨by decide +kernel, by decide +kernel, by decide +kernel⟩⟩
theorem lk_L_104 : tl_kV RL 104 RX12 yX12_stuff cX12_stuff 5 (some .long) 4 := ⟨wk_1123, wk_1120, wk_1121, wk_1122, wk_5, ⟨by decide +kernel, by decide +kernel, by decide +kernel⟩⟩
theorem dL_law_1151 : decode cL_law 1151 = .ok (.aload_n 1, 1) := lw_f43 (lw_at lw_e35 (j := 31) rfl)
theorem dL_law_1152 : decode cL_law 1152 = .ok (.aload_n 0, 1) := lw_f42 (lw_at lw_e36 (j := 0) rfl)
theorem dL_law_1153 : decode cL_law 1153 = .ok (.iload_n 3, 1) := lw_f29 (lw_at lw_e36 (j := 1) rfl)
theorem dL_law_1154 : decode cL_law 1154 = .ok (.iconst 1, 1) := lw_f4 (lw_at lw_e36 (j := 2) rfl)
theorem dL_law_1155 : decode cL_law 1155 = .ok (.iadd, 1) := lw_f96 (lw_at lw_e36 (j := 3) rfl)
theorem dL_law_1156 : decode cL_law 1156 = .ok (.iaload, 1) := lw_f46 (lw_at lw_e36 (j := 4) rfl)
theorem dL_law_1157 : decode cL_law 1157 = .ok (.aload_n 0, 1) := lw_f42 (lw_at lw_e36 (j := 5) rfl)
theorem dL_law_1158 : decode cL_law 1158 = .ok (.iload_n 3, 1) := lw_f29 (lw_at lw_e36 (j := 6) rfl)
theorem dL_law_1159 : decode cL_law 1159 = .ok (.iconst 2, 1) := lw_f5 (lw_at lw_e36 (j := 7) rfl)
theorem dL_law_1160 : decode cL_law 1160 = .ok (.iadd, 1) := lw_f96 (lw_at lw_e36 (j := 8) rfl)
theorem dL_law_1161 : decode cL_law 1161 = .ok (.iaload, 1) := lw_f46 (lw_at lw_e36 (j := 9) rfl)
theorem dL_law_1162 : decode cL_law 1162 = .ok (.invokevirtual 105, 3) := lw_f182 (lw_at lw_e36 (j := 10) rfl) (lw_at lw_e36 (j := 11) rfl) (lw_at lw_e36 (j := 12) rfl) rfl
theorem dL_law_1165 : decode cL_law 1165 = .ok (.pop, 1) := lw_f87 (lw_at lw_e36 (j := 13) rfl)
theorem dL_law_1166 : decode cL_law 1166 = .ok (.aload_n 2, 1) := lw_f44 (lw_at lw_e36 (j := 14) rfl)
theorem dL_law_1167 : decode cL_law 1167 = .ok (.aload_n 0, 1) := lw_f42 (lw_at lw_e36 (j := 15) rfl)
theorem dL_law_1168 : decode cL_law 1168 = .ok (.iload_n 3, 1) := lw_f29 (lw_at lw_e36 (j := 16) rfl)
theorem dL_law_1169 : decode cL_law 1169 = .ok (.iconst 1, 1) := lw_f4 (lw_at lw_e36 (j := 17) rfl)
theorem dL_law_1170 : decode cL_law 1170 = .ok (.iadd, 1) := lw_f96 (lw_at lw_e36 (j := 18) rfl)
theorem dL_law_1171 : decode cL_law 1171 = .ok (.iaload, 1) := lw_f46 (lw_at lw_e36 (j := 19) rfl)
theorem dL_law_1172 : decode cL_law 1172 = .ok (.aload_n 0, 1) := lw_f42 (lw_at lw_e36 (j := 20) rfl)
theorem dL_law_1173 : decode cL_law 1173 = .ok (.iload_n 3, 1) := lw_f29 (lw_at lw_e36 (j := 21) rfl)
theorem dL_law_1174 : decode cL_law 1174 = .ok (.iconst 2, 1) := lw_f5 (lw_at lw_e36 (j := 22) rfl)
theorem dL_law_1175 : decode cL_law 1175 = .ok (.iadd, 1) := lw_f96 (lw_at lw_e36 (j := 23) rfl)
theorem dL_law_1176 : decode cL_law 1176 = .ok (.iaload, 1) := lw_f46 (lw_at lw_e36 (j := 24) rfl)
theorem dL_law_1177 : decode cL_law 1177 = .ok (.invokevirtual 108, 3) := lw_f182 (lw_at lw_e36 (j := 25) rfl) (lw_at lw_e36 (j := 26) rfl) (lw_at lw_e36 (j := 27) rfl) rfl
theorem dL_law_1180 : decode cL_law 1180 = .ok (.pop, 1) := lw_f87 (lw_at lw_e36 (j := 28) rfl)
theorem dL_law_1181 : decode cL_law 1181 = .ok (.goto 824, 3) := lw_f167 (lw_at lw_e36 (j := 29) rfl) (lw_at lw_e36 (j := 30) rfl) (lw_at lw_e36 (j := 31) rfl) (by decide)
theorem wk_1145 : Cond.methodLink RL 105 yX11_likeliest ∈ tl_L := List.mem_filter.mpr ⟨lw_m5 (i := 76) rfl, rfl⟩
theorem wk_1146 : Cond.instanceMethod yX11_likeliest ∈ tl_L := List.mem_filter.mpr ⟨lw_m5 (i := 77) rfl, rfl⟩
theorem wk_1147 : Cond.selects RX11 yX11_likeliest yX11_likeliest ∈ tl_L := List.mem_filter.mpr ⟨lw_m5 (i := 78) rfl, rfl⟩
theorem wk_1148 : Cond.code yX11_likeliest cX11_likeliest 11 (some .int) ∈ tl_L := List.mem_filter.mpr ⟨lw_m5 (i := 79) rfl, rfl⟩
theorem wk_1149 : Cond.methodLink RL 108 yX12_likeliest ∈ tl_L := List.mem_filter.mpr ⟨lw_m8 (i := 132) rfl, rfl⟩
theorem wk_1150 : Cond.instanceMethod yX12_likeliest ∈ tl_L := List.mem_filter.mpr ⟨lw_m8 (i := 133) rfl, rfl⟩
theorem wk_1151 : Cond.selects RX12 yX12_likeliest yX12_likeliest ∈ tl_L := List.mem_filter.mpr ⟨lw_m8 (i := 134) rfl, rfl⟩
theorem wk_1152 : Cond.code yX12_likeliest cX12_likeliest 10 (some .int) ∈ tl_L := List.mem_filter.mpr ⟨lw_m8 (i := 135) rfl, rfl⟩
theorem lk_L_105 : tl_kV RL 105 RX11 yX11_likeliest cX11_likeliest 11 (some .int) 2 := ⟨wk_1148, wk_1145, wk_1146, wk_1147, wk_2, ⟨by decide +kernel, by decide +kernel, by decide +kernel⟩⟩
theorem lk_L_108 : tl_kV RL 108 RX12 yX12_likeliest cX12_likeliest 10 (some .int) 2 := ⟨wk_1152, wk_1149, wk_1150, wk_1151, wk_5, ⟨by decide +kernel, by decide +kernel, by decide +kernel⟩⟩
theorem dL_law_1184 : decode cL_law 1184 = .ok (.aload_n 1, 1) := lw_f43 (lw_at lw_e37 (j := 0) rfl)
theorem dL_law_1185 : decode cL_law 1185 = .ok (.aload_n 0, 1) := lw_f42 (lw_at lw_e37 (j := 1) rfl)
theorem dL_law_1186 : decode cL_law 1186 = .ok (.iload_n 3, 1) := lw_f29 (lw_at lw_e37 (j := 2) rfl)
theorem dL_law_1187 : decode cL_law 1187 = .ok (.iconst 1, 1) := lw_f4 (lw_at lw_e37 (j := 3) rfl)
theorem dL_law_1188 : decode cL_law 1188 = .ok (.iadd, 1) := lw_f96 (lw_at lw_e37 (j := 4) rfl)
theorem dL_law_1189 : decode cL_law 1189 = .ok (.iaload, 1) := lw_f46 (lw_at lw_e37 (j := 5) rfl)
theorem dL_law_1190 : decode cL_law 1190 = .ok (.aload_n 0, 1) := lw_f42 (lw_at lw_e37 (j := 6) rfl)
theorem dL_law_1191 : decode cL_law 1191 = .ok (.iload_n 3, 1) := lw_f29 (lw_at lw_e37 (j := 7) rfl)
theorem dL_law_1192 : decode cL_law 1192 = .ok (.iconst 2, 1) := lw_f5 (lw_at lw_e37 (j := 8) rfl)
theorem dL_law_1193 : decode cL_law 1193 = .ok (.iadd, 1) := lw_f96 (lw_at lw_e37 (j := 9) rfl)
theorem dL_law_1194 : decode cL_law 1194 = .ok (.iaload, 1) := lw_f46 (lw_at lw_e37 (j := 10) rfl)
theorem dL_law_1195 : decode cL_law 1195 = .ok (.aload_n 0, 1) := lw_f42 (lw_at lw_e37 (j := 11) rfl)
theorem dL_law_1196 : decode cL_law 1196 = .ok (.iload_n 3, 1) := lw_f29 (lw_at lw_e37 (j := 12) rfl)
theorem dL_law_1197 : decode cL_law 1197 = .ok (.iconst 3, 1) := lw_f6 (lw_at lw_e37 (j := 13) rfl)
theorem dL_law_1198 : decode cL_law 1198 = .ok (.iadd, 1) := lw_f96 (lw_at lw_e37 (j := 14) rfl)
theorem dL_law_1199 : decode cL_law 1199 = .ok (.iaload, 1) := lw_f46 (lw_at lw_e37 (j := 15) rfl)
theorem dL_law_1200 : decode cL_law 1200 = .ok (.aload_n 0, 1) := lw_f42 (lw_at lw_e37 (j := 16) rfl)
theorem dL_law_1201 : decode cL_law 1201 = .ok (.iload_n 3, 1) := lw_f29 (lw_at lw_e37 (j := 17) rfl)
theorem dL_law_1202 : decode cL_law 1202 = .ok (.iconst 4, 1) := lw_f7 (lw_at lw_e37 (j := 18) rfl)
theorem dL_law_1203 : decode cL_law 1203 = .ok (.iadd, 1) := lw_f96 (lw_at lw_e37 (j := 19) rfl)
theorem dL_law_1204 : decode cL_law 1204 = .ok (.iaload, 1) := lw_f46 (lw_at lw_e37 (j := 20) rfl)
theorem dL_law_1205 : decode cL_law 1205 = .ok (.invokevirtual 109, 3) := lw_f182 (lw_at lw_e37 (j := 21) rfl) (lw_at lw_e37 (j := 22) rfl) (lw_at lw_e37 (j := 23) rfl) rfl
theorem dL_law_1208 : decode cL_law 1208 = .ok (.pop, 1) := lw_f87 (lw_at lw_e37 (j := 24) rfl)
theorem dL_law_1209 : decode cL_law 1209 = .ok (.aload_n 2, 1) := lw_f44 (lw_at lw_e37 (j := 25) rfl)
theorem dL_law_1210 : decode cL_law 1210 = .ok (.aload_n 0, 1) := lw_f42 (lw_at lw_e37 (j := 26) rfl)
theorem dL_law_1211 : decode cL_law 1211 = .ok (.iload_n 3, 1) := lw_f29 (lw_at lw_e37 (j := 27) rfl)
theorem dL_law_1212 : decode cL_law 1212 = .ok (.iconst 1, 1) := lw_f4 (lw_at lw_e37 (j := 28) rfl)
theorem dL_law_1213 : decode cL_law 1213 = .ok (.iadd, 1) := lw_f96 (lw_at lw_e37 (j := 29) rfl)
theorem dL_law_1214 : decode cL_law 1214 = .ok (.iaload, 1) := lw_f46 (lw_at lw_e37 (j := 30) rfl)
theorem dL_law_1215 : decode cL_law 1215 = .ok (.aload_n 0, 1) := lw_f42 (lw_at lw_e37 (j := 31) rfl)
theorem dL_law_1216 : decode cL_law 1216 = .ok (.iload_n 3, 1) := lw_f29 (lw_at lw_e38 (j := 0) rfl)
theorem dL_law_1217 : decode cL_law 1217 = .ok (.iconst 2, 1) := lw_f5 (lw_at lw_e38 (j := 1) rfl)
theorem dL_law_1218 : decode cL_law 1218 = .ok (.iadd, 1) := lw_f96 (lw_at lw_e38 (j := 2) rfl)
theorem dL_law_1219 : decode cL_law 1219 = .ok (.iaload, 1) := lw_f46 (lw_at lw_e38 (j := 3) rfl)
theorem dL_law_1220 : decode cL_law 1220 = .ok (.aload_n 0, 1) := lw_f42 (lw_at lw_e38 (j := 4) rfl)
theorem dL_law_1221 : decode cL_law 1221 = .ok (.iload_n 3, 1) := lw_f29 (lw_at lw_e38 (j := 5) rfl)
theorem dL_law_1222 : decode cL_law 1222 = .ok (.iconst 3, 1) := lw_f6 (lw_at lw_e38 (j := 6) rfl)
theorem dL_law_1223 : decode cL_law 1223 = .ok (.iadd, 1) := lw_f96 (lw_at lw_e38 (j := 7) rfl)
theorem dL_law_1224 : decode cL_law 1224 = .ok (.iaload, 1) := lw_f46 (lw_at lw_e38 (j := 8) rfl)
theorem dL_law_1225 : decode cL_law 1225 = .ok (.aload_n 0, 1) := lw_f42 (lw_at lw_e38 (j := 9) rfl)
theorem dL_law_1226 : decode cL_law 1226 = .ok (.iload_n 3, 1) := lw_f29 (lw_at lw_e38 (j := 10) rfl)
theorem dL_law_1227 : decode cL_law 1227 = .ok (.iconst 4, 1) := lw_f7 (lw_at lw_e38 (j := 11) rfl)
theorem dL_law_1228 : decode cL_law 1228 = .ok (.iadd, 1) := lw_f96 (lw_at lw_e38 (j := 12) rfl)
theorem dL_law_1229 : decode cL_law 1229 = .ok (.iaload, 1) := lw_f46 (lw_at lw_e38 (j := 13) rfl)
theorem dL_law_1230 : decode cL_law 1230 = .ok (.invokevirtual 112, 3) := lw_f182 (lw_at lw_e38 (j := 14) rfl) (lw_at lw_e38 (j := 15) rfl) (lw_at lw_e38 (j := 16) rfl) rfl
theorem dL_law_1233 : decode cL_law 1233 = .ok (.pop, 1) := lw_f87 (lw_at lw_e38 (j := 17) rfl)
theorem dL_law_1234 : decode cL_law 1234 = .ok (.goto 771, 3) := lw_f167 (lw_at lw_e38 (j := 18) rfl) (lw_at lw_e38 (j := 19) rfl) (lw_at lw_e38 (j := 20) rfl) (by decide)
theorem wk_1153 : Cond.methodLink RL 109 yX11_together ∈ tl_L := List.mem_filter.mpr ⟨lw_m5 (i := 80) rfl, rfl⟩
theorem wk_1154 : Cond.instanceMethod yX11_together ∈ tl_L := List.mem_filter.mpr ⟨lw_m5 (i := 81) rfl, rfl⟩
theorem wk_1155 : Cond.selects RX11 yX11_together yX11_together ∈ tl_L := List.mem_filter.mpr ⟨lw_m5 (i := 82) rfl, rfl⟩
theorem wk_1156 : Cond.code yX11_together cX11_together 9 (some .int) ∈ tl_L := List.mem_filter.mpr ⟨lw_m5 (i := 83) rfl, rfl⟩
theorem wk_1169 : Cond.methodLink RL 112 yX12_together ∈ tl_L := List.mem_filter.mpr ⟨lw_m8 (i := 136) rfl, rfl⟩
theorem wk_1170 : Cond.instanceMethod yX12_together ∈ tl_L := List.mem_filter.mpr ⟨lw_m8 (i := 137) rfl, rfl⟩
theorem wk_1171 : Cond.selects RX12 yX12_together yX12_together ∈ tl_L := List.mem_filter.mpr ⟨lw_m8 (i := 138) rfl, rfl⟩
theorem wk_1172 : Cond.code yX12_together cX12_together 10 (some .int) ∈ tl_L := List.mem_filter.mpr ⟨lw_m8 (i := 139) rfl, rfl⟩
theorem lk_L_109 : tl_kV RL 109 RX11 yX11_together cX11_together 9 (some .int) 4 := ⟨wk_1156, wk_1153, wk_1154, wk_1155, wk_2, ⟨by decide +kernel, by decide +kernel, by decide +kernel⟩⟩
theorem lk_L_112 : tl_kV RL 112 RX12 yX12_together cX12_together 10 (some .int) 4 := ⟨wk_1172, wk_1169, wk_1170, wk_1171, wk_5, ⟨by decide +kernel, by decide +kernel, by decide +kernel⟩⟩
theorem dL_law_1237 : decode cL_law 1237 = .ok (.aload_n 1, 1) := lw_f43 (lw_at lw_e38 (j := 21) rfl)
theorem dL_law_1238 : decode cL_law 1238 = .ok (.aload_n 0, 1) := lw_f42 (lw_at lw_e38 (j := 22) rfl)
theorem dL_law_1239 : decode cL_law 1239 = .ok (.iload_n 3, 1) := lw_f29 (lw_at lw_e38 (j := 23) rfl)
theorem dL_law_1240 : decode cL_law 1240 = .ok (.iconst 1, 1) := lw_f4 (lw_at lw_e38 (j := 24) rfl)
theorem dL_law_1241 : decode cL_law 1241 = .ok (.iadd, 1) := lw_f96 (lw_at lw_e38 (j := 25) rfl)
theorem dL_law_1242 : decode cL_law 1242 = .ok (.iaload, 1) := lw_f46 (lw_at lw_e38 (j := 26) rfl)
theorem dL_law_1243 : decode cL_law 1243 = .ok (.aload_n 0, 1) := lw_f42 (lw_at lw_e38 (j := 27) rfl)
theorem dL_law_1244 : decode cL_law 1244 = .ok (.iload_n 3, 1) := lw_f29 (lw_at lw_e38 (j := 28) rfl)
theorem dL_law_1245 : decode cL_law 1245 = .ok (.iconst 2, 1) := lw_f5 (lw_at lw_e38 (j := 29) rfl)
theorem dL_law_1246 : decode cL_law 1246 = .ok (.iadd, 1) := lw_f96 (lw_at lw_e38 (j := 30) rfl)
theorem dL_law_1247 : decode cL_law 1247 = .ok (.iaload, 1) := lw_f46 (lw_at lw_e38 (j := 31) rfl)
theorem dL_law_1248 : decode cL_law 1248 = .ok (.aload_n 0, 1) := lw_f42 (lw_at lw_e39 (j := 0) rfl)
theorem dL_law_1249 : decode cL_law 1249 = .ok (.iload_n 3, 1) := lw_f29 (lw_at lw_e39 (j := 1) rfl)
theorem dL_law_1250 : decode cL_law 1250 = .ok (.iconst 3, 1) := lw_f6 (lw_at lw_e39 (j := 2) rfl)
theorem dL_law_1251 : decode cL_law 1251 = .ok (.iadd, 1) := lw_f96 (lw_at lw_e39 (j := 3) rfl)
theorem dL_law_1252 : decode cL_law 1252 = .ok (.iaload, 1) := lw_f46 (lw_at lw_e39 (j := 4) rfl)
theorem dL_law_1253 : decode cL_law 1253 = .ok (.invokevirtual 113, 3) := lw_f182 (lw_at lw_e39 (j := 5) rfl) (lw_at lw_e39 (j := 6) rfl) (lw_at lw_e39 (j := 7) rfl) rfl
theorem dL_law_1256 : decode cL_law 1256 = .ok (.pop, 1) := lw_f87 (lw_at lw_e39 (j := 8) rfl)
theorem dL_law_1257 : decode cL_law 1257 = .ok (.aload_n 2, 1) := lw_f44 (lw_at lw_e39 (j := 9) rfl)
theorem dL_law_1258 : decode cL_law 1258 = .ok (.aload_n 0, 1) := lw_f42 (lw_at lw_e39 (j := 10) rfl)
theorem dL_law_1259 : decode cL_law 1259 = .ok (.iload_n 3, 1) := lw_f29 (lw_at lw_e39 (j := 11) rfl)
theorem dL_law_1260 : decode cL_law 1260 = .ok (.iconst 1, 1) := lw_f4 (lw_at lw_e39 (j := 12) rfl)
theorem dL_law_1261 : decode cL_law 1261 = .ok (.iadd, 1) := lw_f96 (lw_at lw_e39 (j := 13) rfl)
theorem dL_law_1262 : decode cL_law 1262 = .ok (.iaload, 1) := lw_f46 (lw_at lw_e39 (j := 14) rfl)
theorem dL_law_1263 : decode cL_law 1263 = .ok (.aload_n 0, 1) := lw_f42 (lw_at lw_e39 (j := 15) rfl)
theorem dL_law_1264 : decode cL_law 1264 = .ok (.iload_n 3, 1) := lw_f29 (lw_at lw_e39 (j := 16) rfl)
theorem dL_law_1265 : decode cL_law 1265 = .ok (.iconst 2, 1) := lw_f5 (lw_at lw_e39 (j := 17) rfl)
theorem dL_law_1266 : decode cL_law 1266 = .ok (.iadd, 1) := lw_f96 (lw_at lw_e39 (j := 18) rfl)
theorem dL_law_1267 : decode cL_law 1267 = .ok (.iaload, 1) := lw_f46 (lw_at lw_e39 (j := 19) rfl)
theorem dL_law_1268 : decode cL_law 1268 = .ok (.aload_n 0, 1) := lw_f42 (lw_at lw_e39 (j := 20) rfl)
theorem dL_law_1269 : decode cL_law 1269 = .ok (.iload_n 3, 1) := lw_f29 (lw_at lw_e39 (j := 21) rfl)
theorem dL_law_1270 : decode cL_law 1270 = .ok (.iconst 3, 1) := lw_f6 (lw_at lw_e39 (j := 22) rfl)
theorem dL_law_1271 : decode cL_law 1271 = .ok (.iadd, 1) := lw_f96 (lw_at lw_e39 (j := 23) rfl)
theorem dL_law_1272 : decode cL_law 1272 = .ok (.iaload, 1) := lw_f46 (lw_at lw_e39 (j := 24) rfl)
theorem dL_law_1273 : decode cL_law 1273 = .ok (.invokevirtual 116, 3) := lw_f182 (lw_at lw_e39 (j := 25) rfl) (lw_at lw_e39 (j := 26) rfl) (lw_at lw_e39 (j := 27) rfl) rfl
theorem dL_law_1276 : decode cL_law 1276 = .ok (.pop, 1) := lw_f87 (lw_at lw_e39 (j := 28) rfl)
theorem dL_law_1277 : decode cL_law 1277 = .ok (.goto 728, 3) := lw_f167 (lw_at lw_e39 (j := 29) rfl) (lw_at lw_e39 (j := 30) rfl) (lw_at lw_e39 (j := 31) rfl) (by decide)
theorem wk_1189 : Cond.methodLink RL 113 yX11_hour ∈ tl_L := List.mem_filter.mpr ⟨lw_m5 (i := 96) rfl, rfl⟩
theorem wk_1190 : Cond.instanceMethod yX11_hour ∈ tl_L := List.mem_filter.mpr ⟨lw_m5 (i := 97) rfl, rfl⟩
theorem wk_1191 : Cond.selects RX11 yX11_hour yX11_hour ∈ tl_L := List.mem_filter.mpr ⟨lw_m5 (i := 98) rfl, rfl⟩
theorem wk_1192 : Cond.code yX11_hour cX11_hour 8 (some .int) ∈ tl_L := List.mem_filter.mpr ⟨lw_m5 (i := 99) rfl, rfl⟩
theorem wk_1197 : Cond.methodLink RL 116 yX12_hour ∈ tl_L := List.mem_filter.mpr ⟨lw_m8 (i := 156) rfl, rfl⟩
theorem wk_1198 : Cond.instanceMethod yX12_hour ∈ tl_L := List.mem_filter.mpr ⟨lw_m8 (i := 157) rfl, rfl⟩
theorem wk_1199 : Cond.selects RX12 yX12_hour yX12_hour ∈ tl_L := List.mem_filter.mpr ⟨lw_m8 (i := 158) rfl, rfl⟩
theorem wk_1200 : Cond.code yX12_hour cX12_hour 9 (some .int) ∈ tl_L := List.mem_filter.mpr ⟨lw_m8 (i := 159) rfl, rfl⟩
theorem lk_L_113 : tl_kV RL 113 RX11 yX11_hour cX11_hour 8 (some .int) 3 := ⟨wk_1192, wk_1189, wk_1190, wk_1191, wk_2, ⟨by decide +kernel, by decide +kernel, by decide +kernel⟩⟩
theorem lk_L_116 : tl_kV RL 116 RX12 yX12_hour cX12_hour 9 (some .int) 3 := ⟨wk_1200, wk_1197, wk_1198, wk_1199, wk_5, ⟨by decide +kernel, by decide +kernel, by decide +kernel⟩⟩
theorem dL_law_1280 : decode cL_law 1280 = .ok (.aload_n 1, 1) := lw_f43 (lw_at lw_e40 (j := 0) rfl)
theorem dL_law_1281 : decode cL_law 1281 = .ok (.aload_n 0, 1) := lw_f42 (lw_at lw_e40 (j := 1) rfl)
theorem dL_law_1282 : decode cL_law 1282 = .ok (.iload_n 3, 1) := lw_f29 (lw_at lw_e40 (j := 2) rfl)
theorem dL_law_1283 : decode cL_law 1283 = .ok (.iconst 1, 1) := lw_f4 (lw_at lw_e40 (j := 3) rfl)
theorem dL_law_1284 : decode cL_law 1284 = .ok (.iadd, 1) := lw_f96 (lw_at lw_e40 (j := 4) rfl)
theorem dL_law_1285 : decode cL_law 1285 = .ok (.iaload, 1) := lw_f46 (lw_at lw_e40 (j := 5) rfl)
theorem dL_law_1286 : decode cL_law 1286 = .ok (.aload_n 0, 1) := lw_f42 (lw_at lw_e40 (j := 6) rfl)
theorem dL_law_1287 : decode cL_law 1287 = .ok (.iload_n 3, 1) := lw_f29 (lw_at lw_e40 (j := 7) rfl)
theorem dL_law_1288 : decode cL_law 1288 = .ok (.iconst 2, 1) := lw_f5 (lw_at lw_e40 (j := 8) rfl)
theorem dL_law_1289 : decode cL_law 1289 = .ok (.iadd, 1) := lw_f96 (lw_at lw_e40 (j := 9) rfl)
theorem dL_law_1290 : decode cL_law 1290 = .ok (.iaload, 1) := lw_f46 (lw_at lw_e40 (j := 10) rfl)
theorem dL_law_1291 : decode cL_law 1291 = .ok (.aload_n 0, 1) := lw_f42 (lw_at lw_e40 (j := 11) rfl)
theorem dL_law_1292 : decode cL_law 1292 = .ok (.iload_n 3, 1) := lw_f29 (lw_at lw_e40 (j := 12) rfl)
theorem dL_law_1293 : decode cL_law 1293 = .ok (.iconst 3, 1) := lw_f6 (lw_at lw_e40 (j := 13) rfl)
theorem dL_law_1294 : decode cL_law 1294 = .ok (.iadd, 1) := lw_f96 (lw_at lw_e40 (j := 14) rfl)
theorem dL_law_1295 : decode cL_law 1295 = .ok (.iaload, 1) := lw_f46 (lw_at lw_e40 (j := 15) rfl)
theorem dL_law_1296 : decode cL_law 1296 = .ok (.invokevirtual 117, 3) := lw_f182 (lw_at lw_e40 (j := 16) rfl) (lw_at lw_e40 (j := 17) rfl) (lw_at lw_e40 (j := 18) rfl) rfl
theorem dL_law_1299 : decode cL_law 1299 = .ok (.pop, 1) := lw_f87 (lw_at lw_e40 (j := 19) rfl)
theorem dL_law_1300 : decode cL_law 1300 = .ok (.aload_n 2, 1) := lw_f44 (lw_at lw_e40 (j := 20) rfl)
theorem dL_law_1301 : decode cL_law 1301 = .ok (.aload_n 0, 1) := lw_f42 (lw_at lw_e40 (j := 21) rfl)
theorem dL_law_1302 : decode cL_law 1302 = .ok (.iload_n 3, 1) := lw_f29 (lw_at lw_e40 (j := 22) rfl)
theorem dL_law_1303 : decode cL_law 1303 = .ok (.iconst 1, 1) := lw_f4 (lw_at lw_e40 (j := 23) rfl)
theorem dL_law_1304 : decode cL_law 1304 = .ok (.iadd, 1) := lw_f96 (lw_at lw_e40 (j := 24) rfl)
theorem dL_law_1305 : decode cL_law 1305 = .ok (.iaload, 1) := lw_f46 (lw_at lw_e40 (j := 25) rfl)
theorem dL_law_1306 : decode cL_law 1306 = .ok (.aload_n 0, 1) := lw_f42 (lw_at lw_e40 (j := 26) rfl)
theorem dL_law_1307 : decode cL_law 1307 = .ok (.iload_n 3, 1) := lw_f29 (lw_at lw_e40 (j := 27) rfl)
theorem dL_law_1308 : decode cL_law 1308 = .ok (.iconst 2, 1) := lw_f5 (lw_at lw_e40 (j := 28) rfl)
theorem dL_law_1309 : decode cL_law 1309 = .ok (.iadd, 1) := lw_f96 (lw_at lw_e40 (j := 29) rfl)
theorem dL_law_1310 : decode cL_law 1310 = .ok (.iaload, 1) := lw_f46 (lw_at lw_e40 (j := 30) rfl)
theorem dL_law_1311 : decode cL_law 1311 = .ok (.aload_n 0, 1) := lw_f42 (lw_at lw_e40 (j := 31) rfl)
theorem dL_law_1312 : decode cL_law 1312 = .ok (.iload_n 3, 1) := lw_f29 (lw_at lw_e41 (j := 0) rfl)
theorem dL_law_1313 : decode cL_law 1313 = .ok (.iconst 3, 1) := lw_f6 (lw_at lw_e41 (j := 1) rfl)
theorem dL_law_1314 : decode cL_law 1314 = .ok (.iadd, 1) := lw_f96 (lw_at lw_e41 (j := 2) rfl)
theorem dL_law_1315 : decode cL_law 1315 = .ok (.iaload, 1) := lw_f46 (lw_at lw_e41 (j := 3) rfl)
theorem dL_law_1316 : decode cL_law 1316 = .ok (.invokevirtual 120, 3) := lw_f182 (lw_at lw_e41 (j := 4) rfl) (lw_at lw_e41 (j := 5) rfl) (lw_at lw_e41 (j := 6) rfl) rfl
theorem dL_law_1319 : decode cL_law 1319 = .ok (.pop, 1) := lw_f87 (lw_at lw_e41 (j := 7) rfl)
theorem dL_law_1320 : decode cL_law 1320 = .ok (.goto 685, 3) := lw_f167 (lw_at lw_e41 (j := 8) rfl) (lw_at lw_e41 (j := 9) rfl) (lw_at lw_e41 (j := 10) rfl) (by decide)
theorem wk_1201 : Cond.methodLink RL 117 yX11_said ∈ tl_L := List.mem_filter.mpr ⟨lw_m5 (i := 104) rfl, rfl⟩
theorem wk_1202 : Cond.instanceMethod yX11_said ∈ tl_L := List.mem_filter.mpr ⟨lw_m5 (i := 105) rfl, rfl⟩
theorem wk_1203 : Cond.selects RX11 yX11_said yX11_said ∈ tl_L := List.mem_filter.mpr ⟨lw_m5 (i := 106) rfl, rfl⟩
theorem wk_1204 : Cond.code yX11_said cX11_said 4 (some .int) ∈ tl_L := List.mem_filter.mpr ⟨lw_m5 (i := 107) rfl, rfl⟩
theorem wk_1215 : Cond.methodLink RL 120 yX12_said ∈ tl_L := List.mem_filter.mpr ⟨lw_m8 (i := 160) rfl, rfl⟩
theorem wk_1216 : Cond.instanceMethod yX12_said ∈ tl_L := List.mem_filter.mpr ⟨lw_m8 (i := 161) rfl, rfl⟩
theorem wk_1217 : Cond.selects RX12 yX12_said yX12_said ∈ tl_L := List.mem_filter.mpr ⟨lw_m8 (i := 162) rfl, rfl⟩
theorem wk_1218 : Cond.code yX12_said cX12_said 4 (some .int) ∈ tl_L := List.mem_filter.mpr ⟨lw_m8 (i := 163) rfl, rfl⟩
theorem lk_L_117 : tl_kV RL 117 RX11 yX11_said cX11_said 4 (some .int) 3 := ⟨wk_1204, wk_1201, wk_1202, wk_1203, wk_2, ⟨by decide +kernel, by decide +kernel, by decide +kernel⟩⟩
theorem lk_L_120 : tl_kV RL 120 RX12 yX12_said cX12_said 4 (some .int) 3 := ⟨wk_1218, wk_1215, wk_1216, wk_1217, wk_5, ⟨by decide +kernel, by decide +kernel, by decide +kernel⟩⟩
theorem dL_law_1323 : decode cL_law 1323 = .ok (.aload_n 1, 1) := lw_f43 (lw_at lw_e41 (j := 11) rfl)
theorem dL_law_1324 : decode cL_law 1324 = .ok (.aload_n 0, 1) := lw_f42 (lw_at lw_e41 (j := 12) rfl)
theorem dL_law_1325 : decode cL_law 1325 = .ok (.iload_n 3, 1) := lw_f29 (lw_at lw_e41 (j := 13) rfl)
theorem dL_law_1326 : decode cL_law 1326 = .ok (.iconst 1, 1) := lw_f4 (lw_at lw_e41 (j := 14) rfl)
theorem dL_law_1327 : decode cL_law 1327 = .ok (.iadd, 1) := lw_f96 (lw_at lw_e41 (j := 15) rfl)
theorem dL_law_1328 : decode cL_law 1328 = .ok (.iaload, 1) := lw_f46 (lw_at lw_e41 (j := 16) rfl)
theorem dL_law_1329 : decode cL_law 1329 = .ok (.aload_n 0, 1) := lw_f42 (lw_at lw_e41 (j := 17) rfl)
theorem dL_law_1330 : decode cL_law 1330 = .ok (.iload_n 3, 1) := lw_f29 (lw_at lw_e41 (j := 18) rfl)
theorem dL_law_1331 : decode cL_law 1331 = .ok (.iconst 2, 1) := lw_f5 (lw_at lw_e41 (j := 19) rfl)
theorem dL_law_1332 : decode cL_law 1332 = .ok (.iadd, 1) := lw_f96 (lw_at lw_e41 (j := 20) rfl)
theorem dL_law_1333 : decode cL_law 1333 = .ok (.iaload, 1) := lw_f46 (lw_at lw_e41 (j := 21) rfl)
theorem dL_law_1334 : decode cL_law 1334 = .ok (.aload_n 0, 1) := lw_f42 (lw_at lw_e41 (j := 22) rfl)
theorem dL_law_1335 : decode cL_law 1335 = .ok (.iload_n 3, 1) := lw_f29 (lw_at lw_e41 (j := 23) rfl)
theorem dL_law_1336 : decode cL_law 1336 = .ok (.iconst 3, 1) := lw_f6 (lw_at lw_e41 (j := 24) rfl)
theorem dL_law_1337 : decode cL_law 1337 = .ok (.iadd, 1) := lw_f96 (lw_at lw_e41 (j := 25) rfl)
theorem dL_law_1338 : decode cL_law 1338 = .ok (.iaload, 1) := lw_f46 (lw_at lw_e41 (j := 26) rfl)
theorem dL_law_1339 : decode cL_law 1339 = .ok (.aload_n 0, 1) := lw_f42 (lw_at lw_e41 (j := 27) rfl)
theorem dL_law_1340 : decode cL_law 1340 = .ok (.iload_n 3, 1) := lw_f29 (lw_at lw_e41 (j := 28) rfl)
theorem dL_law_1341 : decode cL_law 1341 = .ok (.iconst 4, 1) := lw_f7 (lw_at lw_e41 (j := 29) rfl)
theorem dL_law_1342 : decode cL_law 1342 = .ok (.iadd, 1) := lw_f96 (lw_at lw_e41 (j := 30) rfl)
theorem dL_law_1343 : decode cL_law 1343 = .ok (.iaload, 1) := lw_f46 (lw_at lw_e41 (j := 31) rfl)
theorem dL_law_1344 : decode cL_law 1344 = .ok (.aload_n 0, 1) := lw_f42 (lw_at lw_e42 (j := 0) rfl)
theorem dL_law_1345 : decode cL_law 1345 = .ok (.iload_n 3, 1) := lw_f29 (lw_at lw_e42 (j := 1) rfl)
theorem dL_law_1346 : decode cL_law 1346 = .ok (.iconst 5, 1) := lw_f8 (lw_at lw_e42 (j := 2) rfl)
theorem dL_law_1347 : decode cL_law 1347 = .ok (.iadd, 1) := lw_f96 (lw_at lw_e42 (j := 3) rfl)
theorem dL_law_1348 : decode cL_law 1348 = .ok (.iaload, 1) := lw_f46 (lw_at lw_e42 (j := 4) rfl)
theorem dL_law_1349 : decode cL_law 1349 = .ok (.aload_n 0, 1) := lw_f42 (lw_at lw_e42 (j := 5) rfl)
theorem dL_law_1350 : decode cL_law 1350 = .ok (.iload_n 3, 1) := lw_f29 (lw_at lw_e42 (j := 6) rfl)
theorem dL_law_1351 : decode cL_law 1351 = .ok (.bipush 6, 2) := by decide +kernel
theorem dL_law_1353 : decode cL_law 1353 = .ok (.iadd, 1) := lw_f96 (lw_at lw_e42 (j := 9) rfl)
theorem dL_law_1354 : decode cL_law 1354 = .ok (.iaload, 1) := lw_f46 (lw_at lw_e42 (j := 10) rfl)
theorem dL_law_1355 : decode cL_law 1355 = .ok (.invokevirtual 121, 3) := lw_f182 (lw_at lw_e42 (j := 11) rfl) (lw_at lw_e42 (j := 12) rfl) (lw_at lw_e42 (j := 13) rfl) rfl
theorem dL_law_1358 : decode cL_law 1358 = .ok (.pop, 1) := lw_f87 (lw_at lw_e42 (j := 14) rfl)
theorem dL_law_1359 : decode cL_law 1359 = .ok (.aload_n 2, 1) := lw_f44 (lw_at lw_e42 (j := 15) rfl)
theorem dL_law_1360 : decode cL_law 1360 = .ok (.aload_n 0, 1) := lw_f42 (lw_at lw_e42 (j := 16) rfl)
theorem dL_law_1361 : decode cL_law 1361 = .ok (.iload_n 3, 1) := lw_f29 (lw_at lw_e42 (j := 17) rfl)
theorem dL_law_1362 : decode cL_law 1362 = .ok (.iconst 1, 1) := lw_f4 (lw_at lw_e42 (j := 18) rfl)
theorem dL_law_1363 : decode cL_law 1363 = .ok (.iadd, 1) := lw_f96 (lw_at lw_e42 (j := 19) rfl)
theorem dL_law_1364 : decode cL_law 1364 = .ok (.iaload, 1) := lw_f46 (lw_at lw_e42 (j := 20) rfl)
theorem dL_law_1365 : decode cL_law 1365 = .ok (.aload_n 0, 1) := lw_f42 (lw_at lw_e42 (j := 21) rfl)
theorem dL_law_1366 : decode cL_law 1366 = .ok (.iload_n 3, 1) := lw_f29 (lw_at lw_e42 (j := 22) rfl)
theorem dL_law_1367 : decode cL_law 1367 = .ok (.iconst 2, 1) := lw_f5 (lw_at lw_e42 (j := 23) rfl)
theorem dL_law_1368 : decode cL_law 1368 = .ok (.iadd, 1) := lw_f96 (lw_at lw_e42 (j := 24) rfl)
theorem dL_law_1369 : decode cL_law 1369 = .ok (.iaload, 1) := lw_f46 (lw_at lw_e42 (j := 25) rfl)
theorem dL_law_1370 : decode cL_law 1370 = .ok (.aload_n 0, 1) := lw_f42 (lw_at lw_e42 (j := 26) rfl)
theorem dL_law_1371 : decode cL_law 1371 = .ok (.iload_n 3, 1) := lw_f29 (lw_at lw_e42 (j := 27) rfl)
theorem dL_law_1372 : decode cL_law 1372 = .ok (.iconst 3, 1) := lw_f6 (lw_at lw_e42 (j := 28) rfl)
theorem dL_law_1373 : decode cL_law 1373 = .ok (.iadd, 1) := lw_f96 (lw_at lw_e42 (j := 29) rfl)
theorem dL_law_1374 : decode cL_law 1374 = .ok (.iaload, 1) := lw_f46 (lw_at lw_e42 (j := 30) rfl)
theorem dL_law_1375 : decode cL_law 1375 = .ok (.aload_n 0, 1) := lw_f42 (lw_at lw_e42 (j := 31) rfl)
theorem dL_law_1376 : decode cL_law 1376 = .ok (.iload_n 3, 1) := lw_f29 (lw_at lw_e43 (j := 0) rfl)
theorem dL_law_1377 : decode cL_law 1377 = .ok (.iconst 4, 1) := lw_f7 (lw_at lw_e43 (j := 1) rfl)
theorem dL_law_1378 : decode cL_law 1378 = .ok (.iadd, 1) := lw_f96 (lw_at lw_e43 (j := 2) rfl)
theorem dL_law_1379 : decode cL_law 1379 = .ok (.iaload, 1) := lw_f46 (lw_at lw_e43 (j := 3) rfl)
theorem dL_law_1380 : decode cL_law 1380 = .ok (.aload_n 0, 1) := lw_f42 (lw_at lw_e43 (j := 4) rfl)
theorem dL_law_1381 : decode cL_law 1381 = .ok (.iload_n 3, 1) := lw_f29 (lw_at lw_e43 (j := 5) rfl)
theorem dL_law_1382 : decode cL_law 1382 = .ok (.iconst 5, 1) := lw_f8 (lw_at lw_e43 (j := 6) rfl)
theorem dL_law_1383 : decode cL_law 1383 = .ok (.iadd, 1) := lw_f96 (lw_at lw_e43 (j := 7) rfl)
theorem dL_law_1384 : decode cL_law 1384 = .ok (.iaload, 1) := lw_f46 (lw_at lw_e43 (j := 8) rfl)
theorem dL_law_1385 : decode cL_law 1385 = .ok (.aload_n 0, 1) := lw_f42 (lw_at lw_e43 (j := 9) rfl)
theorem dL_law_1386 : decode cL_law 1386 = .ok (.iload_n 3, 1) := lw_f29 (lw_at lw_e43 (j := 10) rfl)
theorem dL_law_1387 : decode cL_law 1387 = .ok (.bipush 6, 2) := by decide +kernel
theorem dL_law_1389 : decode cL_law 1389 = .ok (.iadd, 1) := lw_f96 (lw_at lw_e43 (j := 13) rfl)
theorem dL_law_1390 : decode cL_law 1390 = .ok (.iaload, 1) := lw_f46 (lw_at lw_e43 (j := 14) rfl)
theorem dL_law_1391 : decode cL_law 1391 = .ok (.invokevirtual 125, 3) := lw_f182 (lw_at lw_e43 (j := 15) rfl) (lw_at lw_e43 (j := 16) rfl) (lw_at lw_e43 (j := 17) rfl) rfl
theorem dL_law_1394 : decode cL_law 1394 = .ok (.pop, 1) := lw_f87 (lw_at lw_e43 (j := 18) rfl)
theorem dL_law_1395 : decode cL_law 1395 = .ok (.goto 610, 3) := lw_f167 (lw_at lw_e43 (j := 19) rfl) (lw_at lw_e43 (j := 20) rfl) (lw_at lw_e43 (j := 21) rfl) (by decide)
theorem wk_1223 : Cond.methodLink RL 121 yX11_weeks ∈ tl_L := List.mem_filter.mpr ⟨lw_m5 (i := 118) rfl, rfl⟩
theorem wk_1224 : Cond.instanceMethod yX11_weeks ∈ tl_L := List.mem_filter.mpr ⟨lw_m5 (i := 119) rfl, rfl⟩
theorem wk_1225 : Cond.selects RX11 yX11_weeks yX11_weeks ∈ tl_L := List.mem_filter.mpr ⟨lw_m5 (i := 120) rfl, rfl⟩
theorem wk_1226 : Cond.code yX11_weeks cX11_weeks 12 (some .int) ∈ tl_L := List.mem_filter.mpr ⟨lw_m5 (i := 121) rfl, rfl⟩
theorem wk_1227 : Cond.methodLink RL 125 yX12_weeks ∈ tl_L := List.mem_filter.mpr ⟨lw_m8 (i := 168) rfl, rfl⟩
theorem wk_1228 : Cond.instanceMethod yX12_weeks ∈ tl_L := List.mem_filter.mpr ⟨lw_m8 (i := 169) rfl, rfl⟩
theorem wk_1229 : Cond.selects RX12 yX12_weeks yX12_weeks ∈ tl_L := List.mem_filter.mpr ⟨lw_m8 (i := 170) rfl, rfl⟩
theorem wk_1230 : Cond.code yX12_weeks cX12_weeks 12 (some .int) ∈ tl_L := List.mem_filter.mpr ⟨lw_m8 (i := 171) rfl, rfl⟩
theorem lk_L_121 : tl_kV RL 121 RX11 yX11_weeks cX11_weeks 12 (some .int) 6 := ⟨wk_1226, wk_1223, wk_1224, wk_1225, wk_2, ⟨by decide +kernel, by decide +kernel, by decide +kernel⟩⟩
theorem lk_L_125 : tl_kV RL 125 RX12 yX12_weeks cX12_weeks 12 (some .int) 6 := ⟨wk_1230, wk_1227, wk_1228, wk_1229, wk_5, ⟨by decide +kernel, by decide +kernel, by decide +kernel⟩⟩
theorem dL_law_1398 : decode cL_law 1398 = .ok (.aload_n 1, 1) := lw_f43 (lw_at lw_e43 (j := 22) rfl)
theorem dL_law_1399 : decode cL_law 1399 = .ok (.aload_n 0, 1) := lw_f42 (lw_at lw_e43 (j := 23) rfl)
theorem dL_law_1400 : decode cL_law 1400 = .ok (.iload_n 3, 1) := lw_f29 (lw_at lw_e43 (j := 24) rfl)
theorem dL_law_1401 : decode cL_law 1401 = .ok (.iconst 1, 1) := lw_f4 (lw_at lw_e43 (j := 25) rfl)
theorem dL_law_1402 : decode cL_law 1402 = .ok (.iadd, 1) := lw_f96 (lw_at lw_e43 (j := 26) rfl)
theorem dL_law_1403 : decode cL_law 1403 = .ok (.iaload, 1) := lw_f46 (lw_at lw_e43 (j := 27) rfl)
theorem dL_law_1404 : decode cL_law 1404 = .ok (.aload_n 0, 1) := lw_f42 (lw_at lw_e43 (j := 28) rfl)
theorem dL_law_1405 : decode cL_law 1405 = .ok (.iload_n 3, 1) := lw_f29 (lw_at lw_e43 (j := 29) rfl)
theorem dL_law_1406 : decode cL_law 1406 = .ok (.iconst 2, 1) := lw_f5 (lw_at lw_e43 (j := 30) rfl)
theorem dL_law_1407 : decode cL_law 1407 = .ok (.iadd, 1) := lw_f96 (lw_at lw_e43 (j := 31) rfl)
theorem dL_law_1408 : decode cL_law 1408 = .ok (.iaload, 1) := lw_f46 (lw_at lw_e44 (j := 0) rfl)
theorem dL_law_1409 : decode cL_law 1409 = .ok (.aload_n 0, 1) := lw_f42 (lw_at lw_e44 (j := 1) rfl)
theorem dL_law_1410 : decode cL_law 1410 = .ok (.iload_n 3, 1) := lw_f29 (lw_at lw_e44 (j := 2) rfl)
theorem dL_law_1411 : decode cL_law 1411 = .ok (.iconst 3, 1) := lw_f6 (lw_at lw_e44 (j := 3) rfl)
theorem dL_law_1412 : decode cL_law 1412 = .ok (.iadd, 1) := lw_f96 (lw_at lw_e44 (j := 4) rfl)
theorem dL_law_1413 : decode cL_law 1413 = .ok (.iaload, 1) := lw_f46 (lw_at lw_e44 (j := 5) rfl)
theorem dL_law_1414 : decode cL_law 1414 = .ok (.invokevirtual 126, 3) := lw_f182 (lw_at lw_e44 (j := 6) rfl) (lw_at lw_e44 (j := 7) rfl) (lw_at lw_e44 (j := 8) rfl) rfl
theorem dL_law_1417 : decode cL_law 1417 = .ok (.pop2, 1) := lw_f88 (lw_at lw_e44 (j := 9) rfl)
theorem dL_law_1418 : decode cL_law 1418 = .ok (.aload_n 2, 1) := lw_f44 (lw_at lw_e44 (j := 10) rfl)
theorem dL_law_1419 : decode cL_law 1419 = .ok (.aload_n 0, 1) := lw_f42 (lw_at lw_e44 (j := 11) rfl)
theorem dL_law_1420 : decode cL_law 1420 = .ok (.iload_n 3, 1) := lw_f29 (lw_at lw_e44 (j := 12) rfl)
theorem dL_law_1421 : decode cL_law 1421 = .ok (.iconst 1, 1) := lw_f4 (lw_at lw_e44 (j := 13) rfl)
theorem dL_law_1422 : decode cL_law 1422 = .ok (.iadd, 1) := lw_f96 (lw_at lw_e44 (j := 14) rfl)
theorem dL_law_1423 : decode cL_law 1423 = .ok (.iaload, 1) := lw_f46 (lw_at lw_e44 (j := 15) rfl)
theorem dL_law_1424 : decode cL_law 1424 = .ok (.aload_n 0, 1) := lw_f42 (lw_at lw_e44 (j := 16) rfl)
theorem dL_law_1425 : decode cL_law 1425 = .ok (.iload_n 3, 1) := lw_f29 (lw_at lw_e44 (j := 17) rfl)
theorem dL_law_1426 : decode cL_law 1426 = .ok (.iconst 2, 1) := lw_f5 (lw_at lw_e44 (j := 18) rfl)
theorem dL_law_1427 : decode cL_law 1427 = .ok (.iadd, 1) := lw_f96 (lw_at lw_e44 (j := 19) rfl)
theorem dL_law_1428 : decode cL_law 1428 = .ok (.iaload, 1) := lw_f46 (lw_at lw_e44 (j := 20) rfl)
theorem dL_law_1429 : decode cL_law 1429 = .ok (.aload_n 0, 1) := lw_f42 (lw_at lw_e44 (j := 21) rfl)
theorem dL_law_1430 : decode cL_law 1430 = .ok (.iload_n 3, 1) := lw_f29 (lw_at lw_e44 (j := 22) rfl)
theorem dL_law_1431 : decode cL_law 1431 = .ok (.iconst 3, 1) := lw_f6 (lw_at lw_e44 (j := 23) rfl)
theorem dL_law_1432 : decode cL_law 1432 = .ok (.iadd, 1) := lw_f96 (lw_at lw_e44 (j := 24) rfl)
theorem dL_law_1433 : decode cL_law 1433 = .ok (.iaload, 1) := lw_f46 (lw_at lw_e44 (j := 25) rfl)
theorem dL_law_1434 : decode cL_law 1434 = .ok (.invokevirtual 129, 3) := lw_f182 (lw_at lw_e44 (j := 26) rfl) (lw_at lw_e44 (j := 27) rfl) (lw_at lw_e44 (j := 28) rfl) rfl
theorem dL_law_1437 : decode cL_law 1437 = .ok (.pop2, 1) := lw_f88 (lw_at lw_e44 (j := 29) rfl)
theorem dL_law_1438 : decode cL_law 1438 = .ok (.goto 567, 3) := lw_f167 (lw_at lw_e44 (j := 30) rfl) (lw_at lw_e44 (j := 31) rfl) (lw_at lw_e45 (j := 0) rfl) (by decide)
theorem wk_1231 : Cond.methodLink RL 126 yX11_ripple ∈ tl_L := List.mem_filter.mpr ⟨lw_m5 (i := 134) rfl, rfl⟩
theorem wk_1232 : Cond.instanceMethod yX11_ripple ∈ tl_L := List.mem_filter.mpr ⟨lw_m5 (i := 135) rfl, rfl⟩
theorem wk_1233 : Cond.selects RX11 yX11_ripple yX11_ripple ∈ tl_L := List.mem_filter.mpr ⟨lw_m5 (i := 136) rfl, rfl⟩
theorem wk_1234 : Cond.code yX11_ripple cX11_ripple 5 (some .long) ∈ tl_L := List.mem_filter.mpr ⟨lw_m5 (i := 137) rfl, rfl⟩
theorem wk_1250 : Cond.methodLink RL 129 yX12_ripple ∈ tl_L := List.mem_filter.mpr ⟨lw_m8 (i := 172) rfl, rfl⟩
theorem wk_1251 : Cond.instanceMethod yX12_ripple ∈ tl_L := List.mem_filter.mpr ⟨lw_m8 (i := 173) rfl, rfl⟩
theorem wk_1252 : Cond.selects RX12 yX12_ripple yX12_ripple ∈ tl_L := List.mem_filter.mpr ⟨lw_m8 (i := 174) rfl, rfl⟩
theorem wk_1253 : Cond.code yX12_ripple cX12_ripple 5 (some .long) ∈ tl_L := List.mem_filter.mpr ⟨lw_m8 (i := 175) rfl, rfl⟩
theorem lk_L_126 : tl_kV RL 126 RX11 yX11_ripple cX11_ripple 5 (some .long) 3 := ⟨wk_1234, wk_1231, wk_1232, wk_1233, wk_2, ⟨by decide +kernel, by decide +kernel, by decide +kernel⟩⟩
theorem lk_L_129 : tl_kV RL 129 RX12 yX12_ripple cX12_ripple 5 (some .long) 3 := ⟨wk_1253, wk_1250, wk_1251, wk_1252, wk_5, ⟨by decide +kernel, by decide +kernel, by decide +kernel⟩⟩
theorem dL_law_1441 : decode cL_law 1441 = .ok (.aload_n 1, 1) := lw_f43 (lw_at lw_e45 (j := 1) rfl)
theorem dL_law_1442 : decode cL_law 1442 = .ok (.aload_n 0, 1) := lw_f42 (lw_at lw_e45 (j := 2) rfl)
theorem dL_law_1443 : decode cL_law 1443 = .ok (.iload_n 3, 1) := lw_f29 (lw_at lw_e45 (j := 3) rfl)
theorem dL_law_1444 : decode cL_law 1444 = .ok (.iconst 1, 1) := lw_f4 (lw_at lw_e45 (j := 4) rfl)
theorem dL_law_1445 : decode cL_law 1445 = .ok (.iadd, 1) := lw_f96 (lw_at lw_e45 (j := 5) rfl)
theorem dL_law_1446 : decode cL_law 1446 = .ok (.iaload, 1) := lw_f46 (lw_at lw_e45 (j := 6) rfl)
theorem dL_law_1447 : decode cL_law 1447 = .ok (.aload_n 0, 1) := lw_f42 (lw_at lw_e45 (j := 7) rfl)
theorem dL_law_1448 : decode cL_law 1448 = .ok (.iload_n 3, 1) := lw_f29 (lw_at lw_e45 (j := 8) rfl)
theorem dL_law_1449 : decode cL_law 1449 = .ok (.iconst 2, 1) := lw_f5 (lw_at lw_e45 (j := 9) rfl)
theorem dL_law_1450 : decode cL_law 1450 = .ok (.iadd, 1) := lw_f96 (lw_at lw_e45 (j := 10) rfl)
theorem dL_law_1451 : decode cL_law 1451 = .ok (.iaload, 1) := lw_f46 (lw_at lw_e45 (j := 11) rfl)
theorem dL_law_1452 : decode cL_law 1452 = .ok (.invokevirtual 130, 3) := lw_f182 (lw_at lw_e45 (j := 12) rfl) (lw_at lw_e45 (j := 13) rfl) (lw_at lw_e45 (j := 14) rfl) rfl
theorem dL_law_1455 : decode cL_law 1455 = .ok (.pop, 1) := lw_f87 (lw_at lw_e45 (j := 15) rfl)
theorem dL_law_1456 : decode cL_law 1456 = .ok (.aload_n 2, 1) := lw_f44 (lw_at lw_e45 (j := 16) rfl)
theorem dL_law_1457 : decode cL_law 1457 = .ok (.aload_n 0, 1) := lw_f42 (lw_at lw_e45 (j := 17) rfl)
theorem dL_law_1458 : decode cL_law 1458 = .ok (.iload_n 3, 1) := lw_f29 (lw_at lw_e45 (j := 18) rfl)
theorem dL_law_1459 : decode cL_law 1459 = .ok (.iconst 1, 1) := lw_f4 (lw_at lw_e45 (j := 19) rfl)
theorem dL_law_1460 : decode cL_law 1460 = .ok (.iadd, 1) := lw_f96 (lw_at lw_e45 (j := 20) rfl)
theorem dL_law_1461 : decode cL_law 1461 = .ok (.iaload, 1) := lw_f46 (lw_at lw_e45 (j := 21) rfl)
theorem dL_law_1462 : decode cL_law 1462 = .ok (.aload_n 0, 1) := lw_f42 (lw_at lw_e45 (j := 22) rfl)
theorem dL_law_1463 : decode cL_law 1463 = .ok (.iload_n 3, 1) := lw_f29 (lw_at lw_e45 (j := 23) rfl)
theorem dL_law_1464 : decode cL_law 1464 = .ok (.iconst 2, 1) := lw_f5 (lw_at lw_e45 (j := 24) rfl)
theorem dL_law_1465 : decode cL_law 1465 = .ok (.iadd, 1) := lw_f96 (lw_at lw_e45 (j := 25) rfl)
theorem dL_law_1466 : decode cL_law 1466 = .ok (.iaload, 1) := lw_f46 (lw_at lw_e45 (j := 26) rfl)
theorem dL_law_1467 : decode cL_law 1467 = .ok (.invokevirtual 133, 3) := lw_f182 (lw_at lw_e45 (j := 27) rfl) (lw_at lw_e45 (j := 28) rfl) (lw_at lw_e45 (j := 29) rfl) rfl
theorem dL_law_1470 : decode cL_law 1470 = .ok (.pop, 1) := lw_f87 (lw_at lw_e45 (j := 30) rfl)
theorem dL_law_1471 : decode cL_law 1471 = .ok (.goto 534, 3) := lw_f167 (lw_at lw_e45 (j := 31) rfl) (lw_at lw_e46 (j := 0) rfl) (lw_at lw_e46 (j := 1) rfl) (by decide)
theorem wk_1262 : Cond.methodLink RL 130 yX11_smooth ∈ tl_L := List.mem_filter.mpr ⟨lw_m5 (i := 155) rfl, rfl⟩
theorem wk_1263 : Cond.instanceMethod yX11_smooth ∈ tl_L := List.mem_filter.mpr ⟨lw_m5 (i := 156) rfl, rfl⟩
theorem wk_1264 : Cond.selects RX11 yX11_smooth yX11_smooth ∈ tl_L := List.mem_filter.mpr ⟨lw_m5 (i := 157) rfl, rfl⟩
theorem wk_1265 : Cond.code yX11_smooth cX11_smooth 7 (some .int) ∈ tl_L := List.mem_filter.mpr ⟨lw_m5 (i := 158) rfl, rfl⟩
theorem wk_1270 : Cond.methodLink RL 133 yX12_smooth ∈ tl_L := List.mem_filter.mpr ⟨lw_m8 (i := 184) rfl, rfl⟩
theorem wk_1271 : Cond.instanceMethod yX12_smooth ∈ tl_L := List.mem_filter.mpr ⟨lw_m8 (i := 185) rfl, rfl⟩
theorem wk_1272 : Cond.selects RX12 yX12_smooth yX12_smooth ∈ tl_L := List.mem_filter.mpr ⟨lw_m8 (i := 186) rfl, rfl⟩
theorem wk_1273 : Cond.code yX12_smooth cX12_smooth 5 (some .int) ∈ tl_L := List.mem_filter.mpr ⟨lw_m8 (i := 187) rfl, rfl⟩
theorem lk_L_130 : tl_kV RL 130 RX11 yX11_smooth cX11_smooth 7 (some .int) 2 := ⟨wk_1265, wk_1262, wk_1263, wk_1264, wk_2, ⟨by decide +kernel, by decide +kernel, by decide +kernel⟩⟩
theorem lk_L_133 : tl_kV RL 133 RX12 yX12_smooth cX12_smooth 5 (some .int) 2 := ⟨wk_1273, wk_1270, wk_1271, wk_1272, wk_5, ⟨by decide +kernel, by decide +kernel, by decide +kernel⟩⟩
theorem dL_law_1474 : decode cL_law 1474 = .ok (.aload_n 1, 1) := lw_f43 (lw_at lw_e46 (j := 2) rfl)
theorem dL_law_1475 : decode cL_law 1475 = .ok (.aload_n 0, 1) := lw_f42 (lw_at lw_e46 (j := 3) rfl)
theorem dL_law_1476 : decode cL_law 1476 = .ok (.iload_n 3, 1) := lw_f29 (lw_at lw_e46 (j := 4) rfl)
theorem dL_law_1477 : decode cL_law 1477 = .ok (.iconst 1, 1) := lw_f4 (lw_at lw_e46 (j := 5) rfl)
theorem dL_law_1478 : decode cL_law 1478 = .ok (.iadd, 1) := lw_f96 (lw_at lw_e46 (j := 6) rfl)
theorem dL_law_1479 : decode cL_law 1479 = .ok (.iaload, 1) := lw_f46 (lw_at lw_e46 (j := 7) rfl)
theorem dL_law_1480 : decode cL_law 1480 = .ok (.aload_n 0, 1) := lw_f42 (lw_at lw_e46 (j := 8) rfl)
theorem dL_law_1481 : decode cL_law 1481 = .ok (.iload_n 3, 1) := lw_f29 (lw_at lw_e46 (j := 9) rfl)
theorem dL_law_1482 : decode cL_law 1482 = .ok (.iconst 2, 1) := lw_f5 (lw_at lw_e46 (j := 10) rfl)
theorem dL_law_1483 : decode cL_law 1483 = .ok (.iadd, 1) := lw_f96 (lw_at lw_e46 (j := 11) rfl)
theorem dL_law_1484 : decode cL_law 1484 = .ok (.iaload, 1) := lw_f46 (lw_at lw_e46 (j := 12) rfl)
theorem dL_law_1485 : decode cL_law 1485 = .ok (.aload_n 0, 1) := lw_f42 (lw_at lw_e46 (j := 13) rfl)
theorem dL_law_1486 : decode cL_law 1486 = .ok (.iload_n 3, 1) := lw_f29 (lw_at lw_e46 (j := 14) rfl)
theorem dL_law_1487 : decode cL_law 1487 = .ok (.iconst 3, 1) := lw_f6 (lw_at lw_e46 (j := 15) rfl)
theorem dL_law_1488 : decode cL_law 1488 = .ok (.iadd, 1) := lw_f96 (lw_at lw_e46 (j := 16) rfl)
theorem dL_law_1489 : decode cL_law 1489 = .ok (.iaload, 1) := lw_f46 (lw_at lw_e46 (j := 17) rfl)
theorem dL_law_1490 : decode cL_law 1490 = .ok (.invokevirtual 134, 3) := lw_f182 (lw_at lw_e46 (j := 18) rfl) (lw_at lw_e46 (j := 19) rfl) (lw_at lw_e46 (j := 20) rfl) rfl
theorem dL_law_1493 : decode cL_law 1493 = .ok (.pop, 1) := lw_f87 (lw_at lw_e46 (j := 21) rfl)
theorem dL_law_1494 : decode cL_law 1494 = .ok (.aload_n 2, 1) := lw_f44 (lw_at lw_e46 (j := 22) rfl)
theorem dL_law_1495 : decode cL_law 1495 = .ok (.aload_n 0, 1) := lw_f42 (lw_at lw_e46 (j := 23) rfl)
theorem dL_law_1496 : decode cL_law 1496 = .ok (.iload_n 3, 1) := lw_f29 (lw_at lw_e46 (j := 24) rfl)
theorem dL_law_1497 : decode cL_law 1497 = .ok (.iconst 1, 1) := lw_f4 (lw_at lw_e46 (j := 25) rfl)
theorem dL_law_1498 : decode cL_law 1498 = .ok (.iadd, 1) := lw_f96 (lw_at lw_e46 (j := 26) rfl)
theorem dL_law_1499 : decode cL_law 1499 = .ok (.iaload, 1) := lw_f46 (lw_at lw_e46 (j := 27) rfl)
theorem dL_law_1500 : decode cL_law 1500 = .ok (.aload_n 0, 1) := lw_f42 (lw_at lw_e46 (j := 28) rfl)
theorem dL_law_1501 : decode cL_law 1501 = .ok (.iload_n 3, 1) := lw_f29 (lw_at lw_e46 (j := 29) rfl)
theorem dL_law_1502 : decode cL_law 1502 = .ok (.iconst 2, 1) := lw_f5 (lw_at lw_e46 (j := 30) rfl)
theorem dL_law_1503 : decode cL_law 1503 = .ok (.iadd, 1) := lw_f96 (lw_at lw_e46 (j := 31) rfl)
theorem dL_law_1504 : decode cL_law 1504 = .ok (.iaload, 1) := lw_f46 (lw_at lw_e47 (j := 0) rfl)
theorem dL_law_1505 : decode cL_law 1505 = .ok (.aload_n 0, 1) := lw_f42 (lw_at lw_e47 (j := 1) rfl)
theorem dL_law_1506 : decode cL_law 1506 = .ok (.iload_n 3, 1) := lw_f29 (lw_at lw_e47 (j := 2) rfl)
theorem dL_law_1507 : decode cL_law 1507 = .ok (.iconst 3, 1) := lw_f6 (lw_at lw_e47 (j := 3) rfl)
theorem dL_law_1508 : decode cL_law 1508 = .ok (.iadd, 1) := lw_f96 (lw_at lw_e47 (j := 4) rfl)
theorem dL_law_1509 : decode cL_law 1509 = .ok (.iaload, 1) := lw_f46 (lw_at lw_e47 (j := 5) rfl)
theorem dL_law_1510 : decode cL_law 1510 = .ok (.invokevirtual 137, 3) := lw_f182 (lw_at lw_e47 (j := 6) rfl) (lw_at lw_e47 (j := 7) rfl) (lw_at lw_e47 (j := 8) rfl) rfl
theorem dL_law_1513 : decode cL_law 1513 = .ok (.pop, 1) := lw_f87 (lw_at lw_e47 (j := 9) rfl)
theorem dL_law_1514 : decode cL_law 1514 = .ok (.goto 491, 3) := lw_f167 (lw_at lw_e47 (j := 10) rfl) (lw_at lw_e47 (j := 11) rfl) (lw_at lw_e47 (j := 12) rfl) (by decide)
theorem wk_1278 : Cond.methodLink RL 134 yX11_without ∈ tl_L := List.mem_filter.mpr ⟨lw_m5 (i := 165) rfl, rfl⟩
theorem wk_1279 : Cond.instanceMethod yX11_without ∈ tl_L := List.mem_filter.mpr ⟨lw_m5 (i := 166) rfl, rfl⟩
theorem wk_1280 : Cond.selects RX11 yX11_without yX11_without ∈ tl_L := List.mem_filter.mpr ⟨lw_m5 (i := 167) rfl, rfl⟩
theorem wk_1281 : Cond.code yX11_without cX11_without 4 (some .int) ∈ tl_L := List.mem_filter.mpr ⟨lw_m5 (i := 168) rfl, rfl⟩
theorem wk_1282 : Cond.methodLink RL 137 yX12_without ∈ tl_L := List.mem_filter.mpr ⟨lw_m8 (i := 192) rfl, rfl⟩
theorem wk_1283 : Cond.instanceMethod yX12_without ∈ tl_L := List.mem_filter.mpr ⟨lw_m8 (i := 193) rfl, rfl⟩
theorem wk_1284 : Cond.selects RX12 yX12_without yX12_without ∈ tl_L := List.mem_filter.mpr ⟨lw_m8 (i := 194) rfl, rfl⟩
theorem wk_1285 : Cond.code yX12_without cX12_without 4 (some .int) ∈ tl_L := List.mem_filter.mpr ⟨lw_m8 (i := 195) rfl, rfl⟩
theorem lk_L_134 : tl_kV RL 134 RX11 yX11_without cX11_without 4 (some .int) 3 := ⟨wk_1281, wk_1278, wk_1279, wk_1280, wk_2, ⟨by decide +kernel, by decide +kernel, by decide +kernel⟩⟩
theorem lk_L_137 : tl_kV RL 137 RX12 yX12_without cX12_without 4 (some .int) 3 := ⟨wk_1285, wk_1282, wk_1283, wk_1284, wk_5, ⟨by decide +kernel, by decide +kernel, by decide +kernel⟩⟩
theorem dL_law_1517 : decode cL_law 1517 = .ok (.aload_n 1, 1) := lw_f43 (lw_at lw_e47 (j := 13) rfl)
theorem dL_law_1518 : decode cL_law 1518 = .ok (.aload_n 0, 1) := lw_f42 (lw_at lw_e47 (j := 14) rfl)
theorem dL_law_1519 : decode cL_law 1519 = .ok (.iload_n 3, 1) := lw_f29 (lw_at lw_e47 (j := 15) rfl)
theorem dL_law_1520 : decode cL_law 1520 = .ok (.iconst 1, 1) := lw_f4 (lw_at lw_e47 (j := 16) rfl)
theorem dL_law_1521 : decode cL_law 1521 = .ok (.iadd, 1) := lw_f96 (lw_at lw_e47 (j := 17) rfl)
theorem dL_law_1522 : decode cL_law 1522 = .ok (.iaload, 1) := lw_f46 (lw_at lw_e47 (j := 18) rfl)
theorem dL_law_1523 : decode cL_law 1523 = .ok (.aload_n 0, 1) := lw_f42 (lw_at lw_e47 (j := 19) rfl)
theorem dL_law_1524 : decode cL_law 1524 = .ok (.iload_n 3, 1) := lw_f29 (lw_at lw_e47 (j := 20) rfl)
theorem dL_law_1525 : decode cL_law 1525 = .ok (.iconst 2, 1) := lw_f5 (lw_at lw_e47 (j := 21) rfl)
theorem dL_law_1526 : decode cL_law 1526 = .ok (.iadd, 1) := lw_f96 (lw_at lw_e47 (j := 22) rfl)
theorem dL_law_1527 : decode cL_law 1527 = .ok (.iaload, 1) := lw_f46 (lw_at lw_e47 (j := 23) rfl)
theorem dL_law_1528 : decode cL_law 1528 = .ok (.invokevirtual 138, 3) := lw_f182 (lw_at lw_e47 (j := 24) rfl) (lw_at lw_e47 (j := 25) rfl) (lw_at lw_e47 (j := 26) rfl) rfl
theorem dL_law_1531 : decode cL_law 1531 = .ok (.pop, 1) := lw_f87 (lw_at lw_e47 (j := 27) rfl)
theorem dL_law_1532 : decode cL_law 1532 = .ok (.aload_n 2, 1) := lw_f44 (lw_at lw_e47 (j := 28) rfl)
theorem dL_law_1533 : decode cL_law 1533 = .ok (.aload_n 0, 1) := lw_f42 (lw_at lw_e47 (j := 29) rfl)
theorem dL_law_1534 : decode cL_law 1534 = .ok (.iload_n 3, 1) := lw_f29 (lw_at lw_e47 (j := 30) rfl)
theorem dL_law_1535 : decode cL_law 1535 = .ok (.iconst 1, 1) := lw_f4 (lw_at lw_e47 (j := 31) rfl)
theorem dL_law_1536 : decode cL_law 1536 = .ok (.iadd, 1) := lw_f96 (lw_at lw_e48 (j := 0) rfl)
theorem dL_law_1537 : decode cL_law 1537 = .ok (.iaload, 1) := lw_f46 (lw_at lw_e48 (j := 1) rfl)
theorem dL_law_1538 : decode cL_law 1538 = .ok (.aload_n 0, 1) := lw_f42 (lw_at lw_e48 (j := 2) rfl)
theorem dL_law_1539 : decode cL_law 1539 = .ok (.iload_n 3, 1) := lw_f29 (lw_at lw_e48 (j := 3) rfl)
theorem dL_law_1540 : decode cL_law 1540 = .ok (.iconst 2, 1) := lw_f5 (lw_at lw_e48 (j := 4) rfl)
theorem dL_law_1541 : decode cL_law 1541 = .ok (.iadd, 1) := lw_f96 (lw_at lw_e48 (j := 5) rfl)
theorem dL_law_1542 : decode cL_law 1542 = .ok (.iaload, 1) := lw_f46 (lw_at lw_e48 (j := 6) rfl)
theorem dL_law_1543 : decode cL_law 1543 = .ok (.invokevirtual 141, 3) := lw_f182 (lw_at lw_e48 (j := 7) rfl) (lw_at lw_e48 (j := 8) rfl) (lw_at lw_e48 (j := 9) rfl) rfl
theorem dL_law_1546 : decode cL_law 1546 = .ok (.pop, 1) := lw_f87 (lw_at lw_e48 (j := 10) rfl)
theorem dL_law_1547 : decode cL_law 1547 = .ok (.goto 458, 3) := lw_f167 (lw_at lw_e48 (j := 11) rfl) (lw_at lw_e48 (j := 12) rfl) (lw_at lw_e48 (j := 13) rfl) (by decide)
theorem wk_1290 : Cond.methodLink RL 138 yX11_weightiest ∈ tl_L := List.mem_filter.mpr ⟨lw_m5 (i := 169) rfl, rfl⟩
theorem wk_1291 : Cond.instanceMethod yX11_weightiest ∈ tl_L := List.mem_filter.mpr ⟨lw_m5 (i := 170) rfl, rfl⟩
theorem wk_1292 : Cond.selects RX11 yX11_weightiest yX11_weightiest ∈ tl_L := List.mem_filter.mpr ⟨lw_m5 (i := 171) rfl, rfl⟩
theorem wk_1293 : Cond.code yX11_weightiest cX11_weightiest 8 (some .int) ∈ tl_L := List.mem_filter.mpr ⟨lw_m5 (i := 172) rfl, rfl⟩
theorem wk_1294 : Cond.methodLink RL 141 yX12_weightiest ∈ tl_L := List.mem_filter.mpr ⟨lw_m8 (i := 200) rfl, rfl⟩
theorem wk_1295 : Cond.instanceMethod yX12_weightiest ∈ tl_L := List.mem_filter.mpr ⟨lw_m8 (i := 201) rfl, rfl⟩
theorem wk_1296 : Cond.selects RX12 yX12_weightiest yX12_weightiest ∈ tl_L := List.mem_filter.mpr ⟨lw_m8 (i := 202) rfl, rfl⟩
theorem wk_1297 : Cond.code yX12_weightiest cX12_weightiest 11 (some .int) ∈ tl_L := List.mem_filter.mpr ⟨lw_m8 (i := 203) rfl, rfl⟩
theorem lk_L_138 : tl_kV RL 138 RX11 yX11_weightiest cX11_weightiest 8 (some .int) 2 := ⟨wk_1293, wk_1290, wk_1291, wk_1292, wk_2, ⟨by decide +kernel, by decide +kernel, by decide +kernel⟩⟩
theorem lk_L_141 : tl_kV RL 141 RX12 yX12_weightiest cX12_weightiest 11 (some .int) 2 := ⟨wk_1297, wk_1294, wk_1295, wk_1296, wk_5, ⟨by decide +kernel, by decide +kernel, by decide +kernel⟩⟩
set_option maxHeartbeats 4000000 in
set_option maxRecDepth 100000 in
theorem tl_law_15 {p : Program} {e : Env} {s : State} {m : MethodId} {below : List Frame} {meth : Method} {c : Code} (l : Launch) {b N : Nat} {xs : Nat → Int32} (C0 : lw_At p s m meth c b N xs) (D : va_G) (cy : Nat → ClassId) (hK : va_K D vwCl (tl_T cy) s) (hN : tl_ok s) (Z : ts_Y) {A : Nat → Prop} (hAe : A = fun q : Nat => s.heap.size ≤ q) (hZ : ts_Z A Z s s.heap) (xq mq : Nat) (i : Int32) (hi : 0 ≤ i.toInt ∧ i.toInt + 7 ≤ N ∧ N ≤ 3584) {cells slots : Nat} (hcs : cells + 41 ≤ 600000 ∧ slots + 8199 ≤ 7302249) {L : List Nat} {K : Nat → tk_K} {Γ : tk_G} {f : Nat → va_E} {H : Heap} {locs : List Loc} {ls : Array Slot} (S : lq_S D cy A s L K Γ f H locs xq mq) (hl : lv_has ls 4 [(3, .int i), (2, .ref mq), (1, .ref xq), (0, .ref b)]) (kk : ∀ (L : List Nat) (K : Nat → tk_K) (Γ : tk_G) (f : Nat → va_E) (H : Heap) (locs : List Loc) (ls : Array Slot), lq_S D cy A s L K Γ f H locs xq mq → lv_has ls 4 [(3, .int i), (2, .ref mq), (1, .ref xq), (0, .ref b)] → W p l e room_1 s m #[Value.ref b] below meth c H locs (cells + 41) (slots + 8199) (lw_Z below #[Value.ref b] s) (F0 m 2005 ls [])) : W p l e room_1 s m #[Value.ref b] below meth c H locs cells slots (lw_Z below #[Value.ref b] s) (F0 m 843 ls []) := by
  obtain ⟨hx, hb, hr, hml, hown, hts, hX, hbl, hlocks, hgv⟩ := id C0
  obtain ⟨hP, hI, hL, hU, hAL, hS, hxq, hmq, hlq, hfree⟩ := S
  have hta : ∀ w ∈ tl_L, w.before #[Value.ref b] s = true := fun w h => hts w (List.mem_filter.mp h).1
  have hA : ∀ q : Nat, s.heap.size ≤ q → A q := fun q h => by rw [hAe]; exact h
  have hbA : ¬ A b := by rw [hAe]; exact Nat.not_le.mpr hbl
  have hAf : ∀ (H : Heap), s.heap.size ≤ H.size → ∀ q, tp_A L H.size q → A q := fun H h q hq => hq.elim (hAL q) (fun h2 => hA q (Nat.le_trans h h2))
  have hRc : room_1.cells = 600000 := rfl
  have hRs : room_1.slots = 7302249 := rfl
  have hI0 := hI
  have hD : va_D A (va_pl L f) := tp_D hL hAL
  have htx := hlq.2.2.2.2.1
  have hsd := hlq.2.2.1
  have hs := ts_hs hsd
  have hraw := ts_raw hsd
  have hslp := ts_slp hsd
  have hdp := ts_dp hsd
  have hm0 := hlq.2.2.2.2.2
  have hIM : Γ (12, 4, 0) = Γ (12, 4, 0) := rfl
  refine lv_aload_n hx hb dL_law_843 rfl (lv_at hl 2 rfl) ?_
  refine lv_aload_n hx hb dL_law_844 rfl (lv_at hl 3 rfl) ?_
  refine lv_iload_n hx hb dL_law_845 rfl (lv_at hl 0 rfl) ?_
  refine lv_iconst (v := 1) hx hb dL_law_846 (by decide) ?_
  refine lv_iadd hx hb dL_law_847 ?_
  refine lv_topi (fun z_1 ez_1 => ?_)
  try have iz_1 : z_1.toInt = i.toInt + (1 : Int) := by rw [ez_1]; exact tl_addN i 1 rfl rfl (by omega) (by omega)
  refine va_sld hx hb hX hbl hbA hS (tl_in (by omega) (by omega)) dL_law_848 ?_
  refine lv_topi (fun z_2 ez_2 => ?_)
  refine lv_aload_n hx hb dL_law_849 rfl (lv_at hl 3 rfl) ?_
  refine lv_iload_n hx hb dL_law_850 rfl (lv_at hl 0 rfl) ?_
  refine lv_iconst (v := 2) hx hb dL_law_851 (by decide) ?_
  refine lv_iadd hx hb dL_law_852 ?_
  refine lv_topi (fun z_3 ez_3 => ?_)
  try have iz_3 : z_3.toInt = i.toInt + (2 : Int) := by rw [ez_3]; exact tl_addN i 2 rfl rfl (by omega) (by omega)
  refine va_sld hx hb hX hbl hbA hS (tl_in (by omega) (by omega)) dL_law_853 ?_
  refine lv_topi (fun z_4 ez_4 => ?_)
  refine lv_aload_n hx hb dL_law_854 rfl (lv_at hl 3 rfl) ?_
  refine lv_iload_n hx hb dL_law_855 rfl (lv_at hl 0 rfl) ?_
  refine lv_iconst (v := 3) hx hb dL_law_856 (by decide) ?_
  refine lv_iadd hx hb dL_law_857 ?_
  refine lv_topi (fun z_5 ez_5 => ?_)
  try have iz_5 : z_5.toInt = i.toInt + (3 : Int) := by rw [ez_5]; exact tl_addN i 3 rfl rfl (by omega) (by omega)
  refine va_sld hx hb hX hbl hbA hS (tl_in (by omega) (by omega)) dL_law_858 ?_
  refine lv_topi (fun z_6 ez_6 => ?_)
  refine lv_aload_n hx hb dL_law_859 rfl (lv_at hl 3 rfl) ?_
  refine lv_iload_n hx hb dL_law_860 rfl (lv_at hl 0 rfl) ?_
  refine lv_iconst (v := 4) hx hb dL_law_861 (by decide) ?_
  refine lv_iadd hx hb dL_law_862 ?_
  refine lv_topi (fun z_7 ez_7 => ?_)
  try have iz_7 : z_7.toInt = i.toInt + (4 : Int) := by rw [ez_7]; exact tl_addN i 4 rfl rfl (by omega) (by omega)
  refine va_sld hx hb hX hbl hbA hS (tl_in (by omega) (by omega)) dL_law_863 ?_
  refine lv_topi (fun z_8 ez_8 => ?_)
  refine lv_aload_n hx hb dL_law_864 rfl (lv_at hl 3 rfl) ?_
  refine lv_iload_n hx hb dL_law_865 rfl (lv_at hl 0 rfl) ?_
  refine lv_iconst (v := 5) hx hb dL_law_866 (by decide) ?_
  refine lv_iadd hx hb dL_law_867 ?_
  refine lv_topi (fun z_9 ez_9 => ?_)
  try have iz_9 : z_9.toInt = i.toInt + (5 : Int) := by rw [ez_9]; exact tl_addN i 5 rfl rfl (by omega) (by omega)
  refine va_sld hx hb hX hbl hbA hS (tl_in (by omega) (by omega)) dL_law_868 ?_
  refine lv_topi (fun z_10 ez_10 => ?_)
  obtain ⟨x_12, x_13, x_14, x_15, x_16, x_17, x_18, x_19, x_20, x_21, x_22, x_23, x_24, x_25, x_26, x_27, hf_11, hx_12, hx_13, hx_14, hx_15, hx_16, hx_17, hx_18, hx_19, hx_20, hx_21, hx_22, hx_23, hx_24, hx_25, hx_26, hx_27⟩ := (show tp_o_X L K (0) 0 (Γ (0, 0, 0)) (f xq) from hI.at hxq)
  refine tq_ci hS (hAf _ hS.1) (tq_rV (As := [.int z_2, .int z_4, .int z_6, .int z_8, .int z_10]) (rest := []) ⟨hx, hb, hml, hown, hta⟩ (tp_P.pre hK hN hL hU hI hP) (tp_recv hK hP hxq.1 hf_11 rfl) lk_L_80 (t_X11_drawn l D cy H.size L K Γ f xq z_2 z_4 z_6 z_8 z_10 hxq) rfl rfl ⟨Nat.le_of_ble_eq_true rfl, Nat.le_of_ble_eq_true rfl⟩ rfl hl.1 rfl (Nat.le_of_ble_eq_true rfl) dL_law_869 ⟨by rw [hRc]; omega, by rw [hRs]; omega⟩) (fun r_29 f_30 H locs hw_28 hP hI hc_31 hS => ?_)
  have hD : va_D A (va_pl L f_30) := tp_D hL hAL
  have hf_32 := (tp_un hc_31 hxq (by decide)).trans hf_11
  refine lv_pop hx hb dL_law_872 rfl ?_
  refine lv_aload_n hx hb dL_law_873 rfl (lv_at hl 1 rfl) ?_
  refine lv_aload_n hx hb dL_law_874 rfl (lv_at hl 3 rfl) ?_
  refine lv_iload_n hx hb dL_law_875 rfl (lv_at hl 0 rfl) ?_
  refine lv_iconst (v := 1) hx hb dL_law_876 (by decide) ?_
  refine lv_iadd hx hb dL_law_877 ?_
  refine lv_topi (fun z_33 ez_33 => ?_)
  obtain rfl : z_1 = z_33 := ez_1.trans ez_33.symm
  refine va_sld hx hb hX hbl hbA hS (tl_in (by omega) (by omega)) dL_law_878 ?_
  refine lv_topi (fun z_34 ez_34 => ?_)
  obtain rfl : z_2 = z_34 := ez_2.trans ez_34.symm
  refine lv_aload_n hx hb dL_law_879 rfl (lv_at hl 3 rfl) ?_
  refine lv_iload_n hx hb dL_law_880 rfl (lv_at hl 0 rfl) ?_
  refine lv_iconst (v := 2) hx hb dL_law_881 (by decide) ?_
  refine lv_iadd hx hb dL_law_882 ?_
  refine lv_topi (fun z_35 ez_35 => ?_)
  obtain rfl : z_3 = z_35 := ez_3.trans ez_35.symm
  refine va_sld hx hb hX hbl hbA hS (tl_in (by omega) (by omega)) dL_law_883 ?_
  refine lv_topi (fun z_36 ez_36 => ?_)
  obtain rfl : z_4 = z_36 := ez_4.trans ez_36.symm
  refine lv_aload_n hx hb dL_law_884 rfl (lv_at hl 3 rfl) ?_
  refine lv_iload_n hx hb dL_law_885 rfl (lv_at hl 0 rfl) ?_
  refine lv_iconst (v := 3) hx hb dL_law_886 (by decide) ?_
  refine lv_iadd hx hb dL_law_887 ?_
  refine lv_topi (fun z_37 ez_37 => ?_)
  obtain rfl : z_5 = z_37 := ez_5.trans ez_37.symm
  refine va_sld hx hb hX hbl hbA hS (tl_in (by omega) (by omega)) dL_law_888 ?_
  refine lv_topi (fun z_38 ez_38 => ?_)
  obtain rfl : z_6 = z_38 := ez_6.trans ez_38.symm
  refine lv_aload_n hx hb dL_law_889 rfl (lv_at hl 3 rfl) ?_
  refine lv_iload_n hx hb dL_law_890 rfl (lv_at hl 0 rfl) ?_
  refine lv_iconst (v := 4) hx hb dL_law_891 (by decide) ?_
  refine lv_iadd hx hb dL_law_892 ?_
  refine lv_topi (fun z_39 ez_39 => ?_)
  obtain rfl : z_7 = z_39 := ez_7.trans ez_39.symm
  refine va_sld hx hb hX hbl hbA hS (tl_in (by omega) (by omega)) dL_law_893 ?_
  refine lv_topi (fun z_40 ez_40 => ?_)
  obtain rfl : z_8 = z_40 := ez_8.trans ez_40.symm
  refine lv_aload_n hx hb dL_law_894 rfl (lv_at hl 3 rfl) ?_
  refine lv_iload_n hx hb dL_law_895 rfl (lv_at hl 0 rfl) ?_
  refine lv_iconst (v := 5) hx hb dL_law_896 (by decide) ?_
  refine lv_iadd hx hb dL_law_897 ?_
  refine lv_topi (fun z_41 ez_41 => ?_)
  obtain rfl : z_9 = z_41 := ez_9.trans ez_41.symm
  refine va_sld hx hb hX hbl hbA hS (tl_in (by omega) (by omega)) dL_law_898 ?_
  refine lv_topi (fun z_42 ez_42 => ?_)
  obtain rfl : z_10 = z_42 := ez_10.trans ez_42.symm
  obtain ⟨r_44, v_45, q_46, hf_43, hr_47, hv_48⟩ := (show tp_o_M L K 0 0 (Γ (39, 0, 0)) (f_30 mq) from hI.at hmq)
  refine tq_ciR hS (hAf _ hS.1) (tq_rV (As := [.int z_2, .int z_4, .int z_6, .int z_8, .int z_10]) (rest := []) ⟨hx, hb, hml, hown, hta⟩ (tp_P.pre hK hN hL hU hI hP) (tp_recv hK hP hmq.1 hf_43 rfl) lk_L_83 (r_X12_drawn l D cy H.size L K Γ f_30 mq z_2 z_4 z_6 z_8 z_10 hmq (by first | omega | (simp only [Int32.toInt_toInt64]; omega) | decide | assumption) (by first | omega | (simp only [Int32.toInt_toInt64]; omega) | decide | assumption)) rfl rfl ⟨Nat.le_of_ble_eq_true rfl, Nat.le_of_ble_eq_true rfl⟩ rfl hl.1 rfl (Nat.le_of_ble_eq_true rfl) dL_law_899 ⟨by rw [hRc]; omega, by rw [hRs]; omega⟩) (fun r_50 f_51 Γ_53 H locs hw_49 hP hI hc_52 hcg_54 hS => ?_)
  have hD : va_D A (va_pl L f_51) := tp_D hL hAL
  have hf_55 := (tp_un hc_52 hxq (by decide)).trans hf_32
  have hw_49 : Γ_53 (39, 0, 0) 0 = Γ (39, 0, 0) 0 := hw_49
  have hlq9 : lq Γ_53 := hlq.quiet hcg_54 (by decide) (by omega)
  have hfree9 : ∀ j : Nat, Γ_53 (12, 4, 0) j = 0 → ∀ a ∈ L, ¬ (K a).2.2 = j + 1 := fun j q a ha => hfree j (by rw [← (hcg_54 (12, 4, 0) (by decide)).trans hIM]; exact q) a ha
  refine lv_pop hx hb dL_law_902 rfl ?_
  refine lv_goto (tgt := 2005) hx hb dL_law_903 (by decide) ?_
  exact W.widen (k := cells + 41) (n := slots + 8199) (by omega) (by omega) (kk L K Γ_53 f_51 H locs ls ⟨hP, hI, hL, hU, hAL, hS, hxq, hmq, hlq9, hfree9⟩ (lv_sub hl [0, 1, 2, 3] rfl))
set_option maxHeartbeats 4000000 in
set_option maxRecDepth 100000 in
theorem tl_law_16 {p : Program} {e : Env} {s : State} {m : MethodId} {below : List Frame} {meth : Method} {c : Code} (l : Launch) {b N : Nat} {xs : Nat → Int32} (C0 : lw_At p s m meth c b N xs) (D : va_G) (cy : Nat → ClassId) (hK : va_K D vwCl (tl_T cy) s) (hN : tl_ok s) (Z : ts_Y) {A : Nat → Prop} (hAe : A = fun q : Nat => s.heap.size ≤ q) (hZ : ts_Z A Z s s.heap) (xq mq : Nat) (i : Int32) (hi : 0 ≤ i.toInt ∧ i.toInt + 7 ≤ N ∧ N ≤ 3584) {cells slots : Nat} (hcs : cells + 41 ≤ 600000 ∧ slots + 8199 ≤ 7302249) {L : List Nat} {K : Nat → tk_K} {Γ : tk_G} {f : Nat → va_E} {H : Heap} {locs : List Loc} {ls : Array Slot} (S : lq_S D cy A s L K Γ f H locs xq mq) (hl : lv_has ls 4 [(3, .int i), (2, .ref mq), (1, .ref xq), (0, .ref b)]) (kk : ∀ (L : List Nat) (K : Nat → tk_K) (Γ : tk_G) (f : Nat → va_E) (H : Heap) (locs : List Loc) (ls : Array Slot), lq_S D cy A s L K Γ f H locs xq mq → lv_has ls 4 [(3, .int i), (2, .ref mq), (1, .ref xq), (0, .ref b)] → W p l e room_1 s m #[Value.ref b] below meth c H locs (cells + 41) (slots + 8199) (lw_Z below #[Value.ref b] s) (F0 m 2005 ls [])) : W p l e room_1 s m #[Value.ref b] below meth c H locs cells slots (lw_Z below #[Value.ref b] s) (F0 m 906 ls []) := by
  obtain ⟨hx, hb, hr, hml, hown, hts, hX, hbl, hlocks, hgv⟩ := id C0
  obtain ⟨hP, hI, hL, hU, hAL, hS, hxq, hmq, hlq, hfree⟩ := S
  have hta : ∀ w ∈ tl_L, w.before #[Value.ref b] s = true := fun w h => hts w (List.mem_filter.mp h).1
  have hA : ∀ q : Nat, s.heap.size ≤ q → A q := fun q h => by rw [hAe]; exact h
  have hbA : ¬ A b := by rw [hAe]; exact Nat.not_le.mpr hbl
  have hAf : ∀ (H : Heap), s.heap.size ≤ H.size → ∀ q, tp_A L H.size q → A q := fun H h q hq => hq.elim (hAL q) (fun h2 => hA q (Nat.le_trans h h2))
  have hRc : room_1.cells = 600000 := rfl
  have hRs : room_1.slots = 7302249 := rfl
  have hI0 := hI
  have hD : va_D A (va_pl L f) := tp_D hL hAL
  have htx := hlq.2.2.2.2.1
  have hsd := hlq.2.2.1
  have hs := ts_hs hsd
  have hraw := ts_raw hsd
  have hslp := ts_slp hsd
  have hdp := ts_dp hsd
  have hm0 := hlq.2.2.2.2.2
  have hIM : Γ (12, 4, 0) = Γ (12, 4, 0) := rfl
  refine lv_aload_n hx hb dL_law_906 rfl (lv_at hl 2 rfl) ?_
  refine lv_aload_n hx hb dL_law_907 rfl (lv_at hl 3 rfl) ?_
  refine lv_iload_n hx hb dL_law_908 rfl (lv_at hl 0 rfl) ?_
  refine lv_iconst (v := 1) hx hb dL_law_909 (by decide) ?_
  refine lv_iadd hx hb dL_law_910 ?_
  refine lv_topi (fun z_1 ez_1 => ?_)
  try have iz_1 : z_1.toInt = i.toInt + (1 : Int) := by rw [ez_1]; exact tl_addN i 1 rfl rfl (by omega) (by omega)
  refine va_sld hx hb hX hbl hbA hS (tl_in (by omega) (by omega)) dL_law_911 ?_
  refine lv_topi (fun z_2 ez_2 => ?_)
  refine lv_aload_n hx hb dL_law_912 rfl (lv_at hl 3 rfl) ?_
  refine lv_iload_n hx hb dL_law_913 rfl (lv_at hl 0 rfl) ?_
  refine lv_iconst (v := 2) hx hb dL_law_914 (by decide) ?_
  refine lv_iadd hx hb dL_law_915 ?_
  refine lv_topi (fun z_3 ez_3 => ?_)
  try have iz_3 : z_3.toInt = i.toInt + (2 : Int) := by rw [ez_3]; exact tl_addN i 2 rfl rfl (by omega) (by omega)
  refine va_sld hx hb hX hbl hbA hS (tl_in (by omega) (by omega)) dL_law_916 ?_
  refine lv_topi (fun z_4 ez_4 => ?_)
  refine lv_aload_n hx hb dL_law_917 rfl (lv_at hl 3 rfl) ?_
  refine lv_iload_n hx hb dL_law_918 rfl (lv_at hl 0 rfl) ?_
  refine lv_iconst (v := 3) hx hb dL_law_919 (by decide) ?_
  refine lv_iadd hx hb dL_law_920 ?_
  refine lv_topi (fun z_5 ez_5 => ?_)
  try have iz_5 : z_5.toInt = i.toInt + (3 : Int) := by rw [ez_5]; exact tl_addN i 3 rfl rfl (by omega) (by omega)
  refine va_sld hx hb hX hbl hbA hS (tl_in (by omega) (by omega)) dL_law_921 ?_
  refine lv_topi (fun z_6 ez_6 => ?_)
  obtain ⟨x_8, x_9, x_10, x_11, x_12, x_13, x_14, x_15, x_16, x_17, x_18, x_19, x_20, x_21, x_22, x_23, hf_7, hx_8, hx_9, hx_10, hx_11, hx_12, hx_13, hx_14, hx_15, hx_16, hx_17, hx_18, hx_19, hx_20, hx_21, hx_22, hx_23⟩ := (show tp_o_X L K (0) 0 (Γ (0, 0, 0)) (f xq) from hI.at hxq)
  refine tq_cl hS (hAf _ hS.1) (tq_rV (As := [.int z_2, .int z_4, .int z_6]) (rest := []) ⟨hx, hb, hml, hown, hta⟩ (tp_P.pre hK hN hL hU hI hP) (tp_recv hK hP hxq.1 hf_7 rfl) lk_L_84 (t_X11_bent l D cy H.size L K Γ f xq z_2 z_4 z_6 hxq) rfl rfl ⟨Nat.le_of_ble_eq_true rfl, Nat.le_of_ble_eq_true rfl⟩ rfl hl.1 rfl (Nat.le_of_ble_eq_true rfl) dL_law_922 ⟨by rw [hRc]; omega, by rw [hRs]; omega⟩) (fun r_25 f_26 H locs hw_24 hP hI hc_27 hS => ?_)
  have hD : va_D A (va_pl L f_26) := tp_D hL hAL
  have hf_28 := (tp_un hc_27 hxq (by decide)).trans hf_7
  refine lv_pop2_2 hx hb dL_law_925 rfl ?_
  refine lv_aload_n hx hb dL_law_926 rfl (lv_at hl 1 rfl) ?_
  refine lv_aload_n hx hb dL_law_927 rfl (lv_at hl 3 rfl) ?_
  refine lv_iload_n hx hb dL_law_928 rfl (lv_at hl 0 rfl) ?_
  refine lv_iconst (v := 1) hx hb dL_law_929 (by decide) ?_
  refine lv_iadd hx hb dL_law_930 ?_
  refine lv_topi (fun z_29 ez_29 => ?_)
  obtain rfl : z_1 = z_29 := ez_1.trans ez_29.symm
  refine va_sld hx hb hX hbl hbA hS (tl_in (by omega) (by omega)) dL_law_931 ?_
  refine lv_topi (fun z_30 ez_30 => ?_)
  obtain rfl : z_2 = z_30 := ez_2.trans ez_30.symm
  refine lv_aload_n hx hb dL_law_932 rfl (lv_at hl 3 rfl) ?_
  refine lv_iload_n hx hb dL_law_933 rfl (lv_at hl 0 rfl) ?_
  refine lv_iconst (v := 2) hx hb dL_law_934 (by decide) ?_
  refine lv_iadd hx hb dL_law_935 ?_
  refine lv_topi (fun z_31 ez_31 => ?_)
  obtain rfl : z_3 = z_31 := ez_3.trans ez_31.symm
  refine va_sld hx hb hX hbl hbA hS (tl_in (by omega) (by omega)) dL_law_936 ?_
  refine lv_topi (fun z_32 ez_32 => ?_)
  obtain rfl : z_4 = z_32 := ez_4.trans ez_32.symm
  refine lv_aload_n hx hb dL_law_937 rfl (lv_at hl 3 rfl) ?_
  refine lv_iload_n hx hb dL_law_938 rfl (lv_at hl 0 rfl) ?_
  refine lv_iconst (v := 3) hx hb dL_law_939 (by decide) ?_
  refine lv_iadd hx hb dL_law_940 ?_
  refine lv_topi (fun z_33 ez_33 => ?_)
  obtain rfl : z_5 = z_33 := ez_5.trans ez_33.symm
  refine va_sld hx hb hX hbl hbA hS (tl_in (by omega) (by omega)) dL_law_941 ?_
  refine lv_topi (fun z_34 ez_34 => ?_)
  obtain rfl : z_6 = z_34 := ez_6.trans ez_34.symm
  obtain ⟨r_36, v_37, q_38, hf_35, hr_39, hv_40⟩ := (show tp_o_M L K 0 0 (Γ (39, 0, 0)) (f_26 mq) from hI.at hmq)
  refine tq_clR hS (hAf _ hS.1) (tq_rV (As := [.int z_2, .int z_4, .int z_6]) (rest := []) ⟨hx, hb, hml, hown, hta⟩ (tp_P.pre hK hN hL hU hI hP) (tp_recv hK hP hmq.1 hf_35 rfl) lk_L_87 (r_X12_bent l D cy H.size L K Γ f_26 mq z_2 z_4 z_6 hmq (by first | omega | (simp only [Int32.toInt_toInt64]; omega) | decide | assumption) (by first | omega | (simp only [Int32.toInt_toInt64]; omega) | decide | assumption)) rfl rfl ⟨Nat.le_of_ble_eq_true rfl, Nat.le_of_ble_eq_true rfl⟩ rfl hl.1 rfl (Nat.le_of_ble_eq_true rfl) dL_law_942 ⟨by rw [hRc]; omega, by rw [hRs]; omega⟩) (fun r_42 f_43 Γ_45 H locs hw_41 hP hI hc_44 hcg_46 hS => ?_)
  have hD : va_D A (va_pl L f_43) := tp_D hL hAL
  have hf_47 := (tp_un hc_44 hxq (by decide)).trans hf_28
  have hw_41 : Γ_45 (39, 0, 0) 0 = Γ (39, 0, 0) 0 := hw_41
  have hlq9 : lq Γ_45 := hlq.quiet hcg_46 (by decide) (by omega)
  have hfree9 : ∀ j : Nat, Γ_45 (12, 4, 0) j = 0 → ∀ a ∈ L, ¬ (K a).2.2 = j + 1 := fun j q a ha => hfree j (by rw [← (hcg_46 (12, 4, 0) (by decide)).trans hIM]; exact q) a ha
  refine lv_pop2_2 hx hb dL_law_945 rfl ?_
  refine lv_goto (tgt := 2005) hx hb dL_law_946 (by decide) ?_
  exact W.widen (k := cells + 41) (n := slots + 8199) (by omega) (by omega) (kk L K Γ_45 f_43 H locs ls ⟨hP, hI, hL, hU, hAL, hS, hxq, hmq, hlq9, hfree9⟩ (lv_sub hl [0, 1, 2, 3] rfl))
set_option maxHeartbeats 4000000 in
set_option maxRecDepth 100000 in
theorem tl_law_17 {p : Program} {e : Env} {s : State} {m : MethodId} {below : List Frame} {meth : Method} {c : Code} (l : Launch) {b N : Nat} {xs : Nat → Int32} (C0 : lw_At p s m meth c b N xs) (D : va_G) (cy : Nat → ClassId) (hK : va_K D vwCl (tl_T cy) s) (hN : tl_ok s) (Z : ts_Y) {A : Nat → Prop} (hAe : A = fun q : Nat => s.heap.size ≤ q) (hZ : ts_Z A Z s s.heap) (xq mq : Nat) (i : Int32) (hi : 0 ≤ i.toInt ∧ i.toInt + 7 ≤ N ∧ N ≤ 3584) {cells slots : Nat} (hcs : cells + 41 ≤ 600000 ∧ slots + 8199 ≤ 7302249) {L : List Nat} {K : Nat → tk_K} {Γ : tk_G} {f : Nat → va_E} {H : Heap} {locs : List Loc} {ls : Array Slot} (S : lq_S D cy A s L K Γ f H locs xq mq) (hl : lv_has ls 4 [(3, .int i), (2, .ref mq), (1, .ref xq), (0, .ref b)]) (kk : ∀ (L : List Nat) (K : Nat → tk_K) (Γ : tk_G) (f : Nat → va_E) (H : Heap) (locs : List Loc) (ls : Array Slot), lq_S D cy A s L K Γ f H locs xq mq → lv_has ls 4 [(3, .int i), (2, .ref mq), (1, .ref xq), (0, .ref b)] → W p l e room_1 s m #[Value.ref b] below meth c H locs (cells + 41) (slots + 8199) (lw_Z below #[Value.ref b] s) (F0 m 2005 ls [])) : W p l e room_1 s m #[Value.ref b] below meth c H locs cells slots (lw_Z below #[Value.ref b] s) (F0 m 949 ls []) := by
  obtain ⟨hx, hb, hr, hml, hown, hts, hX, hbl, hlocks, hgv⟩ := id C0
  obtain ⟨hP, hI, hL, hU, hAL, hS, hxq, hmq, hlq, hfree⟩ := S
  have hta : ∀ w ∈ tl_L, w.before #[Value.ref b] s = true := fun w h => hts w (List.mem_filter.mp h).1
  have hA : ∀ q : Nat, s.heap.size ≤ q → A q := fun q h => by rw [hAe]; exact h
  have hbA : ¬ A b := by rw [hAe]; exact Nat.not_le.mpr hbl
  have hAf : ∀ (H : Heap), s.heap.size ≤ H.size → ∀ q, tp_A L H.size q → A q := fun H h q hq => hq.elim (hAL q) (fun h2 => hA q (Nat.le_trans h h2))
  have hRc : room_1.cells = 600000 := rfl
  have hRs : room_1.slots = 7302249 := rfl
  have hI0 := hI
  have hD : va_D A (va_pl L f) := tp_D hL hAL
  have htx := hlq.2.2.2.2.1
  have hsd := hlq.2.2.1
  have hs := ts_hs hsd
  have hraw := ts_raw hsd
  have hslp := ts_slp hsd
  have hdp := ts_dp hsd
  have hm0 := hlq.2.2.2.2.2
  have hIM : Γ (12, 4, 0) = Γ (12, 4, 0) := rfl
  refine lv_aload_n hx hb dL_law_949 rfl (lv_at hl 2 rfl) ?_
  refine lv_aload_n hx hb dL_law_950 rfl (lv_at hl 3 rfl) ?_
  refine lv_iload_n hx hb dL_law_951 rfl (lv_at hl 0 rfl) ?_
  refine lv_iconst (v := 1) hx hb dL_law_952 (by decide) ?_
  refine lv_iadd hx hb dL_law_953 ?_
  refine lv_topi (fun z_1 ez_1 => ?_)
  try have iz_1 : z_1.toInt = i.toInt + (1 : Int) := by rw [ez_1]; exact tl_addN i 1 rfl rfl (by omega) (by omega)
  refine va_sld hx hb hX hbl hbA hS (tl_in (by omega) (by omega)) dL_law_954 ?_
  refine lv_topi (fun z_2 ez_2 => ?_)
  refine lv_aload_n hx hb dL_law_955 rfl (lv_at hl 3 rfl) ?_
  refine lv_iload_n hx hb dL_law_956 rfl (lv_at hl 0 rfl) ?_
  refine lv_iconst (v := 2) hx hb dL_law_957 (by decide) ?_
  refine lv_iadd hx hb dL_law_958 ?_
  refine lv_topi (fun z_3 ez_3 => ?_)
  try have iz_3 : z_3.toInt = i.toInt + (2 : Int) := by rw [ez_3]; exact tl_addN i 2 rfl rfl (by omega) (by omega)
  refine va_sld hx hb hX hbl hbA hS (tl_in (by omega) (by omega)) dL_law_959 ?_
  refine lv_topi (fun z_4 ez_4 => ?_)
  refine lv_aload_n hx hb dL_law_960 rfl (lv_at hl 3 rfl) ?_
  refine lv_iload_n hx hb dL_law_961 rfl (lv_at hl 0 rfl) ?_
  refine lv_iconst (v := 3) hx hb dL_law_962 (by decide) ?_
  refine lv_iadd hx hb dL_law_963 ?_
  refine lv_topi (fun z_5 ez_5 => ?_)
  try have iz_5 : z_5.toInt = i.toInt + (3 : Int) := by rw [ez_5]; exact tl_addN i 3 rfl rfl (by omega) (by omega)
  refine va_sld hx hb hX hbl hbA hS (tl_in (by omega) (by omega)) dL_law_964 ?_
  refine lv_topi (fun z_6 ez_6 => ?_)
  refine lv_aload_n hx hb dL_law_965 rfl (lv_at hl 3 rfl) ?_
  refine lv_iload_n hx hb dL_law_966 rfl (lv_at hl 0 rfl) ?_
  refine lv_iconst (v := 4) hx hb dL_law_967 (by decide) ?_
  refine lv_iadd hx hb dL_law_968 ?_
  refine lv_topi (fun z_7 ez_7 => ?_)
  try have iz_7 : z_7.toInt = i.toInt + (4 : Int) := by rw [ez_7]; exact tl_addN i 4 rfl rfl (by omega) (by omega)
  refine va_sld hx hb hX hbl hbA hS (tl_in (by omega) (by omega)) dL_law_969 ?_
  refine lv_topi (fun z_8 ez_8 => ?_)
  obtain ⟨x_10, x_11, x_12, x_13, x_14, x_15, x_16, x_17, x_18, x_19, x_20, x_21, x_22, x_23, x_24, x_25, hf_9, hx_10, hx_11, hx_12, hx_13, hx_14, hx_15, hx_16, hx_17, hx_18, hx_19, hx_20, hx_21, hx_22, hx_23, hx_24, hx_25⟩ := (show tp_o_X L K (0) 0 (Γ (0, 0, 0)) (f xq) from hI.at hxq)
  refine tq_cl hS (hAf _ hS.1) (tq_rV (As := [.int z_2, .int z_4, .int z_6, .int z_8]) (rest := []) ⟨hx, hb, hml, hown, hta⟩ (tp_P.pre hK hN hL hU hI hP) (tp_recv hK hP hxq.1 hf_9 rfl) lk_L_88 (t_X11_best l D cy H.size L K Γ f xq z_2 z_4 z_6 z_8 hxq) rfl rfl ⟨Nat.le_of_ble_eq_true rfl, Nat.le_of_ble_eq_true rfl⟩ rfl hl.1 rfl (Nat.le_of_ble_eq_true rfl) dL_law_970 ⟨by rw [hRc]; omega, by rw [hRs]; omega⟩) (fun r_27 f_28 H locs hw_26 hP hI hc_29 hS => ?_)
  have hD : va_D A (va_pl L f_28) := tp_D hL hAL
  have hf_30 := (tp_un hc_29 hxq (by decide)).trans hf_9
  refine lv_pop2_2 hx hb dL_law_973 rfl ?_
  refine lv_aload_n hx hb dL_law_974 rfl (lv_at hl 1 rfl) ?_
  refine lv_aload_n hx hb dL_law_975 rfl (lv_at hl 3 rfl) ?_
  refine lv_iload_n hx hb dL_law_976 rfl (lv_at hl 0 rfl) ?_
  refine lv_iconst (v := 1) hx hb dL_law_977 (by decide) ?_
  refine lv_iadd hx hb dL_law_978 ?_
  refine lv_topi (fun z_31 ez_31 => ?_)
  obtain rfl : z_1 = z_31 := ez_1.trans ez_31.symm
  refine va_sld hx hb hX hbl hbA hS (tl_in (by omega) (by omega)) dL_law_979 ?_
  refine lv_topi (fun z_32 ez_32 => ?_)
  obtain rfl : z_2 = z_32 := ez_2.trans ez_32.symm
  refine lv_aload_n hx hb dL_law_980 rfl (lv_at hl 3 rfl) ?_
  refine lv_iload_n hx hb dL_law_981 rfl (lv_at hl 0 rfl) ?_
  refine lv_iconst (v := 2) hx hb dL_law_982 (by decide) ?_
  refine lv_iadd hx hb dL_law_983 ?_
  refine lv_topi (fun z_33 ez_33 => ?_)
  obtain rfl : z_3 = z_33 := ez_3.trans ez_33.symm
  refine va_sld hx hb hX hbl hbA hS (tl_in (by omega) (by omega)) dL_law_984 ?_
  refine lv_topi (fun z_34 ez_34 => ?_)
  obtain rfl : z_4 = z_34 := ez_4.trans ez_34.symm
  refine lv_aload_n hx hb dL_law_985 rfl (lv_at hl 3 rfl) ?_
  refine lv_iload_n hx hb dL_law_986 rfl (lv_at hl 0 rfl) ?_
  refine lv_iconst (v := 3) hx hb dL_law_987 (by decide) ?_
  refine lv_iadd hx hb dL_law_988 ?_
  refine lv_topi (fun z_35 ez_35 => ?_)
  obtain rfl : z_5 = z_35 := ez_5.trans ez_35.symm
  refine va_sld hx hb hX hbl hbA hS (tl_in (by omega) (by omega)) dL_law_989 ?_
  refine lv_topi (fun z_36 ez_36 => ?_)
  obtain rfl : z_6 = z_36 := ez_6.trans ez_36.symm
  refine lv_aload_n hx hb dL_law_990 rfl (lv_at hl 3 rfl) ?_
  refine lv_iload_n hx hb dL_law_991 rfl (lv_at hl 0 rfl) ?_
  refine lv_iconst (v := 4) hx hb dL_law_992 (by decide) ?_
  refine lv_iadd hx hb dL_law_993 ?_
  refine lv_topi (fun z_37 ez_37 => ?_)
  obtain rfl : z_7 = z_37 := ez_7.trans ez_37.symm
  refine va_sld hx hb hX hbl hbA hS (tl_in (by omega) (by omega)) dL_law_994 ?_
  refine lv_topi (fun z_38 ez_38 => ?_)
  obtain rfl : z_8 = z_38 := ez_8.trans ez_38.symm
  obtain ⟨r_40, v_41, q_42, hf_39, hr_43, hv_44⟩ := (show tp_o_M L K 0 0 (Γ (39, 0, 0)) (f_28 mq) from hI.at hmq)
  refine tq_clR hS (hAf _ hS.1) (tq_rV (As := [.int z_2, .int z_4, .int z_6, .int z_8]) (rest := []) ⟨hx, hb, hml, hown, hta⟩ (tp_P.pre hK hN hL hU hI hP) (tp_recv hK hP hmq.1 hf_39 rfl) lk_L_92 (r_X12_best l D cy H.size L K Γ f_28 mq z_2 z_4 z_6 z_8 hmq (by first | omega | (simp only [Int32.toInt_toInt64]; omega) | decide | assumption) (by first | omega | (simp only [Int32.toInt_toInt64]; omega) | decide | assumption)) rfl rfl ⟨Nat.le_of_ble_eq_true rfl, Nat.le_of_ble_eq_true rfl⟩ rfl hl.1 rfl (Nat.le_of_ble_eq_true rfl) dL_law_995 ⟨by rw [hRc]; omega, by rw [hRs]; omega⟩) (fun r_46 f_47 Γ_49 H locs hw_45 hP hI hc_48 hcg_50 hS => ?_)
  have hD : va_D A (va_pl L f_47) := tp_D hL hAL
  have hf_51 := (tp_un hc_48 hxq (by decide)).trans hf_30
  have hw_45 : Γ_49 (39, 0, 0) 0 = Γ (39, 0, 0) 0 := hw_45
  have hlq9 : lq Γ_49 := hlq.quiet hcg_50 (by decide) (by omega)
  have hfree9 : ∀ j : Nat, Γ_49 (12, 4, 0) j = 0 → ∀ a ∈ L, ¬ (K a).2.2 = j + 1 := fun j q a ha => hfree j (by rw [← (hcg_50 (12, 4, 0) (by decide)).trans hIM]; exact q) a ha
  refine lv_pop2_2 hx hb dL_law_998 rfl ?_
  refine lv_goto (tgt := 2005) hx hb dL_law_999 (by decide) ?_
  exact W.widen (k := cells + 41) (n := slots + 8199) (by omega) (by omega) (kk L K Γ_49 f_47 H locs ls ⟨hP, hI, hL, hU, hAL, hS, hxq, hmq, hlq9, hfree9⟩ (lv_sub hl [0, 1, 2, 3] rfl))
set_option maxHeartbeats 4000000 in
set_option maxRecDepth 100000 in
theorem tl_law_18 {p : Program} {e : Env} {s : State} {m : MethodId} {below : List Frame} {meth : Method} {c : Code} (l : Launch) {b N : Nat} {xs : Nat → Int32} (C0 : lw_At p s m meth c b N xs) (D : va_G) (cy : Nat → ClassId) (hK : va_K D vwCl (tl_T cy) s) (hN : tl_ok s) (Z : ts_Y) {A : Nat → Prop} (hAe : A = fun q : Nat => s.heap.size ≤ q) (hZ : ts_Z A Z s s.heap) (xq mq : Nat) (i : Int32) (hi : 0 ≤ i.toInt ∧ i.toInt + 7 ≤ N ∧ N ≤ 3584) {cells slots : Nat} (hcs : cells + 41 ≤ 600000 ∧ slots + 8199 ≤ 7302249) {L : List Nat} {K : Nat → tk_K} {Γ : tk_G} {f : Nat → va_E} {H : Heap} {locs : List Loc} {ls : Array Slot} (S : lq_S D cy A s L K Γ f H locs xq mq) (hl : lv_has ls 4 [(3, .int i), (2, .ref mq), (1, .ref xq), (0, .ref b)]) (kk : ∀ (L : List Nat) (K : Nat → tk_K) (Γ : tk_G) (f : Nat → va_E) (H : Heap) (locs : List Loc) (ls : Array Slot), lq_S D cy A s L K Γ f H locs xq mq → lv_has ls 4 [(3, .int i), (2, .ref mq), (1, .ref xq), (0, .ref b)] → W p l e room_1 s m #[Value.ref b] below meth c H locs (cells + 41) (slots + 8199) (lw_Z below #[Value.ref b] s) (F0 m 2005 ls [])) : W p l e room_1 s m #[Value.ref b] below meth c H locs cells slots (lw_Z below #[Value.ref b] s) (F0 m 1002 ls []) := by
  obtain ⟨hx, hb, hr, hml, hown, hts, hX, hbl, hlocks, hgv⟩ := id C0
  obtain ⟨hP, hI, hL, hU, hAL, hS, hxq, hmq, hlq, hfree⟩ := S
  have hta : ∀ w ∈ tl_L, w.before #[Value.ref b] s = true := fun w h => hts w (List.mem_filter.mp h).1
  have hA : ∀ q : Nat, s.heap.size ≤ q → A q := fun q h => by rw [hAe]; exact h
  have hbA : ¬ A b := by rw [hAe]; exact Nat.not_le.mpr hbl
  have hAf : ∀ (H : Heap), s.heap.size ≤ H.size → ∀ q, tp_A L H.size q → A q := fun H h q hq => hq.elim (hAL q) (fun h2 => hA q (Nat.le_trans h h2))
  have hRc : room_1.cells = 600000 := rfl
  have hRs : room_1.slots = 7302249 := rfl
  have hI0 := hI
  have hD : va_D A (va_pl L f) := tp_D hL hAL
  have htx := hlq.2.2.2.2.1
  have hsd := hlq.2.2.1
  have hs := ts_hs hsd
  have hraw := ts_raw hsd
  have hslp := ts_slp hsd
  have hdp := ts_dp hsd
  have hm0 := hlq.2.2.2.2.2
  have hIM : Γ (12, 4, 0) = Γ (12, 4, 0) := rfl
  refine lv_aload_n hx hb dL_law_1002 rfl (lv_at hl 2 rfl) ?_
  refine lv_aload_n hx hb dL_law_1003 rfl (lv_at hl 3 rfl) ?_
  refine lv_iload_n hx hb dL_law_1004 rfl (lv_at hl 0 rfl) ?_
  refine lv_iconst (v := 1) hx hb dL_law_1005 (by decide) ?_
  refine lv_iadd hx hb dL_law_1006 ?_
  refine lv_topi (fun z_1 ez_1 => ?_)
  try have iz_1 : z_1.toInt = i.toInt + (1 : Int) := by rw [ez_1]; exact tl_addN i 1 rfl rfl (by omega) (by omega)
  refine va_sld hx hb hX hbl hbA hS (tl_in (by omega) (by omega)) dL_law_1007 ?_
  refine lv_topi (fun z_2 ez_2 => ?_)
  refine lv_aload_n hx hb dL_law_1008 rfl (lv_at hl 3 rfl) ?_
  refine lv_iload_n hx hb dL_law_1009 rfl (lv_at hl 0 rfl) ?_
  refine lv_iconst (v := 2) hx hb dL_law_1010 (by decide) ?_
  refine lv_iadd hx hb dL_law_1011 ?_
  refine lv_topi (fun z_3 ez_3 => ?_)
  try have iz_3 : z_3.toInt = i.toInt + (2 : Int) := by rw [ez_3]; exact tl_addN i 2 rfl rfl (by omega) (by omega)
  refine va_sld hx hb hX hbl hbA hS (tl_in (by omega) (by omega)) dL_law_1012 ?_
  refine lv_topi (fun z_4 ez_4 => ?_)
  refine lv_aload_n hx hb dL_law_1013 rfl (lv_at hl 3 rfl) ?_
  refine lv_iload_n hx hb dL_law_1014 rfl (lv_at hl 0 rfl) ?_
  refine lv_iconst (v := 3) hx hb dL_law_1015 (by decide) ?_
  refine lv_iadd hx hb dL_law_1016 ?_
  refine lv_topi (fun z_5 ez_5 => ?_)
  try have iz_5 : z_5.toInt = i.toInt + (3 : Int) := by rw [ez_5]; exact tl_addN i 3 rfl rfl (by omega) (by omega)
  refine va_sld hx hb hX hbl hbA hS (tl_in (by omega) (by omega)) dL_law_1017 ?_
  refine lv_topi (fun z_6 ez_6 => ?_)
  refine lv_aload_n hx hb dL_law_1018 rfl (lv_at hl 3 rfl) ?_
  refine lv_iload_n hx hb dL_law_1019 rfl (lv_at hl 0 rfl) ?_
  refine lv_iconst (v := 4) hx hb dL_law_1020 (by decide) ?_
  refine lv_iadd hx hb dL_law_1021 ?_
  refine lv_topi (fun z_7 ez_7 => ?_)
  try have iz_7 : z_7.toInt = i.toInt + (4 : Int) := by rw [ez_7]; exact tl_addN i 4 rfl rfl (by omega) (by omega)
  refine va_sld hx hb hX hbl hbA hS (tl_in (by omega) (by omega)) dL_law_1022 ?_
  refine lv_topi (fun z_8 ez_8 => ?_)
  obtain ⟨x_10, x_11, x_12, x_13, x_14, x_15, x_16, x_17, x_18, x_19, x_20, x_21, x_22, x_23, x_24, x_25, hf_9, hx_10, hx_11, hx_12, hx_13, hx_14, hx_15, hx_16, hx_17, hx_18, hx_19, hx_20, hx_21, hx_22, hx_23, hx_24, hx_25⟩ := (show tp_o_X L K (0) 0 (Γ (0, 0, 0)) (f xq) from hI.at hxq)
  refine tq_ci hS (hAf _ hS.1) (tq_rV (As := [.int z_2, .int z_4, .int z_6, .int z_8]) (rest := []) ⟨hx, hb, hml, hown, hta⟩ (tp_P.pre hK hN hL hU hI hP) (tp_recv hK hP hxq.1 hf_9 rfl) lk_L_93 (t_X11_taken l D cy H.size L K Γ f xq z_2 z_4 z_6 z_8 hxq) rfl rfl ⟨Nat.le_of_ble_eq_true rfl, Nat.le_of_ble_eq_true rfl⟩ rfl hl.1 rfl (Nat.le_of_ble_eq_true rfl) dL_law_1023 ⟨by rw [hRc]; omega, by rw [hRs]; omega⟩) (fun r_27 f_28 H locs hw_26 hP hI hc_29 hS => ?_)
  have hD : va_D A (va_pl L f_28) := tp_D hL hAL
  have hf_30 := (tp_un hc_29 hxq (by decide)).trans hf_9
  refine lv_pop hx hb dL_law_1026 rfl ?_
  refine lv_aload_n hx hb dL_law_1027 rfl (lv_at hl 1 rfl) ?_
  refine lv_aload_n hx hb dL_law_1028 rfl (lv_at hl 3 rfl) ?_
  refine lv_iload_n hx hb dL_law_1029 rfl (lv_at hl 0 rfl) ?_
  refine lv_iconst (v := 1) hx hb dL_law_1030 (by decide) ?_
  refine lv_iadd hx hb dL_law_1031 ?_
  refine lv_topi (fun z_31 ez_31 => ?_)
  obtain rfl : z_1 = z_31 := ez_1.trans ez_31.symm
  refine va_sld hx hb hX hbl hbA hS (tl_in (by omega) (by omega)) dL_law_1032 ?_
  refine lv_topi (fun z_32 ez_32 => ?_)
  obtain rfl : z_2 = z_32 := ez_2.trans ez_32.symm
  refine lv_aload_n hx hb dL_law_1033 rfl (lv_at hl 3 rfl) ?_
  refine lv_iload_n hx hb dL_law_1034 rfl (lv_at hl 0 rfl) ?_
  refine lv_iconst (v := 2) hx hb dL_law_1035 (by decide) ?_
  refine lv_iadd hx hb dL_law_1036 ?_
  refine lv_topi (fun z_33 ez_33 => ?_)
  obtain rfl : z_3 = z_33 := ez_3.trans ez_33.symm
  refine va_sld hx hb hX hbl hbA hS (tl_in (by omega) (by omega)) dL_law_1037 ?_
  refine lv_topi (fun z_34 ez_34 => ?_)
  obtain rfl : z_4 = z_34 := ez_4.trans ez_34.symm
  refine lv_aload_n hx hb dL_law_1038 rfl (lv_at hl 3 rfl) ?_
  refine lv_iload_n hx hb dL_law_1039 rfl (lv_at hl 0 rfl) ?_
  refine lv_iconst (v := 3) hx hb dL_law_1040 (by decide) ?_
  refine lv_iadd hx hb dL_law_1041 ?_
  refine lv_topi (fun z_35 ez_35 => ?_)
  obtain rfl : z_5 = z_35 := ez_5.trans ez_35.symm
  refine va_sld hx hb hX hbl hbA hS (tl_in (by omega) (by omega)) dL_law_1042 ?_
  refine lv_topi (fun z_36 ez_36 => ?_)
  obtain rfl : z_6 = z_36 := ez_6.trans ez_36.symm
  refine lv_aload_n hx hb dL_law_1043 rfl (lv_at hl 3 rfl) ?_
  refine lv_iload_n hx hb dL_law_1044 rfl (lv_at hl 0 rfl) ?_
  refine lv_iconst (v := 4) hx hb dL_law_1045 (by decide) ?_
  refine lv_iadd hx hb dL_law_1046 ?_
  refine lv_topi (fun z_37 ez_37 => ?_)
  obtain rfl : z_7 = z_37 := ez_7.trans ez_37.symm
  refine va_sld hx hb hX hbl hbA hS (tl_in (by omega) (by omega)) dL_law_1047 ?_
  refine lv_topi (fun z_38 ez_38 => ?_)
  obtain rfl : z_8 = z_38 := ez_8.trans ez_38.symm
  obtain ⟨r_40, v_41, q_42, hf_39, hr_43, hv_44⟩ := (show tp_o_M L K 0 0 (Γ (39, 0, 0)) (f_28 mq) from hI.at hmq)
  refine tq_ciR hS (hAf _ hS.1) (tq_rV (As := [.int z_2, .int z_4, .int z_6, .int z_8]) (rest := []) ⟨hx, hb, hml, hown, hta⟩ (tp_P.pre hK hN hL hU hI hP) (tp_recv hK hP hmq.1 hf_39 rfl) lk_L_96 (r_X12_taken l D cy H.size L K Γ f_28 mq z_2 z_4 z_6 z_8 hmq (by first | omega | (simp only [Int32.toInt_toInt64]; omega) | decide | assumption) (by first | omega | (simp only [Int32.toInt_toInt64]; omega) | decide | assumption)) rfl rfl ⟨Nat.le_of_ble_eq_true rfl, Nat.le_of_ble_eq_true rfl⟩ rfl hl.1 rfl (Nat.le_of_ble_eq_true rfl) dL_law_1048 ⟨by rw [hRc]; omega, by rw [hRs]; omega⟩) (fun r_46 f_47 Γ_49 H locs hw_45 hP hI hc_48 hcg_50 hS => ?_)
  have hD : va_D A (va_pl L f_47) := tp_D hL hAL
  have hf_51 := (tp_un hc_48 hxq (by decide)).trans hf_30
  have hw_45 : Γ_49 (39, 0, 0) 0 = Γ (39, 0, 0) 0 := hw_45
  have hlq9 : lq Γ_49 := hlq.quiet hcg_50 (by decide) (by omega)
  have hfree9 : ∀ j : Nat, Γ_49 (12, 4, 0) j = 0 → ∀ a ∈ L, ¬ (K a).2.2 = j + 1 := fun j q a ha => hfree j (by rw [← (hcg_50 (12, 4, 0) (by decide)).trans hIM]; exact q) a ha
  refine lv_pop hx hb dL_law_1051 rfl ?_
  refine lv_goto (tgt := 2005) hx hb dL_law_1052 (by decide) ?_
  exact W.widen (k := cells + 41) (n := slots + 8199) (by omega) (by omega) (kk L K Γ_49 f_47 H locs ls ⟨hP, hI, hL, hU, hAL, hS, hxq, hmq, hlq9, hfree9⟩ (lv_sub hl [0, 1, 2, 3] rfl))
set_option maxHeartbeats 4000000 in
set_option maxRecDepth 100000 in
theorem tl_law_19 {p : Program} {e : Env} {s : State} {m : MethodId} {below : List Frame} {meth : Method} {c : Code} (l : Launch) {b N : Nat} {xs : Nat → Int32} (C0 : lw_At p s m meth c b N xs) (D : va_G) (cy : Nat → ClassId) (hK : va_K D vwCl (tl_T cy) s) (hN : tl_ok s) (Z : ts_Y) {A : Nat → Prop} (hAe : A = fun q : Nat => s.heap.size ≤ q) (hZ : ts_Z A Z s s.heap) (xq mq : Nat) (i : Int32) (hi : 0 ≤ i.toInt ∧ i.toInt + 7 ≤ N ∧ N ≤ 3584) {cells slots : Nat} (hcs : cells + 41 ≤ 600000 ∧ slots + 8199 ≤ 7302249) {L : List Nat} {K : Nat → tk_K} {Γ : tk_G} {f : Nat → va_E} {H : Heap} {locs : List Loc} {ls : Array Slot} (S : lq_S D cy A s L K Γ f H locs xq mq) (hl : lv_has ls 4 [(3, .int i), (2, .ref mq), (1, .ref xq), (0, .ref b)]) (kk : ∀ (L : List Nat) (K : Nat → tk_K) (Γ : tk_G) (f : Nat → va_E) (H : Heap) (locs : List Loc) (ls : Array Slot), lq_S D cy A s L K Γ f H locs xq mq → lv_has ls 4 [(3, .int i), (2, .ref mq), (1, .ref xq), (0, .ref b)] → W p l e room_1 s m #[Value.ref b] below meth c H locs (cells + 41) (slots + 8199) (lw_Z below #[Value.ref b] s) (F0 m 2005 ls [])) : W p l e room_1 s m #[Value.ref b] below meth c H locs cells slots (lw_Z below #[Value.ref b] s) (F0 m 1055 ls []) := by
  obtain ⟨hx, hb, hr, hml, hown, hts, hX, hbl, hlocks, hgv⟩ := id C0
  obtain ⟨hP, hI, hL, hU, hAL, hS, hxq, hmq, hlq, hfree⟩ := S
  have hta : ∀ w ∈ tl_L, w.before #[Value.ref b] s = true := fun w h => hts w (List.mem_filter.mp h).1
  have hA : ∀ q : Nat, s.heap.size ≤ q → A q := fun q h => by rw [hAe]; exact h
  have hbA : ¬ A b := by rw [hAe]; exact Nat.not_le.mpr hbl
  have hAf : ∀ (H : Heap), s.heap.size ≤ H.size → ∀ q, tp_A L H.size q → A q := fun H h q hq => hq.elim (hAL q) (fun h2 => hA q (Nat.le_trans h h2))
  have hRc : room_1.cells = 600000 := rfl
  have hRs : room_1.slots = 7302249 := rfl
  have hI0 := hI
  have hD : va_D A (va_pl L f) := tp_D hL hAL
  have htx := hlq.2.2.2.2.1
  have hsd := hlq.2.2.1
  have hs := ts_hs hsd
  have hraw := ts_raw hsd
  have hslp := ts_slp hsd
  have hdp := ts_dp hsd
  have hm0 := hlq.2.2.2.2.2
  have hIM : Γ (12, 4, 0) = Γ (12, 4, 0) := rfl
  refine lv_aload_n hx hb dL_law_1055 rfl (lv_at hl 2 rfl) ?_
  refine lv_aload_n hx hb dL_law_1056 rfl (lv_at hl 3 rfl) ?_
  refine lv_iload_n hx hb dL_law_1057 rfl (lv_at hl 0 rfl) ?_
  refine lv_iconst (v := 1) hx hb dL_law_1058 (by decide) ?_
  refine lv_iadd hx hb dL_law_1059 ?_
  refine lv_topi (fun z_1 ez_1 => ?_)
  try have iz_1 : z_1.toInt = i.toInt + (1 : Int) := by rw [ez_1]; exact tl_addN i 1 rfl rfl (by omega) (by omega)
  refine va_sld hx hb hX hbl hbA hS (tl_in (by omega) (by omega)) dL_law_1060 ?_
  refine lv_topi (fun z_2 ez_2 => ?_)
  refine lv_aload_n hx hb dL_law_1061 rfl (lv_at hl 3 rfl) ?_
  refine lv_iload_n hx hb dL_law_1062 rfl (lv_at hl 0 rfl) ?_
  refine lv_iconst (v := 2) hx hb dL_law_1063 (by decide) ?_
  refine lv_iadd hx hb dL_law_1064 ?_
  refine lv_topi (fun z_3 ez_3 => ?_)
  try have iz_3 : z_3.toInt = i.toInt + (2 : Int) := by rw [ez_3]; exact tl_addN i 2 rfl rfl (by omega) (by omega)
  refine va_sld hx hb hX hbl hbA hS (tl_in (by omega) (by omega)) dL_law_1065 ?_
  refine lv_topi (fun z_4 ez_4 => ?_)
  refine lv_aload_n hx hb dL_law_1066 rfl (lv_at hl 3 rfl) ?_
  refine lv_iload_n hx hb dL_law_1067 rfl (lv_at hl 0 rfl) ?_
  refine lv_iconst (v := 3) hx hb dL_law_1068 (by decide) ?_
  refine lv_iadd hx hb dL_law_1069 ?_
  refine lv_topi (fun z_5 ez_5 => ?_)
  try have iz_5 : z_5.toInt = i.toInt + (3 : Int) := by rw [ez_5]; exact tl_addN i 3 rfl rfl (by omega) (by omega)
  refine va_sld hx hb hX hbl hbA hS (tl_in (by omega) (by omega)) dL_law_1070 ?_
  refine lv_topi (fun z_6 ez_6 => ?_)
  obtain ⟨x_8, x_9, x_10, x_11, x_12, x_13, x_14, x_15, x_16, x_17, x_18, x_19, x_20, x_21, x_22, x_23, hf_7, hx_8, hx_9, hx_10, hx_11, hx_12, hx_13, hx_14, hx_15, hx_16, hx_17, hx_18, hx_19, hx_20, hx_21, hx_22, hx_23⟩ := (show tp_o_X L K (0) 0 (Γ (0, 0, 0)) (f xq) from hI.at hxq)
  refine tq_ci hS (hAf _ hS.1) (tq_rV (As := [.int z_2, .int z_4, .int z_6]) (rest := []) ⟨hx, hb, hml, hown, hta⟩ (tp_P.pre hK hN hL hU hI hP) (tp_recv hK hP hxq.1 hf_7 rfl) lk_L_97 (t_X11_apart l D cy H.size L K Γ f xq z_2 z_4 z_6 hxq) rfl rfl ⟨Nat.le_of_ble_eq_true rfl, Nat.le_of_ble_eq_true rfl⟩ rfl hl.1 rfl (Nat.le_of_ble_eq_true rfl) dL_law_1071 ⟨by rw [hRc]; omega, by rw [hRs]; omega⟩) (fun r_25 f_26 H locs hw_24 hP hI hc_27 hS => ?_)
  have hD : va_D A (va_pl L f_26) := tp_D hL hAL
  have hf_28 := (tp_un hc_27 hxq (by decide)).trans hf_7
  refine lv_pop hx hb dL_law_1074 rfl ?_
  refine lv_aload_n hx hb dL_law_1075 rfl (lv_at hl 1 rfl) ?_
  refine lv_aload_n hx hb dL_law_1076 rfl (lv_at hl 3 rfl) ?_
  refine lv_iload_n hx hb dL_law_1077 rfl (lv_at hl 0 rfl) ?_
  refine lv_iconst (v := 1) hx hb dL_law_1078 (by decide) ?_
  refine lv_iadd hx hb dL_law_1079 ?_
  refine lv_topi (fun z_29 ez_29 => ?_)
  obtain rfl : z_1 = z_29 := ez_1.trans ez_29.symm
  refine va_sld hx hb hX hbl hbA hS (tl_in (by omega) (by omega)) dL_law_1080 ?_
  refine lv_topi (fun z_30 ez_30 => ?_)
  obtain rfl : z_2 = z_30 := ez_2.trans ez_30.symm
  refine lv_aload_n hx hb dL_law_1081 rfl (lv_at hl 3 rfl) ?_
  refine lv_iload_n hx hb dL_law_1082 rfl (lv_at hl 0 rfl) ?_
  refine lv_iconst (v := 2) hx hb dL_law_1083 (by decide) ?_
  refine lv_iadd hx hb dL_law_1084 ?_
  refine lv_topi (fun z_31 ez_31 => ?_)
  obtain rfl : z_3 = z_31 := ez_3.trans ez_31.symm
  refine va_sld hx hb hX hbl hbA hS (tl_in (by omega) (by omega)) dL_law_1085 ?_
  refine lv_topi (fun z_32 ez_32 => ?_)
  obtain rfl : z_4 = z_32 := ez_4.trans ez_32.symm
  refine lv_aload_n hx hb dL_law_1086 rfl (lv_at hl 3 rfl) ?_
  refine lv_iload_n hx hb dL_law_1087 rfl (lv_at hl 0 rfl) ?_
  refine lv_iconst (v := 3) hx hb dL_law_1088 (by decide) ?_
  refine lv_iadd hx hb dL_law_1089 ?_
  refine lv_topi (fun z_33 ez_33 => ?_)
  obtain rfl : z_5 = z_33 := ez_5.trans ez_33.symm
  refine va_sld hx hb hX hbl hbA hS (tl_in (by omega) (by omega)) dL_law_1090 ?_
  refine lv_topi (fun z_34 ez_34 => ?_)
  obtain rfl : z_6 = z_34 := ez_6.trans ez_34.symm
  obtain ⟨r_36, v_37, q_38, hf_35, hr_39, hv_40⟩ := (show tp_o_M L K 0 0 (Γ (39, 0, 0)) (f_26 mq) from hI.at hmq)
  refine tq_ciR hS (hAf _ hS.1) (tq_rV (As := [.int z_2, .int z_4, .int z_6]) (rest := []) ⟨hx, hb, hml, hown, hta⟩ (tp_P.pre hK hN hL hU hI hP) (tp_recv hK hP hmq.1 hf_35 rfl) lk_L_100 (r_X12_apart l D cy H.size L K Γ f_26 mq z_2 z_4 z_6 hmq (by first | omega | (simp only [Int32.toInt_toInt64]; omega) | decide | assumption) (by first | omega | (simp only [Int32.toInt_toInt64]; omega) | decide | assumption)) rfl rfl ⟨Nat.le_of_ble_eq_true rfl, Nat.le_of_ble_eq_true rfl⟩ rfl hl.1 rfl (Nat.le_of_ble_eq_true rfl) dL_law_1091 ⟨by rw [hRc]; omega, by rw [hRs]; omega⟩) (fun r_42 f_43 Γ_45 H locs hw_41 hP hI hc_44 hcg_46 hS => ?_)
  have hD : va_D A (va_pl L f_43) := tp_D hL hAL
  have hf_47 := (tp_un hc_44 hxq (by decide)).trans hf_28
  have hw_41 : Γ_45 (39, 0, 0) 0 = Γ (39, 0, 0) 0 := hw_41
  have hlq9 : lq Γ_45 := hlq.quiet hcg_46 (by decide) (by omega)
  have hfree9 : ∀ j : Nat, Γ_45 (12, 4, 0) j = 0 → ∀ a ∈ L, ¬ (K a).2.2 = j + 1 := fun j q a ha => hfree j (by rw [← (hcg_46 (12, 4, 0) (by decide)).trans hIM]; exact q) a ha
  refine lv_pop hx hb dL_law_1094 rfl ?_
  refine lv_goto (tgt := 2005) hx hb dL_law_1095 (by decide) ?_
  exact W.widen (k := cells + 41) (n := slots + 8199) (by omega) (by omega) (kk L K Γ_45 f_43 H locs ls ⟨hP, hI, hL, hU, hAL, hS, hxq, hmq, hlq9, hfree9⟩ (lv_sub hl [0, 1, 2, 3] rfl))
set_option maxHeartbeats 4000000 in
set_option maxRecDepth 100000 in
theorem tl_law_20 {p : Program} {e : Env} {s : State} {m : MethodId} {below : List Frame} {meth : Method} {c : Code} (l : Launch) {b N : Nat} {xs : Nat → Int32} (C0 : lw_At p s m meth c b N xs) (D : va_G) (cy : Nat → ClassId) (hK : va_K D vwCl (tl_T cy) s) (hN : tl_ok s) (Z : ts_Y) {A : Nat → Prop} (hAe : A = fun q : Nat => s.heap.size ≤ q) (hZ : ts_Z A Z s s.heap) (xq mq : Nat) (i : Int32) (hi : 0 ≤ i.toInt ∧ i.toInt + 7 ≤ N ∧ N ≤ 3584) {cells slots : Nat} (hcs : cells + 41 ≤ 600000 ∧ slots + 8199 ≤ 7302249) {L : List Nat} {K : Nat → tk_K} {Γ : tk_G} {f : Nat → va_E} {H : Heap} {locs : List Loc} {ls : Array Slot} (S : lq_S D cy A s L K Γ f H locs xq mq) (hl : lv_has ls 4 [(3, .int i), (2, .ref mq), (1, .ref xq), (0, .ref b)]) (kk : ∀ (L : List Nat) (K : Nat → tk_K) (Γ : tk_G) (f : Nat → va_E) (H : Heap) (locs : List Loc) (ls : Array Slot), lq_S D cy A s L K Γ f H locs xq mq → lv_has ls 4 [(3, .int i), (2, .ref mq), (1, .ref xq), (0, .ref b)] → W p l e room_1 s m #[Value.ref b] below meth c H locs (cells + 41) (slots + 8199) (lw_Z below #[Value.ref b] s) (F0 m 2005 ls [])) : W p l e room_1 s m #[Value.ref b] below meth c H locs cells slots (lw_Z below #[Value.ref b] s) (F0 m 1098 ls []) := by
  obtain ⟨hx, hb, hr, hml, hown, hts, hX, hbl, hlocks, hgv⟩ := id C0
  obtain ⟨hP, hI, hL, hU, hAL, hS, hxq, hmq, hlq, hfree⟩ := S
  have hta : ∀ w ∈ tl_L, w.before #[Value.ref b] s = true := fun w h => hts w (List.mem_filter.mp h).1
  have hA : ∀ q : Nat, s.heap.size ≤ q → A q := fun q h => by rw [hAe]; exact h
  have hbA : ¬ A b := by rw [hAe]; exact Nat.not_le.mpr hbl
  have hAf : ∀ (H : Heap), s.heap.size ≤ H.size → ∀ q, tp_A L H.size q → A q := fun H h q hq => hq.elim (hAL q) (fun h2 => hA q (Nat.le_trans h h2))
  have hRc : room_1.cells = 600000 := rfl
  have hRs : room_1.slots = 7302249 := rfl
  have hI0 := hI
  have hD : va_D A (va_pl L f) := tp_D hL hAL
  have htx := hlq.2.2.2.2.1
  have hsd := hlq.2.2.1
  have hs := ts_hs hsd
  have hraw := ts_raw hsd
  have hslp := ts_slp hsd
  have hdp := ts_dp hsd
  have hm0 := hlq.2.2.2.2.2
  have hIM : Γ (12, 4, 0) = Γ (12, 4, 0) := rfl
  refine lv_aload_n hx hb dL_law_1098 rfl (lv_at hl 2 rfl) ?_
  refine lv_aload_n hx hb dL_law_1099 rfl (lv_at hl 3 rfl) ?_
  refine lv_iload_n hx hb dL_law_1100 rfl (lv_at hl 0 rfl) ?_
  refine lv_iconst (v := 1) hx hb dL_law_1101 (by decide) ?_
  refine lv_iadd hx hb dL_law_1102 ?_
  refine lv_topi (fun z_1 ez_1 => ?_)
  try have iz_1 : z_1.toInt = i.toInt + (1 : Int) := by rw [ez_1]; exact tl_addN i 1 rfl rfl (by omega) (by omega)
  refine va_sld hx hb hX hbl hbA hS (tl_in (by omega) (by omega)) dL_law_1103 ?_
  refine lv_topi (fun z_2 ez_2 => ?_)
  refine lv_aload_n hx hb dL_law_1104 rfl (lv_at hl 3 rfl) ?_
  refine lv_iload_n hx hb dL_law_1105 rfl (lv_at hl 0 rfl) ?_
  refine lv_iconst (v := 2) hx hb dL_law_1106 (by decide) ?_
  refine lv_iadd hx hb dL_law_1107 ?_
  refine lv_topi (fun z_3 ez_3 => ?_)
  try have iz_3 : z_3.toInt = i.toInt + (2 : Int) := by rw [ez_3]; exact tl_addN i 2 rfl rfl (by omega) (by omega)
  refine va_sld hx hb hX hbl hbA hS (tl_in (by omega) (by omega)) dL_law_1108 ?_
  refine lv_topi (fun z_4 ez_4 => ?_)
  refine lv_aload_n hx hb dL_law_1109 rfl (lv_at hl 3 rfl) ?_
  refine lv_iload_n hx hb dL_law_1110 rfl (lv_at hl 0 rfl) ?_
  refine lv_iconst (v := 3) hx hb dL_law_1111 (by decide) ?_
  refine lv_iadd hx hb dL_law_1112 ?_
  refine lv_topi (fun z_5 ez_5 => ?_)
  try have iz_5 : z_5.toInt = i.toInt + (3 : Int) := by rw [ez_5]; exact tl_addN i 3 rfl rfl (by omega) (by omega)
  refine va_sld hx hb hX hbl hbA hS (tl_in (by omega) (by omega)) dL_law_1113 ?_
  refine lv_topi (fun z_6 ez_6 => ?_)
  refine lv_aload_n hx hb dL_law_1114 rfl (lv_at hl 3 rfl) ?_
  refine lv_iload_n hx hb dL_law_1115 rfl (lv_at hl 0 rfl) ?_
  refine lv_iconst (v := 4) hx hb dL_law_1116 (by decide) ?_
  refine lv_iadd hx hb dL_law_1117 ?_
  refine lv_topi (fun z_7 ez_7 => ?_)
  try have iz_7 : z_7.toInt = i.toInt + (4 : Int) := by rw [ez_7]; exact tl_addN i 4 rfl rfl (by omega) (by omega)
  refine va_sld hx hb hX hbl hbA hS (tl_in (by omega) (by omega)) dL_law_1118 ?_
  refine lv_topi (fun z_8 ez_8 => ?_)
  obtain ⟨x_10, x_11, x_12, x_13, x_14, x_15, x_16, x_17, x_18, x_19, x_20, x_21, x_22, x_23, x_24, x_25, hf_9, hx_10, hx_11, hx_12, hx_13, hx_14, hx_15, hx_16, hx_17, hx_18, hx_19, hx_20, hx_21, hx_22, hx_23, hx_24, hx_25⟩ := (show tp_o_X L K (0) 0 (Γ (0, 0, 0)) (f xq) from hI.at hxq)
  refine tq_cl hS (hAf _ hS.1) (tq_rV (As := [.int z_2, .int z_4, .int z_6, .int z_8]) (rest := []) ⟨hx, hb, hml, hown, hta⟩ (tp_P.pre hK hN hL hU hI hP) (tp_recv hK hP hxq.1 hf_9 rfl) lk_L_101 (t_X11_stuff l D cy H.size L K Γ f xq z_2 z_4 z_6 z_8 hxq) rfl rfl ⟨Nat.le_of_ble_eq_true rfl, Nat.le_of_ble_eq_true rfl⟩ rfl hl.1 rfl (Nat.le_of_ble_eq_true rfl) dL_law_1119 ⟨by rw [hRc]; omega, by rw [hRs]; omega⟩) (fun r_27 f_28 H locs hw_26 hP hI hc_29 hS => ?_)
  have hD : va_D A (va_pl L f_28) := tp_D hL hAL
  have hf_30 := (tp_un hc_29 hxq (by decide)).trans hf_9
  refine lv_pop2_2 hx hb dL_law_1122 rfl ?_
  refine lv_aload_n hx hb dL_law_1123 rfl (lv_at hl 1 rfl) ?_
  refine lv_aload_n hx hb dL_law_1124 rfl (lv_at hl 3 rfl) ?_
  refine lv_iload_n hx hb dL_law_1125 rfl (lv_at hl 0 rfl) ?_
  refine lv_iconst (v := 1) hx hb dL_law_1126 (by decide) ?_
  refine lv_iadd hx hb dL_law_1127 ?_
  refine lv_topi (fun z_31 ez_31 => ?_)
  obtain rfl : z_1 = z_31 := ez_1.trans ez_31.symm
  refine va_sld hx hb hX hbl hbA hS (tl_in (by omega) (by omega)) dL_law_1128 ?_
  refine lv_topi (fun z_32 ez_32 => ?_)
  obtain rfl : z_2 = z_32 := ez_2.trans ez_32.symm
  refine lv_aload_n hx hb dL_law_1129 rfl (lv_at hl 3 rfl) ?_
  refine lv_iload_n hx hb dL_law_1130 rfl (lv_at hl 0 rfl) ?_
  refine lv_iconst (v := 2) hx hb dL_law_1131 (by decide) ?_
  refine lv_iadd hx hb dL_law_1132 ?_
  refine lv_topi (fun z_33 ez_33 => ?_)
  obtain rfl : z_3 = z_33 := ez_3.trans ez_33.symm
  refine va_sld hx hb hX hbl hbA hS (tl_in (by omega) (by omega)) dL_law_1133 ?_
  refine lv_topi (fun z_34 ez_34 => ?_)
  obtain rfl : z_4 = z_34 := ez_4.trans ez_34.symm
  refine lv_aload_n hx hb dL_law_1134 rfl (lv_at hl 3 rfl) ?_
  refine lv_iload_n hx hb dL_law_1135 rfl (lv_at hl 0 rfl) ?_
  refine lv_iconst (v := 3) hx hb dL_law_1136 (by decide) ?_
  refine lv_iadd hx hb dL_law_1137 ?_
  refine lv_topi (fun z_35 ez_35 => ?_)
  obtain rfl : z_5 = z_35 := ez_5.trans ez_35.symm
  refine va_sld hx hb hX hbl hbA hS (tl_in (by omega) (by omega)) dL_law_1138 ?_
  refine lv_topi (fun z_36 ez_36 => ?_)
  obtain rfl : z_6 = z_36 := ez_6.trans ez_36.symm
  refine lv_aload_n hx hb dL_law_1139 rfl (lv_at hl 3 rfl) ?_
  refine lv_iload_n hx hb dL_law_1140 rfl (lv_at hl 0 rfl) ?_
  refine lv_iconst (v := 4) hx hb dL_law_1141 (by decide) ?_
  refine lv_iadd hx hb dL_law_1142 ?_
  refine lv_topi (fun z_37 ez_37 => ?_)
  obtain rfl : z_7 = z_37 := ez_7.trans ez_37.symm
  refine va_sld hx hb hX hbl hbA hS (tl_in (by omega) (by omega)) dL_law_1143 ?_
  refine lv_topi (fun z_38 ez_38 => ?_)
  obtain rfl : z_8 = z_38 := ez_8.trans ez_38.symm
  obtain ⟨r_40, v_41, q_42, hf_39, hr_43, hv_44⟩ := (show tp_o_M L K 0 0 (Γ (39, 0, 0)) (f_28 mq) from hI.at hmq)
  refine tq_clR hS (hAf _ hS.1) (tq_rV (As := [.int z_2, .int z_4, .int z_6, .int z_8]) (rest := []) ⟨hx, hb, hml, hown, hta⟩ (tp_P.pre hK hN hL hU hI hP) (tp_recv hK hP hmq.1 hf_39 rfl) lk_L_104 (r_X12_stuff l D cy H.size L K Γ f_28 mq z_2 z_4 z_6 z_8 hmq (by first | omega | (simp only [Int32.toInt_toInt64]; omega) | decide | assumption) (by first | omega | (simp only [Int32.toInt_toInt64]; omega) | decide | assumption)) rfl rfl ⟨Nat.le_of_ble_eq_true rfl, Nat.le_of_ble_eq_true rfl⟩ rfl hl.1 rfl (Nat.le_of_ble_eq_true rfl) dL_law_1144 ⟨by rw [hRc]; omega, by rw [hRs]; omega⟩) (fun r_46 f_47 Γ_49 H locs hw_45 hP hI hc_48 hcg_50 hS => ?_)
  have hD : va_D A (va_pl L f_47) := tp_D hL hAL
  have hf_51 := (tp_un hc_48 hxq (by decide)).trans hf_30
  have hw_45 : Γ_49 (39, 0, 0) 0 = Γ (39, 0, 0) 0 := hw_45
  have hlq9 : lq Γ_49 := hlq.quiet hcg_50 (by decide) (by omega)
  have hfree9 : ∀ j : Nat, Γ_49 (12, 4, 0) j = 0 → ∀ a ∈ L, ¬ (K a).2.2 = j + 1 := fun j q a ha => hfree j (by rw [← (hcg_50 (12, 4, 0) (by decide)).trans hIM]; exact q) a ha
  refine lv_pop2_2 hx hb dL_law_1147 rfl ?_
  refine lv_goto (tgt := 2005) hx hb dL_law_1148 (by decide) ?_
  exact W.widen (k := cells + 41) (n := slots + 8199) (by omega) (by omega) (kk L K Γ_49 f_47 H locs ls ⟨hP, hI, hL, hU, hAL, hS, hxq, hmq, hlq9, hfree9⟩ (lv_sub hl [0, 1, 2, 3] rfl))
set_option maxHeartbeats 4000000 in
set_option maxRecDepth 100000 in
theorem tl_law_21 {p : Program} {e : Env} {s : State} {m : MethodId} {below : List Frame} {meth : Method} {c : Code} (l : Launch) {b N : Nat} {xs : Nat → Int32} (C0 : lw_At p s m meth c b N xs) (D : va_G) (cy : Nat → ClassId) (hK : va_K D vwCl (tl_T cy) s) (hN : tl_ok s) (Z : ts_Y) {A : Nat → Prop} (hAe : A = fun q : Nat => s.heap.size ≤ q) (hZ : ts_Z A Z s s.heap) (xq mq : Nat) (i : Int32) (hi : 0 ≤ i.toInt ∧ i.toInt + 7 ≤ N ∧ N ≤ 3584) {cells slots : Nat} (hcs : cells + 41 ≤ 600000 ∧ slots + 8199 ≤ 7302249) {L : List Nat} {K : Nat → tk_K} {Γ : tk_G} {f : Nat → va_E} {H : Heap} {locs : List Loc} {ls : Array Slot} (S : lq_S D cy A s L K Γ f H locs xq mq) (hl : lv_has ls 4 [(3, .int i), (2, .ref mq), (1, .ref xq), (0, .ref b)]) (kk : ∀ (L : List Nat) (K : Nat → tk_K) (Γ : tk_G) (f : Nat → va_E) (H : Heap) (locs : List Loc) (ls : Array Slot), lq_S D cy A s L K Γ f H locs xq mq → lv_has ls 4 [(3, .int i), (2, .ref mq), (1, .ref xq), (0, .ref b)] → W p l e room_1 s m #[Value.ref b] below meth c H locs (cells + 41) (slots + 8199) (lw_Z below #[Value.ref b] s) (F0 m 2005 ls [])) : W p l e room_1 s m #[Value.ref b] below meth c H locs cells slots (lw_Z below #[Value.ref b] s) (F0 m 1151 ls []) := by
  obtain ⟨hx, hb, hr, hml, hown, hts, hX, hbl, hlocks, hgv⟩ := id C0
  obtain ⟨hP, hI, hL, hU, hAL, hS, hxq, hmq, hlq, hfree⟩ := S
  have hta : ∀ w ∈ tl_L, w.before #[Value.ref b] s = true := fun w h => hts w (List.mem_filter.mp h).1
  have hA : ∀ q : Nat, s.heap.size ≤ q → A q := fun q h => by rw [hAe]; exact h
  have hbA : ¬ A b := by rw [hAe]; exact Nat.not_le.mpr hbl
  have hAf : ∀ (H : Heap), s.heap.size ≤ H.size → ∀ q, tp_A L H.size q → A q := fun H h q hq => hq.elim (hAL q) (fun h2 => hA q (Nat.le_trans h h2))
  have hRc : room_1.cells = 600000 := rfl
  have hRs : room_1.slots = 7302249 := rfl
  have hI0 := hI
  have hD : va_D A (va_pl L f) := tp_D hL hAL
  have htx := hlq.2.2.2.2.1
  have hsd := hlq.2.2.1
  have hs := ts_hs hsd
  have hraw := ts_raw hsd
  have hslp := ts_slp hsd
  have hdp := ts_dp hsd
  have hm0 := hlq.2.2.2.2.2
  have hIM : Γ (12, 4, 0) = Γ (12, 4, 0) := rfl
  refine lv_aload_n hx hb dL_law_1151 rfl (lv_at hl 2 rfl) ?_
  refine lv_aload_n hx hb dL_law_1152 rfl (lv_at hl 3 rfl) ?_
  refine lv_iload_n hx hb dL_law_1153 rfl (lv_at hl 0 rfl) ?_
  refine lv_iconst (v := 1) hx hb dL_law_1154 (by decide) ?_
  refine lv_iadd hx hb dL_law_1155 ?_
  refine lv_topi (fun z_1 ez_1 => ?_)
  try have iz_1 : z_1.toInt = i.toInt + (1 : Int) := by rw [ez_1]; exact tl_addN i 1 rfl rfl (by omega) (by omega)
  refine va_sld hx hb hX hbl hbA hS (tl_in (by omega) (by omega)) dL_law_1156 ?_
  refine lv_topi (fun z_2 ez_2 => ?_)
  refine lv_aload_n hx hb dL_law_1157 rfl (lv_at hl 3 rfl) ?_
  refine lv_iload_n hx hb dL_law_1158 rfl (lv_at hl 0 rfl) ?_
  refine lv_iconst (v := 2) hx hb dL_law_1159 (by decide) ?_
  refine lv_iadd hx hb dL_law_1160 ?_
  refine lv_topi (fun z_3 ez_3 => ?_)
  try have iz_3 : z_3.toInt = i.toInt + (2 : Int) := by rw [ez_3]; exact tl_addN i 2 rfl rfl (by omega) (by omega)
  refine va_sld hx hb hX hbl hbA hS (tl_in (by omega) (by omega)) dL_law_1161 ?_
  refine lv_topi (fun z_4 ez_4 => ?_)
  obtain ⟨x_6, x_7, x_8, x_9, x_10, x_11, x_12, x_13, x_14, x_15, x_16, x_17, x_18, x_19, x_20, x_21, hf_5, hx_6, hx_7, hx_8, hx_9, hx_10, hx_11, hx_12, hx_13, hx_14, hx_15, hx_16, hx_17, hx_18, hx_19, hx_20, hx_21⟩ := (show tp_o_X L K (0) 0 (Γ (0, 0, 0)) (f xq) from hI.at hxq)
  refine tq_ci hS (hAf _ hS.1) (tq_rV (As := [.int z_2, .int z_4]) (rest := []) ⟨hx, hb, hml, hown, hta⟩ (tp_P.pre hK hN hL hU hI hP) (tp_recv hK hP hxq.1 hf_5 rfl) lk_L_105 (t_X11_likeliest l D cy H.size L K Γ f xq z_2 z_4 hxq) rfl rfl ⟨Nat.le_of_ble_eq_true rfl, Nat.le_of_ble_eq_true rfl⟩ rfl hl.1 rfl (Nat.le_of_ble_eq_true rfl) dL_law_1162 ⟨by rw [hRc]; omega, by rw [hRs]; omega⟩) (fun r_23 f_24 H locs hw_22 hP hI hc_25 hS => ?_)
  have hD : va_D A (va_pl L f_24) := tp_D hL hAL
  have hf_26 := (tp_un hc_25 hxq (by decide)).trans hf_5
  refine lv_pop hx hb dL_law_1165 rfl ?_
  refine lv_aload_n hx hb dL_law_1166 rfl (lv_at hl 1 rfl) ?_
  refine lv_aload_n hx hb dL_law_1167 rfl (lv_at hl 3 rfl) ?_
  refine lv_iload_n hx hb dL_law_1168 rfl (lv_at hl 0 rfl) ?_
  refine lv_iconst (v := 1) hx hb dL_law_1169 (by decide) ?_
  refine lv_iadd hx hb dL_law_1170 ?_
  refine lv_topi (fun z_27 ez_27 => ?_)
  obtain rfl : z_1 = z_27 := ez_1.trans ez_27.symm
  refine va_sld hx hb hX hbl hbA hS (tl_in (by omega) (by omega)) dL_law_1171 ?_
  refine lv_topi (fun z_28 ez_28 => ?_)
  obtain rfl : z_2 = z_28 := ez_2.trans ez_28.symm
  refine lv_aload_n hx hb dL_law_1172 rfl (lv_at hl 3 rfl) ?_
  refine lv_iload_n hx hb dL_law_1173 rfl (lv_at hl 0 rfl) ?_
  refine lv_iconst (v := 2) hx hb dL_law_1174 (by decide) ?_
  refine lv_iadd hx hb dL_law_1175 ?_
  refine lv_topi (fun z_29 ez_29 => ?_)
  obtain rfl : z_3 = z_29 := ez_3.trans ez_29.symm
  refine va_sld hx hb hX hbl hbA hS (tl_in (by omega) (by omega)) dL_law_1176 ?_
  refine lv_topi (fun z_30 ez_30 => ?_)
  obtain rfl : z_4 = z_30 := ez_4.trans ez_30.symm
  obtain ⟨r_32, v_33, q_34, hf_31, hr_35, hv_36⟩ := (show tp_o_M L K 0 0 (Γ (39, 0, 0)) (f_24 mq) from hI.at hmq)
  refine tq_ciR hS (hAf _ hS.1) (tq_rV (As := [.int z_2, .int z_4]) (rest := []) ⟨hx, hb, hml, hown, hta⟩ (tp_P.pre hK hN hL hU hI hP) (tp_recv hK hP hmq.1 hf_31 rfl) lk_L_108 (r_X12_likeliest l D cy H.size L K Γ f_24 mq z_2 z_4 hmq (by first | omega | (simp only [Int32.toInt_toInt64]; omega) | decide | assumption) (by first | omega | (simp only [Int32.toInt_toInt64]; omega) | decide | assumption)) rfl rfl ⟨Nat.le_of_ble_eq_true rfl, Nat.le_of_ble_eq_true rfl⟩ rfl hl.1 rfl (Nat.le_of_ble_eq_true rfl) dL_law_1177 ⟨by rw [hRc]; omega, by rw [hRs]; omega⟩) (fun r_38 f_39 Γ_41 H locs hw_37 hP hI hc_40 hcg_42 hS => ?_)
  have hD : va_D A (va_pl L f_39) := tp_D hL hAL
  have hf_43 := (tp_un hc_40 hxq (by decide)).trans hf_26
  have hw_37 : Γ_41 (39, 0, 0) 0 = Γ (39, 0, 0) 0 := hw_37
  have hlq9 : lq Γ_41 := hlq.quiet hcg_42 (by decide) (by omega)
  have hfree9 : ∀ j : Nat, Γ_41 (12, 4, 0) j = 0 → ∀ a ∈ L, ¬ (K a).2.2 = j + 1 := fun j q a ha => hfree j (by rw [← (hcg_42 (12, 4, 0) (by decide)).trans hIM]; exact q) a ha
  refine lv_pop hx hb dL_law_1180 rfl ?_
  refine lv_goto (tgt := 2005) hx hb dL_law_1181 (by decide) ?_
  exact W.widen (k := cells + 41) (n := slots + 8199) (by omega) (by omega) (kk L K Γ_41 f_39 H locs ls ⟨hP, hI, hL, hU, hAL, hS, hxq, hmq, hlq9, hfree9⟩ (lv_sub hl [0, 1, 2, 3] rfl))
set_option maxHeartbeats 4000000 in
set_option maxRecDepth 100000 in
theorem tl_law_22 {p : Program} {e : Env} {s : State} {m : MethodId} {below : List Frame} {meth : Method} {c : Code} (l : Launch) {b N : Nat} {xs : Nat → Int32} (C0 : lw_At p s m meth c b N xs) (D : va_G) (cy : Nat → ClassId) (hK : va_K D vwCl (tl_T cy) s) (hN : tl_ok s) (Z : ts_Y) {A : Nat → Prop} (hAe : A = fun q : Nat => s.heap.size ≤ q) (hZ : ts_Z A Z s s.heap) (xq mq : Nat) (i : Int32) (hi : 0 ≤ i.toInt ∧ i.toInt + 7 ≤ N ∧ N ≤ 3584) {cells slots : Nat} (hcs : cells + 41 ≤ 600000 ∧ slots + 8199 ≤ 7302249) {L : List Nat} {K : Nat → tk_K} {Γ : tk_G} {f : Nat → va_E} {H : Heap} {locs : List Loc} {ls : Array Slot} (S : lq_S D cy A s L K Γ f H locs xq mq) (hl : lv_has ls 4 [(3, .int i), (2, .ref mq), (1, .ref xq), (0, .ref b)]) (kk : ∀ (L : List Nat) (K : Nat → tk_K) (Γ : tk_G) (f : Nat → va_E) (H : Heap) (locs : List Loc) (ls : Array Slot), lq_S D cy A s L K Γ f H locs xq mq → lv_has ls 4 [(3, .int i), (2, .ref mq), (1, .ref xq), (0, .ref b)] → W p l e room_1 s m #[Value.ref b] below meth c H locs (cells + 41) (slots + 8199) (lw_Z below #[Value.ref b] s) (F0 m 2005 ls [])) : W p l e room_1 s m #[Value.ref b] below meth c H locs cells slots (lw_Z below #[Value.ref b] s) (F0 m 1184 ls []) := by
  obtain ⟨hx, hb, hr, hml, hown, hts, hX, hbl, hlocks, hgv⟩ := id C0
  obtain ⟨hP, hI, hL, hU, hAL, hS, hxq, hmq, hlq, hfree⟩ := S
  have hta : ∀ w ∈ tl_L, w.before #[Value.ref b] s = true := fun w h => hts w (List.mem_filter.mp h).1
  have hA : ∀ q : Nat, s.heap.size ≤ q → A q := fun q h => by rw [hAe]; exact h
  have hbA : ¬ A b := by rw [hAe]; exact Nat.not_le.mpr hbl
  have hAf : ∀ (H : Heap), s.heap.size ≤ H.size → ∀ q, tp_A L H.size q → A q := fun H h q hq => hq.elim (hAL q) (fun h2 => hA q (Nat.le_trans h h2))
  have hRc : room_1.cells = 600000 := rfl
  have hRs : room_1.slots = 7302249 := rfl
  have hI0 := hI
  have hD : va_D A (va_pl L f) := tp_D hL hAL
  have htx := hlq.2.2.2.2.1
  have hsd := hlq.2.2.1
  have hs := ts_hs hsd
  have hraw := ts_raw hsd
  have hslp := ts_slp hsd
  have hdp := ts_dp hsd
  have hm0 := hlq.2.2.2.2.2
  have hIM : Γ (12, 4, 0) = Γ (12, 4, 0) := rfl
  refine lv_aload_n hx hb dL_law_1184 rfl (lv_at hl 2 rfl) ?_
  refine lv_aload_n hx hb dL_law_1185 rfl (lv_at hl 3 rfl) ?_
  refine lv_iload_n hx hb dL_law_1186 rfl (lv_at hl 0 rfl) ?_
  refine lv_iconst (v := 1) hx hb dL_law_1187 (by decide) ?_
  refine lv_iadd hx hb dL_law_1188 ?_
  refine lv_topi (fun z_1 ez_1 => ?_)
  try have iz_1 : z_1.toInt = i.toInt + (1 : Int) := by rw [ez_1]; exact tl_addN i 1 rfl rfl (by omega) (by omega)
  refine va_sld hx hb hX hbl hbA hS (tl_in (by omega) (by omega)) dL_law_1189 ?_
  refine lv_topi (fun z_2 ez_2 => ?_)
  refine lv_aload_n hx hb dL_law_1190 rfl (lv_at hl 3 rfl) ?_
  refine lv_iload_n hx hb dL_law_1191 rfl (lv_at hl 0 rfl) ?_
  refine lv_iconst (v := 2) hx hb dL_law_1192 (by decide) ?_
  refine lv_iadd hx hb dL_law_1193 ?_
  refine lv_topi (fun z_3 ez_3 => ?_)
  try have iz_3 : z_3.toInt = i.toInt + (2 : Int) := by rw [ez_3]; exact tl_addN i 2 rfl rfl (by omega) (by omega)
  refine va_sld hx hb hX hbl hbA hS (tl_in (by omega) (by omega)) dL_law_1194 ?_
  refine lv_topi (fun z_4 ez_4 => ?_)
  refine lv_aload_n hx hb dL_law_1195 rfl (lv_at hl 3 rfl) ?_
  refine lv_iload_n hx hb dL_law_1196 rfl (lv_at hl 0 rfl) ?_
  refine lv_iconst (v := 3) hx hb dL_law_1197 (by decide) ?_
  refine lv_iadd hx hb dL_law_1198 ?_
  refine lv_topi (fun z_5 ez_5 => ?_)
  try have iz_5 : z_5.toInt = i.toInt + (3 : Int) := by rw [ez_5]; exact tl_addN i 3 rfl rfl (by omega) (by omega)
  refine va_sld hx hb hX hbl hbA hS (tl_in (by omega) (by omega)) dL_law_1199 ?_
  refine lv_topi (fun z_6 ez_6 => ?_)
  refine lv_aload_n hx hb dL_law_1200 rfl (lv_at hl 3 rfl) ?_
  refine lv_iload_n hx hb dL_law_1201 rfl (lv_at hl 0 rfl) ?_
  refine lv_iconst (v := 4) hx hb dL_law_1202 (by decide) ?_
  refine lv_iadd hx hb dL_law_1203 ?_
  refine lv_topi (fun z_7 ez_7 => ?_)
  try have iz_7 : z_7.toInt = i.toInt + (4 : Int) := by rw [ez_7]; exact tl_addN i 4 rfl rfl (by omega) (by omega)
  refine va_sld hx hb hX hbl hbA hS (tl_in (by omega) (by omega)) dL_law_1204 ?_
  refine lv_topi (fun z_8 ez_8 => ?_)
  obtain ⟨x_10, x_11, x_12, x_13, x_14, x_15, x_16, x_17, x_18, x_19, x_20, x_21, x_22, x_23, x_24, x_25, hf_9, hx_10, hx_11, hx_12, hx_13, hx_14, hx_15, hx_16, hx_17, hx_18, hx_19, hx_20, hx_21, hx_22, hx_23, hx_24, hx_25⟩ := (show tp_o_X L K (0) 0 (Γ (0, 0, 0)) (f xq) from hI.at hxq)
  refine tq_ci hS (hAf _ hS.1) (tq_rV (As := [.int z_2, .int z_4, .int z_6, .int z_8]) (rest := []) ⟨hx, hb, hml, hown, hta⟩ (tp_P.pre hK hN hL hU hI hP) (tp_recv hK hP hxq.1 hf_9 rfl) lk_L_109 (t_X11_together l D cy H.size L K Γ f xq z_2 z_4 z_6 z_8 hxq) rfl rfl ⟨Nat.le_of_ble_eq_true rfl, Nat.le_of_ble_eq_true rfl⟩ rfl hl.1 rfl (Nat.le_of_ble_eq_true rfl) dL_law_1205 ⟨by rw [hRc]; omega, by rw [hRs]; omega⟩) (fun r_27 f_28 H locs hw_26 hP hI hc_29 hS => ?_)
  have hD : va_D A (va_pl L f_28) := tp_D hL hAL
  have hf_30 := (tp_un hc_29 hxq (by decide)).trans hf_9
  refine lv_pop hx hb dL_law_1208 rfl ?_
  refine lv_aload_n hx hb dL_law_1209 rfl (lv_at hl 1 rfl) ?_
  refine lv_aload_n hx hb dL_law_1210 rfl (lv_at hl 3 rfl) ?_
  refine lv_iload_n hx hb dL_law_1211 rfl (lv_at hl 0 rfl) ?_
  refine lv_iconst (v := 1) hx hb dL_law_1212 (by decide) ?_
  refine lv_iadd hx hb dL_law_1213 ?_
  refine lv_topi (fun z_31 ez_31 => ?_)
  obtain rfl : z_1 = z_31 := ez_1.trans ez_31.symm
  refine va_sld hx hb hX hbl hbA hS (tl_in (by omega) (by omega)) dL_law_1214 ?_
  refine lv_topi (fun z_32 ez_32 => ?_)
  obtain rfl : z_2 = z_32 := ez_2.trans ez_32.symm
  refine lv_aload_n hx hb dL_law_1215 rfl (lv_at hl 3 rfl) ?_
  refine lv_iload_n hx hb dL_law_1216 rfl (lv_at hl 0 rfl) ?_
  refine lv_iconst (v := 2) hx hb dL_law_1217 (by decide) ?_
  refine lv_iadd hx hb dL_law_1218 ?_
  refine lv_topi (fun z_33 ez_33 => ?_)
  obtain rfl : z_3 = z_33 := ez_3.trans ez_33.symm
  refine va_sld hx hb hX hbl hbA hS (tl_in (by omega) (by omega)) dL_law_1219 ?_
  refine lv_topi (fun z_34 ez_34 => ?_)
  obtain rfl : z_4 = z_34 := ez_4.trans ez_34.symm
  refine lv_aload_n hx hb dL_law_1220 rfl (lv_at hl 3 rfl) ?_
  refine lv_iload_n hx hb dL_law_1221 rfl (lv_at hl 0 rfl) ?_
  refine lv_iconst (v := 3) hx hb dL_law_1222 (by decide) ?_
  refine lv_iadd hx hb dL_law_1223 ?_
  refine lv_topi (fun z_35 ez_35 => ?_)
  obtain rfl : z_5 = z_35 := ez_5.trans ez_35.symm
  refine va_sld hx hb hX hbl hbA hS (tl_in (by omega) (by omega)) dL_law_1224 ?_
  refine lv_topi (fun z_36 ez_36 => ?_)
  obtain rfl : z_6 = z_36 := ez_6.trans ez_36.symm
  refine lv_aload_n hx hb dL_law_1225 rfl (lv_at hl 3 rfl) ?_
  refine lv_iload_n hx hb dL_law_1226 rfl (lv_at hl 0 rfl) ?_
  refine lv_iconst (v := 4) hx hb dL_law_1227 (by decide) ?_
  refine lv_iadd hx hb dL_law_1228 ?_
  refine lv_topi (fun z_37 ez_37 => ?_)
  obtain rfl : z_7 = z_37 := ez_7.trans ez_37.symm
  refine va_sld hx hb hX hbl hbA hS (tl_in (by omega) (by omega)) dL_law_1229 ?_
  refine lv_topi (fun z_38 ez_38 => ?_)
  obtain rfl : z_8 = z_38 := ez_8.trans ez_38.symm
  obtain ⟨r_40, v_41, q_42, hf_39, hr_43, hv_44⟩ := (show tp_o_M L K 0 0 (Γ (39, 0, 0)) (f_28 mq) from hI.at hmq)
  refine tq_ciR hS (hAf _ hS.1) (tq_rV (As := [.int z_2, .int z_4, .int z_6, .int z_8]) (rest := []) ⟨hx, hb, hml, hown, hta⟩ (tp_P.pre hK hN hL hU hI hP) (tp_recv hK hP hmq.1 hf_39 rfl) lk_L_112 (r_X12_together l D cy H.size L K Γ f_28 mq z_2 z_4 z_6 z_8 hmq (by first | omega | (simp only [Int32.toInt_toInt64]; omega) | decide | assumption) (by first | omega | (simp only [Int32.toInt_toInt64]; omega) | decide | assumption)) rfl rfl ⟨Nat.le_of_ble_eq_true rfl, Nat.le_of_ble_eq_true rfl⟩ rfl hl.1 rfl (Nat.le_of_ble_eq_true rfl) dL_law_1230 ⟨by rw [hRc]; omega, by rw [hRs]; omega⟩) (fun r_46 f_47 Γ_49 H locs hw_45 hP hI hc_48 hcg_50 hS => ?_)
  have hD : va_D A (va_pl L f_47) := tp_D hL hAL
  have hf_51 := (tp_un hc_48 hxq (by decide)).trans hf_30
  have hw_45 : Γ_49 (39, 0, 0) 0 = Γ (39, 0, 0) 0 := hw_45
  have hlq9 : lq Γ_49 := hlq.quiet hcg_50 (by decide) (by omega)
  have hfree9 : ∀ j : Nat, Γ_49 (12, 4, 0) j = 0 → ∀ a ∈ L, ¬ (K a).2.2 = j + 1 := fun j q a ha => hfree j (by rw [← (hcg_50 (12, 4, 0) (by decide)).trans hIM]; exact q) a ha
  refine lv_pop hx hb dL_law_1233 rfl ?_
  refine lv_goto (tgt := 2005) hx hb dL_law_1234 (by decide) ?_
  exact W.widen (k := cells + 41) (n := slots + 8199) (by omega) (by omega) (kk L K Γ_49 f_47 H locs ls ⟨hP, hI, hL, hU, hAL, hS, hxq, hmq, hlq9, hfree9⟩ (lv_sub hl [0, 1, 2, 3] rfl))
set_option maxHeartbeats 4000000 in
set_option maxRecDepth 100000 in
theorem tl_law_23 {p : Program} {e : Env} {s : State} {m : MethodId} {below : List Frame} {meth : Method} {c : Code} (l : Launch) {b N : Nat} {xs : Nat → Int32} (C0 : lw_At p s m meth c b N xs) (D : va_G) (cy : Nat → ClassId) (hK : va_K D vwCl (tl_T cy) s) (hN : tl_ok s) (Z : ts_Y) {A : Nat → Prop} (hAe : A = fun q : Nat => s.heap.size ≤ q) (hZ : ts_Z A Z s s.heap) (xq mq : Nat) (i : Int32) (hi : 0 ≤ i.toInt ∧ i.toInt + 7 ≤ N ∧ N ≤ 3584) {cells slots : Nat} (hcs : cells + 41 ≤ 600000 ∧ slots + 8199 ≤ 7302249) {L : List Nat} {K : Nat → tk_K} {Γ : tk_G} {f : Nat → va_E} {H : Heap} {locs : List Loc} {ls : Array Slot} (S : lq_S D cy A s L K Γ f H locs xq mq) (hl : lv_has ls 4 [(3, .int i), (2, .ref mq), (1, .ref xq), (0, .ref b)]) (kk : ∀ (L : List Nat) (K : Nat → tk_K) (Γ : tk_G) (f : Nat → va_E) (H : Heap) (locs : List Loc) (ls : Array Slot), lq_S D cy A s L K Γ f H locs xq mq → lv_has ls 4 [(3, .int i), (2, .ref mq), (1, .ref xq), (0, .ref b)] → W p l e room_1 s m #[Value.ref b] below meth c H locs (cells + 41) (slots + 8199) (lw_Z below #[Value.ref b] s) (F0 m 2005 ls [])) : W p l e room_1 s m #[Value.ref b] below meth c H locs cells slots (lw_Z below #[Value.ref b] s) (F0 m 1237 ls []) := by
  obtain ⟨hx, hb, hr, hml, hown, hts, hX, hbl, hlocks, hgv⟩ := id C0
  obtain ⟨hP, hI, hL, hU, hAL, hS, hxq, hmq, hlq, hfree⟩ := S
  have hta : ∀ w ∈ tl_L, w.before #[Value.ref b] s = true := fun w h => hts w (List.mem_filter.mp h).1
  have hA : ∀ q : Nat, s.heap.size ≤ q → A q := fun q h => by rw [hAe]; exact h
  have hbA : ¬ A b := by rw [hAe]; exact Nat.not_le.mpr hbl
  have hAf : ∀ (H : Heap), s.heap.size ≤ H.size → ∀ q, tp_A L H.size q → A q := fun H h q hq => hq.elim (hAL q) (fun h2 => hA q (Nat.le_trans h h2))
  have hRc : room_1.cells = 600000 := rfl
  have hRs : room_1.slots = 7302249 := rfl
  have hI0 := hI
  have hD : va_D A (va_pl L f) := tp_D hL hAL
  have htx := hlq.2.2.2.2.1
  have hsd := hlq.2.2.1
  have hs := ts_hs hsd
  have hraw := ts_raw hsd
  have hslp := ts_slp hsd
  have hdp := ts_dp hsd
  have hm0 := hlq.2.2.2.2.2
  have hIM : Γ (12, 4, 0) = Γ (12, 4, 0) := rfl
  refine lv_aload_n hx hb dL_law_1237 rfl (lv_at hl 2 rfl) ?_
  refine lv_aload_n hx hb dL_law_1238 rfl (lv_at hl 3 rfl) ?_
  refine lv_iload_n hx hb dL_law_1239 rfl (lv_at hl 0 rfl) ?_
  refine lv_iconst (v := 1) hx hb dL_law_1240 (by decide) ?_
  refine lv_iadd hx hb dL_law_1241 ?_
  refine lv_topi (fun z_1 ez_1 => ?_)
  try have iz_1 : z_1.toInt = i.toInt + (1 : Int) := by rw [ez_1]; exact tl_addN i 1 rfl rfl (by omega) (by omega)
  refine va_sld hx hb hX hbl hbA hS (tl_in (by omega) (by omega)) dL_law_1242 ?_
  refine lv_topi (fun z_2 ez_2 => ?_)
  refine lv_aload_n hx hb dL_law_1243 rfl (lv_at hl 3 rfl) ?_
  refine lv_iload_n hx hb dL_law_1244 rfl (lv_at hl 0 rfl) ?_
  refine lv_iconst (v := 2) hx hb dL_law_1245 (by decide) ?_
  refine lv_iadd hx hb dL_law_1246 ?_
  refine lv_topi (fun z_3 ez_3 => ?_)
  try have iz_3 : z_3.toInt = i.toInt + (2 : Int) := by rw [ez_3]; exact tl_addN i 2 rfl rfl (by omega) (by omega)
  refine va_sld hx hb hX hbl hbA hS (tl_in (by omega) (by omega)) dL_law_1247 ?_
  refine lv_topi (fun z_4 ez_4 => ?_)
  refine lv_aload_n hx hb dL_law_1248 rfl (lv_at hl 3 rfl) ?_
  refine lv_iload_n hx hb dL_law_1249 rfl (lv_at hl 0 rfl) ?_
  refine lv_iconst (v := 3) hx hb dL_law_1250 (by decide) ?_
  refine lv_iadd hx hb dL_law_1251 ?_
  refine lv_topi (fun z_5 ez_5 => ?_)
  try have iz_5 : z_5.toInt = i.toInt + (3 : Int) := by rw [ez_5]; exact tl_addN i 3 rfl rfl (by omega) (by omega)
  refine va_sld hx hb hX hbl hbA hS (tl_in (by omega) (by omega)) dL_law_1252 ?_
  refine lv_topi (fun z_6 ez_6 => ?_)
  obtain ⟨x_8, x_9, x_10, x_11, x_12, x_13, x_14, x_15, x_16, x_17, x_18, x_19, x_20, x_21, x_22, x_23, hf_7, hx_8, hx_9, hx_10, hx_11, hx_12, hx_13, hx_14, hx_15, hx_16, hx_17, hx_18, hx_19, hx_20, hx_21, hx_22, hx_23⟩ := (show tp_o_X L K (0) 0 (Γ (0, 0, 0)) (f xq) from hI.at hxq)
  refine tq_ci hS (hAf _ hS.1) (tq_rV (As := [.int z_2, .int z_4, .int z_6]) (rest := []) ⟨hx, hb, hml, hown, hta⟩ (tp_P.pre hK hN hL hU hI hP) (tp_recv hK hP hxq.1 hf_7 rfl) lk_L_113 (t_X11_hour l D cy H.size L K Γ f xq z_2 z_4 z_6 hxq) rfl rfl ⟨Nat.le_of_ble_eq_true rfl, Nat.le_of_ble_eq_true rfl⟩ rfl hl.1 rfl (Nat.le_of_ble_eq_true rfl) dL_law_1253 ⟨by rw [hRc]; omega, by rw [hRs]; omega⟩) (fun r_25 f_26 H locs hw_24 hP hI hc_27 hS => ?_)
  have hD : va_D A (va_pl L f_26) := tp_D hL hAL
  have hf_28 := (tp_un hc_27 hxq (by decide)).trans hf_7
  refine lv_pop hx hb dL_law_1256 rfl ?_
  refine lv_aload_n hx hb dL_law_1257 rfl (lv_at hl 1 rfl) ?_
  refine lv_aload_n hx hb dL_law_1258 rfl (lv_at hl 3 rfl) ?_
  refine lv_iload_n hx hb dL_law_1259 rfl (lv_at hl 0 rfl) ?_
  refine lv_iconst (v := 1) hx hb dL_law_1260 (by decide) ?_
  refine lv_iadd hx hb dL_law_1261 ?_
  refine lv_topi (fun z_29 ez_29 => ?_)
  obtain rfl : z_1 = z_29 := ez_1.trans ez_29.symm
  refine va_sld hx hb hX hbl hbA hS (tl_in (by omega) (by omega)) dL_law_1262 ?_
  refine lv_topi (fun z_30 ez_30 => ?_)
  obtain rfl : z_2 = z_30 := ez_2.trans ez_30.symm
  refine lv_aload_n hx hb dL_law_1263 rfl (lv_at hl 3 rfl) ?_
  refine lv_iload_n hx hb dL_law_1264 rfl (lv_at hl 0 rfl) ?_
  refine lv_iconst (v := 2) hx hb dL_law_1265 (by decide) ?_
  refine lv_iadd hx hb dL_law_1266 ?_
  refine lv_topi (fun z_31 ez_31 => ?_)
  obtain rfl : z_3 = z_31 := ez_3.trans ez_31.symm
  refine va_sld hx hb hX hbl hbA hS (tl_in (by omega) (by omega)) dL_law_1267 ?_
  refine lv_topi (fun z_32 ez_32 => ?_)
  obtain rfl : z_4 = z_32 := ez_4.trans ez_32.symm
  refine lv_aload_n hx hb dL_law_1268 rfl (lv_at hl 3 rfl) ?_
  refine lv_iload_n hx hb dL_law_1269 rfl (lv_at hl 0 rfl) ?_
  refine lv_iconst (v := 3) hx hb dL_law_1270 (by decide) ?_
  refine lv_iadd hx hb dL_law_1271 ?_
  refine lv_topi (fun z_33 ez_33 => ?_)
  obtain rfl : z_5 = z_33 := ez_5.trans ez_33.symm
  refine va_sld hx hb hX hbl hbA hS (tl_in (by omega) (by omega)) dL_law_1272 ?_
  refine lv_topi (fun z_34 ez_34 => ?_)
  obtain rfl : z_6 = z_34 := ez_6.trans ez_34.symm
  obtain ⟨r_36, v_37, q_38, hf_35, hr_39, hv_40⟩ := (show tp_o_M L K 0 0 (Γ (39, 0, 0)) (f_26 mq) from hI.at hmq)
  refine tq_ciR hS (hAf _ hS.1) (tq_rV (As := [.int z_2, .int z_4, .int z_6]) (rest := []) ⟨hx, hb, hml, hown, hta⟩ (tp_P.pre hK hN hL hU hI hP) (tp_recv hK hP hmq.1 hf_35 rfl) lk_L_116 (r_X12_hour l D cy H.size L K Γ f_26 mq z_2 z_4 z_6 hmq (by first | omega | (simp only [Int32.toInt_toInt64]; omega) | decide | assumption) (by first | omega | (simp only [Int32.toInt_toInt64]; omega) | decide | assumption)) rfl rfl ⟨Nat.le_of_ble_eq_true rfl, Nat.le_of_ble_eq_true rfl⟩ rfl hl.1 rfl (Nat.le_of_ble_eq_true rfl) dL_law_1273 ⟨by rw [hRc]; omega, by rw [hRs]; omega⟩) (fun r_42 f_43 Γ_45 H locs hw_41 hP hI hc_44 hcg_46 hS => ?_)
  have hD : va_D A (va_pl L f_43) := tp_D hL hAL
  have hf_47 := (tp_un hc_44 hxq (by decide)).trans hf_28
  have hw_41 : Γ_45 (39, 0, 0) 0 = Γ (39, 0, 0) 0 := hw_41
  have hlq9 : lq Γ_45 := hlq.quiet hcg_46 (by decide) (by omega)
  have hfree9 : ∀ j : Nat, Γ_45 (12, 4, 0) j = 0 → ∀ a ∈ L, ¬ (K a).2.2 = j + 1 := fun j q a ha => hfree j (by rw [← (hcg_46 (12, 4, 0) (by decide)).trans hIM]; exact q) a ha
  refine lv_pop hx hb dL_law_1276 rfl ?_
  refine lv_goto (tgt := 2005) hx hb dL_law_1277 (by decide) ?_
  exact W.widen (k := cells + 41) (n := slots + 8199) (by omega) (by omega) (kk L K Γ_45 f_43 H locs ls ⟨hP, hI, hL, hU, hAL, hS, hxq, hmq, hlq9, hfree9⟩ (lv_sub hl [0, 1, 2, 3] rfl))
set_option maxHeartbeats 4000000 in
set_option maxRecDepth 100000 in
theorem tl_law_24 {p : Program} {e : Env} {s : State} {m : MethodId} {below : List Frame} {meth : Method} {c : Code} (l : Launch) {b N : Nat} {xs : Nat → Int32} (C0 : lw_At p s m meth c b N xs) (D : va_G) (cy : Nat → ClassId) (hK : va_K D vwCl (tl_T cy) s) (hN : tl_ok s) (Z : ts_Y) {A : Nat → Prop} (hAe : A = fun q : Nat => s.heap.size ≤ q) (hZ : ts_Z A Z s s.heap) (xq mq : Nat) (i : Int32) (hi : 0 ≤ i.toInt ∧ i.toInt + 7 ≤ N ∧ N ≤ 3584) {cells slots : Nat} (hcs : cells + 41 ≤ 600000 ∧ slots + 8199 ≤ 7302249) {L : List Nat} {K : Nat → tk_K} {Γ : tk_G} {f : Nat → va_E} {H : Heap} {locs : List Loc} {ls : Array Slot} (S : lq_S D cy A s L K Γ f H locs xq mq) (hl : lv_has ls 4 [(3, .int i), (2, .ref mq), (1, .ref xq), (0, .ref b)]) (kk : ∀ (L : List Nat) (K : Nat → tk_K) (Γ : tk_G) (f : Nat → va_E) (H : Heap) (locs : List Loc) (ls : Array Slot), lq_S D cy A s L K Γ f H locs xq mq → lv_has ls 4 [(3, .int i), (2, .ref mq), (1, .ref xq), (0, .ref b)] → W p l e room_1 s m #[Value.ref b] below meth c H locs (cells + 41) (slots + 8199) (lw_Z below #[Value.ref b] s) (F0 m 2005 ls [])) : W p l e room_1 s m #[Value.ref b] below meth c H locs cells slots (lw_Z below #[Value.ref b] s) (F0 m 1280 ls []) := by
  obtain ⟨hx, hb, hr, hml, hown, hts, hX, hbl, hlocks, hgv⟩ := id C0
  obtain ⟨hP, hI, hL, hU, hAL, hS, hxq, hmq, hlq, hfree⟩ := S
  have hta : ∀ w ∈ tl_L, w.before #[Value.ref b] s = true := fun w h => hts w (List.mem_filter.mp h).1
  have hA : ∀ q : Nat, s.heap.size ≤ q → A q := fun q h => by rw [hAe]; exact h
  have hbA : ¬ A b := by rw [hAe]; exact Nat.not_le.mpr hbl
  have hAf : ∀ (H : Heap), s.heap.size ≤ H.size → ∀ q, tp_A L H.size q → A q := fun H h q hq => hq.elim (hAL q) (fun h2 => hA q (Nat.le_trans h h2))
  have hRc : room_1.cells = 600000 := rfl
  have hRs : room_1.slots = 7302249 := rfl
  have hI0 := hI
  have hD : va_D A (va_pl L f) := tp_D hL hAL
  have htx := hlq.2.2.2.2.1
  have hsd := hlq.2.2.1
  have hs := ts_hs hsd
  have hraw := ts_raw hsd
  have hslp := ts_slp hsd
  have hdp := ts_dp hsd
  have hm0 := hlq.2.2.2.2.2
  have hIM : Γ (12, 4, 0) = Γ (12, 4, 0) := rfl
  refine lv_aload_n hx hb dL_law_1280 rfl (lv_at hl 2 rfl) ?_
  refine lv_aload_n hx hb dL_law_1281 rfl (lv_at hl 3 rfl) ?_
  refine lv_iload_n hx hb dL_law_1282 rfl (lv_at hl 0 rfl) ?_
  refine lv_iconst (v := 1) hx hb dL_law_1283 (by decide) ?_
  refine lv_iadd hx hb dL_law_1284 ?_
  refine lv_topi (fun z_1 ez_1 => ?_)
  try have iz_1 : z_1.toInt = i.toInt + (1 : Int) := by rw [ez_1]; exact tl_addN i 1 rfl rfl (by omega) (by omega)
  refine va_sld hx hb hX hbl hbA hS (tl_in (by omega) (by omega)) dL_law_1285 ?_
  refine lv_topi (fun z_2 ez_2 => ?_)
  refine lv_aload_n hx hb dL_law_1286 rfl (lv_at hl 3 rfl) ?_
  refine lv_iload_n hx hb dL_law_1287 rfl (lv_at hl 0 rfl) ?_
  refine lv_iconst (v := 2) hx hb dL_law_1288 (by decide) ?_
  refine lv_iadd hx hb dL_law_1289 ?_
  refine lv_topi (fun z_3 ez_3 => ?_)
  try have iz_3 : z_3.toInt = i.toInt + (2 : Int) := by rw [ez_3]; exact tl_addN i 2 rfl rfl (by omega) (by omega)
  refine va_sld hx hb hX hbl hbA hS (tl_in (by omega) (by omega)) dL_law_1290 ?_
  refine lv_topi (fun z_4 ez_4 => ?_)
  refine lv_aload_n hx hb dL_law_1291 rfl (lv_at hl 3 rfl) ?_
  refine lv_iload_n hx hb dL_law_1292 rfl (lv_at hl 0 rfl) ?_
  refine lv_iconst (v := 3) hx hb dL_law_1293 (by decide) ?_
  refine lv_iadd hx hb dL_law_1294 ?_
  refine lv_topi (fun z_5 ez_5 => ?_)
  try have iz_5 : z_5.toInt = i.toInt + (3 : Int) := by rw [ez_5]; exact tl_addN i 3 rfl rfl (by omega) (by omega)
  refine va_sld hx hb hX hbl hbA hS (tl_in (by omega) (by omega)) dL_law_1295 ?_
  refine lv_topi (fun z_6 ez_6 => ?_)
  obtain ⟨x_8, x_9, x_10, x_11, x_12, x_13, x_14, x_15, x_16, x_17, x_18, x_19, x_20, x_21, x_22, x_23, hf_7, hx_8, hx_9, hx_10, hx_11, hx_12, hx_13, hx_14, hx_15, hx_16, hx_17, hx_18, hx_19, hx_20, hx_21, hx_22, hx_23⟩ := (show tp_o_X L K (0) 0 (Γ (0, 0, 0)) (f xq) from hI.at hxq)
  refine tq_ci hS (hAf _ hS.1) (tq_rV (As := [.int z_2, .int z_4, .int z_6]) (rest := []) ⟨hx, hb, hml, hown, hta⟩ (tp_P.pre hK hN hL hU hI hP) (tp_recv hK hP hxq.1 hf_7 rfl) lk_L_117 (t_X11_said l D cy H.size L K Γ f xq z_2 z_4 z_6 hxq) rfl rfl ⟨Nat.le_of_ble_eq_true rfl, Nat.le_of_ble_eq_true rfl⟩ rfl hl.1 rfl (Nat.le_of_ble_eq_true rfl) dL_law_1296 ⟨by rw [hRc]; omega, by rw [hRs]; omega⟩) (fun r_25 f_26 H locs hw_24 hP hI hc_27 hS => ?_)
  have hD : va_D A (va_pl L f_26) := tp_D hL hAL
  have hf_28 := (tp_un hc_27 hxq (by decide)).trans hf_7
  refine lv_pop hx hb dL_law_1299 rfl ?_
  refine lv_aload_n hx hb dL_law_1300 rfl (lv_at hl 1 rfl) ?_
  refine lv_aload_n hx hb dL_law_1301 rfl (lv_at hl 3 rfl) ?_
  refine lv_iload_n hx hb dL_law_1302 rfl (lv_at hl 0 rfl) ?_
  refine lv_iconst (v := 1) hx hb dL_law_1303 (by decide) ?_
  refine lv_iadd hx hb dL_law_1304 ?_
  refine lv_topi (fun z_29 ez_29 => ?_)
  obtain rfl : z_1 = z_29 := ez_1.trans ez_29.symm
  refine va_sld hx hb hX hbl hbA hS (tl_in (by omega) (by omega)) dL_law_1305 ?_
  refine lv_topi (fun z_30 ez_30 => ?_)
  obtain rfl : z_2 = z_30 := ez_2.trans ez_30.symm
  refine lv_aload_n hx hb dL_law_1306 rfl (lv_at hl 3 rfl) ?_
  refine lv_iload_n hx hb dL_law_1307 rfl (lv_at hl 0 rfl) ?_
  refine lv_iconst (v := 2) hx hb dL_law_1308 (by decide) ?_
  refine lv_iadd hx hb dL_law_1309 ?_
  refine lv_topi (fun z_31 ez_31 => ?_)
  obtain rfl : z_3 = z_31 := ez_3.trans ez_31.symm
  refine va_sld hx hb hX hbl hbA hS (tl_in (by omega) (by omega)) dL_law_1310 ?_
  refine lv_topi (fun z_32 ez_32 => ?_)
  obtain rfl : z_4 = z_32 := ez_4.trans ez_32.symm
  refine lv_aload_n hx hb dL_law_1311 rfl (lv_at hl 3 rfl) ?_
  refine lv_iload_n hx hb dL_law_1312 rfl (lv_at hl 0 rfl) ?_
  refine lv_iconst (v := 3) hx hb dL_law_1313 (by decide) ?_
  refine lv_iadd hx hb dL_law_1314 ?_
  refine lv_topi (fun z_33 ez_33 => ?_)
  obtain rfl : z_5 = z_33 := ez_5.trans ez_33.symm
  refine va_sld hx hb hX hbl hbA hS (tl_in (by omega) (by omega)) dL_law_1315 ?_
  refine lv_topi (fun z_34 ez_34 => ?_)
  obtain rfl : z_6 = z_34 := ez_6.trans ez_34.symm
  obtain ⟨r_36, v_37, q_38, hf_35, hr_39, hv_40⟩ := (show tp_o_M L K 0 0 (Γ (39, 0, 0)) (f_26 mq) from hI.at hmq)
  refine tq_ciR hS (hAf _ hS.1) (tq_rV (As := [.int z_2, .int z_4, .int z_6]) (rest := []) ⟨hx, hb, hml, hown, hta⟩ (tp_P.pre hK hN hL hU hI hP) (tp_recv hK hP hmq.1 hf_35 rfl) lk_L_120 (r_X12_said l D cy H.size L K Γ f_26 mq z_2 z_4 z_6 hmq (by first | omega | (simp only [Int32.toInt_toInt64]; omega) | decide | assumption) (by first | omega | (simp only [Int32.toInt_toInt64]; omega) | decide | assumption)) rfl rfl ⟨Nat.le_of_ble_eq_true rfl, Nat.le_of_ble_eq_true rfl⟩ rfl hl.1 rfl (Nat.le_of_ble_eq_true rfl) dL_law_1316 ⟨by rw [hRc]; omega, by rw [hRs]; omega⟩) (fun r_42 f_43 Γ_45 H locs hw_41 hP hI hc_44 hcg_46 hS => ?_)
  have hD : va_D A (va_pl L f_43) := tp_D hL hAL
  have hf_47 := (tp_un hc_44 hxq (by decide)).trans hf_28
  have hw_41 : Γ_45 (39, 0, 0) 0 = Γ (39, 0, 0) 0 := hw_41
  have hlq9 : lq Γ_45 := hlq.quiet hcg_46 (by decide) (by omega)
  have hfree9 : ∀ j : Nat, Γ_45 (12, 4, 0) j = 0 → ∀ a ∈ L, ¬ (K a).2.2 = j + 1 := fun j q a ha => hfree j (by rw [← (hcg_46 (12, 4, 0) (by decide)).trans hIM]; exact q) a ha
  refine lv_pop hx hb dL_law_1319 rfl ?_
  refine lv_goto (tgt := 2005) hx hb dL_law_1320 (by decide) ?_
  exact W.widen (k := cells + 41) (n := slots + 8199) (by omega) (by omega) (kk L K Γ_45 f_43 H locs ls ⟨hP, hI, hL, hU, hAL, hS, hxq, hmq, hlq9, hfree9⟩ (lv_sub hl [0, 1, 2, 3] rfl))
set_option maxHeartbeats 4000000 in
set_option maxRecDepth 100000 in
theorem tl_law_25 {p : Program} {e : Env} {s : State} {m : MethodId} {below : List Frame} {meth : Method} {c : Code} (l : Launch) {b N : Nat} {xs : Nat → Int32} (C0 : lw_At p s m meth c b N xs) (D : va_G) (cy : Nat → ClassId) (hK : va_K D vwCl (tl_T cy) s) (hN : tl_ok s) (Z : ts_Y) {A : Nat → Prop} (hAe : A = fun q : Nat => s.heap.size ≤ q) (hZ : ts_Z A Z s s.heap) (xq mq : Nat) (i : Int32) (hi : 0 ≤ i.toInt ∧ i.toInt + 7 ≤ N ∧ N ≤ 3584) {cells slots : Nat} (hcs : cells + 41 ≤ 600000 ∧ slots + 8199 ≤ 7302249) {L : List Nat} {K : Nat → tk_K} {Γ : tk_G} {f : Nat → va_E} {H : Heap} {locs : List Loc} {ls : Array Slot} (S : lq_S D cy A s L K Γ f H locs xq mq) (hl : lv_has ls 4 [(3, .int i), (2, .ref mq), (1, .ref xq), (0, .ref b)]) (kk : ∀ (L : List Nat) (K : Nat → tk_K) (Γ : tk_G) (f : Nat → va_E) (H : Heap) (locs : List Loc) (ls : Array Slot), lq_S D cy A s L K Γ f H locs xq mq → lv_has ls 4 [(3, .int i), (2, .ref mq), (1, .ref xq), (0, .ref b)] → W p l e room_1 s m #[Value.ref b] below meth c H locs (cells + 41) (slots + 8199) (lw_Z below #[Value.ref b] s) (F0 m 2005 ls [])) : W p l e room_1 s m #[Value.ref b] below meth c H locs cells slots (lw_Z below #[Value.ref b] s) (F0 m 1323 ls []) := by
  obtain ⟨hx, hb, hr, hml, hown, hts, hX, hbl, hlocks, hgv⟩ := id C0
  obtain ⟨hP, hI, hL, hU, hAL, hS, hxq, hmq, hlq, hfree⟩ := S
  have hta : ∀ w ∈ tl_L, w.before #[Value.ref b] s = true := fun w h => hts w (List.mem_filter.mp h).1
  have hA : ∀ q : Nat, s.heap.size ≤ q → A q := fun q h => by rw [hAe]; exact h
  have hbA : ¬ A b := by rw [hAe]; exact Nat.not_le.mpr hbl
  have hAf : ∀ (H : Heap), s.heap.size ≤ H.size → ∀ q, tp_A L H.size q → A q := fun H h q hq => hq.elim (hAL q) (fun h2 => hA q (Nat.le_trans h h2))
  have hRc : room_1.cells = 600000 := rfl
  have hRs : room_1.slots = 7302249 := rfl
  have hI0 := hI
  have hD : va_D A (va_pl L f) := tp_D hL hAL
  have htx := hlq.2.2.2.2.1
  have hsd := hlq.2.2.1
  have hs := ts_hs hsd
  have hraw := ts_raw hsd
  have hslp := ts_slp hsd
  have hdp := ts_dp hsd
  have hm0 := hlq.2.2.2.2.2
  have hIM : Γ (12, 4, 0) = Γ (12, 4, 0) := rfl
  refine lv_aload_n hx hb dL_law_1323 rfl (lv_at hl 2 rfl) ?_
  refine lv_aload_n hx hb dL_law_1324 rfl (lv_at hl 3 rfl) ?_
  refine lv_iload_n hx hb dL_law_1325 rfl (lv_at hl 0 rfl) ?_
  refine lv_iconst (v := 1) hx hb dL_law_1326 (by decide) ?_
  refine lv_iadd hx hb dL_law_1327 ?_
  refine lv_topi (fun z_1 ez_1 => ?_)
  try have iz_1 : z_1.toInt = i.toInt + (1 : Int) := by rw [ez_1]; exact tl_addN i 1 rfl rfl (by omega) (by omega)
  refine va_sld hx hb hX hbl hbA hS (tl_in (by omega) (by omega)) dL_law_1328 ?_
  refine lv_topi (fun z_2 ez_2 => ?_)
  refine lv_aload_n hx hb dL_law_1329 rfl (lv_at hl 3 rfl) ?_
  refine lv_iload_n hx hb dL_law_1330 rfl (lv_at hl 0 rfl) ?_
  refine lv_iconst (v := 2) hx hb dL_law_1331 (by decide) ?_
  refine lv_iadd hx hb dL_law_1332 ?_
  refine lv_topi (fun z_3 ez_3 => ?_)
  try have iz_3 : z_3.toInt = i.toInt + (2 : Int) := by rw [ez_3]; exact tl_addN i 2 rfl rfl (by omega) (by omega)
  refine va_sld hx hb hX hbl hbA hS (tl_in (by omega) (by omega)) dL_law_1333 ?_
  refine lv_topi (fun z_4 ez_4 => ?_)
  refine lv_aload_n hx hb dL_law_1334 rfl (lv_at hl 3 rfl) ?_
  refine lv_iload_n hx hb dL_law_1335 rfl (lv_at hl 0 rfl) ?_
  refine lv_iconst (v := 3) hx hb dL_law_1336 (by decide) ?_
  refine lv_iadd hx hb dL_law_1337 ?_
  refine lv_topi (fun z_5 ez_5 => ?_)
  try have iz_5 : z_5.toInt = i.toInt + (3 : Int) := by rw [ez_5]; exact tl_addN i 3 rfl rfl (by omega) (by omega)
  refine va_sld hx hb hX hbl hbA hS (tl_in (by omega) (by omega)) dL_law_1338 ?_
  refine lv_topi (fun z_6 ez_6 => ?_)
  refine lv_aload_n hx hb dL_law_1339 rfl (lv_at hl 3 rfl) ?_
  refine lv_iload_n hx hb dL_law_1340 rfl (lv_at hl 0 rfl) ?_
  refine lv_iconst (v := 4) hx hb dL_law_1341 (by decide) ?_
  refine lv_iadd hx hb dL_law_1342 ?_
  refine lv_topi (fun z_7 ez_7 => ?_)
  try have iz_7 : z_7.toInt = i.toInt + (4 : Int) := by rw [ez_7]; exact tl_addN i 4 rfl rfl (by omega) (by omega)
  refine va_sld hx hb hX hbl hbA hS (tl_in (by omega) (by omega)) dL_law_1343 ?_
  refine lv_topi (fun z_8 ez_8 => ?_)
  refine lv_aload_n hx hb dL_law_1344 rfl (lv_at hl 3 rfl) ?_
  refine lv_iload_n hx hb dL_law_1345 rfl (lv_at hl 0 rfl) ?_
  refine lv_iconst (v := 5) hx hb dL_law_1346 (by decide) ?_
  refine lv_iadd hx hb dL_law_1347 ?_
  refine lv_topi (fun z_9 ez_9 => ?_)
  try have iz_9 : z_9.toInt = i.toInt + (5 : Int) := by rw [ez_9]; exact tl_addN i 5 rfl rfl (by omega) (by omega)
  refine va_sld hx hb hX hbl hbA hS (tl_in (by omega) (by omega)) dL_law_1348 ?_
  refine lv_topi (fun z_10 ez_10 => ?_)
  refine lv_aload_n hx hb dL_law_1349 rfl (lv_at hl 3 rfl) ?_
  refine lv_iload_n hx hb dL_law_1350 rfl (lv_at hl 0 rfl) ?_
  refine lv_bipush (v := 6) hx hb dL_law_1351 (by decide) ?_
  refine lv_iadd hx hb dL_law_1353 ?_
  refine lv_topi (fun z_11 ez_11 => ?_)
  try have iz_11 : z_11.toInt = i.toInt + (6 : Int) := by rw [ez_11]; exact tl_addN i 6 rfl rfl (by omega) (by omega)
  refine va_sld hx hb hX hbl hbA hS (tl_in (by omega) (by omega)) dL_law_1354 ?_
  refine lv_topi (fun z_12 ez_12 => ?_)
  obtain ⟨x_14, x_15, x_16, x_17, x_18, x_19, x_20, x_21, x_22, x_23, x_24, x_25, x_26, x_27, x_28, x_29, hf_13, hx_14, hx_15, hx_16, hx_17, hx_18, hx_19, hx_20, hx_21, hx_22, hx_23, hx_24, hx_25, hx_26, hx_27, hx_28, hx_29⟩ := (show tp_o_X L K (0) 0 (Γ (0, 0, 0)) (f xq) from hI.at hxq)
  refine tq_ci hS (hAf _ hS.1) (tq_rV (As := [.int z_2, .int z_4, .int z_6, .int z_8, .int z_10, .int z_12]) (rest := []) ⟨hx, hb, hml, hown, hta⟩ (tp_P.pre hK hN hL hU hI hP) (tp_recv hK hP hxq.1 hf_13 rfl) lk_L_121 (t_X11_weeks l D cy H.size L K Γ f xq z_2 z_4 z_6 z_8 z_10 z_12 hxq) rfl rfl ⟨Nat.le_of_ble_eq_true rfl, Nat.le_of_ble_eq_true rfl⟩ rfl hl.1 rfl (Nat.le_of_ble_eq_true rfl) dL_law_1355 ⟨by rw [hRc]; omega, by rw [hRs]; omega⟩) (fun r_31 f_32 H locs hw_30 hP hI hc_33 hS => ?_)
  have hD : va_D A (va_pl L f_32) := tp_D hL hAL
  have hf_34 := (tp_un hc_33 hxq (by decide)).trans hf_13
  refine lv_pop hx hb dL_law_1358 rfl ?_
  refine lv_aload_n hx hb dL_law_1359 rfl (lv_at hl 1 rfl) ?_
  refine lv_aload_n hx hb dL_law_1360 rfl (lv_at hl 3 rfl) ?_
  refine lv_iload_n hx hb dL_law_1361 rfl (lv_at hl 0 rfl) ?_
  refine lv_iconst (v := 1) hx hb dL_law_1362 (by decide) ?_
  refine lv_iadd hx hb dL_law_1363 ?_
  refine lv_topi (fun z_35 ez_35 => ?_)
  obtain rfl : z_1 = z_35 := ez_1.trans ez_35.symm
  refine va_sld hx hb hX hbl hbA hS (tl_in (by omega) (by omega)) dL_law_1364 ?_
  refine lv_topi (fun z_36 ez_36 => ?_)
  obtain rfl : z_2 = z_36 := ez_2.trans ez_36.symm
  refine lv_aload_n hx hb dL_law_1365 rfl (lv_at hl 3 rfl) ?_
  refine lv_iload_n hx hb dL_law_1366 rfl (lv_at hl 0 rfl) ?_
  refine lv_iconst (v := 2) hx hb dL_law_1367 (by decide) ?_
  refine lv_iadd hx hb dL_law_1368 ?_
  refine lv_topi (fun z_37 ez_37 => ?_)
  obtain rfl : z_3 = z_37 := ez_3.trans ez_37.symm
  refine va_sld hx hb hX hbl hbA hS (tl_in (by omega) (by omega)) dL_law_1369 ?_
  refine lv_topi (fun z_38 ez_38 => ?_)
  obtain rfl : z_4 = z_38 := ez_4.trans ez_38.symm
  refine lv_aload_n hx hb dL_law_1370 rfl (lv_at hl 3 rfl) ?_
  refine lv_iload_n hx hb dL_law_1371 rfl (lv_at hl 0 rfl) ?_
  refine lv_iconst (v := 3) hx hb dL_law_1372 (by decide) ?_
  refine lv_iadd hx hb dL_law_1373 ?_
  refine lv_topi (fun z_39 ez_39 => ?_)
  obtain rfl : z_5 = z_39 := ez_5.trans ez_39.symm
  refine va_sld hx hb hX hbl hbA hS (tl_in (by omega) (by omega)) dL_law_1374 ?_
  refine lv_topi (fun z_40 ez_40 => ?_)
  obtain rfl : z_6 = z_40 := ez_6.trans ez_40.symm
  refine lv_aload_n hx hb dL_law_1375 rfl (lv_at hl 3 rfl) ?_
  refine lv_iload_n hx hb dL_law_1376 rfl (lv_at hl 0 rfl) ?_
  refine lv_iconst (v := 4) hx hb dL_law_1377 (by decide) ?_
  refine lv_iadd hx hb dL_law_1378 ?_
  refine lv_topi (fun z_41 ez_41 => ?_)
  obtain rfl : z_7 = z_41 := ez_7.trans ez_41.symm
  refine va_sld hx hb hX hbl hbA hS (tl_in (by omega) (by omega)) dL_law_1379 ?_
  refine lv_topi (fun z_42 ez_42 => ?_)
  obtain rfl : z_8 = z_42 := ez_8.trans ez_42.symm
  refine lv_aload_n hx hb dL_law_1380 rfl (lv_at hl 3 rfl) ?_
  refine lv_iload_n hx hb dL_law_1381 rfl (lv_at hl 0 rfl) ?_
  refine lv_iconst (v := 5) hx hb dL_law_1382 (by decide) ?_
  refine lv_iadd hx hb dL_law_1383 ?_
  refine lv_topi (fun z_43 ez_43 => ?_)
  obtain rfl : z_9 = z_43 := ez_9.trans ez_43.symm
  refine va_sld hx hb hX hbl hbA hS (tl_in (by omega) (by omega)) dL_law_1384 ?_
  refine lv_topi (fun z_44 ez_44 => ?_)
  obtain rfl : z_10 = z_44 := ez_10.trans ez_44.symm
  refine lv_aload_n hx hb dL_law_1385 rfl (lv_at hl 3 rfl) ?_
  refine lv_iload_n hx hb dL_law_1386 rfl (lv_at hl 0 rfl) ?_
  refine lv_bipush (v := 6) hx hb dL_law_1387 (by decide) ?_
  refine lv_iadd hx hb dL_law_1389 ?_
  refine lv_topi (fun z_45 ez_45 => ?_)
  obtain rfl : z_11 = z_45 := ez_11.trans ez_45.symm
  refine va_sld hx hb hX hbl hbA hS (tl_in (by omega) (by omega)) dL_law_1390 ?_
  refine lv_topi (fun z_46 ez_46 => ?_)
  obtain rfl : z_12 = z_46 := ez_12.trans ez_46.symm
  obtain ⟨r_48, v_49, q_50, hf_47, hr_51, hv_52⟩ := (show tp_o_M L K 0 0 (Γ (39, 0, 0)) (f_32 mq) from hI.at hmq)
  refine tq_ciR hS (hAf _ hS.1) (tq_rV (As := [.int z_2, .int z_4, .int z_6, .int z_8, .int z_10, .int z_12]) (rest := []) ⟨hx, hb, hml, hown, hta⟩ (tp_P.pre hK hN hL hU hI hP) (tp_recv hK hP hmq.1 hf_47 rfl) lk_L_125 (r_X12_weeks l D cy H.size L K Γ f_32 mq z_2 z_4 z_6 z_8 z_10 z_12 hmq (by first | omega | (simp only [Int32.toInt_toInt64]; omega) | decide | assumption) (by first | omega | (simp only [Int32.toInt_toInt64]; omega) | decide | assumption)) rfl rfl ⟨Nat.le_of_ble_eq_true rfl, Nat.le_of_ble_eq_true rfl⟩ rfl hl.1 rfl (Nat.le_of_ble_eq_true rfl) dL_law_1391 ⟨by rw [hRc]; omega, by rw [hRs]; omega⟩) (fun r_54 f_55 Γ_57 H locs hw_53 hP hI hc_56 hcg_58 hS => ?_)
  have hD : va_D A (va_pl L f_55) := tp_D hL hAL
  have hf_59 := (tp_un hc_56 hxq (by decide)).trans hf_34
  have hw_53 : Γ_57 (39, 0, 0) 0 = Γ (39, 0, 0) 0 := hw_53
  have hlq9 : lq Γ_57 := hlq.quiet hcg_58 (by decide) (by omega)
  have hfree9 : ∀ j : Nat, Γ_57 (12, 4, 0) j = 0 → ∀ a ∈ L, ¬ (K a).2.2 = j + 1 := fun j q a ha => hfree j (by rw [← (hcg_58 (12, 4, 0) (by decide)).trans hIM]; exact q) a ha
  refine lv_pop hx hb dL_law_1394 rfl ?_
  refine lv_goto (tgt := 2005) hx hb dL_law_1395 (by decide) ?_
  exact W.widen (k := cells + 41) (n := slots + 8199) (by omega) (by omega) (kk L K Γ_57 f_55 H locs ls ⟨hP, hI, hL, hU, hAL, hS, hxq, hmq, hlq9, hfree9⟩ (lv_sub hl [0, 1, 2, 3] rfl))
set_option maxHeartbeats 4000000 in
set_option maxRecDepth 100000 in
theorem tl_law_26 {p : Program} {e : Env} {s : State} {m : MethodId} {below : List Frame} {meth : Method} {c : Code} (l : Launch) {b N : Nat} {xs : Nat → Int32} (C0 : lw_At p s m meth c b N xs) (D : va_G) (cy : Nat → ClassId) (hK : va_K D vwCl (tl_T cy) s) (hN : tl_ok s) (Z : ts_Y) {A : Nat → Prop} (hAe : A = fun q : Nat => s.heap.size ≤ q) (hZ : ts_Z A Z s s.heap) (xq mq : Nat) (i : Int32) (hi : 0 ≤ i.toInt ∧ i.toInt + 7 ≤ N ∧ N ≤ 3584) {cells slots : Nat} (hcs : cells + 41 ≤ 600000 ∧ slots + 8199 ≤ 7302249) {L : List Nat} {K : Nat → tk_K} {Γ : tk_G} {f : Nat → va_E} {H : Heap} {locs : List Loc} {ls : Array Slot} (S : lq_S D cy A s L K Γ f H locs xq mq) (hl : lv_has ls 4 [(3, .int i), (2, .ref mq), (1, .ref xq), (0, .ref b)]) (kk : ∀ (L : List Nat) (K : Nat → tk_K) (Γ : tk_G) (f : Nat → va_E) (H : Heap) (locs : List Loc) (ls : Array Slot), lq_S D cy A s L K Γ f H locs xq mq → lv_has ls 4 [(3, .int i), (2, .ref mq), (1, .ref xq), (0, .ref b)] → W p l e room_1 s m #[Value.ref b] below meth c H locs (cells + 41) (slots + 8199) (lw_Z below #[Value.ref b] s) (F0 m 2005 ls [])) : W p l e room_1 s m #[Value.ref b] below meth c H locs cells slots (lw_Z below #[Value.ref b] s) (F0 m 1398 ls []) := by
  obtain ⟨hx, hb, hr, hml, hown, hts, hX, hbl, hlocks, hgv⟩ := id C0
  obtain ⟨hP, hI, hL, hU, hAL, hS, hxq, hmq, hlq, hfree⟩ := S
  have hta : ∀ w ∈ tl_L, w.before #[Value.ref b] s = true := fun w h => hts w (List.mem_filter.mp h).1
  have hA : ∀ q : Nat, s.heap.size ≤ q → A q := fun q h => by rw [hAe]; exact h
  have hbA : ¬ A b := by rw [hAe]; exact Nat.not_le.mpr hbl
  have hAf : ∀ (H : Heap), s.heap.size ≤ H.size → ∀ q, tp_A L H.size q → A q := fun H h q hq => hq.elim (hAL q) (fun h2 => hA q (Nat.le_trans h h2))
  have hRc : room_1.cells = 600000 := rfl
  have hRs : room_1.slots = 7302249 := rfl
  have hI0 := hI
  have hD : va_D A (va_pl L f) := tp_D hL hAL
  have htx := hlq.2.2.2.2.1
  have hsd := hlq.2.2.1
  have hs := ts_hs hsd
  have hraw := ts_raw hsd
  have hslp := ts_slp hsd
  have hdp := ts_dp hsd
  have hm0 := hlq.2.2.2.2.2
  have hIM : Γ (12, 4, 0) = Γ (12, 4, 0) := rfl
  refine lv_aload_n hx hb dL_law_1398 rfl (lv_at hl 2 rfl) ?_
  refine lv_aload_n hx hb dL_law_1399 rfl (lv_at hl 3 rfl) ?_
  refine lv_iload_n hx hb dL_law_1400 rfl (lv_at hl 0 rfl) ?_
  refine lv_iconst (v := 1) hx hb dL_law_1401 (by decide) ?_
  refine lv_iadd hx hb dL_law_1402 ?_
  refine lv_topi (fun z_1 ez_1 => ?_)
  try have iz_1 : z_1.toInt = i.toInt + (1 : Int) := by rw [ez_1]; exact tl_addN i 1 rfl rfl (by omega) (by omega)
  refine va_sld hx hb hX hbl hbA hS (tl_in (by omega) (by omega)) dL_law_1403 ?_
  refine lv_topi (fun z_2 ez_2 => ?_)
  refine lv_aload_n hx hb dL_law_1404 rfl (lv_at hl 3 rfl) ?_
  refine lv_iload_n hx hb dL_law_1405 rfl (lv_at hl 0 rfl) ?_
  refine lv_iconst (v := 2) hx hb dL_law_1406 (by decide) ?_
  refine lv_iadd hx hb dL_law_1407 ?_
  refine lv_topi (fun z_3 ez_3 => ?_)
  try have iz_3 : z_3.toInt = i.toInt + (2 : Int) := by rw [ez_3]; exact tl_addN i 2 rfl rfl (by omega) (by omega)
  refine va_sld hx hb hX hbl hbA hS (tl_in (by omega) (by omega)) dL_law_1408 ?_
  refine lv_topi (fun z_4 ez_4 => ?_)
  refine lv_aload_n hx hb dL_law_1409 rfl (lv_at hl 3 rfl) ?_
  refine lv_iload_n hx hb dL_law_1410 rfl (lv_at hl 0 rfl) ?_
  refine lv_iconst (v := 3) hx hb dL_law_1411 (by decide) ?_
  refine lv_iadd hx hb dL_law_1412 ?_
  refine lv_topi (fun z_5 ez_5 => ?_)
  try have iz_5 : z_5.toInt = i.toInt + (3 : Int) := by rw [ez_5]; exact tl_addN i 3 rfl rfl (by omega) (by omega)
  refine va_sld hx hb hX hbl hbA hS (tl_in (by omega) (by omega)) dL_law_1413 ?_
  refine lv_topi (fun z_6 ez_6 => ?_)
  obtain ⟨x_8, x_9, x_10, x_11, x_12, x_13, x_14, x_15, x_16, x_17, x_18, x_19, x_20, x_21, x_22, x_23, hf_7, hx_8, hx_9, hx_10, hx_11, hx_12, hx_13, hx_14, hx_15, hx_16, hx_17, hx_18, hx_19, hx_20, hx_21, hx_22, hx_23⟩ := (show tp_o_X L K (0) 0 (Γ (0, 0, 0)) (f xq) from hI.at hxq)
  refine tq_cl hS (hAf _ hS.1) (tq_rV (As := [.int z_2, .int z_4, .int z_6]) (rest := []) ⟨hx, hb, hml, hown, hta⟩ (tp_P.pre hK hN hL hU hI hP) (tp_recv hK hP hxq.1 hf_7 rfl) lk_L_126 (t_X11_ripple l D cy H.size L K Γ f xq z_2 z_4 z_6 hxq) rfl rfl ⟨Nat.le_of_ble_eq_true rfl, Nat.le_of_ble_eq_true rfl⟩ rfl hl.1 rfl (Nat.le_of_ble_eq_true rfl) dL_law_1414 ⟨by rw [hRc]; omega, by rw [hRs]; omega⟩) (fun r_25 f_26 H locs hw_24 hP hI hc_27 hS => ?_)
  have hD : va_D A (va_pl L f_26) := tp_D hL hAL
  have hf_28 := (tp_un hc_27 hxq (by decide)).trans hf_7
  refine lv_pop2_2 hx hb dL_law_1417 rfl ?_
  refine lv_aload_n hx hb dL_law_1418 rfl (lv_at hl 1 rfl) ?_
  refine lv_aload_n hx hb dL_law_1419 rfl (lv_at hl 3 rfl) ?_
  refine lv_iload_n hx hb dL_law_1420 rfl (lv_at hl 0 rfl) ?_
  refine lv_iconst (v := 1) hx hb dL_law_1421 (by decide) ?_
  refine lv_iadd hx hb dL_law_1422 ?_
  refine lv_topi (fun z_29 ez_29 => ?_)
  obtain rfl : z_1 = z_29 := ez_1.trans ez_29.symm
  refine va_sld hx hb hX hbl hbA hS (tl_in (by omega) (by omega)) dL_law_1423 ?_
  refine lv_topi (fun z_30 ez_30 => ?_)
  obtain rfl : z_2 = z_30 := ez_2.trans ez_30.symm
  refine lv_aload_n hx hb dL_law_1424 rfl (lv_at hl 3 rfl) ?_
  refine lv_iload_n hx hb dL_law_1425 rfl (lv_at hl 0 rfl) ?_
  refine lv_iconst (v := 2) hx hb dL_law_1426 (by decide) ?_
  refine lv_iadd hx hb dL_law_1427 ?_
  refine lv_topi (fun z_31 ez_31 => ?_)
  obtain rfl : z_3 = z_31 := ez_3.trans ez_31.symm
  refine va_sld hx hb hX hbl hbA hS (tl_in (by omega) (by omega)) dL_law_1428 ?_
  refine lv_topi (fun z_32 ez_32 => ?_)
  obtain rfl : z_4 = z_32 := ez_4.trans ez_32.symm
  refine lv_aload_n hx hb dL_law_1429 rfl (lv_at hl 3 rfl) ?_
  refine lv_iload_n hx hb dL_law_1430 rfl (lv_at hl 0 rfl) ?_
  refine lv_iconst (v := 3) hx hb dL_law_1431 (by decide) ?_
  refine lv_iadd hx hb dL_law_1432 ?_
  refine lv_topi (fun z_33 ez_33 => ?_)
  obtain rfl : z_5 = z_33 := ez_5.trans ez_33.symm
  refine va_sld hx hb hX hbl hbA hS (tl_in (by omega) (by omega)) dL_law_1433 ?_
  refine lv_topi (fun z_34 ez_34 => ?_)
  obtain rfl : z_6 = z_34 := ez_6.trans ez_34.symm
  obtain ⟨r_36, v_37, q_38, hf_35, hr_39, hv_40⟩ := (show tp_o_M L K 0 0 (Γ (39, 0, 0)) (f_26 mq) from hI.at hmq)
  refine tq_clR hS (hAf _ hS.1) (tq_rV (As := [.int z_2, .int z_4, .int z_6]) (rest := []) ⟨hx, hb, hml, hown, hta⟩ (tp_P.pre hK hN hL hU hI hP) (tp_recv hK hP hmq.1 hf_35 rfl) lk_L_129 (r_X12_ripple l D cy H.size L K Γ f_26 mq z_2 z_4 z_6 hmq (by first | omega | (simp only [Int32.toInt_toInt64]; omega) | decide | assumption) (by first | omega | (simp only [Int32.toInt_toInt64]; omega) | decide | assumption)) rfl rfl ⟨Nat.le_of_ble_eq_true rfl, Nat.le_of_ble_eq_true rfl⟩ rfl hl.1 rfl (Nat.le_of_ble_eq_true rfl) dL_law_1434 ⟨by rw [hRc]; omega, by rw [hRs]; omega⟩) (fun r_42 f_43 Γ_45 H locs hw_41 hP hI hc_44 hcg_46 hS => ?_)
  have hD : va_D A (va_pl L f_43) := tp_D hL hAL
  have hf_47 := (tp_un hc_44 hxq (by decide)).trans hf_28
  have hw_41 : Γ_45 (39, 0, 0) 0 = Γ (39, 0, 0) 0 := hw_41
  have hlq9 : lq Γ_45 := hlq.quiet hcg_46 (by decide) (by omega)
  have hfree9 : ∀ j : Nat, Γ_45 (12, 4, 0) j = 0 → ∀ a ∈ L, ¬ (K a).2.2 = j + 1 := fun j q a ha => hfree j (by rw [← (hcg_46 (12, 4, 0) (by decide)).trans hIM]; exact q) a ha
  refine lv_pop2_2 hx hb dL_law_1437 rfl ?_
  refine lv_goto (tgt := 2005) hx hb dL_law_1438 (by decide) ?_
  exact W.widen (k := cells + 41) (n := slots + 8199) (by omega) (by omega) (kk L K Γ_45 f_43 H locs ls ⟨hP, hI, hL, hU, hAL, hS, hxq, hmq, hlq9, hfree9⟩ (lv_sub hl [0, 1, 2, 3] rfl))
set_option maxHeartbeats 4000000 in
set_option maxRecDepth 100000 in
theorem tl_law_27 {p : Program} {e : Env} {s : State} {m : MethodId} {below : List Frame} {meth : Method} {c : Code} (l : Launch) {b N : Nat} {xs : Nat → Int32} (C0 : lw_At p s m meth c b N xs) (D : va_G) (cy : Nat → ClassId) (hK : va_K D vwCl (tl_T cy) s) (hN : tl_ok s) (Z : ts_Y) {A : Nat → Prop} (hAe : A = fun q : Nat => s.heap.size ≤ q) (hZ : ts_Z A Z s s.heap) (xq mq : Nat) (i : Int32) (hi : 0 ≤ i.toInt ∧ i.toInt + 7 ≤ N ∧ N ≤ 3584) {cells slots : Nat} (hcs : cells + 41 ≤ 600000 ∧ slots + 8199 ≤ 7302249) {L : List Nat} {K : Nat → tk_K} {Γ : tk_G} {f : Nat → va_E} {H : Heap} {locs : List Loc} {ls : Array Slot} (S : lq_S D cy A s L K Γ f H locs xq mq) (hl : lv_has ls 4 [(3, .int i), (2, .ref mq), (1, .ref xq), (0, .ref b)]) (kk : ∀ (L : List Nat) (K : Nat → tk_K) (Γ : tk_G) (f : Nat → va_E) (H : Heap) (locs : List Loc) (ls : Array Slot), lq_S D cy A s L K Γ f H locs xq mq → lv_has ls 4 [(3, .int i), (2, .ref mq), (1, .ref xq), (0, .ref b)] → W p l e room_1 s m #[Value.ref b] below meth c H locs (cells + 41) (slots + 8199) (lw_Z below #[Value.ref b] s) (F0 m 2005 ls [])) : W p l e room_1 s m #[Value.ref b] below meth c H locs cells slots (lw_Z below #[Value.ref b] s) (F0 m 1441 ls []) := by
  obtain ⟨hx, hb, hr, hml, hown, hts, hX, hbl, hlocks, hgv⟩ := id C0
  obtain ⟨hP, hI, hL, hU, hAL, hS, hxq, hmq, hlq, hfree⟩ := S
  have hta : ∀ w ∈ tl_L, w.before #[Value.ref b] s = true := fun w h => hts w (List.mem_filter.mp h).1
  have hA : ∀ q : Nat, s.heap.size ≤ q → A q := fun q h => by rw [hAe]; exact h
  have hbA : ¬ A b := by rw [hAe]; exact Nat.not_le.mpr hbl
  have hAf : ∀ (H : Heap), s.heap.size ≤ H.size → ∀ q, tp_A L H.size q → A q := fun H h q hq => hq.elim (hAL q) (fun h2 => hA q (Nat.le_trans h h2))
  have hRc : room_1.cells = 600000 := rfl
  have hRs : room_1.slots = 7302249 := rfl
  have hI0 := hI
  have hD : va_D A (va_pl L f) := tp_D hL hAL
  have htx := hlq.2.2.2.2.1
  have hsd := hlq.2.2.1
  have hs := ts_hs hsd
  have hraw := ts_raw hsd
  have hslp := ts_slp hsd
  have hdp := ts_dp hsd
  have hm0 := hlq.2.2.2.2.2
  have hIM : Γ (12, 4, 0) = Γ (12, 4, 0) := rfl
  refine lv_aload_n hx hb dL_law_1441 rfl (lv_at hl 2 rfl) ?_
  refine lv_aload_n hx hb dL_law_1442 rfl (lv_at hl 3 rfl) ?_
  refine lv_iload_n hx hb dL_law_1443 rfl (lv_at hl 0 rfl) ?_
  refine lv_iconst (v := 1) hx hb dL_law_1444 (by decide) ?_
  refine lv_iadd hx hb dL_law_1445 ?_
  refine lv_topi (fun z_1 ez_1 => ?_)
  try have iz_1 : z_1.toInt = i.toInt + (1 : Int) := by rw [ez_1]; exact tl_addN i 1 rfl rfl (by omega) (by omega)
  refine va_sld hx hb hX hbl hbA hS (tl_in (by omega) (by omega)) dL_law_1446 ?_
  refine lv_topi (fun z_2 ez_2 => ?_)
  refine lv_aload_n hx hb dL_law_1447 rfl (lv_at hl 3 rfl) ?_
  refine lv_iload_n hx hb dL_law_1448 rfl (lv_at hl 0 rfl) ?_
  refine lv_iconst (v := 2) hx hb dL_law_1449 (by decide) ?_
  refine lv_iadd hx hb dL_law_1450 ?_
  refine lv_topi (fun z_3 ez_3 => ?_)
  try have iz_3 : z_3.toInt = i.toInt + (2 : Int) := by rw [ez_3]; exact tl_addN i 2 rfl rfl (by omega) (by omega)
  refine va_sld hx hb hX hbl hbA hS (tl_in (by omega) (by omega)) dL_law_1451 ?_
  refine lv_topi (fun z_4 ez_4 => ?_)
  obtain ⟨x_6, x_7, x_8, x_9, x_10, x_11, x_12, x_13, x_14, x_15, x_16, x_17, x_18, x_19, x_20, x_21, hf_5, hx_6, hx_7, hx_8, hx_9, hx_10, hx_11, hx_12, hx_13, hx_14, hx_15, hx_16, hx_17, hx_18, hx_19, hx_20, hx_21⟩ := (show tp_o_X L K (0) 0 (Γ (0, 0, 0)) (f xq) from hI.at hxq)
  refine tq_ci hS (hAf _ hS.1) (tq_rV (As := [.int z_2, .int z_4]) (rest := []) ⟨hx, hb, hml, hown, hta⟩ (tp_P.pre hK hN hL hU hI hP) (tp_recv hK hP hxq.1 hf_5 rfl) lk_L_130 (t_X11_smooth l D cy H.size L K Γ f xq z_2 z_4 hxq) rfl rfl ⟨Nat.le_of_ble_eq_true rfl, Nat.le_of_ble_eq_true rfl⟩ rfl hl.1 rfl (Nat.le_of_ble_eq_true rfl) dL_law_1452 ⟨by rw [hRc]; omega, by rw [hRs]; omega⟩) (fun r_23 f_24 H locs hw_22 hP hI hc_25 hS => ?_)
  have hD : va_D A (va_pl L f_24) := tp_D hL hAL
  have hf_26 := (tp_un hc_25 hxq (by decide)).trans hf_5
  refine lv_pop hx hb dL_law_1455 rfl ?_
  refine lv_aload_n hx hb dL_law_1456 rfl (lv_at hl 1 rfl) ?_
  refine lv_aload_n hx hb dL_law_1457 rfl (lv_at hl 3 rfl) ?_
  refine lv_iload_n hx hb dL_law_1458 rfl (lv_at hl 0 rfl) ?_
  refine lv_iconst (v := 1) hx hb dL_law_1459 (by decide) ?_
  refine lv_iadd hx hb dL_law_1460 ?_
  refine lv_topi (fun z_27 ez_27 => ?_)
  obtain rfl : z_1 = z_27 := ez_1.trans ez_27.symm
  refine va_sld hx hb hX hbl hbA hS (tl_in (by omega) (by omega)) dL_law_1461 ?_
  refine lv_topi (fun z_28 ez_28 => ?_)
  obtain rfl : z_2 = z_28 := ez_2.trans ez_28.symm
  refine lv_aload_n hx hb dL_law_1462 rfl (lv_at hl 3 rfl) ?_
  refine lv_iload_n hx hb dL_law_1463 rfl (lv_at hl 0 rfl) ?_
  refine lv_iconst (v := 2) hx hb dL_law_1464 (by decide) ?_
  refine lv_iadd hx hb dL_law_1465 ?_
  refine lv_topi (fun z_29 ez_29 => ?_)
  obtain rfl : z_3 = z_29 := ez_3.trans ez_29.symm
  refine va_sld hx hb hX hbl hbA hS (tl_in (by omega) (by omega)) dL_law_1466 ?_
  refine lv_topi (fun z_30 ez_30 => ?_)
  obtain rfl : z_4 = z_30 := ez_4.trans ez_30.symm
  obtain ⟨r_32, v_33, q_34, hf_31, hr_35, hv_36⟩ := (show tp_o_M L K 0 0 (Γ (39, 0, 0)) (f_24 mq) from hI.at hmq)
  refine tq_ciR hS (hAf _ hS.1) (tq_rV (As := [.int z_2, .int z_4]) (rest := []) ⟨hx, hb, hml, hown, hta⟩ (tp_P.pre hK hN hL hU hI hP) (tp_recv hK hP hmq.1 hf_31 rfl) lk_L_133 (r_X12_smooth l D cy H.size L K Γ f_24 mq z_2 z_4 hmq (by first | omega | (simp only [Int32.toInt_toInt64]; omega) | decide | assumption) (by first | omega | (simp only [Int32.toInt_toInt64]; omega) | decide | assumption)) rfl rfl ⟨Nat.le_of_ble_eq_true rfl, Nat.le_of_ble_eq_true rfl⟩ rfl hl.1 rfl (Nat.le_of_ble_eq_true rfl) dL_law_1467 ⟨by rw [hRc]; omega, by rw [hRs]; omega⟩) (fun r_38 f_39 Γ_41 H locs hw_37 hP hI hc_40 hcg_42 hS => ?_)
  have hD : va_D A (va_pl L f_39) := tp_D hL hAL
  have hf_43 := (tp_un hc_40 hxq (by decide)).trans hf_26
  have hw_37 : Γ_41 (39, 0, 0) 0 = Γ (39, 0, 0) 0 := hw_37
  have hlq9 : lq Γ_41 := hlq.quiet hcg_42 (by decide) (by omega)
  have hfree9 : ∀ j : Nat, Γ_41 (12, 4, 0) j = 0 → ∀ a ∈ L, ¬ (K a).2.2 = j + 1 := fun j q a ha => hfree j (by rw [← (hcg_42 (12, 4, 0) (by decide)).trans hIM]; exact q) a ha
  refine lv_pop hx hb dL_law_1470 rfl ?_
  refine lv_goto (tgt := 2005) hx hb dL_law_1471 (by decide) ?_
  exact W.widen (k := cells + 41) (n := slots + 8199) (by omega) (by omega) (kk L K Γ_41 f_39 H locs ls ⟨hP, hI, hL, hU, hAL, hS, hxq, hmq, hlq9, hfree9⟩ (lv_sub hl [0, 1, 2, 3] rfl))
set_option maxHeartbeats 4000000 in
set_option maxRecDepth 100000 in
theorem tl_law_28 {p : Program} {e : Env} {s : State} {m : MethodId} {below : List Frame} {meth : Method} {c : Code} (l : Launch) {b N : Nat} {xs : Nat → Int32} (C0 : lw_At p s m meth c b N xs) (D : va_G) (cy : Nat → ClassId) (hK : va_K D vwCl (tl_T cy) s) (hN : tl_ok s) (Z : ts_Y) {A : Nat → Prop} (hAe : A = fun q : Nat => s.heap.size ≤ q) (hZ : ts_Z A Z s s.heap) (xq mq : Nat) (i : Int32) (hi : 0 ≤ i.toInt ∧ i.toInt + 7 ≤ N ∧ N ≤ 3584) {cells slots : Nat} (hcs : cells + 41 ≤ 600000 ∧ slots + 8199 ≤ 7302249) {L : List Nat} {K : Nat → tk_K} {Γ : tk_G} {f : Nat → va_E} {H : Heap} {locs : List Loc} {ls : Array Slot} (S : lq_S D cy A s L K Γ f H locs xq mq) (hl : lv_has ls 4 [(3, .int i), (2, .ref mq), (1, .ref xq), (0, .ref b)]) (kk : ∀ (L : List Nat) (K : Nat → tk_K) (Γ : tk_G) (f : Nat → va_E) (H : Heap) (locs : List Loc) (ls : Array Slot), lq_S D cy A s L K Γ f H locs xq mq → lv_has ls 4 [(3, .int i), (2, .ref mq), (1, .ref xq), (0, .ref b)] → W p l e room_1 s m #[Value.ref b] below meth c H locs (cells + 41) (slots + 8199) (lw_Z below #[Value.ref b] s) (F0 m 2005 ls [])) : W p l e room_1 s m #[Value.ref b] below meth c H locs cells slots (lw_Z below #[Value.ref b] s) (F0 m 1474 ls []) := by
  obtain ⟨hx, hb, hr, hml, hown, hts, hX, hbl, hlocks, hgv⟩ := id C0
  obtain ⟨hP, hI, hL, hU, hAL, hS, hxq, hmq, hlq, hfree⟩ := S
  have hta : ∀ w ∈ tl_L, w.before #[Value.ref b] s = true := fun w h => hts w (List.mem_filter.mp h).1
  have hA : ∀ q : Nat, s.heap.size ≤ q → A q := fun q h => by rw [hAe]; exact h
  have hbA : ¬ A b := by rw [hAe]; exact Nat.not_le.mpr hbl
  have hAf : ∀ (H : Heap), s.heap.size ≤ H.size → ∀ q, tp_A L H.size q → A q := fun H h q hq => hq.elim (hAL q) (fun h2 => hA q (Nat.le_trans h h2))
  have hRc : room_1.cells = 600000 := rfl
  have hRs : room_1.slots = 7302249 := rfl
  have hI0 := hI
  have hD : va_D A (va_pl L f) := tp_D hL hAL
  have htx := hlq.2.2.2.2.1
  have hsd := hlq.2.2.1
  have hs := ts_hs hsd
  have hraw := ts_raw hsd
  have hslp := ts_slp hsd
  have hdp := ts_dp hsd
  have hm0 := hlq.2.2.2.2.2
  have hIM : Γ (12, 4, 0) = Γ (12, 4, 0) := rfl
  refine lv_aload_n hx hb dL_law_1474 rfl (lv_at hl 2 rfl) ?_
  refine lv_aload_n hx hb dL_law_1475 rfl (lv_at hl 3 rfl) ?_
  refine lv_iload_n hx hb dL_law_1476 rfl (lv_at hl 0 rfl) ?_
  refine lv_iconst (v := 1) hx hb dL_law_1477 (by decide) ?_
  refine lv_iadd hx hb dL_law_1478 ?_
  refine lv_topi (fun z_1 ez_1 => ?_)
  try have iz_1 : z_1.toInt = i.toInt + (1 : Int) := by rw [ez_1]; exact tl_addN i 1 rfl rfl (by omega) (by omega)
  refine va_sld hx hb hX hbl hbA hS (tl_in (by omega) (by omega)) dL_law_1479 ?_
  refine lv_topi (fun z_2 ez_2 => ?_)
  refine lv_aload_n hx hb dL_law_1480 rfl (lv_at hl 3 rfl) ?_
  refine lv_iload_n hx hb dL_law_1481 rfl (lv_at hl 0 rfl) ?_
  refine lv_iconst (v := 2) hx hb dL_law_1482 (by decide) ?_
  refine lv_iadd hx hb dL_law_1483 ?_
  refine lv_topi (fun z_3 ez_3 => ?_)
  try have iz_3 : z_3.toInt = i.toInt + (2 : Int) := by rw [ez_3]; exact tl_addN i 2 rfl rfl (by omega) (by omega)
  refine va_sld hx hb hX hbl hbA hS (tl_in (by omega) (by omega)) dL_law_1484 ?_
  refine lv_topi (fun z_4 ez_4 => ?_)
  refine lv_aload_n hx hb dL_law_1485 rfl (lv_at hl 3 rfl) ?_
  refine lv_iload_n hx hb dL_law_1486 rfl (lv_at hl 0 rfl) ?_
  refine lv_iconst (v := 3) hx hb dL_law_1487 (by decide) ?_
  refine lv_iadd hx hb dL_law_1488 ?_
  refine lv_topi (fun z_5 ez_5 => ?_)
  try have iz_5 : z_5.toInt = i.toInt + (3 : Int) := by rw [ez_5]; exact tl_addN i 3 rfl rfl (by omega) (by omega)
  refine va_sld hx hb hX hbl hbA hS (tl_in (by omega) (by omega)) dL_law_1489 ?_
  refine lv_topi (fun z_6 ez_6 => ?_)
  obtain ⟨x_8, x_9, x_10, x_11, x_12, x_13, x_14, x_15, x_16, x_17, x_18, x_19, x_20, x_21, x_22, x_23, hf_7, hx_8, hx_9, hx_10, hx_11, hx_12, hx_13, hx_14, hx_15, hx_16, hx_17, hx_18, hx_19, hx_20, hx_21, hx_22, hx_23⟩ := (show tp_o_X L K (0) 0 (Γ (0, 0, 0)) (f xq) from hI.at hxq)
  refine tq_ci hS (hAf _ hS.1) (tq_rV (As := [.int z_2, .int z_4, .int z_6]) (rest := []) ⟨hx, hb, hml, hown, hta⟩ (tp_P.pre hK hN hL hU hI hP) (tp_recv hK hP hxq.1 hf_7 rfl) lk_L_134 (t_X11_without l D cy H.size L K Γ f xq z_2 z_4 z_6 hxq) rfl rfl ⟨Nat.le_of_ble_eq_true rfl, Nat.le_of_ble_eq_true rfl⟩ rfl hl.1 rfl (Nat.le_of_ble_eq_true rfl) dL_law_1490 ⟨by rw [hRc]; omega, by rw [hRs]; omega⟩) (fun r_25 f_26 H locs hw_24 hP hI hc_27 hS => ?_)
  have hD : va_D A (va_pl L f_26) := tp_D hL hAL
  have hf_28 := (tp_un hc_27 hxq (by decide)).trans hf_7
  refine lv_pop hx hb dL_law_1493 rfl ?_
  refine lv_aload_n hx hb dL_law_1494 rfl (lv_at hl 1 rfl) ?_
  refine lv_aload_n hx hb dL_law_1495 rfl (lv_at hl 3 rfl) ?_
  refine lv_iload_n hx hb dL_law_1496 rfl (lv_at hl 0 rfl) ?_
  refine lv_iconst (v := 1) hx hb dL_law_1497 (by decide) ?_
  refine lv_iadd hx hb dL_law_1498 ?_
  refine lv_topi (fun z_29 ez_29 => ?_)
  obtain rfl : z_1 = z_29 := ez_1.trans ez_29.symm
  refine va_sld hx hb hX hbl hbA hS (tl_in (by omega) (by omega)) dL_law_1499 ?_
  refine lv_topi (fun z_30 ez_30 => ?_)
  obtain rfl : z_2 = z_30 := ez_2.trans ez_30.symm
  refine lv_aload_n hx hb dL_law_1500 rfl (lv_at hl 3 rfl) ?_
  refine lv_iload_n hx hb dL_law_1501 rfl (lv_at hl 0 rfl) ?_
  refine lv_iconst (v := 2) hx hb dL_law_1502 (by decide) ?_
  refine lv_iadd hx hb dL_law_1503 ?_
  refine lv_topi (fun z_31 ez_31 => ?_)
  obtain rfl : z_3 = z_31 := ez_3.trans ez_31.symm
  refine va_sld hx hb hX hbl hbA hS (tl_in (by omega) (by omega)) dL_law_1504 ?_
  refine lv_topi (fun z_32 ez_32 => ?_)
  obtain rfl : z_4 = z_32 := ez_4.trans ez_32.symm
  refine lv_aload_n hx hb dL_law_1505 rfl (lv_at hl 3 rfl) ?_
  refine lv_iload_n hx hb dL_law_1506 rfl (lv_at hl 0 rfl) ?_
  refine lv_iconst (v := 3) hx hb dL_law_1507 (by decide) ?_
  refine lv_iadd hx hb dL_law_1508 ?_
  refine lv_topi (fun z_33 ez_33 => ?_)
  obtain rfl : z_5 = z_33 := ez_5.trans ez_33.symm
  refine va_sld hx hb hX hbl hbA hS (tl_in (by omega) (by omega)) dL_law_1509 ?_
  refine lv_topi (fun z_34 ez_34 => ?_)
  obtain rfl : z_6 = z_34 := ez_6.trans ez_34.symm
  obtain ⟨r_36, v_37, q_38, hf_35, hr_39, hv_40⟩ := (show tp_o_M L K 0 0 (Γ (39, 0, 0)) (f_26 mq) from hI.at hmq)
  refine tq_ciR hS (hAf _ hS.1) (tq_rV (As := [.int z_2, .int z_4, .int z_6]) (rest := []) ⟨hx, hb, hml, hown, hta⟩ (tp_P.pre hK hN hL hU hI hP) (tp_recv hK hP hmq.1 hf_35 rfl) lk_L_137 (r_X12_without l D cy H.size L K Γ f_26 mq z_2 z_4 z_6 hmq (by first | omega | (simp only [Int32.toInt_toInt64]; omega) | decide | assumption) (by first | omega | (simp only [Int32.toInt_toInt64]; omega) | decide | assumption)) rfl rfl ⟨Nat.le_of_ble_eq_true rfl, Nat.le_of_ble_eq_true rfl⟩ rfl hl.1 rfl (Nat.le_of_ble_eq_true rfl) dL_law_1510 ⟨by rw [hRc]; omega, by rw [hRs]; omega⟩) (fun r_42 f_43 Γ_45 H locs hw_41 hP hI hc_44 hcg_46 hS => ?_)
  have hD : va_D A (va_pl L f_43) := tp_D hL hAL
  have hf_47 := (tp_un hc_44 hxq (by decide)).trans hf_28
  have hw_41 : Γ_45 (39, 0, 0) 0 = Γ (39, 0, 0) 0 := hw_41
  have hlq9 : lq Γ_45 := hlq.quiet hcg_46 (by decide) (by omega)
  have hfree9 : ∀ j : Nat, Γ_45 (12, 4, 0) j = 0 → ∀ a ∈ L, ¬ (K a).2.2 = j + 1 := fun j q a ha => hfree j (by rw [← (hcg_46 (12, 4, 0) (by decide)).trans hIM]; exact q) a ha
  refine lv_pop hx hb dL_law_1513 rfl ?_
  refine lv_goto (tgt := 2005) hx hb dL_law_1514 (by decide) ?_
  exact W.widen (k := cells + 41) (n := slots + 8199) (by omega) (by omega) (kk L K Γ_45 f_43 H locs ls ⟨hP, hI, hL, hU, hAL, hS, hxq, hmq, hlq9, hfree9⟩ (lv_sub hl [0, 1, 2, 3] rfl))
set_option maxHeartbeats 4000000 in
set_option maxRecDepth 100000 in
theorem tl_law_29 {p : Program} {e : Env} {s : State} {m : MethodId} {below : List Frame} {meth : Method} {c : Code} (l : Launch) {b N : Nat} {xs : Nat → Int32} (C0 : lw_At p s m meth c b N xs) (D : va_G) (cy : Nat → ClassId) (hK : va_K D vwCl (tl_T cy) s) (hN : tl_ok s) (Z : ts_Y) {A : Nat → Prop} (hAe : A = fun q : Nat => s.heap.size ≤ q) (hZ : ts_Z A Z s s.heap) (xq mq : Nat) (i : Int32) (hi : 0 ≤ i.toInt ∧ i.toInt + 7 ≤ N ∧ N ≤ 3584) {cells slots : Nat} (hcs : cells + 41 ≤ 600000 ∧ slots + 8199 ≤ 7302249) {L : List Nat} {K : Nat → tk_K} {Γ : tk_G} {f : Nat → va_E} {H : Heap} {locs : List Loc} {ls : Array Slot} (S : lq_S D cy A s L K Γ f H locs xq mq) (hl : lv_has ls 4 [(3, .int i), (2, .ref mq), (1, .ref xq), (0, .ref b)]) (kk : ∀ (L : List Nat) (K : Nat → tk_K) (Γ : tk_G) (f : Nat → va_E) (H : Heap) (locs : List Loc) (ls : Array Slot), lq_S D cy A s L K Γ f H locs xq mq → lv_has ls 4 [(3, .int i), (2, .ref mq), (1, .ref xq), (0, .ref b)] → W p l e room_1 s m #[Value.ref b] below meth c H locs (cells + 41) (slots + 8199) (lw_Z below #[Value.ref b] s) (F0 m 2005 ls [])) : W p l e room_1 s m #[Value.ref b] below meth c H locs cells slots (lw_Z below #[Value.ref b] s) (F0 m 1517 ls []) := by
  obtain ⟨hx, hb, hr, hml, hown, hts, hX, hbl, hlocks, hgv⟩ := id C0
  obtain ⟨hP, hI, hL, hU, hAL, hS, hxq, hmq, hlq, hfree⟩ := S
  have hta : ∀ w ∈ tl_L, w.before #[Value.ref b] s = true := fun w h => hts w (List.mem_filter.mp h).1
  have hA : ∀ q : Nat, s.heap.size ≤ q → A q := fun q h => by rw [hAe]; exact h
  have hbA : ¬ A b := by rw [hAe]; exact Nat.not_le.mpr hbl
  have hAf : ∀ (H : Heap), s.heap.size ≤ H.size → ∀ q, tp_A L H.size q → A q := fun H h q hq => hq.elim (hAL q) (fun h2 => hA q (Nat.le_trans h h2))
  have hRc : room_1.cells = 600000 := rfl
  have hRs : room_1.slots = 7302249 := rfl
  have hI0 := hI
  have hD : va_D A (va_pl L f) := tp_D hL hAL
  have htx := hlq.2.2.2.2.1
  have hsd := hlq.2.2.1
  have hs := ts_hs hsd
  have hraw := ts_raw hsd
  have hslp := ts_slp hsd
  have hdp := ts_dp hsd
  have hm0 := hlq.2.2.2.2.2
  have hIM : Γ (12, 4, 0) = Γ (12, 4, 0) := rfl
  refine lv_aload_n hx hb dL_law_1517 rfl (lv_at hl 2 rfl) ?_
  refine lv_aload_n hx hb dL_law_1518 rfl (lv_at hl 3 rfl) ?_
  refine lv_iload_n hx hb dL_law_1519 rfl (lv_at hl 0 rfl) ?_
  refine lv_iconst (v := 1) hx hb dL_law_1520 (by decide) ?_
  refine lv_iadd hx hb dL_law_1521 ?_
  refine lv_topi (fun z_1 ez_1 => ?_)
  try have iz_1 : z_1.toInt = i.toInt + (1 : Int) := by rw [ez_1]; exact tl_addN i 1 rfl rfl (by omega) (by omega)
  refine va_sld hx hb hX hbl hbA hS (tl_in (by omega) (by omega)) dL_law_1522 ?_
  refine lv_topi (fun z_2 ez_2 => ?_)
  refine lv_aload_n hx hb dL_law_1523 rfl (lv_at hl 3 rfl) ?_
  refine lv_iload_n hx hb dL_law_1524 rfl (lv_at hl 0 rfl) ?_
  refine lv_iconst (v := 2) hx hb dL_law_1525 (by decide) ?_
  refine lv_iadd hx hb dL_law_1526 ?_
  refine lv_topi (fun z_3 ez_3 => ?_)
  try have iz_3 : z_3.toInt = i.toInt + (2 : Int) := by rw [ez_3]; exact tl_addN i 2 rfl rfl (by omega) (by omega)
  refine va_sld hx hb hX hbl hbA hS (tl_in (by omega) (by omega)) dL_law_1527 ?_
  refine lv_topi (fun z_4 ez_4 => ?_)
  obtain ⟨x_6, x_7, x_8, x_9, x_10, x_11, x_12, x_13, x_14, x_15, x_16, x_17, x_18, x_19, x_20, x_21, hf_5, hx_6, hx_7, hx_8, hx_9, hx_10, hx_11, hx_12, hx_13, hx_14, hx_15, hx_16, hx_17, hx_18, hx_19, hx_20, hx_21⟩ := (show tp_o_X L K (0) 0 (Γ (0, 0, 0)) (f xq) from hI.at hxq)
  refine tq_ci hS (hAf _ hS.1) (tq_rV (As := [.int z_2, .int z_4]) (rest := []) ⟨hx, hb, hml, hown, hta⟩ (tp_P.pre hK hN hL hU hI hP) (tp_recv hK hP hxq.1 hf_5 rfl) lk_L_138 (t_X11_weightiest l D cy H.size L K Γ f xq z_2 z_4 hxq) rfl rfl ⟨Nat.le_of_ble_eq_true rfl, Nat.le_of_ble_eq_true rfl⟩ rfl hl.1 rfl (Nat.le_of_ble_eq_true rfl) dL_law_1528 ⟨by rw [hRc]; omega, by rw [hRs]; omega⟩) (fun r_23 f_24 H locs hw_22 hP hI hc_25 hS => ?_)
  have hD : va_D A (va_pl L f_24) := tp_D hL hAL
  have hf_26 := (tp_un hc_25 hxq (by decide)).trans hf_5
  refine lv_pop hx hb dL_law_1531 rfl ?_
  refine lv_aload_n hx hb dL_law_1532 rfl (lv_at hl 1 rfl) ?_
  refine lv_aload_n hx hb dL_law_1533 rfl (lv_at hl 3 rfl) ?_
  refine lv_iload_n hx hb dL_law_1534 rfl (lv_at hl 0 rfl) ?_
  refine lv_iconst (v := 1) hx hb dL_law_1535 (by decide) ?_
  refine lv_iadd hx hb dL_law_1536 ?_
  refine lv_topi (fun z_27 ez_27 => ?_)
  obtain rfl : z_1 = z_27 := ez_1.trans ez_27.symm
  refine va_sld hx hb hX hbl hbA hS (tl_in (by omega) (by omega)) dL_law_1537 ?_
  refine lv_topi (fun z_28 ez_28 => ?_)
  obtain rfl : z_2 = z_28 := ez_2.trans ez_28.symm
  refine lv_aload_n hx hb dL_law_1538 rfl (lv_at hl 3 rfl) ?_
  refine lv_iload_n hx hb dL_law_1539 rfl (lv_at hl 0 rfl) ?_
  refine lv_iconst (v := 2) hx hb dL_law_1540 (by decide) ?_
  refine lv_iadd hx hb dL_law_1541 ?_
  refine lv_topi (fun z_29 ez_29 => ?_)
  obtain rfl : z_3 = z_29 := ez_3.trans ez_29.symm
  refine va_sld hx hb hX hbl hbA hS (tl_in (by omega) (by omega)) dL_law_1542 ?_
  refine lv_topi (fun z_30 ez_30 => ?_)
  obtain rfl : z_4 = z_30 := ez_4.trans ez_30.symm
  obtain ⟨r_32, v_33, q_34, hf_31, hr_35, hv_36⟩ := (show tp_o_M L K 0 0 (Γ (39, 0, 0)) (f_24 mq) from hI.at hmq)
  refine tq_ciR hS (hAf _ hS.1) (tq_rV (As := [.int z_2, .int z_4]) (rest := []) ⟨hx, hb, hml, hown, hta⟩ (tp_P.pre hK hN hL hU hI hP) (tp_recv hK hP hmq.1 hf_31 rfl) lk_L_141 (r_X12_weightiest l D cy H.size L K Γ f_24 mq z_2 z_4 hmq (by first | omega | (simp only [Int32.toInt_toInt64]; omega) | decide | assumption) (by first | omega | (simp only [Int32.toInt_toInt64]; omega) | decide | assumption)) rfl rfl ⟨Nat.le_of_ble_eq_true rfl, Nat.le_of_ble_eq_true rfl⟩ rfl hl.1 rfl (Nat.le_of_ble_eq_true rfl) dL_law_1543 ⟨by rw [hRc]; omega, by rw [hRs]; omega⟩) (fun r_38 f_39 Γ_41 H locs hw_37 hP hI hc_40 hcg_42 hS => ?_)
  have hD : va_D A (va_pl L f_39) := tp_D hL hAL
  have hf_43 := (tp_un hc_40 hxq (by decide)).trans hf_26
  have hw_37 : Γ_41 (39, 0, 0) 0 = Γ (39, 0, 0) 0 := hw_37
  have hlq9 : lq Γ_41 := hlq.quiet hcg_42 (by decide) (by omega)
  have hfree9 : ∀ j : Nat, Γ_41 (12, 4, 0) j = 0 → ∀ a ∈ L, ¬ (K a).2.2 = j + 1 := fun j q a ha => hfree j (by rw [← (hcg_42 (12, 4, 0) (by decide)).trans hIM]; exact q) a ha
  refine lv_pop hx hb dL_law_1546 rfl ?_
  refine lv_goto (tgt := 2005) hx hb dL_law_1547 (by decide) ?_
  exact W.widen (k := cells + 41) (n := slots + 8199) (by omega) (by omega) (kk L K Γ_41 f_39 H locs ls ⟨hP, hI, hL, hU, hAL, hS, hxq, hmq, hlq9, hfree9⟩ (lv_sub hl [0, 1, 2, 3] rfl))
