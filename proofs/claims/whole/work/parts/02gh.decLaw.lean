theorem d_Law_law_927 : decode b_Law_law 927 = .ok (.aload_n 0, 1) := by decide +kernel
theorem d_Law_law_928 : decode b_Law_law 928 = .ok (.iload 4, 2) := by decide +kernel
theorem d_Law_law_930 : decode b_Law_law 930 = .ok (.iconst 1, 1) := by decide +kernel
theorem d_Law_law_931 : decode b_Law_law 931 = .ok (.iadd, 1) := by decide +kernel
theorem d_Law_law_932 : decode b_Law_law 932 = .ok (.iaload, 1) := by decide +kernel
theorem d_Law_law_933 : decode b_Law_law 933 = .ok (.aload_n 0, 1) := by decide +kernel
theorem d_Law_law_934 : decode b_Law_law 934 = .ok (.iload 4, 2) := by decide +kernel
theorem d_Law_law_936 : decode b_Law_law 936 = .ok (.iconst 2, 1) := by decide +kernel
theorem d_Law_law_937 : decode b_Law_law 937 = .ok (.iadd, 1) := by decide +kernel
theorem d_Law_law_938 : decode b_Law_law 938 = .ok (.iaload, 1) := by decide +kernel
theorem d_Law_law_939 : decode b_Law_law 939 = .ok (.ifCond .eq 7, 3) := by decide +kernel
theorem d_Law_law_942 : decode b_Law_law 942 = .ok (.iconst 1, 1) := by decide +kernel
theorem d_Law_law_943 : decode b_Law_law 943 = .ok (.goto 4, 3) := by decide +kernel
theorem d_Law_law_946 : decode b_Law_law 946 = .ok (.iconst 0, 1) := by decide +kernel
theorem d_Law_law_947 : decode b_Law_law 947 = .ok (.aload_n 0, 1) := by decide +kernel
theorem d_Law_law_948 : decode b_Law_law 948 = .ok (.iload 4, 2) := by decide +kernel
theorem d_Law_law_950 : decode b_Law_law 950 = .ok (.iconst 3, 1) := by decide +kernel
theorem d_Law_law_951 : decode b_Law_law 951 = .ok (.iadd, 1) := by decide +kernel
theorem d_Law_law_952 : decode b_Law_law 952 = .ok (.iaload, 1) := by decide +kernel
theorem d_Law_law_953 : decode b_Law_law 953 = .ok (.invokevirtual 127, 3) := by decide +kernel
theorem d_Law_law_956 : decode b_Law_law 956 = .ok (.if_icmp .eq 158, 3) := by decide +kernel
theorem d_Law_law_959 : decode b_Law_law 959 = .ok (.iconst 0, 1) := by decide +kernel
theorem d_Law_law_960 : decode b_Law_law 960 = .ok (.ireturn, 1) := by decide +kernel
theorem d_Law_law_961 : decode b_Law_law 961 = .ok (.aload_n 1, 1) := by decide +kernel
theorem d_Law_law_962 : decode b_Law_law 962 = .ok (.aload_n 0, 1) := by decide +kernel
theorem d_Law_law_963 : decode b_Law_law 963 = .ok (.iload 4, 2) := by decide +kernel
theorem d_Law_law_965 : decode b_Law_law 965 = .ok (.iconst 1, 1) := by decide +kernel
theorem d_Law_law_966 : decode b_Law_law 966 = .ok (.iadd, 1) := by decide +kernel
theorem d_Law_law_967 : decode b_Law_law 967 = .ok (.iaload, 1) := by decide +kernel
theorem d_Law_law_968 : decode b_Law_law 968 = .ok (.aload_n 0, 1) := by decide +kernel
theorem d_Law_law_969 : decode b_Law_law 969 = .ok (.iload 4, 2) := by decide +kernel
theorem d_Law_law_971 : decode b_Law_law 971 = .ok (.iconst 2, 1) := by decide +kernel
theorem d_Law_law_972 : decode b_Law_law 972 = .ok (.iadd, 1) := by decide +kernel
theorem d_Law_law_973 : decode b_Law_law 973 = .ok (.iaload, 1) := by decide +kernel
theorem d_Law_law_974 : decode b_Law_law 974 = .ok (.invokevirtual 128, 3) := by decide +kernel
theorem d_Law_law_977 : decode b_Law_law 977 = .ok (.aload_n 2, 1) := by decide +kernel
theorem d_Law_law_978 : decode b_Law_law 978 = .ok (.aload_n 0, 1) := by decide +kernel
theorem d_Law_law_979 : decode b_Law_law 979 = .ok (.iload 4, 2) := by decide +kernel
theorem d_Law_law_981 : decode b_Law_law 981 = .ok (.iconst 1, 1) := by decide +kernel
theorem d_Law_law_982 : decode b_Law_law 982 = .ok (.iadd, 1) := by decide +kernel
theorem d_Law_law_983 : decode b_Law_law 983 = .ok (.iaload, 1) := by decide +kernel
theorem d_Law_law_984 : decode b_Law_law 984 = .ok (.aload_n 0, 1) := by decide +kernel
theorem d_Law_law_985 : decode b_Law_law 985 = .ok (.iload 4, 2) := by decide +kernel
theorem d_Law_law_987 : decode b_Law_law 987 = .ok (.iconst 2, 1) := by decide +kernel
theorem d_Law_law_988 : decode b_Law_law 988 = .ok (.iadd, 1) := by decide +kernel
theorem d_Law_law_989 : decode b_Law_law 989 = .ok (.iaload, 1) := by decide +kernel
theorem d_Law_law_990 : decode b_Law_law 990 = .ok (.invokevirtual 132, 3) := by decide +kernel
theorem d_Law_law_993 : decode b_Law_law 993 = .ok (.if_icmp .eq 121, 3) := by decide +kernel
theorem d_Law_law_996 : decode b_Law_law 996 = .ok (.iconst 0, 1) := by decide +kernel
theorem d_Law_law_997 : decode b_Law_law 997 = .ok (.ireturn, 1) := by decide +kernel
theorem d_Law_law_998 : decode b_Law_law 998 = .ok (.aload_n 1, 1) := by decide +kernel
theorem d_Law_law_999 : decode b_Law_law 999 = .ok (.aload_n 0, 1) := by decide +kernel
