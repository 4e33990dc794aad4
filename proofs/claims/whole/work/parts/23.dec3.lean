theorem dL_law__828 : decode cL_law_ 828 = .ok (.istore 5, 2) := by decide +kernel
theorem dL_law__830 : decode cL_law_ 830 = .ok (.aload_n 2, 1) := by decide +kernel
theorem dL_law__831 : decode cL_law_ 831 = .ok (.aload_n 0, 1) := by decide +kernel
theorem dL_law__832 : decode cL_law_ 832 = .ok (.iload 4, 2) := by decide +kernel
theorem dL_law__834 : decode cL_law_ 834 = .ok (.iconst 1, 1) := by decide +kernel
theorem dL_law__835 : decode cL_law_ 835 = .ok (.iadd, 1) := by decide +kernel
theorem dL_law__836 : decode cL_law_ 836 = .ok (.iaload, 1) := by decide +kernel
theorem dL_law__837 : decode cL_law_ 837 = .ok (.invokevirtual 140, 3) := by decide +kernel
theorem dL_law__840 : decode cL_law_ 840 = .ok (.istore 6, 2) := by decide +kernel
theorem dL_law__842 : decode cL_law_ 842 = .ok (.aload_n 2, 1) := by decide +kernel
theorem dL_law__843 : decode cL_law_ 843 = .ok (.invokevirtual 102, 3) := by decide +kernel
theorem dL_law__846 : decode cL_law_ 846 = .ok (.iload 5, 2) := by decide +kernel
theorem dL_law__848 : decode cL_law_ 848 = .ok (.if_icmp .eq 5, 3) := by decide +kernel
theorem dL_law__851 : decode cL_law_ 851 = .ok (.iconst 0, 1) := by decide +kernel
theorem dL_law__852 : decode cL_law_ 852 = .ok (.ireturn, 1) := by decide +kernel
theorem dL_law__853 : decode cL_law_ 853 = .ok (.iload 5, 2) := by decide +kernel
theorem dL_law__855 : decode cL_law_ 855 = .ok (.ifCond .ne 15, 3) := by decide +kernel
theorem dL_law__858 : decode cL_law_ 858 = .ok (.aload_n 3, 1) := by decide +kernel
theorem dL_law__859 : decode cL_law_ 859 = .ok (.iconst 0, 1) := by decide +kernel
theorem dL_law__860 : decode cL_law_ 860 = .ok (.laload, 1) := by decide +kernel
theorem dL_law__861 : decode cL_law_ 861 = .ok (.iload 6, 2) := by decide +kernel
theorem dL_law__863 : decode cL_law_ 863 = .ok (.i2l, 1) := by decide +kernel
theorem dL_law__864 : decode cL_law_ 864 = .ok (.lcmp, 1) := by decide +kernel
theorem dL_law__865 : decode cL_law_ 865 = .ok (.ifCond .eq 5, 3) := by decide +kernel
theorem dL_law__868 : decode cL_law_ 868 = .ok (.iconst 0, 1) := by decide +kernel
theorem dL_law__869 : decode cL_law_ 869 = .ok (.ireturn, 1) := by decide +kernel
theorem dL_law__870 : decode cL_law_ 870 = .ok (.goto 901, 3) := by decide +kernel
theorem dL_law__873 : decode cL_law_ 873 = .ok (.aload_n 1, 1) := by decide +kernel
theorem dL_law__874 : decode cL_law_ 874 = .ok (.invokevirtual 141, 3) := by decide +kernel
theorem dL_law__877 : decode cL_law_ 877 = .ok (.aload_n 2, 1) := by decide +kernel
theorem dL_law__878 : decode cL_law_ 878 = .ok (.invokevirtual 144, 3) := by decide +kernel
theorem dL_law__881 : decode cL_law_ 881 = .ok (.if_icmp .eq 890, 3) := by decide +kernel
theorem dL_law__884 : decode cL_law_ 884 = .ok (.iconst 0, 1) := by decide +kernel
theorem dL_law__885 : decode cL_law_ 885 = .ok (.ireturn, 1) := by decide +kernel
theorem dL_law__886 : decode cL_law_ 886 = .ok (.aload_n 1, 1) := by decide +kernel
theorem dL_law__887 : decode cL_law_ 887 = .ok (.invokevirtual 145, 3) := by decide +kernel
theorem dL_law__890 : decode cL_law_ 890 = .ok (.aload_n 2, 1) := by decide +kernel
theorem dL_law__891 : decode cL_law_ 891 = .ok (.invokevirtual 148, 3) := by decide +kernel
theorem dL_law__894 : decode cL_law_ 894 = .ok (.if_icmp .eq 877, 3) := by decide +kernel
theorem dL_law__897 : decode cL_law_ 897 = .ok (.iconst 0, 1) := by decide +kernel
theorem dL_law__898 : decode cL_law_ 898 = .ok (.ireturn, 1) := by decide +kernel
theorem dL_law__899 : decode cL_law_ 899 = .ok (.aload_n 1, 1) := by decide +kernel
theorem dL_law__900 : decode cL_law_ 900 = .ok (.aload_n 3, 1) := by decide +kernel
theorem dL_law__901 : decode cL_law_ 901 = .ok (.invokestatic 149, 3) := by decide +kernel
theorem dL_law__904 : decode cL_law_ 904 = .ok (.istore 5, 2) := by decide +kernel
theorem dL_law__906 : decode cL_law_ 906 = .ok (.aload_n 2, 1) := by decide +kernel
theorem dL_law__907 : decode cL_law_ 907 = .ok (.invokevirtual 152, 3) := by decide +kernel
theorem dL_law__910 : decode cL_law_ 910 = .ok (.istore 6, 2) := by decide +kernel
theorem dL_law__912 : decode cL_law_ 912 = .ok (.aload_n 2, 1) := by decide +kernel
theorem dL_law__913 : decode cL_law_ 913 = .ok (.invokevirtual 102, 3) := by decide +kernel
theorem dL_law__916 : decode cL_law_ 916 = .ok (.iload 5, 2) := by decide +kernel
theorem dL_law__918 : decode cL_law_ 918 = .ok (.if_icmp .eq 5, 3) := by decide +kernel
theorem dL_law__921 : decode cL_law_ 921 = .ok (.iconst 0, 1) := by decide +kernel
theorem dL_law__922 : decode cL_law_ 922 = .ok (.ireturn, 1) := by decide +kernel
theorem dL_law__923 : decode cL_law_ 923 = .ok (.iload 5, 2) := by decide +kernel
theorem dL_law__925 : decode cL_law_ 925 = .ok (.ifCond .ne 15, 3) := by decide +kernel
theorem dL_law__928 : decode cL_law_ 928 = .ok (.aload_n 3, 1) := by decide +kernel
theorem dL_law__929 : decode cL_law_ 929 = .ok (.iconst 0, 1) := by decide +kernel
theorem dL_law__930 : decode cL_law_ 930 = .ok (.laload, 1) := by decide +kernel
theorem dL_law__931 : decode cL_law_ 931 = .ok (.iload 6, 2) := by decide +kernel
theorem dL_law__933 : decode cL_law_ 933 = .ok (.i2l, 1) := by decide +kernel
theorem dL_law__934 : decode cL_law_ 934 = .ok (.lcmp, 1) := by decide +kernel
theorem dL_law__935 : decode cL_law_ 935 = .ok (.ifCond .eq 5, 3) := by decide +kernel
theorem dL_law__938 : decode cL_law_ 938 = .ok (.iconst 0, 1) := by decide +kernel
theorem dL_law__939 : decode cL_law_ 939 = .ok (.ireturn, 1) := by decide +kernel
theorem dL_law__940 : decode cL_law_ 940 = .ok (.goto 831, 3) := by decide +kernel
theorem dL_law__943 : decode cL_law_ 943 = .ok (.aload_n 1, 1) := by decide +kernel
theorem dL_law__944 : decode cL_law_ 944 = .ok (.aload_n 0, 1) := by decide +kernel
theorem dL_law__945 : decode cL_law_ 945 = .ok (.iload 4, 2) := by decide +kernel
theorem dL_law__947 : decode cL_law_ 947 = .ok (.iconst 1, 1) := by decide +kernel
theorem dL_law__948 : decode cL_law_ 948 = .ok (.iadd, 1) := by decide +kernel
theorem dL_law__949 : decode cL_law_ 949 = .ok (.iaload, 1) := by decide +kernel
theorem dL_law__950 : decode cL_law_ 950 = .ok (.aload_n 3, 1) := by decide +kernel
theorem dL_law__951 : decode cL_law_ 951 = .ok (.invokestatic 153, 3) := by decide +kernel
theorem dL_law__954 : decode cL_law_ 954 = .ok (.istore 5, 2) := by decide +kernel
theorem dL_law__956 : decode cL_law_ 956 = .ok (.aload_n 2, 1) := by decide +kernel
theorem dL_law__957 : decode cL_law_ 957 = .ok (.aload_n 0, 1) := by decide +kernel
theorem dL_law__958 : decode cL_law_ 958 = .ok (.iload 4, 2) := by decide +kernel
theorem dL_law__960 : decode cL_law_ 960 = .ok (.iconst 1, 1) := by decide +kernel
theorem dL_law__961 : decode cL_law_ 961 = .ok (.iadd, 1) := by decide +kernel
theorem dL_law__962 : decode cL_law_ 962 = .ok (.iaload, 1) := by decide +kernel
theorem dL_law__963 : decode cL_law_ 963 = .ok (.invokevirtual 155, 3) := by decide +kernel
theorem dL_law__966 : decode cL_law_ 966 = .ok (.istore 6, 2) := by decide +kernel
theorem dL_law__968 : decode cL_law_ 968 = .ok (.aload_n 2, 1) := by decide +kernel
theorem dL_law__969 : decode cL_law_ 969 = .ok (.invokevirtual 102, 3) := by decide +kernel
theorem dL_law__972 : decode cL_law_ 972 = .ok (.iload 5, 2) := by decide +kernel
theorem dL_law__974 : decode cL_law_ 974 = .ok (.if_icmp .eq 5, 3) := by decide +kernel
theorem dL_law__977 : decode cL_law_ 977 = .ok (.iconst 0, 1) := by decide +kernel
theorem dL_law__978 : decode cL_law_ 978 = .ok (.ireturn, 1) := by decide +kernel
theorem dL_law__979 : decode cL_law_ 979 = .ok (.iload 5, 2) := by decide +kernel
theorem dL_law__981 : decode cL_law_ 981 = .ok (.ifCond .ne 15, 3) := by decide +kernel
theorem dL_law__984 : decode cL_law_ 984 = .ok (.aload_n 3, 1) := by decide +kernel
theorem dL_law__985 : decode cL_law_ 985 = .ok (.iconst 0, 1) := by decide +kernel
theorem dL_law__986 : decode cL_law_ 986 = .ok (.laload, 1) := by decide +kernel
theorem dL_law__987 : decode cL_law_ 987 = .ok (.iload 6, 2) := by decide +kernel
theorem dL_law__989 : decode cL_law_ 989 = .ok (.i2l, 1) := by decide +kernel
theorem dL_law__990 : decode cL_law_ 990 = .ok (.lcmp, 1) := by decide +kernel
theorem dL_law__991 : decode cL_law_ 991 = .ok (.ifCond .eq 5, 3) := by decide +kernel
theorem dL_law__994 : decode cL_law_ 994 = .ok (.iconst 0, 1) := by decide +kernel
theorem dL_law__995 : decode cL_law_ 995 = .ok (.ireturn, 1) := by decide +kernel
theorem dL_law__996 : decode cL_law_ 996 = .ok (.goto 775, 3) := by decide +kernel
theorem dL_law__999 : decode cL_law_ 999 = .ok (.aload_n 1, 1) := by decide +kernel
theorem dL_law__1000 : decode cL_law_ 1000 = .ok (.aload_n 3, 1) := by decide +kernel
theorem dL_law__1001 : decode cL_law_ 1001 = .ok (.invokestatic 156, 3) := by decide +kernel
theorem dL_law__1004 : decode cL_law_ 1004 = .ok (.istore 5, 2) := by decide +kernel
theorem dL_law__1006 : decode cL_law_ 1006 = .ok (.aload_n 2, 1) := by decide +kernel
theorem dL_law__1007 : decode cL_law_ 1007 = .ok (.invokevirtual 158, 3) := by decide +kernel
theorem dL_law__1010 : decode cL_law_ 1010 = .ok (.istore 6, 2) := by decide +kernel
theorem dL_law__1012 : decode cL_law_ 1012 = .ok (.aload_n 2, 1) := by decide +kernel
theorem dL_law__1013 : decode cL_law_ 1013 = .ok (.invokevirtual 102, 3) := by decide +kernel
theorem dL_law__1016 : decode cL_law_ 1016 = .ok (.iload 5, 2) := by decide +kernel
theorem dL_law__1018 : decode cL_law_ 1018 = .ok (.if_icmp .eq 5, 3) := by decide +kernel
theorem dL_law__1021 : decode cL_law_ 1021 = .ok (.iconst 0, 1) := by decide +kernel
theorem dL_law__1022 : decode cL_law_ 1022 = .ok (.ireturn, 1) := by decide +kernel
theorem dL_law__1023 : decode cL_law_ 1023 = .ok (.iload 5, 2) := by decide +kernel
theorem dL_law__1025 : decode cL_law_ 1025 = .ok (.ifCond .ne 15, 3) := by decide +kernel
theorem dL_law__1028 : decode cL_law_ 1028 = .ok (.aload_n 3, 1) := by decide +kernel
theorem dL_law__1029 : decode cL_law_ 1029 = .ok (.iconst 0, 1) := by decide +kernel
theorem dL_law__1030 : decode cL_law_ 1030 = .ok (.laload, 1) := by decide +kernel
theorem dL_law__1031 : decode cL_law_ 1031 = .ok (.iload 6, 2) := by decide +kernel
theorem dL_law__1033 : decode cL_law_ 1033 = .ok (.i2l, 1) := by decide +kernel
theorem dL_law__1034 : decode cL_law_ 1034 = .ok (.lcmp, 1) := by decide +kernel
theorem dL_law__1035 : decode cL_law_ 1035 = .ok (.ifCond .eq 5, 3) := by decide +kernel
theorem dL_law__1038 : decode cL_law_ 1038 = .ok (.iconst 0, 1) := by decide +kernel
theorem dL_law__1039 : decode cL_law_ 1039 = .ok (.ireturn, 1) := by decide +kernel
theorem dL_law__1040 : decode cL_law_ 1040 = .ok (.goto 731, 3) := by decide +kernel
theorem dL_law__1043 : decode cL_law_ 1043 = .ok (.aload_n 1, 1) := by decide +kernel
theorem dL_law__1044 : decode cL_law_ 1044 = .ok (.invokevirtual 159, 3) := by decide +kernel
theorem dL_law__1047 : decode cL_law_ 1047 = .ok (.aload_n 2, 1) := by decide +kernel
theorem dL_law__1048 : decode cL_law_ 1048 = .ok (.invokevirtual 162, 3) := by decide +kernel
theorem dL_law__1051 : decode cL_law_ 1051 = .ok (.if_icmp .eq 720, 3) := by decide +kernel
theorem dL_law__1054 : decode cL_law_ 1054 = .ok (.iconst 0, 1) := by decide +kernel
theorem dL_law__1055 : decode cL_law_ 1055 = .ok (.ireturn, 1) := by decide +kernel
theorem dL_law__1056 : decode cL_law_ 1056 = .ok (.aload_n 1, 1) := by decide +kernel
theorem dL_law__1057 : decode cL_law_ 1057 = .ok (.aload_n 3, 1) := by decide +kernel
theorem dL_law__1058 : decode cL_law_ 1058 = .ok (.invokestatic 163, 3) := by decide +kernel
theorem dL_law__1061 : decode cL_law_ 1061 = .ok (.istore 5, 2) := by decide +kernel
theorem dL_law__1063 : decode cL_law_ 1063 = .ok (.aload_n 2, 1) := by decide +kernel
theorem dL_law__1064 : decode cL_law_ 1064 = .ok (.invokevirtual 165, 3) := by decide +kernel
theorem dL_law__1067 : decode cL_law_ 1067 = .ok (.istore 6, 2) := by decide +kernel
theorem dL_law__1069 : decode cL_law_ 1069 = .ok (.aload_n 2, 1) := by decide +kernel
theorem dL_law__1070 : decode cL_law_ 1070 = .ok (.invokevirtual 102, 3) := by decide +kernel
theorem dL_law__1073 : decode cL_law_ 1073 = .ok (.iload 5, 2) := by decide +kernel
theorem dL_law__1075 : decode cL_law_ 1075 = .ok (.if_icmp .eq 5, 3) := by decide +kernel
theorem dL_law__1078 : decode cL_law_ 1078 = .ok (.iconst 0, 1) := by decide +kernel
theorem dL_law__1079 : decode cL_law_ 1079 = .ok (.ireturn, 1) := by decide +kernel
theorem dL_law__1080 : decode cL_law_ 1080 = .ok (.iload 5, 2) := by decide +kernel
theorem dL_law__1082 : decode cL_law_ 1082 = .ok (.ifCond .ne 15, 3) := by decide +kernel
theorem dL_law__1085 : decode cL_law_ 1085 = .ok (.aload_n 3, 1) := by decide +kernel
theorem dL_law__1086 : decode cL_law_ 1086 = .ok (.iconst 0, 1) := by decide +kernel
