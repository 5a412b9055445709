/-! DECODED: the law -/
theorem fW_law_805 : decode (m_cc M_W_law) 805 = .ok (.iload 4, 2) := by decide +kernel
theorem fW_law_807 : decode (m_cc M_W_law) 807 = .ok (.iconst 3, 1) := by decide +kernel
theorem fW_law_808 : decode (m_cc M_W_law) 808 = .ok (.iadd, 1) := by decide +kernel
theorem fW_law_809 : decode (m_cc M_W_law) 809 = .ok (.iaload, 1) := by decide +kernel
theorem fW_law_810 : decode (m_cc M_W_law) 810 = .ok (.ifCond .eq 7, 3) := by decide +kernel
theorem fW_law_813 : decode (m_cc M_W_law) 813 = .ok (.iconst 1, 1) := by decide +kernel
theorem fW_law_814 : decode (m_cc M_W_law) 814 = .ok (.goto 4, 3) := by decide +kernel
theorem fW_law_817 : decode (m_cc M_W_law) 817 = .ok (.iconst 0, 1) := by decide +kernel
theorem fW_law_818 : decode (m_cc M_W_law) 818 = .ok (.invokevirtual 115, 3) := by decide +kernel
theorem fW_law_821 : decode (m_cc M_W_law) 821 = .ok (.istore 6, 2) := by decide +kernel
theorem fW_law_823 : decode (m_cc M_W_law) 823 = .ok (.aload_n 2, 1) := by decide +kernel
theorem fW_law_824 : decode (m_cc M_W_law) 824 = .ok (.invokevirtual 80, 3) := by decide +kernel
theorem fW_law_827 : decode (m_cc M_W_law) 827 = .ok (.iload 5, 2) := by decide +kernel
theorem fW_law_829 : decode (m_cc M_W_law) 829 = .ok (.if_icmp .eq 5, 3) := by decide +kernel
theorem fW_law_832 : decode (m_cc M_W_law) 832 = .ok (.iconst 0, 1) := by decide +kernel
theorem fW_law_833 : decode (m_cc M_W_law) 833 = .ok (.ireturn, 1) := by decide +kernel
theorem fW_law_834 : decode (m_cc M_W_law) 834 = .ok (.iload 5, 2) := by decide +kernel
theorem fW_law_836 : decode (m_cc M_W_law) 836 = .ok (.ifCond .ne 15, 3) := by decide +kernel
theorem fW_law_839 : decode (m_cc M_W_law) 839 = .ok (.aload_n 3, 1) := by decide +kernel
theorem fW_law_840 : decode (m_cc M_W_law) 840 = .ok (.iconst 0, 1) := by decide +kernel
theorem fW_law_841 : decode (m_cc M_W_law) 841 = .ok (.laload, 1) := by decide +kernel
theorem fW_law_842 : decode (m_cc M_W_law) 842 = .ok (.iload 6, 2) := by decide +kernel
theorem fW_law_844 : decode (m_cc M_W_law) 844 = .ok (.i2l, 1) := by decide +kernel
theorem fW_law_845 : decode (m_cc M_W_law) 845 = .ok (.lcmp, 1) := by decide +kernel
theorem fW_law_846 : decode (m_cc M_W_law) 846 = .ok (.ifCond .eq 5, 3) := by decide +kernel
theorem fW_law_849 : decode (m_cc M_W_law) 849 = .ok (.iconst 0, 1) := by decide +kernel
theorem fW_law_850 : decode (m_cc M_W_law) 850 = .ok (.ireturn, 1) := by decide +kernel
theorem fW_law_851 : decode (m_cc M_W_law) 851 = .ok (.goto 331, 3) := by decide +kernel
theorem fW_law_854 : decode (m_cc M_W_law) 854 = .ok (.aload_n 1, 1) := by decide +kernel
theorem fW_law_855 : decode (m_cc M_W_law) 855 = .ok (.aload_n 0, 1) := by decide +kernel
theorem fW_law_856 : decode (m_cc M_W_law) 856 = .ok (.iload 4, 2) := by decide +kernel
theorem fW_law_858 : decode (m_cc M_W_law) 858 = .ok (.iconst 1, 1) := by decide +kernel
theorem fW_law_859 : decode (m_cc M_W_law) 859 = .ok (.iadd, 1) := by decide +kernel
theorem fW_law_860 : decode (m_cc M_W_law) 860 = .ok (.iaload, 1) := by decide +kernel
theorem fW_law_861 : decode (m_cc M_W_law) 861 = .ok (.aload_n 3, 1) := by decide +kernel
theorem fW_law_862 : decode (m_cc M_W_law) 862 = .ok (.invokestatic 116, 3) := by decide +kernel
theorem fW_law_865 : decode (m_cc M_W_law) 865 = .ok (.istore 5, 2) := by decide +kernel
theorem fW_law_867 : decode (m_cc M_W_law) 867 = .ok (.aload_n 2, 1) := by decide +kernel
theorem fW_law_868 : decode (m_cc M_W_law) 868 = .ok (.aload_n 0, 1) := by decide +kernel
theorem fW_law_869 : decode (m_cc M_W_law) 869 = .ok (.iload 4, 2) := by decide +kernel
theorem fW_law_871 : decode (m_cc M_W_law) 871 = .ok (.iconst 1, 1) := by decide +kernel
theorem fW_law_872 : decode (m_cc M_W_law) 872 = .ok (.iadd, 1) := by decide +kernel
theorem fW_law_873 : decode (m_cc M_W_law) 873 = .ok (.iaload, 1) := by decide +kernel
theorem fW_law_874 : decode (m_cc M_W_law) 874 = .ok (.invokevirtual 118, 3) := by decide +kernel
theorem fW_law_877 : decode (m_cc M_W_law) 877 = .ok (.istore 6, 2) := by decide +kernel
theorem fW_law_879 : decode (m_cc M_W_law) 879 = .ok (.aload_n 2, 1) := by decide +kernel
theorem fW_law_880 : decode (m_cc M_W_law) 880 = .ok (.invokevirtual 80, 3) := by decide +kernel
theorem fW_law_883 : decode (m_cc M_W_law) 883 = .ok (.iload 5, 2) := by decide +kernel
theorem fW_law_885 : decode (m_cc M_W_law) 885 = .ok (.if_icmp .eq 5, 3) := by decide +kernel
theorem fW_law_888 : decode (m_cc M_W_law) 888 = .ok (.iconst 0, 1) := by decide +kernel
theorem fW_law_889 : decode (m_cc M_W_law) 889 = .ok (.ireturn, 1) := by decide +kernel
theorem fW_law_890 : decode (m_cc M_W_law) 890 = .ok (.iload 5, 2) := by decide +kernel
theorem fW_law_892 : decode (m_cc M_W_law) 892 = .ok (.ifCond .ne 15, 3) := by decide +kernel
theorem fW_law_895 : decode (m_cc M_W_law) 895 = .ok (.aload_n 3, 1) := by decide +kernel
theorem fW_law_896 : decode (m_cc M_W_law) 896 = .ok (.iconst 0, 1) := by decide +kernel
theorem fW_law_897 : decode (m_cc M_W_law) 897 = .ok (.laload, 1) := by decide +kernel
theorem fW_law_898 : decode (m_cc M_W_law) 898 = .ok (.iload 6, 2) := by decide +kernel
theorem fW_law_900 : decode (m_cc M_W_law) 900 = .ok (.i2l, 1) := by decide +kernel
theorem fW_law_901 : decode (m_cc M_W_law) 901 = .ok (.lcmp, 1) := by decide +kernel
theorem fW_law_902 : decode (m_cc M_W_law) 902 = .ok (.ifCond .eq 5, 3) := by decide +kernel
theorem fW_law_905 : decode (m_cc M_W_law) 905 = .ok (.iconst 0, 1) := by decide +kernel
theorem fW_law_906 : decode (m_cc M_W_law) 906 = .ok (.ireturn, 1) := by decide +kernel
theorem fW_law_907 : decode (m_cc M_W_law) 907 = .ok (.goto 275, 3) := by decide +kernel
theorem fW_law_910 : decode (m_cc M_W_law) 910 = .ok (.aload_n 1, 1) := by decide +kernel
theorem fW_law_911 : decode (m_cc M_W_law) 911 = .ok (.aload_n 0, 1) := by decide +kernel
theorem fW_law_912 : decode (m_cc M_W_law) 912 = .ok (.iload 4, 2) := by decide +kernel
theorem fW_law_914 : decode (m_cc M_W_law) 914 = .ok (.iconst 1, 1) := by decide +kernel
theorem fW_law_915 : decode (m_cc M_W_law) 915 = .ok (.iadd, 1) := by decide +kernel
theorem fW_law_916 : decode (m_cc M_W_law) 916 = .ok (.iaload, 1) := by decide +kernel
theorem fW_law_917 : decode (m_cc M_W_law) 917 = .ok (.aload_n 3, 1) := by decide +kernel
theorem fW_law_918 : decode (m_cc M_W_law) 918 = .ok (.invokestatic 119, 3) := by decide +kernel
theorem fW_law_921 : decode (m_cc M_W_law) 921 = .ok (.istore 5, 2) := by decide +kernel
theorem fW_law_923 : decode (m_cc M_W_law) 923 = .ok (.aload_n 2, 1) := by decide +kernel
theorem fW_law_924 : decode (m_cc M_W_law) 924 = .ok (.aload_n 0, 1) := by decide +kernel
theorem fW_law_925 : decode (m_cc M_W_law) 925 = .ok (.iload 4, 2) := by decide +kernel
theorem fW_law_927 : decode (m_cc M_W_law) 927 = .ok (.iconst 1, 1) := by decide +kernel
theorem fW_law_928 : decode (m_cc M_W_law) 928 = .ok (.iadd, 1) := by decide +kernel
theorem fW_law_929 : decode (m_cc M_W_law) 929 = .ok (.iaload, 1) := by decide +kernel
theorem fW_law_930 : decode (m_cc M_W_law) 930 = .ok (.invokevirtual 121, 3) := by decide +kernel
theorem fW_law_933 : decode (m_cc M_W_law) 933 = .ok (.istore 6, 2) := by decide +kernel
theorem fW_law_935 : decode (m_cc M_W_law) 935 = .ok (.aload_n 2, 1) := by decide +kernel
theorem fW_law_936 : decode (m_cc M_W_law) 936 = .ok (.invokevirtual 80, 3) := by decide +kernel
theorem fW_law_939 : decode (m_cc M_W_law) 939 = .ok (.iload 5, 2) := by decide +kernel
theorem fW_law_941 : decode (m_cc M_W_law) 941 = .ok (.if_icmp .eq 5, 3) := by decide +kernel
theorem fW_law_944 : decode (m_cc M_W_law) 944 = .ok (.iconst 0, 1) := by decide +kernel
theorem fW_law_945 : decode (m_cc M_W_law) 945 = .ok (.ireturn, 1) := by decide +kernel
theorem fW_law_946 : decode (m_cc M_W_law) 946 = .ok (.iload 5, 2) := by decide +kernel
theorem fW_law_948 : decode (m_cc M_W_law) 948 = .ok (.ifCond .ne 15, 3) := by decide +kernel
theorem fW_law_951 : decode (m_cc M_W_law) 951 = .ok (.aload_n 3, 1) := by decide +kernel
theorem fW_law_952 : decode (m_cc M_W_law) 952 = .ok (.iconst 0, 1) := by decide +kernel
theorem fW_law_953 : decode (m_cc M_W_law) 953 = .ok (.laload, 1) := by decide +kernel
theorem fW_law_954 : decode (m_cc M_W_law) 954 = .ok (.iload 6, 2) := by decide +kernel
theorem fW_law_956 : decode (m_cc M_W_law) 956 = .ok (.i2l, 1) := by decide +kernel
theorem fW_law_957 : decode (m_cc M_W_law) 957 = .ok (.lcmp, 1) := by decide +kernel
theorem fW_law_958 : decode (m_cc M_W_law) 958 = .ok (.ifCond .eq 5, 3) := by decide +kernel
theorem fW_law_961 : decode (m_cc M_W_law) 961 = .ok (.iconst 0, 1) := by decide +kernel
theorem fW_law_962 : decode (m_cc M_W_law) 962 = .ok (.ireturn, 1) := by decide +kernel
theorem fW_law_963 : decode (m_cc M_W_law) 963 = .ok (.goto 219, 3) := by decide +kernel
theorem fW_law_966 : decode (m_cc M_W_law) 966 = .ok (.aload_n 1, 1) := by decide +kernel
theorem fW_law_967 : decode (m_cc M_W_law) 967 = .ok (.aload_n 0, 1) := by decide +kernel
theorem fW_law_968 : decode (m_cc M_W_law) 968 = .ok (.iload 4, 2) := by decide +kernel
theorem fW_law_970 : decode (m_cc M_W_law) 970 = .ok (.iconst 1, 1) := by decide +kernel
theorem fW_law_971 : decode (m_cc M_W_law) 971 = .ok (.iadd, 1) := by decide +kernel
theorem fW_law_972 : decode (m_cc M_W_law) 972 = .ok (.iaload, 1) := by decide +kernel
theorem fW_law_973 : decode (m_cc M_W_law) 973 = .ok (.aload_n 0, 1) := by decide +kernel
theorem fW_law_974 : decode (m_cc M_W_law) 974 = .ok (.iload 4, 2) := by decide +kernel
theorem fW_law_976 : decode (m_cc M_W_law) 976 = .ok (.iconst 2, 1) := by decide +kernel
theorem fW_law_977 : decode (m_cc M_W_law) 977 = .ok (.iadd, 1) := by decide +kernel
theorem fW_law_978 : decode (m_cc M_W_law) 978 = .ok (.iaload, 1) := by decide +kernel
theorem fW_law_979 : decode (m_cc M_W_law) 979 = .ok (.aload_n 3, 1) := by decide +kernel
theorem fW_law_980 : decode (m_cc M_W_law) 980 = .ok (.invokestatic 122, 3) := by decide +kernel
theorem fW_law_983 : decode (m_cc M_W_law) 983 = .ok (.istore 5, 2) := by decide +kernel
theorem fW_law_985 : decode (m_cc M_W_law) 985 = .ok (.aload_n 2, 1) := by decide +kernel
theorem fW_law_986 : decode (m_cc M_W_law) 986 = .ok (.aload_n 0, 1) := by decide +kernel
theorem fW_law_987 : decode (m_cc M_W_law) 987 = .ok (.iload 4, 2) := by decide +kernel
theorem fW_law_989 : decode (m_cc M_W_law) 989 = .ok (.iconst 1, 1) := by decide +kernel
theorem fW_law_990 : decode (m_cc M_W_law) 990 = .ok (.iadd, 1) := by decide +kernel
theorem fW_law_991 : decode (m_cc M_W_law) 991 = .ok (.iaload, 1) := by decide +kernel
theorem fW_law_992 : decode (m_cc M_W_law) 992 = .ok (.aload_n 0, 1) := by decide +kernel
theorem fW_law_993 : decode (m_cc M_W_law) 993 = .ok (.iload 4, 2) := by decide +kernel
theorem fW_law_995 : decode (m_cc M_W_law) 995 = .ok (.iconst 2, 1) := by decide +kernel
theorem fW_law_996 : decode (m_cc M_W_law) 996 = .ok (.iadd, 1) := by decide +kernel
