theorem d_Law_law_811 : decode b_Law_law 811 = .ok (.iload 4, 2) := by decide +kernel
theorem d_Law_law_813 : decode b_Law_law 813 = .ok (.iconst 2, 1) := by decide +kernel
theorem d_Law_law_814 : decode b_Law_law 814 = .ok (.iadd, 1) := by decide +kernel
theorem d_Law_law_815 : decode b_Law_law 815 = .ok (.iaload, 1) := by decide +kernel
theorem d_Law_law_816 : decode b_Law_law 816 = .ok (.invokevirtual 135, 3) := by decide +kernel
theorem d_Law_law_819 : decode b_Law_law 819 = .ok (.pop, 1) := by decide +kernel
theorem d_Law_law_820 : decode b_Law_law 820 = .ok (.goto 166, 3) := by decide +kernel
theorem d_Law_law_823 : decode b_Law_law 823 = .ok (.aload_n 1, 1) := by decide +kernel
theorem d_Law_law_824 : decode b_Law_law 824 = .ok (.aload_n 3, 1) := by decide +kernel
theorem d_Law_law_825 : decode b_Law_law 825 = .ok (.invokestatic 136, 3) := by decide +kernel
theorem d_Law_law_828 : decode b_Law_law 828 = .ok (.istore 5, 2) := by decide +kernel
theorem d_Law_law_830 : decode b_Law_law 830 = .ok (.aload_n 2, 1) := by decide +kernel
theorem d_Law_law_831 : decode b_Law_law 831 = .ok (.invokevirtual 138, 3) := by decide +kernel
theorem d_Law_law_834 : decode b_Law_law 834 = .ok (.istore 6, 2) := by decide +kernel
theorem d_Law_law_836 : decode b_Law_law 836 = .ok (.goto 150, 3) := by decide +kernel
theorem d_Law_law_839 : decode b_Law_law 839 = .ok (.aload_n 1, 1) := by decide +kernel
theorem d_Law_law_840 : decode b_Law_law 840 = .ok (.aload_n 0, 1) := by decide +kernel
theorem d_Law_law_841 : decode b_Law_law 841 = .ok (.iload 4, 2) := by decide +kernel
theorem d_Law_law_843 : decode b_Law_law 843 = .ok (.iconst 1, 1) := by decide +kernel
theorem d_Law_law_844 : decode b_Law_law 844 = .ok (.iadd, 1) := by decide +kernel
theorem d_Law_law_845 : decode b_Law_law 845 = .ok (.iaload, 1) := by decide +kernel
theorem d_Law_law_846 : decode b_Law_law 846 = .ok (.aload_n 0, 1) := by decide +kernel
theorem d_Law_law_847 : decode b_Law_law 847 = .ok (.iload 4, 2) := by decide +kernel
theorem d_Law_law_849 : decode b_Law_law 849 = .ok (.iconst 2, 1) := by decide +kernel
theorem d_Law_law_850 : decode b_Law_law 850 = .ok (.iadd, 1) := by decide +kernel
theorem d_Law_law_851 : decode b_Law_law 851 = .ok (.iaload, 1) := by decide +kernel
theorem d_Law_law_852 : decode b_Law_law 852 = .ok (.i2l, 1) := by decide +kernel
theorem d_Law_law_853 : decode b_Law_law 853 = .ok (.bipush 32, 2) := by decide +kernel
theorem d_Law_law_855 : decode b_Law_law 855 = .ok (.lshl, 1) := by decide +kernel
theorem d_Law_law_856 : decode b_Law_law 856 = .ok (.aload_n 0, 1) := by decide +kernel
theorem d_Law_law_857 : decode b_Law_law 857 = .ok (.iload 4, 2) := by decide +kernel
theorem d_Law_law_859 : decode b_Law_law 859 = .ok (.iconst 3, 1) := by decide +kernel
theorem d_Law_law_860 : decode b_Law_law 860 = .ok (.iadd, 1) := by decide +kernel
theorem d_Law_law_861 : decode b_Law_law 861 = .ok (.iaload, 1) := by decide +kernel
theorem d_Law_law_862 : decode b_Law_law 862 = .ok (.i2l, 1) := by decide +kernel
theorem d_Law_law_863 : decode b_Law_law 863 = .ok (.ldc2_w 94, 3) := by decide +kernel
theorem d_Law_law_866 : decode b_Law_law 866 = .ok (.land, 1) := by decide +kernel
theorem d_Law_law_867 : decode b_Law_law 867 = .ok (.lor, 1) := by decide +kernel
theorem d_Law_law_868 : decode b_Law_law 868 = .ok (.invokestatic 139, 3) := by decide +kernel
theorem d_Law_law_871 : decode b_Law_law 871 = .ok (.istore 5, 2) := by decide +kernel
theorem d_Law_law_873 : decode b_Law_law 873 = .ok (.aload_n 2, 1) := by decide +kernel
theorem d_Law_law_874 : decode b_Law_law 874 = .ok (.aload_n 0, 1) := by decide +kernel
theorem d_Law_law_875 : decode b_Law_law 875 = .ok (.iload 4, 2) := by decide +kernel
theorem d_Law_law_877 : decode b_Law_law 877 = .ok (.iconst 1, 1) := by decide +kernel
theorem d_Law_law_878 : decode b_Law_law 878 = .ok (.iadd, 1) := by decide +kernel
theorem d_Law_law_879 : decode b_Law_law 879 = .ok (.iaload, 1) := by decide +kernel
theorem d_Law_law_880 : decode b_Law_law 880 = .ok (.aload_n 0, 1) := by decide +kernel
theorem d_Law_law_881 : decode b_Law_law 881 = .ok (.iload 4, 2) := by decide +kernel
theorem d_Law_law_883 : decode b_Law_law 883 = .ok (.iconst 2, 1) := by decide +kernel
theorem d_Law_law_884 : decode b_Law_law 884 = .ok (.iadd, 1) := by decide +kernel
theorem d_Law_law_885 : decode b_Law_law 885 = .ok (.iaload, 1) := by decide +kernel
theorem d_Law_law_886 : decode b_Law_law 886 = .ok (.i2l, 1) := by decide +kernel
theorem d_Law_law_887 : decode b_Law_law 887 = .ok (.bipush 32, 2) := by decide +kernel
theorem d_Law_law_889 : decode b_Law_law 889 = .ok (.lshl, 1) := by decide +kernel
theorem d_Law_law_890 : decode b_Law_law 890 = .ok (.aload_n 0, 1) := by decide +kernel
theorem d_Law_law_891 : decode b_Law_law 891 = .ok (.iload 4, 2) := by decide +kernel
theorem d_Law_law_893 : decode b_Law_law 893 = .ok (.iconst 3, 1) := by decide +kernel
theorem d_Law_law_894 : decode b_Law_law 894 = .ok (.iadd, 1) := by decide +kernel
theorem d_Law_law_895 : decode b_Law_law 895 = .ok (.iaload, 1) := by decide +kernel
theorem d_Law_law_896 : decode b_Law_law 896 = .ok (.i2l, 1) := by decide +kernel
theorem d_Law_law_897 : decode b_Law_law 897 = .ok (.ldc2_w 94, 3) := by decide +kernel
theorem d_Law_law_900 : decode b_Law_law 900 = .ok (.land, 1) := by decide +kernel
theorem d_Law_law_901 : decode b_Law_law 901 = .ok (.lor, 1) := by decide +kernel
theorem d_Law_law_902 : decode b_Law_law 902 = .ok (.invokevirtual 142, 3) := by decide +kernel
theorem d_Law_law_905 : decode b_Law_law 905 = .ok (.goto 81, 3) := by decide +kernel
theorem d_Law_law_908 : decode b_Law_law 908 = .ok (.aload_n 1, 1) := by decide +kernel
theorem d_Law_law_909 : decode b_Law_law 909 = .ok (.aload_n 0, 1) := by decide +kernel
theorem d_Law_law_910 : decode b_Law_law 910 = .ok (.iload 4, 2) := by decide +kernel
theorem d_Law_law_912 : decode b_Law_law 912 = .ok (.iconst 1, 1) := by decide +kernel
theorem d_Law_law_913 : decode b_Law_law 913 = .ok (.iadd, 1) := by decide +kernel
theorem d_Law_law_914 : decode b_Law_law 914 = .ok (.iaload, 1) := by decide +kernel
theorem d_Law_law_915 : decode b_Law_law 915 = .ok (.aload_n 3, 1) := by decide +kernel
theorem d_Law_law_916 : decode b_Law_law 916 = .ok (.invokestatic 143, 3) := by decide +kernel
theorem d_Law_law_919 : decode b_Law_law 919 = .ok (.istore 5, 2) := by decide +kernel
theorem d_Law_law_921 : decode b_Law_law 921 = .ok (.aload_n 2, 1) := by decide +kernel
theorem d_Law_law_922 : decode b_Law_law 922 = .ok (.aload_n 0, 1) := by decide +kernel
theorem d_Law_law_923 : decode b_Law_law 923 = .ok (.iload 4, 2) := by decide +kernel
theorem d_Law_law_925 : decode b_Law_law 925 = .ok (.iconst 1, 1) := by decide +kernel
theorem d_Law_law_926 : decode b_Law_law 926 = .ok (.iadd, 1) := by decide +kernel
theorem d_Law_law_927 : decode b_Law_law 927 = .ok (.iaload, 1) := by decide +kernel
theorem d_Law_law_928 : decode b_Law_law 928 = .ok (.invokevirtual 145, 3) := by decide +kernel
theorem d_Law_law_931 : decode b_Law_law 931 = .ok (.istore 6, 2) := by decide +kernel
theorem d_Law_law_933 : decode b_Law_law 933 = .ok (.goto 53, 3) := by decide +kernel
theorem d_Law_law_936 : decode b_Law_law 936 = .ok (.aload_n 1, 1) := by decide +kernel
theorem d_Law_law_937 : decode b_Law_law 937 = .ok (.aload_n 0, 1) := by decide +kernel
theorem d_Law_law_938 : decode b_Law_law 938 = .ok (.iload 4, 2) := by decide +kernel
theorem d_Law_law_940 : decode b_Law_law 940 = .ok (.iconst 1, 1) := by decide +kernel
theorem d_Law_law_941 : decode b_Law_law 941 = .ok (.iadd, 1) := by decide +kernel
theorem d_Law_law_942 : decode b_Law_law 942 = .ok (.iaload, 1) := by decide +kernel
theorem d_Law_law_943 : decode b_Law_law 943 = .ok (.invokevirtual 146, 3) := by decide +kernel
theorem d_Law_law_946 : decode b_Law_law 946 = .ok (.pop2, 1) := by decide +kernel
theorem d_Law_law_947 : decode b_Law_law 947 = .ok (.aload_n 2, 1) := by decide +kernel
theorem d_Law_law_948 : decode b_Law_law 948 = .ok (.aload_n 0, 1) := by decide +kernel
theorem d_Law_law_949 : decode b_Law_law 949 = .ok (.iload 4, 2) := by decide +kernel
theorem d_Law_law_951 : decode b_Law_law 951 = .ok (.iconst 1, 1) := by decide +kernel
theorem d_Law_law_952 : decode b_Law_law 952 = .ok (.iadd, 1) := by decide +kernel
theorem d_Law_law_953 : decode b_Law_law 953 = .ok (.iaload, 1) := by decide +kernel
theorem d_Law_law_954 : decode b_Law_law 954 = .ok (.invokevirtual 150, 3) := by decide +kernel
theorem d_Law_law_957 : decode b_Law_law 957 = .ok (.pop2, 1) := by decide +kernel
theorem d_Law_law_958 : decode b_Law_law 958 = .ok (.goto 28, 3) := by decide +kernel
theorem d_Law_law_961 : decode b_Law_law 961 = .ok (.aload_n 1, 1) := by decide +kernel
theorem d_Law_law_962 : decode b_Law_law 962 = .ok (.aload_n 0, 1) := by decide +kernel
theorem d_Law_law_963 : decode b_Law_law 963 = .ok (.iload 4, 2) := by decide +kernel
theorem d_Law_law_965 : decode b_Law_law 965 = .ok (.iconst 1, 1) := by decide +kernel
theorem d_Law_law_966 : decode b_Law_law 966 = .ok (.iadd, 1) := by decide +kernel
theorem d_Law_law_967 : decode b_Law_law 967 = .ok (.iaload, 1) := by decide +kernel
theorem d_Law_law_968 : decode b_Law_law 968 = .ok (.invokevirtual 151, 3) := by decide +kernel
theorem d_Law_law_971 : decode b_Law_law 971 = .ok (.pop, 1) := by decide +kernel
theorem d_Law_law_972 : decode b_Law_law 972 = .ok (.aload_n 2, 1) := by decide +kernel
theorem d_Law_law_973 : decode b_Law_law 973 = .ok (.aload_n 0, 1) := by decide +kernel
theorem d_Law_law_974 : decode b_Law_law 974 = .ok (.iload 4, 2) := by decide +kernel
theorem d_Law_law_976 : decode b_Law_law 976 = .ok (.iconst 1, 1) := by decide +kernel
theorem d_Law_law_977 : decode b_Law_law 977 = .ok (.iadd, 1) := by decide +kernel
theorem d_Law_law_978 : decode b_Law_law 978 = .ok (.iaload, 1) := by decide +kernel
theorem d_Law_law_979 : decode b_Law_law 979 = .ok (.invokevirtual 154, 3) := by decide +kernel
theorem d_Law_law_982 : decode b_Law_law 982 = .ok (.pop, 1) := by decide +kernel
theorem d_Law_law_983 : decode b_Law_law 983 = .ok (.goto 3, 3) := by decide +kernel
theorem d_Law_law_986 : decode b_Law_law 986 = .ok (.iinc 4 6, 3) := by decide +kernel
theorem d_Law_law_989 : decode b_Law_law 989 = .ok (.goto (-966), 3) := by decide +kernel
theorem d_Law_law_992 : decode b_Law_law 992 = .ok (.iconst 1, 1) := by decide +kernel
theorem d_Law_law_993 : decode b_Law_law 993 = .ok (.ireturn, 1) := by decide +kernel
