theorem d_Law_law_813 : decode b_Law_law 813 = .ok (.aload_n 0, 1) := by decide +kernel
theorem d_Law_law_814 : decode b_Law_law 814 = .ok (.iload 4, 2) := by decide +kernel
theorem d_Law_law_816 : decode b_Law_law 816 = .ok (.iconst 1, 1) := by decide +kernel
theorem d_Law_law_817 : decode b_Law_law 817 = .ok (.iadd, 1) := by decide +kernel
theorem d_Law_law_818 : decode b_Law_law 818 = .ok (.iaload, 1) := by decide +kernel
theorem d_Law_law_819 : decode b_Law_law 819 = .ok (.aload_n 0, 1) := by decide +kernel
theorem d_Law_law_820 : decode b_Law_law 820 = .ok (.iload 4, 2) := by decide +kernel
theorem d_Law_law_822 : decode b_Law_law 822 = .ok (.iconst 2, 1) := by decide +kernel
theorem d_Law_law_823 : decode b_Law_law 823 = .ok (.iadd, 1) := by decide +kernel
theorem d_Law_law_824 : decode b_Law_law 824 = .ok (.iaload, 1) := by decide +kernel
theorem d_Law_law_825 : decode b_Law_law 825 = .ok (.i2l, 1) := by decide +kernel
theorem d_Law_law_826 : decode b_Law_law 826 = .ok (.bipush 32, 2) := by decide +kernel
theorem d_Law_law_828 : decode b_Law_law 828 = .ok (.lshl, 1) := by decide +kernel
theorem d_Law_law_829 : decode b_Law_law 829 = .ok (.aload_n 0, 1) := by decide +kernel
theorem d_Law_law_830 : decode b_Law_law 830 = .ok (.iload 4, 2) := by decide +kernel
theorem d_Law_law_832 : decode b_Law_law 832 = .ok (.iconst 3, 1) := by decide +kernel
theorem d_Law_law_833 : decode b_Law_law 833 = .ok (.iadd, 1) := by decide +kernel
theorem d_Law_law_834 : decode b_Law_law 834 = .ok (.iaload, 1) := by decide +kernel
theorem d_Law_law_835 : decode b_Law_law 835 = .ok (.i2l, 1) := by decide +kernel
theorem d_Law_law_836 : decode b_Law_law 836 = .ok (.ldc2_w 94, 3) := by decide +kernel
theorem d_Law_law_839 : decode b_Law_law 839 = .ok (.land, 1) := by decide +kernel
theorem d_Law_law_840 : decode b_Law_law 840 = .ok (.lor, 1) := by decide +kernel
theorem d_Law_law_841 : decode b_Law_law 841 = .ok (.invokestatic 136, 3) := by decide +kernel
theorem d_Law_law_844 : decode b_Law_law 844 = .ok (.istore 5, 2) := by decide +kernel
theorem d_Law_law_846 : decode b_Law_law 846 = .ok (.aload_n 2, 1) := by decide +kernel
theorem d_Law_law_847 : decode b_Law_law 847 = .ok (.aload_n 0, 1) := by decide +kernel
theorem d_Law_law_848 : decode b_Law_law 848 = .ok (.iload 4, 2) := by decide +kernel
theorem d_Law_law_850 : decode b_Law_law 850 = .ok (.iconst 1, 1) := by decide +kernel
theorem d_Law_law_851 : decode b_Law_law 851 = .ok (.iadd, 1) := by decide +kernel
theorem d_Law_law_852 : decode b_Law_law 852 = .ok (.iaload, 1) := by decide +kernel
theorem d_Law_law_853 : decode b_Law_law 853 = .ok (.aload_n 0, 1) := by decide +kernel
theorem d_Law_law_854 : decode b_Law_law 854 = .ok (.iload 4, 2) := by decide +kernel
theorem d_Law_law_856 : decode b_Law_law 856 = .ok (.iconst 2, 1) := by decide +kernel
theorem d_Law_law_857 : decode b_Law_law 857 = .ok (.iadd, 1) := by decide +kernel
theorem d_Law_law_858 : decode b_Law_law 858 = .ok (.iaload, 1) := by decide +kernel
theorem d_Law_law_859 : decode b_Law_law 859 = .ok (.i2l, 1) := by decide +kernel
theorem d_Law_law_860 : decode b_Law_law 860 = .ok (.bipush 32, 2) := by decide +kernel
theorem d_Law_law_862 : decode b_Law_law 862 = .ok (.lshl, 1) := by decide +kernel
theorem d_Law_law_863 : decode b_Law_law 863 = .ok (.aload_n 0, 1) := by decide +kernel
theorem d_Law_law_864 : decode b_Law_law 864 = .ok (.iload 4, 2) := by decide +kernel
theorem d_Law_law_866 : decode b_Law_law 866 = .ok (.iconst 3, 1) := by decide +kernel
theorem d_Law_law_867 : decode b_Law_law 867 = .ok (.iadd, 1) := by decide +kernel
theorem d_Law_law_868 : decode b_Law_law 868 = .ok (.iaload, 1) := by decide +kernel
theorem d_Law_law_869 : decode b_Law_law 869 = .ok (.i2l, 1) := by decide +kernel
theorem d_Law_law_870 : decode b_Law_law 870 = .ok (.ldc2_w 94, 3) := by decide +kernel
theorem d_Law_law_873 : decode b_Law_law 873 = .ok (.land, 1) := by decide +kernel
theorem d_Law_law_874 : decode b_Law_law 874 = .ok (.lor, 1) := by decide +kernel
theorem d_Law_law_875 : decode b_Law_law 875 = .ok (.invokevirtual 139, 3) := by decide +kernel
theorem d_Law_law_878 : decode b_Law_law 878 = .ok (.goto 81, 3) := by decide +kernel
theorem d_Law_law_881 : decode b_Law_law 881 = .ok (.aload_n 1, 1) := by decide +kernel
theorem d_Law_law_882 : decode b_Law_law 882 = .ok (.aload_n 0, 1) := by decide +kernel
theorem d_Law_law_883 : decode b_Law_law 883 = .ok (.iload 4, 2) := by decide +kernel
theorem d_Law_law_885 : decode b_Law_law 885 = .ok (.iconst 1, 1) := by decide +kernel
theorem d_Law_law_886 : decode b_Law_law 886 = .ok (.iadd, 1) := by decide +kernel
theorem d_Law_law_887 : decode b_Law_law 887 = .ok (.iaload, 1) := by decide +kernel
theorem d_Law_law_888 : decode b_Law_law 888 = .ok (.aload_n 3, 1) := by decide +kernel
theorem d_Law_law_889 : decode b_Law_law 889 = .ok (.invokestatic 140, 3) := by decide +kernel
theorem d_Law_law_892 : decode b_Law_law 892 = .ok (.istore 5, 2) := by decide +kernel
theorem d_Law_law_894 : decode b_Law_law 894 = .ok (.aload_n 2, 1) := by decide +kernel
theorem d_Law_law_895 : decode b_Law_law 895 = .ok (.aload_n 0, 1) := by decide +kernel
theorem d_Law_law_896 : decode b_Law_law 896 = .ok (.iload 4, 2) := by decide +kernel
theorem d_Law_law_898 : decode b_Law_law 898 = .ok (.iconst 1, 1) := by decide +kernel
theorem d_Law_law_899 : decode b_Law_law 899 = .ok (.iadd, 1) := by decide +kernel
theorem d_Law_law_900 : decode b_Law_law 900 = .ok (.iaload, 1) := by decide +kernel
theorem d_Law_law_901 : decode b_Law_law 901 = .ok (.invokevirtual 142, 3) := by decide +kernel
theorem d_Law_law_904 : decode b_Law_law 904 = .ok (.istore 6, 2) := by decide +kernel
theorem d_Law_law_906 : decode b_Law_law 906 = .ok (.goto 53, 3) := by decide +kernel
theorem d_Law_law_909 : decode b_Law_law 909 = .ok (.aload_n 1, 1) := by decide +kernel
theorem d_Law_law_910 : decode b_Law_law 910 = .ok (.aload_n 0, 1) := by decide +kernel
theorem d_Law_law_911 : decode b_Law_law 911 = .ok (.iload 4, 2) := by decide +kernel
theorem d_Law_law_913 : decode b_Law_law 913 = .ok (.iconst 1, 1) := by decide +kernel
theorem d_Law_law_914 : decode b_Law_law 914 = .ok (.iadd, 1) := by decide +kernel
theorem d_Law_law_915 : decode b_Law_law 915 = .ok (.iaload, 1) := by decide +kernel
theorem d_Law_law_916 : decode b_Law_law 916 = .ok (.invokevirtual 143, 3) := by decide +kernel
theorem d_Law_law_919 : decode b_Law_law 919 = .ok (.pop2, 1) := by decide +kernel
theorem d_Law_law_920 : decode b_Law_law 920 = .ok (.aload_n 2, 1) := by decide +kernel
theorem d_Law_law_921 : decode b_Law_law 921 = .ok (.aload_n 0, 1) := by decide +kernel
theorem d_Law_law_922 : decode b_Law_law 922 = .ok (.iload 4, 2) := by decide +kernel
theorem d_Law_law_924 : decode b_Law_law 924 = .ok (.iconst 1, 1) := by decide +kernel
theorem d_Law_law_925 : decode b_Law_law 925 = .ok (.iadd, 1) := by decide +kernel
theorem d_Law_law_926 : decode b_Law_law 926 = .ok (.iaload, 1) := by decide +kernel
theorem d_Law_law_927 : decode b_Law_law 927 = .ok (.invokevirtual 147, 3) := by decide +kernel
theorem d_Law_law_930 : decode b_Law_law 930 = .ok (.pop2, 1) := by decide +kernel
theorem d_Law_law_931 : decode b_Law_law 931 = .ok (.goto 28, 3) := by decide +kernel
theorem d_Law_law_934 : decode b_Law_law 934 = .ok (.aload_n 1, 1) := by decide +kernel
theorem d_Law_law_935 : decode b_Law_law 935 = .ok (.aload_n 0, 1) := by decide +kernel
theorem d_Law_law_936 : decode b_Law_law 936 = .ok (.iload 4, 2) := by decide +kernel
theorem d_Law_law_938 : decode b_Law_law 938 = .ok (.iconst 1, 1) := by decide +kernel
theorem d_Law_law_939 : decode b_Law_law 939 = .ok (.iadd, 1) := by decide +kernel
theorem d_Law_law_940 : decode b_Law_law 940 = .ok (.iaload, 1) := by decide +kernel
theorem d_Law_law_941 : decode b_Law_law 941 = .ok (.invokevirtual 148, 3) := by decide +kernel
theorem d_Law_law_944 : decode b_Law_law 944 = .ok (.pop, 1) := by decide +kernel
theorem d_Law_law_945 : decode b_Law_law 945 = .ok (.aload_n 2, 1) := by decide +kernel
theorem d_Law_law_946 : decode b_Law_law 946 = .ok (.aload_n 0, 1) := by decide +kernel
theorem d_Law_law_947 : decode b_Law_law 947 = .ok (.iload 4, 2) := by decide +kernel
theorem d_Law_law_949 : decode b_Law_law 949 = .ok (.iconst 1, 1) := by decide +kernel
theorem d_Law_law_950 : decode b_Law_law 950 = .ok (.iadd, 1) := by decide +kernel
theorem d_Law_law_951 : decode b_Law_law 951 = .ok (.iaload, 1) := by decide +kernel
theorem d_Law_law_952 : decode b_Law_law 952 = .ok (.invokevirtual 151, 3) := by decide +kernel
theorem d_Law_law_955 : decode b_Law_law 955 = .ok (.pop, 1) := by decide +kernel
theorem d_Law_law_956 : decode b_Law_law 956 = .ok (.goto 3, 3) := by decide +kernel
theorem d_Law_law_959 : decode b_Law_law 959 = .ok (.iinc 4 6, 3) := by decide +kernel
theorem d_Law_law_962 : decode b_Law_law 962 = .ok (.goto (-939), 3) := by decide +kernel
theorem d_Law_law_965 : decode b_Law_law 965 = .ok (.iconst 1, 1) := by decide +kernel
theorem d_Law_law_966 : decode b_Law_law 966 = .ok (.ireturn, 1) := by decide +kernel
