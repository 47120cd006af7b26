theorem d_Law_law_813 : decode b_Law_law 813 = .ok (.iload 4, 2) := by decide +kernel
theorem d_Law_law_815 : decode b_Law_law 815 = .ok (.iconst 1, 1) := by decide +kernel
theorem d_Law_law_816 : decode b_Law_law 816 = .ok (.iadd, 1) := by decide +kernel
theorem d_Law_law_817 : decode b_Law_law 817 = .ok (.iaload, 1) := by decide +kernel
theorem d_Law_law_818 : decode b_Law_law 818 = .ok (.aload_n 0, 1) := by decide +kernel
theorem d_Law_law_819 : decode b_Law_law 819 = .ok (.iload 4, 2) := by decide +kernel
theorem d_Law_law_821 : decode b_Law_law 821 = .ok (.iconst 2, 1) := by decide +kernel
theorem d_Law_law_822 : decode b_Law_law 822 = .ok (.iadd, 1) := by decide +kernel
theorem d_Law_law_823 : decode b_Law_law 823 = .ok (.iaload, 1) := by decide +kernel
theorem d_Law_law_824 : decode b_Law_law 824 = .ok (.i2l, 1) := by decide +kernel
theorem d_Law_law_825 : decode b_Law_law 825 = .ok (.bipush 32, 2) := by decide +kernel
theorem d_Law_law_827 : decode b_Law_law 827 = .ok (.lshl, 1) := by decide +kernel
theorem d_Law_law_828 : decode b_Law_law 828 = .ok (.aload_n 0, 1) := by decide +kernel
theorem d_Law_law_829 : decode b_Law_law 829 = .ok (.iload 4, 2) := by decide +kernel
theorem d_Law_law_831 : decode b_Law_law 831 = .ok (.iconst 3, 1) := by decide +kernel
theorem d_Law_law_832 : decode b_Law_law 832 = .ok (.iadd, 1) := by decide +kernel
theorem d_Law_law_833 : decode b_Law_law 833 = .ok (.iaload, 1) := by decide +kernel
theorem d_Law_law_834 : decode b_Law_law 834 = .ok (.i2l, 1) := by decide +kernel
theorem d_Law_law_835 : decode b_Law_law 835 = .ok (.ldc2_w 94, 3) := by decide +kernel
theorem d_Law_law_838 : decode b_Law_law 838 = .ok (.land, 1) := by decide +kernel
theorem d_Law_law_839 : decode b_Law_law 839 = .ok (.lor, 1) := by decide +kernel
theorem d_Law_law_840 : decode b_Law_law 840 = .ok (.invokestatic 136, 3) := by decide +kernel
theorem d_Law_law_843 : decode b_Law_law 843 = .ok (.istore 5, 2) := by decide +kernel
theorem d_Law_law_845 : decode b_Law_law 845 = .ok (.aload_n 2, 1) := by decide +kernel
theorem d_Law_law_846 : decode b_Law_law 846 = .ok (.aload_n 0, 1) := by decide +kernel
theorem d_Law_law_847 : decode b_Law_law 847 = .ok (.iload 4, 2) := by decide +kernel
theorem d_Law_law_849 : decode b_Law_law 849 = .ok (.iconst 1, 1) := by decide +kernel
theorem d_Law_law_850 : decode b_Law_law 850 = .ok (.iadd, 1) := by decide +kernel
theorem d_Law_law_851 : decode b_Law_law 851 = .ok (.iaload, 1) := by decide +kernel
theorem d_Law_law_852 : decode b_Law_law 852 = .ok (.aload_n 0, 1) := by decide +kernel
theorem d_Law_law_853 : decode b_Law_law 853 = .ok (.iload 4, 2) := by decide +kernel
theorem d_Law_law_855 : decode b_Law_law 855 = .ok (.iconst 2, 1) := by decide +kernel
theorem d_Law_law_856 : decode b_Law_law 856 = .ok (.iadd, 1) := by decide +kernel
theorem d_Law_law_857 : decode b_Law_law 857 = .ok (.iaload, 1) := by decide +kernel
theorem d_Law_law_858 : decode b_Law_law 858 = .ok (.i2l, 1) := by decide +kernel
theorem d_Law_law_859 : decode b_Law_law 859 = .ok (.bipush 32, 2) := by decide +kernel
theorem d_Law_law_861 : decode b_Law_law 861 = .ok (.lshl, 1) := by decide +kernel
theorem d_Law_law_862 : decode b_Law_law 862 = .ok (.aload_n 0, 1) := by decide +kernel
theorem d_Law_law_863 : decode b_Law_law 863 = .ok (.iload 4, 2) := by decide +kernel
theorem d_Law_law_865 : decode b_Law_law 865 = .ok (.iconst 3, 1) := by decide +kernel
theorem d_Law_law_866 : decode b_Law_law 866 = .ok (.iadd, 1) := by decide +kernel
theorem d_Law_law_867 : decode b_Law_law 867 = .ok (.iaload, 1) := by decide +kernel
theorem d_Law_law_868 : decode b_Law_law 868 = .ok (.i2l, 1) := by decide +kernel
theorem d_Law_law_869 : decode b_Law_law 869 = .ok (.ldc2_w 94, 3) := by decide +kernel
theorem d_Law_law_872 : decode b_Law_law 872 = .ok (.land, 1) := by decide +kernel
theorem d_Law_law_873 : decode b_Law_law 873 = .ok (.lor, 1) := by decide +kernel
theorem d_Law_law_874 : decode b_Law_law 874 = .ok (.invokevirtual 139, 3) := by decide +kernel
theorem d_Law_law_877 : decode b_Law_law 877 = .ok (.goto 81, 3) := by decide +kernel
theorem d_Law_law_880 : decode b_Law_law 880 = .ok (.aload_n 1, 1) := by decide +kernel
theorem d_Law_law_881 : decode b_Law_law 881 = .ok (.aload_n 0, 1) := by decide +kernel
theorem d_Law_law_882 : decode b_Law_law 882 = .ok (.iload 4, 2) := by decide +kernel
theorem d_Law_law_884 : decode b_Law_law 884 = .ok (.iconst 1, 1) := by decide +kernel
theorem d_Law_law_885 : decode b_Law_law 885 = .ok (.iadd, 1) := by decide +kernel
theorem d_Law_law_886 : decode b_Law_law 886 = .ok (.iaload, 1) := by decide +kernel
theorem d_Law_law_887 : decode b_Law_law 887 = .ok (.aload_n 3, 1) := by decide +kernel
theorem d_Law_law_888 : decode b_Law_law 888 = .ok (.invokestatic 140, 3) := by decide +kernel
theorem d_Law_law_891 : decode b_Law_law 891 = .ok (.istore 5, 2) := by decide +kernel
theorem d_Law_law_893 : decode b_Law_law 893 = .ok (.aload_n 2, 1) := by decide +kernel
theorem d_Law_law_894 : decode b_Law_law 894 = .ok (.aload_n 0, 1) := by decide +kernel
theorem d_Law_law_895 : decode b_Law_law 895 = .ok (.iload 4, 2) := by decide +kernel
theorem d_Law_law_897 : decode b_Law_law 897 = .ok (.iconst 1, 1) := by decide +kernel
theorem d_Law_law_898 : decode b_Law_law 898 = .ok (.iadd, 1) := by decide +kernel
theorem d_Law_law_899 : decode b_Law_law 899 = .ok (.iaload, 1) := by decide +kernel
theorem d_Law_law_900 : decode b_Law_law 900 = .ok (.invokevirtual 142, 3) := by decide +kernel
theorem d_Law_law_903 : decode b_Law_law 903 = .ok (.istore 6, 2) := by decide +kernel
theorem d_Law_law_905 : decode b_Law_law 905 = .ok (.goto 53, 3) := by decide +kernel
theorem d_Law_law_908 : decode b_Law_law 908 = .ok (.aload_n 1, 1) := by decide +kernel
theorem d_Law_law_909 : decode b_Law_law 909 = .ok (.aload_n 0, 1) := by decide +kernel
theorem d_Law_law_910 : decode b_Law_law 910 = .ok (.iload 4, 2) := by decide +kernel
theorem d_Law_law_912 : decode b_Law_law 912 = .ok (.iconst 1, 1) := by decide +kernel
theorem d_Law_law_913 : decode b_Law_law 913 = .ok (.iadd, 1) := by decide +kernel
theorem d_Law_law_914 : decode b_Law_law 914 = .ok (.iaload, 1) := by decide +kernel
theorem d_Law_law_915 : decode b_Law_law 915 = .ok (.invokevirtual 143, 3) := by decide +kernel
theorem d_Law_law_918 : decode b_Law_law 918 = .ok (.pop2, 1) := by decide +kernel
theorem d_Law_law_919 : decode b_Law_law 919 = .ok (.aload_n 2, 1) := by decide +kernel
theorem d_Law_law_920 : decode b_Law_law 920 = .ok (.aload_n 0, 1) := by decide +kernel
theorem d_Law_law_921 : decode b_Law_law 921 = .ok (.iload 4, 2) := by decide +kernel
theorem d_Law_law_923 : decode b_Law_law 923 = .ok (.iconst 1, 1) := by decide +kernel
theorem d_Law_law_924 : decode b_Law_law 924 = .ok (.iadd, 1) := by decide +kernel
theorem d_Law_law_925 : decode b_Law_law 925 = .ok (.iaload, 1) := by decide +kernel
theorem d_Law_law_926 : decode b_Law_law 926 = .ok (.invokevirtual 147, 3) := by decide +kernel
theorem d_Law_law_929 : decode b_Law_law 929 = .ok (.pop2, 1) := by decide +kernel
theorem d_Law_law_930 : decode b_Law_law 930 = .ok (.goto 28, 3) := by decide +kernel
theorem d_Law_law_933 : decode b_Law_law 933 = .ok (.aload_n 1, 1) := by decide +kernel
theorem d_Law_law_934 : decode b_Law_law 934 = .ok (.aload_n 0, 1) := by decide +kernel
theorem d_Law_law_935 : decode b_Law_law 935 = .ok (.iload 4, 2) := by decide +kernel
theorem d_Law_law_937 : decode b_Law_law 937 = .ok (.iconst 1, 1) := by decide +kernel
theorem d_Law_law_938 : decode b_Law_law 938 = .ok (.iadd, 1) := by decide +kernel
theorem d_Law_law_939 : decode b_Law_law 939 = .ok (.iaload, 1) := by decide +kernel
theorem d_Law_law_940 : decode b_Law_law 940 = .ok (.invokevirtual 148, 3) := by decide +kernel
theorem d_Law_law_943 : decode b_Law_law 943 = .ok (.pop, 1) := by decide +kernel
theorem d_Law_law_944 : decode b_Law_law 944 = .ok (.aload_n 2, 1) := by decide +kernel
theorem d_Law_law_945 : decode b_Law_law 945 = .ok (.aload_n 0, 1) := by decide +kernel
theorem d_Law_law_946 : decode b_Law_law 946 = .ok (.iload 4, 2) := by decide +kernel
theorem d_Law_law_948 : decode b_Law_law 948 = .ok (.iconst 1, 1) := by decide +kernel
theorem d_Law_law_949 : decode b_Law_law 949 = .ok (.iadd, 1) := by decide +kernel
theorem d_Law_law_950 : decode b_Law_law 950 = .ok (.iaload, 1) := by decide +kernel
theorem d_Law_law_951 : decode b_Law_law 951 = .ok (.invokevirtual 151, 3) := by decide +kernel
theorem d_Law_law_954 : decode b_Law_law 954 = .ok (.pop, 1) := by decide +kernel
theorem d_Law_law_955 : decode b_Law_law 955 = .ok (.goto 3, 3) := by decide +kernel
theorem d_Law_law_958 : decode b_Law_law 958 = .ok (.iinc 4 6, 3) := by decide +kernel
theorem d_Law_law_961 : decode b_Law_law 961 = .ok (.goto (-938), 3) := by decide +kernel
theorem d_Law_law_964 : decode b_Law_law 964 = .ok (.iconst 1, 1) := by decide +kernel
theorem d_Law_law_965 : decode b_Law_law 965 = .ok (.ireturn, 1) := by decide +kernel
