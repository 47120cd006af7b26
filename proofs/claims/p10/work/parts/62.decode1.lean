theorem d_Law_law_812 : decode b_Law_law 812 = .ok (.iconst 2, 1) := by decide +kernel
theorem d_Law_law_813 : decode b_Law_law 813 = .ok (.iadd, 1) := by decide +kernel
theorem d_Law_law_814 : decode b_Law_law 814 = .ok (.iaload, 1) := by decide +kernel
theorem d_Law_law_815 : decode b_Law_law 815 = .ok (.invokevirtual 135, 3) := by decide +kernel
theorem d_Law_law_818 : decode b_Law_law 818 = .ok (.pop, 1) := by decide +kernel
theorem d_Law_law_819 : decode b_Law_law 819 = .ok (.goto 166, 3) := by decide +kernel
theorem d_Law_law_822 : decode b_Law_law 822 = .ok (.aload_n 1, 1) := by decide +kernel
theorem d_Law_law_823 : decode b_Law_law 823 = .ok (.aload_n 3, 1) := by decide +kernel
theorem d_Law_law_824 : decode b_Law_law 824 = .ok (.invokestatic 136, 3) := by decide +kernel
theorem d_Law_law_827 : decode b_Law_law 827 = .ok (.istore 5, 2) := by decide +kernel
theorem d_Law_law_829 : decode b_Law_law 829 = .ok (.aload_n 2, 1) := by decide +kernel
theorem d_Law_law_830 : decode b_Law_law 830 = .ok (.invokevirtual 138, 3) := by decide +kernel
theorem d_Law_law_833 : decode b_Law_law 833 = .ok (.istore 6, 2) := by decide +kernel
theorem d_Law_law_835 : decode b_Law_law 835 = .ok (.goto 150, 3) := by decide +kernel
theorem d_Law_law_838 : decode b_Law_law 838 = .ok (.aload_n 1, 1) := by decide +kernel
theorem d_Law_law_839 : decode b_Law_law 839 = .ok (.aload_n 0, 1) := by decide +kernel
theorem d_Law_law_840 : decode b_Law_law 840 = .ok (.iload 4, 2) := by decide +kernel
theorem d_Law_law_842 : decode b_Law_law 842 = .ok (.iconst 1, 1) := by decide +kernel
theorem d_Law_law_843 : decode b_Law_law 843 = .ok (.iadd, 1) := by decide +kernel
theorem d_Law_law_844 : decode b_Law_law 844 = .ok (.iaload, 1) := by decide +kernel
theorem d_Law_law_845 : decode b_Law_law 845 = .ok (.aload_n 0, 1) := by decide +kernel
theorem d_Law_law_846 : decode b_Law_law 846 = .ok (.iload 4, 2) := by decide +kernel
theorem d_Law_law_848 : decode b_Law_law 848 = .ok (.iconst 2, 1) := by decide +kernel
theorem d_Law_law_849 : decode b_Law_law 849 = .ok (.iadd, 1) := by decide +kernel
theorem d_Law_law_850 : decode b_Law_law 850 = .ok (.iaload, 1) := by decide +kernel
theorem d_Law_law_851 : decode b_Law_law 851 = .ok (.i2l, 1) := by decide +kernel
theorem d_Law_law_852 : decode b_Law_law 852 = .ok (.bipush 32, 2) := by decide +kernel
theorem d_Law_law_854 : decode b_Law_law 854 = .ok (.lshl, 1) := by decide +kernel
theorem d_Law_law_855 : decode b_Law_law 855 = .ok (.aload_n 0, 1) := by decide +kernel
theorem d_Law_law_856 : decode b_Law_law 856 = .ok (.iload 4, 2) := by decide +kernel
theorem d_Law_law_858 : decode b_Law_law 858 = .ok (.iconst 3, 1) := by decide +kernel
theorem d_Law_law_859 : decode b_Law_law 859 = .ok (.iadd, 1) := by decide +kernel
theorem d_Law_law_860 : decode b_Law_law 860 = .ok (.iaload, 1) := by decide +kernel
theorem d_Law_law_861 : decode b_Law_law 861 = .ok (.i2l, 1) := by decide +kernel
theorem d_Law_law_862 : decode b_Law_law 862 = .ok (.ldc2_w 94, 3) := by decide +kernel
theorem d_Law_law_865 : decode b_Law_law 865 = .ok (.land, 1) := by decide +kernel
theorem d_Law_law_866 : decode b_Law_law 866 = .ok (.lor, 1) := by decide +kernel
theorem d_Law_law_867 : decode b_Law_law 867 = .ok (.invokestatic 139, 3) := by decide +kernel
theorem d_Law_law_870 : decode b_Law_law 870 = .ok (.istore 5, 2) := by decide +kernel
theorem d_Law_law_872 : decode b_Law_law 872 = .ok (.aload_n 2, 1) := by decide +kernel
theorem d_Law_law_873 : decode b_Law_law 873 = .ok (.aload_n 0, 1) := by decide +kernel
theorem d_Law_law_874 : decode b_Law_law 874 = .ok (.iload 4, 2) := by decide +kernel
theorem d_Law_law_876 : decode b_Law_law 876 = .ok (.iconst 1, 1) := by decide +kernel
theorem d_Law_law_877 : decode b_Law_law 877 = .ok (.iadd, 1) := by decide +kernel
theorem d_Law_law_878 : decode b_Law_law 878 = .ok (.iaload, 1) := by decide +kernel
theorem d_Law_law_879 : decode b_Law_law 879 = .ok (.aload_n 0, 1) := by decide +kernel
theorem d_Law_law_880 : decode b_Law_law 880 = .ok (.iload 4, 2) := by decide +kernel
theorem d_Law_law_882 : decode b_Law_law 882 = .ok (.iconst 2, 1) := by decide +kernel
theorem d_Law_law_883 : decode b_Law_law 883 = .ok (.iadd, 1) := by decide +kernel
theorem d_Law_law_884 : decode b_Law_law 884 = .ok (.iaload, 1) := by decide +kernel
theorem d_Law_law_885 : decode b_Law_law 885 = .ok (.i2l, 1) := by decide +kernel
theorem d_Law_law_886 : decode b_Law_law 886 = .ok (.bipush 32, 2) := by decide +kernel
theorem d_Law_law_888 : decode b_Law_law 888 = .ok (.lshl, 1) := by decide +kernel
theorem d_Law_law_889 : decode b_Law_law 889 = .ok (.aload_n 0, 1) := by decide +kernel
theorem d_Law_law_890 : decode b_Law_law 890 = .ok (.iload 4, 2) := by decide +kernel
theorem d_Law_law_892 : decode b_Law_law 892 = .ok (.iconst 3, 1) := by decide +kernel
theorem d_Law_law_893 : decode b_Law_law 893 = .ok (.iadd, 1) := by decide +kernel
theorem d_Law_law_894 : decode b_Law_law 894 = .ok (.iaload, 1) := by decide +kernel
theorem d_Law_law_895 : decode b_Law_law 895 = .ok (.i2l, 1) := by decide +kernel
theorem d_Law_law_896 : decode b_Law_law 896 = .ok (.ldc2_w 94, 3) := by decide +kernel
theorem d_Law_law_899 : decode b_Law_law 899 = .ok (.land, 1) := by decide +kernel
theorem d_Law_law_900 : decode b_Law_law 900 = .ok (.lor, 1) := by decide +kernel
theorem d_Law_law_901 : decode b_Law_law 901 = .ok (.invokevirtual 142, 3) := by decide +kernel
theorem d_Law_law_904 : decode b_Law_law 904 = .ok (.goto 81, 3) := by decide +kernel
theorem d_Law_law_907 : decode b_Law_law 907 = .ok (.aload_n 1, 1) := by decide +kernel
theorem d_Law_law_908 : decode b_Law_law 908 = .ok (.aload_n 0, 1) := by decide +kernel
theorem d_Law_law_909 : decode b_Law_law 909 = .ok (.iload 4, 2) := by decide +kernel
theorem d_Law_law_911 : decode b_Law_law 911 = .ok (.iconst 1, 1) := by decide +kernel
theorem d_Law_law_912 : decode b_Law_law 912 = .ok (.iadd, 1) := by decide +kernel
theorem d_Law_law_913 : decode b_Law_law 913 = .ok (.iaload, 1) := by decide +kernel
theorem d_Law_law_914 : decode b_Law_law 914 = .ok (.aload_n 3, 1) := by decide +kernel
theorem d_Law_law_915 : decode b_Law_law 915 = .ok (.invokestatic 143, 3) := by decide +kernel
theorem d_Law_law_918 : decode b_Law_law 918 = .ok (.istore 5, 2) := by decide +kernel
theorem d_Law_law_920 : decode b_Law_law 920 = .ok (.aload_n 2, 1) := by decide +kernel
theorem d_Law_law_921 : decode b_Law_law 921 = .ok (.aload_n 0, 1) := by decide +kernel
theorem d_Law_law_922 : decode b_Law_law 922 = .ok (.iload 4, 2) := by decide +kernel
theorem d_Law_law_924 : decode b_Law_law 924 = .ok (.iconst 1, 1) := by decide +kernel
theorem d_Law_law_925 : decode b_Law_law 925 = .ok (.iadd, 1) := by decide +kernel
theorem d_Law_law_926 : decode b_Law_law 926 = .ok (.iaload, 1) := by decide +kernel
theorem d_Law_law_927 : decode b_Law_law 927 = .ok (.invokevirtual 145, 3) := by decide +kernel
theorem d_Law_law_930 : decode b_Law_law 930 = .ok (.istore 6, 2) := by decide +kernel
theorem d_Law_law_932 : decode b_Law_law 932 = .ok (.goto 53, 3) := by decide +kernel
theorem d_Law_law_935 : decode b_Law_law 935 = .ok (.aload_n 1, 1) := by decide +kernel
theorem d_Law_law_936 : decode b_Law_law 936 = .ok (.aload_n 0, 1) := by decide +kernel
theorem d_Law_law_937 : decode b_Law_law 937 = .ok (.iload 4, 2) := by decide +kernel
theorem d_Law_law_939 : decode b_Law_law 939 = .ok (.iconst 1, 1) := by decide +kernel
theorem d_Law_law_940 : decode b_Law_law 940 = .ok (.iadd, 1) := by decide +kernel
theorem d_Law_law_941 : decode b_Law_law 941 = .ok (.iaload, 1) := by decide +kernel
theorem d_Law_law_942 : decode b_Law_law 942 = .ok (.invokevirtual 146, 3) := by decide +kernel
theorem d_Law_law_945 : decode b_Law_law 945 = .ok (.pop2, 1) := by decide +kernel
theorem d_Law_law_946 : decode b_Law_law 946 = .ok (.aload_n 2, 1) := by decide +kernel
theorem d_Law_law_947 : decode b_Law_law 947 = .ok (.aload_n 0, 1) := by decide +kernel
theorem d_Law_law_948 : decode b_Law_law 948 = .ok (.iload 4, 2) := by decide +kernel
theorem d_Law_law_950 : decode b_Law_law 950 = .ok (.iconst 1, 1) := by decide +kernel
theorem d_Law_law_951 : decode b_Law_law 951 = .ok (.iadd, 1) := by decide +kernel
theorem d_Law_law_952 : decode b_Law_law 952 = .ok (.iaload, 1) := by decide +kernel
theorem d_Law_law_953 : decode b_Law_law 953 = .ok (.invokevirtual 150, 3) := by decide +kernel
theorem d_Law_law_956 : decode b_Law_law 956 = .ok (.pop2, 1) := by decide +kernel
theorem d_Law_law_957 : decode b_Law_law 957 = .ok (.goto 28, 3) := by decide +kernel
theorem d_Law_law_960 : decode b_Law_law 960 = .ok (.aload_n 1, 1) := by decide +kernel
theorem d_Law_law_961 : decode b_Law_law 961 = .ok (.aload_n 0, 1) := by decide +kernel
theorem d_Law_law_962 : decode b_Law_law 962 = .ok (.iload 4, 2) := by decide +kernel
theorem d_Law_law_964 : decode b_Law_law 964 = .ok (.iconst 1, 1) := by decide +kernel
theorem d_Law_law_965 : decode b_Law_law 965 = .ok (.iadd, 1) := by decide +kernel
theorem d_Law_law_966 : decode b_Law_law 966 = .ok (.iaload, 1) := by decide +kernel
theorem d_Law_law_967 : decode b_Law_law 967 = .ok (.invokevirtual 151, 3) := by decide +kernel
theorem d_Law_law_970 : decode b_Law_law 970 = .ok (.pop, 1) := by decide +kernel
theorem d_Law_law_971 : decode b_Law_law 971 = .ok (.aload_n 2, 1) := by decide +kernel
theorem d_Law_law_972 : decode b_Law_law 972 = .ok (.aload_n 0, 1) := by decide +kernel
theorem d_Law_law_973 : decode b_Law_law 973 = .ok (.iload 4, 2) := by decide +kernel
theorem d_Law_law_975 : decode b_Law_law 975 = .ok (.iconst 1, 1) := by decide +kernel
theorem d_Law_law_976 : decode b_Law_law 976 = .ok (.iadd, 1) := by decide +kernel
theorem d_Law_law_977 : decode b_Law_law 977 = .ok (.iaload, 1) := by decide +kernel
theorem d_Law_law_978 : decode b_Law_law 978 = .ok (.invokevirtual 154, 3) := by decide +kernel
theorem d_Law_law_981 : decode b_Law_law 981 = .ok (.pop, 1) := by decide +kernel
theorem d_Law_law_982 : decode b_Law_law 982 = .ok (.goto 3, 3) := by decide +kernel
theorem d_Law_law_985 : decode b_Law_law 985 = .ok (.iinc 4 6, 3) := by decide +kernel
theorem d_Law_law_988 : decode b_Law_law 988 = .ok (.goto (-965), 3) := by decide +kernel
theorem d_Law_law_991 : decode b_Law_law 991 = .ok (.iconst 1, 1) := by decide +kernel
theorem d_Law_law_992 : decode b_Law_law 992 = .ok (.ireturn, 1) := by decide +kernel
