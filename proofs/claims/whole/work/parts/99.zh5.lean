/-! decode rows of the law -/
theorem dlaw_812 : decode code 812 = .ok (.iload_n 3, 1) := by decide +kernel
theorem dlaw_813 : decode code 813 = .ok (.iconst 1, 1) := by decide +kernel
theorem dlaw_814 : decode code 814 = .ok (.iadd, 1) := by decide +kernel
theorem dlaw_815 : decode code 815 = .ok (.iaload, 1) := by decide +kernel
theorem dlaw_816 : decode code 816 = .ok (.aload_n 0, 1) := by decide +kernel
theorem dlaw_817 : decode code 817 = .ok (.iload_n 3, 1) := by decide +kernel
theorem dlaw_818 : decode code 818 = .ok (.iconst 2, 1) := by decide +kernel
theorem dlaw_819 : decode code 819 = .ok (.iadd, 1) := by decide +kernel
theorem dlaw_820 : decode code 820 = .ok (.iaload, 1) := by decide +kernel
theorem dlaw_821 : decode code 821 = .ok (.invokevirtual 109, 3) := by decide +kernel
theorem dlaw_824 : decode code 824 = .ok (.if_icmp .eq 306, 3) := by decide +kernel
theorem dlaw_827 : decode code 827 = .ok (.iconst 0, 1) := by decide +kernel
theorem dlaw_828 : decode code 828 = .ok (.ireturn, 1) := by decide +kernel
theorem dlaw_829 : decode code 829 = .ok (.aload_n 1, 1) := by decide +kernel
theorem dlaw_830 : decode code 830 = .ok (.aload_n 0, 1) := by decide +kernel
theorem dlaw_831 : decode code 831 = .ok (.iload_n 3, 1) := by decide +kernel
theorem dlaw_832 : decode code 832 = .ok (.iconst 1, 1) := by decide +kernel
theorem dlaw_833 : decode code 833 = .ok (.iadd, 1) := by decide +kernel
theorem dlaw_834 : decode code 834 = .ok (.iaload, 1) := by decide +kernel
theorem dlaw_835 : decode code 835 = .ok (.aload_n 0, 1) := by decide +kernel
theorem dlaw_836 : decode code 836 = .ok (.iload_n 3, 1) := by decide +kernel
theorem dlaw_837 : decode code 837 = .ok (.iconst 2, 1) := by decide +kernel
theorem dlaw_838 : decode code 838 = .ok (.iadd, 1) := by decide +kernel
theorem dlaw_839 : decode code 839 = .ok (.iaload, 1) := by decide +kernel
theorem dlaw_840 : decode code 840 = .ok (.invokevirtual 110, 3) := by decide +kernel
theorem dlaw_843 : decode code 843 = .ok (.aload_n 2, 1) := by decide +kernel
theorem dlaw_844 : decode code 844 = .ok (.aload_n 0, 1) := by decide +kernel
theorem dlaw_845 : decode code 845 = .ok (.iload_n 3, 1) := by decide +kernel
theorem dlaw_846 : decode code 846 = .ok (.iconst 1, 1) := by decide +kernel
theorem dlaw_847 : decode code 847 = .ok (.iadd, 1) := by decide +kernel
theorem dlaw_848 : decode code 848 = .ok (.iaload, 1) := by decide +kernel
theorem dlaw_849 : decode code 849 = .ok (.aload_n 0, 1) := by decide +kernel
theorem dlaw_850 : decode code 850 = .ok (.iload_n 3, 1) := by decide +kernel
theorem dlaw_851 : decode code 851 = .ok (.iconst 2, 1) := by decide +kernel
theorem dlaw_852 : decode code 852 = .ok (.iadd, 1) := by decide +kernel
theorem dlaw_853 : decode code 853 = .ok (.iaload, 1) := by decide +kernel
theorem dlaw_854 : decode code 854 = .ok (.invokevirtual 113, 3) := by decide +kernel
theorem dlaw_857 : decode code 857 = .ok (.if_icmp .eq 273, 3) := by decide +kernel
theorem dlaw_860 : decode code 860 = .ok (.iconst 0, 1) := by decide +kernel
theorem dlaw_861 : decode code 861 = .ok (.ireturn, 1) := by decide +kernel
theorem dlaw_862 : decode code 862 = .ok (.aload_n 1, 1) := by decide +kernel
theorem dlaw_863 : decode code 863 = .ok (.aload_n 0, 1) := by decide +kernel
theorem dlaw_864 : decode code 864 = .ok (.iload_n 3, 1) := by decide +kernel
theorem dlaw_865 : decode code 865 = .ok (.iconst 1, 1) := by decide +kernel
theorem dlaw_866 : decode code 866 = .ok (.iadd, 1) := by decide +kernel
theorem dlaw_867 : decode code 867 = .ok (.iaload, 1) := by decide +kernel
theorem dlaw_868 : decode code 868 = .ok (.aload_n 0, 1) := by decide +kernel
theorem dlaw_869 : decode code 869 = .ok (.iload_n 3, 1) := by decide +kernel
theorem dlaw_870 : decode code 870 = .ok (.iconst 2, 1) := by decide +kernel
theorem dlaw_871 : decode code 871 = .ok (.iadd, 1) := by decide +kernel
theorem dlaw_872 : decode code 872 = .ok (.iaload, 1) := by decide +kernel
theorem dlaw_873 : decode code 873 = .ok (.aload_n 0, 1) := by decide +kernel
theorem dlaw_874 : decode code 874 = .ok (.iload_n 3, 1) := by decide +kernel
theorem dlaw_875 : decode code 875 = .ok (.iconst 3, 1) := by decide +kernel
theorem dlaw_876 : decode code 876 = .ok (.iadd, 1) := by decide +kernel
theorem dlaw_877 : decode code 877 = .ok (.iaload, 1) := by decide +kernel
theorem dlaw_878 : decode code 878 = .ok (.i2l, 1) := by decide +kernel
theorem dlaw_879 : decode code 879 = .ok (.bipush 32, 2) := by decide +kernel
theorem dlaw_881 : decode code 881 = .ok (.lshl, 1) := by decide +kernel
theorem dlaw_882 : decode code 882 = .ok (.aload_n 0, 1) := by decide +kernel
theorem dlaw_883 : decode code 883 = .ok (.iload_n 3, 1) := by decide +kernel
theorem dlaw_884 : decode code 884 = .ok (.iconst 4, 1) := by decide +kernel
theorem dlaw_885 : decode code 885 = .ok (.iadd, 1) := by decide +kernel
theorem dlaw_886 : decode code 886 = .ok (.iaload, 1) := by decide +kernel
theorem dlaw_887 : decode code 887 = .ok (.i2l, 1) := by decide +kernel
theorem dlaw_888 : decode code 888 = .ok (.ldc2_w 114, 3) := by decide +kernel
theorem dlaw_891 : decode code 891 = .ok (.land, 1) := by decide +kernel
theorem dlaw_892 : decode code 892 = .ok (.lor, 1) := by decide +kernel
theorem dlaw_893 : decode code 893 = .ok (.invokevirtual 116, 3) := by decide +kernel
theorem dlaw_896 : decode code 896 = .ok (.aload_n 2, 1) := by decide +kernel
theorem dlaw_897 : decode code 897 = .ok (.aload_n 0, 1) := by decide +kernel
theorem dlaw_898 : decode code 898 = .ok (.iload_n 3, 1) := by decide +kernel
theorem dlaw_899 : decode code 899 = .ok (.iconst 1, 1) := by decide +kernel
theorem dlaw_900 : decode code 900 = .ok (.iadd, 1) := by decide +kernel
theorem dlaw_901 : decode code 901 = .ok (.iaload, 1) := by decide +kernel
theorem dlaw_902 : decode code 902 = .ok (.aload_n 0, 1) := by decide +kernel
theorem dlaw_903 : decode code 903 = .ok (.iload_n 3, 1) := by decide +kernel
theorem dlaw_904 : decode code 904 = .ok (.iconst 2, 1) := by decide +kernel
theorem dlaw_905 : decode code 905 = .ok (.iadd, 1) := by decide +kernel
theorem dlaw_906 : decode code 906 = .ok (.iaload, 1) := by decide +kernel
theorem dlaw_907 : decode code 907 = .ok (.aload_n 0, 1) := by decide +kernel
theorem dlaw_908 : decode code 908 = .ok (.iload_n 3, 1) := by decide +kernel
theorem dlaw_909 : decode code 909 = .ok (.iconst 3, 1) := by decide +kernel
theorem dlaw_910 : decode code 910 = .ok (.iadd, 1) := by decide +kernel
theorem dlaw_911 : decode code 911 = .ok (.iaload, 1) := by decide +kernel
theorem dlaw_912 : decode code 912 = .ok (.i2l, 1) := by decide +kernel
theorem dlaw_913 : decode code 913 = .ok (.bipush 32, 2) := by decide +kernel
theorem dlaw_915 : decode code 915 = .ok (.lshl, 1) := by decide +kernel
theorem dlaw_916 : decode code 916 = .ok (.aload_n 0, 1) := by decide +kernel
theorem dlaw_917 : decode code 917 = .ok (.iload_n 3, 1) := by decide +kernel
theorem dlaw_918 : decode code 918 = .ok (.iconst 4, 1) := by decide +kernel
theorem dlaw_919 : decode code 919 = .ok (.iadd, 1) := by decide +kernel
theorem dlaw_920 : decode code 920 = .ok (.iaload, 1) := by decide +kernel
theorem dlaw_921 : decode code 921 = .ok (.i2l, 1) := by decide +kernel
theorem dlaw_922 : decode code 922 = .ok (.ldc2_w 114, 3) := by decide +kernel
theorem dlaw_925 : decode code 925 = .ok (.land, 1) := by decide +kernel
theorem dlaw_926 : decode code 926 = .ok (.lor, 1) := by decide +kernel
theorem dlaw_927 : decode code 927 = .ok (.invokevirtual 120, 3) := by decide +kernel
theorem dlaw_930 : decode code 930 = .ok (.if_icmp .eq 200, 3) := by decide +kernel
theorem dlaw_933 : decode code 933 = .ok (.iconst 0, 1) := by decide +kernel
theorem dlaw_934 : decode code 934 = .ok (.ireturn, 1) := by decide +kernel
theorem dlaw_935 : decode code 935 = .ok (.aload_n 1, 1) := by decide +kernel
theorem dlaw_936 : decode code 936 = .ok (.aload_n 0, 1) := by decide +kernel
theorem dlaw_937 : decode code 937 = .ok (.iload_n 3, 1) := by decide +kernel
theorem dlaw_938 : decode code 938 = .ok (.iconst 1, 1) := by decide +kernel
theorem dlaw_939 : decode code 939 = .ok (.iadd, 1) := by decide +kernel
theorem dlaw_940 : decode code 940 = .ok (.iaload, 1) := by decide +kernel
theorem dlaw_941 : decode code 941 = .ok (.aload_n 0, 1) := by decide +kernel
theorem dlaw_942 : decode code 942 = .ok (.iload_n 3, 1) := by decide +kernel
theorem dlaw_943 : decode code 943 = .ok (.iconst 2, 1) := by decide +kernel
theorem dlaw_944 : decode code 944 = .ok (.iadd, 1) := by decide +kernel
theorem dlaw_945 : decode code 945 = .ok (.iaload, 1) := by decide +kernel
theorem dlaw_946 : decode code 946 = .ok (.invokevirtual 121, 3) := by decide +kernel
theorem dlaw_949 : decode code 949 = .ok (.aload_n 2, 1) := by decide +kernel
theorem dlaw_950 : decode code 950 = .ok (.aload_n 0, 1) := by decide +kernel
theorem dlaw_951 : decode code 951 = .ok (.iload_n 3, 1) := by decide +kernel
theorem dlaw_952 : decode code 952 = .ok (.iconst 1, 1) := by decide +kernel
theorem dlaw_953 : decode code 953 = .ok (.iadd, 1) := by decide +kernel
theorem dlaw_954 : decode code 954 = .ok (.iaload, 1) := by decide +kernel
theorem dlaw_955 : decode code 955 = .ok (.aload_n 0, 1) := by decide +kernel
theorem dlaw_956 : decode code 956 = .ok (.iload_n 3, 1) := by decide +kernel
theorem dlaw_957 : decode code 957 = .ok (.iconst 2, 1) := by decide +kernel
theorem dlaw_958 : decode code 958 = .ok (.iadd, 1) := by decide +kernel
theorem dlaw_959 : decode code 959 = .ok (.iaload, 1) := by decide +kernel
theorem dlaw_960 : decode code 960 = .ok (.invokevirtual 125, 3) := by decide +kernel
theorem dlaw_963 : decode code 963 = .ok (.lcmp, 1) := by decide +kernel
theorem dlaw_964 : decode code 964 = .ok (.ifCond .eq 166, 3) := by decide +kernel
theorem dlaw_967 : decode code 967 = .ok (.iconst 0, 1) := by decide +kernel
theorem dlaw_968 : decode code 968 = .ok (.ireturn, 1) := by decide +kernel
theorem dlaw_969 : decode code 969 = .ok (.aload_n 1, 1) := by decide +kernel
