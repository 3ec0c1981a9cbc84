theorem dL_law_810 : decode cL_law 810 = .ok (.iconst 2, 1) := o5 hcL_law rfl
theorem dL_law_811 : decode cL_law 811 = .ok (.iadd, 1) := o96 hcL_law rfl
theorem dL_law_812 : decode cL_law 812 = .ok (.iaload, 1) := o46 hcL_law rfl
theorem dL_law_813 : decode cL_law 813 = .ok (.invokevirtual 89, 3) := o182 hcL_law rfl
theorem dL_law_816 : decode cL_law 816 = .ok (.pop, 1) := o87 hcL_law rfl
theorem dL_law_817 : decode cL_law 817 = .ok (.goto 679, 3) := o167 hcL_law (a := 679) rfl rfl
theorem dL_law_820 : decode cL_law 820 = .ok (.aload_n 1, 1) := o43 hcL_law rfl
theorem dL_law_821 : decode cL_law 821 = .ok (.aload_n 0, 1) := o42 hcL_law rfl
theorem dL_law_822 : decode cL_law 822 = .ok (.iload_n 3, 1) := o29 hcL_law rfl
theorem dL_law_823 : decode cL_law 823 = .ok (.iconst 1, 1) := o4 hcL_law rfl
theorem dL_law_824 : decode cL_law 824 = .ok (.iadd, 1) := o96 hcL_law rfl
theorem dL_law_825 : decode cL_law 825 = .ok (.iaload, 1) := o46 hcL_law rfl
theorem dL_law_826 : decode cL_law 826 = .ok (.aload_n 0, 1) := o42 hcL_law rfl
theorem dL_law_827 : decode cL_law 827 = .ok (.iload_n 3, 1) := o29 hcL_law rfl
theorem dL_law_828 : decode cL_law 828 = .ok (.iconst 2, 1) := o5 hcL_law rfl
theorem dL_law_829 : decode cL_law 829 = .ok (.iadd, 1) := o96 hcL_law rfl
theorem dL_law_830 : decode cL_law 830 = .ok (.iaload, 1) := o46 hcL_law rfl
theorem dL_law_831 : decode cL_law 831 = .ok (.aload_n 0, 1) := o42 hcL_law rfl
theorem dL_law_832 : decode cL_law 832 = .ok (.iload_n 3, 1) := o29 hcL_law rfl
theorem dL_law_833 : decode cL_law 833 = .ok (.iconst 3, 1) := o6 hcL_law rfl
theorem dL_law_834 : decode cL_law 834 = .ok (.iadd, 1) := o96 hcL_law rfl
theorem dL_law_835 : decode cL_law 835 = .ok (.iaload, 1) := o46 hcL_law rfl
theorem dL_law_836 : decode cL_law 836 = .ok (.aload_n 0, 1) := o42 hcL_law rfl
theorem dL_law_837 : decode cL_law 837 = .ok (.iload_n 3, 1) := o29 hcL_law rfl
theorem dL_law_838 : decode cL_law 838 = .ok (.iconst 4, 1) := o7 hcL_law rfl
theorem dL_law_839 : decode cL_law 839 = .ok (.iadd, 1) := o96 hcL_law rfl
theorem dL_law_840 : decode cL_law 840 = .ok (.iaload, 1) := o46 hcL_law rfl
theorem dL_law_841 : decode cL_law 841 = .ok (.invokevirtual 90, 3) := o182 hcL_law rfl
theorem dL_law_844 : decode cL_law 844 = .ok (.pop, 1) := o87 hcL_law rfl
theorem dL_law_845 : decode cL_law 845 = .ok (.aload_n 2, 1) := o44 hcL_law rfl
theorem dL_law_846 : decode cL_law 846 = .ok (.aload_n 0, 1) := o42 hcL_law rfl
theorem dL_law_847 : decode cL_law 847 = .ok (.iload_n 3, 1) := o29 hcL_law rfl
theorem dL_law_848 : decode cL_law 848 = .ok (.iconst 1, 1) := o4 hcL_law rfl
theorem dL_law_849 : decode cL_law 849 = .ok (.iadd, 1) := o96 hcL_law rfl
theorem dL_law_850 : decode cL_law 850 = .ok (.iaload, 1) := o46 hcL_law rfl
theorem dL_law_851 : decode cL_law 851 = .ok (.aload_n 0, 1) := o42 hcL_law rfl
theorem dL_law_852 : decode cL_law 852 = .ok (.iload_n 3, 1) := o29 hcL_law rfl
theorem dL_law_853 : decode cL_law 853 = .ok (.iconst 2, 1) := o5 hcL_law rfl
theorem dL_law_854 : decode cL_law 854 = .ok (.iadd, 1) := o96 hcL_law rfl
theorem dL_law_855 : decode cL_law 855 = .ok (.iaload, 1) := o46 hcL_law rfl
theorem dL_law_856 : decode cL_law 856 = .ok (.aload_n 0, 1) := o42 hcL_law rfl
theorem dL_law_857 : decode cL_law 857 = .ok (.iload_n 3, 1) := o29 hcL_law rfl
theorem dL_law_858 : decode cL_law 858 = .ok (.iconst 3, 1) := o6 hcL_law rfl
theorem dL_law_859 : decode cL_law 859 = .ok (.iadd, 1) := o96 hcL_law rfl
theorem dL_law_860 : decode cL_law 860 = .ok (.iaload, 1) := o46 hcL_law rfl
theorem dL_law_861 : decode cL_law 861 = .ok (.aload_n 0, 1) := o42 hcL_law rfl
theorem dL_law_862 : decode cL_law 862 = .ok (.iload_n 3, 1) := o29 hcL_law rfl
theorem dL_law_863 : decode cL_law 863 = .ok (.iconst 4, 1) := o7 hcL_law rfl
theorem dL_law_864 : decode cL_law 864 = .ok (.iadd, 1) := o96 hcL_law rfl
theorem dL_law_865 : decode cL_law 865 = .ok (.iaload, 1) := o46 hcL_law rfl
theorem dL_law_866 : decode cL_law 866 = .ok (.invokevirtual 94, 3) := o182 hcL_law rfl
theorem dL_law_869 : decode cL_law 869 = .ok (.pop, 1) := o87 hcL_law rfl
theorem dL_law_870 : decode cL_law 870 = .ok (.goto 626, 3) := o167 hcL_law (a := 626) rfl rfl
theorem dL_law_873 : decode cL_law 873 = .ok (.aload_n 1, 1) := o43 hcL_law rfl
theorem dL_law_874 : decode cL_law 874 = .ok (.aload_n 0, 1) := o42 hcL_law rfl
theorem dL_law_875 : decode cL_law 875 = .ok (.iload_n 3, 1) := o29 hcL_law rfl
theorem dL_law_876 : decode cL_law 876 = .ok (.iconst 1, 1) := o4 hcL_law rfl
theorem dL_law_877 : decode cL_law 877 = .ok (.iadd, 1) := o96 hcL_law rfl
theorem dL_law_878 : decode cL_law 878 = .ok (.iaload, 1) := o46 hcL_law rfl
theorem dL_law_879 : decode cL_law 879 = .ok (.aload_n 0, 1) := o42 hcL_law rfl
theorem dL_law_880 : decode cL_law 880 = .ok (.iload_n 3, 1) := o29 hcL_law rfl
theorem dL_law_881 : decode cL_law 881 = .ok (.iconst 2, 1) := o5 hcL_law rfl
theorem dL_law_882 : decode cL_law 882 = .ok (.iadd, 1) := o96 hcL_law rfl
theorem dL_law_883 : decode cL_law 883 = .ok (.iaload, 1) := o46 hcL_law rfl
theorem dL_law_884 : decode cL_law 884 = .ok (.ifCond .eq 7, 3) := o153 hcL_law (a := 7) rfl rfl
theorem dL_law_887 : decode cL_law 887 = .ok (.iconst 1, 1) := o4 hcL_law rfl
theorem dL_law_888 : decode cL_law 888 = .ok (.goto 4, 3) := o167 hcL_law (a := 4) rfl rfl
theorem dL_law_891 : decode cL_law 891 = .ok (.iconst 0, 1) := o3 hcL_law rfl
theorem dL_law_892 : decode cL_law 892 = .ok (.invokevirtual 95, 3) := o182 hcL_law rfl
theorem dL_law_895 : decode cL_law 895 = .ok (.pop, 1) := o87 hcL_law rfl
theorem dL_law_896 : decode cL_law 896 = .ok (.aload_n 2, 1) := o44 hcL_law rfl
theorem dL_law_897 : decode cL_law 897 = .ok (.aload_n 0, 1) := o42 hcL_law rfl
theorem dL_law_898 : decode cL_law 898 = .ok (.iload_n 3, 1) := o29 hcL_law rfl
theorem dL_law_899 : decode cL_law 899 = .ok (.iconst 1, 1) := o4 hcL_law rfl
theorem dL_law_900 : decode cL_law 900 = .ok (.iadd, 1) := o96 hcL_law rfl
theorem dL_law_901 : decode cL_law 901 = .ok (.iaload, 1) := o46 hcL_law rfl
theorem dL_law_902 : decode cL_law 902 = .ok (.aload_n 0, 1) := o42 hcL_law rfl
theorem dL_law_903 : decode cL_law 903 = .ok (.iload_n 3, 1) := o29 hcL_law rfl
theorem dL_law_904 : decode cL_law 904 = .ok (.iconst 2, 1) := o5 hcL_law rfl
theorem dL_law_905 : decode cL_law 905 = .ok (.iadd, 1) := o96 hcL_law rfl
theorem dL_law_906 : decode cL_law 906 = .ok (.iaload, 1) := o46 hcL_law rfl
theorem dL_law_907 : decode cL_law 907 = .ok (.ifCond .eq 7, 3) := o153 hcL_law (a := 7) rfl rfl
theorem dL_law_910 : decode cL_law 910 = .ok (.iconst 1, 1) := o4 hcL_law rfl
theorem dL_law_911 : decode cL_law 911 = .ok (.goto 4, 3) := o167 hcL_law (a := 4) rfl rfl
theorem dL_law_914 : decode cL_law 914 = .ok (.iconst 0, 1) := o3 hcL_law rfl
theorem dL_law_915 : decode cL_law 915 = .ok (.invokevirtual 99, 3) := o182 hcL_law rfl
theorem dL_law_918 : decode cL_law 918 = .ok (.pop, 1) := o87 hcL_law rfl
theorem dL_law_919 : decode cL_law 919 = .ok (.goto 577, 3) := o167 hcL_law (a := 577) rfl rfl
theorem dL_law_922 : decode cL_law 922 = .ok (.aload_n 1, 1) := o43 hcL_law rfl
theorem dL_law_923 : decode cL_law 923 = .ok (.invokevirtual 100, 3) := o182 hcL_law rfl
theorem dL_law_926 : decode cL_law 926 = .ok (.pop, 1) := o87 hcL_law rfl
theorem dL_law_927 : decode cL_law 927 = .ok (.aload_n 2, 1) := o44 hcL_law rfl
theorem dL_law_928 : decode cL_law 928 = .ok (.invokevirtual 103, 3) := o182 hcL_law rfl
theorem dL_law_931 : decode cL_law 931 = .ok (.pop, 1) := o87 hcL_law rfl
theorem dL_law_932 : decode cL_law 932 = .ok (.goto 564, 3) := o167 hcL_law (a := 564) rfl rfl
theorem dL_law_935 : decode cL_law 935 = .ok (.aload_n 1, 1) := o43 hcL_law rfl
theorem dL_law_936 : decode cL_law 936 = .ok (.invokevirtual 104, 3) := o182 hcL_law rfl
theorem dL_law_939 : decode cL_law 939 = .ok (.pop, 1) := o87 hcL_law rfl
theorem dL_law_940 : decode cL_law 940 = .ok (.aload_n 2, 1) := o44 hcL_law rfl
theorem dL_law_941 : decode cL_law 941 = .ok (.invokevirtual 107, 3) := o182 hcL_law rfl
theorem dL_law_944 : decode cL_law 944 = .ok (.pop, 1) := o87 hcL_law rfl
theorem dL_law_945 : decode cL_law 945 = .ok (.goto 551, 3) := o167 hcL_law (a := 551) rfl rfl
theorem dL_law_948 : decode cL_law 948 = .ok (.aload_n 1, 1) := o43 hcL_law rfl
theorem dL_law_949 : decode cL_law 949 = .ok (.aload_n 0, 1) := o42 hcL_law rfl
theorem dL_law_950 : decode cL_law 950 = .ok (.iload_n 3, 1) := o29 hcL_law rfl
theorem dL_law_951 : decode cL_law 951 = .ok (.iconst 1, 1) := o4 hcL_law rfl
theorem dL_law_952 : decode cL_law 952 = .ok (.iadd, 1) := o96 hcL_law rfl
theorem dL_law_953 : decode cL_law 953 = .ok (.iaload, 1) := o46 hcL_law rfl
theorem dL_law_954 : decode cL_law 954 = .ok (.aload_n 0, 1) := o42 hcL_law rfl
theorem dL_law_955 : decode cL_law 955 = .ok (.iload_n 3, 1) := o29 hcL_law rfl
theorem dL_law_956 : decode cL_law 956 = .ok (.iconst 2, 1) := o5 hcL_law rfl
theorem dL_law_957 : decode cL_law 957 = .ok (.iadd, 1) := o96 hcL_law rfl
theorem dL_law_958 : decode cL_law 958 = .ok (.iaload, 1) := o46 hcL_law rfl
theorem dL_law_959 : decode cL_law 959 = .ok (.invokevirtual 108, 3) := o182 hcL_law rfl
theorem dL_law_962 : decode cL_law 962 = .ok (.pop, 1) := o87 hcL_law rfl
theorem dL_law_963 : decode cL_law 963 = .ok (.aload_n 2, 1) := o44 hcL_law rfl
theorem dL_law_964 : decode cL_law 964 = .ok (.aload_n 0, 1) := o42 hcL_law rfl
theorem dL_law_965 : decode cL_law 965 = .ok (.iload_n 3, 1) := o29 hcL_law rfl
theorem dL_law_966 : decode cL_law 966 = .ok (.iconst 1, 1) := o4 hcL_law rfl
theorem dL_law_967 : decode cL_law 967 = .ok (.iadd, 1) := o96 hcL_law rfl
theorem dL_law_968 : decode cL_law 968 = .ok (.iaload, 1) := o46 hcL_law rfl
theorem dL_law_969 : decode cL_law 969 = .ok (.aload_n 0, 1) := o42 hcL_law rfl
theorem dL_law_970 : decode cL_law 970 = .ok (.iload_n 3, 1) := o29 hcL_law rfl
theorem dL_law_971 : decode cL_law 971 = .ok (.iconst 2, 1) := o5 hcL_law rfl
theorem dL_law_972 : decode cL_law 972 = .ok (.iadd, 1) := o96 hcL_law rfl
theorem dL_law_973 : decode cL_law 973 = .ok (.iaload, 1) := o46 hcL_law rfl
theorem dL_law_974 : decode cL_law 974 = .ok (.invokevirtual 111, 3) := o182 hcL_law rfl
theorem dL_law_977 : decode cL_law 977 = .ok (.pop, 1) := o87 hcL_law rfl
theorem dL_law_978 : decode cL_law 978 = .ok (.goto 518, 3) := o167 hcL_law (a := 518) rfl rfl
theorem dL_law_981 : decode cL_law 981 = .ok (.aload_n 1, 1) := o43 hcL_law rfl
