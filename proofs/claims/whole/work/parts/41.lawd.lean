theorem d_Law_765 : decode code 765 = .ok (.istore 5, 2) := by decide +kernel
theorem d_Law_767 : decode code 767 = .ok (.aload_n 2, 1) := by decide +kernel
theorem d_Law_768 : decode code 768 = .ok (.aload_n 0, 1) := by decide +kernel
theorem d_Law_769 : decode code 769 = .ok (.iload 4, 2) := by decide +kernel
theorem d_Law_771 : decode code 771 = .ok (.iconst 1, 1) := by decide +kernel
theorem d_Law_772 : decode code 772 = .ok (.iadd, 1) := by decide +kernel
theorem d_Law_773 : decode code 773 = .ok (.iaload, 1) := by decide +kernel
theorem d_Law_774 : decode code 774 = .ok (.aload_n 0, 1) := by decide +kernel
theorem d_Law_775 : decode code 775 = .ok (.iload 4, 2) := by decide +kernel
theorem d_Law_777 : decode code 777 = .ok (.iconst 2, 1) := by decide +kernel
theorem d_Law_778 : decode code 778 = .ok (.iadd, 1) := by decide +kernel
theorem d_Law_779 : decode code 779 = .ok (.iaload, 1) := by decide +kernel
theorem d_Law_780 : decode code 780 = .ok (.invokevirtual 134, 3) := by decide +kernel
theorem d_Law_783 : decode code 783 = .ok (.istore 6, 2) := by decide +kernel
theorem d_Law_785 : decode code 785 = .ok (.aload_n 2, 1) := by decide +kernel
theorem d_Law_786 : decode code 786 = .ok (.invokevirtual 96, 3) := by decide +kernel
theorem d_Law_789 : decode code 789 = .ok (.iload 5, 2) := by decide +kernel
theorem d_Law_791 : decode code 791 = .ok (.if_icmp .eq 5, 3) := by decide +kernel
theorem d_Law_794 : decode code 794 = .ok (.iconst 0, 1) := by decide +kernel
theorem d_Law_795 : decode code 795 = .ok (.ireturn, 1) := by decide +kernel
theorem d_Law_796 : decode code 796 = .ok (.iload 5, 2) := by decide +kernel
theorem d_Law_798 : decode code 798 = .ok (.ifCond .ne 15, 3) := by decide +kernel
theorem d_Law_801 : decode code 801 = .ok (.aload_n 3, 1) := by decide +kernel
theorem d_Law_802 : decode code 802 = .ok (.iconst 0, 1) := by decide +kernel
theorem d_Law_803 : decode code 803 = .ok (.laload, 1) := by decide +kernel
theorem d_Law_804 : decode code 804 = .ok (.iload 6, 2) := by decide +kernel
theorem d_Law_806 : decode code 806 = .ok (.i2l, 1) := by decide +kernel
theorem d_Law_807 : decode code 807 = .ok (.lcmp, 1) := by decide +kernel
theorem d_Law_808 : decode code 808 = .ok (.ifCond .eq 5, 3) := by decide +kernel
theorem d_Law_811 : decode code 811 = .ok (.iconst 0, 1) := by decide +kernel
theorem d_Law_812 : decode code 812 = .ok (.ireturn, 1) := by decide +kernel
theorem d_Law_813 : decode code 813 = .ok (.goto 624, 3) := by decide +kernel
theorem d_Law_816 : decode code 816 = .ok (.aload_n 1, 1) := by decide +kernel
theorem d_Law_817 : decode code 817 = .ok (.aload_n 0, 1) := by decide +kernel
theorem d_Law_818 : decode code 818 = .ok (.iload 4, 2) := by decide +kernel
theorem d_Law_820 : decode code 820 = .ok (.iconst 1, 1) := by decide +kernel
theorem d_Law_821 : decode code 821 = .ok (.iadd, 1) := by decide +kernel
theorem d_Law_822 : decode code 822 = .ok (.iaload, 1) := by decide +kernel
theorem d_Law_823 : decode code 823 = .ok (.aload_n 0, 1) := by decide +kernel
theorem d_Law_824 : decode code 824 = .ok (.iload 4, 2) := by decide +kernel
theorem d_Law_826 : decode code 826 = .ok (.iconst 2, 1) := by decide +kernel
theorem d_Law_827 : decode code 827 = .ok (.iadd, 1) := by decide +kernel
theorem d_Law_828 : decode code 828 = .ok (.iaload, 1) := by decide +kernel
theorem d_Law_829 : decode code 829 = .ok (.aload_n 0, 1) := by decide +kernel
theorem d_Law_830 : decode code 830 = .ok (.iload 4, 2) := by decide +kernel
theorem d_Law_832 : decode code 832 = .ok (.iconst 3, 1) := by decide +kernel
theorem d_Law_833 : decode code 833 = .ok (.iadd, 1) := by decide +kernel
theorem d_Law_834 : decode code 834 = .ok (.iaload, 1) := by decide +kernel
theorem d_Law_835 : decode code 835 = .ok (.aload_n 0, 1) := by decide +kernel
theorem d_Law_836 : decode code 836 = .ok (.iload 4, 2) := by decide +kernel
theorem d_Law_838 : decode code 838 = .ok (.iconst 4, 1) := by decide +kernel
theorem d_Law_839 : decode code 839 = .ok (.iadd, 1) := by decide +kernel
theorem d_Law_840 : decode code 840 = .ok (.iaload, 1) := by decide +kernel
theorem d_Law_841 : decode code 841 = .ok (.invokestatic 135, 3) := by decide +kernel
theorem d_Law_844 : decode code 844 = .ok (.istore 5, 2) := by decide +kernel
theorem d_Law_846 : decode code 846 = .ok (.aload_n 2, 1) := by decide +kernel
theorem d_Law_847 : decode code 847 = .ok (.aload_n 0, 1) := by decide +kernel
theorem d_Law_848 : decode code 848 = .ok (.iload 4, 2) := by decide +kernel
theorem d_Law_850 : decode code 850 = .ok (.iconst 1, 1) := by decide +kernel
theorem d_Law_851 : decode code 851 = .ok (.iadd, 1) := by decide +kernel
theorem d_Law_852 : decode code 852 = .ok (.iaload, 1) := by decide +kernel
theorem d_Law_853 : decode code 853 = .ok (.aload_n 0, 1) := by decide +kernel
theorem d_Law_854 : decode code 854 = .ok (.iload 4, 2) := by decide +kernel
theorem d_Law_856 : decode code 856 = .ok (.iconst 2, 1) := by decide +kernel
theorem d_Law_857 : decode code 857 = .ok (.iadd, 1) := by decide +kernel
theorem d_Law_858 : decode code 858 = .ok (.iaload, 1) := by decide +kernel
theorem d_Law_859 : decode code 859 = .ok (.aload_n 0, 1) := by decide +kernel
theorem d_Law_860 : decode code 860 = .ok (.iload 4, 2) := by decide +kernel
theorem d_Law_862 : decode code 862 = .ok (.iconst 3, 1) := by decide +kernel
theorem d_Law_863 : decode code 863 = .ok (.iadd, 1) := by decide +kernel
theorem d_Law_864 : decode code 864 = .ok (.iaload, 1) := by decide +kernel
theorem d_Law_865 : decode code 865 = .ok (.aload_n 0, 1) := by decide +kernel
theorem d_Law_866 : decode code 866 = .ok (.iload 4, 2) := by decide +kernel
theorem d_Law_868 : decode code 868 = .ok (.iconst 4, 1) := by decide +kernel
theorem d_Law_869 : decode code 869 = .ok (.iadd, 1) := by decide +kernel
theorem d_Law_870 : decode code 870 = .ok (.iaload, 1) := by decide +kernel
theorem d_Law_871 : decode code 871 = .ok (.invokevirtual 138, 3) := by decide +kernel
theorem d_Law_874 : decode code 874 = .ok (.aload_n 2, 1) := by decide +kernel
theorem d_Law_875 : decode code 875 = .ok (.invokevirtual 96, 3) := by decide +kernel
theorem d_Law_878 : decode code 878 = .ok (.iload 5, 2) := by decide +kernel
theorem d_Law_880 : decode code 880 = .ok (.if_icmp .eq 5, 3) := by decide +kernel
theorem d_Law_883 : decode code 883 = .ok (.iconst 0, 1) := by decide +kernel
theorem d_Law_884 : decode code 884 = .ok (.ireturn, 1) := by decide +kernel
theorem d_Law_885 : decode code 885 = .ok (.goto 552, 3) := by decide +kernel
theorem d_Law_888 : decode code 888 = .ok (.aload_n 1, 1) := by decide +kernel
theorem d_Law_889 : decode code 889 = .ok (.aload_n 0, 1) := by decide +kernel
theorem d_Law_890 : decode code 890 = .ok (.iload 4, 2) := by decide +kernel
theorem d_Law_892 : decode code 892 = .ok (.iconst 1, 1) := by decide +kernel
theorem d_Law_893 : decode code 893 = .ok (.iadd, 1) := by decide +kernel
theorem d_Law_894 : decode code 894 = .ok (.iaload, 1) := by decide +kernel
theorem d_Law_895 : decode code 895 = .ok (.aload_n 0, 1) := by decide +kernel
theorem d_Law_896 : decode code 896 = .ok (.iload 4, 2) := by decide +kernel
theorem d_Law_898 : decode code 898 = .ok (.iconst 2, 1) := by decide +kernel
theorem d_Law_899 : decode code 899 = .ok (.iadd, 1) := by decide +kernel
theorem d_Law_900 : decode code 900 = .ok (.iaload, 1) := by decide +kernel
theorem d_Law_901 : decode code 901 = .ok (.aload_n 3, 1) := by decide +kernel
theorem d_Law_902 : decode code 902 = .ok (.invokestatic 139, 3) := by decide +kernel
theorem d_Law_905 : decode code 905 = .ok (.istore 5, 2) := by decide +kernel
theorem d_Law_907 : decode code 907 = .ok (.aload_n 2, 1) := by decide +kernel
theorem d_Law_908 : decode code 908 = .ok (.aload_n 0, 1) := by decide +kernel
theorem d_Law_909 : decode code 909 = .ok (.iload 4, 2) := by decide +kernel
theorem d_Law_911 : decode code 911 = .ok (.iconst 1, 1) := by decide +kernel
theorem d_Law_912 : decode code 912 = .ok (.iadd, 1) := by decide +kernel
theorem d_Law_913 : decode code 913 = .ok (.iaload, 1) := by decide +kernel
theorem d_Law_914 : decode code 914 = .ok (.aload_n 0, 1) := by decide +kernel
theorem d_Law_915 : decode code 915 = .ok (.iload 4, 2) := by decide +kernel
theorem d_Law_917 : decode code 917 = .ok (.iconst 2, 1) := by decide +kernel
theorem d_Law_918 : decode code 918 = .ok (.iadd, 1) := by decide +kernel
theorem d_Law_919 : decode code 919 = .ok (.iaload, 1) := by decide +kernel
theorem d_Law_920 : decode code 920 = .ok (.invokevirtual 141, 3) := by decide +kernel
theorem d_Law_923 : decode code 923 = .ok (.istore 6, 2) := by decide +kernel
theorem d_Law_925 : decode code 925 = .ok (.aload_n 2, 1) := by decide +kernel
theorem d_Law_926 : decode code 926 = .ok (.invokevirtual 96, 3) := by decide +kernel
theorem d_Law_929 : decode code 929 = .ok (.iload 5, 2) := by decide +kernel
theorem d_Law_931 : decode code 931 = .ok (.if_icmp .eq 5, 3) := by decide +kernel
theorem d_Law_934 : decode code 934 = .ok (.iconst 0, 1) := by decide +kernel
theorem d_Law_935 : decode code 935 = .ok (.ireturn, 1) := by decide +kernel
theorem d_Law_936 : decode code 936 = .ok (.iload 5, 2) := by decide +kernel
theorem d_Law_938 : decode code 938 = .ok (.ifCond .ne 15, 3) := by decide +kernel
theorem d_Law_941 : decode code 941 = .ok (.aload_n 3, 1) := by decide +kernel
theorem d_Law_942 : decode code 942 = .ok (.iconst 0, 1) := by decide +kernel
theorem d_Law_943 : decode code 943 = .ok (.laload, 1) := by decide +kernel
theorem d_Law_944 : decode code 944 = .ok (.iload 6, 2) := by decide +kernel
theorem d_Law_946 : decode code 946 = .ok (.i2l, 1) := by decide +kernel
theorem d_Law_947 : decode code 947 = .ok (.lcmp, 1) := by decide +kernel
theorem d_Law_948 : decode code 948 = .ok (.ifCond .eq 5, 3) := by decide +kernel
theorem d_Law_951 : decode code 951 = .ok (.iconst 0, 1) := by decide +kernel
theorem d_Law_952 : decode code 952 = .ok (.ireturn, 1) := by decide +kernel
theorem d_Law_953 : decode code 953 = .ok (.goto 484, 3) := by decide +kernel
theorem d_Law_956 : decode code 956 = .ok (.aload_n 1, 1) := by decide +kernel
theorem d_Law_957 : decode code 957 = .ok (.aload_n 0, 1) := by decide +kernel
theorem d_Law_958 : decode code 958 = .ok (.iload 4, 2) := by decide +kernel
theorem d_Law_960 : decode code 960 = .ok (.iconst 1, 1) := by decide +kernel
theorem d_Law_961 : decode code 961 = .ok (.iadd, 1) := by decide +kernel
theorem d_Law_962 : decode code 962 = .ok (.iaload, 1) := by decide +kernel
theorem d_Law_963 : decode code 963 = .ok (.i2l, 1) := by decide +kernel
theorem d_Law_964 : decode code 964 = .ok (.bipush 32, 2) := by decide +kernel
theorem d_Law_966 : decode code 966 = .ok (.lshl, 1) := by decide +kernel
theorem d_Law_967 : decode code 967 = .ok (.aload_n 0, 1) := by decide +kernel
theorem d_Law_968 : decode code 968 = .ok (.iload 4, 2) := by decide +kernel
theorem d_Law_970 : decode code 970 = .ok (.iconst 2, 1) := by decide +kernel
theorem d_Law_971 : decode code 971 = .ok (.iadd, 1) := by decide +kernel
theorem d_Law_972 : decode code 972 = .ok (.iaload, 1) := by decide +kernel
theorem d_Law_973 : decode code 973 = .ok (.i2l, 1) := by decide +kernel
theorem d_Law_974 : decode code 974 = .ok (.ldc2_w 142, 3) := by decide +kernel
theorem d_Law_977 : decode code 977 = .ok (.land, 1) := by decide +kernel
theorem d_Law_978 : decode code 978 = .ok (.lor, 1) := by decide +kernel
theorem d_Law_979 : decode code 979 = .ok (.aload_n 0, 1) := by decide +kernel
theorem d_Law_980 : decode code 980 = .ok (.iload 4, 2) := by decide +kernel
theorem d_Law_982 : decode code 982 = .ok (.iconst 3, 1) := by decide +kernel
