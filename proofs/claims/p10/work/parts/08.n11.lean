theorem d_M_init_722 : decode b_M_init 722 = .ok (.bipush 13, 2) := by decide +kernel
theorem d_M_init_724 : decode b_M_init 724 = .ok (.ldc 175, 2) := by decide +kernel
theorem d_M_init_726 : decode b_M_init 726 = .ok (.iastore, 1) := by decide +kernel
theorem d_M_init_727 : decode b_M_init 727 = .ok (.aload_n 0, 1) := by decide +kernel
theorem d_M_init_728 : decode b_M_init 728 = .ok (.getfield 13, 3) := by decide +kernel
theorem d_M_init_731 : decode b_M_init 731 = .ok (.bipush 14, 2) := by decide +kernel
theorem d_M_init_733 : decode b_M_init 733 = .ok (.ldc 176, 2) := by decide +kernel
theorem d_M_init_735 : decode b_M_init 735 = .ok (.iastore, 1) := by decide +kernel
theorem d_M_init_736 : decode b_M_init 736 = .ok (.aload_n 0, 1) := by decide +kernel
theorem d_M_init_737 : decode b_M_init 737 = .ok (.getfield 13, 3) := by decide +kernel
theorem d_M_init_740 : decode b_M_init 740 = .ok (.bipush 15, 2) := by decide +kernel
theorem d_M_init_742 : decode b_M_init 742 = .ok (.ldc 177, 2) := by decide +kernel
theorem d_M_init_744 : decode b_M_init 744 = .ok (.iastore, 1) := by decide +kernel
theorem d_M_init_745 : decode b_M_init 745 = .ok (.aload_n 0, 1) := by decide +kernel
theorem d_M_init_746 : decode b_M_init 746 = .ok (.getfield 13, 3) := by decide +kernel
theorem d_M_init_749 : decode b_M_init 749 = .ok (.bipush 16, 2) := by decide +kernel
theorem d_M_init_751 : decode b_M_init 751 = .ok (.ldc 178, 2) := by decide +kernel
theorem d_M_init_753 : decode b_M_init 753 = .ok (.iastore, 1) := by decide +kernel
theorem d_M_init_754 : decode b_M_init 754 = .ok (.aload_n 0, 1) := by decide +kernel
theorem d_M_init_755 : decode b_M_init 755 = .ok (.getfield 13, 3) := by decide +kernel
theorem d_M_init_758 : decode b_M_init 758 = .ok (.bipush 17, 2) := by decide +kernel
theorem d_M_init_760 : decode b_M_init 760 = .ok (.ldc 179, 2) := by decide +kernel
theorem d_M_init_762 : decode b_M_init 762 = .ok (.iastore, 1) := by decide +kernel
theorem d_M_init_763 : decode b_M_init 763 = .ok (.aload_n 0, 1) := by decide +kernel
theorem d_M_init_764 : decode b_M_init 764 = .ok (.getfield 13, 3) := by decide +kernel
theorem d_M_init_767 : decode b_M_init 767 = .ok (.bipush 18, 2) := by decide +kernel
theorem d_M_init_769 : decode b_M_init 769 = .ok (.ldc 180, 2) := by decide +kernel
theorem d_M_init_771 : decode b_M_init 771 = .ok (.iastore, 1) := by decide +kernel
theorem d_M_init_772 : decode b_M_init 772 = .ok (.aload_n 0, 1) := by decide +kernel
theorem d_M_init_773 : decode b_M_init 773 = .ok (.getfield 13, 3) := by decide +kernel
theorem d_M_init_776 : decode b_M_init 776 = .ok (.bipush 19, 2) := by decide +kernel
theorem d_M_init_778 : decode b_M_init 778 = .ok (.ldc 181, 2) := by decide +kernel
theorem d_M_init_780 : decode b_M_init 780 = .ok (.iastore, 1) := by decide +kernel
theorem d_M_init_781 : decode b_M_init 781 = .ok (.aload_n 0, 1) := by decide +kernel
theorem d_M_init_782 : decode b_M_init 782 = .ok (.getfield 13, 3) := by decide +kernel
theorem d_M_init_785 : decode b_M_init 785 = .ok (.bipush 20, 2) := by decide +kernel
theorem d_M_init_787 : decode b_M_init 787 = .ok (.ldc 182, 2) := by decide +kernel
theorem d_M_init_789 : decode b_M_init 789 = .ok (.iastore, 1) := by decide +kernel
theorem d_M_init_790 : decode b_M_init 790 = .ok (.aload_n 0, 1) := by decide +kernel
theorem d_M_init_791 : decode b_M_init 791 = .ok (.getfield 13, 3) := by decide +kernel
theorem d_M_init_794 : decode b_M_init 794 = .ok (.bipush 21, 2) := by decide +kernel
theorem d_M_init_796 : decode b_M_init 796 = .ok (.ldc 183, 2) := by decide +kernel
theorem d_M_init_798 : decode b_M_init 798 = .ok (.iastore, 1) := by decide +kernel
theorem d_M_init_799 : decode b_M_init 799 = .ok (.aload_n 0, 1) := by decide +kernel
theorem d_M_init_800 : decode b_M_init 800 = .ok (.getfield 13, 3) := by decide +kernel
theorem d_M_init_803 : decode b_M_init 803 = .ok (.bipush 22, 2) := by decide +kernel
theorem d_M_init_805 : decode b_M_init 805 = .ok (.ldc 184, 2) := by decide +kernel
theorem d_M_init_807 : decode b_M_init 807 = .ok (.iastore, 1) := by decide +kernel
theorem d_M_init_808 : decode b_M_init 808 = .ok (.aload_n 0, 1) := by decide +kernel
theorem d_M_init_809 : decode b_M_init 809 = .ok (.getfield 13, 3) := by decide +kernel
theorem d_M_init_812 : decode b_M_init 812 = .ok (.bipush 23, 2) := by decide +kernel
theorem d_M_init_814 : decode b_M_init 814 = .ok (.ldc 185, 2) := by decide +kernel
theorem d_M_init_816 : decode b_M_init 816 = .ok (.iastore, 1) := by decide +kernel
theorem d_M_init_817 : decode b_M_init 817 = .ok (.aload_n 0, 1) := by decide +kernel
theorem d_M_init_818 : decode b_M_init 818 = .ok (.getfield 13, 3) := by decide +kernel
theorem d_M_init_821 : decode b_M_init 821 = .ok (.bipush 24, 2) := by decide +kernel
theorem d_M_init_823 : decode b_M_init 823 = .ok (.ldc 186, 2) := by decide +kernel
theorem d_M_init_825 : decode b_M_init 825 = .ok (.iastore, 1) := by decide +kernel
theorem d_M_init_826 : decode b_M_init 826 = .ok (.aload_n 0, 1) := by decide +kernel
theorem d_M_init_827 : decode b_M_init 827 = .ok (.getfield 13, 3) := by decide +kernel
theorem d_M_init_830 : decode b_M_init 830 = .ok (.bipush 25, 2) := by decide +kernel
theorem d_M_init_832 : decode b_M_init 832 = .ok (.ldc 187, 2) := by decide +kernel
theorem d_M_init_834 : decode b_M_init 834 = .ok (.iastore, 1) := by decide +kernel
theorem d_M_init_835 : decode b_M_init 835 = .ok (.aload_n 0, 1) := by decide +kernel
theorem d_M_init_836 : decode b_M_init 836 = .ok (.getfield 13, 3) := by decide +kernel
theorem d_M_init_839 : decode b_M_init 839 = .ok (.bipush 26, 2) := by decide +kernel
theorem d_M_init_841 : decode b_M_init 841 = .ok (.ldc 188, 2) := by decide +kernel
theorem d_M_init_843 : decode b_M_init 843 = .ok (.iastore, 1) := by decide +kernel
theorem d_M_init_844 : decode b_M_init 844 = .ok (.aload_n 0, 1) := by decide +kernel
theorem d_M_init_845 : decode b_M_init 845 = .ok (.getfield 13, 3) := by decide +kernel
theorem d_M_init_848 : decode b_M_init 848 = .ok (.bipush 27, 2) := by decide +kernel
theorem d_M_init_850 : decode b_M_init 850 = .ok (.ldc 189, 2) := by decide +kernel
theorem d_M_init_852 : decode b_M_init 852 = .ok (.iastore, 1) := by decide +kernel
theorem d_M_init_853 : decode b_M_init 853 = .ok (.aload_n 0, 1) := by decide +kernel
theorem d_M_init_854 : decode b_M_init 854 = .ok (.getfield 13, 3) := by decide +kernel
theorem d_M_init_857 : decode b_M_init 857 = .ok (.bipush 28, 2) := by decide +kernel
theorem d_M_init_859 : decode b_M_init 859 = .ok (.ldc 190, 2) := by decide +kernel
theorem d_M_init_861 : decode b_M_init 861 = .ok (.iastore, 1) := by decide +kernel
theorem d_M_init_862 : decode b_M_init 862 = .ok (.aload_n 0, 1) := by decide +kernel
theorem d_M_init_863 : decode b_M_init 863 = .ok (.getfield 13, 3) := by decide +kernel
theorem d_M_init_866 : decode b_M_init 866 = .ok (.bipush 29, 2) := by decide +kernel
theorem d_M_init_868 : decode b_M_init 868 = .ok (.ldc 191, 2) := by decide +kernel
theorem d_M_init_870 : decode b_M_init 870 = .ok (.iastore, 1) := by decide +kernel
theorem d_M_init_871 : decode b_M_init 871 = .ok (.aload_n 0, 1) := by decide +kernel
theorem d_M_init_872 : decode b_M_init 872 = .ok (.getfield 13, 3) := by decide +kernel
theorem d_M_init_875 : decode b_M_init 875 = .ok (.bipush 30, 2) := by decide +kernel
theorem d_M_init_877 : decode b_M_init 877 = .ok (.ldc 192, 2) := by decide +kernel
theorem d_M_init_879 : decode b_M_init 879 = .ok (.iastore, 1) := by decide +kernel
theorem d_M_init_880 : decode b_M_init 880 = .ok (.aload_n 0, 1) := by decide +kernel
theorem d_M_init_881 : decode b_M_init 881 = .ok (.getfield 13, 3) := by decide +kernel
theorem d_M_init_884 : decode b_M_init 884 = .ok (.bipush 31, 2) := by decide +kernel
theorem d_M_init_886 : decode b_M_init 886 = .ok (.ldc 193, 2) := by decide +kernel
theorem d_M_init_888 : decode b_M_init 888 = .ok (.iastore, 1) := by decide +kernel
theorem d_M_init_889 : decode b_M_init 889 = .ok (.aload_n 0, 1) := by decide +kernel
theorem d_M_init_890 : decode b_M_init 890 = .ok (.getfield 13, 3) := by decide +kernel
theorem d_M_init_893 : decode b_M_init 893 = .ok (.bipush 32, 2) := by decide +kernel
theorem d_M_init_895 : decode b_M_init 895 = .ok (.ldc 194, 2) := by decide +kernel
theorem d_M_init_897 : decode b_M_init 897 = .ok (.iastore, 1) := by decide +kernel
theorem d_M_init_898 : decode b_M_init 898 = .ok (.aload_n 0, 1) := by decide +kernel
theorem d_M_init_899 : decode b_M_init 899 = .ok (.getfield 13, 3) := by decide +kernel
theorem d_M_init_902 : decode b_M_init 902 = .ok (.bipush 33, 2) := by decide +kernel
theorem d_M_init_904 : decode b_M_init 904 = .ok (.ldc 195, 2) := by decide +kernel
theorem d_M_init_906 : decode b_M_init 906 = .ok (.iastore, 1) := by decide +kernel
theorem d_M_init_907 : decode b_M_init 907 = .ok (.aload_n 0, 1) := by decide +kernel
theorem d_M_init_908 : decode b_M_init 908 = .ok (.getfield 13, 3) := by decide +kernel
theorem d_M_init_911 : decode b_M_init 911 = .ok (.bipush 34, 2) := by decide +kernel
theorem d_M_init_913 : decode b_M_init 913 = .ok (.ldc 196, 2) := by decide +kernel
theorem d_M_init_915 : decode b_M_init 915 = .ok (.iastore, 1) := by decide +kernel
theorem d_M_init_916 : decode b_M_init 916 = .ok (.aload_n 0, 1) := by decide +kernel
theorem d_M_init_917 : decode b_M_init 917 = .ok (.getfield 13, 3) := by decide +kernel
theorem d_M_init_920 : decode b_M_init 920 = .ok (.bipush 35, 2) := by decide +kernel
theorem d_M_init_922 : decode b_M_init 922 = .ok (.ldc 197, 2) := by decide +kernel
theorem d_M_init_924 : decode b_M_init 924 = .ok (.iastore, 1) := by decide +kernel
theorem d_M_init_925 : decode b_M_init 925 = .ok (.aload_n 0, 1) := by decide +kernel
theorem d_M_init_926 : decode b_M_init 926 = .ok (.getfield 13, 3) := by decide +kernel
theorem d_M_init_929 : decode b_M_init 929 = .ok (.bipush 36, 2) := by decide +kernel
theorem d_M_init_931 : decode b_M_init 931 = .ok (.ldc 198, 2) := by decide +kernel
theorem d_M_init_933 : decode b_M_init 933 = .ok (.iastore, 1) := by decide +kernel
theorem d_M_init_934 : decode b_M_init 934 = .ok (.aload_n 0, 1) := by decide +kernel
theorem d_M_init_935 : decode b_M_init 935 = .ok (.getfield 13, 3) := by decide +kernel
theorem d_M_init_938 : decode b_M_init 938 = .ok (.bipush 37, 2) := by decide +kernel
theorem d_M_init_940 : decode b_M_init 940 = .ok (.ldc 199, 2) := by decide +kernel
theorem d_M_init_942 : decode b_M_init 942 = .ok (.iastore, 1) := by decide +kernel
theorem d_M_init_943 : decode b_M_init 943 = .ok (.aload_n 0, 1) := by decide +kernel
theorem d_M_init_944 : decode b_M_init 944 = .ok (.getfield 13, 3) := by decide +kernel
theorem d_M_init_947 : decode b_M_init 947 = .ok (.bipush 38, 2) := by decide +kernel
theorem d_M_init_949 : decode b_M_init 949 = .ok (.ldc 200, 2) := by decide +kernel
theorem d_M_init_951 : decode b_M_init 951 = .ok (.iastore, 1) := by decide +kernel
theorem d_M_init_952 : decode b_M_init 952 = .ok (.aload_n 0, 1) := by decide +kernel
theorem d_M_init_953 : decode b_M_init 953 = .ok (.getfield 13, 3) := by decide +kernel
theorem d_M_init_956 : decode b_M_init 956 = .ok (.bipush 39, 2) := by decide +kernel
theorem d_M_init_958 : decode b_M_init 958 = .ok (.ldc 201, 2) := by decide +kernel
theorem d_M_init_960 : decode b_M_init 960 = .ok (.iastore, 1) := by decide +kernel
theorem d_M_init_961 : decode b_M_init 961 = .ok (.aload_n 0, 1) := by decide +kernel
theorem d_M_init_962 : decode b_M_init 962 = .ok (.getfield 13, 3) := by decide +kernel
theorem d_M_init_965 : decode b_M_init 965 = .ok (.bipush 40, 2) := by decide +kernel
theorem d_M_init_967 : decode b_M_init 967 = .ok (.ldc 202, 2) := by decide +kernel
theorem d_M_init_969 : decode b_M_init 969 = .ok (.iastore, 1) := by decide +kernel
theorem d_M_init_970 : decode b_M_init 970 = .ok (.aload_n 0, 1) := by decide +kernel
theorem d_M_init_971 : decode b_M_init 971 = .ok (.getfield 13, 3) := by decide +kernel
theorem d_M_init_974 : decode b_M_init 974 = .ok (.bipush 41, 2) := by decide +kernel
theorem d_M_init_976 : decode b_M_init 976 = .ok (.ldc 203, 2) := by decide +kernel
theorem d_M_init_978 : decode b_M_init 978 = .ok (.iastore, 1) := by decide +kernel
theorem d_M_init_979 : decode b_M_init 979 = .ok (.aload_n 0, 1) := by decide +kernel
theorem d_M_init_980 : decode b_M_init 980 = .ok (.getfield 13, 3) := by decide +kernel
theorem d_M_init_983 : decode b_M_init 983 = .ok (.bipush 42, 2) := by decide +kernel
theorem d_M_init_985 : decode b_M_init 985 = .ok (.ldc 204, 2) := by decide +kernel
theorem d_M_init_987 : decode b_M_init 987 = .ok (.iastore, 1) := by decide +kernel
theorem d_M_init_988 : decode b_M_init 988 = .ok (.aload_n 0, 1) := by decide +kernel
theorem d_M_init_989 : decode b_M_init 989 = .ok (.getfield 13, 3) := by decide +kernel
