theorem d_L_law_704 : decode code 704 = .ok (.ifCond .ne (15), 3) := by decide +kernel
theorem d_L_law_707 : decode code 707 = .ok (.aload_n 3, 1) := by decide +kernel
theorem d_L_law_708 : decode code 708 = .ok (.iconst 0, 1) := by decide +kernel
theorem d_L_law_709 : decode code 709 = .ok (.laload, 1) := by decide +kernel
theorem d_L_law_710 : decode code 710 = .ok (.iload 6, 2) := by decide +kernel
theorem d_L_law_712 : decode code 712 = .ok (.i2l, 1) := by decide +kernel
theorem d_L_law_713 : decode code 713 = .ok (.lcmp, 1) := by decide +kernel
theorem d_L_law_714 : decode code 714 = .ok (.ifCond .eq (5), 3) := by decide +kernel
theorem d_L_law_717 : decode code 717 = .ok (.iconst 0, 1) := by decide +kernel
theorem d_L_law_718 : decode code 718 = .ok (.ireturn, 1) := by decide +kernel
theorem d_L_law_719 : decode code 719 = .ok (.goto (252), 3) := by decide +kernel
theorem d_L_law_722 : decode code 722 = .ok (.aload_n 1, 1) := by decide +kernel
theorem d_L_law_723 : decode code 723 = .ok (.aload_n 0, 1) := by decide +kernel
theorem d_L_law_724 : decode code 724 = .ok (.iload 4, 2) := by decide +kernel
theorem d_L_law_726 : decode code 726 = .ok (.iconst 1, 1) := by decide +kernel
theorem d_L_law_727 : decode code 727 = .ok (.iadd, 1) := by decide +kernel
theorem d_L_law_728 : decode code 728 = .ok (.iaload, 1) := by decide +kernel
theorem d_L_law_729 : decode code 729 = .ok (.aload_n 3, 1) := by decide +kernel
theorem d_L_law_730 : decode code 730 = .ok (.invokestatic 108, 3) := by decide +kernel
theorem d_L_law_733 : decode code 733 = .ok (.istore 5, 2) := by decide +kernel
theorem d_L_law_735 : decode code 735 = .ok (.aload_n 2, 1) := by decide +kernel
theorem d_L_law_736 : decode code 736 = .ok (.aload_n 0, 1) := by decide +kernel
theorem d_L_law_737 : decode code 737 = .ok (.iload 4, 2) := by decide +kernel
theorem d_L_law_739 : decode code 739 = .ok (.iconst 1, 1) := by decide +kernel
theorem d_L_law_740 : decode code 740 = .ok (.iadd, 1) := by decide +kernel
theorem d_L_law_741 : decode code 741 = .ok (.iaload, 1) := by decide +kernel
theorem d_L_law_742 : decode code 742 = .ok (.invokevirtual 110, 3) := by decide +kernel
theorem d_L_law_745 : decode code 745 = .ok (.istore 6, 2) := by decide +kernel
theorem d_L_law_747 : decode code 747 = .ok (.aload_n 2, 1) := by decide +kernel
theorem d_L_law_748 : decode code 748 = .ok (.invokevirtual 69, 3) := by decide +kernel
theorem d_L_law_751 : decode code 751 = .ok (.iload 5, 2) := by decide +kernel
theorem d_L_law_753 : decode code 753 = .ok (.if_icmp .eq (5), 3) := by decide +kernel
theorem d_L_law_756 : decode code 756 = .ok (.iconst 0, 1) := by decide +kernel
theorem d_L_law_757 : decode code 757 = .ok (.ireturn, 1) := by decide +kernel
theorem d_L_law_758 : decode code 758 = .ok (.iload 5, 2) := by decide +kernel
theorem d_L_law_760 : decode code 760 = .ok (.ifCond .ne (15), 3) := by decide +kernel
theorem d_L_law_763 : decode code 763 = .ok (.aload_n 3, 1) := by decide +kernel
theorem d_L_law_764 : decode code 764 = .ok (.iconst 0, 1) := by decide +kernel
theorem d_L_law_765 : decode code 765 = .ok (.laload, 1) := by decide +kernel
theorem d_L_law_766 : decode code 766 = .ok (.iload 6, 2) := by decide +kernel
theorem d_L_law_768 : decode code 768 = .ok (.i2l, 1) := by decide +kernel
theorem d_L_law_769 : decode code 769 = .ok (.lcmp, 1) := by decide +kernel
theorem d_L_law_770 : decode code 770 = .ok (.ifCond .eq (5), 3) := by decide +kernel
theorem d_L_law_773 : decode code 773 = .ok (.iconst 0, 1) := by decide +kernel
theorem d_L_law_774 : decode code 774 = .ok (.ireturn, 1) := by decide +kernel
theorem d_L_law_775 : decode code 775 = .ok (.goto (196), 3) := by decide +kernel
theorem d_L_law_778 : decode code 778 = .ok (.aload_n 1, 1) := by decide +kernel
theorem d_L_law_779 : decode code 779 = .ok (.aload_n 0, 1) := by decide +kernel
theorem d_L_law_780 : decode code 780 = .ok (.iload 4, 2) := by decide +kernel
theorem d_L_law_782 : decode code 782 = .ok (.iconst 1, 1) := by decide +kernel
theorem d_L_law_783 : decode code 783 = .ok (.iadd, 1) := by decide +kernel
theorem d_L_law_784 : decode code 784 = .ok (.iaload, 1) := by decide +kernel
theorem d_L_law_785 : decode code 785 = .ok (.aload_n 0, 1) := by decide +kernel
theorem d_L_law_786 : decode code 786 = .ok (.iload 4, 2) := by decide +kernel
theorem d_L_law_788 : decode code 788 = .ok (.iconst 2, 1) := by decide +kernel
theorem d_L_law_789 : decode code 789 = .ok (.iadd, 1) := by decide +kernel
theorem d_L_law_790 : decode code 790 = .ok (.iaload, 1) := by decide +kernel
theorem d_L_law_791 : decode code 791 = .ok (.aload_n 3, 1) := by decide +kernel
theorem d_L_law_792 : decode code 792 = .ok (.invokestatic 111, 3) := by decide +kernel
theorem d_L_law_795 : decode code 795 = .ok (.istore 5, 2) := by decide +kernel
theorem d_L_law_797 : decode code 797 = .ok (.aload_n 2, 1) := by decide +kernel
theorem d_L_law_798 : decode code 798 = .ok (.aload_n 0, 1) := by decide +kernel
theorem d_L_law_799 : decode code 799 = .ok (.iload 4, 2) := by decide +kernel
theorem d_L_law_801 : decode code 801 = .ok (.iconst 1, 1) := by decide +kernel
theorem d_L_law_802 : decode code 802 = .ok (.iadd, 1) := by decide +kernel
theorem d_L_law_803 : decode code 803 = .ok (.iaload, 1) := by decide +kernel
theorem d_L_law_804 : decode code 804 = .ok (.aload_n 0, 1) := by decide +kernel
theorem d_L_law_805 : decode code 805 = .ok (.iload 4, 2) := by decide +kernel
theorem d_L_law_807 : decode code 807 = .ok (.iconst 2, 1) := by decide +kernel
theorem d_L_law_808 : decode code 808 = .ok (.iadd, 1) := by decide +kernel
theorem d_L_law_809 : decode code 809 = .ok (.iaload, 1) := by decide +kernel
theorem d_L_law_810 : decode code 810 = .ok (.invokevirtual 113, 3) := by decide +kernel
theorem d_L_law_813 : decode code 813 = .ok (.istore 6, 2) := by decide +kernel
theorem d_L_law_815 : decode code 815 = .ok (.aload_n 2, 1) := by decide +kernel
theorem d_L_law_816 : decode code 816 = .ok (.invokevirtual 69, 3) := by decide +kernel
theorem d_L_law_819 : decode code 819 = .ok (.iload 5, 2) := by decide +kernel
theorem d_L_law_821 : decode code 821 = .ok (.if_icmp .eq (5), 3) := by decide +kernel
theorem d_L_law_824 : decode code 824 = .ok (.iconst 0, 1) := by decide +kernel
theorem d_L_law_825 : decode code 825 = .ok (.ireturn, 1) := by decide +kernel
theorem d_L_law_826 : decode code 826 = .ok (.iload 5, 2) := by decide +kernel
theorem d_L_law_828 : decode code 828 = .ok (.ifCond .ne (15), 3) := by decide +kernel
theorem d_L_law_831 : decode code 831 = .ok (.aload_n 3, 1) := by decide +kernel
theorem d_L_law_832 : decode code 832 = .ok (.iconst 0, 1) := by decide +kernel
theorem d_L_law_833 : decode code 833 = .ok (.laload, 1) := by decide +kernel
theorem d_L_law_834 : decode code 834 = .ok (.iload 6, 2) := by decide +kernel
theorem d_L_law_836 : decode code 836 = .ok (.i2l, 1) := by decide +kernel
theorem d_L_law_837 : decode code 837 = .ok (.lcmp, 1) := by decide +kernel
theorem d_L_law_838 : decode code 838 = .ok (.ifCond .eq (5), 3) := by decide +kernel
theorem d_L_law_841 : decode code 841 = .ok (.iconst 0, 1) := by decide +kernel
theorem d_L_law_842 : decode code 842 = .ok (.ireturn, 1) := by decide +kernel
theorem d_L_law_843 : decode code 843 = .ok (.goto (128), 3) := by decide +kernel
theorem d_L_law_846 : decode code 846 = .ok (.aload_n 1, 1) := by decide +kernel
theorem d_L_law_847 : decode code 847 = .ok (.aload_n 0, 1) := by decide +kernel
theorem d_L_law_848 : decode code 848 = .ok (.iload 4, 2) := by decide +kernel
theorem d_L_law_850 : decode code 850 = .ok (.iconst 1, 1) := by decide +kernel
theorem d_L_law_851 : decode code 851 = .ok (.iadd, 1) := by decide +kernel
theorem d_L_law_852 : decode code 852 = .ok (.iaload, 1) := by decide +kernel
theorem d_L_law_853 : decode code 853 = .ok (.aload_n 3, 1) := by decide +kernel
theorem d_L_law_854 : decode code 854 = .ok (.invokestatic 114, 3) := by decide +kernel
theorem d_L_law_857 : decode code 857 = .ok (.istore 5, 2) := by decide +kernel
theorem d_L_law_859 : decode code 859 = .ok (.aload_n 2, 1) := by decide +kernel
theorem d_L_law_860 : decode code 860 = .ok (.aload_n 0, 1) := by decide +kernel
theorem d_L_law_861 : decode code 861 = .ok (.iload 4, 2) := by decide +kernel
theorem d_L_law_863 : decode code 863 = .ok (.iconst 1, 1) := by decide +kernel
theorem d_L_law_864 : decode code 864 = .ok (.iadd, 1) := by decide +kernel
theorem d_L_law_865 : decode code 865 = .ok (.iaload, 1) := by decide +kernel
theorem d_L_law_866 : decode code 866 = .ok (.invokevirtual 116, 3) := by decide +kernel
theorem d_L_law_869 : decode code 869 = .ok (.istore 6, 2) := by decide +kernel
theorem d_L_law_871 : decode code 871 = .ok (.aload_n 2, 1) := by decide +kernel
theorem d_L_law_872 : decode code 872 = .ok (.invokevirtual 69, 3) := by decide +kernel
theorem d_L_law_875 : decode code 875 = .ok (.iload 5, 2) := by decide +kernel
theorem d_L_law_877 : decode code 877 = .ok (.if_icmp .eq (5), 3) := by decide +kernel
theorem d_L_law_880 : decode code 880 = .ok (.iconst 0, 1) := by decide +kernel
theorem d_L_law_881 : decode code 881 = .ok (.ireturn, 1) := by decide +kernel
theorem d_L_law_882 : decode code 882 = .ok (.iload 5, 2) := by decide +kernel
theorem d_L_law_884 : decode code 884 = .ok (.ifCond .ne (15), 3) := by decide +kernel
theorem d_L_law_887 : decode code 887 = .ok (.aload_n 3, 1) := by decide +kernel
theorem d_L_law_888 : decode code 888 = .ok (.iconst 0, 1) := by decide +kernel
theorem d_L_law_889 : decode code 889 = .ok (.laload, 1) := by decide +kernel
theorem d_L_law_890 : decode code 890 = .ok (.iload 6, 2) := by decide +kernel
theorem d_L_law_892 : decode code 892 = .ok (.i2l, 1) := by decide +kernel
theorem d_L_law_893 : decode code 893 = .ok (.lcmp, 1) := by decide +kernel
theorem d_L_law_894 : decode code 894 = .ok (.ifCond .eq (5), 3) := by decide +kernel
theorem d_L_law_897 : decode code 897 = .ok (.iconst 0, 1) := by decide +kernel
theorem d_L_law_898 : decode code 898 = .ok (.ireturn, 1) := by decide +kernel
theorem d_L_law_899 : decode code 899 = .ok (.goto (72), 3) := by decide +kernel
theorem d_L_law_902 : decode code 902 = .ok (.aload_n 1, 1) := by decide +kernel
theorem d_L_law_903 : decode code 903 = .ok (.invokevirtual 117, 3) := by decide +kernel
theorem d_L_law_906 : decode code 906 = .ok (.aload_n 2, 1) := by decide +kernel
theorem d_L_law_907 : decode code 907 = .ok (.invokevirtual 120, 3) := by decide +kernel
theorem d_L_law_910 : decode code 910 = .ok (.if_icmp .eq (61), 3) := by decide +kernel
theorem d_L_law_913 : decode code 913 = .ok (.iconst 0, 1) := by decide +kernel
theorem d_L_law_914 : decode code 914 = .ok (.ireturn, 1) := by decide +kernel
theorem d_L_law_915 : decode code 915 = .ok (.aload_n 1, 1) := by decide +kernel
theorem d_L_law_916 : decode code 916 = .ok (.aload_n 0, 1) := by decide +kernel
theorem d_L_law_917 : decode code 917 = .ok (.iload 4, 2) := by decide +kernel
theorem d_L_law_919 : decode code 919 = .ok (.iconst 1, 1) := by decide +kernel
theorem d_L_law_920 : decode code 920 = .ok (.iadd, 1) := by decide +kernel
theorem d_L_law_921 : decode code 921 = .ok (.iaload, 1) := by decide +kernel
theorem d_L_law_922 : decode code 922 = .ok (.aload_n 3, 1) := by decide +kernel
theorem d_L_law_923 : decode code 923 = .ok (.invokestatic 121, 3) := by decide +kernel
theorem d_L_law_926 : decode code 926 = .ok (.istore 5, 2) := by decide +kernel
theorem d_L_law_928 : decode code 928 = .ok (.aload_n 2, 1) := by decide +kernel
theorem d_L_law_929 : decode code 929 = .ok (.aload_n 0, 1) := by decide +kernel
theorem d_L_law_930 : decode code 930 = .ok (.iload 4, 2) := by decide +kernel
theorem d_L_law_932 : decode code 932 = .ok (.iconst 1, 1) := by decide +kernel
theorem d_L_law_933 : decode code 933 = .ok (.iadd, 1) := by decide +kernel
theorem d_L_law_934 : decode code 934 = .ok (.iaload, 1) := by decide +kernel
theorem d_L_law_935 : decode code 935 = .ok (.invokevirtual 123, 3) := by decide +kernel
theorem d_L_law_938 : decode code 938 = .ok (.istore 6, 2) := by decide +kernel
theorem d_L_law_940 : decode code 940 = .ok (.aload_n 2, 1) := by decide +kernel
theorem d_L_law_941 : decode code 941 = .ok (.invokevirtual 69, 3) := by decide +kernel
theorem d_L_law_944 : decode code 944 = .ok (.iload 5, 2) := by decide +kernel
theorem d_L_law_946 : decode code 946 = .ok (.if_icmp .eq (5), 3) := by decide +kernel
theorem d_L_law_949 : decode code 949 = .ok (.iconst 0, 1) := by decide +kernel
theorem d_L_law_950 : decode code 950 = .ok (.ireturn, 1) := by decide +kernel
theorem d_L_law_951 : decode code 951 = .ok (.iload 5, 2) := by decide +kernel
theorem d_L_law_953 : decode code 953 = .ok (.ifCond .ne (15), 3) := by decide +kernel
theorem d_L_law_956 : decode code 956 = .ok (.aload_n 3, 1) := by decide +kernel
theorem d_L_law_957 : decode code 957 = .ok (.iconst 0, 1) := by decide +kernel
theorem d_L_law_958 : decode code 958 = .ok (.laload, 1) := by decide +kernel
theorem d_L_law_959 : decode code 959 = .ok (.iload 6, 2) := by decide +kernel
theorem d_L_law_961 : decode code 961 = .ok (.i2l, 1) := by decide +kernel
theorem d_L_law_962 : decode code 962 = .ok (.lcmp, 1) := by decide +kernel
theorem d_L_law_963 : decode code 963 = .ok (.ifCond .eq (5), 3) := by decide +kernel
theorem d_L_law_966 : decode code 966 = .ok (.iconst 0, 1) := by decide +kernel
theorem d_L_law_967 : decode code 967 = .ok (.ireturn, 1) := by decide +kernel
theorem d_L_law_968 : decode code 968 = .ok (.goto (3), 3) := by decide +kernel
theorem d_L_law_971 : decode code 971 = .ok (.iinc 4 5, 3) := by decide +kernel
theorem d_L_law_974 : decode code 974 = .ok (.goto (-951), 3) := by decide +kernel
theorem d_L_law_977 : decode code 977 = .ok (.iconst 1, 1) := by decide +kernel
theorem d_L_law_978 : decode code 978 = .ok (.ireturn, 1) := by decide +kernel
