theorem d_L_law_683 : decode b_L_law 683 = .ok (.iaload, 1) := by decide +kernel
theorem d_L_law_684 : decode b_L_law 684 = .ok (.aload_n 0, 1) := by decide +kernel
theorem d_L_law_685 : decode b_L_law 685 = .ok (.iload 4, 2) := by decide +kernel
theorem d_L_law_687 : decode b_L_law 687 = .ok (.iconst 2, 1) := by decide +kernel
theorem d_L_law_688 : decode b_L_law 688 = .ok (.iadd, 1) := by decide +kernel
theorem d_L_law_689 : decode b_L_law 689 = .ok (.iaload, 1) := by decide +kernel
theorem d_L_law_690 : decode b_L_law 690 = .ok (.aload_n 0, 1) := by decide +kernel
theorem d_L_law_691 : decode b_L_law 691 = .ok (.iload 4, 2) := by decide +kernel
theorem d_L_law_693 : decode b_L_law 693 = .ok (.iconst 3, 1) := by decide +kernel
theorem d_L_law_694 : decode b_L_law 694 = .ok (.iadd, 1) := by decide +kernel
theorem d_L_law_695 : decode b_L_law 695 = .ok (.iaload, 1) := by decide +kernel
theorem d_L_law_696 : decode b_L_law 696 = .ok (.invokevirtual 119, 3) := by decide +kernel
theorem d_L_law_699 : decode b_L_law 699 = .ok (.istore 6, 2) := by decide +kernel
theorem d_L_law_701 : decode b_L_law 701 = .ok (.aload_n 2, 1) := by decide +kernel
theorem d_L_law_702 : decode b_L_law 702 = .ok (.invokevirtual 92, 3) := by decide +kernel
theorem d_L_law_705 : decode b_L_law 705 = .ok (.iload 5, 2) := by decide +kernel
theorem d_L_law_707 : decode b_L_law 707 = .ok (.if_icmp .eq 5, 3) := by decide +kernel
theorem d_L_law_710 : decode b_L_law 710 = .ok (.iconst 0, 1) := by decide +kernel
theorem d_L_law_711 : decode b_L_law 711 = .ok (.ireturn, 1) := by decide +kernel
theorem d_L_law_712 : decode b_L_law 712 = .ok (.iload 5, 2) := by decide +kernel
theorem d_L_law_714 : decode b_L_law 714 = .ok (.ifCond .ne 15, 3) := by decide +kernel
theorem d_L_law_717 : decode b_L_law 717 = .ok (.aload_n 3, 1) := by decide +kernel
theorem d_L_law_718 : decode b_L_law 718 = .ok (.iconst 0, 1) := by decide +kernel
theorem d_L_law_719 : decode b_L_law 719 = .ok (.laload, 1) := by decide +kernel
theorem d_L_law_720 : decode b_L_law 720 = .ok (.iload 6, 2) := by decide +kernel
theorem d_L_law_722 : decode b_L_law 722 = .ok (.i2l, 1) := by decide +kernel
theorem d_L_law_723 : decode b_L_law 723 = .ok (.lcmp, 1) := by decide +kernel
theorem d_L_law_724 : decode b_L_law 724 = .ok (.ifCond .eq 5, 3) := by decide +kernel
theorem d_L_law_727 : decode b_L_law 727 = .ok (.iconst 0, 1) := by decide +kernel
theorem d_L_law_728 : decode b_L_law 728 = .ok (.ireturn, 1) := by decide +kernel
theorem d_L_law_729 : decode b_L_law 729 = .ok (.goto 840, 3) := by decide +kernel
theorem d_L_law_732 : decode b_L_law 732 = .ok (.aload_n 1, 1) := by decide +kernel
theorem d_L_law_733 : decode b_L_law 733 = .ok (.aload_n 0, 1) := by decide +kernel
theorem d_L_law_734 : decode b_L_law 734 = .ok (.iload 4, 2) := by decide +kernel
theorem d_L_law_736 : decode b_L_law 736 = .ok (.iconst 1, 1) := by decide +kernel
theorem d_L_law_737 : decode b_L_law 737 = .ok (.iadd, 1) := by decide +kernel
theorem d_L_law_738 : decode b_L_law 738 = .ok (.iaload, 1) := by decide +kernel
theorem d_L_law_739 : decode b_L_law 739 = .ok (.aload_n 0, 1) := by decide +kernel
theorem d_L_law_740 : decode b_L_law 740 = .ok (.iload 4, 2) := by decide +kernel
theorem d_L_law_742 : decode b_L_law 742 = .ok (.iconst 2, 1) := by decide +kernel
theorem d_L_law_743 : decode b_L_law 743 = .ok (.iadd, 1) := by decide +kernel
theorem d_L_law_744 : decode b_L_law 744 = .ok (.iaload, 1) := by decide +kernel
theorem d_L_law_745 : decode b_L_law 745 = .ok (.aload_n 0, 1) := by decide +kernel
theorem d_L_law_746 : decode b_L_law 746 = .ok (.iload 4, 2) := by decide +kernel
theorem d_L_law_748 : decode b_L_law 748 = .ok (.iconst 3, 1) := by decide +kernel
theorem d_L_law_749 : decode b_L_law 749 = .ok (.iadd, 1) := by decide +kernel
theorem d_L_law_750 : decode b_L_law 750 = .ok (.iaload, 1) := by decide +kernel
theorem d_L_law_751 : decode b_L_law 751 = .ok (.aload_n 0, 1) := by decide +kernel
theorem d_L_law_752 : decode b_L_law 752 = .ok (.iload 4, 2) := by decide +kernel
theorem d_L_law_754 : decode b_L_law 754 = .ok (.iconst 4, 1) := by decide +kernel
theorem d_L_law_755 : decode b_L_law 755 = .ok (.iadd, 1) := by decide +kernel
theorem d_L_law_756 : decode b_L_law 756 = .ok (.iaload, 1) := by decide +kernel
theorem d_L_law_757 : decode b_L_law 757 = .ok (.ifCond .eq 7, 3) := by decide +kernel
theorem d_L_law_760 : decode b_L_law 760 = .ok (.iconst 1, 1) := by decide +kernel
theorem d_L_law_761 : decode b_L_law 761 = .ok (.goto 4, 3) := by decide +kernel
theorem d_L_law_764 : decode b_L_law 764 = .ok (.iconst 0, 1) := by decide +kernel
theorem d_L_law_765 : decode b_L_law 765 = .ok (.aload_n 3, 1) := by decide +kernel
theorem d_L_law_766 : decode b_L_law 766 = .ok (.invokestatic 120, 3) := by decide +kernel
theorem d_L_law_769 : decode b_L_law 769 = .ok (.istore 5, 2) := by decide +kernel
theorem d_L_law_771 : decode b_L_law 771 = .ok (.aload_n 2, 1) := by decide +kernel
theorem d_L_law_772 : decode b_L_law 772 = .ok (.aload_n 0, 1) := by decide +kernel
theorem d_L_law_773 : decode b_L_law 773 = .ok (.iload 4, 2) := by decide +kernel
theorem d_L_law_775 : decode b_L_law 775 = .ok (.iconst 1, 1) := by decide +kernel
theorem d_L_law_776 : decode b_L_law 776 = .ok (.iadd, 1) := by decide +kernel
theorem d_L_law_777 : decode b_L_law 777 = .ok (.iaload, 1) := by decide +kernel
theorem d_L_law_778 : decode b_L_law 778 = .ok (.aload_n 0, 1) := by decide +kernel
theorem d_L_law_779 : decode b_L_law 779 = .ok (.iload 4, 2) := by decide +kernel
theorem d_L_law_781 : decode b_L_law 781 = .ok (.iconst 2, 1) := by decide +kernel
theorem d_L_law_782 : decode b_L_law 782 = .ok (.iadd, 1) := by decide +kernel
theorem d_L_law_783 : decode b_L_law 783 = .ok (.iaload, 1) := by decide +kernel
theorem d_L_law_784 : decode b_L_law 784 = .ok (.aload_n 0, 1) := by decide +kernel
theorem d_L_law_785 : decode b_L_law 785 = .ok (.iload 4, 2) := by decide +kernel
theorem d_L_law_787 : decode b_L_law 787 = .ok (.iconst 3, 1) := by decide +kernel
theorem d_L_law_788 : decode b_L_law 788 = .ok (.iadd, 1) := by decide +kernel
theorem d_L_law_789 : decode b_L_law 789 = .ok (.iaload, 1) := by decide +kernel
theorem d_L_law_790 : decode b_L_law 790 = .ok (.aload_n 0, 1) := by decide +kernel
theorem d_L_law_791 : decode b_L_law 791 = .ok (.iload 4, 2) := by decide +kernel
theorem d_L_law_793 : decode b_L_law 793 = .ok (.iconst 4, 1) := by decide +kernel
theorem d_L_law_794 : decode b_L_law 794 = .ok (.iadd, 1) := by decide +kernel
theorem d_L_law_795 : decode b_L_law 795 = .ok (.iaload, 1) := by decide +kernel
theorem d_L_law_796 : decode b_L_law 796 = .ok (.ifCond .eq 7, 3) := by decide +kernel
theorem d_L_law_799 : decode b_L_law 799 = .ok (.iconst 1, 1) := by decide +kernel
theorem d_L_law_800 : decode b_L_law 800 = .ok (.goto 4, 3) := by decide +kernel
theorem d_L_law_803 : decode b_L_law 803 = .ok (.iconst 0, 1) := by decide +kernel
theorem d_L_law_804 : decode b_L_law 804 = .ok (.invokevirtual 123, 3) := by decide +kernel
theorem d_L_law_807 : decode b_L_law 807 = .ok (.istore 6, 2) := by decide +kernel
theorem d_L_law_809 : decode b_L_law 809 = .ok (.aload_n 2, 1) := by decide +kernel
theorem d_L_law_810 : decode b_L_law 810 = .ok (.invokevirtual 92, 3) := by decide +kernel
theorem d_L_law_813 : decode b_L_law 813 = .ok (.iload 5, 2) := by decide +kernel
theorem d_L_law_815 : decode b_L_law 815 = .ok (.if_icmp .eq 5, 3) := by decide +kernel
theorem d_L_law_818 : decode b_L_law 818 = .ok (.iconst 0, 1) := by decide +kernel
theorem d_L_law_819 : decode b_L_law 819 = .ok (.ireturn, 1) := by decide +kernel
theorem d_L_law_820 : decode b_L_law 820 = .ok (.iload 5, 2) := by decide +kernel
theorem d_L_law_822 : decode b_L_law 822 = .ok (.ifCond .ne 15, 3) := by decide +kernel
theorem d_L_law_825 : decode b_L_law 825 = .ok (.aload_n 3, 1) := by decide +kernel
theorem d_L_law_826 : decode b_L_law 826 = .ok (.iconst 0, 1) := by decide +kernel
theorem d_L_law_827 : decode b_L_law 827 = .ok (.laload, 1) := by decide +kernel
theorem d_L_law_828 : decode b_L_law 828 = .ok (.iload 6, 2) := by decide +kernel
theorem d_L_law_830 : decode b_L_law 830 = .ok (.i2l, 1) := by decide +kernel
theorem d_L_law_831 : decode b_L_law 831 = .ok (.lcmp, 1) := by decide +kernel
theorem d_L_law_832 : decode b_L_law 832 = .ok (.ifCond .eq 5, 3) := by decide +kernel
theorem d_L_law_835 : decode b_L_law 835 = .ok (.iconst 0, 1) := by decide +kernel
theorem d_L_law_836 : decode b_L_law 836 = .ok (.ireturn, 1) := by decide +kernel
theorem d_L_law_837 : decode b_L_law 837 = .ok (.goto 732, 3) := by decide +kernel
theorem d_L_law_840 : decode b_L_law 840 = .ok (.aload_n 1, 1) := by decide +kernel
theorem d_L_law_841 : decode b_L_law 841 = .ok (.aload_n 0, 1) := by decide +kernel
theorem d_L_law_842 : decode b_L_law 842 = .ok (.iload 4, 2) := by decide +kernel
theorem d_L_law_844 : decode b_L_law 844 = .ok (.iconst 1, 1) := by decide +kernel
theorem d_L_law_845 : decode b_L_law 845 = .ok (.iadd, 1) := by decide +kernel
theorem d_L_law_846 : decode b_L_law 846 = .ok (.iaload, 1) := by decide +kernel
theorem d_L_law_847 : decode b_L_law 847 = .ok (.aload_n 0, 1) := by decide +kernel
theorem d_L_law_848 : decode b_L_law 848 = .ok (.iload 4, 2) := by decide +kernel
theorem d_L_law_850 : decode b_L_law 850 = .ok (.iconst 2, 1) := by decide +kernel
theorem d_L_law_851 : decode b_L_law 851 = .ok (.iadd, 1) := by decide +kernel
theorem d_L_law_852 : decode b_L_law 852 = .ok (.iaload, 1) := by decide +kernel
theorem d_L_law_853 : decode b_L_law 853 = .ok (.aload_n 0, 1) := by decide +kernel
theorem d_L_law_854 : decode b_L_law 854 = .ok (.iload 4, 2) := by decide +kernel
theorem d_L_law_856 : decode b_L_law 856 = .ok (.iconst 3, 1) := by decide +kernel
theorem d_L_law_857 : decode b_L_law 857 = .ok (.iadd, 1) := by decide +kernel
theorem d_L_law_858 : decode b_L_law 858 = .ok (.iaload, 1) := by decide +kernel
theorem d_L_law_859 : decode b_L_law 859 = .ok (.aload_n 0, 1) := by decide +kernel
theorem d_L_law_860 : decode b_L_law 860 = .ok (.iload 4, 2) := by decide +kernel
theorem d_L_law_862 : decode b_L_law 862 = .ok (.iconst 4, 1) := by decide +kernel
theorem d_L_law_863 : decode b_L_law 863 = .ok (.iadd, 1) := by decide +kernel
theorem d_L_law_864 : decode b_L_law 864 = .ok (.iaload, 1) := by decide +kernel
theorem d_L_law_865 : decode b_L_law 865 = .ok (.aload_n 3, 1) := by decide +kernel
theorem d_L_law_866 : decode b_L_law 866 = .ok (.invokestatic 124, 3) := by decide +kernel
theorem d_L_law_869 : decode b_L_law 869 = .ok (.istore 5, 2) := by decide +kernel
theorem d_L_law_871 : decode b_L_law 871 = .ok (.aload_n 2, 1) := by decide +kernel
theorem d_L_law_872 : decode b_L_law 872 = .ok (.aload_n 0, 1) := by decide +kernel
theorem d_L_law_873 : decode b_L_law 873 = .ok (.iload 4, 2) := by decide +kernel
theorem d_L_law_875 : decode b_L_law 875 = .ok (.iconst 1, 1) := by decide +kernel
theorem d_L_law_876 : decode b_L_law 876 = .ok (.iadd, 1) := by decide +kernel
theorem d_L_law_877 : decode b_L_law 877 = .ok (.iaload, 1) := by decide +kernel
theorem d_L_law_878 : decode b_L_law 878 = .ok (.aload_n 0, 1) := by decide +kernel
theorem d_L_law_879 : decode b_L_law 879 = .ok (.iload 4, 2) := by decide +kernel
theorem d_L_law_881 : decode b_L_law 881 = .ok (.iconst 2, 1) := by decide +kernel
theorem d_L_law_882 : decode b_L_law 882 = .ok (.iadd, 1) := by decide +kernel
theorem d_L_law_883 : decode b_L_law 883 = .ok (.iaload, 1) := by decide +kernel
theorem d_L_law_884 : decode b_L_law 884 = .ok (.aload_n 0, 1) := by decide +kernel
theorem d_L_law_885 : decode b_L_law 885 = .ok (.iload 4, 2) := by decide +kernel
theorem d_L_law_887 : decode b_L_law 887 = .ok (.iconst 3, 1) := by decide +kernel
theorem d_L_law_888 : decode b_L_law 888 = .ok (.iadd, 1) := by decide +kernel
theorem d_L_law_889 : decode b_L_law 889 = .ok (.iaload, 1) := by decide +kernel
theorem d_L_law_890 : decode b_L_law 890 = .ok (.aload_n 0, 1) := by decide +kernel
theorem d_L_law_891 : decode b_L_law 891 = .ok (.iload 4, 2) := by decide +kernel
theorem d_L_law_893 : decode b_L_law 893 = .ok (.iconst 4, 1) := by decide +kernel
theorem d_L_law_894 : decode b_L_law 894 = .ok (.iadd, 1) := by decide +kernel
theorem d_L_law_895 : decode b_L_law 895 = .ok (.iaload, 1) := by decide +kernel
theorem d_L_law_896 : decode b_L_law 896 = .ok (.invokevirtual 127, 3) := by decide +kernel
theorem d_L_law_899 : decode b_L_law 899 = .ok (.istore 6, 2) := by decide +kernel
theorem d_L_law_901 : decode b_L_law 901 = .ok (.aload_n 2, 1) := by decide +kernel
theorem d_L_law_902 : decode b_L_law 902 = .ok (.invokevirtual 92, 3) := by decide +kernel
theorem d_L_law_905 : decode b_L_law 905 = .ok (.iload 5, 2) := by decide +kernel
theorem d_L_law_907 : decode b_L_law 907 = .ok (.if_icmp .eq 5, 3) := by decide +kernel
theorem d_L_law_910 : decode b_L_law 910 = .ok (.iconst 0, 1) := by decide +kernel
theorem d_L_law_911 : decode b_L_law 911 = .ok (.ireturn, 1) := by decide +kernel
theorem d_L_law_912 : decode b_L_law 912 = .ok (.iload 5, 2) := by decide +kernel
theorem d_L_law_914 : decode b_L_law 914 = .ok (.ifCond .ne 15, 3) := by decide +kernel
theorem d_L_law_917 : decode b_L_law 917 = .ok (.aload_n 3, 1) := by decide +kernel
theorem d_L_law_918 : decode b_L_law 918 = .ok (.iconst 0, 1) := by decide +kernel
theorem d_L_law_919 : decode b_L_law 919 = .ok (.laload, 1) := by decide +kernel
theorem d_L_law_920 : decode b_L_law 920 = .ok (.iload 6, 2) := by decide +kernel
theorem d_L_law_922 : decode b_L_law 922 = .ok (.i2l, 1) := by decide +kernel
theorem d_L_law_923 : decode b_L_law 923 = .ok (.lcmp, 1) := by decide +kernel
theorem d_L_law_924 : decode b_L_law 924 = .ok (.ifCond .eq 5, 3) := by decide +kernel
theorem d_L_law_927 : decode b_L_law 927 = .ok (.iconst 0, 1) := by decide +kernel
theorem d_L_law_928 : decode b_L_law 928 = .ok (.ireturn, 1) := by decide +kernel
theorem d_L_law_929 : decode b_L_law 929 = .ok (.goto 640, 3) := by decide +kernel
theorem d_L_law_932 : decode b_L_law 932 = .ok (.aload_n 1, 1) := by decide +kernel
theorem d_L_law_933 : decode b_L_law 933 = .ok (.aload_n 0, 1) := by decide +kernel
theorem d_L_law_934 : decode b_L_law 934 = .ok (.iload 4, 2) := by decide +kernel
theorem d_L_law_936 : decode b_L_law 936 = .ok (.iconst 1, 1) := by decide +kernel
theorem d_L_law_937 : decode b_L_law 937 = .ok (.iadd, 1) := by decide +kernel
theorem d_L_law_938 : decode b_L_law 938 = .ok (.iaload, 1) := by decide +kernel
theorem d_L_law_939 : decode b_L_law 939 = .ok (.aload_n 0, 1) := by decide +kernel
theorem d_L_law_940 : decode b_L_law 940 = .ok (.iload 4, 2) := by decide +kernel
theorem d_L_law_942 : decode b_L_law 942 = .ok (.iconst 2, 1) := by decide +kernel
theorem d_L_law_943 : decode b_L_law 943 = .ok (.iadd, 1) := by decide +kernel
theorem d_L_law_944 : decode b_L_law 944 = .ok (.iaload, 1) := by decide +kernel
theorem d_L_law_945 : decode b_L_law 945 = .ok (.aload_n 0, 1) := by decide +kernel
theorem d_L_law_946 : decode b_L_law 946 = .ok (.iload 4, 2) := by decide +kernel
theorem d_L_law_948 : decode b_L_law 948 = .ok (.iconst 3, 1) := by decide +kernel
theorem d_L_law_949 : decode b_L_law 949 = .ok (.iadd, 1) := by decide +kernel
theorem d_L_law_950 : decode b_L_law 950 = .ok (.iaload, 1) := by decide +kernel
theorem d_L_law_951 : decode b_L_law 951 = .ok (.aload_n 3, 1) := by decide +kernel
theorem d_L_law_952 : decode b_L_law 952 = .ok (.invokestatic 128, 3) := by decide +kernel
theorem d_L_law_955 : decode b_L_law 955 = .ok (.istore 5, 2) := by decide +kernel
theorem d_L_law_957 : decode b_L_law 957 = .ok (.aload_n 2, 1) := by decide +kernel
theorem d_L_law_958 : decode b_L_law 958 = .ok (.aload_n 0, 1) := by decide +kernel
theorem d_L_law_959 : decode b_L_law 959 = .ok (.iload 4, 2) := by decide +kernel
theorem d_L_law_961 : decode b_L_law 961 = .ok (.iconst 1, 1) := by decide +kernel
theorem d_L_law_962 : decode b_L_law 962 = .ok (.iadd, 1) := by decide +kernel
theorem d_L_law_963 : decode b_L_law 963 = .ok (.iaload, 1) := by decide +kernel
theorem d_L_law_964 : decode b_L_law 964 = .ok (.aload_n 0, 1) := by decide +kernel
theorem d_L_law_965 : decode b_L_law 965 = .ok (.iload 4, 2) := by decide +kernel
theorem d_L_law_967 : decode b_L_law 967 = .ok (.iconst 2, 1) := by decide +kernel
theorem d_L_law_968 : decode b_L_law 968 = .ok (.iadd, 1) := by decide +kernel
theorem d_L_law_969 : decode b_L_law 969 = .ok (.iaload, 1) := by decide +kernel
theorem d_L_law_970 : decode b_L_law 970 = .ok (.aload_n 0, 1) := by decide +kernel
theorem d_L_law_971 : decode b_L_law 971 = .ok (.iload 4, 2) := by decide +kernel
theorem d_L_law_973 : decode b_L_law 973 = .ok (.iconst 3, 1) := by decide +kernel
theorem d_L_law_974 : decode b_L_law 974 = .ok (.iadd, 1) := by decide +kernel
theorem d_L_law_975 : decode b_L_law 975 = .ok (.iaload, 1) := by decide +kernel
theorem d_L_law_976 : decode b_L_law 976 = .ok (.invokevirtual 130, 3) := by decide +kernel
theorem d_L_law_979 : decode b_L_law 979 = .ok (.istore 6, 2) := by decide +kernel
theorem d_L_law_981 : decode b_L_law 981 = .ok (.aload_n 2, 1) := by decide +kernel
theorem d_L_law_982 : decode b_L_law 982 = .ok (.invokevirtual 92, 3) := by decide +kernel
theorem d_L_law_985 : decode b_L_law 985 = .ok (.iload 5, 2) := by decide +kernel
theorem d_L_law_987 : decode b_L_law 987 = .ok (.if_icmp .eq 5, 3) := by decide +kernel
theorem d_L_law_990 : decode b_L_law 990 = .ok (.iconst 0, 1) := by decide +kernel
theorem d_L_law_991 : decode b_L_law 991 = .ok (.ireturn, 1) := by decide +kernel
theorem d_L_law_992 : decode b_L_law 992 = .ok (.iload 5, 2) := by decide +kernel
theorem d_L_law_994 : decode b_L_law 994 = .ok (.ifCond .ne 15, 3) := by decide +kernel
theorem d_L_law_997 : decode b_L_law 997 = .ok (.aload_n 3, 1) := by decide +kernel
theorem d_L_law_998 : decode b_L_law 998 = .ok (.iconst 0, 1) := by decide +kernel
theorem d_L_law_999 : decode b_L_law 999 = .ok (.laload, 1) := by decide +kernel
theorem d_L_law_1000 : decode b_L_law 1000 = .ok (.iload 6, 2) := by decide +kernel
theorem d_L_law_1002 : decode b_L_law 1002 = .ok (.i2l, 1) := by decide +kernel
theorem d_L_law_1003 : decode b_L_law 1003 = .ok (.lcmp, 1) := by decide +kernel
theorem d_L_law_1004 : decode b_L_law 1004 = .ok (.ifCond .eq 5, 3) := by decide +kernel
theorem d_L_law_1007 : decode b_L_law 1007 = .ok (.iconst 0, 1) := by decide +kernel
theorem d_L_law_1008 : decode b_L_law 1008 = .ok (.ireturn, 1) := by decide +kernel
theorem d_L_law_1009 : decode b_L_law 1009 = .ok (.goto 560, 3) := by decide +kernel
theorem d_L_law_1012 : decode b_L_law 1012 = .ok (.aload_n 1, 1) := by decide +kernel
theorem d_L_law_1013 : decode b_L_law 1013 = .ok (.aload_n 0, 1) := by decide +kernel
theorem d_L_law_1014 : decode b_L_law 1014 = .ok (.iload 4, 2) := by decide +kernel
theorem d_L_law_1016 : decode b_L_law 1016 = .ok (.iconst 1, 1) := by decide +kernel
theorem d_L_law_1017 : decode b_L_law 1017 = .ok (.iadd, 1) := by decide +kernel
theorem d_L_law_1018 : decode b_L_law 1018 = .ok (.iaload, 1) := by decide +kernel
theorem d_L_law_1019 : decode b_L_law 1019 = .ok (.aload_n 0, 1) := by decide +kernel
theorem d_L_law_1020 : decode b_L_law 1020 = .ok (.iload 4, 2) := by decide +kernel
theorem d_L_law_1022 : decode b_L_law 1022 = .ok (.iconst 2, 1) := by decide +kernel
theorem d_L_law_1023 : decode b_L_law 1023 = .ok (.iadd, 1) := by decide +kernel
theorem d_L_law_1024 : decode b_L_law 1024 = .ok (.iaload, 1) := by decide +kernel
theorem d_L_law_1025 : decode b_L_law 1025 = .ok (.aload_n 0, 1) := by decide +kernel
theorem d_L_law_1026 : decode b_L_law 1026 = .ok (.iload 4, 2) := by decide +kernel
theorem d_L_law_1028 : decode b_L_law 1028 = .ok (.iconst 3, 1) := by decide +kernel
theorem d_L_law_1029 : decode b_L_law 1029 = .ok (.iadd, 1) := by decide +kernel
theorem d_L_law_1030 : decode b_L_law 1030 = .ok (.iaload, 1) := by decide +kernel
theorem d_L_law_1031 : decode b_L_law 1031 = .ok (.aload_n 3, 1) := by decide +kernel
theorem d_L_law_1032 : decode b_L_law 1032 = .ok (.invokestatic 131, 3) := by decide +kernel
theorem d_L_law_1035 : decode b_L_law 1035 = .ok (.istore 5, 2) := by decide +kernel
theorem d_L_law_1037 : decode b_L_law 1037 = .ok (.aload_n 2, 1) := by decide +kernel
theorem d_L_law_1038 : decode b_L_law 1038 = .ok (.aload_n 0, 1) := by decide +kernel
theorem d_L_law_1039 : decode b_L_law 1039 = .ok (.iload 4, 2) := by decide +kernel
theorem d_L_law_1041 : decode b_L_law 1041 = .ok (.iconst 1, 1) := by decide +kernel
theorem d_L_law_1042 : decode b_L_law 1042 = .ok (.iadd, 1) := by decide +kernel
theorem d_L_law_1043 : decode b_L_law 1043 = .ok (.iaload, 1) := by decide +kernel
theorem d_L_law_1044 : decode b_L_law 1044 = .ok (.aload_n 0, 1) := by decide +kernel
theorem d_L_law_1045 : decode b_L_law 1045 = .ok (.iload 4, 2) := by decide +kernel
theorem d_L_law_1047 : decode b_L_law 1047 = .ok (.iconst 2, 1) := by decide +kernel
theorem d_L_law_1048 : decode b_L_law 1048 = .ok (.iadd, 1) := by decide +kernel
theorem d_L_law_1049 : decode b_L_law 1049 = .ok (.iaload, 1) := by decide +kernel
theorem d_L_law_1050 : decode b_L_law 1050 = .ok (.aload_n 0, 1) := by decide +kernel
theorem d_L_law_1051 : decode b_L_law 1051 = .ok (.iload 4, 2) := by decide +kernel
theorem d_L_law_1053 : decode b_L_law 1053 = .ok (.iconst 3, 1) := by decide +kernel
theorem d_L_law_1054 : decode b_L_law 1054 = .ok (.iadd, 1) := by decide +kernel
theorem d_L_law_1055 : decode b_L_law 1055 = .ok (.iaload, 1) := by decide +kernel
theorem d_L_law_1056 : decode b_L_law 1056 = .ok (.invokevirtual 133, 3) := by decide +kernel
theorem d_L_law_1059 : decode b_L_law 1059 = .ok (.istore 6, 2) := by decide +kernel
theorem d_L_law_1061 : decode b_L_law 1061 = .ok (.aload_n 2, 1) := by decide +kernel
theorem d_L_law_1062 : decode b_L_law 1062 = .ok (.invokevirtual 92, 3) := by decide +kernel
theorem d_L_law_1065 : decode b_L_law 1065 = .ok (.iload 5, 2) := by decide +kernel
theorem d_L_law_1067 : decode b_L_law 1067 = .ok (.if_icmp .eq 5, 3) := by decide +kernel
theorem d_L_law_1070 : decode b_L_law 1070 = .ok (.iconst 0, 1) := by decide +kernel
theorem d_L_law_1071 : decode b_L_law 1071 = .ok (.ireturn, 1) := by decide +kernel
theorem d_L_law_1072 : decode b_L_law 1072 = .ok (.iload 5, 2) := by decide +kernel
theorem d_L_law_1074 : decode b_L_law 1074 = .ok (.ifCond .ne 15, 3) := by decide +kernel
theorem d_L_law_1077 : decode b_L_law 1077 = .ok (.aload_n 3, 1) := by decide +kernel
theorem d_L_law_1078 : decode b_L_law 1078 = .ok (.iconst 0, 1) := by decide +kernel
theorem d_L_law_1079 : decode b_L_law 1079 = .ok (.laload, 1) := by decide +kernel
theorem d_L_law_1080 : decode b_L_law 1080 = .ok (.iload 6, 2) := by decide +kernel
theorem d_L_law_1082 : decode b_L_law 1082 = .ok (.i2l, 1) := by decide +kernel
theorem d_L_law_1083 : decode b_L_law 1083 = .ok (.lcmp, 1) := by decide +kernel
theorem d_L_law_1084 : decode b_L_law 1084 = .ok (.ifCond .eq 5, 3) := by decide +kernel
theorem d_L_law_1087 : decode b_L_law 1087 = .ok (.iconst 0, 1) := by decide +kernel
theorem d_L_law_1088 : decode b_L_law 1088 = .ok (.ireturn, 1) := by decide +kernel
theorem d_L_law_1089 : decode b_L_law 1089 = .ok (.goto 480, 3) := by decide +kernel
theorem d_L_law_1092 : decode b_L_law 1092 = .ok (.aload_n 1, 1) := by decide +kernel
theorem d_L_law_1093 : decode b_L_law 1093 = .ok (.aload_n 0, 1) := by decide +kernel
theorem d_L_law_1094 : decode b_L_law 1094 = .ok (.iload 4, 2) := by decide +kernel
theorem d_L_law_1096 : decode b_L_law 1096 = .ok (.iconst 1, 1) := by decide +kernel
theorem d_L_law_1097 : decode b_L_law 1097 = .ok (.iadd, 1) := by decide +kernel
theorem d_L_law_1098 : decode b_L_law 1098 = .ok (.iaload, 1) := by decide +kernel
theorem d_L_law_1099 : decode b_L_law 1099 = .ok (.aload_n 0, 1) := by decide +kernel
theorem d_L_law_1100 : decode b_L_law 1100 = .ok (.iload 4, 2) := by decide +kernel
theorem d_L_law_1102 : decode b_L_law 1102 = .ok (.iconst 2, 1) := by decide +kernel
theorem d_L_law_1103 : decode b_L_law 1103 = .ok (.iadd, 1) := by decide +kernel
theorem d_L_law_1104 : decode b_L_law 1104 = .ok (.iaload, 1) := by decide +kernel
theorem d_L_law_1105 : decode b_L_law 1105 = .ok (.aload_n 0, 1) := by decide +kernel
theorem d_L_law_1106 : decode b_L_law 1106 = .ok (.iload 4, 2) := by decide +kernel
theorem d_L_law_1108 : decode b_L_law 1108 = .ok (.iconst 3, 1) := by decide +kernel
theorem d_L_law_1109 : decode b_L_law 1109 = .ok (.iadd, 1) := by decide +kernel
theorem d_L_law_1110 : decode b_L_law 1110 = .ok (.iaload, 1) := by decide +kernel
theorem d_L_law_1111 : decode b_L_law 1111 = .ok (.aload_n 3, 1) := by decide +kernel
theorem d_L_law_1112 : decode b_L_law 1112 = .ok (.invokestatic 134, 3) := by decide +kernel
theorem d_L_law_1115 : decode b_L_law 1115 = .ok (.istore 5, 2) := by decide +kernel
theorem d_L_law_1117 : decode b_L_law 1117 = .ok (.aload_n 2, 1) := by decide +kernel
theorem d_L_law_1118 : decode b_L_law 1118 = .ok (.aload_n 0, 1) := by decide +kernel
theorem d_L_law_1119 : decode b_L_law 1119 = .ok (.iload 4, 2) := by decide +kernel
theorem d_L_law_1121 : decode b_L_law 1121 = .ok (.iconst 1, 1) := by decide +kernel
theorem d_L_law_1122 : decode b_L_law 1122 = .ok (.iadd, 1) := by decide +kernel
theorem d_L_law_1123 : decode b_L_law 1123 = .ok (.iaload, 1) := by decide +kernel
theorem d_L_law_1124 : decode b_L_law 1124 = .ok (.aload_n 0, 1) := by decide +kernel
theorem d_L_law_1125 : decode b_L_law 1125 = .ok (.iload 4, 2) := by decide +kernel
theorem d_L_law_1127 : decode b_L_law 1127 = .ok (.iconst 2, 1) := by decide +kernel
theorem d_L_law_1128 : decode b_L_law 1128 = .ok (.iadd, 1) := by decide +kernel
theorem d_L_law_1129 : decode b_L_law 1129 = .ok (.iaload, 1) := by decide +kernel
theorem d_L_law_1130 : decode b_L_law 1130 = .ok (.aload_n 0, 1) := by decide +kernel
theorem d_L_law_1131 : decode b_L_law 1131 = .ok (.iload 4, 2) := by decide +kernel
theorem d_L_law_1133 : decode b_L_law 1133 = .ok (.iconst 3, 1) := by decide +kernel
theorem d_L_law_1134 : decode b_L_law 1134 = .ok (.iadd, 1) := by decide +kernel
theorem d_L_law_1135 : decode b_L_law 1135 = .ok (.iaload, 1) := by decide +kernel
theorem d_L_law_1136 : decode b_L_law 1136 = .ok (.invokevirtual 136, 3) := by decide +kernel
theorem d_L_law_1139 : decode b_L_law 1139 = .ok (.istore 6, 2) := by decide +kernel
theorem d_L_law_1141 : decode b_L_law 1141 = .ok (.aload_n 2, 1) := by decide +kernel
theorem d_L_law_1142 : decode b_L_law 1142 = .ok (.invokevirtual 92, 3) := by decide +kernel
theorem d_L_law_1145 : decode b_L_law 1145 = .ok (.iload 5, 2) := by decide +kernel
theorem d_L_law_1147 : decode b_L_law 1147 = .ok (.if_icmp .eq 5, 3) := by decide +kernel
theorem d_L_law_1150 : decode b_L_law 1150 = .ok (.iconst 0, 1) := by decide +kernel
theorem d_L_law_1151 : decode b_L_law 1151 = .ok (.ireturn, 1) := by decide +kernel
theorem d_L_law_1152 : decode b_L_law 1152 = .ok (.iload 5, 2) := by decide +kernel
theorem d_L_law_1154 : decode b_L_law 1154 = .ok (.ifCond .ne 15, 3) := by decide +kernel
theorem d_L_law_1157 : decode b_L_law 1157 = .ok (.aload_n 3, 1) := by decide +kernel
theorem d_L_law_1158 : decode b_L_law 1158 = .ok (.iconst 0, 1) := by decide +kernel
theorem d_L_law_1159 : decode b_L_law 1159 = .ok (.laload, 1) := by decide +kernel
theorem d_L_law_1160 : decode b_L_law 1160 = .ok (.iload 6, 2) := by decide +kernel
theorem d_L_law_1162 : decode b_L_law 1162 = .ok (.i2l, 1) := by decide +kernel
theorem d_L_law_1163 : decode b_L_law 1163 = .ok (.lcmp, 1) := by decide +kernel
theorem d_L_law_1164 : decode b_L_law 1164 = .ok (.ifCond .eq 5, 3) := by decide +kernel
theorem d_L_law_1167 : decode b_L_law 1167 = .ok (.iconst 0, 1) := by decide +kernel
theorem d_L_law_1168 : decode b_L_law 1168 = .ok (.ireturn, 1) := by decide +kernel
theorem d_L_law_1169 : decode b_L_law 1169 = .ok (.goto 400, 3) := by decide +kernel
theorem d_L_law_1172 : decode b_L_law 1172 = .ok (.aload_n 1, 1) := by decide +kernel
theorem d_L_law_1173 : decode b_L_law 1173 = .ok (.aload_n 0, 1) := by decide +kernel
theorem d_L_law_1174 : decode b_L_law 1174 = .ok (.iload 4, 2) := by decide +kernel
theorem d_L_law_1176 : decode b_L_law 1176 = .ok (.iconst 1, 1) := by decide +kernel
theorem d_L_law_1177 : decode b_L_law 1177 = .ok (.iadd, 1) := by decide +kernel
theorem d_L_law_1178 : decode b_L_law 1178 = .ok (.iaload, 1) := by decide +kernel
theorem d_L_law_1179 : decode b_L_law 1179 = .ok (.aload_n 0, 1) := by decide +kernel
theorem d_L_law_1180 : decode b_L_law 1180 = .ok (.iload 4, 2) := by decide +kernel
theorem d_L_law_1182 : decode b_L_law 1182 = .ok (.iconst 2, 1) := by decide +kernel
theorem d_L_law_1183 : decode b_L_law 1183 = .ok (.iadd, 1) := by decide +kernel
theorem d_L_law_1184 : decode b_L_law 1184 = .ok (.iaload, 1) := by decide +kernel
theorem d_L_law_1185 : decode b_L_law 1185 = .ok (.aload_n 3, 1) := by decide +kernel
theorem d_L_law_1186 : decode b_L_law 1186 = .ok (.invokestatic 137, 3) := by decide +kernel
theorem d_L_law_1189 : decode b_L_law 1189 = .ok (.istore 5, 2) := by decide +kernel
theorem d_L_law_1191 : decode b_L_law 1191 = .ok (.aload_n 2, 1) := by decide +kernel
theorem d_L_law_1192 : decode b_L_law 1192 = .ok (.aload_n 0, 1) := by decide +kernel
theorem d_L_law_1193 : decode b_L_law 1193 = .ok (.iload 4, 2) := by decide +kernel
theorem d_L_law_1195 : decode b_L_law 1195 = .ok (.iconst 1, 1) := by decide +kernel
theorem d_L_law_1196 : decode b_L_law 1196 = .ok (.iadd, 1) := by decide +kernel
theorem d_L_law_1197 : decode b_L_law 1197 = .ok (.iaload, 1) := by decide +kernel
theorem d_L_law_1198 : decode b_L_law 1198 = .ok (.aload_n 0, 1) := by decide +kernel
theorem d_L_law_1199 : decode b_L_law 1199 = .ok (.iload 4, 2) := by decide +kernel
theorem d_L_law_1201 : decode b_L_law 1201 = .ok (.iconst 2, 1) := by decide +kernel
theorem d_L_law_1202 : decode b_L_law 1202 = .ok (.iadd, 1) := by decide +kernel
theorem d_L_law_1203 : decode b_L_law 1203 = .ok (.iaload, 1) := by decide +kernel
theorem d_L_law_1204 : decode b_L_law 1204 = .ok (.invokevirtual 139, 3) := by decide +kernel
theorem d_L_law_1207 : decode b_L_law 1207 = .ok (.istore 6, 2) := by decide +kernel
theorem d_L_law_1209 : decode b_L_law 1209 = .ok (.aload_n 2, 1) := by decide +kernel
theorem d_L_law_1210 : decode b_L_law 1210 = .ok (.invokevirtual 92, 3) := by decide +kernel
theorem d_L_law_1213 : decode b_L_law 1213 = .ok (.iload 5, 2) := by decide +kernel
theorem d_L_law_1215 : decode b_L_law 1215 = .ok (.if_icmp .eq 5, 3) := by decide +kernel
theorem d_L_law_1218 : decode b_L_law 1218 = .ok (.iconst 0, 1) := by decide +kernel
theorem d_L_law_1219 : decode b_L_law 1219 = .ok (.ireturn, 1) := by decide +kernel
theorem d_L_law_1220 : decode b_L_law 1220 = .ok (.iload 5, 2) := by decide +kernel
theorem d_L_law_1222 : decode b_L_law 1222 = .ok (.ifCond .ne 15, 3) := by decide +kernel
theorem d_L_law_1225 : decode b_L_law 1225 = .ok (.aload_n 3, 1) := by decide +kernel
theorem d_L_law_1226 : decode b_L_law 1226 = .ok (.iconst 0, 1) := by decide +kernel
theorem d_L_law_1227 : decode b_L_law 1227 = .ok (.laload, 1) := by decide +kernel
theorem d_L_law_1228 : decode b_L_law 1228 = .ok (.iload 6, 2) := by decide +kernel
theorem d_L_law_1230 : decode b_L_law 1230 = .ok (.i2l, 1) := by decide +kernel
theorem d_L_law_1231 : decode b_L_law 1231 = .ok (.lcmp, 1) := by decide +kernel
theorem d_L_law_1232 : decode b_L_law 1232 = .ok (.ifCond .eq 5, 3) := by decide +kernel
theorem d_L_law_1235 : decode b_L_law 1235 = .ok (.iconst 0, 1) := by decide +kernel
theorem d_L_law_1236 : decode b_L_law 1236 = .ok (.ireturn, 1) := by decide +kernel
theorem d_L_law_1237 : decode b_L_law 1237 = .ok (.goto 332, 3) := by decide +kernel
theorem d_L_law_1240 : decode b_L_law 1240 = .ok (.aload_n 1, 1) := by decide +kernel
theorem d_L_law_1241 : decode b_L_law 1241 = .ok (.aload_n 0, 1) := by decide +kernel
theorem d_L_law_1242 : decode b_L_law 1242 = .ok (.iload 4, 2) := by decide +kernel
theorem d_L_law_1244 : decode b_L_law 1244 = .ok (.iconst 1, 1) := by decide +kernel
theorem d_L_law_1245 : decode b_L_law 1245 = .ok (.iadd, 1) := by decide +kernel
theorem d_L_law_1246 : decode b_L_law 1246 = .ok (.iaload, 1) := by decide +kernel
theorem d_L_law_1247 : decode b_L_law 1247 = .ok (.aload_n 3, 1) := by decide +kernel
theorem d_L_law_1248 : decode b_L_law 1248 = .ok (.invokestatic 140, 3) := by decide +kernel
theorem d_L_law_1251 : decode b_L_law 1251 = .ok (.istore 5, 2) := by decide +kernel
theorem d_L_law_1253 : decode b_L_law 1253 = .ok (.aload_n 2, 1) := by decide +kernel
theorem d_L_law_1254 : decode b_L_law 1254 = .ok (.aload_n 0, 1) := by decide +kernel
theorem d_L_law_1255 : decode b_L_law 1255 = .ok (.iload 4, 2) := by decide +kernel
theorem d_L_law_1257 : decode b_L_law 1257 = .ok (.iconst 1, 1) := by decide +kernel
theorem d_L_law_1258 : decode b_L_law 1258 = .ok (.iadd, 1) := by decide +kernel
theorem d_L_law_1259 : decode b_L_law 1259 = .ok (.iaload, 1) := by decide +kernel
theorem d_L_law_1260 : decode b_L_law 1260 = .ok (.invokevirtual 142, 3) := by decide +kernel
theorem d_L_law_1263 : decode b_L_law 1263 = .ok (.istore 6, 2) := by decide +kernel
theorem d_L_law_1265 : decode b_L_law 1265 = .ok (.aload_n 2, 1) := by decide +kernel
theorem d_L_law_1266 : decode b_L_law 1266 = .ok (.invokevirtual 92, 3) := by decide +kernel
theorem d_L_law_1269 : decode b_L_law 1269 = .ok (.iload 5, 2) := by decide +kernel
theorem d_L_law_1271 : decode b_L_law 1271 = .ok (.if_icmp .eq 5, 3) := by decide +kernel
theorem d_L_law_1274 : decode b_L_law 1274 = .ok (.iconst 0, 1) := by decide +kernel
theorem d_L_law_1275 : decode b_L_law 1275 = .ok (.ireturn, 1) := by decide +kernel
theorem d_L_law_1276 : decode b_L_law 1276 = .ok (.iload 5, 2) := by decide +kernel
theorem d_L_law_1278 : decode b_L_law 1278 = .ok (.ifCond .ne 15, 3) := by decide +kernel
theorem d_L_law_1281 : decode b_L_law 1281 = .ok (.aload_n 3, 1) := by decide +kernel
theorem d_L_law_1282 : decode b_L_law 1282 = .ok (.iconst 0, 1) := by decide +kernel
theorem d_L_law_1283 : decode b_L_law 1283 = .ok (.laload, 1) := by decide +kernel
theorem d_L_law_1284 : decode b_L_law 1284 = .ok (.iload 6, 2) := by decide +kernel
theorem d_L_law_1286 : decode b_L_law 1286 = .ok (.i2l, 1) := by decide +kernel
theorem d_L_law_1287 : decode b_L_law 1287 = .ok (.lcmp, 1) := by decide +kernel
theorem d_L_law_1288 : decode b_L_law 1288 = .ok (.ifCond .eq 5, 3) := by decide +kernel
theorem d_L_law_1291 : decode b_L_law 1291 = .ok (.iconst 0, 1) := by decide +kernel
theorem d_L_law_1292 : decode b_L_law 1292 = .ok (.ireturn, 1) := by decide +kernel
theorem d_L_law_1293 : decode b_L_law 1293 = .ok (.goto 276, 3) := by decide +kernel
theorem d_L_law_1296 : decode b_L_law 1296 = .ok (.aload_n 1, 1) := by decide +kernel
theorem d_L_law_1297 : decode b_L_law 1297 = .ok (.aload_n 0, 1) := by decide +kernel
theorem d_L_law_1298 : decode b_L_law 1298 = .ok (.iload 4, 2) := by decide +kernel
theorem d_L_law_1300 : decode b_L_law 1300 = .ok (.iconst 1, 1) := by decide +kernel
theorem d_L_law_1301 : decode b_L_law 1301 = .ok (.iadd, 1) := by decide +kernel
theorem d_L_law_1302 : decode b_L_law 1302 = .ok (.iaload, 1) := by decide +kernel
theorem d_L_law_1303 : decode b_L_law 1303 = .ok (.aload_n 3, 1) := by decide +kernel
theorem d_L_law_1304 : decode b_L_law 1304 = .ok (.invokestatic 143, 3) := by decide +kernel
theorem d_L_law_1307 : decode b_L_law 1307 = .ok (.istore 5, 2) := by decide +kernel
theorem d_L_law_1309 : decode b_L_law 1309 = .ok (.aload_n 2, 1) := by decide +kernel
theorem d_L_law_1310 : decode b_L_law 1310 = .ok (.aload_n 0, 1) := by decide +kernel
theorem d_L_law_1311 : decode b_L_law 1311 = .ok (.iload 4, 2) := by decide +kernel
theorem d_L_law_1313 : decode b_L_law 1313 = .ok (.iconst 1, 1) := by decide +kernel
theorem d_L_law_1314 : decode b_L_law 1314 = .ok (.iadd, 1) := by decide +kernel
theorem d_L_law_1315 : decode b_L_law 1315 = .ok (.iaload, 1) := by decide +kernel
theorem d_L_law_1316 : decode b_L_law 1316 = .ok (.invokevirtual 145, 3) := by decide +kernel
theorem d_L_law_1319 : decode b_L_law 1319 = .ok (.istore 6, 2) := by decide +kernel
theorem d_L_law_1321 : decode b_L_law 1321 = .ok (.aload_n 2, 1) := by decide +kernel
theorem d_L_law_1322 : decode b_L_law 1322 = .ok (.invokevirtual 92, 3) := by decide +kernel
theorem d_L_law_1325 : decode b_L_law 1325 = .ok (.iload 5, 2) := by decide +kernel
theorem d_L_law_1327 : decode b_L_law 1327 = .ok (.if_icmp .eq 5, 3) := by decide +kernel
theorem d_L_law_1330 : decode b_L_law 1330 = .ok (.iconst 0, 1) := by decide +kernel
theorem d_L_law_1331 : decode b_L_law 1331 = .ok (.ireturn, 1) := by decide +kernel
theorem d_L_law_1332 : decode b_L_law 1332 = .ok (.iload 5, 2) := by decide +kernel
theorem d_L_law_1334 : decode b_L_law 1334 = .ok (.ifCond .ne 15, 3) := by decide +kernel
theorem d_L_law_1337 : decode b_L_law 1337 = .ok (.aload_n 3, 1) := by decide +kernel
theorem d_L_law_1338 : decode b_L_law 1338 = .ok (.iconst 0, 1) := by decide +kernel
theorem d_L_law_1339 : decode b_L_law 1339 = .ok (.laload, 1) := by decide +kernel
theorem d_L_law_1340 : decode b_L_law 1340 = .ok (.iload 6, 2) := by decide +kernel
theorem d_L_law_1342 : decode b_L_law 1342 = .ok (.i2l, 1) := by decide +kernel
theorem d_L_law_1343 : decode b_L_law 1343 = .ok (.lcmp, 1) := by decide +kernel
theorem d_L_law_1344 : decode b_L_law 1344 = .ok (.ifCond .eq 5, 3) := by decide +kernel
theorem d_L_law_1347 : decode b_L_law 1347 = .ok (.iconst 0, 1) := by decide +kernel
theorem d_L_law_1348 : decode b_L_law 1348 = .ok (.ireturn, 1) := by decide +kernel
theorem d_L_law_1349 : decode b_L_law 1349 = .ok (.goto 220, 3) := by decide +kernel
theorem d_L_law_1352 : decode b_L_law 1352 = .ok (.aload_n 1, 1) := by decide +kernel
theorem d_L_law_1353 : decode b_L_law 1353 = .ok (.aload_n 0, 1) := by decide +kernel
theorem d_L_law_1354 : decode b_L_law 1354 = .ok (.iload 4, 2) := by decide +kernel
theorem d_L_law_1356 : decode b_L_law 1356 = .ok (.iconst 1, 1) := by decide +kernel
theorem d_L_law_1357 : decode b_L_law 1357 = .ok (.iadd, 1) := by decide +kernel
theorem d_L_law_1358 : decode b_L_law 1358 = .ok (.iaload, 1) := by decide +kernel
theorem d_L_law_1359 : decode b_L_law 1359 = .ok (.aload_n 0, 1) := by decide +kernel
theorem d_L_law_1360 : decode b_L_law 1360 = .ok (.iload 4, 2) := by decide +kernel
theorem d_L_law_1362 : decode b_L_law 1362 = .ok (.iconst 2, 1) := by decide +kernel
theorem d_L_law_1363 : decode b_L_law 1363 = .ok (.iadd, 1) := by decide +kernel
theorem d_L_law_1364 : decode b_L_law 1364 = .ok (.iaload, 1) := by decide +kernel
theorem d_L_law_1365 : decode b_L_law 1365 = .ok (.aload_n 3, 1) := by decide +kernel
theorem d_L_law_1366 : decode b_L_law 1366 = .ok (.invokestatic 146, 3) := by decide +kernel
theorem d_L_law_1369 : decode b_L_law 1369 = .ok (.istore 5, 2) := by decide +kernel
theorem d_L_law_1371 : decode b_L_law 1371 = .ok (.aload_n 2, 1) := by decide +kernel
theorem d_L_law_1372 : decode b_L_law 1372 = .ok (.aload_n 0, 1) := by decide +kernel
theorem d_L_law_1373 : decode b_L_law 1373 = .ok (.iload 4, 2) := by decide +kernel
theorem d_L_law_1375 : decode b_L_law 1375 = .ok (.iconst 1, 1) := by decide +kernel
theorem d_L_law_1376 : decode b_L_law 1376 = .ok (.iadd, 1) := by decide +kernel
theorem d_L_law_1377 : decode b_L_law 1377 = .ok (.iaload, 1) := by decide +kernel
theorem d_L_law_1378 : decode b_L_law 1378 = .ok (.aload_n 0, 1) := by decide +kernel
theorem d_L_law_1379 : decode b_L_law 1379 = .ok (.iload 4, 2) := by decide +kernel
theorem d_L_law_1381 : decode b_L_law 1381 = .ok (.iconst 2, 1) := by decide +kernel
theorem d_L_law_1382 : decode b_L_law 1382 = .ok (.iadd, 1) := by decide +kernel
theorem d_L_law_1383 : decode b_L_law 1383 = .ok (.iaload, 1) := by decide +kernel
theorem d_L_law_1384 : decode b_L_law 1384 = .ok (.invokevirtual 148, 3) := by decide +kernel
theorem d_L_law_1387 : decode b_L_law 1387 = .ok (.istore 6, 2) := by decide +kernel
theorem d_L_law_1389 : decode b_L_law 1389 = .ok (.aload_n 2, 1) := by decide +kernel
theorem d_L_law_1390 : decode b_L_law 1390 = .ok (.invokevirtual 92, 3) := by decide +kernel
theorem d_L_law_1393 : decode b_L_law 1393 = .ok (.iload 5, 2) := by decide +kernel
theorem d_L_law_1395 : decode b_L_law 1395 = .ok (.if_icmp .eq 5, 3) := by decide +kernel
theorem d_L_law_1398 : decode b_L_law 1398 = .ok (.iconst 0, 1) := by decide +kernel
theorem d_L_law_1399 : decode b_L_law 1399 = .ok (.ireturn, 1) := by decide +kernel
theorem d_L_law_1400 : decode b_L_law 1400 = .ok (.iload 5, 2) := by decide +kernel
theorem d_L_law_1402 : decode b_L_law 1402 = .ok (.ifCond .ne 15, 3) := by decide +kernel
theorem d_L_law_1405 : decode b_L_law 1405 = .ok (.aload_n 3, 1) := by decide +kernel
theorem d_L_law_1406 : decode b_L_law 1406 = .ok (.iconst 0, 1) := by decide +kernel
theorem d_L_law_1407 : decode b_L_law 1407 = .ok (.laload, 1) := by decide +kernel
theorem d_L_law_1408 : decode b_L_law 1408 = .ok (.iload 6, 2) := by decide +kernel
theorem d_L_law_1410 : decode b_L_law 1410 = .ok (.i2l, 1) := by decide +kernel
theorem d_L_law_1411 : decode b_L_law 1411 = .ok (.lcmp, 1) := by decide +kernel
theorem d_L_law_1412 : decode b_L_law 1412 = .ok (.ifCond .eq 5, 3) := by decide +kernel
theorem d_L_law_1415 : decode b_L_law 1415 = .ok (.iconst 0, 1) := by decide +kernel
theorem d_L_law_1416 : decode b_L_law 1416 = .ok (.ireturn, 1) := by decide +kernel
theorem d_L_law_1417 : decode b_L_law 1417 = .ok (.goto 152, 3) := by decide +kernel
theorem d_L_law_1420 : decode b_L_law 1420 = .ok (.aload_n 1, 1) := by decide +kernel
theorem d_L_law_1421 : decode b_L_law 1421 = .ok (.aload_n 0, 1) := by decide +kernel
theorem d_L_law_1422 : decode b_L_law 1422 = .ok (.iload 4, 2) := by decide +kernel
theorem d_L_law_1424 : decode b_L_law 1424 = .ok (.iconst 1, 1) := by decide +kernel
theorem d_L_law_1425 : decode b_L_law 1425 = .ok (.iadd, 1) := by decide +kernel
theorem d_L_law_1426 : decode b_L_law 1426 = .ok (.iaload, 1) := by decide +kernel
theorem d_L_law_1427 : decode b_L_law 1427 = .ok (.aload_n 0, 1) := by decide +kernel
theorem d_L_law_1428 : decode b_L_law 1428 = .ok (.iload 4, 2) := by decide +kernel
theorem d_L_law_1430 : decode b_L_law 1430 = .ok (.iconst 2, 1) := by decide +kernel
theorem d_L_law_1431 : decode b_L_law 1431 = .ok (.iadd, 1) := by decide +kernel
theorem d_L_law_1432 : decode b_L_law 1432 = .ok (.iaload, 1) := by decide +kernel
theorem d_L_law_1433 : decode b_L_law 1433 = .ok (.aload_n 3, 1) := by decide +kernel
theorem d_L_law_1434 : decode b_L_law 1434 = .ok (.invokestatic 149, 3) := by decide +kernel
theorem d_L_law_1437 : decode b_L_law 1437 = .ok (.istore 5, 2) := by decide +kernel
theorem d_L_law_1439 : decode b_L_law 1439 = .ok (.aload_n 2, 1) := by decide +kernel
theorem d_L_law_1440 : decode b_L_law 1440 = .ok (.aload_n 0, 1) := by decide +kernel
theorem d_L_law_1441 : decode b_L_law 1441 = .ok (.iload 4, 2) := by decide +kernel
theorem d_L_law_1443 : decode b_L_law 1443 = .ok (.iconst 1, 1) := by decide +kernel
theorem d_L_law_1444 : decode b_L_law 1444 = .ok (.iadd, 1) := by decide +kernel
theorem d_L_law_1445 : decode b_L_law 1445 = .ok (.iaload, 1) := by decide +kernel
theorem d_L_law_1446 : decode b_L_law 1446 = .ok (.aload_n 0, 1) := by decide +kernel
theorem d_L_law_1447 : decode b_L_law 1447 = .ok (.iload 4, 2) := by decide +kernel
theorem d_L_law_1449 : decode b_L_law 1449 = .ok (.iconst 2, 1) := by decide +kernel
theorem d_L_law_1450 : decode b_L_law 1450 = .ok (.iadd, 1) := by decide +kernel
theorem d_L_law_1451 : decode b_L_law 1451 = .ok (.iaload, 1) := by decide +kernel
theorem d_L_law_1452 : decode b_L_law 1452 = .ok (.invokevirtual 151, 3) := by decide +kernel
theorem d_L_law_1455 : decode b_L_law 1455 = .ok (.istore 6, 2) := by decide +kernel
theorem d_L_law_1457 : decode b_L_law 1457 = .ok (.aload_n 2, 1) := by decide +kernel
theorem d_L_law_1458 : decode b_L_law 1458 = .ok (.invokevirtual 92, 3) := by decide +kernel
theorem d_L_law_1461 : decode b_L_law 1461 = .ok (.iload 5, 2) := by decide +kernel
theorem d_L_law_1463 : decode b_L_law 1463 = .ok (.if_icmp .eq 5, 3) := by decide +kernel
theorem d_L_law_1466 : decode b_L_law 1466 = .ok (.iconst 0, 1) := by decide +kernel
theorem d_L_law_1467 : decode b_L_law 1467 = .ok (.ireturn, 1) := by decide +kernel
theorem d_L_law_1468 : decode b_L_law 1468 = .ok (.iload 5, 2) := by decide +kernel
theorem d_L_law_1470 : decode b_L_law 1470 = .ok (.ifCond .ne 15, 3) := by decide +kernel
theorem d_L_law_1473 : decode b_L_law 1473 = .ok (.aload_n 3, 1) := by decide +kernel
theorem d_L_law_1474 : decode b_L_law 1474 = .ok (.iconst 0, 1) := by decide +kernel
theorem d_L_law_1475 : decode b_L_law 1475 = .ok (.laload, 1) := by decide +kernel
theorem d_L_law_1476 : decode b_L_law 1476 = .ok (.iload 6, 2) := by decide +kernel
theorem d_L_law_1478 : decode b_L_law 1478 = .ok (.i2l, 1) := by decide +kernel
theorem d_L_law_1479 : decode b_L_law 1479 = .ok (.lcmp, 1) := by decide +kernel
theorem d_L_law_1480 : decode b_L_law 1480 = .ok (.ifCond .eq 5, 3) := by decide +kernel
theorem d_L_law_1483 : decode b_L_law 1483 = .ok (.iconst 0, 1) := by decide +kernel
theorem d_L_law_1484 : decode b_L_law 1484 = .ok (.ireturn, 1) := by decide +kernel
theorem d_L_law_1485 : decode b_L_law 1485 = .ok (.goto 84, 3) := by decide +kernel
theorem d_L_law_1488 : decode b_L_law 1488 = .ok (.aload_n 1, 1) := by decide +kernel
theorem d_L_law_1489 : decode b_L_law 1489 = .ok (.aload_n 0, 1) := by decide +kernel
theorem d_L_law_1490 : decode b_L_law 1490 = .ok (.iload 4, 2) := by decide +kernel
theorem d_L_law_1492 : decode b_L_law 1492 = .ok (.iconst 1, 1) := by decide +kernel
theorem d_L_law_1493 : decode b_L_law 1493 = .ok (.iadd, 1) := by decide +kernel
theorem d_L_law_1494 : decode b_L_law 1494 = .ok (.iaload, 1) := by decide +kernel
theorem d_L_law_1495 : decode b_L_law 1495 = .ok (.aload_n 3, 1) := by decide +kernel
theorem d_L_law_1496 : decode b_L_law 1496 = .ok (.invokestatic 152, 3) := by decide +kernel
theorem d_L_law_1499 : decode b_L_law 1499 = .ok (.istore 5, 2) := by decide +kernel
theorem d_L_law_1501 : decode b_L_law 1501 = .ok (.aload_n 2, 1) := by decide +kernel
theorem d_L_law_1502 : decode b_L_law 1502 = .ok (.aload_n 0, 1) := by decide +kernel
theorem d_L_law_1503 : decode b_L_law 1503 = .ok (.iload 4, 2) := by decide +kernel
theorem d_L_law_1505 : decode b_L_law 1505 = .ok (.iconst 1, 1) := by decide +kernel
theorem d_L_law_1506 : decode b_L_law 1506 = .ok (.iadd, 1) := by decide +kernel
theorem d_L_law_1507 : decode b_L_law 1507 = .ok (.iaload, 1) := by decide +kernel
theorem d_L_law_1508 : decode b_L_law 1508 = .ok (.invokevirtual 154, 3) := by decide +kernel
theorem d_L_law_1511 : decode b_L_law 1511 = .ok (.istore 6, 2) := by decide +kernel
theorem d_L_law_1513 : decode b_L_law 1513 = .ok (.aload_n 2, 1) := by decide +kernel
theorem d_L_law_1514 : decode b_L_law 1514 = .ok (.invokevirtual 92, 3) := by decide +kernel
theorem d_L_law_1517 : decode b_L_law 1517 = .ok (.iload 5, 2) := by decide +kernel
theorem d_L_law_1519 : decode b_L_law 1519 = .ok (.if_icmp .eq 5, 3) := by decide +kernel
theorem d_L_law_1522 : decode b_L_law 1522 = .ok (.iconst 0, 1) := by decide +kernel
theorem d_L_law_1523 : decode b_L_law 1523 = .ok (.ireturn, 1) := by decide +kernel
theorem d_L_law_1524 : decode b_L_law 1524 = .ok (.iload 5, 2) := by decide +kernel
theorem d_L_law_1526 : decode b_L_law 1526 = .ok (.ifCond .ne 15, 3) := by decide +kernel
theorem d_L_law_1529 : decode b_L_law 1529 = .ok (.aload_n 3, 1) := by decide +kernel
theorem d_L_law_1530 : decode b_L_law 1530 = .ok (.iconst 0, 1) := by decide +kernel
theorem d_L_law_1531 : decode b_L_law 1531 = .ok (.laload, 1) := by decide +kernel
theorem d_L_law_1532 : decode b_L_law 1532 = .ok (.iload 6, 2) := by decide +kernel
theorem d_L_law_1534 : decode b_L_law 1534 = .ok (.i2l, 1) := by decide +kernel
theorem d_L_law_1535 : decode b_L_law 1535 = .ok (.lcmp, 1) := by decide +kernel
theorem d_L_law_1536 : decode b_L_law 1536 = .ok (.ifCond .eq 5, 3) := by decide +kernel
theorem d_L_law_1539 : decode b_L_law 1539 = .ok (.iconst 0, 1) := by decide +kernel
theorem d_L_law_1540 : decode b_L_law 1540 = .ok (.ireturn, 1) := by decide +kernel
theorem d_L_law_1541 : decode b_L_law 1541 = .ok (.goto 28, 3) := by decide +kernel
theorem d_L_law_1544 : decode b_L_law 1544 = .ok (.aload_n 1, 1) := by decide +kernel
theorem d_L_law_1545 : decode b_L_law 1545 = .ok (.aload_n 0, 1) := by decide +kernel
theorem d_L_law_1546 : decode b_L_law 1546 = .ok (.iload 4, 2) := by decide +kernel
theorem d_L_law_1548 : decode b_L_law 1548 = .ok (.iconst 1, 1) := by decide +kernel
theorem d_L_law_1549 : decode b_L_law 1549 = .ok (.iadd, 1) := by decide +kernel
theorem d_L_law_1550 : decode b_L_law 1550 = .ok (.iaload, 1) := by decide +kernel
theorem d_L_law_1551 : decode b_L_law 1551 = .ok (.invokevirtual 155, 3) := by decide +kernel
theorem d_L_law_1554 : decode b_L_law 1554 = .ok (.aload_n 2, 1) := by decide +kernel
theorem d_L_law_1555 : decode b_L_law 1555 = .ok (.aload_n 0, 1) := by decide +kernel
theorem d_L_law_1556 : decode b_L_law 1556 = .ok (.iload 4, 2) := by decide +kernel
theorem d_L_law_1558 : decode b_L_law 1558 = .ok (.iconst 1, 1) := by decide +kernel
theorem d_L_law_1559 : decode b_L_law 1559 = .ok (.iadd, 1) := by decide +kernel
theorem d_L_law_1560 : decode b_L_law 1560 = .ok (.iaload, 1) := by decide +kernel
theorem d_L_law_1561 : decode b_L_law 1561 = .ok (.invokevirtual 158, 3) := by decide +kernel
theorem d_L_law_1564 : decode b_L_law 1564 = .ok (.if_icmp .eq 5, 3) := by decide +kernel
theorem d_L_law_1567 : decode b_L_law 1567 = .ok (.iconst 0, 1) := by decide +kernel
theorem d_L_law_1568 : decode b_L_law 1568 = .ok (.ireturn, 1) := by decide +kernel
theorem d_L_law_1569 : decode b_L_law 1569 = .ok (.iinc 4 5, 3) := by decide +kernel
theorem d_L_law_1572 : decode b_L_law 1572 = .ok (.goto (-1549), 3) := by decide +kernel
theorem d_L_law_1575 : decode b_L_law 1575 = .ok (.iconst 1, 1) := by decide +kernel
theorem d_L_law_1576 : decode b_L_law 1576 = .ok (.ireturn, 1) := by decide +kernel
