theorem d_LLL_law_667 : decode code 667 = .ok (.iaload, 1) := by decide +kernel
theorem d_LLL_law_668 : decode code 668 = .ok (.aload_n 0, 1) := by decide +kernel
theorem d_LLL_law_669 : decode code 669 = .ok (.iload_n 3, 1) := by decide +kernel
theorem d_LLL_law_670 : decode code 670 = .ok (.iconst 2, 1) := by decide +kernel
theorem d_LLL_law_671 : decode code 671 = .ok (.iadd, 1) := by decide +kernel
theorem d_LLL_law_672 : decode code 672 = .ok (.iaload, 1) := by decide +kernel
theorem d_LLL_law_673 : decode code 673 = .ok (.invokevirtual 85, 3) := by decide +kernel
theorem d_LLL_law_676 : decode code 676 = .ok (.aload_n 2, 1) := by decide +kernel
theorem d_LLL_law_677 : decode code 677 = .ok (.aload_n 0, 1) := by decide +kernel
theorem d_LLL_law_678 : decode code 678 = .ok (.iload_n 3, 1) := by decide +kernel
theorem d_LLL_law_679 : decode code 679 = .ok (.iconst 1, 1) := by decide +kernel
theorem d_LLL_law_680 : decode code 680 = .ok (.iadd, 1) := by decide +kernel
theorem d_LLL_law_681 : decode code 681 = .ok (.iaload, 1) := by decide +kernel
theorem d_LLL_law_682 : decode code 682 = .ok (.aload_n 0, 1) := by decide +kernel
theorem d_LLL_law_683 : decode code 683 = .ok (.iload_n 3, 1) := by decide +kernel
theorem d_LLL_law_684 : decode code 684 = .ok (.iconst 2, 1) := by decide +kernel
theorem d_LLL_law_685 : decode code 685 = .ok (.iadd, 1) := by decide +kernel
theorem d_LLL_law_686 : decode code 686 = .ok (.iaload, 1) := by decide +kernel
theorem d_LLL_law_687 : decode code 687 = .ok (.invokevirtual 88, 3) := by decide +kernel
theorem d_LLL_law_690 : decode code 690 = .ok (.if_icmp .eq 479, 3) := by decide +kernel
theorem d_LLL_law_693 : decode code 693 = .ok (.iconst 0, 1) := by decide +kernel
theorem d_LLL_law_694 : decode code 694 = .ok (.ireturn, 1) := by decide +kernel
theorem d_LLL_law_695 : decode code 695 = .ok (.aload_n 1, 1) := by decide +kernel
theorem d_LLL_law_696 : decode code 696 = .ok (.aload_n 0, 1) := by decide +kernel
theorem d_LLL_law_697 : decode code 697 = .ok (.iload_n 3, 1) := by decide +kernel
theorem d_LLL_law_698 : decode code 698 = .ok (.iconst 1, 1) := by decide +kernel
theorem d_LLL_law_699 : decode code 699 = .ok (.iadd, 1) := by decide +kernel
theorem d_LLL_law_700 : decode code 700 = .ok (.iaload, 1) := by decide +kernel
theorem d_LLL_law_701 : decode code 701 = .ok (.aload_n 0, 1) := by decide +kernel
theorem d_LLL_law_702 : decode code 702 = .ok (.iload_n 3, 1) := by decide +kernel
theorem d_LLL_law_703 : decode code 703 = .ok (.iconst 2, 1) := by decide +kernel
theorem d_LLL_law_704 : decode code 704 = .ok (.iadd, 1) := by decide +kernel
theorem d_LLL_law_705 : decode code 705 = .ok (.iaload, 1) := by decide +kernel
theorem d_LLL_law_706 : decode code 706 = .ok (.invokevirtual 89, 3) := by decide +kernel
theorem d_LLL_law_709 : decode code 709 = .ok (.aload_n 2, 1) := by decide +kernel
theorem d_LLL_law_710 : decode code 710 = .ok (.aload_n 0, 1) := by decide +kernel
theorem d_LLL_law_711 : decode code 711 = .ok (.iload_n 3, 1) := by decide +kernel
theorem d_LLL_law_712 : decode code 712 = .ok (.iconst 1, 1) := by decide +kernel
theorem d_LLL_law_713 : decode code 713 = .ok (.iadd, 1) := by decide +kernel
theorem d_LLL_law_714 : decode code 714 = .ok (.iaload, 1) := by decide +kernel
theorem d_LLL_law_715 : decode code 715 = .ok (.aload_n 0, 1) := by decide +kernel
theorem d_LLL_law_716 : decode code 716 = .ok (.iload_n 3, 1) := by decide +kernel
theorem d_LLL_law_717 : decode code 717 = .ok (.iconst 2, 1) := by decide +kernel
theorem d_LLL_law_718 : decode code 718 = .ok (.iadd, 1) := by decide +kernel
theorem d_LLL_law_719 : decode code 719 = .ok (.iaload, 1) := by decide +kernel
theorem d_LLL_law_720 : decode code 720 = .ok (.invokevirtual 92, 3) := by decide +kernel
theorem d_LLL_law_723 : decode code 723 = .ok (.if_icmp .eq 446, 3) := by decide +kernel
theorem d_LLL_law_726 : decode code 726 = .ok (.iconst 0, 1) := by decide +kernel
theorem d_LLL_law_727 : decode code 727 = .ok (.ireturn, 1) := by decide +kernel
theorem d_LLL_law_728 : decode code 728 = .ok (.aload_n 1, 1) := by decide +kernel
theorem d_LLL_law_729 : decode code 729 = .ok (.aload_n 0, 1) := by decide +kernel
theorem d_LLL_law_730 : decode code 730 = .ok (.iload_n 3, 1) := by decide +kernel
theorem d_LLL_law_731 : decode code 731 = .ok (.iconst 1, 1) := by decide +kernel
theorem d_LLL_law_732 : decode code 732 = .ok (.iadd, 1) := by decide +kernel
theorem d_LLL_law_733 : decode code 733 = .ok (.iaload, 1) := by decide +kernel
theorem d_LLL_law_734 : decode code 734 = .ok (.aload_n 0, 1) := by decide +kernel
theorem d_LLL_law_735 : decode code 735 = .ok (.iload_n 3, 1) := by decide +kernel
theorem d_LLL_law_736 : decode code 736 = .ok (.iconst 2, 1) := by decide +kernel
theorem d_LLL_law_737 : decode code 737 = .ok (.iadd, 1) := by decide +kernel
theorem d_LLL_law_738 : decode code 738 = .ok (.iaload, 1) := by decide +kernel
theorem d_LLL_law_739 : decode code 739 = .ok (.invokevirtual 93, 3) := by decide +kernel
theorem d_LLL_law_742 : decode code 742 = .ok (.aload_n 2, 1) := by decide +kernel
theorem d_LLL_law_743 : decode code 743 = .ok (.aload_n 0, 1) := by decide +kernel
theorem d_LLL_law_744 : decode code 744 = .ok (.iload_n 3, 1) := by decide +kernel
theorem d_LLL_law_745 : decode code 745 = .ok (.iconst 1, 1) := by decide +kernel
theorem d_LLL_law_746 : decode code 746 = .ok (.iadd, 1) := by decide +kernel
theorem d_LLL_law_747 : decode code 747 = .ok (.iaload, 1) := by decide +kernel
theorem d_LLL_law_748 : decode code 748 = .ok (.aload_n 0, 1) := by decide +kernel
theorem d_LLL_law_749 : decode code 749 = .ok (.iload_n 3, 1) := by decide +kernel
theorem d_LLL_law_750 : decode code 750 = .ok (.iconst 2, 1) := by decide +kernel
theorem d_LLL_law_751 : decode code 751 = .ok (.iadd, 1) := by decide +kernel
theorem d_LLL_law_752 : decode code 752 = .ok (.iaload, 1) := by decide +kernel
theorem d_LLL_law_753 : decode code 753 = .ok (.invokevirtual 96, 3) := by decide +kernel
theorem d_LLL_law_756 : decode code 756 = .ok (.if_icmp .eq 413, 3) := by decide +kernel
theorem d_LLL_law_759 : decode code 759 = .ok (.iconst 0, 1) := by decide +kernel
theorem d_LLL_law_760 : decode code 760 = .ok (.ireturn, 1) := by decide +kernel
theorem d_LLL_law_761 : decode code 761 = .ok (.aload_n 1, 1) := by decide +kernel
theorem d_LLL_law_762 : decode code 762 = .ok (.aload_n 0, 1) := by decide +kernel
theorem d_LLL_law_763 : decode code 763 = .ok (.iload_n 3, 1) := by decide +kernel
theorem d_LLL_law_764 : decode code 764 = .ok (.iconst 1, 1) := by decide +kernel
theorem d_LLL_law_765 : decode code 765 = .ok (.iadd, 1) := by decide +kernel
theorem d_LLL_law_766 : decode code 766 = .ok (.iaload, 1) := by decide +kernel
theorem d_LLL_law_767 : decode code 767 = .ok (.aload_n 0, 1) := by decide +kernel
theorem d_LLL_law_768 : decode code 768 = .ok (.iload_n 3, 1) := by decide +kernel
theorem d_LLL_law_769 : decode code 769 = .ok (.iconst 2, 1) := by decide +kernel
theorem d_LLL_law_770 : decode code 770 = .ok (.iadd, 1) := by decide +kernel
theorem d_LLL_law_771 : decode code 771 = .ok (.iaload, 1) := by decide +kernel
theorem d_LLL_law_772 : decode code 772 = .ok (.invokevirtual 97, 3) := by decide +kernel
theorem d_LLL_law_775 : decode code 775 = .ok (.aload_n 2, 1) := by decide +kernel
theorem d_LLL_law_776 : decode code 776 = .ok (.aload_n 0, 1) := by decide +kernel
theorem d_LLL_law_777 : decode code 777 = .ok (.iload_n 3, 1) := by decide +kernel
theorem d_LLL_law_778 : decode code 778 = .ok (.iconst 1, 1) := by decide +kernel
theorem d_LLL_law_779 : decode code 779 = .ok (.iadd, 1) := by decide +kernel
theorem d_LLL_law_780 : decode code 780 = .ok (.iaload, 1) := by decide +kernel
theorem d_LLL_law_781 : decode code 781 = .ok (.aload_n 0, 1) := by decide +kernel
theorem d_LLL_law_782 : decode code 782 = .ok (.iload_n 3, 1) := by decide +kernel
theorem d_LLL_law_783 : decode code 783 = .ok (.iconst 2, 1) := by decide +kernel
theorem d_LLL_law_784 : decode code 784 = .ok (.iadd, 1) := by decide +kernel
theorem d_LLL_law_785 : decode code 785 = .ok (.iaload, 1) := by decide +kernel
theorem d_LLL_law_786 : decode code 786 = .ok (.invokevirtual 100, 3) := by decide +kernel
theorem d_LLL_law_789 : decode code 789 = .ok (.if_icmp .eq 380, 3) := by decide +kernel
theorem d_LLL_law_792 : decode code 792 = .ok (.iconst 0, 1) := by decide +kernel
theorem d_LLL_law_793 : decode code 793 = .ok (.ireturn, 1) := by decide +kernel
theorem d_LLL_law_794 : decode code 794 = .ok (.aload_n 1, 1) := by decide +kernel
theorem d_LLL_law_795 : decode code 795 = .ok (.aload_n 0, 1) := by decide +kernel
theorem d_LLL_law_796 : decode code 796 = .ok (.iload_n 3, 1) := by decide +kernel
theorem d_LLL_law_797 : decode code 797 = .ok (.iconst 1, 1) := by decide +kernel
theorem d_LLL_law_798 : decode code 798 = .ok (.iadd, 1) := by decide +kernel
theorem d_LLL_law_799 : decode code 799 = .ok (.iaload, 1) := by decide +kernel
theorem d_LLL_law_800 : decode code 800 = .ok (.invokevirtual 101, 3) := by decide +kernel
theorem d_LLL_law_803 : decode code 803 = .ok (.aload_n 2, 1) := by decide +kernel
theorem d_LLL_law_804 : decode code 804 = .ok (.aload_n 0, 1) := by decide +kernel
theorem d_LLL_law_805 : decode code 805 = .ok (.iload_n 3, 1) := by decide +kernel
theorem d_LLL_law_806 : decode code 806 = .ok (.iconst 1, 1) := by decide +kernel
theorem d_LLL_law_807 : decode code 807 = .ok (.iadd, 1) := by decide +kernel
theorem d_LLL_law_808 : decode code 808 = .ok (.iaload, 1) := by decide +kernel
theorem d_LLL_law_809 : decode code 809 = .ok (.invokevirtual 104, 3) := by decide +kernel
theorem d_LLL_law_812 : decode code 812 = .ok (.if_icmp .eq 357, 3) := by decide +kernel
theorem d_LLL_law_815 : decode code 815 = .ok (.iconst 0, 1) := by decide +kernel
theorem d_LLL_law_816 : decode code 816 = .ok (.ireturn, 1) := by decide +kernel
theorem d_LLL_law_817 : decode code 817 = .ok (.aload_n 1, 1) := by decide +kernel
theorem d_LLL_law_818 : decode code 818 = .ok (.aload_n 0, 1) := by decide +kernel
theorem d_LLL_law_819 : decode code 819 = .ok (.iload_n 3, 1) := by decide +kernel
theorem d_LLL_law_820 : decode code 820 = .ok (.iconst 1, 1) := by decide +kernel
theorem d_LLL_law_821 : decode code 821 = .ok (.iadd, 1) := by decide +kernel
theorem d_LLL_law_822 : decode code 822 = .ok (.iaload, 1) := by decide +kernel
theorem d_LLL_law_823 : decode code 823 = .ok (.aload_n 0, 1) := by decide +kernel
theorem d_LLL_law_824 : decode code 824 = .ok (.iload_n 3, 1) := by decide +kernel
theorem d_LLL_law_825 : decode code 825 = .ok (.iconst 2, 1) := by decide +kernel
theorem d_LLL_law_826 : decode code 826 = .ok (.iadd, 1) := by decide +kernel
theorem d_LLL_law_827 : decode code 827 = .ok (.iaload, 1) := by decide +kernel
theorem d_LLL_law_828 : decode code 828 = .ok (.invokevirtual 105, 3) := by decide +kernel
theorem d_LLL_law_831 : decode code 831 = .ok (.aload_n 2, 1) := by decide +kernel
theorem d_LLL_law_832 : decode code 832 = .ok (.aload_n 0, 1) := by decide +kernel
theorem d_LLL_law_833 : decode code 833 = .ok (.iload_n 3, 1) := by decide +kernel
theorem d_LLL_law_834 : decode code 834 = .ok (.iconst 1, 1) := by decide +kernel
theorem d_LLL_law_835 : decode code 835 = .ok (.iadd, 1) := by decide +kernel
theorem d_LLL_law_836 : decode code 836 = .ok (.iaload, 1) := by decide +kernel
theorem d_LLL_law_837 : decode code 837 = .ok (.aload_n 0, 1) := by decide +kernel
theorem d_LLL_law_838 : decode code 838 = .ok (.iload_n 3, 1) := by decide +kernel
theorem d_LLL_law_839 : decode code 839 = .ok (.iconst 2, 1) := by decide +kernel
theorem d_LLL_law_840 : decode code 840 = .ok (.iadd, 1) := by decide +kernel
theorem d_LLL_law_841 : decode code 841 = .ok (.iaload, 1) := by decide +kernel
theorem d_LLL_law_842 : decode code 842 = .ok (.invokevirtual 108, 3) := by decide +kernel
theorem d_LLL_law_845 : decode code 845 = .ok (.if_icmp .eq 324, 3) := by decide +kernel
theorem d_LLL_law_848 : decode code 848 = .ok (.iconst 0, 1) := by decide +kernel
theorem d_LLL_law_849 : decode code 849 = .ok (.ireturn, 1) := by decide +kernel
theorem d_LLL_law_850 : decode code 850 = .ok (.aload_n 1, 1) := by decide +kernel
theorem d_LLL_law_851 : decode code 851 = .ok (.aload_n 0, 1) := by decide +kernel
theorem d_LLL_law_852 : decode code 852 = .ok (.iload_n 3, 1) := by decide +kernel
theorem d_LLL_law_853 : decode code 853 = .ok (.iconst 1, 1) := by decide +kernel
theorem d_LLL_law_854 : decode code 854 = .ok (.iadd, 1) := by decide +kernel
theorem d_LLL_law_855 : decode code 855 = .ok (.iaload, 1) := by decide +kernel
theorem d_LLL_law_856 : decode code 856 = .ok (.invokevirtual 109, 3) := by decide +kernel
theorem d_LLL_law_859 : decode code 859 = .ok (.aload_n 2, 1) := by decide +kernel
theorem d_LLL_law_860 : decode code 860 = .ok (.aload_n 0, 1) := by decide +kernel
theorem d_LLL_law_861 : decode code 861 = .ok (.iload_n 3, 1) := by decide +kernel
theorem d_LLL_law_862 : decode code 862 = .ok (.iconst 1, 1) := by decide +kernel
theorem d_LLL_law_863 : decode code 863 = .ok (.iadd, 1) := by decide +kernel
theorem d_LLL_law_864 : decode code 864 = .ok (.iaload, 1) := by decide +kernel
theorem d_LLL_law_865 : decode code 865 = .ok (.invokevirtual 112, 3) := by decide +kernel
theorem d_LLL_law_868 : decode code 868 = .ok (.if_icmp .eq 301, 3) := by decide +kernel
theorem d_LLL_law_871 : decode code 871 = .ok (.iconst 0, 1) := by decide +kernel
theorem d_LLL_law_872 : decode code 872 = .ok (.ireturn, 1) := by decide +kernel
theorem d_LLL_law_873 : decode code 873 = .ok (.aload_n 1, 1) := by decide +kernel
theorem d_LLL_law_874 : decode code 874 = .ok (.aload_n 0, 1) := by decide +kernel
theorem d_LLL_law_875 : decode code 875 = .ok (.iload_n 3, 1) := by decide +kernel
theorem d_LLL_law_876 : decode code 876 = .ok (.iconst 1, 1) := by decide +kernel
theorem d_LLL_law_877 : decode code 877 = .ok (.iadd, 1) := by decide +kernel
theorem d_LLL_law_878 : decode code 878 = .ok (.iaload, 1) := by decide +kernel
theorem d_LLL_law_879 : decode code 879 = .ok (.invokevirtual 113, 3) := by decide +kernel
theorem d_LLL_law_882 : decode code 882 = .ok (.aload_n 2, 1) := by decide +kernel
theorem d_LLL_law_883 : decode code 883 = .ok (.aload_n 0, 1) := by decide +kernel
theorem d_LLL_law_884 : decode code 884 = .ok (.iload_n 3, 1) := by decide +kernel
theorem d_LLL_law_885 : decode code 885 = .ok (.iconst 1, 1) := by decide +kernel
theorem d_LLL_law_886 : decode code 886 = .ok (.iadd, 1) := by decide +kernel
theorem d_LLL_law_887 : decode code 887 = .ok (.iaload, 1) := by decide +kernel
theorem d_LLL_law_888 : decode code 888 = .ok (.invokevirtual 116, 3) := by decide +kernel
theorem d_LLL_law_891 : decode code 891 = .ok (.if_icmp .eq 278, 3) := by decide +kernel
theorem d_LLL_law_894 : decode code 894 = .ok (.iconst 0, 1) := by decide +kernel
theorem d_LLL_law_895 : decode code 895 = .ok (.ireturn, 1) := by decide +kernel
theorem d_LLL_law_896 : decode code 896 = .ok (.aload_n 1, 1) := by decide +kernel
theorem d_LLL_law_897 : decode code 897 = .ok (.aload_n 0, 1) := by decide +kernel
theorem d_LLL_law_898 : decode code 898 = .ok (.iload_n 3, 1) := by decide +kernel
theorem d_LLL_law_899 : decode code 899 = .ok (.iconst 1, 1) := by decide +kernel
theorem d_LLL_law_900 : decode code 900 = .ok (.iadd, 1) := by decide +kernel
theorem d_LLL_law_901 : decode code 901 = .ok (.iaload, 1) := by decide +kernel
theorem d_LLL_law_902 : decode code 902 = .ok (.aload_n 0, 1) := by decide +kernel
theorem d_LLL_law_903 : decode code 903 = .ok (.iload_n 3, 1) := by decide +kernel
theorem d_LLL_law_904 : decode code 904 = .ok (.iconst 2, 1) := by decide +kernel
theorem d_LLL_law_905 : decode code 905 = .ok (.iadd, 1) := by decide +kernel
theorem d_LLL_law_906 : decode code 906 = .ok (.iaload, 1) := by decide +kernel
theorem d_LLL_law_907 : decode code 907 = .ok (.invokevirtual 117, 3) := by decide +kernel
theorem d_LLL_law_910 : decode code 910 = .ok (.aload_n 2, 1) := by decide +kernel
theorem d_LLL_law_911 : decode code 911 = .ok (.aload_n 0, 1) := by decide +kernel
theorem d_LLL_law_912 : decode code 912 = .ok (.iload_n 3, 1) := by decide +kernel
theorem d_LLL_law_913 : decode code 913 = .ok (.iconst 1, 1) := by decide +kernel
theorem d_LLL_law_914 : decode code 914 = .ok (.iadd, 1) := by decide +kernel
theorem d_LLL_law_915 : decode code 915 = .ok (.iaload, 1) := by decide +kernel
theorem d_LLL_law_916 : decode code 916 = .ok (.aload_n 0, 1) := by decide +kernel
theorem d_LLL_law_917 : decode code 917 = .ok (.iload_n 3, 1) := by decide +kernel
theorem d_LLL_law_918 : decode code 918 = .ok (.iconst 2, 1) := by decide +kernel
theorem d_LLL_law_919 : decode code 919 = .ok (.iadd, 1) := by decide +kernel
theorem d_LLL_law_920 : decode code 920 = .ok (.iaload, 1) := by decide +kernel
theorem d_LLL_law_921 : decode code 921 = .ok (.invokevirtual 120, 3) := by decide +kernel
theorem d_LLL_law_924 : decode code 924 = .ok (.if_icmp .eq 245, 3) := by decide +kernel
theorem d_LLL_law_927 : decode code 927 = .ok (.iconst 0, 1) := by decide +kernel
theorem d_LLL_law_928 : decode code 928 = .ok (.ireturn, 1) := by decide +kernel
theorem d_LLL_law_929 : decode code 929 = .ok (.aload_n 1, 1) := by decide +kernel
theorem d_LLL_law_930 : decode code 930 = .ok (.invokevirtual 121, 3) := by decide +kernel
theorem d_LLL_law_933 : decode code 933 = .ok (.aload_n 2, 1) := by decide +kernel
theorem d_LLL_law_934 : decode code 934 = .ok (.invokevirtual 124, 3) := by decide +kernel
theorem d_LLL_law_937 : decode code 937 = .ok (.if_icmp .eq 232, 3) := by decide +kernel
theorem d_LLL_law_940 : decode code 940 = .ok (.iconst 0, 1) := by decide +kernel
theorem d_LLL_law_941 : decode code 941 = .ok (.ireturn, 1) := by decide +kernel
theorem d_LLL_law_942 : decode code 942 = .ok (.aload_n 1, 1) := by decide +kernel
theorem d_LLL_law_943 : decode code 943 = .ok (.aload_n 0, 1) := by decide +kernel
theorem d_LLL_law_944 : decode code 944 = .ok (.iload_n 3, 1) := by decide +kernel
theorem d_LLL_law_945 : decode code 945 = .ok (.iconst 1, 1) := by decide +kernel
theorem d_LLL_law_946 : decode code 946 = .ok (.iadd, 1) := by decide +kernel
theorem d_LLL_law_947 : decode code 947 = .ok (.iaload, 1) := by decide +kernel
theorem d_LLL_law_948 : decode code 948 = .ok (.invokevirtual 125, 3) := by decide +kernel
theorem d_LLL_law_951 : decode code 951 = .ok (.aload_n 2, 1) := by decide +kernel
theorem d_LLL_law_952 : decode code 952 = .ok (.aload_n 0, 1) := by decide +kernel
theorem d_LLL_law_953 : decode code 953 = .ok (.iload_n 3, 1) := by decide +kernel
theorem d_LLL_law_954 : decode code 954 = .ok (.iconst 1, 1) := by decide +kernel
theorem d_LLL_law_955 : decode code 955 = .ok (.iadd, 1) := by decide +kernel
theorem d_LLL_law_956 : decode code 956 = .ok (.iaload, 1) := by decide +kernel
theorem d_LLL_law_957 : decode code 957 = .ok (.invokevirtual 128, 3) := by decide +kernel
theorem d_LLL_law_960 : decode code 960 = .ok (.if_icmp .eq 209, 3) := by decide +kernel
theorem d_LLL_law_963 : decode code 963 = .ok (.iconst 0, 1) := by decide +kernel
theorem d_LLL_law_964 : decode code 964 = .ok (.ireturn, 1) := by decide +kernel
theorem d_LLL_law_965 : decode code 965 = .ok (.aload_n 1, 1) := by decide +kernel
theorem d_LLL_law_966 : decode code 966 = .ok (.aload_n 0, 1) := by decide +kernel
theorem d_LLL_law_967 : decode code 967 = .ok (.iload_n 3, 1) := by decide +kernel
theorem d_LLL_law_968 : decode code 968 = .ok (.iconst 1, 1) := by decide +kernel
theorem d_LLL_law_969 : decode code 969 = .ok (.iadd, 1) := by decide +kernel
theorem d_LLL_law_970 : decode code 970 = .ok (.iaload, 1) := by decide +kernel
theorem d_LLL_law_971 : decode code 971 = .ok (.aload_n 0, 1) := by decide +kernel
theorem d_LLL_law_972 : decode code 972 = .ok (.iload_n 3, 1) := by decide +kernel
theorem d_LLL_law_973 : decode code 973 = .ok (.iconst 2, 1) := by decide +kernel
theorem d_LLL_law_974 : decode code 974 = .ok (.iadd, 1) := by decide +kernel
theorem d_LLL_law_975 : decode code 975 = .ok (.iaload, 1) := by decide +kernel
theorem d_LLL_law_976 : decode code 976 = .ok (.aload_n 0, 1) := by decide +kernel
theorem d_LLL_law_977 : decode code 977 = .ok (.iload_n 3, 1) := by decide +kernel
theorem d_LLL_law_978 : decode code 978 = .ok (.iconst 3, 1) := by decide +kernel
theorem d_LLL_law_979 : decode code 979 = .ok (.iadd, 1) := by decide +kernel
theorem d_LLL_law_980 : decode code 980 = .ok (.iaload, 1) := by decide +kernel
theorem d_LLL_law_981 : decode code 981 = .ok (.aload_n 0, 1) := by decide +kernel
theorem d_LLL_law_982 : decode code 982 = .ok (.iload_n 3, 1) := by decide +kernel
theorem d_LLL_law_983 : decode code 983 = .ok (.iconst 4, 1) := by decide +kernel
theorem d_LLL_law_984 : decode code 984 = .ok (.iadd, 1) := by decide +kernel
theorem d_LLL_law_985 : decode code 985 = .ok (.iaload, 1) := by decide +kernel
theorem d_LLL_law_986 : decode code 986 = .ok (.invokevirtual 129, 3) := by decide +kernel
theorem d_LLL_law_989 : decode code 989 = .ok (.aload_n 2, 1) := by decide +kernel
theorem d_LLL_law_990 : decode code 990 = .ok (.aload_n 0, 1) := by decide +kernel
theorem d_LLL_law_991 : decode code 991 = .ok (.iload_n 3, 1) := by decide +kernel
theorem d_LLL_law_992 : decode code 992 = .ok (.iconst 1, 1) := by decide +kernel
theorem d_LLL_law_993 : decode code 993 = .ok (.iadd, 1) := by decide +kernel
theorem d_LLL_law_994 : decode code 994 = .ok (.iaload, 1) := by decide +kernel
theorem d_LLL_law_995 : decode code 995 = .ok (.aload_n 0, 1) := by decide +kernel
theorem d_LLL_law_996 : decode code 996 = .ok (.iload_n 3, 1) := by decide +kernel
theorem d_LLL_law_997 : decode code 997 = .ok (.iconst 2, 1) := by decide +kernel
theorem d_LLL_law_998 : decode code 998 = .ok (.iadd, 1) := by decide +kernel
theorem d_LLL_law_999 : decode code 999 = .ok (.iaload, 1) := by decide +kernel
theorem d_LLL_law_1000 : decode code 1000 = .ok (.aload_n 0, 1) := by decide +kernel
theorem d_LLL_law_1001 : decode code 1001 = .ok (.iload_n 3, 1) := by decide +kernel
theorem d_LLL_law_1002 : decode code 1002 = .ok (.iconst 3, 1) := by decide +kernel
theorem d_LLL_law_1003 : decode code 1003 = .ok (.iadd, 1) := by decide +kernel
theorem d_LLL_law_1004 : decode code 1004 = .ok (.iaload, 1) := by decide +kernel
theorem d_LLL_law_1005 : decode code 1005 = .ok (.aload_n 0, 1) := by decide +kernel
theorem d_LLL_law_1006 : decode code 1006 = .ok (.iload_n 3, 1) := by decide +kernel
theorem d_LLL_law_1007 : decode code 1007 = .ok (.iconst 4, 1) := by decide +kernel
theorem d_LLL_law_1008 : decode code 1008 = .ok (.iadd, 1) := by decide +kernel
theorem d_LLL_law_1009 : decode code 1009 = .ok (.iaload, 1) := by decide +kernel
theorem d_LLL_law_1010 : decode code 1010 = .ok (.invokevirtual 133, 3) := by decide +kernel
theorem d_LLL_law_1013 : decode code 1013 = .ok (.if_icmp .eq 156, 3) := by decide +kernel
theorem d_LLL_law_1016 : decode code 1016 = .ok (.iconst 0, 1) := by decide +kernel
theorem d_LLL_law_1017 : decode code 1017 = .ok (.ireturn, 1) := by decide +kernel
theorem d_LLL_law_1018 : decode code 1018 = .ok (.aload_n 1, 1) := by decide +kernel
theorem d_LLL_law_1019 : decode code 1019 = .ok (.aload_n 0, 1) := by decide +kernel
theorem d_LLL_law_1020 : decode code 1020 = .ok (.iload_n 3, 1) := by decide +kernel
theorem d_LLL_law_1021 : decode code 1021 = .ok (.iconst 1, 1) := by decide +kernel
theorem d_LLL_law_1022 : decode code 1022 = .ok (.iadd, 1) := by decide +kernel
theorem d_LLL_law_1023 : decode code 1023 = .ok (.iaload, 1) := by decide +kernel
theorem d_LLL_law_1024 : decode code 1024 = .ok (.invokevirtual 134, 3) := by decide +kernel
theorem d_LLL_law_1027 : decode code 1027 = .ok (.aload_n 2, 1) := by decide +kernel
theorem d_LLL_law_1028 : decode code 1028 = .ok (.aload_n 0, 1) := by decide +kernel
theorem d_LLL_law_1029 : decode code 1029 = .ok (.iload_n 3, 1) := by decide +kernel
theorem d_LLL_law_1030 : decode code 1030 = .ok (.iconst 1, 1) := by decide +kernel
theorem d_LLL_law_1031 : decode code 1031 = .ok (.iadd, 1) := by decide +kernel
theorem d_LLL_law_1032 : decode code 1032 = .ok (.iaload, 1) := by decide +kernel
theorem d_LLL_law_1033 : decode code 1033 = .ok (.invokevirtual 137, 3) := by decide +kernel
theorem d_LLL_law_1036 : decode code 1036 = .ok (.if_icmp .eq 133, 3) := by decide +kernel
theorem d_LLL_law_1039 : decode code 1039 = .ok (.iconst 0, 1) := by decide +kernel
theorem d_LLL_law_1040 : decode code 1040 = .ok (.ireturn, 1) := by decide +kernel
theorem d_LLL_law_1041 : decode code 1041 = .ok (.aload_n 1, 1) := by decide +kernel
theorem d_LLL_law_1042 : decode code 1042 = .ok (.aload_n 0, 1) := by decide +kernel
theorem d_LLL_law_1043 : decode code 1043 = .ok (.iload_n 3, 1) := by decide +kernel
theorem d_LLL_law_1044 : decode code 1044 = .ok (.iconst 1, 1) := by decide +kernel
theorem d_LLL_law_1045 : decode code 1045 = .ok (.iadd, 1) := by decide +kernel
theorem d_LLL_law_1046 : decode code 1046 = .ok (.iaload, 1) := by decide +kernel
theorem d_LLL_law_1047 : decode code 1047 = .ok (.invokevirtual 138, 3) := by decide +kernel
theorem d_LLL_law_1050 : decode code 1050 = .ok (.aload_n 2, 1) := by decide +kernel
theorem d_LLL_law_1051 : decode code 1051 = .ok (.aload_n 0, 1) := by decide +kernel
theorem d_LLL_law_1052 : decode code 1052 = .ok (.iload_n 3, 1) := by decide +kernel
theorem d_LLL_law_1053 : decode code 1053 = .ok (.iconst 1, 1) := by decide +kernel
theorem d_LLL_law_1054 : decode code 1054 = .ok (.iadd, 1) := by decide +kernel
theorem d_LLL_law_1055 : decode code 1055 = .ok (.iaload, 1) := by decide +kernel
theorem d_LLL_law_1056 : decode code 1056 = .ok (.invokevirtual 141, 3) := by decide +kernel
theorem d_LLL_law_1059 : decode code 1059 = .ok (.if_icmp .eq 110, 3) := by decide +kernel
theorem d_LLL_law_1062 : decode code 1062 = .ok (.iconst 0, 1) := by decide +kernel
theorem d_LLL_law_1063 : decode code 1063 = .ok (.ireturn, 1) := by decide +kernel
theorem d_LLL_law_1064 : decode code 1064 = .ok (.aload_n 1, 1) := by decide +kernel
theorem d_LLL_law_1065 : decode code 1065 = .ok (.aload_n 0, 1) := by decide +kernel
theorem d_LLL_law_1066 : decode code 1066 = .ok (.iload_n 3, 1) := by decide +kernel
theorem d_LLL_law_1067 : decode code 1067 = .ok (.iconst 1, 1) := by decide +kernel
theorem d_LLL_law_1068 : decode code 1068 = .ok (.iadd, 1) := by decide +kernel
theorem d_LLL_law_1069 : decode code 1069 = .ok (.iaload, 1) := by decide +kernel
theorem d_LLL_law_1070 : decode code 1070 = .ok (.invokevirtual 142, 3) := by decide +kernel
theorem d_LLL_law_1073 : decode code 1073 = .ok (.aload_n 2, 1) := by decide +kernel
theorem d_LLL_law_1074 : decode code 1074 = .ok (.aload_n 0, 1) := by decide +kernel
theorem d_LLL_law_1075 : decode code 1075 = .ok (.iload_n 3, 1) := by decide +kernel
theorem d_LLL_law_1076 : decode code 1076 = .ok (.iconst 1, 1) := by decide +kernel
theorem d_LLL_law_1077 : decode code 1077 = .ok (.iadd, 1) := by decide +kernel
theorem d_LLL_law_1078 : decode code 1078 = .ok (.iaload, 1) := by decide +kernel
theorem d_LLL_law_1079 : decode code 1079 = .ok (.invokevirtual 145, 3) := by decide +kernel
theorem d_LLL_law_1082 : decode code 1082 = .ok (.if_icmp .eq 87, 3) := by decide +kernel
theorem d_LLL_law_1085 : decode code 1085 = .ok (.iconst 0, 1) := by decide +kernel
theorem d_LLL_law_1086 : decode code 1086 = .ok (.ireturn, 1) := by decide +kernel
theorem d_LLL_law_1087 : decode code 1087 = .ok (.aload_n 1, 1) := by decide +kernel
theorem d_LLL_law_1088 : decode code 1088 = .ok (.aload_n 0, 1) := by decide +kernel
theorem d_LLL_law_1089 : decode code 1089 = .ok (.iload_n 3, 1) := by decide +kernel
theorem d_LLL_law_1090 : decode code 1090 = .ok (.iconst 1, 1) := by decide +kernel
theorem d_LLL_law_1091 : decode code 1091 = .ok (.iadd, 1) := by decide +kernel
theorem d_LLL_law_1092 : decode code 1092 = .ok (.iaload, 1) := by decide +kernel
theorem d_LLL_law_1093 : decode code 1093 = .ok (.aload_n 0, 1) := by decide +kernel
theorem d_LLL_law_1094 : decode code 1094 = .ok (.iload_n 3, 1) := by decide +kernel
theorem d_LLL_law_1095 : decode code 1095 = .ok (.iconst 2, 1) := by decide +kernel
theorem d_LLL_law_1096 : decode code 1096 = .ok (.iadd, 1) := by decide +kernel
theorem d_LLL_law_1097 : decode code 1097 = .ok (.iaload, 1) := by decide +kernel
theorem d_LLL_law_1098 : decode code 1098 = .ok (.invokevirtual 146, 3) := by decide +kernel
theorem d_LLL_law_1101 : decode code 1101 = .ok (.aload_n 2, 1) := by decide +kernel
theorem d_LLL_law_1102 : decode code 1102 = .ok (.aload_n 0, 1) := by decide +kernel
theorem d_LLL_law_1103 : decode code 1103 = .ok (.iload_n 3, 1) := by decide +kernel
theorem d_LLL_law_1104 : decode code 1104 = .ok (.iconst 1, 1) := by decide +kernel
theorem d_LLL_law_1105 : decode code 1105 = .ok (.iadd, 1) := by decide +kernel
theorem d_LLL_law_1106 : decode code 1106 = .ok (.iaload, 1) := by decide +kernel
theorem d_LLL_law_1107 : decode code 1107 = .ok (.aload_n 0, 1) := by decide +kernel
theorem d_LLL_law_1108 : decode code 1108 = .ok (.iload_n 3, 1) := by decide +kernel
theorem d_LLL_law_1109 : decode code 1109 = .ok (.iconst 2, 1) := by decide +kernel
theorem d_LLL_law_1110 : decode code 1110 = .ok (.iadd, 1) := by decide +kernel
theorem d_LLL_law_1111 : decode code 1111 = .ok (.iaload, 1) := by decide +kernel
theorem d_LLL_law_1112 : decode code 1112 = .ok (.invokevirtual 149, 3) := by decide +kernel
theorem d_LLL_law_1115 : decode code 1115 = .ok (.if_icmp .eq 54, 3) := by decide +kernel
theorem d_LLL_law_1118 : decode code 1118 = .ok (.iconst 0, 1) := by decide +kernel
theorem d_LLL_law_1119 : decode code 1119 = .ok (.ireturn, 1) := by decide +kernel
theorem d_LLL_law_1120 : decode code 1120 = .ok (.aload_n 1, 1) := by decide +kernel
theorem d_LLL_law_1121 : decode code 1121 = .ok (.invokevirtual 150, 3) := by decide +kernel
theorem d_LLL_law_1124 : decode code 1124 = .ok (.aload_n 2, 1) := by decide +kernel
theorem d_LLL_law_1125 : decode code 1125 = .ok (.invokevirtual 153, 3) := by decide +kernel
theorem d_LLL_law_1128 : decode code 1128 = .ok (.if_icmp .eq 41, 3) := by decide +kernel
theorem d_LLL_law_1131 : decode code 1131 = .ok (.iconst 0, 1) := by decide +kernel
theorem d_LLL_law_1132 : decode code 1132 = .ok (.ireturn, 1) := by decide +kernel
theorem d_LLL_law_1133 : decode code 1133 = .ok (.aload_n 1, 1) := by decide +kernel
theorem d_LLL_law_1134 : decode code 1134 = .ok (.invokevirtual 154, 3) := by decide +kernel
theorem d_LLL_law_1137 : decode code 1137 = .ok (.aload_n 2, 1) := by decide +kernel
theorem d_LLL_law_1138 : decode code 1138 = .ok (.invokevirtual 157, 3) := by decide +kernel
theorem d_LLL_law_1141 : decode code 1141 = .ok (.if_icmp .eq 28, 3) := by decide +kernel
theorem d_LLL_law_1144 : decode code 1144 = .ok (.iconst 0, 1) := by decide +kernel
theorem d_LLL_law_1145 : decode code 1145 = .ok (.ireturn, 1) := by decide +kernel
theorem d_LLL_law_1146 : decode code 1146 = .ok (.aload_n 1, 1) := by decide +kernel
theorem d_LLL_law_1147 : decode code 1147 = .ok (.aload_n 0, 1) := by decide +kernel
theorem d_LLL_law_1148 : decode code 1148 = .ok (.iload_n 3, 1) := by decide +kernel
theorem d_LLL_law_1149 : decode code 1149 = .ok (.iconst 1, 1) := by decide +kernel
theorem d_LLL_law_1150 : decode code 1150 = .ok (.iadd, 1) := by decide +kernel
theorem d_LLL_law_1151 : decode code 1151 = .ok (.iaload, 1) := by decide +kernel
theorem d_LLL_law_1152 : decode code 1152 = .ok (.invokevirtual 158, 3) := by decide +kernel
theorem d_LLL_law_1155 : decode code 1155 = .ok (.aload_n 2, 1) := by decide +kernel
theorem d_LLL_law_1156 : decode code 1156 = .ok (.aload_n 0, 1) := by decide +kernel
theorem d_LLL_law_1157 : decode code 1157 = .ok (.iload_n 3, 1) := by decide +kernel
theorem d_LLL_law_1158 : decode code 1158 = .ok (.iconst 1, 1) := by decide +kernel
theorem d_LLL_law_1159 : decode code 1159 = .ok (.iadd, 1) := by decide +kernel
theorem d_LLL_law_1160 : decode code 1160 = .ok (.iaload, 1) := by decide +kernel
theorem d_LLL_law_1161 : decode code 1161 = .ok (.invokevirtual 161, 3) := by decide +kernel
theorem d_LLL_law_1164 : decode code 1164 = .ok (.if_icmp .eq 5, 3) := by decide +kernel
theorem d_LLL_law_1167 : decode code 1167 = .ok (.iconst 0, 1) := by decide +kernel
theorem d_LLL_law_1168 : decode code 1168 = .ok (.ireturn, 1) := by decide +kernel
theorem d_LLL_law_1169 : decode code 1169 = .ok (.iinc 3 5, 3) := by decide +kernel
theorem d_LLL_law_1172 : decode code 1172 = .ok (.goto (-1154), 3) := by decide +kernel
theorem d_LLL_law_1175 : decode code 1175 = .ok (.iconst 1, 1) := by decide +kernel
theorem d_LLL_law_1176 : decode code 1176 = .ok (.ireturn, 1) := by decide +kernel
