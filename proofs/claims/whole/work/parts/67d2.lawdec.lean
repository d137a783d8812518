theorem d_Law_law_669 : decode code 669 = .ok (.aload_n 0, 1) := by decide +kernel
theorem d_Law_law_670 : decode code 670 = .ok (.iload 4, 2) := by decide +kernel
theorem d_Law_law_672 : decode code 672 = .ok (.iconst 5, 1) := by decide +kernel
theorem d_Law_law_673 : decode code 673 = .ok (.iadd, 1) := by decide +kernel
theorem d_Law_law_674 : decode code 674 = .ok (.iaload, 1) := by decide +kernel
theorem d_Law_law_675 : decode code 675 = .ok (.aload_n 3, 1) := by decide +kernel
theorem d_Law_law_676 : decode code 676 = .ok (.invokestatic 89, 3) := by decide +kernel
theorem d_Law_law_679 : decode code 679 = .ok (.istore 5, 2) := by decide +kernel
theorem d_Law_law_681 : decode code 681 = .ok (.aload_n 2, 1) := by decide +kernel
theorem d_Law_law_682 : decode code 682 = .ok (.aload_n 0, 1) := by decide +kernel
theorem d_Law_law_683 : decode code 683 = .ok (.iload 4, 2) := by decide +kernel
theorem d_Law_law_685 : decode code 685 = .ok (.iconst 1, 1) := by decide +kernel
theorem d_Law_law_686 : decode code 686 = .ok (.iadd, 1) := by decide +kernel
theorem d_Law_law_687 : decode code 687 = .ok (.iaload, 1) := by decide +kernel
theorem d_Law_law_688 : decode code 688 = .ok (.i2l, 1) := by decide +kernel
theorem d_Law_law_689 : decode code 689 = .ok (.bipush 32, 2) := by decide +kernel
theorem d_Law_law_691 : decode code 691 = .ok (.lshl, 1) := by decide +kernel
theorem d_Law_law_692 : decode code 692 = .ok (.aload_n 0, 1) := by decide +kernel
theorem d_Law_law_693 : decode code 693 = .ok (.iload 4, 2) := by decide +kernel
theorem d_Law_law_695 : decode code 695 = .ok (.iconst 2, 1) := by decide +kernel
theorem d_Law_law_696 : decode code 696 = .ok (.iadd, 1) := by decide +kernel
theorem d_Law_law_697 : decode code 697 = .ok (.iaload, 1) := by decide +kernel
theorem d_Law_law_698 : decode code 698 = .ok (.i2l, 1) := by decide +kernel
theorem d_Law_law_699 : decode code 699 = .ok (.ldc2_w 47, 3) := by decide +kernel
theorem d_Law_law_702 : decode code 702 = .ok (.land, 1) := by decide +kernel
theorem d_Law_law_703 : decode code 703 = .ok (.lor, 1) := by decide +kernel
theorem d_Law_law_704 : decode code 704 = .ok (.aload_n 0, 1) := by decide +kernel
theorem d_Law_law_705 : decode code 705 = .ok (.iload 4, 2) := by decide +kernel
theorem d_Law_law_707 : decode code 707 = .ok (.iconst 3, 1) := by decide +kernel
theorem d_Law_law_708 : decode code 708 = .ok (.iadd, 1) := by decide +kernel
theorem d_Law_law_709 : decode code 709 = .ok (.iaload, 1) := by decide +kernel
theorem d_Law_law_710 : decode code 710 = .ok (.i2l, 1) := by decide +kernel
theorem d_Law_law_711 : decode code 711 = .ok (.bipush 32, 2) := by decide +kernel
theorem d_Law_law_713 : decode code 713 = .ok (.lshl, 1) := by decide +kernel
theorem d_Law_law_714 : decode code 714 = .ok (.aload_n 0, 1) := by decide +kernel
theorem d_Law_law_715 : decode code 715 = .ok (.iload 4, 2) := by decide +kernel
theorem d_Law_law_717 : decode code 717 = .ok (.iconst 4, 1) := by decide +kernel
theorem d_Law_law_718 : decode code 718 = .ok (.iadd, 1) := by decide +kernel
theorem d_Law_law_719 : decode code 719 = .ok (.iaload, 1) := by decide +kernel
theorem d_Law_law_720 : decode code 720 = .ok (.i2l, 1) := by decide +kernel
theorem d_Law_law_721 : decode code 721 = .ok (.ldc2_w 47, 3) := by decide +kernel
theorem d_Law_law_724 : decode code 724 = .ok (.land, 1) := by decide +kernel
theorem d_Law_law_725 : decode code 725 = .ok (.lor, 1) := by decide +kernel
theorem d_Law_law_726 : decode code 726 = .ok (.aload_n 0, 1) := by decide +kernel
theorem d_Law_law_727 : decode code 727 = .ok (.iload 4, 2) := by decide +kernel
theorem d_Law_law_729 : decode code 729 = .ok (.iconst 5, 1) := by decide +kernel
theorem d_Law_law_730 : decode code 730 = .ok (.iadd, 1) := by decide +kernel
theorem d_Law_law_731 : decode code 731 = .ok (.iaload, 1) := by decide +kernel
theorem d_Law_law_732 : decode code 732 = .ok (.invokevirtual 92, 3) := by decide +kernel
theorem d_Law_law_735 : decode code 735 = .ok (.istore 6, 2) := by decide +kernel
theorem d_Law_law_737 : decode code 737 = .ok (.aload_n 2, 1) := by decide +kernel
theorem d_Law_law_738 : decode code 738 = .ok (.invokevirtual 55, 3) := by decide +kernel
theorem d_Law_law_741 : decode code 741 = .ok (.iload 5, 2) := by decide +kernel
theorem d_Law_law_743 : decode code 743 = .ok (.if_icmp .eq 5, 3) := by decide +kernel
theorem d_Law_law_746 : decode code 746 = .ok (.iconst 0, 1) := by decide +kernel
theorem d_Law_law_747 : decode code 747 = .ok (.ireturn, 1) := by decide +kernel
theorem d_Law_law_748 : decode code 748 = .ok (.iload 5, 2) := by decide +kernel
theorem d_Law_law_750 : decode code 750 = .ok (.ifCond .ne 15, 3) := by decide +kernel
theorem d_Law_law_753 : decode code 753 = .ok (.aload_n 3, 1) := by decide +kernel
theorem d_Law_law_754 : decode code 754 = .ok (.iconst 0, 1) := by decide +kernel
theorem d_Law_law_755 : decode code 755 = .ok (.laload, 1) := by decide +kernel
theorem d_Law_law_756 : decode code 756 = .ok (.iload 6, 2) := by decide +kernel
theorem d_Law_law_758 : decode code 758 = .ok (.i2l, 1) := by decide +kernel
theorem d_Law_law_759 : decode code 759 = .ok (.lcmp, 1) := by decide +kernel
theorem d_Law_law_760 : decode code 760 = .ok (.ifCond .eq 5, 3) := by decide +kernel
theorem d_Law_law_763 : decode code 763 = .ok (.iconst 0, 1) := by decide +kernel
theorem d_Law_law_764 : decode code 764 = .ok (.ireturn, 1) := by decide +kernel
theorem d_Law_law_765 : decode code 765 = .ok (.goto 169, 3) := by decide +kernel
theorem d_Law_law_768 : decode code 768 = .ok (.aload_n 1, 1) := by decide +kernel
theorem d_Law_law_769 : decode code 769 = .ok (.aload_n 0, 1) := by decide +kernel
theorem d_Law_law_770 : decode code 770 = .ok (.iload 4, 2) := by decide +kernel
theorem d_Law_law_772 : decode code 772 = .ok (.iconst 1, 1) := by decide +kernel
theorem d_Law_law_773 : decode code 773 = .ok (.iadd, 1) := by decide +kernel
theorem d_Law_law_774 : decode code 774 = .ok (.iaload, 1) := by decide +kernel
theorem d_Law_law_775 : decode code 775 = .ok (.aload_n 0, 1) := by decide +kernel
theorem d_Law_law_776 : decode code 776 = .ok (.iload 4, 2) := by decide +kernel
theorem d_Law_law_778 : decode code 778 = .ok (.iconst 2, 1) := by decide +kernel
theorem d_Law_law_779 : decode code 779 = .ok (.iadd, 1) := by decide +kernel
theorem d_Law_law_780 : decode code 780 = .ok (.iaload, 1) := by decide +kernel
theorem d_Law_law_781 : decode code 781 = .ok (.aload_n 3, 1) := by decide +kernel
theorem d_Law_law_782 : decode code 782 = .ok (.invokestatic 93, 3) := by decide +kernel
theorem d_Law_law_785 : decode code 785 = .ok (.istore 5, 2) := by decide +kernel
theorem d_Law_law_787 : decode code 787 = .ok (.aload_n 2, 1) := by decide +kernel
theorem d_Law_law_788 : decode code 788 = .ok (.aload_n 0, 1) := by decide +kernel
theorem d_Law_law_789 : decode code 789 = .ok (.iload 4, 2) := by decide +kernel
theorem d_Law_law_791 : decode code 791 = .ok (.iconst 1, 1) := by decide +kernel
theorem d_Law_law_792 : decode code 792 = .ok (.iadd, 1) := by decide +kernel
theorem d_Law_law_793 : decode code 793 = .ok (.iaload, 1) := by decide +kernel
theorem d_Law_law_794 : decode code 794 = .ok (.aload_n 0, 1) := by decide +kernel
theorem d_Law_law_795 : decode code 795 = .ok (.iload 4, 2) := by decide +kernel
theorem d_Law_law_797 : decode code 797 = .ok (.iconst 2, 1) := by decide +kernel
theorem d_Law_law_798 : decode code 798 = .ok (.iadd, 1) := by decide +kernel
theorem d_Law_law_799 : decode code 799 = .ok (.iaload, 1) := by decide +kernel
theorem d_Law_law_800 : decode code 800 = .ok (.invokevirtual 95, 3) := by decide +kernel
theorem d_Law_law_803 : decode code 803 = .ok (.istore 6, 2) := by decide +kernel
theorem d_Law_law_805 : decode code 805 = .ok (.aload_n 2, 1) := by decide +kernel
theorem d_Law_law_806 : decode code 806 = .ok (.invokevirtual 55, 3) := by decide +kernel
theorem d_Law_law_809 : decode code 809 = .ok (.iload 5, 2) := by decide +kernel
theorem d_Law_law_811 : decode code 811 = .ok (.if_icmp .eq 5, 3) := by decide +kernel
theorem d_Law_law_814 : decode code 814 = .ok (.iconst 0, 1) := by decide +kernel
theorem d_Law_law_815 : decode code 815 = .ok (.ireturn, 1) := by decide +kernel
theorem d_Law_law_816 : decode code 816 = .ok (.iload 5, 2) := by decide +kernel
theorem d_Law_law_818 : decode code 818 = .ok (.ifCond .ne 15, 3) := by decide +kernel
theorem d_Law_law_821 : decode code 821 = .ok (.aload_n 3, 1) := by decide +kernel
theorem d_Law_law_822 : decode code 822 = .ok (.iconst 0, 1) := by decide +kernel
theorem d_Law_law_823 : decode code 823 = .ok (.laload, 1) := by decide +kernel
theorem d_Law_law_824 : decode code 824 = .ok (.iload 6, 2) := by decide +kernel
theorem d_Law_law_826 : decode code 826 = .ok (.i2l, 1) := by decide +kernel
theorem d_Law_law_827 : decode code 827 = .ok (.lcmp, 1) := by decide +kernel
theorem d_Law_law_828 : decode code 828 = .ok (.ifCond .eq 5, 3) := by decide +kernel
theorem d_Law_law_831 : decode code 831 = .ok (.iconst 0, 1) := by decide +kernel
theorem d_Law_law_832 : decode code 832 = .ok (.ireturn, 1) := by decide +kernel
theorem d_Law_law_833 : decode code 833 = .ok (.goto 101, 3) := by decide +kernel
theorem d_Law_law_836 : decode code 836 = .ok (.aload_n 1, 1) := by decide +kernel
theorem d_Law_law_837 : decode code 837 = .ok (.aload_n 0, 1) := by decide +kernel
theorem d_Law_law_838 : decode code 838 = .ok (.iload 4, 2) := by decide +kernel
theorem d_Law_law_840 : decode code 840 = .ok (.iconst 1, 1) := by decide +kernel
theorem d_Law_law_841 : decode code 841 = .ok (.iadd, 1) := by decide +kernel
theorem d_Law_law_842 : decode code 842 = .ok (.iaload, 1) := by decide +kernel
theorem d_Law_law_843 : decode code 843 = .ok (.aload_n 0, 1) := by decide +kernel
theorem d_Law_law_844 : decode code 844 = .ok (.iload 4, 2) := by decide +kernel
theorem d_Law_law_846 : decode code 846 = .ok (.iconst 2, 1) := by decide +kernel
theorem d_Law_law_847 : decode code 847 = .ok (.iadd, 1) := by decide +kernel
theorem d_Law_law_848 : decode code 848 = .ok (.iaload, 1) := by decide +kernel
theorem d_Law_law_849 : decode code 849 = .ok (.aload_n 0, 1) := by decide +kernel
theorem d_Law_law_850 : decode code 850 = .ok (.iload 4, 2) := by decide +kernel
theorem d_Law_law_852 : decode code 852 = .ok (.iconst 3, 1) := by decide +kernel
theorem d_Law_law_853 : decode code 853 = .ok (.iadd, 1) := by decide +kernel
theorem d_Law_law_854 : decode code 854 = .ok (.iaload, 1) := by decide +kernel
theorem d_Law_law_855 : decode code 855 = .ok (.aload_n 0, 1) := by decide +kernel
theorem d_Law_law_856 : decode code 856 = .ok (.iload 4, 2) := by decide +kernel
theorem d_Law_law_858 : decode code 858 = .ok (.iconst 4, 1) := by decide +kernel
theorem d_Law_law_859 : decode code 859 = .ok (.iadd, 1) := by decide +kernel
theorem d_Law_law_860 : decode code 860 = .ok (.iaload, 1) := by decide +kernel
theorem d_Law_law_861 : decode code 861 = .ok (.aload_n 0, 1) := by decide +kernel
theorem d_Law_law_862 : decode code 862 = .ok (.iload 4, 2) := by decide +kernel
theorem d_Law_law_864 : decode code 864 = .ok (.iconst 5, 1) := by decide +kernel
theorem d_Law_law_865 : decode code 865 = .ok (.iadd, 1) := by decide +kernel
theorem d_Law_law_866 : decode code 866 = .ok (.iaload, 1) := by decide +kernel
theorem d_Law_law_867 : decode code 867 = .ok (.aload_n 0, 1) := by decide +kernel
theorem d_Law_law_868 : decode code 868 = .ok (.iload 4, 2) := by decide +kernel
theorem d_Law_law_870 : decode code 870 = .ok (.bipush 6, 2) := by decide +kernel
theorem d_Law_law_872 : decode code 872 = .ok (.iadd, 1) := by decide +kernel
theorem d_Law_law_873 : decode code 873 = .ok (.iaload, 1) := by decide +kernel
theorem d_Law_law_874 : decode code 874 = .ok (.invokevirtual 96, 3) := by decide +kernel
theorem d_Law_law_877 : decode code 877 = .ok (.aload_n 2, 1) := by decide +kernel
theorem d_Law_law_878 : decode code 878 = .ok (.aload_n 0, 1) := by decide +kernel
theorem d_Law_law_879 : decode code 879 = .ok (.iload 4, 2) := by decide +kernel
theorem d_Law_law_881 : decode code 881 = .ok (.iconst 1, 1) := by decide +kernel
theorem d_Law_law_882 : decode code 882 = .ok (.iadd, 1) := by decide +kernel
theorem d_Law_law_883 : decode code 883 = .ok (.iaload, 1) := by decide +kernel
theorem d_Law_law_884 : decode code 884 = .ok (.aload_n 0, 1) := by decide +kernel
theorem d_Law_law_885 : decode code 885 = .ok (.iload 4, 2) := by decide +kernel
theorem d_Law_law_887 : decode code 887 = .ok (.iconst 2, 1) := by decide +kernel
theorem d_Law_law_888 : decode code 888 = .ok (.iadd, 1) := by decide +kernel
theorem d_Law_law_889 : decode code 889 = .ok (.iaload, 1) := by decide +kernel
theorem d_Law_law_890 : decode code 890 = .ok (.aload_n 0, 1) := by decide +kernel
theorem d_Law_law_891 : decode code 891 = .ok (.iload 4, 2) := by decide +kernel
theorem d_Law_law_893 : decode code 893 = .ok (.iconst 3, 1) := by decide +kernel
theorem d_Law_law_894 : decode code 894 = .ok (.iadd, 1) := by decide +kernel
theorem d_Law_law_895 : decode code 895 = .ok (.iaload, 1) := by decide +kernel
theorem d_Law_law_896 : decode code 896 = .ok (.aload_n 0, 1) := by decide +kernel
theorem d_Law_law_897 : decode code 897 = .ok (.iload 4, 2) := by decide +kernel
theorem d_Law_law_899 : decode code 899 = .ok (.iconst 4, 1) := by decide +kernel
theorem d_Law_law_900 : decode code 900 = .ok (.iadd, 1) := by decide +kernel
theorem d_Law_law_901 : decode code 901 = .ok (.iaload, 1) := by decide +kernel
theorem d_Law_law_902 : decode code 902 = .ok (.aload_n 0, 1) := by decide +kernel
theorem d_Law_law_903 : decode code 903 = .ok (.iload 4, 2) := by decide +kernel
theorem d_Law_law_905 : decode code 905 = .ok (.iconst 5, 1) := by decide +kernel
theorem d_Law_law_906 : decode code 906 = .ok (.iadd, 1) := by decide +kernel
theorem d_Law_law_907 : decode code 907 = .ok (.iaload, 1) := by decide +kernel
theorem d_Law_law_908 : decode code 908 = .ok (.aload_n 0, 1) := by decide +kernel
theorem d_Law_law_909 : decode code 909 = .ok (.iload 4, 2) := by decide +kernel
theorem d_Law_law_911 : decode code 911 = .ok (.bipush 6, 2) := by decide +kernel
theorem d_Law_law_913 : decode code 913 = .ok (.iadd, 1) := by decide +kernel
theorem d_Law_law_914 : decode code 914 = .ok (.iaload, 1) := by decide +kernel
theorem d_Law_law_915 : decode code 915 = .ok (.invokevirtual 100, 3) := by decide +kernel
theorem d_Law_law_918 : decode code 918 = .ok (.if_icmp .eq 16, 3) := by decide +kernel
theorem d_Law_law_921 : decode code 921 = .ok (.iconst 0, 1) := by decide +kernel
theorem d_Law_law_922 : decode code 922 = .ok (.ireturn, 1) := by decide +kernel
theorem d_Law_law_923 : decode code 923 = .ok (.aload_n 1, 1) := by decide +kernel
theorem d_Law_law_924 : decode code 924 = .ok (.invokevirtual 101, 3) := by decide +kernel
theorem d_Law_law_927 : decode code 927 = .ok (.aload_n 2, 1) := by decide +kernel
theorem d_Law_law_928 : decode code 928 = .ok (.invokevirtual 104, 3) := by decide +kernel
theorem d_Law_law_931 : decode code 931 = .ok (.goto 3, 3) := by decide +kernel
theorem d_Law_law_934 : decode code 934 = .ok (.iinc 4 7, 3) := by decide +kernel
theorem d_Law_law_937 : decode code 937 = .ok (.goto (-914), 3) := by decide +kernel
theorem d_Law_law_940 : decode code 940 = .ok (.iconst 1, 1) := by decide +kernel
theorem d_Law_law_941 : decode code 941 = .ok (.ireturn, 1) := by decide +kernel
