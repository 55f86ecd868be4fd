theorem dX6_init_626 : decode cX6_init 626 = .ok (.bipush 111, 2) := by decide +kernel
theorem dX6_init_628 : decode cX6_init 628 = .ok (.iconst (-1), 1) := by decide +kernel
theorem dX6_init_629 : decode cX6_init 629 = .ok (.iastore, 1) := by decide +kernel
theorem dX6_init_630 : decode cX6_init 630 = .ok (.dup, 1) := by decide +kernel
theorem dX6_init_631 : decode cX6_init 631 = .ok (.bipush 112, 2) := by decide +kernel
theorem dX6_init_633 : decode cX6_init 633 = .ok (.iconst 2, 1) := by decide +kernel
theorem dX6_init_634 : decode cX6_init 634 = .ok (.iastore, 1) := by decide +kernel
theorem dX6_init_635 : decode cX6_init 635 = .ok (.dup, 1) := by decide +kernel
theorem dX6_init_636 : decode cX6_init 636 = .ok (.bipush 113, 2) := by decide +kernel
theorem dX6_init_638 : decode cX6_init 638 = .ok (.iconst 3, 1) := by decide +kernel
theorem dX6_init_639 : decode cX6_init 639 = .ok (.iastore, 1) := by decide +kernel
theorem dX6_init_640 : decode cX6_init 640 = .ok (.dup, 1) := by decide +kernel
theorem dX6_init_641 : decode cX6_init 641 = .ok (.bipush 114, 2) := by decide +kernel
theorem dX6_init_643 : decode cX6_init 643 = .ok (.iconst 2, 1) := by decide +kernel
theorem dX6_init_644 : decode cX6_init 644 = .ok (.iastore, 1) := by decide +kernel
theorem dX6_init_645 : decode cX6_init 645 = .ok (.dup, 1) := by decide +kernel
theorem dX6_init_646 : decode cX6_init 646 = .ok (.bipush 115, 2) := by decide +kernel
theorem dX6_init_648 : decode cX6_init 648 = .ok (.iconst 3, 1) := by decide +kernel
theorem dX6_init_649 : decode cX6_init 649 = .ok (.iastore, 1) := by decide +kernel
theorem dX6_init_650 : decode cX6_init 650 = .ok (.dup, 1) := by decide +kernel
theorem dX6_init_651 : decode cX6_init 651 = .ok (.bipush 116, 2) := by decide +kernel
theorem dX6_init_653 : decode cX6_init 653 = .ok (.bipush 6, 2) := by decide +kernel
theorem dX6_init_655 : decode cX6_init 655 = .ok (.iastore, 1) := by decide +kernel
theorem dX6_init_656 : decode cX6_init 656 = .ok (.dup, 1) := by decide +kernel
theorem dX6_init_657 : decode cX6_init 657 = .ok (.bipush 117, 2) := by decide +kernel
theorem dX6_init_659 : decode cX6_init 659 = .ok (.bipush 6, 2) := by decide +kernel
theorem dX6_init_661 : decode cX6_init 661 = .ok (.iastore, 1) := by decide +kernel
theorem dX6_init_662 : decode cX6_init 662 = .ok (.dup, 1) := by decide +kernel
theorem dX6_init_663 : decode cX6_init 663 = .ok (.bipush 118, 2) := by decide +kernel
theorem dX6_init_665 : decode cX6_init 665 = .ok (.bipush 8, 2) := by decide +kernel
theorem dX6_init_667 : decode cX6_init 667 = .ok (.iastore, 1) := by decide +kernel
theorem dX6_init_668 : decode cX6_init 668 = .ok (.dup, 1) := by decide +kernel
theorem dX6_init_669 : decode cX6_init 669 = .ok (.bipush 119, 2) := by decide +kernel
theorem dX6_init_671 : decode cX6_init 671 = .ok (.sipush 934, 3) := by decide +kernel
theorem dX6_init_674 : decode cX6_init 674 = .ok (.iastore, 1) := by decide +kernel
theorem dX6_init_675 : decode cX6_init 675 = .ok (.dup, 1) := by decide +kernel
theorem dX6_init_676 : decode cX6_init 676 = .ok (.bipush 120, 2) := by decide +kernel
theorem dX6_init_678 : decode cX6_init 678 = .ok (.iconst (-1), 1) := by decide +kernel
theorem dX6_init_679 : decode cX6_init 679 = .ok (.iastore, 1) := by decide +kernel
theorem dX6_init_680 : decode cX6_init 680 = .ok (.dup, 1) := by decide +kernel
theorem dX6_init_681 : decode cX6_init 681 = .ok (.bipush 121, 2) := by decide +kernel
theorem dX6_init_683 : decode cX6_init 683 = .ok (.iconst (-1), 1) := by decide +kernel
theorem dX6_init_684 : decode cX6_init 684 = .ok (.iastore, 1) := by decide +kernel
theorem dX6_init_685 : decode cX6_init 685 = .ok (.dup, 1) := by decide +kernel
theorem dX6_init_686 : decode cX6_init 686 = .ok (.bipush 122, 2) := by decide +kernel
theorem dX6_init_688 : decode cX6_init 688 = .ok (.bipush 114, 2) := by decide +kernel
theorem dX6_init_690 : decode cX6_init 690 = .ok (.iastore, 1) := by decide +kernel
theorem dX6_init_691 : decode cX6_init 691 = .ok (.dup, 1) := by decide +kernel
theorem dX6_init_692 : decode cX6_init 692 = .ok (.bipush 123, 2) := by decide +kernel
theorem dX6_init_694 : decode cX6_init 694 = .ok (.bipush 115, 2) := by decide +kernel
theorem dX6_init_696 : decode cX6_init 696 = .ok (.iastore, 1) := by decide +kernel
theorem dX6_init_697 : decode cX6_init 697 = .ok (.dup, 1) := by decide +kernel
theorem dX6_init_698 : decode cX6_init 698 = .ok (.bipush 124, 2) := by decide +kernel
theorem dX6_init_700 : decode cX6_init 700 = .ok (.bipush 116, 2) := by decide +kernel
theorem dX6_init_702 : decode cX6_init 702 = .ok (.iastore, 1) := by decide +kernel
theorem dX6_init_703 : decode cX6_init 703 = .ok (.dup, 1) := by decide +kernel
theorem dX6_init_704 : decode cX6_init 704 = .ok (.bipush 125, 2) := by decide +kernel
theorem dX6_init_706 : decode cX6_init 706 = .ok (.bipush 117, 2) := by decide +kernel
theorem dX6_init_708 : decode cX6_init 708 = .ok (.iastore, 1) := by decide +kernel
theorem dX6_init_709 : decode cX6_init 709 = .ok (.dup, 1) := by decide +kernel
theorem dX6_init_710 : decode cX6_init 710 = .ok (.bipush 126, 2) := by decide +kernel
theorem dX6_init_712 : decode cX6_init 712 = .ok (.bipush 118, 2) := by decide +kernel
theorem dX6_init_714 : decode cX6_init 714 = .ok (.iastore, 1) := by decide +kernel
theorem dX6_init_715 : decode cX6_init 715 = .ok (.dup, 1) := by decide +kernel
theorem dX6_init_716 : decode cX6_init 716 = .ok (.bipush 127, 2) := by decide +kernel
theorem dX6_init_718 : decode cX6_init 718 = .ok (.bipush 119, 2) := by decide +kernel
theorem dX6_init_720 : decode cX6_init 720 = .ok (.iastore, 1) := by decide +kernel
theorem dX6_init_721 : decode cX6_init 721 = .ok (.dup, 1) := by decide +kernel
theorem dX6_init_722 : decode cX6_init 722 = .ok (.sipush 128, 3) := by decide +kernel
theorem dX6_init_725 : decode cX6_init 725 = .ok (.bipush 120, 2) := by decide +kernel
theorem dX6_init_727 : decode cX6_init 727 = .ok (.iastore, 1) := by decide +kernel
theorem dX6_init_728 : decode cX6_init 728 = .ok (.dup, 1) := by decide +kernel
theorem dX6_init_729 : decode cX6_init 729 = .ok (.sipush 129, 3) := by decide +kernel
theorem dX6_init_732 : decode cX6_init 732 = .ok (.bipush 121, 2) := by decide +kernel
theorem dX6_init_734 : decode cX6_init 734 = .ok (.iastore, 1) := by decide +kernel
theorem dX6_init_735 : decode cX6_init 735 = .ok (.dup, 1) := by decide +kernel
theorem dX6_init_736 : decode cX6_init 736 = .ok (.sipush 130, 3) := by decide +kernel
theorem dX6_init_739 : decode cX6_init 739 = .ok (.iconst (-1), 1) := by decide +kernel
theorem dX6_init_740 : decode cX6_init 740 = .ok (.iastore, 1) := by decide +kernel
theorem dX6_init_741 : decode cX6_init 741 = .ok (.dup, 1) := by decide +kernel
theorem dX6_init_742 : decode cX6_init 742 = .ok (.sipush 131, 3) := by decide +kernel
theorem dX6_init_745 : decode cX6_init 745 = .ok (.iconst (-1), 1) := by decide +kernel
theorem dX6_init_746 : decode cX6_init 746 = .ok (.iastore, 1) := by decide +kernel
theorem dX6_init_747 : decode cX6_init 747 = .ok (.dup, 1) := by decide +kernel
theorem dX6_init_748 : decode cX6_init 748 = .ok (.sipush 132, 3) := by decide +kernel
theorem dX6_init_751 : decode cX6_init 751 = .ok (.iconst 2, 1) := by decide +kernel
theorem dX6_init_752 : decode cX6_init 752 = .ok (.iastore, 1) := by decide +kernel
theorem dX6_init_753 : decode cX6_init 753 = .ok (.dup, 1) := by decide +kernel
theorem dX6_init_754 : decode cX6_init 754 = .ok (.sipush 133, 3) := by decide +kernel
theorem dX6_init_757 : decode cX6_init 757 = .ok (.iconst 3, 1) := by decide +kernel
theorem dX6_init_758 : decode cX6_init 758 = .ok (.iastore, 1) := by decide +kernel
theorem dX6_init_759 : decode cX6_init 759 = .ok (.dup, 1) := by decide +kernel
theorem dX6_init_760 : decode cX6_init 760 = .ok (.sipush 134, 3) := by decide +kernel
theorem dX6_init_763 : decode cX6_init 763 = .ok (.iconst 2, 1) := by decide +kernel
theorem dX6_init_764 : decode cX6_init 764 = .ok (.iastore, 1) := by decide +kernel
theorem dX6_init_765 : decode cX6_init 765 = .ok (.dup, 1) := by decide +kernel
theorem dX6_init_766 : decode cX6_init 766 = .ok (.sipush 135, 3) := by decide +kernel
theorem dX6_init_769 : decode cX6_init 769 = .ok (.iconst 3, 1) := by decide +kernel
theorem dX6_init_770 : decode cX6_init 770 = .ok (.iastore, 1) := by decide +kernel
theorem dX6_init_771 : decode cX6_init 771 = .ok (.dup, 1) := by decide +kernel
theorem dX6_init_772 : decode cX6_init 772 = .ok (.sipush 136, 3) := by decide +kernel
theorem dX6_init_775 : decode cX6_init 775 = .ok (.iconst 3, 1) := by decide +kernel
theorem dX6_init_776 : decode cX6_init 776 = .ok (.iastore, 1) := by decide +kernel
theorem dX6_init_777 : decode cX6_init 777 = .ok (.dup, 1) := by decide +kernel
theorem dX6_init_778 : decode cX6_init 778 = .ok (.sipush 137, 3) := by decide +kernel
theorem dX6_init_781 : decode cX6_init 781 = .ok (.iconst 3, 1) := by decide +kernel
theorem dX6_init_782 : decode cX6_init 782 = .ok (.iastore, 1) := by decide +kernel
theorem dX6_init_783 : decode cX6_init 783 = .ok (.dup, 1) := by decide +kernel
theorem dX6_init_784 : decode cX6_init 784 = .ok (.sipush 138, 3) := by decide +kernel
theorem dX6_init_787 : decode cX6_init 787 = .ok (.iconst 3, 1) := by decide +kernel
theorem dX6_init_788 : decode cX6_init 788 = .ok (.iastore, 1) := by decide +kernel
theorem dX6_init_789 : decode cX6_init 789 = .ok (.dup, 1) := by decide +kernel
theorem dX6_init_790 : decode cX6_init 790 = .ok (.sipush 139, 3) := by decide +kernel
theorem dX6_init_793 : decode cX6_init 793 = .ok (.sipush 16805, 3) := by decide +kernel
theorem dX6_init_796 : decode cX6_init 796 = .ok (.iastore, 1) := by decide +kernel
theorem dX6_init_797 : decode cX6_init 797 = .ok (.dup, 1) := by decide +kernel
theorem dX6_init_798 : decode cX6_init 798 = .ok (.sipush 140, 3) := by decide +kernel
theorem dX6_init_801 : decode cX6_init 801 = .ok (.iconst (-1), 1) := by decide +kernel
theorem dX6_init_802 : decode cX6_init 802 = .ok (.iastore, 1) := by decide +kernel
theorem dX6_init_803 : decode cX6_init 803 = .ok (.dup, 1) := by decide +kernel
theorem dX6_init_804 : decode cX6_init 804 = .ok (.sipush 141, 3) := by decide +kernel
theorem dX6_init_807 : decode cX6_init 807 = .ok (.iconst (-1), 1) := by decide +kernel
theorem dX6_init_808 : decode cX6_init 808 = .ok (.iastore, 1) := by decide +kernel
theorem dX6_init_809 : decode cX6_init 809 = .ok (.dup, 1) := by decide +kernel
theorem dX6_init_810 : decode cX6_init 810 = .ok (.sipush 142, 3) := by decide +kernel
theorem dX6_init_813 : decode cX6_init 813 = .ok (.iconst 2, 1) := by decide +kernel
theorem dX6_init_814 : decode cX6_init 814 = .ok (.iastore, 1) := by decide +kernel
theorem dX6_init_815 : decode cX6_init 815 = .ok (.dup, 1) := by decide +kernel
theorem dX6_init_816 : decode cX6_init 816 = .ok (.sipush 143, 3) := by decide +kernel
theorem dX6_init_819 : decode cX6_init 819 = .ok (.iconst 3, 1) := by decide +kernel
theorem dX6_init_820 : decode cX6_init 820 = .ok (.iastore, 1) := by decide +kernel
theorem dX6_init_821 : decode cX6_init 821 = .ok (.dup, 1) := by decide +kernel
theorem dX6_init_822 : decode cX6_init 822 = .ok (.sipush 144, 3) := by decide +kernel
theorem dX6_init_825 : decode cX6_init 825 = .ok (.iconst 4, 1) := by decide +kernel
theorem dX6_init_826 : decode cX6_init 826 = .ok (.iastore, 1) := by decide +kernel
theorem dX6_init_827 : decode cX6_init 827 = .ok (.dup, 1) := by decide +kernel
theorem dX6_init_828 : decode cX6_init 828 = .ok (.sipush 145, 3) := by decide +kernel
theorem dX6_init_831 : decode cX6_init 831 = .ok (.iconst 5, 1) := by decide +kernel
theorem dX6_init_832 : decode cX6_init 832 = .ok (.iastore, 1) := by decide +kernel
theorem dX6_init_833 : decode cX6_init 833 = .ok (.dup, 1) := by decide +kernel
theorem dX6_init_834 : decode cX6_init 834 = .ok (.sipush 146, 3) := by decide +kernel
theorem dX6_init_837 : decode cX6_init 837 = .ok (.bipush 6, 2) := by decide +kernel
theorem dX6_init_839 : decode cX6_init 839 = .ok (.iastore, 1) := by decide +kernel
theorem dX6_init_840 : decode cX6_init 840 = .ok (.dup, 1) := by decide +kernel
theorem dX6_init_841 : decode cX6_init 841 = .ok (.sipush 147, 3) := by decide +kernel
theorem dX6_init_844 : decode cX6_init 844 = .ok (.bipush 6, 2) := by decide +kernel
theorem dX6_init_846 : decode cX6_init 846 = .ok (.iastore, 1) := by decide +kernel
theorem dX6_init_847 : decode cX6_init 847 = .ok (.dup, 1) := by decide +kernel
theorem dX6_init_848 : decode cX6_init 848 = .ok (.sipush 148, 3) := by decide +kernel
theorem dX6_init_851 : decode cX6_init 851 = .ok (.bipush 8, 2) := by decide +kernel
theorem dX6_init_853 : decode cX6_init 853 = .ok (.iastore, 1) := by decide +kernel
theorem dX6_init_854 : decode cX6_init 854 = .ok (.dup, 1) := by decide +kernel
theorem dX6_init_855 : decode cX6_init 855 = .ok (.sipush 149, 3) := by decide +kernel
theorem dX6_init_858 : decode cX6_init 858 = .ok (.bipush 9, 2) := by decide +kernel
theorem dX6_init_860 : decode cX6_init 860 = .ok (.iastore, 1) := by decide +kernel
theorem dX6_init_861 : decode cX6_init 861 = .ok (.dup, 1) := by decide +kernel
theorem dX6_init_862 : decode cX6_init 862 = .ok (.sipush 150, 3) := by decide +kernel
theorem dX6_init_865 : decode cX6_init 865 = .ok (.iconst (-1), 1) := by decide +kernel
theorem dX6_init_866 : decode cX6_init 866 = .ok (.iastore, 1) := by decide +kernel
theorem dX6_init_867 : decode cX6_init 867 = .ok (.dup, 1) := by decide +kernel
theorem dX6_init_868 : decode cX6_init 868 = .ok (.sipush 151, 3) := by decide +kernel
theorem dX6_init_871 : decode cX6_init 871 = .ok (.iconst (-1), 1) := by decide +kernel
theorem dX6_init_872 : decode cX6_init 872 = .ok (.iastore, 1) := by decide +kernel
theorem dX6_init_873 : decode cX6_init 873 = .ok (.dup, 1) := by decide +kernel
theorem dX6_init_874 : decode cX6_init 874 = .ok (.sipush 152, 3) := by decide +kernel
theorem dX6_init_877 : decode cX6_init 877 = .ok (.iconst 2, 1) := by decide +kernel
theorem dX6_init_878 : decode cX6_init 878 = .ok (.iastore, 1) := by decide +kernel
theorem dX6_init_879 : decode cX6_init 879 = .ok (.dup, 1) := by decide +kernel
theorem dX6_init_880 : decode cX6_init 880 = .ok (.sipush 153, 3) := by decide +kernel
theorem dX6_init_883 : decode cX6_init 883 = .ok (.iconst 3, 1) := by decide +kernel
theorem dX6_init_884 : decode cX6_init 884 = .ok (.iastore, 1) := by decide +kernel
theorem dX6_init_885 : decode cX6_init 885 = .ok (.dup, 1) := by decide +kernel
theorem dX6_init_886 : decode cX6_init 886 = .ok (.sipush 154, 3) := by decide +kernel
theorem dX6_init_889 : decode cX6_init 889 = .ok (.iconst 4, 1) := by decide +kernel
theorem dX6_init_890 : decode cX6_init 890 = .ok (.iastore, 1) := by decide +kernel
theorem dX6_init_891 : decode cX6_init 891 = .ok (.dup, 1) := by decide +kernel
theorem dX6_init_892 : decode cX6_init 892 = .ok (.sipush 155, 3) := by decide +kernel
theorem dX6_init_895 : decode cX6_init 895 = .ok (.iconst 5, 1) := by decide +kernel
theorem dX6_init_896 : decode cX6_init 896 = .ok (.iastore, 1) := by decide +kernel
theorem dX6_init_897 : decode cX6_init 897 = .ok (.dup, 1) := by decide +kernel
theorem dX6_init_898 : decode cX6_init 898 = .ok (.sipush 156, 3) := by decide +kernel
theorem dX6_init_901 : decode cX6_init 901 = .ok (.bipush 6, 2) := by decide +kernel
theorem dX6_init_903 : decode cX6_init 903 = .ok (.iastore, 1) := by decide +kernel
theorem dX6_init_904 : decode cX6_init 904 = .ok (.dup, 1) := by decide +kernel
theorem dX6_init_905 : decode cX6_init 905 = .ok (.sipush 157, 3) := by decide +kernel
theorem dX6_init_908 : decode cX6_init 908 = .ok (.bipush 7, 2) := by decide +kernel
theorem dX6_init_910 : decode cX6_init 910 = .ok (.iastore, 1) := by decide +kernel
theorem dX6_init_911 : decode cX6_init 911 = .ok (.dup, 1) := by decide +kernel
theorem dX6_init_912 : decode cX6_init 912 = .ok (.sipush 158, 3) := by decide +kernel
theorem dX6_init_915 : decode cX6_init 915 = .ok (.bipush 8, 2) := by decide +kernel
theorem dX6_init_917 : decode cX6_init 917 = .ok (.iastore, 1) := by decide +kernel
theorem dX6_init_918 : decode cX6_init 918 = .ok (.dup, 1) := by decide +kernel
theorem dX6_init_919 : decode cX6_init 919 = .ok (.sipush 159, 3) := by decide +kernel
theorem dX6_init_922 : decode cX6_init 922 = .ok (.sipush 137, 3) := by decide +kernel
theorem dX6_init_925 : decode cX6_init 925 = .ok (.iastore, 1) := by decide +kernel
theorem dX6_init_926 : decode cX6_init 926 = .ok (.putfield 7, 3) := by decide +kernel
theorem dX6_init_929 : decode cX6_init 929 = .ok (.aload_n 0, 1) := by decide +kernel
theorem dX6_init_930 : decode cX6_init 930 = .ok (.iconst 2, 1) := by decide +kernel
theorem dX6_init_931 : decode cX6_init 931 = .ok (.newarray .int, 2) := by decide +kernel
theorem dX6_init_933 : decode cX6_init 933 = .ok (.putfield 13, 3) := by decide +kernel
theorem dX6_init_936 : decode cX6_init 936 = .ok (.aload_n 0, 1) := by decide +kernel
theorem dX6_init_937 : decode cX6_init 937 = .ok (.iconst 2, 1) := by decide +kernel
theorem dX6_init_938 : decode cX6_init 938 = .ok (.newarray .int, 2) := by decide +kernel
theorem dX6_init_940 : decode cX6_init 940 = .ok (.putfield 16, 3) := by decide +kernel
theorem dX6_init_943 : decode cX6_init 943 = .ok (.aload_n 0, 1) := by decide +kernel
theorem dX6_init_944 : decode cX6_init 944 = .ok (.iconst 2, 1) := by decide +kernel
theorem dX6_init_945 : decode cX6_init 945 = .ok (.newarray .int, 2) := by decide +kernel
theorem dX6_init_947 : decode cX6_init 947 = .ok (.putfield 19, 3) := by decide +kernel
theorem dX6_init_950 : decode cX6_init 950 = .ok (.aload_n 0, 1) := by decide +kernel
theorem dX6_init_951 : decode cX6_init 951 = .ok (.iconst 2, 1) := by decide +kernel
theorem dX6_init_952 : decode cX6_init 952 = .ok (.newarray .int, 2) := by decide +kernel
theorem dX6_init_954 : decode cX6_init 954 = .ok (.putfield 22, 3) := by decide +kernel
theorem dX6_init_957 : decode cX6_init 957 = .ok (.aload_n 0, 1) := by decide +kernel
theorem dX6_init_958 : decode cX6_init 958 = .ok (.iconst 2, 1) := by decide +kernel
theorem dX6_init_959 : decode cX6_init 959 = .ok (.newarray .int, 2) := by decide +kernel
theorem dX6_init_961 : decode cX6_init 961 = .ok (.putfield 25, 3) := by decide +kernel
theorem dX6_init_964 : decode cX6_init 964 = .ok (.aload_n 0, 1) := by decide +kernel
theorem dX6_init_965 : decode cX6_init 965 = .ok (.iconst 2, 1) := by decide +kernel
theorem dX6_init_966 : decode cX6_init 966 = .ok (.newarray .int, 2) := by decide +kernel
theorem dX6_init_968 : decode cX6_init 968 = .ok (.putfield 28, 3) := by decide +kernel
theorem dX6_init_971 : decode cX6_init 971 = .ok (.aload_n 0, 1) := by decide +kernel
theorem dX6_init_972 : decode cX6_init 972 = .ok (.iconst 2, 1) := by decide +kernel
theorem dX6_init_973 : decode cX6_init 973 = .ok (.newarray .int, 2) := by decide +kernel
theorem dX6_init_975 : decode cX6_init 975 = .ok (.putfield 31, 3) := by decide +kernel
theorem dX6_init_978 : decode cX6_init 978 = .ok (.aload_n 0, 1) := by decide +kernel
theorem dX6_init_979 : decode cX6_init 979 = .ok (.iconst 2, 1) := by decide +kernel
theorem dX6_init_980 : decode cX6_init 980 = .ok (.newarray .boolean, 2) := by decide +kernel
theorem dX6_init_982 : decode cX6_init 982 = .ok (.putfield 34, 3) := by decide +kernel
theorem dX6_init_985 : decode cX6_init 985 = .ok (.aload_n 0, 1) := by decide +kernel
theorem dX6_init_986 : decode cX6_init 986 = .ok (.iconst 2, 1) := by decide +kernel
theorem dX6_init_987 : decode cX6_init 987 = .ok (.newarray .boolean, 2) := by decide +kernel
theorem dX6_init_989 : decode cX6_init 989 = .ok (.putfield 38, 3) := by decide +kernel
theorem dX6_init_992 : decode cX6_init 992 = .ok (.aload_n 0, 1) := by decide +kernel
theorem dX6_init_993 : decode cX6_init 993 = .ok (.iconst 2, 1) := by decide +kernel
theorem dX6_init_994 : decode cX6_init 994 = .ok (.newarray .int, 2) := by decide +kernel
theorem dX6_init_996 : decode cX6_init 996 = .ok (.putfield 41, 3) := by decide +kernel
theorem dX6_init_999 : decode cX6_init 999 = .ok (.aload_n 0, 1) := by decide +kernel
theorem dX6_init_1000 : decode cX6_init 1000 = .ok (.iconst 2, 1) := by decide +kernel
theorem dX6_init_1001 : decode cX6_init 1001 = .ok (.newarray .int, 2) := by decide +kernel
theorem dX6_init_1003 : decode cX6_init 1003 = .ok (.putfield 44, 3) := by decide +kernel
theorem dX6_init_1006 : decode cX6_init 1006 = .ok (.aload_n 0, 1) := by decide +kernel
theorem dX6_init_1007 : decode cX6_init 1007 = .ok (.bipush 16, 2) := by decide +kernel
theorem dX6_init_1009 : decode cX6_init 1009 = .ok (.newarray .int, 2) := by decide +kernel
theorem dX6_init_1011 : decode cX6_init 1011 = .ok (.putfield 47, 3) := by decide +kernel
theorem dX6_init_1014 : decode cX6_init 1014 = .ok (.aload_n 0, 1) := by decide +kernel
theorem dX6_init_1015 : decode cX6_init 1015 = .ok (.iconst 2, 1) := by decide +kernel
theorem dX6_init_1016 : decode cX6_init 1016 = .ok (.newarray .int, 2) := by decide +kernel
theorem dX6_init_1018 : decode cX6_init 1018 = .ok (.putfield 50, 3) := by decide +kernel
theorem dX6_init_1021 : decode cX6_init 1021 = .ok (.aload_n 0, 1) := by decide +kernel
theorem dX6_init_1022 : decode cX6_init 1022 = .ok (.sipush 600, 3) := by decide +kernel
theorem dX6_init_1025 : decode cX6_init 1025 = .ok (.newarray .int, 2) := by decide +kernel
theorem dX6_init_1027 : decode cX6_init 1027 = .ok (.putfield 53, 3) := by decide +kernel
theorem dX6_init_1030 : decode cX6_init 1030 = .ok (.aload_n 0, 1) := by decide +kernel
theorem dX6_init_1031 : decode cX6_init 1031 = .ok (.iconst 2, 1) := by decide +kernel
theorem dX6_init_1032 : decode cX6_init 1032 = .ok (.newarray .boolean, 2) := by decide +kernel
theorem dX6_init_1034 : decode cX6_init 1034 = .ok (.putfield 56, 3) := by decide +kernel
theorem dX6_init_1037 : decode cX6_init 1037 = .ok (.aload_n 0, 1) := by decide +kernel
theorem dX6_init_1038 : decode cX6_init 1038 = .ok (.iconst 2, 1) := by decide +kernel
theorem dX6_init_1039 : decode cX6_init 1039 = .ok (.newarray .int, 2) := by decide +kernel
theorem dX6_init_1041 : decode cX6_init 1041 = .ok (.putfield 59, 3) := by decide +kernel
theorem dX6_init_1044 : decode cX6_init 1044 = .ok (.aload_n 0, 1) := by decide +kernel
theorem dX6_init_1045 : decode cX6_init 1045 = .ok (.bipush 80, 2) := by decide +kernel
theorem dX6_init_1047 : decode cX6_init 1047 = .ok (.newarray .int, 2) := by decide +kernel
theorem dX6_init_1049 : decode cX6_init 1049 = .ok (.putfield 62, 3) := by decide +kernel
theorem dX6_init_1052 : decode cX6_init 1052 = .ok (.aload_n 0, 1) := by decide +kernel
theorem dX6_init_1053 : decode cX6_init 1053 = .ok (.iconst 2, 1) := by decide +kernel
theorem dX6_init_1054 : decode cX6_init 1054 = .ok (.newarray .boolean, 2) := by decide +kernel
theorem dX6_init_1056 : decode cX6_init 1056 = .ok (.putfield 65, 3) := by decide +kernel
theorem dX6_init_1059 : decode cX6_init 1059 = .ok (.aload_n 0, 1) := by decide +kernel
theorem dX6_init_1060 : decode cX6_init 1060 = .ok (.iconst 2, 1) := by decide +kernel
theorem dX6_init_1061 : decode cX6_init 1061 = .ok (.newarray .int, 2) := by decide +kernel
theorem dX6_init_1063 : decode cX6_init 1063 = .ok (.putfield 68, 3) := by decide +kernel
theorem dX6_init_1066 : decode cX6_init 1066 = .ok (.aload_n 0, 1) := by decide +kernel
theorem dX6_init_1067 : decode cX6_init 1067 = .ok (.bipush 80, 2) := by decide +kernel
theorem dX6_init_1069 : decode cX6_init 1069 = .ok (.newarray .int, 2) := by decide +kernel
theorem dX6_init_1071 : decode cX6_init 1071 = .ok (.putfield 71, 3) := by decide +kernel
theorem dX6_init_1074 : decode cX6_init 1074 = .ok (.aload_n 0, 1) := by decide +kernel
theorem dX6_init_1075 : decode cX6_init 1075 = .ok (.bipush 12, 2) := by decide +kernel
theorem dX6_init_1077 : decode cX6_init 1077 = .ok (.newarray .int, 2) := by decide +kernel
theorem dX6_init_1079 : decode cX6_init 1079 = .ok (.putfield 74, 3) := by decide +kernel
theorem dX6_init_1082 : decode cX6_init 1082 = .ok (.aload_n 0, 1) := by decide +kernel
theorem dX6_init_1083 : decode cX6_init 1083 = .ok (.bipush 64, 2) := by decide +kernel
theorem dX6_init_1085 : decode cX6_init 1085 = .ok (.newarray .int, 2) := by decide +kernel
theorem dX6_init_1087 : decode cX6_init 1087 = .ok (.putfield 77, 3) := by decide +kernel
theorem dX6_init_1090 : decode cX6_init 1090 = .ok (.aload_n 0, 1) := by decide +kernel
theorem dX6_init_1091 : decode cX6_init 1091 = .ok (.bipush 40, 2) := by decide +kernel
theorem dX6_init_1093 : decode cX6_init 1093 = .ok (.newarray .int, 2) := by decide +kernel
theorem dX6_init_1095 : decode cX6_init 1095 = .ok (.putfield 80, 3) := by decide +kernel
theorem dX6_init_1098 : decode cX6_init 1098 = .ok (.iconst 0, 1) := by decide +kernel
theorem dX6_init_1099 : decode cX6_init 1099 = .ok (.istore_n 1, 1) := by decide +kernel
theorem dX6_init_1100 : decode cX6_init 1100 = .ok (.iload_n 1, 1) := by decide +kernel
theorem dX6_init_1101 : decode cX6_init 1101 = .ok (.iconst 2, 1) := by decide +kernel
theorem dX6_init_1102 : decode cX6_init 1102 = .ok (.if_icmp .ge 47, 3) := by decide +kernel
theorem dX6_init_1105 : decode cX6_init 1105 = .ok (.aload_n 0, 1) := by decide +kernel
theorem dX6_init_1106 : decode cX6_init 1106 = .ok (.getfield 16, 3) := by decide +kernel
theorem dX6_init_1109 : decode cX6_init 1109 = .ok (.iload_n 1, 1) := by decide +kernel
theorem dX6_init_1110 : decode cX6_init 1110 = .ok (.sipush 1500, 3) := by decide +kernel
theorem dX6_init_1113 : decode cX6_init 1113 = .ok (.iastore, 1) := by decide +kernel
theorem dX6_init_1114 : decode cX6_init 1114 = .ok (.aload_n 0, 1) := by decide +kernel
theorem dX6_init_1115 : decode cX6_init 1115 = .ok (.getfield 19, 3) := by decide +kernel
theorem dX6_init_1118 : decode cX6_init 1118 = .ok (.iload_n 1, 1) := by decide +kernel
theorem dX6_init_1119 : decode cX6_init 1119 = .ok (.bipush 64, 2) := by decide +kernel
theorem dX6_init_1121 : decode cX6_init 1121 = .ok (.iastore, 1) := by decide +kernel
theorem dX6_init_1122 : decode cX6_init 1122 = .ok (.aload_n 0, 1) := by decide +kernel
theorem dX6_init_1123 : decode cX6_init 1123 = .ok (.getfield 34, 3) := by decide +kernel
theorem dX6_init_1126 : decode cX6_init 1126 = .ok (.iload_n 1, 1) := by decide +kernel
theorem dX6_init_1127 : decode cX6_init 1127 = .ok (.iconst 1, 1) := by decide +kernel
theorem dX6_init_1128 : decode cX6_init 1128 = .ok (.bastore, 1) := by decide +kernel
theorem dX6_init_1129 : decode cX6_init 1129 = .ok (.aload_n 0, 1) := by decide +kernel
theorem dX6_init_1130 : decode cX6_init 1130 = .ok (.getfield 38, 3) := by decide +kernel
theorem dX6_init_1133 : decode cX6_init 1133 = .ok (.iload_n 1, 1) := by decide +kernel
theorem dX6_init_1134 : decode cX6_init 1134 = .ok (.iconst 1, 1) := by decide +kernel
theorem dX6_init_1135 : decode cX6_init 1135 = .ok (.bastore, 1) := by decide +kernel
theorem dX6_init_1136 : decode cX6_init 1136 = .ok (.aload_n 0, 1) := by decide +kernel
theorem dX6_init_1137 : decode cX6_init 1137 = .ok (.getfield 41, 3) := by decide +kernel
theorem dX6_init_1140 : decode cX6_init 1140 = .ok (.iload_n 1, 1) := by decide +kernel
theorem dX6_init_1141 : decode cX6_init 1141 = .ok (.iconst (-1), 1) := by decide +kernel
theorem dX6_init_1142 : decode cX6_init 1142 = .ok (.iastore, 1) := by decide +kernel
theorem dX6_init_1143 : decode cX6_init 1143 = .ok (.iinc 1 1, 3) := by decide +kernel
theorem dX6_init_1146 : decode cX6_init 1146 = .ok (.goto (-46), 3) := by decide +kernel
theorem dX6_init_1149 : decode cX6_init 1149 = .ok (.return_, 1) := by decide +kernel
