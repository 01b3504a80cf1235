/-! the law, row by row (1) -/
theorem dL_law_613 : decode code 613 = .ok (.iadd, 1) := by decide +kernel
theorem dL_law_614 : decode code 614 = .ok (.iaload, 1) := by decide +kernel
theorem dL_law_615 : decode code 615 = .ok (.invokevirtual 65, 3) := by decide +kernel
theorem dL_law_618 : decode code 618 = .ok (.aload_n 2, 1) := by decide +kernel
theorem dL_law_619 : decode code 619 = .ok (.aload_n 0, 1) := by decide +kernel
theorem dL_law_620 : decode code 620 = .ok (.iload 4, 2) := by decide +kernel
theorem dL_law_622 : decode code 622 = .ok (.iconst 1, 1) := by decide +kernel
theorem dL_law_623 : decode code 623 = .ok (.iadd, 1) := by decide +kernel
theorem dL_law_624 : decode code 624 = .ok (.iaload, 1) := by decide +kernel
theorem dL_law_625 : decode code 625 = .ok (.aload_n 0, 1) := by decide +kernel
theorem dL_law_626 : decode code 626 = .ok (.iload 4, 2) := by decide +kernel
theorem dL_law_628 : decode code 628 = .ok (.iconst 2, 1) := by decide +kernel
theorem dL_law_629 : decode code 629 = .ok (.iadd, 1) := by decide +kernel
theorem dL_law_630 : decode code 630 = .ok (.iaload, 1) := by decide +kernel
theorem dL_law_631 : decode code 631 = .ok (.aload_n 0, 1) := by decide +kernel
theorem dL_law_632 : decode code 632 = .ok (.iload 4, 2) := by decide +kernel
theorem dL_law_634 : decode code 634 = .ok (.iconst 3, 1) := by decide +kernel
theorem dL_law_635 : decode code 635 = .ok (.iadd, 1) := by decide +kernel
theorem dL_law_636 : decode code 636 = .ok (.iaload, 1) := by decide +kernel
theorem dL_law_637 : decode code 637 = .ok (.invokevirtual 68, 3) := by decide +kernel
theorem dL_law_640 : decode code 640 = .ok (.if_icmp .eq 848, 3) := by decide +kernel
theorem dL_law_643 : decode code 643 = .ok (.iconst 0, 1) := by decide +kernel
theorem dL_law_644 : decode code 644 = .ok (.ireturn, 1) := by decide +kernel
theorem dL_law_645 : decode code 645 = .ok (.aload_n 1, 1) := by decide +kernel
theorem dL_law_646 : decode code 646 = .ok (.invokevirtual 69, 3) := by decide +kernel
theorem dL_law_649 : decode code 649 = .ok (.aload_n 2, 1) := by decide +kernel
theorem dL_law_650 : decode code 650 = .ok (.invokevirtual 72, 3) := by decide +kernel
theorem dL_law_653 : decode code 653 = .ok (.if_icmp .eq 835, 3) := by decide +kernel
theorem dL_law_656 : decode code 656 = .ok (.iconst 0, 1) := by decide +kernel
theorem dL_law_657 : decode code 657 = .ok (.ireturn, 1) := by decide +kernel
theorem dL_law_658 : decode code 658 = .ok (.aload_n 1, 1) := by decide +kernel
theorem dL_law_659 : decode code 659 = .ok (.aload_n 0, 1) := by decide +kernel
theorem dL_law_660 : decode code 660 = .ok (.iload 4, 2) := by decide +kernel
theorem dL_law_662 : decode code 662 = .ok (.iconst 1, 1) := by decide +kernel
theorem dL_law_663 : decode code 663 = .ok (.iadd, 1) := by decide +kernel
theorem dL_law_664 : decode code 664 = .ok (.iaload, 1) := by decide +kernel
theorem dL_law_665 : decode code 665 = .ok (.aload_n 0, 1) := by decide +kernel
theorem dL_law_666 : decode code 666 = .ok (.iload 4, 2) := by decide +kernel
theorem dL_law_668 : decode code 668 = .ok (.iconst 2, 1) := by decide +kernel
theorem dL_law_669 : decode code 669 = .ok (.iadd, 1) := by decide +kernel
theorem dL_law_670 : decode code 670 = .ok (.iaload, 1) := by decide +kernel
theorem dL_law_671 : decode code 671 = .ok (.invokevirtual 73, 3) := by decide +kernel
theorem dL_law_674 : decode code 674 = .ok (.aload_n 2, 1) := by decide +kernel
theorem dL_law_675 : decode code 675 = .ok (.aload_n 0, 1) := by decide +kernel
theorem dL_law_676 : decode code 676 = .ok (.iload 4, 2) := by decide +kernel
theorem dL_law_678 : decode code 678 = .ok (.iconst 1, 1) := by decide +kernel
theorem dL_law_679 : decode code 679 = .ok (.iadd, 1) := by decide +kernel
theorem dL_law_680 : decode code 680 = .ok (.iaload, 1) := by decide +kernel
theorem dL_law_681 : decode code 681 = .ok (.aload_n 0, 1) := by decide +kernel
theorem dL_law_682 : decode code 682 = .ok (.iload 4, 2) := by decide +kernel
theorem dL_law_684 : decode code 684 = .ok (.iconst 2, 1) := by decide +kernel
theorem dL_law_685 : decode code 685 = .ok (.iadd, 1) := by decide +kernel
theorem dL_law_686 : decode code 686 = .ok (.iaload, 1) := by decide +kernel
theorem dL_law_687 : decode code 687 = .ok (.invokevirtual 76, 3) := by decide +kernel
theorem dL_law_690 : decode code 690 = .ok (.if_icmp .eq 798, 3) := by decide +kernel
theorem dL_law_693 : decode code 693 = .ok (.iconst 0, 1) := by decide +kernel
theorem dL_law_694 : decode code 694 = .ok (.ireturn, 1) := by decide +kernel
theorem dL_law_695 : decode code 695 = .ok (.aload_n 1, 1) := by decide +kernel
theorem dL_law_696 : decode code 696 = .ok (.aload_n 0, 1) := by decide +kernel
theorem dL_law_697 : decode code 697 = .ok (.iload 4, 2) := by decide +kernel
theorem dL_law_699 : decode code 699 = .ok (.iconst 1, 1) := by decide +kernel
theorem dL_law_700 : decode code 700 = .ok (.iadd, 1) := by decide +kernel
theorem dL_law_701 : decode code 701 = .ok (.iaload, 1) := by decide +kernel
theorem dL_law_702 : decode code 702 = .ok (.aload_n 0, 1) := by decide +kernel
theorem dL_law_703 : decode code 703 = .ok (.iload 4, 2) := by decide +kernel
theorem dL_law_705 : decode code 705 = .ok (.iconst 2, 1) := by decide +kernel
theorem dL_law_706 : decode code 706 = .ok (.iadd, 1) := by decide +kernel
theorem dL_law_707 : decode code 707 = .ok (.iaload, 1) := by decide +kernel
theorem dL_law_708 : decode code 708 = .ok (.invokevirtual 77, 3) := by decide +kernel
theorem dL_law_711 : decode code 711 = .ok (.aload_n 2, 1) := by decide +kernel
theorem dL_law_712 : decode code 712 = .ok (.aload_n 0, 1) := by decide +kernel
theorem dL_law_713 : decode code 713 = .ok (.iload 4, 2) := by decide +kernel
theorem dL_law_715 : decode code 715 = .ok (.iconst 1, 1) := by decide +kernel
theorem dL_law_716 : decode code 716 = .ok (.iadd, 1) := by decide +kernel
theorem dL_law_717 : decode code 717 = .ok (.iaload, 1) := by decide +kernel
theorem dL_law_718 : decode code 718 = .ok (.aload_n 0, 1) := by decide +kernel
theorem dL_law_719 : decode code 719 = .ok (.iload 4, 2) := by decide +kernel
theorem dL_law_721 : decode code 721 = .ok (.iconst 2, 1) := by decide +kernel
theorem dL_law_722 : decode code 722 = .ok (.iadd, 1) := by decide +kernel
theorem dL_law_723 : decode code 723 = .ok (.iaload, 1) := by decide +kernel
theorem dL_law_724 : decode code 724 = .ok (.invokevirtual 80, 3) := by decide +kernel
theorem dL_law_727 : decode code 727 = .ok (.if_icmp .eq 761, 3) := by decide +kernel
theorem dL_law_730 : decode code 730 = .ok (.iconst 0, 1) := by decide +kernel
theorem dL_law_731 : decode code 731 = .ok (.ireturn, 1) := by decide +kernel
theorem dL_law_732 : decode code 732 = .ok (.aload_n 1, 1) := by decide +kernel
theorem dL_law_733 : decode code 733 = .ok (.invokevirtual 81, 3) := by decide +kernel
theorem dL_law_736 : decode code 736 = .ok (.aload_n 2, 1) := by decide +kernel
theorem dL_law_737 : decode code 737 = .ok (.invokevirtual 84, 3) := by decide +kernel
theorem dL_law_740 : decode code 740 = .ok (.if_icmp .eq 748, 3) := by decide +kernel
theorem dL_law_743 : decode code 743 = .ok (.iconst 0, 1) := by decide +kernel
theorem dL_law_744 : decode code 744 = .ok (.ireturn, 1) := by decide +kernel
theorem dL_law_745 : decode code 745 = .ok (.aload_n 1, 1) := by decide +kernel
theorem dL_law_746 : decode code 746 = .ok (.aload_n 0, 1) := by decide +kernel
theorem dL_law_747 : decode code 747 = .ok (.iload 4, 2) := by decide +kernel
theorem dL_law_749 : decode code 749 = .ok (.iconst 1, 1) := by decide +kernel
theorem dL_law_750 : decode code 750 = .ok (.iadd, 1) := by decide +kernel
theorem dL_law_751 : decode code 751 = .ok (.iaload, 1) := by decide +kernel
theorem dL_law_752 : decode code 752 = .ok (.invokevirtual 85, 3) := by decide +kernel
theorem dL_law_755 : decode code 755 = .ok (.aload_n 2, 1) := by decide +kernel
theorem dL_law_756 : decode code 756 = .ok (.aload_n 0, 1) := by decide +kernel
theorem dL_law_757 : decode code 757 = .ok (.iload 4, 2) := by decide +kernel
theorem dL_law_759 : decode code 759 = .ok (.iconst 1, 1) := by decide +kernel
theorem dL_law_760 : decode code 760 = .ok (.iadd, 1) := by decide +kernel
theorem dL_law_761 : decode code 761 = .ok (.iaload, 1) := by decide +kernel
theorem dL_law_762 : decode code 762 = .ok (.invokevirtual 88, 3) := by decide +kernel
theorem dL_law_765 : decode code 765 = .ok (.if_icmp .eq 723, 3) := by decide +kernel
theorem dL_law_768 : decode code 768 = .ok (.iconst 0, 1) := by decide +kernel
theorem dL_law_769 : decode code 769 = .ok (.ireturn, 1) := by decide +kernel
theorem dL_law_770 : decode code 770 = .ok (.aload_n 1, 1) := by decide +kernel
theorem dL_law_771 : decode code 771 = .ok (.aload_n 0, 1) := by decide +kernel
theorem dL_law_772 : decode code 772 = .ok (.iload 4, 2) := by decide +kernel
theorem dL_law_774 : decode code 774 = .ok (.iconst 1, 1) := by decide +kernel
theorem dL_law_775 : decode code 775 = .ok (.iadd, 1) := by decide +kernel
theorem dL_law_776 : decode code 776 = .ok (.iaload, 1) := by decide +kernel
theorem dL_law_777 : decode code 777 = .ok (.invokevirtual 89, 3) := by decide +kernel
theorem dL_law_780 : decode code 780 = .ok (.aload_n 2, 1) := by decide +kernel
theorem dL_law_781 : decode code 781 = .ok (.aload_n 0, 1) := by decide +kernel
theorem dL_law_782 : decode code 782 = .ok (.iload 4, 2) := by decide +kernel
theorem dL_law_784 : decode code 784 = .ok (.iconst 1, 1) := by decide +kernel
theorem dL_law_785 : decode code 785 = .ok (.iadd, 1) := by decide +kernel
theorem dL_law_786 : decode code 786 = .ok (.iaload, 1) := by decide +kernel
theorem dL_law_787 : decode code 787 = .ok (.invokevirtual 92, 3) := by decide +kernel
theorem dL_law_790 : decode code 790 = .ok (.if_icmp .eq 698, 3) := by decide +kernel
theorem dL_law_793 : decode code 793 = .ok (.iconst 0, 1) := by decide +kernel
theorem dL_law_794 : decode code 794 = .ok (.ireturn, 1) := by decide +kernel
theorem dL_law_795 : decode code 795 = .ok (.aload_n 1, 1) := by decide +kernel
theorem dL_law_796 : decode code 796 = .ok (.invokevirtual 93, 3) := by decide +kernel
theorem dL_law_799 : decode code 799 = .ok (.aload_n 2, 1) := by decide +kernel
theorem dL_law_800 : decode code 800 = .ok (.invokevirtual 96, 3) := by decide +kernel
theorem dL_law_803 : decode code 803 = .ok (.if_icmp .eq 685, 3) := by decide +kernel
theorem dL_law_806 : decode code 806 = .ok (.iconst 0, 1) := by decide +kernel
theorem dL_law_807 : decode code 807 = .ok (.ireturn, 1) := by decide +kernel
theorem dL_law_808 : decode code 808 = .ok (.aload_n 1, 1) := by decide +kernel
theorem dL_law_809 : decode code 809 = .ok (.aload_n 0, 1) := by decide +kernel
theorem dL_law_810 : decode code 810 = .ok (.iload 4, 2) := by decide +kernel
theorem dL_law_812 : decode code 812 = .ok (.iconst 1, 1) := by decide +kernel
theorem dL_law_813 : decode code 813 = .ok (.iadd, 1) := by decide +kernel
theorem dL_law_814 : decode code 814 = .ok (.iaload, 1) := by decide +kernel
theorem dL_law_815 : decode code 815 = .ok (.invokevirtual 97, 3) := by decide +kernel
theorem dL_law_818 : decode code 818 = .ok (.aload_n 2, 1) := by decide +kernel
theorem dL_law_819 : decode code 819 = .ok (.aload_n 0, 1) := by decide +kernel
theorem dL_law_820 : decode code 820 = .ok (.iload 4, 2) := by decide +kernel
theorem dL_law_822 : decode code 822 = .ok (.iconst 1, 1) := by decide +kernel
theorem dL_law_823 : decode code 823 = .ok (.iadd, 1) := by decide +kernel
theorem dL_law_824 : decode code 824 = .ok (.iaload, 1) := by decide +kernel
theorem dL_law_825 : decode code 825 = .ok (.invokevirtual 100, 3) := by decide +kernel
theorem dL_law_828 : decode code 828 = .ok (.if_icmp .eq 660, 3) := by decide +kernel
theorem dL_law_831 : decode code 831 = .ok (.iconst 0, 1) := by decide +kernel
theorem dL_law_832 : decode code 832 = .ok (.ireturn, 1) := by decide +kernel
theorem dL_law_833 : decode code 833 = .ok (.aload_n 1, 1) := by decide +kernel
theorem dL_law_834 : decode code 834 = .ok (.aload_n 0, 1) := by decide +kernel
theorem dL_law_835 : decode code 835 = .ok (.iload 4, 2) := by decide +kernel
theorem dL_law_837 : decode code 837 = .ok (.iconst 1, 1) := by decide +kernel
theorem dL_law_838 : decode code 838 = .ok (.iadd, 1) := by decide +kernel
theorem dL_law_839 : decode code 839 = .ok (.iaload, 1) := by decide +kernel
theorem dL_law_840 : decode code 840 = .ok (.aload_n 0, 1) := by decide +kernel
theorem dL_law_841 : decode code 841 = .ok (.iload 4, 2) := by decide +kernel
theorem dL_law_843 : decode code 843 = .ok (.iconst 2, 1) := by decide +kernel
theorem dL_law_844 : decode code 844 = .ok (.iadd, 1) := by decide +kernel
theorem dL_law_845 : decode code 845 = .ok (.iaload, 1) := by decide +kernel
theorem dL_law_846 : decode code 846 = .ok (.aload_n 0, 1) := by decide +kernel
theorem dL_law_847 : decode code 847 = .ok (.iload 4, 2) := by decide +kernel
theorem dL_law_849 : decode code 849 = .ok (.iconst 3, 1) := by decide +kernel
theorem dL_law_850 : decode code 850 = .ok (.iadd, 1) := by decide +kernel
theorem dL_law_851 : decode code 851 = .ok (.iaload, 1) := by decide +kernel
theorem dL_law_852 : decode code 852 = .ok (.invokevirtual 101, 3) := by decide +kernel
theorem dL_law_855 : decode code 855 = .ok (.aload_n 2, 1) := by decide +kernel
theorem dL_law_856 : decode code 856 = .ok (.aload_n 0, 1) := by decide +kernel
theorem dL_law_857 : decode code 857 = .ok (.iload 4, 2) := by decide +kernel
theorem dL_law_859 : decode code 859 = .ok (.iconst 1, 1) := by decide +kernel
theorem dL_law_860 : decode code 860 = .ok (.iadd, 1) := by decide +kernel
theorem dL_law_861 : decode code 861 = .ok (.iaload, 1) := by decide +kernel
theorem dL_law_862 : decode code 862 = .ok (.aload_n 0, 1) := by decide +kernel
theorem dL_law_863 : decode code 863 = .ok (.iload 4, 2) := by decide +kernel
theorem dL_law_865 : decode code 865 = .ok (.iconst 2, 1) := by decide +kernel
theorem dL_law_866 : decode code 866 = .ok (.iadd, 1) := by decide +kernel
theorem dL_law_867 : decode code 867 = .ok (.iaload, 1) := by decide +kernel
theorem dL_law_868 : decode code 868 = .ok (.aload_n 0, 1) := by decide +kernel
theorem dL_law_869 : decode code 869 = .ok (.iload 4, 2) := by decide +kernel
theorem dL_law_871 : decode code 871 = .ok (.iconst 3, 1) := by decide +kernel
theorem dL_law_872 : decode code 872 = .ok (.iadd, 1) := by decide +kernel
theorem dL_law_873 : decode code 873 = .ok (.iaload, 1) := by decide +kernel
theorem dL_law_874 : decode code 874 = .ok (.invokevirtual 104, 3) := by decide +kernel
theorem dL_law_877 : decode code 877 = .ok (.if_icmp .eq 611, 3) := by decide +kernel
theorem dL_law_880 : decode code 880 = .ok (.iconst 0, 1) := by decide +kernel
theorem dL_law_881 : decode code 881 = .ok (.ireturn, 1) := by decide +kernel
theorem dL_law_882 : decode code 882 = .ok (.aload_n 1, 1) := by decide +kernel
theorem dL_law_883 : decode code 883 = .ok (.aload_n 0, 1) := by decide +kernel
theorem dL_law_884 : decode code 884 = .ok (.iload 4, 2) := by decide +kernel
theorem dL_law_886 : decode code 886 = .ok (.iconst 1, 1) := by decide +kernel
theorem dL_law_887 : decode code 887 = .ok (.iadd, 1) := by decide +kernel
theorem dL_law_888 : decode code 888 = .ok (.iaload, 1) := by decide +kernel
theorem dL_law_889 : decode code 889 = .ok (.aload_n 0, 1) := by decide +kernel
theorem dL_law_890 : decode code 890 = .ok (.iload 4, 2) := by decide +kernel
theorem dL_law_892 : decode code 892 = .ok (.iconst 2, 1) := by decide +kernel
theorem dL_law_893 : decode code 893 = .ok (.iadd, 1) := by decide +kernel
theorem dL_law_894 : decode code 894 = .ok (.iaload, 1) := by decide +kernel
theorem dL_law_895 : decode code 895 = .ok (.aload_n 0, 1) := by decide +kernel
theorem dL_law_896 : decode code 896 = .ok (.iload 4, 2) := by decide +kernel
theorem dL_law_898 : decode code 898 = .ok (.iconst 3, 1) := by decide +kernel
theorem dL_law_899 : decode code 899 = .ok (.iadd, 1) := by decide +kernel
theorem dL_law_900 : decode code 900 = .ok (.iaload, 1) := by decide +kernel
theorem dL_law_901 : decode code 901 = .ok (.invokevirtual 105, 3) := by decide +kernel
theorem dL_law_904 : decode code 904 = .ok (.aload_n 2, 1) := by decide +kernel
theorem dL_law_905 : decode code 905 = .ok (.aload_n 0, 1) := by decide +kernel
theorem dL_law_906 : decode code 906 = .ok (.iload 4, 2) := by decide +kernel
theorem dL_law_908 : decode code 908 = .ok (.iconst 1, 1) := by decide +kernel
theorem dL_law_909 : decode code 909 = .ok (.iadd, 1) := by decide +kernel
theorem dL_law_910 : decode code 910 = .ok (.iaload, 1) := by decide +kernel
theorem dL_law_911 : decode code 911 = .ok (.aload_n 0, 1) := by decide +kernel
theorem dL_law_912 : decode code 912 = .ok (.iload 4, 2) := by decide +kernel
theorem dL_law_914 : decode code 914 = .ok (.iconst 2, 1) := by decide +kernel
theorem dL_law_915 : decode code 915 = .ok (.iadd, 1) := by decide +kernel
theorem dL_law_916 : decode code 916 = .ok (.iaload, 1) := by decide +kernel
theorem dL_law_917 : decode code 917 = .ok (.aload_n 0, 1) := by decide +kernel
theorem dL_law_918 : decode code 918 = .ok (.iload 4, 2) := by decide +kernel
theorem dL_law_920 : decode code 920 = .ok (.iconst 3, 1) := by decide +kernel
theorem dL_law_921 : decode code 921 = .ok (.iadd, 1) := by decide +kernel
theorem dL_law_922 : decode code 922 = .ok (.iaload, 1) := by decide +kernel
theorem dL_law_923 : decode code 923 = .ok (.invokevirtual 108, 3) := by decide +kernel
theorem dL_law_926 : decode code 926 = .ok (.if_icmp .eq 562, 3) := by decide +kernel
theorem dL_law_929 : decode code 929 = .ok (.iconst 0, 1) := by decide +kernel
theorem dL_law_930 : decode code 930 = .ok (.ireturn, 1) := by decide +kernel
theorem dL_law_931 : decode code 931 = .ok (.aload_n 1, 1) := by decide +kernel
theorem dL_law_932 : decode code 932 = .ok (.aload_n 0, 1) := by decide +kernel
theorem dL_law_933 : decode code 933 = .ok (.iload 4, 2) := by decide +kernel
theorem dL_law_935 : decode code 935 = .ok (.iconst 1, 1) := by decide +kernel
theorem dL_law_936 : decode code 936 = .ok (.iadd, 1) := by decide +kernel
theorem dL_law_937 : decode code 937 = .ok (.iaload, 1) := by decide +kernel
theorem dL_law_938 : decode code 938 = .ok (.aload_n 0, 1) := by decide +kernel
theorem dL_law_939 : decode code 939 = .ok (.iload 4, 2) := by decide +kernel
theorem dL_law_941 : decode code 941 = .ok (.iconst 2, 1) := by decide +kernel
theorem dL_law_942 : decode code 942 = .ok (.iadd, 1) := by decide +kernel
theorem dL_law_943 : decode code 943 = .ok (.iaload, 1) := by decide +kernel
theorem dL_law_944 : decode code 944 = .ok (.invokevirtual 109, 3) := by decide +kernel
theorem dL_law_947 : decode code 947 = .ok (.aload_n 2, 1) := by decide +kernel
theorem dL_law_948 : decode code 948 = .ok (.aload_n 0, 1) := by decide +kernel
theorem dL_law_949 : decode code 949 = .ok (.iload 4, 2) := by decide +kernel
theorem dL_law_951 : decode code 951 = .ok (.iconst 1, 1) := by decide +kernel
theorem dL_law_952 : decode code 952 = .ok (.iadd, 1) := by decide +kernel
theorem dL_law_953 : decode code 953 = .ok (.iaload, 1) := by decide +kernel
theorem dL_law_954 : decode code 954 = .ok (.aload_n 0, 1) := by decide +kernel
theorem dL_law_955 : decode code 955 = .ok (.iload 4, 2) := by decide +kernel
theorem dL_law_957 : decode code 957 = .ok (.iconst 2, 1) := by decide +kernel
theorem dL_law_958 : decode code 958 = .ok (.iadd, 1) := by decide +kernel
theorem dL_law_959 : decode code 959 = .ok (.iaload, 1) := by decide +kernel
theorem dL_law_960 : decode code 960 = .ok (.invokevirtual 112, 3) := by decide +kernel
theorem dL_law_963 : decode code 963 = .ok (.if_icmp .eq 525, 3) := by decide +kernel
theorem dL_law_966 : decode code 966 = .ok (.iconst 0, 1) := by decide +kernel
theorem dL_law_967 : decode code 967 = .ok (.ireturn, 1) := by decide +kernel
theorem dL_law_968 : decode code 968 = .ok (.aload_n 1, 1) := by decide +kernel
theorem dL_law_969 : decode code 969 = .ok (.invokevirtual 113, 3) := by decide +kernel
theorem dL_law_972 : decode code 972 = .ok (.aload_n 2, 1) := by decide +kernel
theorem dL_law_973 : decode code 973 = .ok (.invokevirtual 116, 3) := by decide +kernel
theorem dL_law_976 : decode code 976 = .ok (.if_icmp .eq 512, 3) := by decide +kernel
theorem dL_law_979 : decode code 979 = .ok (.iconst 0, 1) := by decide +kernel
theorem dL_law_980 : decode code 980 = .ok (.ireturn, 1) := by decide +kernel
theorem dL_law_981 : decode code 981 = .ok (.aload_n 1, 1) := by decide +kernel
theorem dL_law_982 : decode code 982 = .ok (.aload_n 0, 1) := by decide +kernel
theorem dL_law_983 : decode code 983 = .ok (.iload 4, 2) := by decide +kernel
theorem dL_law_985 : decode code 985 = .ok (.iconst 1, 1) := by decide +kernel
theorem dL_law_986 : decode code 986 = .ok (.iadd, 1) := by decide +kernel
theorem dL_law_987 : decode code 987 = .ok (.iaload, 1) := by decide +kernel
theorem dL_law_988 : decode code 988 = .ok (.invokevirtual 117, 3) := by decide +kernel
theorem dL_law_991 : decode code 991 = .ok (.aload_n 2, 1) := by decide +kernel
theorem dL_law_992 : decode code 992 = .ok (.aload_n 0, 1) := by decide +kernel
theorem dL_law_993 : decode code 993 = .ok (.iload 4, 2) := by decide +kernel
theorem dL_law_995 : decode code 995 = .ok (.iconst 1, 1) := by decide +kernel
theorem dL_law_996 : decode code 996 = .ok (.iadd, 1) := by decide +kernel
theorem dL_law_997 : decode code 997 = .ok (.iaload, 1) := by decide +kernel
theorem dL_law_998 : decode code 998 = .ok (.invokevirtual 120, 3) := by decide +kernel
theorem dL_law_1001 : decode code 1001 = .ok (.if_icmp .eq 487, 3) := by decide +kernel
theorem dL_law_1004 : decode code 1004 = .ok (.iconst 0, 1) := by decide +kernel
theorem dL_law_1005 : decode code 1005 = .ok (.ireturn, 1) := by decide +kernel
theorem dL_law_1006 : decode code 1006 = .ok (.aload_n 1, 1) := by decide +kernel
theorem dL_law_1007 : decode code 1007 = .ok (.invokevirtual 121, 3) := by decide +kernel
theorem dL_law_1010 : decode code 1010 = .ok (.aload_n 2, 1) := by decide +kernel
theorem dL_law_1011 : decode code 1011 = .ok (.invokevirtual 124, 3) := by decide +kernel
theorem dL_law_1014 : decode code 1014 = .ok (.if_icmp .eq 474, 3) := by decide +kernel
theorem dL_law_1017 : decode code 1017 = .ok (.iconst 0, 1) := by decide +kernel
theorem dL_law_1018 : decode code 1018 = .ok (.ireturn, 1) := by decide +kernel
theorem dL_law_1019 : decode code 1019 = .ok (.aload_n 1, 1) := by decide +kernel
theorem dL_law_1020 : decode code 1020 = .ok (.aload_n 0, 1) := by decide +kernel
theorem dL_law_1021 : decode code 1021 = .ok (.iload 4, 2) := by decide +kernel
theorem dL_law_1023 : decode code 1023 = .ok (.iconst 1, 1) := by decide +kernel
theorem dL_law_1024 : decode code 1024 = .ok (.iadd, 1) := by decide +kernel
theorem dL_law_1025 : decode code 1025 = .ok (.iaload, 1) := by decide +kernel
theorem dL_law_1026 : decode code 1026 = .ok (.aload_n 0, 1) := by decide +kernel
theorem dL_law_1027 : decode code 1027 = .ok (.iload 4, 2) := by decide +kernel
theorem dL_law_1029 : decode code 1029 = .ok (.iconst 2, 1) := by decide +kernel
theorem dL_law_1030 : decode code 1030 = .ok (.iadd, 1) := by decide +kernel
theorem dL_law_1031 : decode code 1031 = .ok (.iaload, 1) := by decide +kernel
theorem dL_law_1032 : decode code 1032 = .ok (.invokevirtual 125, 3) := by decide +kernel
theorem dL_law_1035 : decode code 1035 = .ok (.aload_n 2, 1) := by decide +kernel
theorem dL_law_1036 : decode code 1036 = .ok (.aload_n 0, 1) := by decide +kernel
theorem dL_law_1037 : decode code 1037 = .ok (.iload 4, 2) := by decide +kernel
theorem dL_law_1039 : decode code 1039 = .ok (.iconst 1, 1) := by decide +kernel
theorem dL_law_1040 : decode code 1040 = .ok (.iadd, 1) := by decide +kernel
theorem dL_law_1041 : decode code 1041 = .ok (.iaload, 1) := by decide +kernel
theorem dL_law_1042 : decode code 1042 = .ok (.aload_n 0, 1) := by decide +kernel
theorem dL_law_1043 : decode code 1043 = .ok (.iload 4, 2) := by decide +kernel
theorem dL_law_1045 : decode code 1045 = .ok (.iconst 2, 1) := by decide +kernel
theorem dL_law_1046 : decode code 1046 = .ok (.iadd, 1) := by decide +kernel
theorem dL_law_1047 : decode code 1047 = .ok (.iaload, 1) := by decide +kernel
theorem dL_law_1048 : decode code 1048 = .ok (.invokevirtual 128, 3) := by decide +kernel
theorem dL_law_1051 : decode code 1051 = .ok (.if_icmp .eq 437, 3) := by decide +kernel
theorem dL_law_1054 : decode code 1054 = .ok (.iconst 0, 1) := by decide +kernel
theorem dL_law_1055 : decode code 1055 = .ok (.ireturn, 1) := by decide +kernel
theorem dL_law_1056 : decode code 1056 = .ok (.aload_n 1, 1) := by decide +kernel
theorem dL_law_1057 : decode code 1057 = .ok (.aload_n 0, 1) := by decide +kernel
