/-! WHAT STANDS WHERE IN THE LAW (printed by wip/gen8.py) -/
theorem dl_594 : decode code 594 = .ok (.iadd, 1) := by decide +kernel
theorem dl_595 : decode code 595 = .ok (.iaload, 1) := by decide +kernel
theorem dl_596 : decode code 596 = .ok ((.invokevirtual 61), 3) := by decide +kernel
theorem dl_599 : decode code 599 = .ok ((.aload_n 2), 1) := by decide +kernel
theorem dl_600 : decode code 600 = .ok ((.aload_n 0), 1) := by decide +kernel
theorem dl_601 : decode code 601 = .ok ((.iload_n 3), 1) := by decide +kernel
theorem dl_602 : decode code 602 = .ok ((.iconst 1), 1) := by decide +kernel
theorem dl_603 : decode code 603 = .ok (.iadd, 1) := by decide +kernel
theorem dl_604 : decode code 604 = .ok (.iaload, 1) := by decide +kernel
theorem dl_605 : decode code 605 = .ok ((.invokevirtual 64), 3) := by decide +kernel
theorem dl_608 : decode code 608 = .ok ((.if_icmp .eq 1163), 3) := by decide +kernel
theorem dl_611 : decode code 611 = .ok ((.iconst 0), 1) := by decide +kernel
theorem dl_612 : decode code 612 = .ok (.ireturn, 1) := by decide +kernel
theorem dl_613 : decode code 613 = .ok ((.aload_n 1), 1) := by decide +kernel
theorem dl_614 : decode code 614 = .ok ((.aload_n 0), 1) := by decide +kernel
theorem dl_615 : decode code 615 = .ok ((.iload_n 3), 1) := by decide +kernel
theorem dl_616 : decode code 616 = .ok ((.iconst 1), 1) := by decide +kernel
theorem dl_617 : decode code 617 = .ok (.iadd, 1) := by decide +kernel
theorem dl_618 : decode code 618 = .ok (.iaload, 1) := by decide +kernel
theorem dl_619 : decode code 619 = .ok ((.aload_n 0), 1) := by decide +kernel
theorem dl_620 : decode code 620 = .ok ((.iload_n 3), 1) := by decide +kernel
theorem dl_621 : decode code 621 = .ok ((.iconst 2), 1) := by decide +kernel
theorem dl_622 : decode code 622 = .ok (.iadd, 1) := by decide +kernel
theorem dl_623 : decode code 623 = .ok (.iaload, 1) := by decide +kernel
theorem dl_624 : decode code 624 = .ok ((.invokevirtual 65), 3) := by decide +kernel
theorem dl_627 : decode code 627 = .ok ((.aload_n 2), 1) := by decide +kernel
theorem dl_628 : decode code 628 = .ok ((.aload_n 0), 1) := by decide +kernel
theorem dl_629 : decode code 629 = .ok ((.iload_n 3), 1) := by decide +kernel
theorem dl_630 : decode code 630 = .ok ((.iconst 1), 1) := by decide +kernel
theorem dl_631 : decode code 631 = .ok (.iadd, 1) := by decide +kernel
theorem dl_632 : decode code 632 = .ok (.iaload, 1) := by decide +kernel
theorem dl_633 : decode code 633 = .ok ((.aload_n 0), 1) := by decide +kernel
theorem dl_634 : decode code 634 = .ok ((.iload_n 3), 1) := by decide +kernel
theorem dl_635 : decode code 635 = .ok ((.iconst 2), 1) := by decide +kernel
theorem dl_636 : decode code 636 = .ok (.iadd, 1) := by decide +kernel
theorem dl_637 : decode code 637 = .ok (.iaload, 1) := by decide +kernel
theorem dl_638 : decode code 638 = .ok ((.invokevirtual 68), 3) := by decide +kernel
theorem dl_641 : decode code 641 = .ok ((.if_icmp .eq 1130), 3) := by decide +kernel
theorem dl_644 : decode code 644 = .ok ((.iconst 0), 1) := by decide +kernel
theorem dl_645 : decode code 645 = .ok (.ireturn, 1) := by decide +kernel
theorem dl_646 : decode code 646 = .ok ((.aload_n 1), 1) := by decide +kernel
theorem dl_647 : decode code 647 = .ok ((.aload_n 0), 1) := by decide +kernel
theorem dl_648 : decode code 648 = .ok ((.iload_n 3), 1) := by decide +kernel
theorem dl_649 : decode code 649 = .ok ((.iconst 1), 1) := by decide +kernel
theorem dl_650 : decode code 650 = .ok (.iadd, 1) := by decide +kernel
theorem dl_651 : decode code 651 = .ok (.iaload, 1) := by decide +kernel
theorem dl_652 : decode code 652 = .ok ((.aload_n 0), 1) := by decide +kernel
theorem dl_653 : decode code 653 = .ok ((.iload_n 3), 1) := by decide +kernel
theorem dl_654 : decode code 654 = .ok ((.iconst 2), 1) := by decide +kernel
theorem dl_655 : decode code 655 = .ok (.iadd, 1) := by decide +kernel
theorem dl_656 : decode code 656 = .ok (.iaload, 1) := by decide +kernel
theorem dl_657 : decode code 657 = .ok ((.aload_n 0), 1) := by decide +kernel
theorem dl_658 : decode code 658 = .ok ((.iload_n 3), 1) := by decide +kernel
theorem dl_659 : decode code 659 = .ok ((.iconst 3), 1) := by decide +kernel
theorem dl_660 : decode code 660 = .ok (.iadd, 1) := by decide +kernel
theorem dl_661 : decode code 661 = .ok (.iaload, 1) := by decide +kernel
theorem dl_662 : decode code 662 = .ok ((.aload_n 0), 1) := by decide +kernel
theorem dl_663 : decode code 663 = .ok ((.iload_n 3), 1) := by decide +kernel
theorem dl_664 : decode code 664 = .ok ((.iconst 4), 1) := by decide +kernel
theorem dl_665 : decode code 665 = .ok (.iadd, 1) := by decide +kernel
theorem dl_666 : decode code 666 = .ok (.iaload, 1) := by decide +kernel
theorem dl_667 : decode code 667 = .ok ((.ifCond .eq 7), 3) := by decide +kernel
theorem dl_670 : decode code 670 = .ok ((.iconst 1), 1) := by decide +kernel
theorem dl_671 : decode code 671 = .ok ((.goto 4), 3) := by decide +kernel
theorem dl_674 : decode code 674 = .ok ((.iconst 0), 1) := by decide +kernel
theorem dl_675 : decode code 675 = .ok ((.invokevirtual 69), 3) := by decide +kernel
theorem dl_678 : decode code 678 = .ok ((.aload_n 2), 1) := by decide +kernel
theorem dl_679 : decode code 679 = .ok ((.aload_n 0), 1) := by decide +kernel
theorem dl_680 : decode code 680 = .ok ((.iload_n 3), 1) := by decide +kernel
theorem dl_681 : decode code 681 = .ok ((.iconst 1), 1) := by decide +kernel
theorem dl_682 : decode code 682 = .ok (.iadd, 1) := by decide +kernel
theorem dl_683 : decode code 683 = .ok (.iaload, 1) := by decide +kernel
theorem dl_684 : decode code 684 = .ok ((.aload_n 0), 1) := by decide +kernel
theorem dl_685 : decode code 685 = .ok ((.iload_n 3), 1) := by decide +kernel
theorem dl_686 : decode code 686 = .ok ((.iconst 2), 1) := by decide +kernel
theorem dl_687 : decode code 687 = .ok (.iadd, 1) := by decide +kernel
theorem dl_688 : decode code 688 = .ok (.iaload, 1) := by decide +kernel
theorem dl_689 : decode code 689 = .ok ((.aload_n 0), 1) := by decide +kernel
theorem dl_690 : decode code 690 = .ok ((.iload_n 3), 1) := by decide +kernel
theorem dl_691 : decode code 691 = .ok ((.iconst 3), 1) := by decide +kernel
theorem dl_692 : decode code 692 = .ok (.iadd, 1) := by decide +kernel
theorem dl_693 : decode code 693 = .ok (.iaload, 1) := by decide +kernel
theorem dl_694 : decode code 694 = .ok ((.aload_n 0), 1) := by decide +kernel
theorem dl_695 : decode code 695 = .ok ((.iload_n 3), 1) := by decide +kernel
theorem dl_696 : decode code 696 = .ok ((.iconst 4), 1) := by decide +kernel
theorem dl_697 : decode code 697 = .ok (.iadd, 1) := by decide +kernel
theorem dl_698 : decode code 698 = .ok (.iaload, 1) := by decide +kernel
theorem dl_699 : decode code 699 = .ok ((.ifCond .eq 7), 3) := by decide +kernel
theorem dl_702 : decode code 702 = .ok ((.iconst 1), 1) := by decide +kernel
theorem dl_703 : decode code 703 = .ok ((.goto 4), 3) := by decide +kernel
theorem dl_706 : decode code 706 = .ok ((.iconst 0), 1) := by decide +kernel
theorem dl_707 : decode code 707 = .ok ((.invokevirtual 73), 3) := by decide +kernel
theorem dl_710 : decode code 710 = .ok ((.if_icmp .eq 1061), 3) := by decide +kernel
theorem dl_713 : decode code 713 = .ok ((.iconst 0), 1) := by decide +kernel
theorem dl_714 : decode code 714 = .ok (.ireturn, 1) := by decide +kernel
theorem dl_715 : decode code 715 = .ok ((.aload_n 1), 1) := by decide +kernel
theorem dl_716 : decode code 716 = .ok ((.aload_n 0), 1) := by decide +kernel
theorem dl_717 : decode code 717 = .ok ((.iload_n 3), 1) := by decide +kernel
theorem dl_718 : decode code 718 = .ok ((.iconst 1), 1) := by decide +kernel
theorem dl_719 : decode code 719 = .ok (.iadd, 1) := by decide +kernel
theorem dl_720 : decode code 720 = .ok (.iaload, 1) := by decide +kernel
theorem dl_721 : decode code 721 = .ok ((.aload_n 0), 1) := by decide +kernel
theorem dl_722 : decode code 722 = .ok ((.iload_n 3), 1) := by decide +kernel
theorem dl_723 : decode code 723 = .ok ((.iconst 2), 1) := by decide +kernel
theorem dl_724 : decode code 724 = .ok (.iadd, 1) := by decide +kernel
theorem dl_725 : decode code 725 = .ok (.iaload, 1) := by decide +kernel
theorem dl_726 : decode code 726 = .ok ((.ifCond .eq 7), 3) := by decide +kernel
theorem dl_729 : decode code 729 = .ok ((.iconst 1), 1) := by decide +kernel
theorem dl_730 : decode code 730 = .ok ((.goto 4), 3) := by decide +kernel
theorem dl_733 : decode code 733 = .ok ((.iconst 0), 1) := by decide +kernel
theorem dl_734 : decode code 734 = .ok ((.aload_n 0), 1) := by decide +kernel
theorem dl_735 : decode code 735 = .ok ((.iload_n 3), 1) := by decide +kernel
theorem dl_736 : decode code 736 = .ok ((.iconst 3), 1) := by decide +kernel
theorem dl_737 : decode code 737 = .ok (.iadd, 1) := by decide +kernel
theorem dl_738 : decode code 738 = .ok (.iaload, 1) := by decide +kernel
theorem dl_739 : decode code 739 = .ok ((.aload_n 0), 1) := by decide +kernel
theorem dl_740 : decode code 740 = .ok ((.iload_n 3), 1) := by decide +kernel
theorem dl_741 : decode code 741 = .ok ((.iconst 4), 1) := by decide +kernel
theorem dl_742 : decode code 742 = .ok (.iadd, 1) := by decide +kernel
theorem dl_743 : decode code 743 = .ok (.iaload, 1) := by decide +kernel
theorem dl_744 : decode code 744 = .ok ((.ifCond .eq 7), 3) := by decide +kernel
theorem dl_747 : decode code 747 = .ok ((.iconst 1), 1) := by decide +kernel
theorem dl_748 : decode code 748 = .ok ((.goto 4), 3) := by decide +kernel
theorem dl_751 : decode code 751 = .ok ((.iconst 0), 1) := by decide +kernel
theorem dl_752 : decode code 752 = .ok ((.invokevirtual 74), 3) := by decide +kernel
theorem dl_755 : decode code 755 = .ok ((.aload_n 2), 1) := by decide +kernel
theorem dl_756 : decode code 756 = .ok ((.aload_n 0), 1) := by decide +kernel
theorem dl_757 : decode code 757 = .ok ((.iload_n 3), 1) := by decide +kernel
theorem dl_758 : decode code 758 = .ok ((.iconst 1), 1) := by decide +kernel
theorem dl_759 : decode code 759 = .ok (.iadd, 1) := by decide +kernel
theorem dl_760 : decode code 760 = .ok (.iaload, 1) := by decide +kernel
theorem dl_761 : decode code 761 = .ok ((.aload_n 0), 1) := by decide +kernel
theorem dl_762 : decode code 762 = .ok ((.iload_n 3), 1) := by decide +kernel
theorem dl_763 : decode code 763 = .ok ((.iconst 2), 1) := by decide +kernel
theorem dl_764 : decode code 764 = .ok (.iadd, 1) := by decide +kernel
theorem dl_765 : decode code 765 = .ok (.iaload, 1) := by decide +kernel
theorem dl_766 : decode code 766 = .ok ((.ifCond .eq 7), 3) := by decide +kernel
theorem dl_769 : decode code 769 = .ok ((.iconst 1), 1) := by decide +kernel
theorem dl_770 : decode code 770 = .ok ((.goto 4), 3) := by decide +kernel
theorem dl_773 : decode code 773 = .ok ((.iconst 0), 1) := by decide +kernel
theorem dl_774 : decode code 774 = .ok ((.aload_n 0), 1) := by decide +kernel
theorem dl_775 : decode code 775 = .ok ((.iload_n 3), 1) := by decide +kernel
theorem dl_776 : decode code 776 = .ok ((.iconst 3), 1) := by decide +kernel
theorem dl_777 : decode code 777 = .ok (.iadd, 1) := by decide +kernel
theorem dl_778 : decode code 778 = .ok (.iaload, 1) := by decide +kernel
theorem dl_779 : decode code 779 = .ok ((.aload_n 0), 1) := by decide +kernel
theorem dl_780 : decode code 780 = .ok ((.iload_n 3), 1) := by decide +kernel
theorem dl_781 : decode code 781 = .ok ((.iconst 4), 1) := by decide +kernel
theorem dl_782 : decode code 782 = .ok (.iadd, 1) := by decide +kernel
theorem dl_783 : decode code 783 = .ok (.iaload, 1) := by decide +kernel
theorem dl_784 : decode code 784 = .ok ((.ifCond .eq 7), 3) := by decide +kernel
theorem dl_787 : decode code 787 = .ok ((.iconst 1), 1) := by decide +kernel
theorem dl_788 : decode code 788 = .ok ((.goto 4), 3) := by decide +kernel
theorem dl_791 : decode code 791 = .ok ((.iconst 0), 1) := by decide +kernel
theorem dl_792 : decode code 792 = .ok ((.invokevirtual 78), 3) := by decide +kernel
theorem dl_795 : decode code 795 = .ok ((.if_icmp .eq 976), 3) := by decide +kernel
theorem dl_798 : decode code 798 = .ok ((.iconst 0), 1) := by decide +kernel
theorem dl_799 : decode code 799 = .ok (.ireturn, 1) := by decide +kernel
theorem dl_800 : decode code 800 = .ok ((.aload_n 1), 1) := by decide +kernel
theorem dl_801 : decode code 801 = .ok ((.aload_n 0), 1) := by decide +kernel
theorem dl_802 : decode code 802 = .ok ((.iload_n 3), 1) := by decide +kernel
theorem dl_803 : decode code 803 = .ok ((.iconst 1), 1) := by decide +kernel
theorem dl_804 : decode code 804 = .ok (.iadd, 1) := by decide +kernel
theorem dl_805 : decode code 805 = .ok (.iaload, 1) := by decide +kernel
theorem dl_806 : decode code 806 = .ok ((.invokevirtual 79), 3) := by decide +kernel
theorem dl_809 : decode code 809 = .ok ((.aload_n 2), 1) := by decide +kernel
theorem dl_810 : decode code 810 = .ok ((.aload_n 0), 1) := by decide +kernel
theorem dl_811 : decode code 811 = .ok ((.iload_n 3), 1) := by decide +kernel
theorem dl_812 : decode code 812 = .ok ((.iconst 1), 1) := by decide +kernel
theorem dl_813 : decode code 813 = .ok (.iadd, 1) := by decide +kernel
theorem dl_814 : decode code 814 = .ok (.iaload, 1) := by decide +kernel
theorem dl_815 : decode code 815 = .ok ((.invokevirtual 82), 3) := by decide +kernel
theorem dl_818 : decode code 818 = .ok ((.if_icmp .eq 953), 3) := by decide +kernel
theorem dl_821 : decode code 821 = .ok ((.iconst 0), 1) := by decide +kernel
theorem dl_822 : decode code 822 = .ok (.ireturn, 1) := by decide +kernel
theorem dl_823 : decode code 823 = .ok ((.aload_n 1), 1) := by decide +kernel
theorem dl_824 : decode code 824 = .ok ((.aload_n 0), 1) := by decide +kernel
theorem dl_825 : decode code 825 = .ok ((.iload_n 3), 1) := by decide +kernel
theorem dl_826 : decode code 826 = .ok ((.iconst 1), 1) := by decide +kernel
theorem dl_827 : decode code 827 = .ok (.iadd, 1) := by decide +kernel
theorem dl_828 : decode code 828 = .ok (.iaload, 1) := by decide +kernel
theorem dl_829 : decode code 829 = .ok ((.aload_n 0), 1) := by decide +kernel
theorem dl_830 : decode code 830 = .ok ((.iload_n 3), 1) := by decide +kernel
theorem dl_831 : decode code 831 = .ok ((.iconst 2), 1) := by decide +kernel
theorem dl_832 : decode code 832 = .ok (.iadd, 1) := by decide +kernel
theorem dl_833 : decode code 833 = .ok (.iaload, 1) := by decide +kernel
theorem dl_834 : decode code 834 = .ok ((.aload_n 0), 1) := by decide +kernel
theorem dl_835 : decode code 835 = .ok ((.iload_n 3), 1) := by decide +kernel
theorem dl_836 : decode code 836 = .ok ((.iconst 3), 1) := by decide +kernel
theorem dl_837 : decode code 837 = .ok (.iadd, 1) := by decide +kernel
theorem dl_838 : decode code 838 = .ok (.iaload, 1) := by decide +kernel
theorem dl_839 : decode code 839 = .ok ((.ifCond .eq 7), 3) := by decide +kernel
theorem dl_842 : decode code 842 = .ok ((.iconst 1), 1) := by decide +kernel
theorem dl_843 : decode code 843 = .ok ((.goto 4), 3) := by decide +kernel
theorem dl_846 : decode code 846 = .ok ((.iconst 0), 1) := by decide +kernel
theorem dl_847 : decode code 847 = .ok ((.invokevirtual 83), 3) := by decide +kernel
theorem dl_850 : decode code 850 = .ok ((.aload_n 2), 1) := by decide +kernel
theorem dl_851 : decode code 851 = .ok ((.aload_n 0), 1) := by decide +kernel
theorem dl_852 : decode code 852 = .ok ((.iload_n 3), 1) := by decide +kernel
theorem dl_853 : decode code 853 = .ok ((.iconst 1), 1) := by decide +kernel
theorem dl_854 : decode code 854 = .ok (.iadd, 1) := by decide +kernel
theorem dl_855 : decode code 855 = .ok (.iaload, 1) := by decide +kernel
theorem dl_856 : decode code 856 = .ok ((.aload_n 0), 1) := by decide +kernel
theorem dl_857 : decode code 857 = .ok ((.iload_n 3), 1) := by decide +kernel
theorem dl_858 : decode code 858 = .ok ((.iconst 2), 1) := by decide +kernel
theorem dl_859 : decode code 859 = .ok (.iadd, 1) := by decide +kernel
theorem dl_860 : decode code 860 = .ok (.iaload, 1) := by decide +kernel
theorem dl_861 : decode code 861 = .ok ((.aload_n 0), 1) := by decide +kernel
theorem dl_862 : decode code 862 = .ok ((.iload_n 3), 1) := by decide +kernel
theorem dl_863 : decode code 863 = .ok ((.iconst 3), 1) := by decide +kernel
theorem dl_864 : decode code 864 = .ok (.iadd, 1) := by decide +kernel
theorem dl_865 : decode code 865 = .ok (.iaload, 1) := by decide +kernel
theorem dl_866 : decode code 866 = .ok ((.ifCond .eq 7), 3) := by decide +kernel
theorem dl_869 : decode code 869 = .ok ((.iconst 1), 1) := by decide +kernel
theorem dl_870 : decode code 870 = .ok ((.goto 4), 3) := by decide +kernel
theorem dl_873 : decode code 873 = .ok ((.iconst 0), 1) := by decide +kernel
theorem dl_874 : decode code 874 = .ok ((.invokevirtual 87), 3) := by decide +kernel
theorem dl_877 : decode code 877 = .ok ((.if_icmp .eq 894), 3) := by decide +kernel
theorem dl_880 : decode code 880 = .ok ((.iconst 0), 1) := by decide +kernel
theorem dl_881 : decode code 881 = .ok (.ireturn, 1) := by decide +kernel
theorem dl_882 : decode code 882 = .ok ((.aload_n 1), 1) := by decide +kernel
theorem dl_883 : decode code 883 = .ok ((.aload_n 0), 1) := by decide +kernel
theorem dl_884 : decode code 884 = .ok ((.iload_n 3), 1) := by decide +kernel
theorem dl_885 : decode code 885 = .ok ((.iconst 1), 1) := by decide +kernel
theorem dl_886 : decode code 886 = .ok (.iadd, 1) := by decide +kernel
theorem dl_887 : decode code 887 = .ok (.iaload, 1) := by decide +kernel
theorem dl_888 : decode code 888 = .ok ((.invokevirtual 88), 3) := by decide +kernel
theorem dl_891 : decode code 891 = .ok ((.aload_n 2), 1) := by decide +kernel
theorem dl_892 : decode code 892 = .ok ((.aload_n 0), 1) := by decide +kernel
theorem dl_893 : decode code 893 = .ok ((.iload_n 3), 1) := by decide +kernel
theorem dl_894 : decode code 894 = .ok ((.iconst 1), 1) := by decide +kernel
theorem dl_895 : decode code 895 = .ok (.iadd, 1) := by decide +kernel
theorem dl_896 : decode code 896 = .ok (.iaload, 1) := by decide +kernel
theorem dl_897 : decode code 897 = .ok ((.invokevirtual 91), 3) := by decide +kernel
theorem dl_900 : decode code 900 = .ok ((.if_icmp .eq 871), 3) := by decide +kernel
theorem dl_903 : decode code 903 = .ok ((.iconst 0), 1) := by decide +kernel
theorem dl_904 : decode code 904 = .ok (.ireturn, 1) := by decide +kernel
theorem dl_905 : decode code 905 = .ok ((.aload_n 1), 1) := by decide +kernel
theorem dl_906 : decode code 906 = .ok ((.aload_n 0), 1) := by decide +kernel
theorem dl_907 : decode code 907 = .ok ((.iload_n 3), 1) := by decide +kernel
theorem dl_908 : decode code 908 = .ok ((.iconst 1), 1) := by decide +kernel
theorem dl_909 : decode code 909 = .ok (.iadd, 1) := by decide +kernel
theorem dl_910 : decode code 910 = .ok (.iaload, 1) := by decide +kernel
theorem dl_911 : decode code 911 = .ok ((.invokevirtual 92), 3) := by decide +kernel
theorem dl_914 : decode code 914 = .ok ((.aload_n 2), 1) := by decide +kernel
theorem dl_915 : decode code 915 = .ok ((.aload_n 0), 1) := by decide +kernel
theorem dl_916 : decode code 916 = .ok ((.iload_n 3), 1) := by decide +kernel
theorem dl_917 : decode code 917 = .ok ((.iconst 1), 1) := by decide +kernel
theorem dl_918 : decode code 918 = .ok (.iadd, 1) := by decide +kernel
theorem dl_919 : decode code 919 = .ok (.iaload, 1) := by decide +kernel
theorem dl_920 : decode code 920 = .ok ((.invokevirtual 95), 3) := by decide +kernel
theorem dl_923 : decode code 923 = .ok ((.if_icmp .eq 848), 3) := by decide +kernel
theorem dl_926 : decode code 926 = .ok ((.iconst 0), 1) := by decide +kernel
theorem dl_927 : decode code 927 = .ok (.ireturn, 1) := by decide +kernel
theorem dl_928 : decode code 928 = .ok ((.aload_n 1), 1) := by decide +kernel
theorem dl_929 : decode code 929 = .ok ((.aload_n 0), 1) := by decide +kernel
theorem dl_930 : decode code 930 = .ok ((.iload_n 3), 1) := by decide +kernel
theorem dl_931 : decode code 931 = .ok ((.iconst 1), 1) := by decide +kernel
theorem dl_932 : decode code 932 = .ok (.iadd, 1) := by decide +kernel
theorem dl_933 : decode code 933 = .ok (.iaload, 1) := by decide +kernel
theorem dl_934 : decode code 934 = .ok ((.invokevirtual 96), 3) := by decide +kernel
theorem dl_937 : decode code 937 = .ok ((.aload_n 2), 1) := by decide +kernel
theorem dl_938 : decode code 938 = .ok ((.aload_n 0), 1) := by decide +kernel
theorem dl_939 : decode code 939 = .ok ((.iload_n 3), 1) := by decide +kernel
theorem dl_940 : decode code 940 = .ok ((.iconst 1), 1) := by decide +kernel
theorem dl_941 : decode code 941 = .ok (.iadd, 1) := by decide +kernel
theorem dl_942 : decode code 942 = .ok (.iaload, 1) := by decide +kernel
theorem dl_943 : decode code 943 = .ok ((.invokevirtual 99), 3) := by decide +kernel
theorem dl_946 : decode code 946 = .ok ((.if_icmp .eq 825), 3) := by decide +kernel
theorem dl_949 : decode code 949 = .ok ((.iconst 0), 1) := by decide +kernel
theorem dl_950 : decode code 950 = .ok (.ireturn, 1) := by decide +kernel
theorem dl_951 : decode code 951 = .ok ((.aload_n 1), 1) := by decide +kernel
theorem dl_952 : decode code 952 = .ok ((.aload_n 0), 1) := by decide +kernel
theorem dl_953 : decode code 953 = .ok ((.iload_n 3), 1) := by decide +kernel
theorem dl_954 : decode code 954 = .ok ((.iconst 1), 1) := by decide +kernel
theorem dl_955 : decode code 955 = .ok (.iadd, 1) := by decide +kernel
theorem dl_956 : decode code 956 = .ok (.iaload, 1) := by decide +kernel
theorem dl_957 : decode code 957 = .ok ((.invokevirtual 100), 3) := by decide +kernel
theorem dl_960 : decode code 960 = .ok ((.aload_n 2), 1) := by decide +kernel
theorem dl_961 : decode code 961 = .ok ((.aload_n 0), 1) := by decide +kernel
theorem dl_962 : decode code 962 = .ok ((.iload_n 3), 1) := by decide +kernel
theorem dl_963 : decode code 963 = .ok ((.iconst 1), 1) := by decide +kernel
theorem dl_964 : decode code 964 = .ok (.iadd, 1) := by decide +kernel
theorem dl_965 : decode code 965 = .ok (.iaload, 1) := by decide +kernel
theorem dl_966 : decode code 966 = .ok ((.invokevirtual 103), 3) := by decide +kernel
theorem dl_969 : decode code 969 = .ok ((.if_icmp .eq 802), 3) := by decide +kernel
theorem dl_972 : decode code 972 = .ok ((.iconst 0), 1) := by decide +kernel
theorem dl_973 : decode code 973 = .ok (.ireturn, 1) := by decide +kernel
theorem dl_974 : decode code 974 = .ok ((.aload_n 1), 1) := by decide +kernel
theorem dl_975 : decode code 975 = .ok ((.aload_n 0), 1) := by decide +kernel
theorem dl_976 : decode code 976 = .ok ((.iload_n 3), 1) := by decide +kernel
theorem dl_977 : decode code 977 = .ok ((.iconst 1), 1) := by decide +kernel
theorem dl_978 : decode code 978 = .ok (.iadd, 1) := by decide +kernel
theorem dl_979 : decode code 979 = .ok (.iaload, 1) := by decide +kernel
theorem dl_980 : decode code 980 = .ok ((.aload_n 0), 1) := by decide +kernel
theorem dl_981 : decode code 981 = .ok ((.iload_n 3), 1) := by decide +kernel
theorem dl_982 : decode code 982 = .ok ((.iconst 2), 1) := by decide +kernel
theorem dl_983 : decode code 983 = .ok (.iadd, 1) := by decide +kernel
theorem dl_984 : decode code 984 = .ok (.iaload, 1) := by decide +kernel
theorem dl_985 : decode code 985 = .ok ((.ifCond .eq 7), 3) := by decide +kernel
theorem dl_988 : decode code 988 = .ok ((.iconst 1), 1) := by decide +kernel
theorem dl_989 : decode code 989 = .ok ((.goto 4), 3) := by decide +kernel
theorem dl_992 : decode code 992 = .ok ((.iconst 0), 1) := by decide +kernel
theorem dl_993 : decode code 993 = .ok ((.invokevirtual 104), 3) := by decide +kernel
theorem dl_996 : decode code 996 = .ok ((.aload_n 2), 1) := by decide +kernel
theorem dl_997 : decode code 997 = .ok ((.aload_n 0), 1) := by decide +kernel
theorem dl_998 : decode code 998 = .ok ((.iload_n 3), 1) := by decide +kernel
theorem dl_999 : decode code 999 = .ok ((.iconst 1), 1) := by decide +kernel
theorem dl_1000 : decode code 1000 = .ok (.iadd, 1) := by decide +kernel
theorem dl_1001 : decode code 1001 = .ok (.iaload, 1) := by decide +kernel
theorem dl_1002 : decode code 1002 = .ok ((.aload_n 0), 1) := by decide +kernel
theorem dl_1003 : decode code 1003 = .ok ((.iload_n 3), 1) := by decide +kernel
theorem dl_1004 : decode code 1004 = .ok ((.iconst 2), 1) := by decide +kernel
theorem dl_1005 : decode code 1005 = .ok (.iadd, 1) := by decide +kernel
theorem dl_1006 : decode code 1006 = .ok (.iaload, 1) := by decide +kernel
theorem dl_1007 : decode code 1007 = .ok ((.ifCond .eq 7), 3) := by decide +kernel
theorem dl_1010 : decode code 1010 = .ok ((.iconst 1), 1) := by decide +kernel
theorem dl_1011 : decode code 1011 = .ok ((.goto 4), 3) := by decide +kernel
theorem dl_1014 : decode code 1014 = .ok ((.iconst 0), 1) := by decide +kernel
theorem dl_1015 : decode code 1015 = .ok ((.invokevirtual 108), 3) := by decide +kernel
theorem dl_1018 : decode code 1018 = .ok ((.if_icmp .eq 753), 3) := by decide +kernel
theorem dl_1021 : decode code 1021 = .ok ((.iconst 0), 1) := by decide +kernel
theorem dl_1022 : decode code 1022 = .ok (.ireturn, 1) := by decide +kernel
theorem dl_1023 : decode code 1023 = .ok ((.aload_n 1), 1) := by decide +kernel
theorem dl_1024 : decode code 1024 = .ok ((.aload_n 0), 1) := by decide +kernel
theorem dl_1025 : decode code 1025 = .ok ((.iload_n 3), 1) := by decide +kernel
theorem dl_1026 : decode code 1026 = .ok ((.iconst 1), 1) := by decide +kernel
theorem dl_1027 : decode code 1027 = .ok (.iadd, 1) := by decide +kernel
theorem dl_1028 : decode code 1028 = .ok (.iaload, 1) := by decide +kernel
theorem dl_1029 : decode code 1029 = .ok ((.aload_n 0), 1) := by decide +kernel
