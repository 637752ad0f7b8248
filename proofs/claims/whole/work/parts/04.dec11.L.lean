theorem d_L_law_601 : decode b_L_law 601 = .ok (.iconst 1, 1) := by decide +kernel
theorem d_L_law_602 : decode b_L_law 602 = .ok (.iadd, 1) := by decide +kernel
theorem d_L_law_603 : decode b_L_law 603 = .ok (.iaload, 1) := by decide +kernel
theorem d_L_law_604 : decode b_L_law 604 = .ok (.aload_n 0, 1) := by decide +kernel
theorem d_L_law_605 : decode b_L_law 605 = .ok (.iload_n 3, 1) := by decide +kernel
theorem d_L_law_606 : decode b_L_law 606 = .ok (.iconst 2, 1) := by decide +kernel
theorem d_L_law_607 : decode b_L_law 607 = .ok (.iadd, 1) := by decide +kernel
theorem d_L_law_608 : decode b_L_law 608 = .ok (.iaload, 1) := by decide +kernel
theorem d_L_law_609 : decode b_L_law 609 = .ok (.aload_n 0, 1) := by decide +kernel
theorem d_L_law_610 : decode b_L_law 610 = .ok (.iload_n 3, 1) := by decide +kernel
theorem d_L_law_611 : decode b_L_law 611 = .ok (.iconst 3, 1) := by decide +kernel
theorem d_L_law_612 : decode b_L_law 612 = .ok (.iadd, 1) := by decide +kernel
theorem d_L_law_613 : decode b_L_law 613 = .ok (.iaload, 1) := by decide +kernel
theorem d_L_law_614 : decode b_L_law 614 = .ok (.aload_n 0, 1) := by decide +kernel
theorem d_L_law_615 : decode b_L_law 615 = .ok (.iload_n 3, 1) := by decide +kernel
theorem d_L_law_616 : decode b_L_law 616 = .ok (.iconst 4, 1) := by decide +kernel
theorem d_L_law_617 : decode b_L_law 617 = .ok (.iadd, 1) := by decide +kernel
theorem d_L_law_618 : decode b_L_law 618 = .ok (.iaload, 1) := by decide +kernel
theorem d_L_law_619 : decode b_L_law 619 = .ok (.invokevirtual 77, 3) := by decide +kernel
theorem d_L_law_622 : decode b_L_law 622 = .ok (.aload_n 2, 1) := by decide +kernel
theorem d_L_law_623 : decode b_L_law 623 = .ok (.aload_n 0, 1) := by decide +kernel
theorem d_L_law_624 : decode b_L_law 624 = .ok (.iload_n 3, 1) := by decide +kernel
theorem d_L_law_625 : decode b_L_law 625 = .ok (.iconst 1, 1) := by decide +kernel
theorem d_L_law_626 : decode b_L_law 626 = .ok (.iadd, 1) := by decide +kernel
theorem d_L_law_627 : decode b_L_law 627 = .ok (.iaload, 1) := by decide +kernel
theorem d_L_law_628 : decode b_L_law 628 = .ok (.aload_n 0, 1) := by decide +kernel
theorem d_L_law_629 : decode b_L_law 629 = .ok (.iload_n 3, 1) := by decide +kernel
theorem d_L_law_630 : decode b_L_law 630 = .ok (.iconst 2, 1) := by decide +kernel
theorem d_L_law_631 : decode b_L_law 631 = .ok (.iadd, 1) := by decide +kernel
theorem d_L_law_632 : decode b_L_law 632 = .ok (.iaload, 1) := by decide +kernel
theorem d_L_law_633 : decode b_L_law 633 = .ok (.aload_n 0, 1) := by decide +kernel
theorem d_L_law_634 : decode b_L_law 634 = .ok (.iload_n 3, 1) := by decide +kernel
theorem d_L_law_635 : decode b_L_law 635 = .ok (.iconst 3, 1) := by decide +kernel
theorem d_L_law_636 : decode b_L_law 636 = .ok (.iadd, 1) := by decide +kernel
theorem d_L_law_637 : decode b_L_law 637 = .ok (.iaload, 1) := by decide +kernel
theorem d_L_law_638 : decode b_L_law 638 = .ok (.aload_n 0, 1) := by decide +kernel
theorem d_L_law_639 : decode b_L_law 639 = .ok (.iload_n 3, 1) := by decide +kernel
theorem d_L_law_640 : decode b_L_law 640 = .ok (.iconst 4, 1) := by decide +kernel
theorem d_L_law_641 : decode b_L_law 641 = .ok (.iadd, 1) := by decide +kernel
theorem d_L_law_642 : decode b_L_law 642 = .ok (.iaload, 1) := by decide +kernel
theorem d_L_law_643 : decode b_L_law 643 = .ok (.invokevirtual 81, 3) := by decide +kernel
theorem d_L_law_646 : decode b_L_law 646 = .ok (.if_icmp .eq 226, 3) := by decide +kernel
theorem d_L_law_649 : decode b_L_law 649 = .ok (.iconst 0, 1) := by decide +kernel
theorem d_L_law_650 : decode b_L_law 650 = .ok (.ireturn, 1) := by decide +kernel
theorem d_L_law_651 : decode b_L_law 651 = .ok (.aload_n 1, 1) := by decide +kernel
theorem d_L_law_652 : decode b_L_law 652 = .ok (.aload_n 0, 1) := by decide +kernel
theorem d_L_law_653 : decode b_L_law 653 = .ok (.iload_n 3, 1) := by decide +kernel
theorem d_L_law_654 : decode b_L_law 654 = .ok (.iconst 1, 1) := by decide +kernel
theorem d_L_law_655 : decode b_L_law 655 = .ok (.iadd, 1) := by decide +kernel
theorem d_L_law_656 : decode b_L_law 656 = .ok (.iaload, 1) := by decide +kernel
theorem d_L_law_657 : decode b_L_law 657 = .ok (.aload_n 0, 1) := by decide +kernel
theorem d_L_law_658 : decode b_L_law 658 = .ok (.iload_n 3, 1) := by decide +kernel
theorem d_L_law_659 : decode b_L_law 659 = .ok (.iconst 2, 1) := by decide +kernel
theorem d_L_law_660 : decode b_L_law 660 = .ok (.iadd, 1) := by decide +kernel
theorem d_L_law_661 : decode b_L_law 661 = .ok (.iaload, 1) := by decide +kernel
theorem d_L_law_662 : decode b_L_law 662 = .ok (.invokevirtual 82, 3) := by decide +kernel
theorem d_L_law_665 : decode b_L_law 665 = .ok (.aload_n 2, 1) := by decide +kernel
theorem d_L_law_666 : decode b_L_law 666 = .ok (.aload_n 0, 1) := by decide +kernel
theorem d_L_law_667 : decode b_L_law 667 = .ok (.iload_n 3, 1) := by decide +kernel
theorem d_L_law_668 : decode b_L_law 668 = .ok (.iconst 1, 1) := by decide +kernel
theorem d_L_law_669 : decode b_L_law 669 = .ok (.iadd, 1) := by decide +kernel
theorem d_L_law_670 : decode b_L_law 670 = .ok (.iaload, 1) := by decide +kernel
theorem d_L_law_671 : decode b_L_law 671 = .ok (.aload_n 0, 1) := by decide +kernel
theorem d_L_law_672 : decode b_L_law 672 = .ok (.iload_n 3, 1) := by decide +kernel
theorem d_L_law_673 : decode b_L_law 673 = .ok (.iconst 2, 1) := by decide +kernel
theorem d_L_law_674 : decode b_L_law 674 = .ok (.iadd, 1) := by decide +kernel
theorem d_L_law_675 : decode b_L_law 675 = .ok (.iaload, 1) := by decide +kernel
theorem d_L_law_676 : decode b_L_law 676 = .ok (.invokevirtual 86, 3) := by decide +kernel
theorem d_L_law_679 : decode b_L_law 679 = .ok (.if_icmp .eq 193, 3) := by decide +kernel
theorem d_L_law_682 : decode b_L_law 682 = .ok (.iconst 0, 1) := by decide +kernel
theorem d_L_law_683 : decode b_L_law 683 = .ok (.ireturn, 1) := by decide +kernel
theorem d_L_law_684 : decode b_L_law 684 = .ok (.aload_n 1, 1) := by decide +kernel
theorem d_L_law_685 : decode b_L_law 685 = .ok (.aload_n 0, 1) := by decide +kernel
theorem d_L_law_686 : decode b_L_law 686 = .ok (.iload_n 3, 1) := by decide +kernel
theorem d_L_law_687 : decode b_L_law 687 = .ok (.iconst 1, 1) := by decide +kernel
theorem d_L_law_688 : decode b_L_law 688 = .ok (.iadd, 1) := by decide +kernel
theorem d_L_law_689 : decode b_L_law 689 = .ok (.iaload, 1) := by decide +kernel
theorem d_L_law_690 : decode b_L_law 690 = .ok (.aload_n 0, 1) := by decide +kernel
theorem d_L_law_691 : decode b_L_law 691 = .ok (.iload_n 3, 1) := by decide +kernel
theorem d_L_law_692 : decode b_L_law 692 = .ok (.iconst 2, 1) := by decide +kernel
theorem d_L_law_693 : decode b_L_law 693 = .ok (.iadd, 1) := by decide +kernel
theorem d_L_law_694 : decode b_L_law 694 = .ok (.iaload, 1) := by decide +kernel
theorem d_L_law_695 : decode b_L_law 695 = .ok (.invokevirtual 87, 3) := by decide +kernel
theorem d_L_law_698 : decode b_L_law 698 = .ok (.aload_n 2, 1) := by decide +kernel
theorem d_L_law_699 : decode b_L_law 699 = .ok (.aload_n 0, 1) := by decide +kernel
theorem d_L_law_700 : decode b_L_law 700 = .ok (.iload_n 3, 1) := by decide +kernel
theorem d_L_law_701 : decode b_L_law 701 = .ok (.iconst 1, 1) := by decide +kernel
theorem d_L_law_702 : decode b_L_law 702 = .ok (.iadd, 1) := by decide +kernel
theorem d_L_law_703 : decode b_L_law 703 = .ok (.iaload, 1) := by decide +kernel
theorem d_L_law_704 : decode b_L_law 704 = .ok (.aload_n 0, 1) := by decide +kernel
theorem d_L_law_705 : decode b_L_law 705 = .ok (.iload_n 3, 1) := by decide +kernel
theorem d_L_law_706 : decode b_L_law 706 = .ok (.iconst 2, 1) := by decide +kernel
theorem d_L_law_707 : decode b_L_law 707 = .ok (.iadd, 1) := by decide +kernel
theorem d_L_law_708 : decode b_L_law 708 = .ok (.iaload, 1) := by decide +kernel
theorem d_L_law_709 : decode b_L_law 709 = .ok (.invokevirtual 91, 3) := by decide +kernel
theorem d_L_law_712 : decode b_L_law 712 = .ok (.if_icmp .eq 160, 3) := by decide +kernel
theorem d_L_law_715 : decode b_L_law 715 = .ok (.iconst 0, 1) := by decide +kernel
theorem d_L_law_716 : decode b_L_law 716 = .ok (.ireturn, 1) := by decide +kernel
theorem d_L_law_717 : decode b_L_law 717 = .ok (.aload_n 1, 1) := by decide +kernel
theorem d_L_law_718 : decode b_L_law 718 = .ok (.aload_n 0, 1) := by decide +kernel
theorem d_L_law_719 : decode b_L_law 719 = .ok (.iload_n 3, 1) := by decide +kernel
theorem d_L_law_720 : decode b_L_law 720 = .ok (.iconst 1, 1) := by decide +kernel
theorem d_L_law_721 : decode b_L_law 721 = .ok (.iadd, 1) := by decide +kernel
theorem d_L_law_722 : decode b_L_law 722 = .ok (.iaload, 1) := by decide +kernel
theorem d_L_law_723 : decode b_L_law 723 = .ok (.invokevirtual 92, 3) := by decide +kernel
theorem d_L_law_726 : decode b_L_law 726 = .ok (.aload_n 2, 1) := by decide +kernel
theorem d_L_law_727 : decode b_L_law 727 = .ok (.aload_n 0, 1) := by decide +kernel
theorem d_L_law_728 : decode b_L_law 728 = .ok (.iload_n 3, 1) := by decide +kernel
theorem d_L_law_729 : decode b_L_law 729 = .ok (.iconst 1, 1) := by decide +kernel
theorem d_L_law_730 : decode b_L_law 730 = .ok (.iadd, 1) := by decide +kernel
theorem d_L_law_731 : decode b_L_law 731 = .ok (.iaload, 1) := by decide +kernel
theorem d_L_law_732 : decode b_L_law 732 = .ok (.invokevirtual 95, 3) := by decide +kernel
theorem d_L_law_735 : decode b_L_law 735 = .ok (.if_icmp .eq 137, 3) := by decide +kernel
theorem d_L_law_738 : decode b_L_law 738 = .ok (.iconst 0, 1) := by decide +kernel
theorem d_L_law_739 : decode b_L_law 739 = .ok (.ireturn, 1) := by decide +kernel
theorem d_L_law_740 : decode b_L_law 740 = .ok (.aload_n 1, 1) := by decide +kernel
theorem d_L_law_741 : decode b_L_law 741 = .ok (.aload_n 0, 1) := by decide +kernel
theorem d_L_law_742 : decode b_L_law 742 = .ok (.iload_n 3, 1) := by decide +kernel
theorem d_L_law_743 : decode b_L_law 743 = .ok (.iconst 1, 1) := by decide +kernel
theorem d_L_law_744 : decode b_L_law 744 = .ok (.iadd, 1) := by decide +kernel
theorem d_L_law_745 : decode b_L_law 745 = .ok (.iaload, 1) := by decide +kernel
theorem d_L_law_746 : decode b_L_law 746 = .ok (.aload_n 0, 1) := by decide +kernel
theorem d_L_law_747 : decode b_L_law 747 = .ok (.iload_n 3, 1) := by decide +kernel
theorem d_L_law_748 : decode b_L_law 748 = .ok (.iconst 2, 1) := by decide +kernel
theorem d_L_law_749 : decode b_L_law 749 = .ok (.iadd, 1) := by decide +kernel
theorem d_L_law_750 : decode b_L_law 750 = .ok (.iaload, 1) := by decide +kernel
theorem d_L_law_751 : decode b_L_law 751 = .ok (.aload_n 0, 1) := by decide +kernel
theorem d_L_law_752 : decode b_L_law 752 = .ok (.iload_n 3, 1) := by decide +kernel
theorem d_L_law_753 : decode b_L_law 753 = .ok (.iconst 3, 1) := by decide +kernel
theorem d_L_law_754 : decode b_L_law 754 = .ok (.iadd, 1) := by decide +kernel
theorem d_L_law_755 : decode b_L_law 755 = .ok (.iaload, 1) := by decide +kernel
theorem d_L_law_756 : decode b_L_law 756 = .ok (.aload_n 0, 1) := by decide +kernel
theorem d_L_law_757 : decode b_L_law 757 = .ok (.iload_n 3, 1) := by decide +kernel
theorem d_L_law_758 : decode b_L_law 758 = .ok (.iconst 4, 1) := by decide +kernel
theorem d_L_law_759 : decode b_L_law 759 = .ok (.iadd, 1) := by decide +kernel
theorem d_L_law_760 : decode b_L_law 760 = .ok (.iaload, 1) := by decide +kernel
theorem d_L_law_761 : decode b_L_law 761 = .ok (.invokevirtual 96, 3) := by decide +kernel
theorem d_L_law_764 : decode b_L_law 764 = .ok (.aload_n 2, 1) := by decide +kernel
theorem d_L_law_765 : decode b_L_law 765 = .ok (.aload_n 0, 1) := by decide +kernel
theorem d_L_law_766 : decode b_L_law 766 = .ok (.iload_n 3, 1) := by decide +kernel
theorem d_L_law_767 : decode b_L_law 767 = .ok (.iconst 1, 1) := by decide +kernel
theorem d_L_law_768 : decode b_L_law 768 = .ok (.iadd, 1) := by decide +kernel
theorem d_L_law_769 : decode b_L_law 769 = .ok (.iaload, 1) := by decide +kernel
theorem d_L_law_770 : decode b_L_law 770 = .ok (.aload_n 0, 1) := by decide +kernel
theorem d_L_law_771 : decode b_L_law 771 = .ok (.iload_n 3, 1) := by decide +kernel
theorem d_L_law_772 : decode b_L_law 772 = .ok (.iconst 2, 1) := by decide +kernel
theorem d_L_law_773 : decode b_L_law 773 = .ok (.iadd, 1) := by decide +kernel
theorem d_L_law_774 : decode b_L_law 774 = .ok (.iaload, 1) := by decide +kernel
theorem d_L_law_775 : decode b_L_law 775 = .ok (.aload_n 0, 1) := by decide +kernel
theorem d_L_law_776 : decode b_L_law 776 = .ok (.iload_n 3, 1) := by decide +kernel
theorem d_L_law_777 : decode b_L_law 777 = .ok (.iconst 3, 1) := by decide +kernel
theorem d_L_law_778 : decode b_L_law 778 = .ok (.iadd, 1) := by decide +kernel
theorem d_L_law_779 : decode b_L_law 779 = .ok (.iaload, 1) := by decide +kernel
theorem d_L_law_780 : decode b_L_law 780 = .ok (.aload_n 0, 1) := by decide +kernel
theorem d_L_law_781 : decode b_L_law 781 = .ok (.iload_n 3, 1) := by decide +kernel
theorem d_L_law_782 : decode b_L_law 782 = .ok (.iconst 4, 1) := by decide +kernel
theorem d_L_law_783 : decode b_L_law 783 = .ok (.iadd, 1) := by decide +kernel
theorem d_L_law_784 : decode b_L_law 784 = .ok (.iaload, 1) := by decide +kernel
theorem d_L_law_785 : decode b_L_law 785 = .ok (.invokevirtual 100, 3) := by decide +kernel
theorem d_L_law_788 : decode b_L_law 788 = .ok (.if_icmp .eq 84, 3) := by decide +kernel
theorem d_L_law_791 : decode b_L_law 791 = .ok (.iconst 0, 1) := by decide +kernel
theorem d_L_law_792 : decode b_L_law 792 = .ok (.ireturn, 1) := by decide +kernel
theorem d_L_law_793 : decode b_L_law 793 = .ok (.aload_n 1, 1) := by decide +kernel
theorem d_L_law_794 : decode b_L_law 794 = .ok (.aload_n 0, 1) := by decide +kernel
theorem d_L_law_795 : decode b_L_law 795 = .ok (.iload_n 3, 1) := by decide +kernel
theorem d_L_law_796 : decode b_L_law 796 = .ok (.iconst 1, 1) := by decide +kernel
theorem d_L_law_797 : decode b_L_law 797 = .ok (.iadd, 1) := by decide +kernel
theorem d_L_law_798 : decode b_L_law 798 = .ok (.iaload, 1) := by decide +kernel
theorem d_L_law_799 : decode b_L_law 799 = .ok (.invokevirtual 101, 3) := by decide +kernel
theorem d_L_law_802 : decode b_L_law 802 = .ok (.aload_n 2, 1) := by decide +kernel
theorem d_L_law_803 : decode b_L_law 803 = .ok (.aload_n 0, 1) := by decide +kernel
theorem d_L_law_804 : decode b_L_law 804 = .ok (.iload_n 3, 1) := by decide +kernel
theorem d_L_law_805 : decode b_L_law 805 = .ok (.iconst 1, 1) := by decide +kernel
theorem d_L_law_806 : decode b_L_law 806 = .ok (.iadd, 1) := by decide +kernel
theorem d_L_law_807 : decode b_L_law 807 = .ok (.iaload, 1) := by decide +kernel
theorem d_L_law_808 : decode b_L_law 808 = .ok (.invokevirtual 104, 3) := by decide +kernel
theorem d_L_law_811 : decode b_L_law 811 = .ok (.if_icmp .eq 61, 3) := by decide +kernel
theorem d_L_law_814 : decode b_L_law 814 = .ok (.iconst 0, 1) := by decide +kernel
theorem d_L_law_815 : decode b_L_law 815 = .ok (.ireturn, 1) := by decide +kernel
theorem d_L_law_816 : decode b_L_law 816 = .ok (.aload_n 1, 1) := by decide +kernel
theorem d_L_law_817 : decode b_L_law 817 = .ok (.aload_n 0, 1) := by decide +kernel
theorem d_L_law_818 : decode b_L_law 818 = .ok (.iload_n 3, 1) := by decide +kernel
theorem d_L_law_819 : decode b_L_law 819 = .ok (.iconst 1, 1) := by decide +kernel
theorem d_L_law_820 : decode b_L_law 820 = .ok (.iadd, 1) := by decide +kernel
theorem d_L_law_821 : decode b_L_law 821 = .ok (.iaload, 1) := by decide +kernel
theorem d_L_law_822 : decode b_L_law 822 = .ok (.aload_n 0, 1) := by decide +kernel
theorem d_L_law_823 : decode b_L_law 823 = .ok (.iload_n 3, 1) := by decide +kernel
theorem d_L_law_824 : decode b_L_law 824 = .ok (.iconst 2, 1) := by decide +kernel
theorem d_L_law_825 : decode b_L_law 825 = .ok (.iadd, 1) := by decide +kernel
theorem d_L_law_826 : decode b_L_law 826 = .ok (.iaload, 1) := by decide +kernel
theorem d_L_law_827 : decode b_L_law 827 = .ok (.invokevirtual 105, 3) := by decide +kernel
theorem d_L_law_830 : decode b_L_law 830 = .ok (.aload_n 2, 1) := by decide +kernel
theorem d_L_law_831 : decode b_L_law 831 = .ok (.aload_n 0, 1) := by decide +kernel
theorem d_L_law_832 : decode b_L_law 832 = .ok (.iload_n 3, 1) := by decide +kernel
theorem d_L_law_833 : decode b_L_law 833 = .ok (.iconst 1, 1) := by decide +kernel
theorem d_L_law_834 : decode b_L_law 834 = .ok (.iadd, 1) := by decide +kernel
theorem d_L_law_835 : decode b_L_law 835 = .ok (.iaload, 1) := by decide +kernel
theorem d_L_law_836 : decode b_L_law 836 = .ok (.aload_n 0, 1) := by decide +kernel
theorem d_L_law_837 : decode b_L_law 837 = .ok (.iload_n 3, 1) := by decide +kernel
theorem d_L_law_838 : decode b_L_law 838 = .ok (.iconst 2, 1) := by decide +kernel
theorem d_L_law_839 : decode b_L_law 839 = .ok (.iadd, 1) := by decide +kernel
theorem d_L_law_840 : decode b_L_law 840 = .ok (.iaload, 1) := by decide +kernel
theorem d_L_law_841 : decode b_L_law 841 = .ok (.invokevirtual 108, 3) := by decide +kernel
theorem d_L_law_844 : decode b_L_law 844 = .ok (.if_icmp .eq 28, 3) := by decide +kernel
theorem d_L_law_847 : decode b_L_law 847 = .ok (.iconst 0, 1) := by decide +kernel
theorem d_L_law_848 : decode b_L_law 848 = .ok (.ireturn, 1) := by decide +kernel
theorem d_L_law_849 : decode b_L_law 849 = .ok (.aload_n 1, 1) := by decide +kernel
theorem d_L_law_850 : decode b_L_law 850 = .ok (.aload_n 0, 1) := by decide +kernel
theorem d_L_law_851 : decode b_L_law 851 = .ok (.iload_n 3, 1) := by decide +kernel
theorem d_L_law_852 : decode b_L_law 852 = .ok (.iconst 1, 1) := by decide +kernel
theorem d_L_law_853 : decode b_L_law 853 = .ok (.iadd, 1) := by decide +kernel
theorem d_L_law_854 : decode b_L_law 854 = .ok (.iaload, 1) := by decide +kernel
theorem d_L_law_855 : decode b_L_law 855 = .ok (.invokevirtual 109, 3) := by decide +kernel
theorem d_L_law_858 : decode b_L_law 858 = .ok (.aload_n 2, 1) := by decide +kernel
theorem d_L_law_859 : decode b_L_law 859 = .ok (.aload_n 0, 1) := by decide +kernel
theorem d_L_law_860 : decode b_L_law 860 = .ok (.iload_n 3, 1) := by decide +kernel
theorem d_L_law_861 : decode b_L_law 861 = .ok (.iconst 1, 1) := by decide +kernel
theorem d_L_law_862 : decode b_L_law 862 = .ok (.iadd, 1) := by decide +kernel
theorem d_L_law_863 : decode b_L_law 863 = .ok (.iaload, 1) := by decide +kernel
theorem d_L_law_864 : decode b_L_law 864 = .ok (.invokevirtual 112, 3) := by decide +kernel
theorem d_L_law_867 : decode b_L_law 867 = .ok (.if_icmp .eq 5, 3) := by decide +kernel
theorem d_L_law_870 : decode b_L_law 870 = .ok (.iconst 0, 1) := by decide +kernel
theorem d_L_law_871 : decode b_L_law 871 = .ok (.ireturn, 1) := by decide +kernel
theorem d_L_law_872 : decode b_L_law 872 = .ok (.iinc 3 5, 3) := by decide +kernel
theorem d_L_law_875 : decode b_L_law 875 = .ok (.goto (-857), 3) := by decide +kernel
theorem d_L_law_878 : decode b_L_law 878 = .ok (.iconst 1, 1) := by decide +kernel
theorem d_L_law_879 : decode b_L_law 879 = .ok (.ireturn, 1) := by decide +kernel
theorem d_L_law_32 : decode b_L_law 32 = .ok (.tableswitch 840 0 20 #[100, 153, 196, 219, 262, 285, 329, 363, 387, 421, 494, 528, 552, 566, 619, 652, 685, 708, 761, 784, 817], 100) := by decide +kernel
