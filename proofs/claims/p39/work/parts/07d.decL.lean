theorem dL_law_652 : decode cL_law 652 = .ok (.goto 844, 3) := o167 hcL_law (a := 844) rfl rfl
theorem dL_law_655 : decode cL_law 655 = .ok (.aload_n 1, 1) := o43 hcL_law rfl
theorem dL_law_656 : decode cL_law 656 = .ok (.aload_n 0, 1) := o42 hcL_law rfl
theorem dL_law_657 : decode cL_law 657 = .ok (.iload_n 3, 1) := o29 hcL_law rfl
theorem dL_law_658 : decode cL_law 658 = .ok (.iconst 1, 1) := o4 hcL_law rfl
theorem dL_law_659 : decode cL_law 659 = .ok (.iadd, 1) := o96 hcL_law rfl
theorem dL_law_660 : decode cL_law 660 = .ok (.iaload, 1) := o46 hcL_law rfl
theorem dL_law_661 : decode cL_law 661 = .ok (.invokevirtual 70, 3) := o182 hcL_law rfl
theorem dL_law_664 : decode cL_law 664 = .ok (.pop, 1) := o87 hcL_law rfl
theorem dL_law_665 : decode cL_law 665 = .ok (.aload_n 2, 1) := o44 hcL_law rfl
theorem dL_law_666 : decode cL_law 666 = .ok (.aload_n 0, 1) := o42 hcL_law rfl
theorem dL_law_667 : decode cL_law 667 = .ok (.iload_n 3, 1) := o29 hcL_law rfl
theorem dL_law_668 : decode cL_law 668 = .ok (.iconst 1, 1) := o4 hcL_law rfl
theorem dL_law_669 : decode cL_law 669 = .ok (.iadd, 1) := o96 hcL_law rfl
theorem dL_law_670 : decode cL_law 670 = .ok (.iaload, 1) := o46 hcL_law rfl
theorem dL_law_671 : decode cL_law 671 = .ok (.invokevirtual 73, 3) := o182 hcL_law rfl
theorem dL_law_674 : decode cL_law 674 = .ok (.pop, 1) := o87 hcL_law rfl
theorem dL_law_675 : decode cL_law 675 = .ok (.goto 821, 3) := o167 hcL_law (a := 821) rfl rfl
theorem dL_law_678 : decode cL_law 678 = .ok (.aload_n 1, 1) := o43 hcL_law rfl
theorem dL_law_679 : decode cL_law 679 = .ok (.aload_n 0, 1) := o42 hcL_law rfl
theorem dL_law_680 : decode cL_law 680 = .ok (.iload_n 3, 1) := o29 hcL_law rfl
theorem dL_law_681 : decode cL_law 681 = .ok (.iconst 1, 1) := o4 hcL_law rfl
theorem dL_law_682 : decode cL_law 682 = .ok (.iadd, 1) := o96 hcL_law rfl
theorem dL_law_683 : decode cL_law 683 = .ok (.iaload, 1) := o46 hcL_law rfl
theorem dL_law_684 : decode cL_law 684 = .ok (.aload_n 0, 1) := o42 hcL_law rfl
theorem dL_law_685 : decode cL_law 685 = .ok (.iload_n 3, 1) := o29 hcL_law rfl
theorem dL_law_686 : decode cL_law 686 = .ok (.iconst 2, 1) := o5 hcL_law rfl
theorem dL_law_687 : decode cL_law 687 = .ok (.iadd, 1) := o96 hcL_law rfl
theorem dL_law_688 : decode cL_law 688 = .ok (.iaload, 1) := o46 hcL_law rfl
theorem dL_law_689 : decode cL_law 689 = .ok (.invokevirtual 74, 3) := o182 hcL_law rfl
theorem dL_law_692 : decode cL_law 692 = .ok (.pop, 1) := o87 hcL_law rfl
theorem dL_law_693 : decode cL_law 693 = .ok (.aload_n 2, 1) := o44 hcL_law rfl
theorem dL_law_694 : decode cL_law 694 = .ok (.aload_n 0, 1) := o42 hcL_law rfl
theorem dL_law_695 : decode cL_law 695 = .ok (.iload_n 3, 1) := o29 hcL_law rfl
theorem dL_law_696 : decode cL_law 696 = .ok (.iconst 1, 1) := o4 hcL_law rfl
theorem dL_law_697 : decode cL_law 697 = .ok (.iadd, 1) := o96 hcL_law rfl
theorem dL_law_698 : decode cL_law 698 = .ok (.iaload, 1) := o46 hcL_law rfl
theorem dL_law_699 : decode cL_law 699 = .ok (.aload_n 0, 1) := o42 hcL_law rfl
theorem dL_law_700 : decode cL_law 700 = .ok (.iload_n 3, 1) := o29 hcL_law rfl
theorem dL_law_701 : decode cL_law 701 = .ok (.iconst 2, 1) := o5 hcL_law rfl
theorem dL_law_702 : decode cL_law 702 = .ok (.iadd, 1) := o96 hcL_law rfl
theorem dL_law_703 : decode cL_law 703 = .ok (.iaload, 1) := o46 hcL_law rfl
theorem dL_law_704 : decode cL_law 704 = .ok (.invokevirtual 77, 3) := o182 hcL_law rfl
theorem dL_law_707 : decode cL_law 707 = .ok (.pop, 1) := o87 hcL_law rfl
theorem dL_law_708 : decode cL_law 708 = .ok (.goto 788, 3) := o167 hcL_law (a := 788) rfl rfl
theorem dL_law_711 : decode cL_law 711 = .ok (.aload_n 1, 1) := o43 hcL_law rfl
theorem dL_law_712 : decode cL_law 712 = .ok (.aload_n 0, 1) := o42 hcL_law rfl
theorem dL_law_713 : decode cL_law 713 = .ok (.iload_n 3, 1) := o29 hcL_law rfl
theorem dL_law_714 : decode cL_law 714 = .ok (.iconst 1, 1) := o4 hcL_law rfl
theorem dL_law_715 : decode cL_law 715 = .ok (.iadd, 1) := o96 hcL_law rfl
theorem dL_law_716 : decode cL_law 716 = .ok (.iaload, 1) := o46 hcL_law rfl
theorem dL_law_717 : decode cL_law 717 = .ok (.aload_n 0, 1) := o42 hcL_law rfl
theorem dL_law_718 : decode cL_law 718 = .ok (.iload_n 3, 1) := o29 hcL_law rfl
theorem dL_law_719 : decode cL_law 719 = .ok (.iconst 2, 1) := o5 hcL_law rfl
theorem dL_law_720 : decode cL_law 720 = .ok (.iadd, 1) := o96 hcL_law rfl
theorem dL_law_721 : decode cL_law 721 = .ok (.iaload, 1) := o46 hcL_law rfl
theorem dL_law_722 : decode cL_law 722 = .ok (.aload_n 0, 1) := o42 hcL_law rfl
theorem dL_law_723 : decode cL_law 723 = .ok (.iload_n 3, 1) := o29 hcL_law rfl
theorem dL_law_724 : decode cL_law 724 = .ok (.iconst 3, 1) := o6 hcL_law rfl
theorem dL_law_725 : decode cL_law 725 = .ok (.iadd, 1) := o96 hcL_law rfl
theorem dL_law_726 : decode cL_law 726 = .ok (.iaload, 1) := o46 hcL_law rfl
theorem dL_law_727 : decode cL_law 727 = .ok (.invokevirtual 78, 3) := o182 hcL_law rfl
theorem dL_law_730 : decode cL_law 730 = .ok (.pop, 1) := o87 hcL_law rfl
theorem dL_law_731 : decode cL_law 731 = .ok (.aload_n 2, 1) := o44 hcL_law rfl
theorem dL_law_732 : decode cL_law 732 = .ok (.aload_n 0, 1) := o42 hcL_law rfl
theorem dL_law_733 : decode cL_law 733 = .ok (.iload_n 3, 1) := o29 hcL_law rfl
theorem dL_law_734 : decode cL_law 734 = .ok (.iconst 1, 1) := o4 hcL_law rfl
theorem dL_law_735 : decode cL_law 735 = .ok (.iadd, 1) := o96 hcL_law rfl
theorem dL_law_736 : decode cL_law 736 = .ok (.iaload, 1) := o46 hcL_law rfl
theorem dL_law_737 : decode cL_law 737 = .ok (.aload_n 0, 1) := o42 hcL_law rfl
theorem dL_law_738 : decode cL_law 738 = .ok (.iload_n 3, 1) := o29 hcL_law rfl
theorem dL_law_739 : decode cL_law 739 = .ok (.iconst 2, 1) := o5 hcL_law rfl
theorem dL_law_740 : decode cL_law 740 = .ok (.iadd, 1) := o96 hcL_law rfl
theorem dL_law_741 : decode cL_law 741 = .ok (.iaload, 1) := o46 hcL_law rfl
theorem dL_law_742 : decode cL_law 742 = .ok (.aload_n 0, 1) := o42 hcL_law rfl
theorem dL_law_743 : decode cL_law 743 = .ok (.iload_n 3, 1) := o29 hcL_law rfl
theorem dL_law_744 : decode cL_law 744 = .ok (.iconst 3, 1) := o6 hcL_law rfl
theorem dL_law_745 : decode cL_law 745 = .ok (.iadd, 1) := o96 hcL_law rfl
theorem dL_law_746 : decode cL_law 746 = .ok (.iaload, 1) := o46 hcL_law rfl
theorem dL_law_747 : decode cL_law 747 = .ok (.invokevirtual 81, 3) := o182 hcL_law rfl
theorem dL_law_750 : decode cL_law 750 = .ok (.pop, 1) := o87 hcL_law rfl
theorem dL_law_751 : decode cL_law 751 = .ok (.goto 745, 3) := o167 hcL_law (a := 745) rfl rfl
theorem dL_law_754 : decode cL_law 754 = .ok (.aload_n 1, 1) := o43 hcL_law rfl
theorem dL_law_755 : decode cL_law 755 = .ok (.aload_n 0, 1) := o42 hcL_law rfl
theorem dL_law_756 : decode cL_law 756 = .ok (.iload_n 3, 1) := o29 hcL_law rfl
theorem dL_law_757 : decode cL_law 757 = .ok (.iconst 1, 1) := o4 hcL_law rfl
theorem dL_law_758 : decode cL_law 758 = .ok (.iadd, 1) := o96 hcL_law rfl
theorem dL_law_759 : decode cL_law 759 = .ok (.iaload, 1) := o46 hcL_law rfl
theorem dL_law_760 : decode cL_law 760 = .ok (.aload_n 0, 1) := o42 hcL_law rfl
theorem dL_law_761 : decode cL_law 761 = .ok (.iload_n 3, 1) := o29 hcL_law rfl
theorem dL_law_762 : decode cL_law 762 = .ok (.iconst 2, 1) := o5 hcL_law rfl
theorem dL_law_763 : decode cL_law 763 = .ok (.iadd, 1) := o96 hcL_law rfl
theorem dL_law_764 : decode cL_law 764 = .ok (.iaload, 1) := o46 hcL_law rfl
theorem dL_law_765 : decode cL_law 765 = .ok (.invokevirtual 82, 3) := o182 hcL_law rfl
theorem dL_law_768 : decode cL_law 768 = .ok (.pop, 1) := o87 hcL_law rfl
theorem dL_law_769 : decode cL_law 769 = .ok (.aload_n 2, 1) := o44 hcL_law rfl
theorem dL_law_770 : decode cL_law 770 = .ok (.aload_n 0, 1) := o42 hcL_law rfl
theorem dL_law_771 : decode cL_law 771 = .ok (.iload_n 3, 1) := o29 hcL_law rfl
theorem dL_law_772 : decode cL_law 772 = .ok (.iconst 1, 1) := o4 hcL_law rfl
theorem dL_law_773 : decode cL_law 773 = .ok (.iadd, 1) := o96 hcL_law rfl
theorem dL_law_774 : decode cL_law 774 = .ok (.iaload, 1) := o46 hcL_law rfl
theorem dL_law_775 : decode cL_law 775 = .ok (.aload_n 0, 1) := o42 hcL_law rfl
theorem dL_law_776 : decode cL_law 776 = .ok (.iload_n 3, 1) := o29 hcL_law rfl
theorem dL_law_777 : decode cL_law 777 = .ok (.iconst 2, 1) := o5 hcL_law rfl
theorem dL_law_778 : decode cL_law 778 = .ok (.iadd, 1) := o96 hcL_law rfl
theorem dL_law_779 : decode cL_law 779 = .ok (.iaload, 1) := o46 hcL_law rfl
theorem dL_law_780 : decode cL_law 780 = .ok (.invokevirtual 85, 3) := o182 hcL_law rfl
theorem dL_law_783 : decode cL_law 783 = .ok (.pop, 1) := o87 hcL_law rfl
theorem dL_law_784 : decode cL_law 784 = .ok (.goto 712, 3) := o167 hcL_law (a := 712) rfl rfl
theorem dL_law_787 : decode cL_law 787 = .ok (.aload_n 1, 1) := o43 hcL_law rfl
theorem dL_law_788 : decode cL_law 788 = .ok (.aload_n 0, 1) := o42 hcL_law rfl
theorem dL_law_789 : decode cL_law 789 = .ok (.iload_n 3, 1) := o29 hcL_law rfl
theorem dL_law_790 : decode cL_law 790 = .ok (.iconst 1, 1) := o4 hcL_law rfl
theorem dL_law_791 : decode cL_law 791 = .ok (.iadd, 1) := o96 hcL_law rfl
theorem dL_law_792 : decode cL_law 792 = .ok (.iaload, 1) := o46 hcL_law rfl
theorem dL_law_793 : decode cL_law 793 = .ok (.aload_n 0, 1) := o42 hcL_law rfl
theorem dL_law_794 : decode cL_law 794 = .ok (.iload_n 3, 1) := o29 hcL_law rfl
theorem dL_law_795 : decode cL_law 795 = .ok (.iconst 2, 1) := o5 hcL_law rfl
theorem dL_law_796 : decode cL_law 796 = .ok (.iadd, 1) := o96 hcL_law rfl
theorem dL_law_797 : decode cL_law 797 = .ok (.iaload, 1) := o46 hcL_law rfl
theorem dL_law_798 : decode cL_law 798 = .ok (.invokevirtual 86, 3) := o182 hcL_law rfl
theorem dL_law_801 : decode cL_law 801 = .ok (.pop, 1) := o87 hcL_law rfl
theorem dL_law_802 : decode cL_law 802 = .ok (.aload_n 2, 1) := o44 hcL_law rfl
theorem dL_law_803 : decode cL_law 803 = .ok (.aload_n 0, 1) := o42 hcL_law rfl
theorem dL_law_804 : decode cL_law 804 = .ok (.iload_n 3, 1) := o29 hcL_law rfl
theorem dL_law_805 : decode cL_law 805 = .ok (.iconst 1, 1) := o4 hcL_law rfl
theorem dL_law_806 : decode cL_law 806 = .ok (.iadd, 1) := o96 hcL_law rfl
theorem dL_law_807 : decode cL_law 807 = .ok (.iaload, 1) := o46 hcL_law rfl
theorem dL_law_808 : decode cL_law 808 = .ok (.aload_n 0, 1) := o42 hcL_law rfl
theorem dL_law_809 : decode cL_law 809 = .ok (.iload_n 3, 1) := o29 hcL_law rfl
