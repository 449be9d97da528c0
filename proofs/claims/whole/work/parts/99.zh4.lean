/-! decode rows of the law -/
theorem dlaw_646 : decode code 646 = .ok (.iadd, 1) := by decide +kernel
theorem dlaw_647 : decode code 647 = .ok (.iaload, 1) := by decide +kernel
theorem dlaw_648 : decode code 648 = .ok (.aload_n 0, 1) := by decide +kernel
theorem dlaw_649 : decode code 649 = .ok (.iload_n 3, 1) := by decide +kernel
theorem dlaw_650 : decode code 650 = .ok (.iconst 2, 1) := by decide +kernel
theorem dlaw_651 : decode code 651 = .ok (.iadd, 1) := by decide +kernel
theorem dlaw_652 : decode code 652 = .ok (.iaload, 1) := by decide +kernel
theorem dlaw_653 : decode code 653 = .ok (.invokevirtual 84, 3) := by decide +kernel
theorem dlaw_656 : decode code 656 = .ok (.if_icmp .eq 474, 3) := by decide +kernel
theorem dlaw_659 : decode code 659 = .ok (.iconst 0, 1) := by decide +kernel
theorem dlaw_660 : decode code 660 = .ok (.ireturn, 1) := by decide +kernel
theorem dlaw_661 : decode code 661 = .ok (.aload_n 1, 1) := by decide +kernel
theorem dlaw_662 : decode code 662 = .ok (.aload_n 0, 1) := by decide +kernel
theorem dlaw_663 : decode code 663 = .ok (.iload_n 3, 1) := by decide +kernel
theorem dlaw_664 : decode code 664 = .ok (.iconst 1, 1) := by decide +kernel
theorem dlaw_665 : decode code 665 = .ok (.iadd, 1) := by decide +kernel
theorem dlaw_666 : decode code 666 = .ok (.iaload, 1) := by decide +kernel
theorem dlaw_667 : decode code 667 = .ok (.invokevirtual 85, 3) := by decide +kernel
theorem dlaw_670 : decode code 670 = .ok (.aload_n 2, 1) := by decide +kernel
theorem dlaw_671 : decode code 671 = .ok (.aload_n 0, 1) := by decide +kernel
theorem dlaw_672 : decode code 672 = .ok (.iload_n 3, 1) := by decide +kernel
theorem dlaw_673 : decode code 673 = .ok (.iconst 1, 1) := by decide +kernel
theorem dlaw_674 : decode code 674 = .ok (.iadd, 1) := by decide +kernel
theorem dlaw_675 : decode code 675 = .ok (.iaload, 1) := by decide +kernel
theorem dlaw_676 : decode code 676 = .ok (.invokevirtual 88, 3) := by decide +kernel
theorem dlaw_679 : decode code 679 = .ok (.if_icmp .eq 451, 3) := by decide +kernel
theorem dlaw_682 : decode code 682 = .ok (.iconst 0, 1) := by decide +kernel
theorem dlaw_683 : decode code 683 = .ok (.ireturn, 1) := by decide +kernel
theorem dlaw_684 : decode code 684 = .ok (.aload_n 1, 1) := by decide +kernel
theorem dlaw_685 : decode code 685 = .ok (.aload_n 0, 1) := by decide +kernel
theorem dlaw_686 : decode code 686 = .ok (.iload_n 3, 1) := by decide +kernel
theorem dlaw_687 : decode code 687 = .ok (.iconst 1, 1) := by decide +kernel
theorem dlaw_688 : decode code 688 = .ok (.iadd, 1) := by decide +kernel
theorem dlaw_689 : decode code 689 = .ok (.iaload, 1) := by decide +kernel
theorem dlaw_690 : decode code 690 = .ok (.aload_n 0, 1) := by decide +kernel
theorem dlaw_691 : decode code 691 = .ok (.iload_n 3, 1) := by decide +kernel
theorem dlaw_692 : decode code 692 = .ok (.iconst 2, 1) := by decide +kernel
theorem dlaw_693 : decode code 693 = .ok (.iadd, 1) := by decide +kernel
theorem dlaw_694 : decode code 694 = .ok (.iaload, 1) := by decide +kernel
theorem dlaw_695 : decode code 695 = .ok (.aload_n 0, 1) := by decide +kernel
theorem dlaw_696 : decode code 696 = .ok (.iload_n 3, 1) := by decide +kernel
theorem dlaw_697 : decode code 697 = .ok (.iconst 3, 1) := by decide +kernel
theorem dlaw_698 : decode code 698 = .ok (.iadd, 1) := by decide +kernel
theorem dlaw_699 : decode code 699 = .ok (.iaload, 1) := by decide +kernel
theorem dlaw_700 : decode code 700 = .ok (.aload_n 0, 1) := by decide +kernel
theorem dlaw_701 : decode code 701 = .ok (.iload_n 3, 1) := by decide +kernel
theorem dlaw_702 : decode code 702 = .ok (.iconst 4, 1) := by decide +kernel
theorem dlaw_703 : decode code 703 = .ok (.iadd, 1) := by decide +kernel
theorem dlaw_704 : decode code 704 = .ok (.iaload, 1) := by decide +kernel
theorem dlaw_705 : decode code 705 = .ok (.invokevirtual 89, 3) := by decide +kernel
theorem dlaw_708 : decode code 708 = .ok (.aload_n 2, 1) := by decide +kernel
theorem dlaw_709 : decode code 709 = .ok (.aload_n 0, 1) := by decide +kernel
theorem dlaw_710 : decode code 710 = .ok (.iload_n 3, 1) := by decide +kernel
theorem dlaw_711 : decode code 711 = .ok (.iconst 1, 1) := by decide +kernel
theorem dlaw_712 : decode code 712 = .ok (.iadd, 1) := by decide +kernel
theorem dlaw_713 : decode code 713 = .ok (.iaload, 1) := by decide +kernel
theorem dlaw_714 : decode code 714 = .ok (.aload_n 0, 1) := by decide +kernel
theorem dlaw_715 : decode code 715 = .ok (.iload_n 3, 1) := by decide +kernel
theorem dlaw_716 : decode code 716 = .ok (.iconst 2, 1) := by decide +kernel
theorem dlaw_717 : decode code 717 = .ok (.iadd, 1) := by decide +kernel
theorem dlaw_718 : decode code 718 = .ok (.iaload, 1) := by decide +kernel
theorem dlaw_719 : decode code 719 = .ok (.aload_n 0, 1) := by decide +kernel
theorem dlaw_720 : decode code 720 = .ok (.iload_n 3, 1) := by decide +kernel
theorem dlaw_721 : decode code 721 = .ok (.iconst 3, 1) := by decide +kernel
theorem dlaw_722 : decode code 722 = .ok (.iadd, 1) := by decide +kernel
theorem dlaw_723 : decode code 723 = .ok (.iaload, 1) := by decide +kernel
theorem dlaw_724 : decode code 724 = .ok (.aload_n 0, 1) := by decide +kernel
theorem dlaw_725 : decode code 725 = .ok (.iload_n 3, 1) := by decide +kernel
theorem dlaw_726 : decode code 726 = .ok (.iconst 4, 1) := by decide +kernel
theorem dlaw_727 : decode code 727 = .ok (.iadd, 1) := by decide +kernel
theorem dlaw_728 : decode code 728 = .ok (.iaload, 1) := by decide +kernel
theorem dlaw_729 : decode code 729 = .ok (.invokevirtual 93, 3) := by decide +kernel
theorem dlaw_732 : decode code 732 = .ok (.if_icmp .eq 398, 3) := by decide +kernel
theorem dlaw_735 : decode code 735 = .ok (.iconst 0, 1) := by decide +kernel
theorem dlaw_736 : decode code 736 = .ok (.ireturn, 1) := by decide +kernel
theorem dlaw_737 : decode code 737 = .ok (.aload_n 1, 1) := by decide +kernel
theorem dlaw_738 : decode code 738 = .ok (.invokevirtual 94, 3) := by decide +kernel
theorem dlaw_741 : decode code 741 = .ok (.aload_n 2, 1) := by decide +kernel
theorem dlaw_742 : decode code 742 = .ok (.invokevirtual 97, 3) := by decide +kernel
theorem dlaw_745 : decode code 745 = .ok (.if_icmp .eq 385, 3) := by decide +kernel
theorem dlaw_748 : decode code 748 = .ok (.iconst 0, 1) := by decide +kernel
theorem dlaw_749 : decode code 749 = .ok (.ireturn, 1) := by decide +kernel
theorem dlaw_750 : decode code 750 = .ok (.aload_n 1, 1) := by decide +kernel
theorem dlaw_751 : decode code 751 = .ok (.aload_n 0, 1) := by decide +kernel
theorem dlaw_752 : decode code 752 = .ok (.iload_n 3, 1) := by decide +kernel
theorem dlaw_753 : decode code 753 = .ok (.iconst 1, 1) := by decide +kernel
theorem dlaw_754 : decode code 754 = .ok (.iadd, 1) := by decide +kernel
theorem dlaw_755 : decode code 755 = .ok (.iaload, 1) := by decide +kernel
theorem dlaw_756 : decode code 756 = .ok (.invokevirtual 98, 3) := by decide +kernel
theorem dlaw_759 : decode code 759 = .ok (.aload_n 2, 1) := by decide +kernel
theorem dlaw_760 : decode code 760 = .ok (.aload_n 0, 1) := by decide +kernel
theorem dlaw_761 : decode code 761 = .ok (.iload_n 3, 1) := by decide +kernel
theorem dlaw_762 : decode code 762 = .ok (.iconst 1, 1) := by decide +kernel
theorem dlaw_763 : decode code 763 = .ok (.iadd, 1) := by decide +kernel
theorem dlaw_764 : decode code 764 = .ok (.iaload, 1) := by decide +kernel
theorem dlaw_765 : decode code 765 = .ok (.invokevirtual 101, 3) := by decide +kernel
theorem dlaw_768 : decode code 768 = .ok (.if_icmp .eq 362, 3) := by decide +kernel
theorem dlaw_771 : decode code 771 = .ok (.iconst 0, 1) := by decide +kernel
theorem dlaw_772 : decode code 772 = .ok (.ireturn, 1) := by decide +kernel
theorem dlaw_773 : decode code 773 = .ok (.aload_n 1, 1) := by decide +kernel
theorem dlaw_774 : decode code 774 = .ok (.aload_n 0, 1) := by decide +kernel
theorem dlaw_775 : decode code 775 = .ok (.iload_n 3, 1) := by decide +kernel
theorem dlaw_776 : decode code 776 = .ok (.iconst 1, 1) := by decide +kernel
theorem dlaw_777 : decode code 777 = .ok (.iadd, 1) := by decide +kernel
theorem dlaw_778 : decode code 778 = .ok (.iaload, 1) := by decide +kernel
theorem dlaw_779 : decode code 779 = .ok (.invokevirtual 102, 3) := by decide +kernel
theorem dlaw_782 : decode code 782 = .ok (.aload_n 2, 1) := by decide +kernel
theorem dlaw_783 : decode code 783 = .ok (.aload_n 0, 1) := by decide +kernel
theorem dlaw_784 : decode code 784 = .ok (.iload_n 3, 1) := by decide +kernel
theorem dlaw_785 : decode code 785 = .ok (.iconst 1, 1) := by decide +kernel
theorem dlaw_786 : decode code 786 = .ok (.iadd, 1) := by decide +kernel
theorem dlaw_787 : decode code 787 = .ok (.iaload, 1) := by decide +kernel
theorem dlaw_788 : decode code 788 = .ok (.invokevirtual 105, 3) := by decide +kernel
theorem dlaw_791 : decode code 791 = .ok (.if_icmp .eq 339, 3) := by decide +kernel
theorem dlaw_794 : decode code 794 = .ok (.iconst 0, 1) := by decide +kernel
theorem dlaw_795 : decode code 795 = .ok (.ireturn, 1) := by decide +kernel
theorem dlaw_796 : decode code 796 = .ok (.aload_n 1, 1) := by decide +kernel
theorem dlaw_797 : decode code 797 = .ok (.aload_n 0, 1) := by decide +kernel
theorem dlaw_798 : decode code 798 = .ok (.iload_n 3, 1) := by decide +kernel
theorem dlaw_799 : decode code 799 = .ok (.iconst 1, 1) := by decide +kernel
theorem dlaw_800 : decode code 800 = .ok (.iadd, 1) := by decide +kernel
theorem dlaw_801 : decode code 801 = .ok (.iaload, 1) := by decide +kernel
theorem dlaw_802 : decode code 802 = .ok (.aload_n 0, 1) := by decide +kernel
theorem dlaw_803 : decode code 803 = .ok (.iload_n 3, 1) := by decide +kernel
theorem dlaw_804 : decode code 804 = .ok (.iconst 2, 1) := by decide +kernel
theorem dlaw_805 : decode code 805 = .ok (.iadd, 1) := by decide +kernel
theorem dlaw_806 : decode code 806 = .ok (.iaload, 1) := by decide +kernel
theorem dlaw_807 : decode code 807 = .ok (.invokevirtual 106, 3) := by decide +kernel
theorem dlaw_810 : decode code 810 = .ok (.aload_n 2, 1) := by decide +kernel
theorem dlaw_811 : decode code 811 = .ok (.aload_n 0, 1) := by decide +kernel
