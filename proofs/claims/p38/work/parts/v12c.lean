theorem dL_law_683 : decode cL_law 683 = .ok (.aload_n 1, 1) := dc_aload1 (dl_at 672 11 lb_21 rfl)
theorem dL_law_684 : decode cL_law 684 = .ok (.aload_n 0, 1) := dc_aload0 (dl_at 672 12 lb_21 rfl)
theorem dL_law_685 : decode cL_law 685 = .ok (.iload_n 3, 1) := dc_iload3 (dl_at 672 13 lb_21 rfl)
theorem dL_law_686 : decode cL_law 686 = .ok (.iconst 1, 1) := dc_iconst1 (dl_at 672 14 lb_21 rfl)
theorem dL_law_687 : decode cL_law 687 = .ok (.iadd, 1) := dc_iadd (dl_at 672 15 lb_21 rfl)
theorem dL_law_688 : decode cL_law 688 = .ok (.iaload, 1) := dc_iaload (dl_at 672 16 lb_21 rfl)
theorem dL_law_689 : decode cL_law 689 = .ok (.aload_n 0, 1) := dc_aload0 (dl_at 672 17 lb_21 rfl)
theorem dL_law_690 : decode cL_law 690 = .ok (.iload_n 3, 1) := dc_iload3 (dl_at 672 18 lb_21 rfl)
theorem dL_law_691 : decode cL_law 691 = .ok (.iconst 2, 1) := dc_iconst2 (dl_at 672 19 lb_21 rfl)
theorem dL_law_692 : decode cL_law 692 = .ok (.iadd, 1) := dc_iadd (dl_at 672 20 lb_21 rfl)
theorem dL_law_693 : decode cL_law 693 = .ok (.iaload, 1) := dc_iaload (dl_at 672 21 lb_21 rfl)
theorem dL_law_694 : decode cL_law 694 = .ok (.invokevirtual 69, 3) := dc_virt (a := 0) (b := 69) (dl_at 672 22 lb_21 rfl) (dl_at 672 23 lb_21 rfl) (dl_at 672 24 lb_21 rfl)
theorem dL_law_697 : decode cL_law 697 = .ok (.pop, 1) := dc_pop (dl_at 672 25 lb_21 rfl)
theorem dL_law_698 : decode cL_law 698 = .ok (.aload_n 2, 1) := dc_aload2 (dl_at 672 26 lb_21 rfl)
theorem dL_law_699 : decode cL_law 699 = .ok (.aload_n 0, 1) := dc_aload0 (dl_at 672 27 lb_21 rfl)
theorem dL_law_700 : decode cL_law 700 = .ok (.iload_n 3, 1) := dc_iload3 (dl_at 672 28 lb_21 rfl)
theorem dL_law_701 : decode cL_law 701 = .ok (.iconst 1, 1) := dc_iconst1 (dl_at 672 29 lb_21 rfl)
theorem dL_law_702 : decode cL_law 702 = .ok (.iadd, 1) := dc_iadd (dl_at 672 30 lb_21 rfl)
theorem dL_law_703 : decode cL_law 703 = .ok (.iaload, 1) := dc_iaload (dl_at 672 31 lb_21 rfl)
theorem dL_law_704 : decode cL_law 704 = .ok (.aload_n 0, 1) := dc_aload0 (dl_at 704 0 lb_22 rfl)
theorem dL_law_705 : decode cL_law 705 = .ok (.iload_n 3, 1) := dc_iload3 (dl_at 704 1 lb_22 rfl)
theorem dL_law_706 : decode cL_law 706 = .ok (.iconst 2, 1) := dc_iconst2 (dl_at 704 2 lb_22 rfl)
theorem dL_law_707 : decode cL_law 707 = .ok (.iadd, 1) := dc_iadd (dl_at 704 3 lb_22 rfl)
theorem dL_law_708 : decode cL_law 708 = .ok (.iaload, 1) := dc_iaload (dl_at 704 4 lb_22 rfl)
theorem dL_law_709 : decode cL_law 709 = .ok (.invokevirtual 72, 3) := dc_virt (a := 0) (b := 72) (dl_at 704 5 lb_22 rfl) (dl_at 704 6 lb_22 rfl) (dl_at 704 7 lb_22 rfl)
theorem dL_law_712 : decode cL_law 712 = .ok (.pop, 1) := dc_pop (dl_at 704 8 lb_22 rfl)
theorem dL_law_713 : decode cL_law 713 = .ok (.goto 928, 3) := dc_goto (a := 3) (b := 160) (dl_at 704 9 lb_22 rfl) (dl_at 704 10 lb_22 rfl) (dl_at 704 11 lb_22 rfl) (by decide +kernel)
theorem dL_law_716 : decode cL_law 716 = .ok (.aload_n 1, 1) := dc_aload1 (dl_at 704 12 lb_22 rfl)
theorem dL_law_717 : decode cL_law 717 = .ok (.aload_n 0, 1) := dc_aload0 (dl_at 704 13 lb_22 rfl)
theorem dL_law_718 : decode cL_law 718 = .ok (.iload_n 3, 1) := dc_iload3 (dl_at 704 14 lb_22 rfl)
theorem dL_law_719 : decode cL_law 719 = .ok (.iconst 1, 1) := dc_iconst1 (dl_at 704 15 lb_22 rfl)
theorem dL_law_720 : decode cL_law 720 = .ok (.iadd, 1) := dc_iadd (dl_at 704 16 lb_22 rfl)
theorem dL_law_721 : decode cL_law 721 = .ok (.iaload, 1) := dc_iaload (dl_at 704 17 lb_22 rfl)
theorem dL_law_722 : decode cL_law 722 = .ok (.aload_n 0, 1) := dc_aload0 (dl_at 704 18 lb_22 rfl)
theorem dL_law_723 : decode cL_law 723 = .ok (.iload_n 3, 1) := dc_iload3 (dl_at 704 19 lb_22 rfl)
theorem dL_law_724 : decode cL_law 724 = .ok (.iconst 2, 1) := dc_iconst2 (dl_at 704 20 lb_22 rfl)
theorem dL_law_725 : decode cL_law 725 = .ok (.iadd, 1) := dc_iadd (dl_at 704 21 lb_22 rfl)
theorem dL_law_726 : decode cL_law 726 = .ok (.iaload, 1) := dc_iaload (dl_at 704 22 lb_22 rfl)
theorem dL_law_727 : decode cL_law 727 = .ok (.invokevirtual 73, 3) := dc_virt (a := 0) (b := 73) (dl_at 704 23 lb_22 rfl) (dl_at 704 24 lb_22 rfl) (dl_at 704 25 lb_22 rfl)
theorem dL_law_730 : decode cL_law 730 = .ok (.pop, 1) := dc_pop (dl_at 704 26 lb_22 rfl)
theorem dL_law_731 : decode cL_law 731 = .ok (.aload_n 2, 1) := dc_aload2 (dl_at 704 27 lb_22 rfl)
theorem dL_law_732 : decode cL_law 732 = .ok (.aload_n 0, 1) := dc_aload0 (dl_at 704 28 lb_22 rfl)
theorem dL_law_733 : decode cL_law 733 = .ok (.iload_n 3, 1) := dc_iload3 (dl_at 704 29 lb_22 rfl)
theorem dL_law_734 : decode cL_law 734 = .ok (.iconst 1, 1) := dc_iconst1 (dl_at 704 30 lb_22 rfl)
theorem dL_law_735 : decode cL_law 735 = .ok (.iadd, 1) := dc_iadd (dl_at 704 31 lb_22 rfl)
theorem dL_law_736 : decode cL_law 736 = .ok (.iaload, 1) := dc_iaload (dl_at 736 0 lb_23 rfl)
theorem dL_law_737 : decode cL_law 737 = .ok (.aload_n 0, 1) := dc_aload0 (dl_at 736 1 lb_23 rfl)
theorem dL_law_738 : decode cL_law 738 = .ok (.iload_n 3, 1) := dc_iload3 (dl_at 736 2 lb_23 rfl)
theorem dL_law_739 : decode cL_law 739 = .ok (.iconst 2, 1) := dc_iconst2 (dl_at 736 3 lb_23 rfl)
theorem dL_law_740 : decode cL_law 740 = .ok (.iadd, 1) := dc_iadd (dl_at 736 4 lb_23 rfl)
theorem dL_law_741 : decode cL_law 741 = .ok (.iaload, 1) := dc_iaload (dl_at 736 5 lb_23 rfl)
theorem dL_law_742 : decode cL_law 742 = .ok (.invokevirtual 76, 3) := dc_virt (a := 0) (b := 76) (dl_at 736 6 lb_23 rfl) (dl_at 736 7 lb_23 rfl) (dl_at 736 8 lb_23 rfl)
theorem dL_law_745 : decode cL_law 745 = .ok (.pop, 1) := dc_pop (dl_at 736 9 lb_23 rfl)
theorem dL_law_746 : decode cL_law 746 = .ok (.goto 895, 3) := dc_goto (a := 3) (b := 127) (dl_at 736 10 lb_23 rfl) (dl_at 736 11 lb_23 rfl) (dl_at 736 12 lb_23 rfl) (by decide +kernel)
theorem dL_law_749 : decode cL_law 749 = .ok (.aload_n 1, 1) := dc_aload1 (dl_at 736 13 lb_23 rfl)
theorem dL_law_750 : decode cL_law 750 = .ok (.aload_n 0, 1) := dc_aload0 (dl_at 736 14 lb_23 rfl)
theorem dL_law_751 : decode cL_law 751 = .ok (.iload_n 3, 1) := dc_iload3 (dl_at 736 15 lb_23 rfl)
theorem dL_law_752 : decode cL_law 752 = .ok (.iconst 1, 1) := dc_iconst1 (dl_at 736 16 lb_23 rfl)
theorem dL_law_753 : decode cL_law 753 = .ok (.iadd, 1) := dc_iadd (dl_at 736 17 lb_23 rfl)
theorem dL_law_754 : decode cL_law 754 = .ok (.iaload, 1) := dc_iaload (dl_at 736 18 lb_23 rfl)
theorem dL_law_755 : decode cL_law 755 = .ok (.invokevirtual 77, 3) := dc_virt (a := 0) (b := 77) (dl_at 736 19 lb_23 rfl) (dl_at 736 20 lb_23 rfl) (dl_at 736 21 lb_23 rfl)
theorem dL_law_758 : decode cL_law 758 = .ok (.pop, 1) := dc_pop (dl_at 736 22 lb_23 rfl)
theorem dL_law_759 : decode cL_law 759 = .ok (.aload_n 2, 1) := dc_aload2 (dl_at 736 23 lb_23 rfl)
theorem dL_law_760 : decode cL_law 760 = .ok (.aload_n 0, 1) := dc_aload0 (dl_at 736 24 lb_23 rfl)
theorem dL_law_761 : decode cL_law 761 = .ok (.iload_n 3, 1) := dc_iload3 (dl_at 736 25 lb_23 rfl)
theorem dL_law_762 : decode cL_law 762 = .ok (.iconst 1, 1) := dc_iconst1 (dl_at 736 26 lb_23 rfl)
theorem dL_law_763 : decode cL_law 763 = .ok (.iadd, 1) := dc_iadd (dl_at 736 27 lb_23 rfl)
theorem dL_law_764 : decode cL_law 764 = .ok (.iaload, 1) := dc_iaload (dl_at 736 28 lb_23 rfl)
theorem dL_law_765 : decode cL_law 765 = .ok (.invokevirtual 80, 3) := dc_virt (a := 0) (b := 80) (dl_at 736 29 lb_23 rfl) (dl_at 736 30 lb_23 rfl) (dl_at 736 31 lb_23 rfl)
theorem dL_law_768 : decode cL_law 768 = .ok (.pop, 1) := dc_pop (dl_at 768 0 lb_24 rfl)
theorem dL_law_769 : decode cL_law 769 = .ok (.goto 872, 3) := dc_goto (a := 3) (b := 104) (dl_at 768 1 lb_24 rfl) (dl_at 768 2 lb_24 rfl) (dl_at 768 3 lb_24 rfl) (by decide +kernel)
theorem dL_law_772 : decode cL_law 772 = .ok (.aload_n 1, 1) := dc_aload1 (dl_at 768 4 lb_24 rfl)
theorem dL_law_773 : decode cL_law 773 = .ok (.aload_n 0, 1) := dc_aload0 (dl_at 768 5 lb_24 rfl)
theorem dL_law_774 : decode cL_law 774 = .ok (.iload_n 3, 1) := dc_iload3 (dl_at 768 6 lb_24 rfl)
theorem dL_law_775 : decode cL_law 775 = .ok (.iconst 1, 1) := dc_iconst1 (dl_at 768 7 lb_24 rfl)
theorem dL_law_776 : decode cL_law 776 = .ok (.iadd, 1) := dc_iadd (dl_at 768 8 lb_24 rfl)
theorem dL_law_777 : decode cL_law 777 = .ok (.iaload, 1) := dc_iaload (dl_at 768 9 lb_24 rfl)
theorem dL_law_778 : decode cL_law 778 = .ok (.aload_n 0, 1) := dc_aload0 (dl_at 768 10 lb_24 rfl)
theorem dL_law_779 : decode cL_law 779 = .ok (.iload_n 3, 1) := dc_iload3 (dl_at 768 11 lb_24 rfl)
theorem dL_law_780 : decode cL_law 780 = .ok (.iconst 2, 1) := dc_iconst2 (dl_at 768 12 lb_24 rfl)
theorem dL_law_781 : decode cL_law 781 = .ok (.iadd, 1) := dc_iadd (dl_at 768 13 lb_24 rfl)
theorem dL_law_782 : decode cL_law 782 = .ok (.iaload, 1) := dc_iaload (dl_at 768 14 lb_24 rfl)
theorem dL_law_783 : decode cL_law 783 = .ok (.aload_n 0, 1) := dc_aload0 (dl_at 768 15 lb_24 rfl)
theorem dL_law_784 : decode cL_law 784 = .ok (.iload_n 3, 1) := dc_iload3 (dl_at 768 16 lb_24 rfl)
theorem dL_law_785 : decode cL_law 785 = .ok (.iconst 3, 1) := dc_iconst3 (dl_at 768 17 lb_24 rfl)
theorem dL_law_786 : decode cL_law 786 = .ok (.iadd, 1) := dc_iadd (dl_at 768 18 lb_24 rfl)
theorem dL_law_787 : decode cL_law 787 = .ok (.iaload, 1) := dc_iaload (dl_at 768 19 lb_24 rfl)
theorem dL_law_788 : decode cL_law 788 = .ok (.aload_n 0, 1) := dc_aload0 (dl_at 768 20 lb_24 rfl)
theorem dL_law_789 : decode cL_law 789 = .ok (.iload_n 3, 1) := dc_iload3 (dl_at 768 21 lb_24 rfl)
theorem dL_law_790 : decode cL_law 790 = .ok (.iconst 4, 1) := dc_iconst4 (dl_at 768 22 lb_24 rfl)
theorem dL_law_791 : decode cL_law 791 = .ok (.iadd, 1) := dc_iadd (dl_at 768 23 lb_24 rfl)
theorem dL_law_792 : decode cL_law 792 = .ok (.iaload, 1) := dc_iaload (dl_at 768 24 lb_24 rfl)
theorem dL_law_793 : decode cL_law 793 = .ok (.invokevirtual 81, 3) := dc_virt (a := 0) (b := 81) (dl_at 768 25 lb_24 rfl) (dl_at 768 26 lb_24 rfl) (dl_at 768 27 lb_24 rfl)
theorem dL_law_796 : decode cL_law 796 = .ok (.pop, 1) := dc_pop (dl_at 768 28 lb_24 rfl)
theorem dL_law_797 : decode cL_law 797 = .ok (.aload_n 2, 1) := dc_aload2 (dl_at 768 29 lb_24 rfl)
theorem dL_law_798 : decode cL_law 798 = .ok (.aload_n 0, 1) := dc_aload0 (dl_at 768 30 lb_24 rfl)
theorem dL_law_799 : decode cL_law 799 = .ok (.iload_n 3, 1) := dc_iload3 (dl_at 768 31 lb_24 rfl)
theorem dL_law_800 : decode cL_law 800 = .ok (.iconst 1, 1) := dc_iconst1 (dl_at 800 0 lb_25 rfl)
theorem dL_law_801 : decode cL_law 801 = .ok (.iadd, 1) := dc_iadd (dl_at 800 1 lb_25 rfl)
theorem dL_law_802 : decode cL_law 802 = .ok (.iaload, 1) := dc_iaload (dl_at 800 2 lb_25 rfl)
theorem dL_law_803 : decode cL_law 803 = .ok (.aload_n 0, 1) := dc_aload0 (dl_at 800 3 lb_25 rfl)
theorem dL_law_804 : decode cL_law 804 = .ok (.iload_n 3, 1) := dc_iload3 (dl_at 800 4 lb_25 rfl)
theorem dL_law_805 : decode cL_law 805 = .ok (.iconst 2, 1) := dc_iconst2 (dl_at 800 5 lb_25 rfl)
theorem dL_law_806 : decode cL_law 806 = .ok (.iadd, 1) := dc_iadd (dl_at 800 6 lb_25 rfl)
theorem dL_law_807 : decode cL_law 807 = .ok (.iaload, 1) := dc_iaload (dl_at 800 7 lb_25 rfl)
theorem dL_law_808 : decode cL_law 808 = .ok (.aload_n 0, 1) := dc_aload0 (dl_at 800 8 lb_25 rfl)
theorem dL_law_809 : decode cL_law 809 = .ok (.iload_n 3, 1) := dc_iload3 (dl_at 800 9 lb_25 rfl)
theorem dL_law_810 : decode cL_law 810 = .ok (.iconst 3, 1) := dc_iconst3 (dl_at 800 10 lb_25 rfl)
theorem dL_law_811 : decode cL_law 811 = .ok (.iadd, 1) := dc_iadd (dl_at 800 11 lb_25 rfl)
theorem dL_law_812 : decode cL_law 812 = .ok (.iaload, 1) := dc_iaload (dl_at 800 12 lb_25 rfl)
theorem dL_law_813 : decode cL_law 813 = .ok (.aload_n 0, 1) := dc_aload0 (dl_at 800 13 lb_25 rfl)
theorem dL_law_814 : decode cL_law 814 = .ok (.iload_n 3, 1) := dc_iload3 (dl_at 800 14 lb_25 rfl)
theorem dL_law_815 : decode cL_law 815 = .ok (.iconst 4, 1) := dc_iconst4 (dl_at 800 15 lb_25 rfl)
theorem dL_law_816 : decode cL_law 816 = .ok (.iadd, 1) := dc_iadd (dl_at 800 16 lb_25 rfl)
theorem dL_law_817 : decode cL_law 817 = .ok (.iaload, 1) := dc_iaload (dl_at 800 17 lb_25 rfl)
theorem dL_law_818 : decode cL_law 818 = .ok (.invokevirtual 85, 3) := dc_virt (a := 0) (b := 85) (dl_at 800 18 lb_25 rfl) (dl_at 800 19 lb_25 rfl) (dl_at 800 20 lb_25 rfl)
theorem dL_law_821 : decode cL_law 821 = .ok (.pop, 1) := dc_pop (dl_at 800 21 lb_25 rfl)
theorem dL_law_822 : decode cL_law 822 = .ok (.goto 819, 3) := dc_goto (a := 3) (b := 51) (dl_at 800 22 lb_25 rfl) (dl_at 800 23 lb_25 rfl) (dl_at 800 24 lb_25 rfl) (by decide +kernel)
theorem dL_law_825 : decode cL_law 825 = .ok (.aload_n 1, 1) := dc_aload1 (dl_at 800 25 lb_25 rfl)
theorem dL_law_826 : decode cL_law 826 = .ok (.aload_n 0, 1) := dc_aload0 (dl_at 800 26 lb_25 rfl)
theorem dL_law_827 : decode cL_law 827 = .ok (.iload_n 3, 1) := dc_iload3 (dl_at 800 27 lb_25 rfl)
theorem dL_law_828 : decode cL_law 828 = .ok (.iconst 1, 1) := dc_iconst1 (dl_at 800 28 lb_25 rfl)
theorem dL_law_829 : decode cL_law 829 = .ok (.iadd, 1) := dc_iadd (dl_at 800 29 lb_25 rfl)
theorem dL_law_830 : decode cL_law 830 = .ok (.iaload, 1) := dc_iaload (dl_at 800 30 lb_25 rfl)
theorem dL_law_831 : decode cL_law 831 = .ok (.aload_n 0, 1) := dc_aload0 (dl_at 800 31 lb_25 rfl)
theorem dL_law_832 : decode cL_law 832 = .ok (.iload_n 3, 1) := dc_iload3 (dl_at 832 0 lb_26 rfl)
theorem dL_law_833 : decode cL_law 833 = .ok (.iconst 2, 1) := dc_iconst2 (dl_at 832 1 lb_26 rfl)
theorem dL_law_834 : decode cL_law 834 = .ok (.iadd, 1) := dc_iadd (dl_at 832 2 lb_26 rfl)
theorem dL_law_835 : decode cL_law 835 = .ok (.iaload, 1) := dc_iaload (dl_at 832 3 lb_26 rfl)
theorem dL_law_836 : decode cL_law 836 = .ok (.invokevirtual 86, 3) := dc_virt (a := 0) (b := 86) (dl_at 832 4 lb_26 rfl) (dl_at 832 5 lb_26 rfl) (dl_at 832 6 lb_26 rfl)
theorem dL_law_839 : decode cL_law 839 = .ok (.pop, 1) := dc_pop (dl_at 832 7 lb_26 rfl)
theorem dL_law_840 : decode cL_law 840 = .ok (.aload_n 2, 1) := dc_aload2 (dl_at 832 8 lb_26 rfl)
theorem dL_law_841 : decode cL_law 841 = .ok (.aload_n 0, 1) := dc_aload0 (dl_at 832 9 lb_26 rfl)
theorem dL_law_842 : decode cL_law 842 = .ok (.iload_n 3, 1) := dc_iload3 (dl_at 832 10 lb_26 rfl)
theorem dL_law_843 : decode cL_law 843 = .ok (.iconst 1, 1) := dc_iconst1 (dl_at 832 11 lb_26 rfl)
theorem dL_law_844 : decode cL_law 844 = .ok (.iadd, 1) := dc_iadd (dl_at 832 12 lb_26 rfl)
theorem dL_law_845 : decode cL_law 845 = .ok (.iaload, 1) := dc_iaload (dl_at 832 13 lb_26 rfl)
theorem dL_law_846 : decode cL_law 846 = .ok (.aload_n 0, 1) := dc_aload0 (dl_at 832 14 lb_26 rfl)
theorem dL_law_847 : decode cL_law 847 = .ok (.iload_n 3, 1) := dc_iload3 (dl_at 832 15 lb_26 rfl)
theorem dL_law_848 : decode cL_law 848 = .ok (.iconst 2, 1) := dc_iconst2 (dl_at 832 16 lb_26 rfl)
theorem dL_law_849 : decode cL_law 849 = .ok (.iadd, 1) := dc_iadd (dl_at 832 17 lb_26 rfl)
theorem dL_law_850 : decode cL_law 850 = .ok (.iaload, 1) := dc_iaload (dl_at 832 18 lb_26 rfl)
theorem dL_law_851 : decode cL_law 851 = .ok (.invokevirtual 89, 3) := dc_virt (a := 0) (b := 89) (dl_at 832 19 lb_26 rfl) (dl_at 832 20 lb_26 rfl) (dl_at 832 21 lb_26 rfl)
theorem dL_law_854 : decode cL_law 854 = .ok (.pop, 1) := dc_pop (dl_at 832 22 lb_26 rfl)
theorem dL_law_855 : decode cL_law 855 = .ok (.goto 786, 3) := dc_goto (a := 3) (b := 18) (dl_at 832 23 lb_26 rfl) (dl_at 832 24 lb_26 rfl) (dl_at 832 25 lb_26 rfl) (by decide +kernel)
theorem dL_law_858 : decode cL_law 858 = .ok (.aload_n 1, 1) := dc_aload1 (dl_at 832 26 lb_26 rfl)
theorem dL_law_859 : decode cL_law 859 = .ok (.aload_n 0, 1) := dc_aload0 (dl_at 832 27 lb_26 rfl)
theorem dL_law_860 : decode cL_law 860 = .ok (.iload_n 3, 1) := dc_iload3 (dl_at 832 28 lb_26 rfl)
theorem dL_law_861 : decode cL_law 861 = .ok (.iconst 1, 1) := dc_iconst1 (dl_at 832 29 lb_26 rfl)
theorem dL_law_862 : decode cL_law 862 = .ok (.iadd, 1) := dc_iadd (dl_at 832 30 lb_26 rfl)
theorem dL_law_863 : decode cL_law 863 = .ok (.iaload, 1) := dc_iaload (dl_at 832 31 lb_26 rfl)
theorem dL_law_864 : decode cL_law 864 = .ok (.invokevirtual 90, 3) := dc_virt (a := 0) (b := 90) (dl_at 864 0 lb_27 rfl) (dl_at 864 1 lb_27 rfl) (dl_at 864 2 lb_27 rfl)
theorem dL_law_867 : decode cL_law 867 = .ok (.pop, 1) := dc_pop (dl_at 864 3 lb_27 rfl)
theorem dL_law_868 : decode cL_law 868 = .ok (.aload_n 2, 1) := dc_aload2 (dl_at 864 4 lb_27 rfl)
theorem dL_law_869 : decode cL_law 869 = .ok (.aload_n 0, 1) := dc_aload0 (dl_at 864 5 lb_27 rfl)
theorem dL_law_870 : decode cL_law 870 = .ok (.iload_n 3, 1) := dc_iload3 (dl_at 864 6 lb_27 rfl)
theorem dL_law_871 : decode cL_law 871 = .ok (.iconst 1, 1) := dc_iconst1 (dl_at 864 7 lb_27 rfl)
theorem dL_law_872 : decode cL_law 872 = .ok (.iadd, 1) := dc_iadd (dl_at 864 8 lb_27 rfl)
theorem dL_law_873 : decode cL_law 873 = .ok (.iaload, 1) := dc_iaload (dl_at 864 9 lb_27 rfl)
theorem dL_law_874 : decode cL_law 874 = .ok (.invokevirtual 93, 3) := dc_virt (a := 0) (b := 93) (dl_at 864 10 lb_27 rfl) (dl_at 864 11 lb_27 rfl) (dl_at 864 12 lb_27 rfl)
theorem dL_law_877 : decode cL_law 877 = .ok (.pop, 1) := dc_pop (dl_at 864 13 lb_27 rfl)
theorem dL_law_878 : decode cL_law 878 = .ok (.goto 763, 3) := dc_goto (a := 2) (b := 251) (dl_at 864 14 lb_27 rfl) (dl_at 864 15 lb_27 rfl) (dl_at 864 16 lb_27 rfl) (by decide +kernel)
theorem dL_law_881 : decode cL_law 881 = .ok (.aload_n 1, 1) := dc_aload1 (dl_at 864 17 lb_27 rfl)
theorem dL_law_882 : decode cL_law 882 = .ok (.aload_n 0, 1) := dc_aload0 (dl_at 864 18 lb_27 rfl)
theorem dL_law_883 : decode cL_law 883 = .ok (.iload_n 3, 1) := dc_iload3 (dl_at 864 19 lb_27 rfl)
theorem dL_law_884 : decode cL_law 884 = .ok (.iconst 1, 1) := dc_iconst1 (dl_at 864 20 lb_27 rfl)
theorem dL_law_885 : decode cL_law 885 = .ok (.iadd, 1) := dc_iadd (dl_at 864 21 lb_27 rfl)
theorem dL_law_886 : decode cL_law 886 = .ok (.iaload, 1) := dc_iaload (dl_at 864 22 lb_27 rfl)
theorem dL_law_887 : decode cL_law 887 = .ok (.invokevirtual 94, 3) := dc_virt (a := 0) (b := 94) (dl_at 864 23 lb_27 rfl) (dl_at 864 24 lb_27 rfl) (dl_at 864 25 lb_27 rfl)
theorem dL_law_890 : decode cL_law 890 = .ok (.pop, 1) := dc_pop (dl_at 864 26 lb_27 rfl)
theorem dL_law_891 : decode cL_law 891 = .ok (.aload_n 2, 1) := dc_aload2 (dl_at 864 27 lb_27 rfl)
theorem dL_law_892 : decode cL_law 892 = .ok (.aload_n 0, 1) := dc_aload0 (dl_at 864 28 lb_27 rfl)
theorem dL_law_893 : decode cL_law 893 = .ok (.iload_n 3, 1) := dc_iload3 (dl_at 864 29 lb_27 rfl)
theorem dL_law_894 : decode cL_law 894 = .ok (.iconst 1, 1) := dc_iconst1 (dl_at 864 30 lb_27 rfl)
theorem dL_law_895 : decode cL_law 895 = .ok (.iadd, 1) := dc_iadd (dl_at 864 31 lb_27 rfl)
theorem dL_law_896 : decode cL_law 896 = .ok (.iaload, 1) := dc_iaload (dl_at 896 0 lb_28 rfl)
theorem dL_law_897 : decode cL_law 897 = .ok (.invokevirtual 97, 3) := dc_virt (a := 0) (b := 97) (dl_at 896 1 lb_28 rfl) (dl_at 896 2 lb_28 rfl) (dl_at 896 3 lb_28 rfl)
theorem dL_law_900 : decode cL_law 900 = .ok (.pop, 1) := dc_pop (dl_at 896 4 lb_28 rfl)
theorem dL_law_901 : decode cL_law 901 = .ok (.goto 740, 3) := dc_goto (a := 2) (b := 228) (dl_at 896 5 lb_28 rfl) (dl_at 896 6 lb_28 rfl) (dl_at 896 7 lb_28 rfl) (by decide +kernel)
theorem dL_law_904 : decode cL_law 904 = .ok (.aload_n 1, 1) := dc_aload1 (dl_at 896 8 lb_28 rfl)
theorem dL_law_905 : decode cL_law 905 = .ok (.aload_n 0, 1) := dc_aload0 (dl_at 896 9 lb_28 rfl)
theorem dL_law_906 : decode cL_law 906 = .ok (.iload_n 3, 1) := dc_iload3 (dl_at 896 10 lb_28 rfl)
theorem dL_law_907 : decode cL_law 907 = .ok (.iconst 1, 1) := dc_iconst1 (dl_at 896 11 lb_28 rfl)
theorem dL_law_908 : decode cL_law 908 = .ok (.iadd, 1) := dc_iadd (dl_at 896 12 lb_28 rfl)
theorem dL_law_909 : decode cL_law 909 = .ok (.iaload, 1) := dc_iaload (dl_at 896 13 lb_28 rfl)
theorem dL_law_910 : decode cL_law 910 = .ok (.aload_n 0, 1) := dc_aload0 (dl_at 896 14 lb_28 rfl)
theorem dL_law_911 : decode cL_law 911 = .ok (.iload_n 3, 1) := dc_iload3 (dl_at 896 15 lb_28 rfl)
theorem dL_law_912 : decode cL_law 912 = .ok (.iconst 2, 1) := dc_iconst2 (dl_at 896 16 lb_28 rfl)
theorem dL_law_913 : decode cL_law 913 = .ok (.iadd, 1) := dc_iadd (dl_at 896 17 lb_28 rfl)
theorem dL_law_914 : decode cL_law 914 = .ok (.iaload, 1) := dc_iaload (dl_at 896 18 lb_28 rfl)
theorem dL_law_915 : decode cL_law 915 = .ok (.invokevirtual 98, 3) := dc_virt (a := 0) (b := 98) (dl_at 896 19 lb_28 rfl) (dl_at 896 20 lb_28 rfl) (dl_at 896 21 lb_28 rfl)
theorem dL_law_918 : decode cL_law 918 = .ok (.pop, 1) := dc_pop (dl_at 896 22 lb_28 rfl)
theorem dL_law_919 : decode cL_law 919 = .ok (.aload_n 2, 1) := dc_aload2 (dl_at 896 23 lb_28 rfl)
theorem dL_law_920 : decode cL_law 920 = .ok (.aload_n 0, 1) := dc_aload0 (dl_at 896 24 lb_28 rfl)
theorem dL_law_921 : decode cL_law 921 = .ok (.iload_n 3, 1) := dc_iload3 (dl_at 896 25 lb_28 rfl)
theorem dL_law_922 : decode cL_law 922 = .ok (.iconst 1, 1) := dc_iconst1 (dl_at 896 26 lb_28 rfl)
theorem dL_law_923 : decode cL_law 923 = .ok (.iadd, 1) := dc_iadd (dl_at 896 27 lb_28 rfl)
theorem dL_law_924 : decode cL_law 924 = .ok (.iaload, 1) := dc_iaload (dl_at 896 28 lb_28 rfl)
theorem dL_law_925 : decode cL_law 925 = .ok (.aload_n 0, 1) := dc_aload0 (dl_at 896 29 lb_28 rfl)
theorem dL_law_926 : decode cL_law 926 = .ok (.iload_n 3, 1) := dc_iload3 (dl_at 896 30 lb_28 rfl)
theorem dL_law_927 : decode cL_law 927 = .ok (.iconst 2, 1) := dc_iconst2 (dl_at 896 31 lb_28 rfl)
theorem dL_law_928 : decode cL_law 928 = .ok (.iadd, 1) := dc_iadd (dl_at 928 0 lb_29 rfl)
theorem dL_law_929 : decode cL_law 929 = .ok (.iaload, 1) := dc_iaload (dl_at 928 1 lb_29 rfl)
theorem dL_law_930 : decode cL_law 930 = .ok (.invokevirtual 101, 3) := dc_virt (a := 0) (b := 101) (dl_at 928 2 lb_29 rfl) (dl_at 928 3 lb_29 rfl) (dl_at 928 4 lb_29 rfl)
theorem dL_law_933 : decode cL_law 933 = .ok (.pop, 1) := dc_pop (dl_at 928 5 lb_29 rfl)
theorem dL_law_934 : decode cL_law 934 = .ok (.goto 707, 3) := dc_goto (a := 2) (b := 195) (dl_at 928 6 lb_29 rfl) (dl_at 928 7 lb_29 rfl) (dl_at 928 8 lb_29 rfl) (by decide +kernel)
theorem dL_law_937 : decode cL_law 937 = .ok (.aload_n 1, 1) := dc_aload1 (dl_at 928 9 lb_29 rfl)
theorem dL_law_938 : decode cL_law 938 = .ok (.aload_n 0, 1) := dc_aload0 (dl_at 928 10 lb_29 rfl)
theorem dL_law_939 : decode cL_law 939 = .ok (.iload_n 3, 1) := dc_iload3 (dl_at 928 11 lb_29 rfl)
theorem dL_law_940 : decode cL_law 940 = .ok (.iconst 1, 1) := dc_iconst1 (dl_at 928 12 lb_29 rfl)
theorem dL_law_941 : decode cL_law 941 = .ok (.iadd, 1) := dc_iadd (dl_at 928 13 lb_29 rfl)
theorem dL_law_942 : decode cL_law 942 = .ok (.iaload, 1) := dc_iaload (dl_at 928 14 lb_29 rfl)
theorem dL_law_943 : decode cL_law 943 = .ok (.invokevirtual 102, 3) := dc_virt (a := 0) (b := 102) (dl_at 928 15 lb_29 rfl) (dl_at 928 16 lb_29 rfl) (dl_at 928 17 lb_29 rfl)
theorem dL_law_946 : decode cL_law 946 = .ok (.pop, 1) := dc_pop (dl_at 928 18 lb_29 rfl)
theorem dL_law_947 : decode cL_law 947 = .ok (.aload_n 2, 1) := dc_aload2 (dl_at 928 19 lb_29 rfl)
theorem dL_law_948 : decode cL_law 948 = .ok (.aload_n 0, 1) := dc_aload0 (dl_at 928 20 lb_29 rfl)
theorem dL_law_949 : decode cL_law 949 = .ok (.iload_n 3, 1) := dc_iload3 (dl_at 928 21 lb_29 rfl)
theorem dL_law_950 : decode cL_law 950 = .ok (.iconst 1, 1) := dc_iconst1 (dl_at 928 22 lb_29 rfl)
theorem dL_law_951 : decode cL_law 951 = .ok (.iadd, 1) := dc_iadd (dl_at 928 23 lb_29 rfl)
theorem dL_law_952 : decode cL_law 952 = .ok (.iaload, 1) := dc_iaload (dl_at 928 24 lb_29 rfl)
theorem dL_law_953 : decode cL_law 953 = .ok (.invokevirtual 105, 3) := dc_virt (a := 0) (b := 105) (dl_at 928 25 lb_29 rfl) (dl_at 928 26 lb_29 rfl) (dl_at 928 27 lb_29 rfl)
theorem dL_law_956 : decode cL_law 956 = .ok (.pop, 1) := dc_pop (dl_at 928 28 lb_29 rfl)
theorem dL_law_957 : decode cL_law 957 = .ok (.goto 684, 3) := dc_goto (a := 2) (b := 172) (dl_at 928 29 lb_29 rfl) (dl_at 928 30 lb_29 rfl) (dl_at 928 31 lb_29 rfl) (by decide +kernel)
theorem dL_law_960 : decode cL_law 960 = .ok (.aload_n 1, 1) := dc_aload1 (dl_at 960 0 lb_30 rfl)
theorem dL_law_961 : decode cL_law 961 = .ok (.aload_n 0, 1) := dc_aload0 (dl_at 960 1 lb_30 rfl)
theorem dL_law_962 : decode cL_law 962 = .ok (.iload_n 3, 1) := dc_iload3 (dl_at 960 2 lb_30 rfl)
theorem dL_law_963 : decode cL_law 963 = .ok (.iconst 1, 1) := dc_iconst1 (dl_at 960 3 lb_30 rfl)
theorem dL_law_964 : decode cL_law 964 = .ok (.iadd, 1) := dc_iadd (dl_at 960 4 lb_30 rfl)
theorem dL_law_965 : decode cL_law 965 = .ok (.iaload, 1) := dc_iaload (dl_at 960 5 lb_30 rfl)
theorem dL_law_966 : decode cL_law 966 = .ok (.invokevirtual 106, 3) := dc_virt (a := 0) (b := 106) (dl_at 960 6 lb_30 rfl) (dl_at 960 7 lb_30 rfl) (dl_at 960 8 lb_30 rfl)
theorem dL_law_969 : decode cL_law 969 = .ok (.pop, 1) := dc_pop (dl_at 960 9 lb_30 rfl)
theorem dL_law_970 : decode cL_law 970 = .ok (.aload_n 2, 1) := dc_aload2 (dl_at 960 10 lb_30 rfl)
theorem dL_law_971 : decode cL_law 971 = .ok (.aload_n 0, 1) := dc_aload0 (dl_at 960 11 lb_30 rfl)
theorem dL_law_972 : decode cL_law 972 = .ok (.iload_n 3, 1) := dc_iload3 (dl_at 960 12 lb_30 rfl)
theorem dL_law_973 : decode cL_law 973 = .ok (.iconst 1, 1) := dc_iconst1 (dl_at 960 13 lb_30 rfl)
theorem dL_law_974 : decode cL_law 974 = .ok (.iadd, 1) := dc_iadd (dl_at 960 14 lb_30 rfl)
theorem dL_law_975 : decode cL_law 975 = .ok (.iaload, 1) := dc_iaload (dl_at 960 15 lb_30 rfl)
theorem dL_law_976 : decode cL_law 976 = .ok (.invokevirtual 109, 3) := dc_virt (a := 0) (b := 109) (dl_at 960 16 lb_30 rfl) (dl_at 960 17 lb_30 rfl) (dl_at 960 18 lb_30 rfl)
theorem dL_law_979 : decode cL_law 979 = .ok (.pop, 1) := dc_pop (dl_at 960 19 lb_30 rfl)
theorem dL_law_980 : decode cL_law 980 = .ok (.goto 661, 3) := dc_goto (a := 2) (b := 149) (dl_at 960 20 lb_30 rfl) (dl_at 960 21 lb_30 rfl) (dl_at 960 22 lb_30 rfl) (by decide +kernel)
theorem dL_law_983 : decode cL_law 983 = .ok (.aload_n 1, 1) := dc_aload1 (dl_at 960 23 lb_30 rfl)
theorem dL_law_984 : decode cL_law 984 = .ok (.aload_n 0, 1) := dc_aload0 (dl_at 960 24 lb_30 rfl)
theorem dL_law_985 : decode cL_law 985 = .ok (.iload_n 3, 1) := dc_iload3 (dl_at 960 25 lb_30 rfl)
theorem dL_law_986 : decode cL_law 986 = .ok (.iconst 1, 1) := dc_iconst1 (dl_at 960 26 lb_30 rfl)
theorem dL_law_987 : decode cL_law 987 = .ok (.iadd, 1) := dc_iadd (dl_at 960 27 lb_30 rfl)
theorem dL_law_988 : decode cL_law 988 = .ok (.iaload, 1) := dc_iaload (dl_at 960 28 lb_30 rfl)
theorem dL_law_989 : decode cL_law 989 = .ok (.invokevirtual 110, 3) := dc_virt (a := 0) (b := 110) (dl_at 960 29 lb_30 rfl) (dl_at 960 30 lb_30 rfl) (dl_at 960 31 lb_30 rfl)
theorem dL_law_992 : decode cL_law 992 = .ok (.pop, 1) := dc_pop (dl_at 992 0 lb_31 rfl)
theorem dL_law_993 : decode cL_law 993 = .ok (.aload_n 2, 1) := dc_aload2 (dl_at 992 1 lb_31 rfl)
theorem dL_law_994 : decode cL_law 994 = .ok (.aload_n 0, 1) := dc_aload0 (dl_at 992 2 lb_31 rfl)
theorem dL_law_995 : decode cL_law 995 = .ok (.iload_n 3, 1) := dc_iload3 (dl_at 992 3 lb_31 rfl)
theorem dL_law_996 : decode cL_law 996 = .ok (.iconst 1, 1) := dc_iconst1 (dl_at 992 4 lb_31 rfl)
theorem dL_law_997 : decode cL_law 997 = .ok (.iadd, 1) := dc_iadd (dl_at 992 5 lb_31 rfl)
theorem dL_law_998 : decode cL_law 998 = .ok (.iaload, 1) := dc_iaload (dl_at 992 6 lb_31 rfl)
theorem dL_law_999 : decode cL_law 999 = .ok (.invokevirtual 113, 3) := dc_virt (a := 0) (b := 113) (dl_at 992 7 lb_31 rfl) (dl_at 992 8 lb_31 rfl) (dl_at 992 9 lb_31 rfl)
theorem dL_law_1002 : decode cL_law 1002 = .ok (.pop, 1) := dc_pop (dl_at 992 10 lb_31 rfl)
theorem dL_law_1003 : decode cL_law 1003 = .ok (.goto 638, 3) := dc_goto (a := 2) (b := 126) (dl_at 992 11 lb_31 rfl) (dl_at 992 12 lb_31 rfl) (dl_at 992 13 lb_31 rfl) (by decide +kernel)
theorem dL_law_1006 : decode cL_law 1006 = .ok (.aload_n 1, 1) := dc_aload1 (dl_at 992 14 lb_31 rfl)
theorem dL_law_1007 : decode cL_law 1007 = .ok (.aload_n 0, 1) := dc_aload0 (dl_at 992 15 lb_31 rfl)
theorem dL_law_1008 : decode cL_law 1008 = .ok (.iload_n 3, 1) := dc_iload3 (dl_at 992 16 lb_31 rfl)
theorem dL_law_1009 : decode cL_law 1009 = .ok (.iconst 1, 1) := dc_iconst1 (dl_at 992 17 lb_31 rfl)
theorem dL_law_1010 : decode cL_law 1010 = .ok (.iadd, 1) := dc_iadd (dl_at 992 18 lb_31 rfl)
theorem dL_law_1011 : decode cL_law 1011 = .ok (.iaload, 1) := dc_iaload (dl_at 992 19 lb_31 rfl)
theorem dL_law_1012 : decode cL_law 1012 = .ok (.invokevirtual 114, 3) := dc_virt (a := 0) (b := 114) (dl_at 992 20 lb_31 rfl) (dl_at 992 21 lb_31 rfl) (dl_at 992 22 lb_31 rfl)
theorem dL_law_1015 : decode cL_law 1015 = .ok (.pop, 1) := dc_pop (dl_at 992 23 lb_31 rfl)
theorem dL_law_1016 : decode cL_law 1016 = .ok (.aload_n 2, 1) := dc_aload2 (dl_at 992 24 lb_31 rfl)
theorem dL_law_1017 : decode cL_law 1017 = .ok (.aload_n 0, 1) := dc_aload0 (dl_at 992 25 lb_31 rfl)
theorem dL_law_1018 : decode cL_law 1018 = .ok (.iload_n 3, 1) := dc_iload3 (dl_at 992 26 lb_31 rfl)
theorem dL_law_1019 : decode cL_law 1019 = .ok (.iconst 1, 1) := dc_iconst1 (dl_at 992 27 lb_31 rfl)
theorem dL_law_1020 : decode cL_law 1020 = .ok (.iadd, 1) := dc_iadd (dl_at 992 28 lb_31 rfl)
theorem dL_law_1021 : decode cL_law 1021 = .ok (.iaload, 1) := dc_iaload (dl_at 992 29 lb_31 rfl)
theorem dL_law_1022 : decode cL_law 1022 = .ok (.invokevirtual 117, 3) := dc_virt (a := 0) (b := 117) (dl_at 992 30 lb_31 rfl) (dl_at 992 31 lb_31 rfl) (dl_at 1024 0 lb_32 rfl)
theorem dL_law_1025 : decode cL_law 1025 = .ok (.pop, 1) := dc_pop (dl_at 1024 1 lb_32 rfl)
theorem dL_law_1026 : decode cL_law 1026 = .ok (.goto 615, 3) := dc_goto (a := 2) (b := 103) (dl_at 1024 2 lb_32 rfl) (dl_at 1024 3 lb_32 rfl) (dl_at 1024 4 lb_32 rfl) (by decide +kernel)
theorem dL_law_1029 : decode cL_law 1029 = .ok (.aload_n 1, 1) := dc_aload1 (dl_at 1024 5 lb_32 rfl)
theorem dL_law_1030 : decode cL_law 1030 = .ok (.aload_n 0, 1) := dc_aload0 (dl_at 1024 6 lb_32 rfl)
theorem dL_law_1031 : decode cL_law 1031 = .ok (.iload_n 3, 1) := dc_iload3 (dl_at 1024 7 lb_32 rfl)
theorem dL_law_1032 : decode cL_law 1032 = .ok (.iconst 1, 1) := dc_iconst1 (dl_at 1024 8 lb_32 rfl)
theorem dL_law_1033 : decode cL_law 1033 = .ok (.iadd, 1) := dc_iadd (dl_at 1024 9 lb_32 rfl)
theorem dL_law_1034 : decode cL_law 1034 = .ok (.iaload, 1) := dc_iaload (dl_at 1024 10 lb_32 rfl)
theorem dL_law_1035 : decode cL_law 1035 = .ok (.aload_n 0, 1) := dc_aload0 (dl_at 1024 11 lb_32 rfl)
theorem dL_law_1036 : decode cL_law 1036 = .ok (.iload_n 3, 1) := dc_iload3 (dl_at 1024 12 lb_32 rfl)
theorem dL_law_1037 : decode cL_law 1037 = .ok (.iconst 2, 1) := dc_iconst2 (dl_at 1024 13 lb_32 rfl)
theorem dL_law_1038 : decode cL_law 1038 = .ok (.iadd, 1) := dc_iadd (dl_at 1024 14 lb_32 rfl)
theorem dL_law_1039 : decode cL_law 1039 = .ok (.iaload, 1) := dc_iaload (dl_at 1024 15 lb_32 rfl)
theorem dL_law_1040 : decode cL_law 1040 = .ok (.invokevirtual 118, 3) := dc_virt (a := 0) (b := 118) (dl_at 1024 16 lb_32 rfl) (dl_at 1024 17 lb_32 rfl) (dl_at 1024 18 lb_32 rfl)
theorem dL_law_1043 : decode cL_law 1043 = .ok (.pop, 1) := dc_pop (dl_at 1024 19 lb_32 rfl)
theorem dL_law_1044 : decode cL_law 1044 = .ok (.aload_n 2, 1) := dc_aload2 (dl_at 1024 20 lb_32 rfl)
theorem dL_law_1045 : decode cL_law 1045 = .ok (.aload_n 0, 1) := dc_aload0 (dl_at 1024 21 lb_32 rfl)
theorem dL_law_1046 : decode cL_law 1046 = .ok (.iload_n 3, 1) := dc_iload3 (dl_at 1024 22 lb_32 rfl)
theorem dL_law_1047 : decode cL_law 1047 = .ok (.iconst 1, 1) := dc_iconst1 (dl_at 1024 23 lb_32 rfl)
theorem dL_law_1048 : decode cL_law 1048 = .ok (.iadd, 1) := dc_iadd (dl_at 1024 24 lb_32 rfl)
theorem dL_law_1049 : decode cL_law 1049 = .ok (.iaload, 1) := dc_iaload (dl_at 1024 25 lb_32 rfl)
theorem dL_law_1050 : decode cL_law 1050 = .ok (.aload_n 0, 1) := dc_aload0 (dl_at 1024 26 lb_32 rfl)
theorem dL_law_1051 : decode cL_law 1051 = .ok (.iload_n 3, 1) := dc_iload3 (dl_at 1024 27 lb_32 rfl)
theorem dL_law_1052 : decode cL_law 1052 = .ok (.iconst 2, 1) := dc_iconst2 (dl_at 1024 28 lb_32 rfl)
theorem dL_law_1053 : decode cL_law 1053 = .ok (.iadd, 1) := dc_iadd (dl_at 1024 29 lb_32 rfl)
theorem dL_law_1054 : decode cL_law 1054 = .ok (.iaload, 1) := dc_iaload (dl_at 1024 30 lb_32 rfl)
theorem dL_law_1055 : decode cL_law 1055 = .ok (.invokevirtual 121, 3) := dc_virt (a := 0) (b := 121) (dl_at 1024 31 lb_32 rfl) (dl_at 1056 0 lb_33 rfl) (dl_at 1056 1 lb_33 rfl)
theorem dL_law_1058 : decode cL_law 1058 = .ok (.pop, 1) := dc_pop (dl_at 1056 2 lb_33 rfl)
theorem dL_law_1059 : decode cL_law 1059 = .ok (.goto 582, 3) := dc_goto (a := 2) (b := 70) (dl_at 1056 3 lb_33 rfl) (dl_at 1056 4 lb_33 rfl) (dl_at 1056 5 lb_33 rfl) (by decide +kernel)
set_option maxHeartbeats 4000000 in
set_option maxRecDepth 100000 in
theorem le_13 {p : Program} {e : Env} {s : State} {m : MethodId} {below : List Frame} {meth : Method} {c : Code} (l : Launch) {b L : Nat} {xs : Nat → Int32} {dC : Nat → ClassId} {dI : Nat → Nat → Nat} {cs : Nat → ClassId} {tt : Nat} {adx adm : Nat → Nat} {i : Int32} {cc : Int} (F1 : lw_F p s m meth c b L xs dC dI cs tt) {mux mum : Nat → Nat → Int32} {H : Heap} {locs : List Loc} {ls : Array Slot} (J0 : lw_J s b dC dI cs adx adm i cc mux mum H locs ls) (hL : L ≤ 384) (hcc : 1000 ≤ cc ∧ cc ≤ 900000) (hi : 0 ≤ i.toInt ∧ i.toInt + 6 ≤ L) (KE : ∀ (mux mum : Nat → Nat → Int32) (H : Heap) (locs : List Loc) (ls : Array Slot), lw_J s b dC dI cs adx adm i (cc + 1000) mux mum H locs ls → W p l e room_1 s m #[Value.ref b] below meth c H locs 178 3099 (lw_Z below #[Value.ref b] s) (F0 m 1641 ls [])) : W p l e room_1 s m #[Value.ref b] below meth c H locs 178 3099 (lw_Z below #[Value.ref b] s) (F0 m 683 ls []) := by
  have F2 := F1
  have J1 := J0
  obtain ⟨C0, hKx, hKm, hz, hks⟩ := F1
  obtain ⟨hx, hb, hr, hml, hown0, hts0, hX, hbl, hlocks, hgv⟩ := C0
  obtain ⟨okx, okm, hsim, hPx, hPm, hD, hS, hl⟩ := J0
  have okx0 := okx
  have okm0 := okm
  have hown : s.vm.findClass RL = some m.cls := hown0
  have hts := hts0
  have hbA : ¬ (fun q : Nat => s.heap.size ≤ q) b := Nat.not_le.mpr hbl
  have hA : ∀ q : Nat, s.heap.size ≤ q → (fun q : Nat => s.heap.size ≤ q) q := fun _ h => h
  refine lv_aload_n hx hb dL_law_683 rfl (lv_at hl 2 rfl) ?_
  refine lv_aload_n hx hb dL_law_684 rfl (lv_at hl 3 rfl) ?_
  refine lv_iload_n hx hb dL_law_685 rfl (lv_at hl 0 rfl) ?_
  refine lv_iconst (v := 1) hx hb dL_law_686 (by decide) ?_
  refine lv_iadd hx hb dL_law_687 ?_
  refine lv_topi (fun t1 et1 => ?_)
  have at1 : t1.toInt = i.toInt + 1 := by rw [et1]; exact tI_add rfl (rfl : (1 : Int32).toInt = _) (by show _ ≤ i.toInt + (1 : Int); omega) (by show i.toInt + (1 : Int) < _; omega)
  refine va_sld hx hb hX hbl hbA hS (show vp_in t1 L from vi_of (by omega) (by omega)) dL_law_688 ?_
  refine lv_topi (fun a1 ea1 => ?_)
  refine lv_aload_n hx hb dL_law_689 rfl (lv_at hl 3 rfl) ?_
  refine lv_iload_n hx hb dL_law_690 rfl (lv_at hl 0 rfl) ?_
  refine lv_iconst (v := 2) hx hb dL_law_691 (by decide) ?_
  refine lv_iadd hx hb dL_law_692 ?_
  refine lv_topi (fun t2 et2 => ?_)
  have at2 : t2.toInt = i.toInt + 2 := by rw [et2]; exact tI_add rfl (rfl : (2 : Int32).toInt = _) (by show _ ≤ i.toInt + (2 : Int); omega) (by show i.toInt + (2 : Int) < _; omega)
  refine va_sld hx hb hX hbl hbA hS (show vp_in t2 L from vi_of (by omega) (by omega)) dL_law_693 ?_
  refine lv_topi (fun a2 ea2 => ?_)
  have hDx := dl_left hD
  have hDm := dl_right hD
  have hFx := fr_all hDx hS hA
  refine va_calli (va_runV (As := [.int a1, .int a2]) (rest := []) ⟨hx, hb, hml, hown, hts⟩ (qx_snow l dC dI cs adx mux okx H hPx (hDx.weaken (fun _ _ _ _ => trivial)) a1 a2) (cwV 2 hts (wL_V mw_3_128 mw_3_125 mw_3_126 mw_3_127 mw_1_1) rfl rfl rfl (by decide +kernel) ⟨Nat.le_of_ble_eq_true rfl, Nat.le_of_ble_eq_true rfl⟩) ⟨sz_c, va_recv hKx hPx (ci := 11) (q0 := 0) rfl (gX_0 cs adx mux), sz_m hKx hz⟩ rfl rfl hl.1 rfl (lv_room (Nat.le_of_ble_eq_true rfl)) dL_law_694 ⟨Nat.le_of_ble_eq_true rfl, Nat.le_of_ble_eq_true rfl⟩) hS (fun q _ h => hFx q h) hFx (fun r1 xi1 t H1 locs ht hvm hw1 hB hz1 hk1 hS => ?_)
  obtain ⟨hfe1, okx, hw1, hkp1⟩ := hw1
  have hPx : va_P (dC, dI) vwCl (wR 157 adx (EX cs adx) xi1) H1 := by rw [← ht]; exact hB
  have hPm := kp_rest hD hPm hk1
  have hD : va_D (fun q : Nat => s.heap.size ≤ q) ((wR 157 adx (EX cs adx) xi1) ++ (wR 21 adm (EM cs adm) mum)) := wR_DD _ _ hD
  refine lv_pop hx hb dL_law_697 rfl ?_
  refine lv_aload_n hx hb dL_law_698 rfl (lv_at hl 1 rfl) ?_
  refine lv_aload_n hx hb dL_law_699 rfl (lv_at hl 3 rfl) ?_
  refine lv_iload_n hx hb dL_law_700 rfl (lv_at hl 0 rfl) ?_
  refine lv_iconst (v := 1) hx hb dL_law_701 (by decide) ?_
  refine lv_iadd hx hb dL_law_702 ?_
  refine lq_i t1 et1.symm ?_
  refine va_sld hx hb hX hbl hbA hS (show vp_in t1 L from vi_of (by omega) (by omega)) dL_law_703 ?_
  refine lq_i a1 ea1.symm ?_
  refine lv_aload_n hx hb dL_law_704 rfl (lv_at hl 3 rfl) ?_
  refine lv_iload_n hx hb dL_law_705 rfl (lv_at hl 0 rfl) ?_
  refine lv_iconst (v := 2) hx hb dL_law_706 (by decide) ?_
  refine lv_iadd hx hb dL_law_707 ?_
  refine lq_i t2 et2.symm ?_
  refine va_sld hx hb hX hbl hbA hS (show vp_in t2 L from vi_of (by omega) (by omega)) dL_law_708 ?_
  refine lq_i a2 ea2.symm ?_
  have hDx := dl_left hD
  have hDm := dl_right hD
  have hFm := fr_all hDm hS hA
  refine va_calli (va_runV (As := [.int a1, .int a2]) (rest := []) ⟨hx, hb, hml, hown, hts⟩ (qm_snow l dC dI cs adm mum okm H1 hPm (hDm.weaken (fun _ _ _ _ => trivial)) a1 a2) (cwV 2 hts (wL_V mw_6_86 mw_6_83 mw_6_84 mw_6_85 mw_1_13) rfl rfl rfl (by decide +kernel) ⟨Nat.le_of_ble_eq_true rfl, Nat.le_of_ble_eq_true rfl⟩) ⟨sz_c, va_recv hKm hPm (ci := 12) (q0 := 0) rfl (gM_0 cs adm mum), sz_m hKm hz⟩ rfl rfl hl.1 rfl (lv_room (Nat.le_of_ble_eq_true rfl)) dL_law_709 ⟨Nat.le_of_ble_eq_true rfl, Nat.le_of_ble_eq_true rfl⟩) hS (fun q _ h => hFm q h) hFm (fun r2 xi2 t H2 locs ht hvm hw2 hB hz1 hk1 hS => ?_)
  obtain ⟨hfe2, okm, hw2, hkp2⟩ := hw2
  have hPm : va_P (dC, dI) vwCl (wR 21 adm (EM cs adm) xi2) H2 := by rw [← ht]; exact hB
  have hPx := kp_rest (pm_D List.perm_append_comm hD) hPx hk1
  have hD : va_D (fun q : Nat => s.heap.size ≤ q) ((wR 157 adx (EX cs adx) xi1) ++ (wR 21 adm (EM cs adm) xi2)) := wR_DD _ _ hD
  refine lv_pop hx hb dL_law_712 rfl ?_
  refine lv_goto (tgt := 1641) hx hb dL_law_713 (by decide) ?_
  exact KE xi1 xi2 _ _ _ ⟨okx, okm, ⟨simT_keep (by decide) (by decide) hkp1 hkp2 hsim.1, (snow_rel okm0 hsim.2.1 hfe1 hfe2).2, mon_le (mon_keep (by decide) hkp2 hsim.2.2) (by omega)⟩, hPx, hPm, hD, hS, hl⟩
set_option maxHeartbeats 4000000 in
set_option maxRecDepth 100000 in
theorem le_14 {p : Program} {e : Env} {s : State} {m : MethodId} {below : List Frame} {meth : Method} {c : Code} (l : Launch) {b L : Nat} {xs : Nat → Int32} {dC : Nat → ClassId} {dI : Nat → Nat → Nat} {cs : Nat → ClassId} {tt : Nat} {adx adm : Nat → Nat} {i : Int32} {cc : Int} (F1 : lw_F p s m meth c b L xs dC dI cs tt) {mux mum : Nat → Nat → Int32} {H : Heap} {locs : List Loc} {ls : Array Slot} (J0 : lw_J s b dC dI cs adx adm i cc mux mum H locs ls) (hL : L ≤ 384) (hcc : 1000 ≤ cc ∧ cc ≤ 900000) (hi : 0 ≤ i.toInt ∧ i.toInt + 6 ≤ L) (KE : ∀ (mux mum : Nat → Nat → Int32) (H : Heap) (locs : List Loc) (ls : Array Slot), lw_J s b dC dI cs adx adm i (cc + 1000) mux mum H locs ls → W p l e room_1 s m #[Value.ref b] below meth c H locs 178 3099 (lw_Z below #[Value.ref b] s) (F0 m 1641 ls [])) : W p l e room_1 s m #[Value.ref b] below meth c H locs 178 3099 (lw_Z below #[Value.ref b] s) (F0 m 716 ls []) := by
  have F2 := F1
  have J1 := J0
  obtain ⟨C0, hKx, hKm, hz, hks⟩ := F1
  obtain ⟨hx, hb, hr, hml, hown0, hts0, hX, hbl, hlocks, hgv⟩ := C0
  obtain ⟨okx, okm, hsim, hPx, hPm, hD, hS, hl⟩ := J0
  have okx0 := okx
  have okm0 := okm
  have hown : s.vm.findClass RL = some m.cls := hown0
  have hts := hts0
  have hbA : ¬ (fun q : Nat => s.heap.size ≤ q) b := Nat.not_le.mpr hbl
  have hA : ∀ q : Nat, s.heap.size ≤ q → (fun q : Nat => s.heap.size ≤ q) q := fun _ h => h
  refine lv_aload_n hx hb dL_law_716 rfl (lv_at hl 2 rfl) ?_
  refine lv_aload_n hx hb dL_law_717 rfl (lv_at hl 3 rfl) ?_
  refine lv_iload_n hx hb dL_law_718 rfl (lv_at hl 0 rfl) ?_
  refine lv_iconst (v := 1) hx hb dL_law_719 (by decide) ?_
  refine lv_iadd hx hb dL_law_720 ?_
  refine lv_topi (fun t1 et1 => ?_)
  have at1 : t1.toInt = i.toInt + 1 := by rw [et1]; exact tI_add rfl (rfl : (1 : Int32).toInt = _) (by show _ ≤ i.toInt + (1 : Int); omega) (by show i.toInt + (1 : Int) < _; omega)
  refine va_sld hx hb hX hbl hbA hS (show vp_in t1 L from vi_of (by omega) (by omega)) dL_law_721 ?_
  refine lv_topi (fun a1 ea1 => ?_)
  refine lv_aload_n hx hb dL_law_722 rfl (lv_at hl 3 rfl) ?_
  refine lv_iload_n hx hb dL_law_723 rfl (lv_at hl 0 rfl) ?_
  refine lv_iconst (v := 2) hx hb dL_law_724 (by decide) ?_
  refine lv_iadd hx hb dL_law_725 ?_
  refine lv_topi (fun t2 et2 => ?_)
  have at2 : t2.toInt = i.toInt + 2 := by rw [et2]; exact tI_add rfl (rfl : (2 : Int32).toInt = _) (by show _ ≤ i.toInt + (2 : Int); omega) (by show i.toInt + (2 : Int) < _; omega)
  refine va_sld hx hb hX hbl hbA hS (show vp_in t2 L from vi_of (by omega) (by omega)) dL_law_726 ?_
  refine lv_topi (fun a2 ea2 => ?_)
  have hDx := dl_left hD
  have hDm := dl_right hD
  have hFx := fr_all hDx hS hA
  refine va_calli (va_runV (As := [.int a1, .int a2]) (rest := []) ⟨hx, hb, hml, hown, hts⟩ (qx_asks l dC dI cs adx mux okx H hPx (hDx.weaken (fun _ _ _ _ => trivial)) a1 a2) (cwV 2 hts (wL_V mw_3_132 mw_3_129 mw_3_130 mw_3_131 mw_1_1) rfl rfl rfl (by decide +kernel) ⟨Nat.le_of_ble_eq_true rfl, Nat.le_of_ble_eq_true rfl⟩) ⟨sz_c, va_recv hKx hPx (ci := 11) (q0 := 0) rfl (gX_0 cs adx mux), sz_m hKx hz⟩ rfl rfl hl.1 rfl (lv_room (Nat.le_of_ble_eq_true rfl)) dL_law_727 ⟨Nat.le_of_ble_eq_true rfl, Nat.le_of_ble_eq_true rfl⟩) hS (fun q _ h => hFx q h) hFx (fun r1 xi1 t H1 locs ht hvm hw1 hB hz1 hk1 hS => ?_)
  obtain ⟨hfe1, okx, hw1, hkp1⟩ := hw1
  have hPx : va_P (dC, dI) vwCl (wR 157 adx (EX cs adx) xi1) H1 := by rw [← ht]; exact hB
  have hPm := kp_rest hD hPm hk1
  have hD : va_D (fun q : Nat => s.heap.size ≤ q) ((wR 157 adx (EX cs adx) xi1) ++ (wR 21 adm (EM cs adm) mum)) := wR_DD _ _ hD
  refine lv_pop hx hb dL_law_730 rfl ?_
  refine lv_aload_n hx hb dL_law_731 rfl (lv_at hl 1 rfl) ?_
  refine lv_aload_n hx hb dL_law_732 rfl (lv_at hl 3 rfl) ?_
  refine lv_iload_n hx hb dL_law_733 rfl (lv_at hl 0 rfl) ?_
  refine lv_iconst (v := 1) hx hb dL_law_734 (by decide) ?_
  refine lv_iadd hx hb dL_law_735 ?_
  refine lq_i t1 et1.symm ?_
  refine va_sld hx hb hX hbl hbA hS (show vp_in t1 L from vi_of (by omega) (by omega)) dL_law_736 ?_
  refine lq_i a1 ea1.symm ?_
  refine lv_aload_n hx hb dL_law_737 rfl (lv_at hl 3 rfl) ?_
  refine lv_iload_n hx hb dL_law_738 rfl (lv_at hl 0 rfl) ?_
  refine lv_iconst (v := 2) hx hb dL_law_739 (by decide) ?_
  refine lv_iadd hx hb dL_law_740 ?_
  refine lq_i t2 et2.symm ?_
  refine va_sld hx hb hX hbl hbA hS (show vp_in t2 L from vi_of (by omega) (by omega)) dL_law_741 ?_
  refine lq_i a2 ea2.symm ?_
  have hDx := dl_left hD
  have hDm := dl_right hD
  have hFm := fr_all hDm hS hA
  refine va_calli (va_runV (As := [.int a1, .int a2]) (rest := []) ⟨hx, hb, hml, hown, hts⟩ (qm_asks l dC dI cs adm mum okm H1 hPm (hDm.weaken (fun _ _ _ _ => trivial)) a1 a2) (cwV 2 hts (wL_V mw_6_90 mw_6_87 mw_6_88 mw_6_89 mw_1_13) rfl rfl rfl (by decide +kernel) ⟨Nat.le_of_ble_eq_true rfl, Nat.le_of_ble_eq_true rfl⟩) ⟨sz_c, va_recv hKm hPm (ci := 12) (q0 := 0) rfl (gM_0 cs adm mum), sz_m hKm hz⟩ rfl rfl hl.1 rfl (lv_room (Nat.le_of_ble_eq_true rfl)) dL_law_742 ⟨Nat.le_of_ble_eq_true rfl, Nat.le_of_ble_eq_true rfl⟩) hS (fun q _ h => hFm q h) hFm (fun r2 xi2 t H2 locs ht hvm hw2 hB hz1 hk1 hS => ?_)
  obtain ⟨hfe2, okm, hw2, hkp2⟩ := hw2
  have hPm : va_P (dC, dI) vwCl (wR 21 adm (EM cs adm) xi2) H2 := by rw [← ht]; exact hB
  have hPx := kp_rest (pm_D List.perm_append_comm hD) hPx hk1
  have hD : va_D (fun q : Nat => s.heap.size ≤ q) ((wR 157 adx (EX cs adx) xi1) ++ (wR 21 adm (EM cs adm) xi2)) := wR_DD _ _ hD
  refine lv_pop hx hb dL_law_745 rfl ?_
  refine lv_goto (tgt := 1641) hx hb dL_law_746 (by decide) ?_
  exact KE xi1 xi2 _ _ _ ⟨okx, okm, ⟨simT_keep (by decide) (by decide) hkp1 hkp2 hsim.1, core_keep okm0 (by decide) (by decide) hkp1 hkp2 hsim.2.1, mon_le (mon_keep (by decide) hkp2 hsim.2.2) (by omega)⟩, hPx, hPm, hD, hS, hl⟩
set_option maxHeartbeats 4000000 in
set_option maxRecDepth 100000 in
theorem le_15 {p : Program} {e : Env} {s : State} {m : MethodId} {below : List Frame} {meth : Method} {c : Code} (l : Launch) {b L : Nat} {xs : Nat → Int32} {dC : Nat → ClassId} {dI : Nat → Nat → Nat} {cs : Nat → ClassId} {tt : Nat} {adx adm : Nat → Nat} {i : Int32} {cc : Int} (F1 : lw_F p s m meth c b L xs dC dI cs tt) {mux mum : Nat → Nat → Int32} {H : Heap} {locs : List Loc} {ls : Array Slot} (J0 : lw_J s b dC dI cs adx adm i cc mux mum H locs ls) (hL : L ≤ 384) (hcc : 1000 ≤ cc ∧ cc ≤ 900000) (hi : 0 ≤ i.toInt ∧ i.toInt + 6 ≤ L) (KE : ∀ (mux mum : Nat → Nat → Int32) (H : Heap) (locs : List Loc) (ls : Array Slot), lw_J s b dC dI cs adx adm i (cc + 1000) mux mum H locs ls → W p l e room_1 s m #[Value.ref b] below meth c H locs 178 3099 (lw_Z below #[Value.ref b] s) (F0 m 1641 ls [])) : W p l e room_1 s m #[Value.ref b] below meth c H locs 178 3099 (lw_Z below #[Value.ref b] s) (F0 m 749 ls []) := by
  have F2 := F1
  have J1 := J0
  obtain ⟨C0, hKx, hKm, hz, hks⟩ := F1
  obtain ⟨hx, hb, hr, hml, hown0, hts0, hX, hbl, hlocks, hgv⟩ := C0
  obtain ⟨okx, okm, hsim, hPx, hPm, hD, hS, hl⟩ := J0
  have okx0 := okx
  have okm0 := okm
  have hown : s.vm.findClass RL = some m.cls := hown0
  have hts := hts0
  have hbA : ¬ (fun q : Nat => s.heap.size ≤ q) b := Nat.not_le.mpr hbl
  have hA : ∀ q : Nat, s.heap.size ≤ q → (fun q : Nat => s.heap.size ≤ q) q := fun _ h => h
  refine lv_aload_n hx hb dL_law_749 rfl (lv_at hl 2 rfl) ?_
  refine lv_aload_n hx hb dL_law_750 rfl (lv_at hl 3 rfl) ?_
  refine lv_iload_n hx hb dL_law_751 rfl (lv_at hl 0 rfl) ?_
  refine lv_iconst (v := 1) hx hb dL_law_752 (by decide) ?_
  refine lv_iadd hx hb dL_law_753 ?_
  refine lv_topi (fun t1 et1 => ?_)
  have at1 : t1.toInt = i.toInt + 1 := by rw [et1]; exact tI_add rfl (rfl : (1 : Int32).toInt = _) (by show _ ≤ i.toInt + (1 : Int); omega) (by show i.toInt + (1 : Int) < _; omega)
  refine va_sld hx hb hX hbl hbA hS (show vp_in t1 L from vi_of (by omega) (by omega)) dL_law_754 ?_
  refine lv_topi (fun a1 ea1 => ?_)
  have hDx := dl_left hD
  have hDm := dl_right hD
  have hFx := fr_all hDx hS hA
  refine va_calli (va_runV (As := [.int a1]) (rest := []) ⟨hx, hb, hml, hown, hts⟩ (qx_beside l dC dI cs adx mux okx H hPx (hDx.weaken (fun _ _ _ _ => trivial)) a1) (cwV 1 hts (wL_V mw_3_136 mw_3_133 mw_3_134 mw_3_135 mw_1_1) rfl rfl rfl (by decide +kernel) ⟨Nat.le_of_ble_eq_true rfl, Nat.le_of_ble_eq_true rfl⟩) ⟨sz_c, va_recv hKx hPx (ci := 11) (q0 := 0) rfl (gX_0 cs adx mux), sz_m hKx hz⟩ rfl rfl hl.1 rfl (lv_room (Nat.le_of_ble_eq_true rfl)) dL_law_755 ⟨Nat.le_of_ble_eq_true rfl, Nat.le_of_ble_eq_true rfl⟩) hS (fun q _ h => hFx q h) hFx (fun r1 xi1 t H1 locs ht hvm hw1 hB hz1 hk1 hS => ?_)
  obtain ⟨hfe1, okx, hw1, hkp1⟩ := hw1
  have hPx : va_P (dC, dI) vwCl (wR 157 adx (EX cs adx) xi1) H1 := by rw [← ht]; exact hB
  have hPm := kp_rest hD hPm hk1
  have hD : va_D (fun q : Nat => s.heap.size ≤ q) ((wR 157 adx (EX cs adx) xi1) ++ (wR 21 adm (EM cs adm) mum)) := wR_DD _ _ hD
  refine lv_pop hx hb dL_law_758 rfl ?_
  refine lv_aload_n hx hb dL_law_759 rfl (lv_at hl 1 rfl) ?_
  refine lv_aload_n hx hb dL_law_760 rfl (lv_at hl 3 rfl) ?_
  refine lv_iload_n hx hb dL_law_761 rfl (lv_at hl 0 rfl) ?_
  refine lv_iconst (v := 1) hx hb dL_law_762 (by decide) ?_
  refine lv_iadd hx hb dL_law_763 ?_
  refine lq_i t1 et1.symm ?_
  refine va_sld hx hb hX hbl hbA hS (show vp_in t1 L from vi_of (by omega) (by omega)) dL_law_764 ?_
  refine lq_i a1 ea1.symm ?_
  have hDx := dl_left hD
  have hDm := dl_right hD
  have hFm := fr_all hDm hS hA
  refine va_calli (va_runV (As := [.int a1]) (rest := []) ⟨hx, hb, hml, hown, hts⟩ (qm_beside l dC dI cs adm mum okm H1 hPm (hDm.weaken (fun _ _ _ _ => trivial)) a1) (cwV 1 hts (wL_V mw_6_94 mw_6_91 mw_6_92 mw_6_93 mw_1_13) rfl rfl rfl (by decide +kernel) ⟨Nat.le_of_ble_eq_true rfl, Nat.le_of_ble_eq_true rfl⟩) ⟨sz_c, va_recv hKm hPm (ci := 12) (q0 := 0) rfl (gM_0 cs adm mum), sz_m hKm hz⟩ rfl rfl hl.1 rfl (lv_room (Nat.le_of_ble_eq_true rfl)) dL_law_765 ⟨Nat.le_of_ble_eq_true rfl, Nat.le_of_ble_eq_true rfl⟩) hS (fun q _ h => hFm q h) hFm (fun r2 xi2 t H2 locs ht hvm hw2 hB hz1 hk1 hS => ?_)
  obtain ⟨hfe2, okm, hw2, hkp2⟩ := hw2
  have hPm : va_P (dC, dI) vwCl (wR 21 adm (EM cs adm) xi2) H2 := by rw [← ht]; exact hB
  have hPx := kp_rest (pm_D List.perm_append_comm hD) hPx hk1
  have hD : va_D (fun q : Nat => s.heap.size ≤ q) ((wR 157 adx (EX cs adx) xi1) ++ (wR 21 adm (EM cs adm) xi2)) := wR_DD _ _ hD
  refine lv_pop hx hb dL_law_768 rfl ?_
  refine lv_goto (tgt := 1641) hx hb dL_law_769 (by decide) ?_
  exact KE xi1 xi2 _ _ _ ⟨okx, okm, ⟨simT_keep (by decide) (by decide) hkp1 hkp2 hsim.1, core_keep okm0 (by decide) (by decide) hkp1 hkp2 hsim.2.1, mon_le (mon_keep (by decide) hkp2 hsim.2.2) (by omega)⟩, hPx, hPm, hD, hS, hl⟩
set_option maxHeartbeats 4000000 in
set_option maxRecDepth 100000 in
theorem le_16 {p : Program} {e : Env} {s : State} {m : MethodId} {below : List Frame} {meth : Method} {c : Code} (l : Launch) {b L : Nat} {xs : Nat → Int32} {dC : Nat → ClassId} {dI : Nat → Nat → Nat} {cs : Nat → ClassId} {tt : Nat} {adx adm : Nat → Nat} {i : Int32} {cc : Int} (F1 : lw_F p s m meth c b L xs dC dI cs tt) {mux mum : Nat → Nat → Int32} {H : Heap} {locs : List Loc} {ls : Array Slot} (J0 : lw_J s b dC dI cs adx adm i cc mux mum H locs ls) (hL : L ≤ 384) (hcc : 1000 ≤ cc ∧ cc ≤ 900000) (hi : 0 ≤ i.toInt ∧ i.toInt + 6 ≤ L) (KE : ∀ (mux mum : Nat → Nat → Int32) (H : Heap) (locs : List Loc) (ls : Array Slot), lw_J s b dC dI cs adx adm i (cc + 1000) mux mum H locs ls → W p l e room_1 s m #[Value.ref b] below meth c H locs 178 3099 (lw_Z below #[Value.ref b] s) (F0 m 1641 ls [])) : W p l e room_1 s m #[Value.ref b] below meth c H locs 178 3099 (lw_Z below #[Value.ref b] s) (F0 m 772 ls []) := by
  have F2 := F1
  have J1 := J0
  obtain ⟨C0, hKx, hKm, hz, hks⟩ := F1
  obtain ⟨hx, hb, hr, hml, hown0, hts0, hX, hbl, hlocks, hgv⟩ := C0
  obtain ⟨okx, okm, hsim, hPx, hPm, hD, hS, hl⟩ := J0
  have okx0 := okx
  have okm0 := okm
  have hown : s.vm.findClass RL = some m.cls := hown0
  have hts := hts0
  have hbA : ¬ (fun q : Nat => s.heap.size ≤ q) b := Nat.not_le.mpr hbl
  have hA : ∀ q : Nat, s.heap.size ≤ q → (fun q : Nat => s.heap.size ≤ q) q := fun _ h => h
  refine lv_aload_n hx hb dL_law_772 rfl (lv_at hl 2 rfl) ?_
  refine lv_aload_n hx hb dL_law_773 rfl (lv_at hl 3 rfl) ?_
  refine lv_iload_n hx hb dL_law_774 rfl (lv_at hl 0 rfl) ?_
  refine lv_iconst (v := 1) hx hb dL_law_775 (by decide) ?_
  refine lv_iadd hx hb dL_law_776 ?_
  refine lv_topi (fun t1 et1 => ?_)
  have at1 : t1.toInt = i.toInt + 1 := by rw [et1]; exact tI_add rfl (rfl : (1 : Int32).toInt = _) (by show _ ≤ i.toInt + (1 : Int); omega) (by show i.toInt + (1 : Int) < _; omega)
  refine va_sld hx hb hX hbl hbA hS (show vp_in t1 L from vi_of (by omega) (by omega)) dL_law_777 ?_
  refine lv_topi (fun a1 ea1 => ?_)
  refine lv_aload_n hx hb dL_law_778 rfl (lv_at hl 3 rfl) ?_
  refine lv_iload_n hx hb dL_law_779 rfl (lv_at hl 0 rfl) ?_
  refine lv_iconst (v := 2) hx hb dL_law_780 (by decide) ?_
  refine lv_iadd hx hb dL_law_781 ?_
  refine lv_topi (fun t2 et2 => ?_)
  have at2 : t2.toInt = i.toInt + 2 := by rw [et2]; exact tI_add rfl (rfl : (2 : Int32).toInt = _) (by show _ ≤ i.toInt + (2 : Int); omega) (by show i.toInt + (2 : Int) < _; omega)
  refine va_sld hx hb hX hbl hbA hS (show vp_in t2 L from vi_of (by omega) (by omega)) dL_law_782 ?_
  refine lv_topi (fun a2 ea2 => ?_)
  refine lv_aload_n hx hb dL_law_783 rfl (lv_at hl 3 rfl) ?_
  refine lv_iload_n hx hb dL_law_784 rfl (lv_at hl 0 rfl) ?_
  refine lv_iconst (v := 3) hx hb dL_law_785 (by decide) ?_
  refine lv_iadd hx hb dL_law_786 ?_
  refine lv_topi (fun t3 et3 => ?_)
  have at3 : t3.toInt = i.toInt + 3 := by rw [et3]; exact tI_add rfl (rfl : (3 : Int32).toInt = _) (by show _ ≤ i.toInt + (3 : Int); omega) (by show i.toInt + (3 : Int) < _; omega)
  refine va_sld hx hb hX hbl hbA hS (show vp_in t3 L from vi_of (by omega) (by omega)) dL_law_787 ?_
  refine lv_topi (fun a3 ea3 => ?_)
  refine lv_aload_n hx hb dL_law_788 rfl (lv_at hl 3 rfl) ?_
  refine lv_iload_n hx hb dL_law_789 rfl (lv_at hl 0 rfl) ?_
  refine lv_iconst (v := 4) hx hb dL_law_790 (by decide) ?_
  refine lv_iadd hx hb dL_law_791 ?_
  refine lv_topi (fun t4 et4 => ?_)
  have at4 : t4.toInt = i.toInt + 4 := by rw [et4]; exact tI_add rfl (rfl : (4 : Int32).toInt = _) (by show _ ≤ i.toInt + (4 : Int); omega) (by show i.toInt + (4 : Int) < _; omega)
  refine va_sld hx hb hX hbl hbA hS (show vp_in t4 L from vi_of (by omega) (by omega)) dL_law_792 ?_
  refine lv_topi (fun a4 ea4 => ?_)
  have hDx := dl_left hD
  have hDm := dl_right hD
  have hFx := fr_all hDx hS hA
  refine va_calli (va_runV (As := [.int a1, .int a2, .int a3, .int a4]) (rest := []) ⟨hx, hb, hml, hown, hts⟩ (qx_send l dC dI cs adx mux okx H hPx (hDx.weaken (fun _ _ _ _ => trivial)) a1 a2 a3 a4) (cwV 4 hts (wL_V mw_3_141 mw_3_138 mw_3_139 mw_3_140 mw_1_1) rfl rfl rfl (by decide +kernel) ⟨Nat.le_of_ble_eq_true rfl, Nat.le_of_ble_eq_true rfl⟩) ⟨sz_c, va_recv hKx hPx (ci := 11) (q0 := 0) rfl (gX_0 cs adx mux), sz_m hKx hz⟩ rfl rfl hl.1 rfl (lv_room (Nat.le_of_ble_eq_true rfl)) dL_law_793 ⟨Nat.le_of_ble_eq_true rfl, Nat.le_of_ble_eq_true rfl⟩) hS (fun q _ h => hFx q h) hFx (fun r1 xi1 t H1 locs ht hvm hw1 hB hz1 hk1 hS => ?_)
  obtain ⟨hfe1, okx, hw1, hkp1⟩ := hw1
  have hPx : va_P (dC, dI) vwCl (wR 157 adx (EX cs adx) xi1) H1 := by rw [← ht]; exact hB
  have hPm := kp_rest hD hPm hk1
  have hD : va_D (fun q : Nat => s.heap.size ≤ q) ((wR 157 adx (EX cs adx) xi1) ++ (wR 21 adm (EM cs adm) mum)) := wR_DD _ _ hD
  refine lv_pop hx hb dL_law_796 rfl ?_
  refine lv_aload_n hx hb dL_law_797 rfl (lv_at hl 1 rfl) ?_
  refine lv_aload_n hx hb dL_law_798 rfl (lv_at hl 3 rfl) ?_
  refine lv_iload_n hx hb dL_law_799 rfl (lv_at hl 0 rfl) ?_
  refine lv_iconst (v := 1) hx hb dL_law_800 (by decide) ?_
  refine lv_iadd hx hb dL_law_801 ?_
  refine lq_i t1 et1.symm ?_
  refine va_sld hx hb hX hbl hbA hS (show vp_in t1 L from vi_of (by omega) (by omega)) dL_law_802 ?_
  refine lq_i a1 ea1.symm ?_
  refine lv_aload_n hx hb dL_law_803 rfl (lv_at hl 3 rfl) ?_
  refine lv_iload_n hx hb dL_law_804 rfl (lv_at hl 0 rfl) ?_
  refine lv_iconst (v := 2) hx hb dL_law_805 (by decide) ?_
  refine lv_iadd hx hb dL_law_806 ?_
  refine lq_i t2 et2.symm ?_
  refine va_sld hx hb hX hbl hbA hS (show vp_in t2 L from vi_of (by omega) (by omega)) dL_law_807 ?_
  refine lq_i a2 ea2.symm ?_
  refine lv_aload_n hx hb dL_law_808 rfl (lv_at hl 3 rfl) ?_
  refine lv_iload_n hx hb dL_law_809 rfl (lv_at hl 0 rfl) ?_
  refine lv_iconst (v := 3) hx hb dL_law_810 (by decide) ?_
  refine lv_iadd hx hb dL_law_811 ?_
  refine lq_i t3 et3.symm ?_
  refine va_sld hx hb hX hbl hbA hS (show vp_in t3 L from vi_of (by omega) (by omega)) dL_law_812 ?_
  refine lq_i a3 ea3.symm ?_
  refine lv_aload_n hx hb dL_law_813 rfl (lv_at hl 3 rfl) ?_
  refine lv_iload_n hx hb dL_law_814 rfl (lv_at hl 0 rfl) ?_
  refine lv_iconst (v := 4) hx hb dL_law_815 (by decide) ?_
  refine lv_iadd hx hb dL_law_816 ?_
  refine lq_i t4 et4.symm ?_
  refine va_sld hx hb hX hbl hbA hS (show vp_in t4 L from vi_of (by omega) (by omega)) dL_law_817 ?_
  refine lq_i a4 ea4.symm ?_
  have hDx := dl_left hD
  have hDm := dl_right hD
  have hFm := fr_all hDm hS hA
  refine va_calli (va_runV (As := [.int a1, .int a2, .int a3, .int a4]) (rest := []) ⟨hx, hb, hml, hown, hts⟩ (qm_send l dC dI cs adm mum okm H1 hPm (hDm.weaken (fun _ _ _ _ => trivial)) a1 a2 a3 a4) (cwV 4 hts (wL_V mw_6_98 mw_6_95 mw_6_96 mw_6_97 mw_1_13) rfl rfl rfl (by decide +kernel) ⟨Nat.le_of_ble_eq_true rfl, Nat.le_of_ble_eq_true rfl⟩) ⟨sz_c, va_recv hKm hPm (ci := 12) (q0 := 0) rfl (gM_0 cs adm mum), sz_m hKm hz⟩ rfl rfl hl.1 rfl (lv_room (Nat.le_of_ble_eq_true rfl)) dL_law_818 ⟨Nat.le_of_ble_eq_true rfl, Nat.le_of_ble_eq_true rfl⟩) hS (fun q _ h => hFm q h) hFm (fun r2 xi2 t H2 locs ht hvm hw2 hB hz1 hk1 hS => ?_)
  obtain ⟨hfe2, okm, hw2, hkp2⟩ := hw2
  have hPm : va_P (dC, dI) vwCl (wR 21 adm (EM cs adm) xi2) H2 := by rw [← ht]; exact hB
  have hPx := kp_rest (pm_D List.perm_append_comm hD) hPx hk1
  have hD : va_D (fun q : Nat => s.heap.size ≤ q) ((wR 157 adx (EX cs adx) xi1) ++ (wR 21 adm (EM cs adm) xi2)) := wR_DD _ _ hD
  refine lv_pop hx hb dL_law_821 rfl ?_
  refine lv_goto (tgt := 1641) hx hb dL_law_822 (by decide) ?_
  exact KE xi1 xi2 _ _ _ ⟨okx, okm, ⟨simT_keep (by decide) (by decide) hkp1 hkp2 hsim.1, (send_rel okm0 hsim.2.1 hfe1 hfe2).2, mon_le (send_mon okm0 (Int.le_trans (by decide) hcc.1) hsim.2.1.2.2.2.1 hsim.2.2 hfe2) (by omega)⟩, hPx, hPm, hD, hS, hl⟩
set_option maxHeartbeats 4000000 in
set_option maxRecDepth 100000 in
theorem le_17 {p : Program} {e : Env} {s : State} {m : MethodId} {below : List Frame} {meth : Method} {c : Code} (l : Launch) {b L : Nat} {xs : Nat → Int32} {dC : Nat → ClassId} {dI : Nat → Nat → Nat} {cs : Nat → ClassId} {tt : Nat} {adx adm : Nat → Nat} {i : Int32} {cc : Int} (F1 : lw_F p s m meth c b L xs dC dI cs tt) {mux mum : Nat → Nat → Int32} {H : Heap} {locs : List Loc} {ls : Array Slot} (J0 : lw_J s b dC dI cs adx adm i cc mux mum H locs ls) (hL : L ≤ 384) (hcc : 1000 ≤ cc ∧ cc ≤ 900000) (hi : 0 ≤ i.toInt ∧ i.toInt + 6 ≤ L) (KE : ∀ (mux mum : Nat → Nat → Int32) (H : Heap) (locs : List Loc) (ls : Array Slot), lw_J s b dC dI cs adx adm i (cc + 1000) mux mum H locs ls → W p l e room_1 s m #[Value.ref b] below meth c H locs 178 3099 (lw_Z below #[Value.ref b] s) (F0 m 1641 ls [])) : W p l e room_1 s m #[Value.ref b] below meth c H locs 178 3099 (lw_Z below #[Value.ref b] s) (F0 m 825 ls []) := by
  have F2 := F1
  have J1 := J0
  obtain ⟨C0, hKx, hKm, hz, hks⟩ := F1
  obtain ⟨hx, hb, hr, hml, hown0, hts0, hX, hbl, hlocks, hgv⟩ := C0
  obtain ⟨okx, okm, hsim, hPx, hPm, hD, hS, hl⟩ := J0
  have okx0 := okx
  have okm0 := okm
  have hown : s.vm.findClass RL = some m.cls := hown0
  have hts := hts0
  have hbA : ¬ (fun q : Nat => s.heap.size ≤ q) b := Nat.not_le.mpr hbl
  have hA : ∀ q : Nat, s.heap.size ≤ q → (fun q : Nat => s.heap.size ≤ q) q := fun _ h => h
  refine lv_aload_n hx hb dL_law_825 rfl (lv_at hl 2 rfl) ?_
  refine lv_aload_n hx hb dL_law_826 rfl (lv_at hl 3 rfl) ?_
  refine lv_iload_n hx hb dL_law_827 rfl (lv_at hl 0 rfl) ?_
  refine lv_iconst (v := 1) hx hb dL_law_828 (by decide) ?_
  refine lv_iadd hx hb dL_law_829 ?_
  refine lv_topi (fun t1 et1 => ?_)
  have at1 : t1.toInt = i.toInt + 1 := by rw [et1]; exact tI_add rfl (rfl : (1 : Int32).toInt = _) (by show _ ≤ i.toInt + (1 : Int); omega) (by show i.toInt + (1 : Int) < _; omega)
  refine va_sld hx hb hX hbl hbA hS (show vp_in t1 L from vi_of (by omega) (by omega)) dL_law_830 ?_
  refine lv_topi (fun a1 ea1 => ?_)
  refine lv_aload_n hx hb dL_law_831 rfl (lv_at hl 3 rfl) ?_
  refine lv_iload_n hx hb dL_law_832 rfl (lv_at hl 0 rfl) ?_
  refine lv_iconst (v := 2) hx hb dL_law_833 (by decide) ?_
  refine lv_iadd hx hb dL_law_834 ?_
  refine lv_topi (fun t2 et2 => ?_)
  have at2 : t2.toInt = i.toInt + 2 := by rw [et2]; exact tI_add rfl (rfl : (2 : Int32).toInt = _) (by show _ ≤ i.toInt + (2 : Int); omega) (by show i.toInt + (2 : Int) < _; omega)
  refine va_sld hx hb hX hbl hbA hS (show vp_in t2 L from vi_of (by omega) (by omega)) dL_law_835 ?_
  refine lv_topi (fun a2 ea2 => ?_)
  have hDx := dl_left hD
  have hDm := dl_right hD
  have hFx := fr_all hDx hS hA
  refine va_calli (va_runV (As := [.int a1, .int a2]) (rest := []) ⟨hx, hb, hml, hown, hts⟩ (qx_sell l dC dI cs adx mux okx H hPx (hDx.weaken (fun _ _ _ _ => trivial)) a1 a2) (cwV 2 hts (wL_V mw_3_153 mw_3_150 mw_3_151 mw_3_152 mw_1_1) rfl rfl rfl (by decide +kernel) ⟨Nat.le_of_ble_eq_true rfl, Nat.le_of_ble_eq_true rfl⟩) ⟨sz_c, va_recv hKx hPx (ci := 11) (q0 := 0) rfl (gX_0 cs adx mux), sz_m hKx hz⟩ rfl rfl hl.1 rfl (lv_room (Nat.le_of_ble_eq_true rfl)) dL_law_836 ⟨Nat.le_of_ble_eq_true rfl, Nat.le_of_ble_eq_true rfl⟩) hS (fun q _ h => hFx q h) hFx (fun r1 xi1 t H1 locs ht hvm hw1 hB hz1 hk1 hS => ?_)
  obtain ⟨hfe1, okx, hw1, hkp1⟩ := hw1
  have hPx : va_P (dC, dI) vwCl (wR 157 adx (EX cs adx) xi1) H1 := by rw [← ht]; exact hB
  have hPm := kp_rest hD hPm hk1
  have hD : va_D (fun q : Nat => s.heap.size ≤ q) ((wR 157 adx (EX cs adx) xi1) ++ (wR 21 adm (EM cs adm) mum)) := wR_DD _ _ hD
  refine lv_pop hx hb dL_law_839 rfl ?_
  refine lv_aload_n hx hb dL_law_840 rfl (lv_at hl 1 rfl) ?_
  refine lv_aload_n hx hb dL_law_841 rfl (lv_at hl 3 rfl) ?_
  refine lv_iload_n hx hb dL_law_842 rfl (lv_at hl 0 rfl) ?_
  refine lv_iconst (v := 1) hx hb dL_law_843 (by decide) ?_
  refine lv_iadd hx hb dL_law_844 ?_
  refine lq_i t1 et1.symm ?_
  refine va_sld hx hb hX hbl hbA hS (show vp_in t1 L from vi_of (by omega) (by omega)) dL_law_845 ?_
  refine lq_i a1 ea1.symm ?_
  refine lv_aload_n hx hb dL_law_846 rfl (lv_at hl 3 rfl) ?_
  refine lv_iload_n hx hb dL_law_847 rfl (lv_at hl 0 rfl) ?_
  refine lv_iconst (v := 2) hx hb dL_law_848 (by decide) ?_
  refine lv_iadd hx hb dL_law_849 ?_
  refine lq_i t2 et2.symm ?_
  refine va_sld hx hb hX hbl hbA hS (show vp_in t2 L from vi_of (by omega) (by omega)) dL_law_850 ?_
  refine lq_i a2 ea2.symm ?_
  have hDx := dl_left hD
  have hDm := dl_right hD
  have hFm := fr_all hDm hS hA
  refine va_calli (va_runV (As := [.int a1, .int a2]) (rest := []) ⟨hx, hb, hml, hown, hts⟩ (qm_sell l dC dI cs adm mum okm H1 hPm (hDm.weaken (fun _ _ _ _ => trivial)) a1 a2) (cwV 2 hts (wL_V mw_6_110 mw_6_107 mw_6_108 mw_6_109 mw_1_13) rfl rfl rfl (by decide +kernel) ⟨Nat.le_of_ble_eq_true rfl, Nat.le_of_ble_eq_true rfl⟩) ⟨sz_c, va_recv hKm hPm (ci := 12) (q0 := 0) rfl (gM_0 cs adm mum), sz_m hKm hz⟩ rfl rfl hl.1 rfl (lv_room (Nat.le_of_ble_eq_true rfl)) dL_law_851 ⟨Nat.le_of_ble_eq_true rfl, Nat.le_of_ble_eq_true rfl⟩) hS (fun q _ h => hFm q h) hFm (fun r2 xi2 t H2 locs ht hvm hw2 hB hz1 hk1 hS => ?_)
  obtain ⟨hfe2, okm, hw2, hkp2⟩ := hw2
  have hPm : va_P (dC, dI) vwCl (wR 21 adm (EM cs adm) xi2) H2 := by rw [← ht]; exact hB
  have hPx := kp_rest (pm_D List.perm_append_comm hD) hPx hk1
  have hD : va_D (fun q : Nat => s.heap.size ≤ q) ((wR 157 adx (EX cs adx) xi1) ++ (wR 21 adm (EM cs adm) xi2)) := wR_DD _ _ hD
  refine lv_pop hx hb dL_law_854 rfl ?_
  refine lv_goto (tgt := 1641) hx hb dL_law_855 (by decide) ?_
  exact KE xi1 xi2 _ _ _ ⟨okx, okm, ⟨simT_keep (by decide) (by decide) hkp1 hkp2 hsim.1, (sell_rel okm0 hsim.2.1 hfe1 hfe2).2, mon_le (sell_mon ⟨Int.le_trans (by decide) hcc.1, Int.le_trans hcc.2 (by decide)⟩ okm0 hsim.2.1 hsim.2.2 hfe2) (by omega)⟩, hPx, hPm, hD, hS, hl⟩
set_option maxHeartbeats 4000000 in
set_option maxRecDepth 100000 in
theorem le_18 {p : Program} {e : Env} {s : State} {m : MethodId} {below : List Frame} {meth : Method} {c : Code} (l : Launch) {b L : Nat} {xs : Nat → Int32} {dC : Nat → ClassId} {dI : Nat → Nat → Nat} {cs : Nat → ClassId} {tt : Nat} {adx adm : Nat → Nat} {i : Int32} {cc : Int} (F1 : lw_F p s m meth c b L xs dC dI cs tt) {mux mum : Nat → Nat → Int32} {H : Heap} {locs : List Loc} {ls : Array Slot} (J0 : lw_J s b dC dI cs adx adm i cc mux mum H locs ls) (hL : L ≤ 384) (hcc : 1000 ≤ cc ∧ cc ≤ 900000) (hi : 0 ≤ i.toInt ∧ i.toInt + 6 ≤ L) (KE : ∀ (mux mum : Nat → Nat → Int32) (H : Heap) (locs : List Loc) (ls : Array Slot), lw_J s b dC dI cs adx adm i (cc + 1000) mux mum H locs ls → W p l e room_1 s m #[Value.ref b] below meth c H locs 178 3099 (lw_Z below #[Value.ref b] s) (F0 m 1641 ls [])) : W p l e room_1 s m #[Value.ref b] below meth c H locs 178 3099 (lw_Z below #[Value.ref b] s) (F0 m 858 ls []) := by
  have F2 := F1
  have J1 := J0
  obtain ⟨C0, hKx, hKm, hz, hks⟩ := F1
  obtain ⟨hx, hb, hr, hml, hown0, hts0, hX, hbl, hlocks, hgv⟩ := C0
  obtain ⟨okx, okm, hsim, hPx, hPm, hD, hS, hl⟩ := J0
  have okx0 := okx
  have okm0 := okm
  have hown : s.vm.findClass RL = some m.cls := hown0
  have hts := hts0
  have hbA : ¬ (fun q : Nat => s.heap.size ≤ q) b := Nat.not_le.mpr hbl
  have hA : ∀ q : Nat, s.heap.size ≤ q → (fun q : Nat => s.heap.size ≤ q) q := fun _ h => h
  refine lv_aload_n hx hb dL_law_858 rfl (lv_at hl 2 rfl) ?_
  refine lv_aload_n hx hb dL_law_859 rfl (lv_at hl 3 rfl) ?_
  refine lv_iload_n hx hb dL_law_860 rfl (lv_at hl 0 rfl) ?_
  refine lv_iconst (v := 1) hx hb dL_law_861 (by decide) ?_
  refine lv_iadd hx hb dL_law_862 ?_
  refine lv_topi (fun t1 et1 => ?_)
  have at1 : t1.toInt = i.toInt + 1 := by rw [et1]; exact tI_add rfl (rfl : (1 : Int32).toInt = _) (by show _ ≤ i.toInt + (1 : Int); omega) (by show i.toInt + (1 : Int) < _; omega)
  refine va_sld hx hb hX hbl hbA hS (show vp_in t1 L from vi_of (by omega) (by omega)) dL_law_863 ?_
  refine lv_topi (fun a1 ea1 => ?_)
  have hDx := dl_left hD
  have hDm := dl_right hD
  have hFx := fr_all hDx hS hA
  refine va_calli (va_runV (As := [.int a1]) (rest := []) ⟨hx, hb, hml, hown, hts⟩ (qx_days l dC dI cs adx mux okx H hPx (hDx.weaken (fun _ _ _ _ => trivial)) a1) (cwV 1 hts (wL_V mw_3_188 mw_3_185 mw_3_186 mw_3_187 mw_1_1) rfl rfl rfl (by decide +kernel) ⟨Nat.le_of_ble_eq_true rfl, Nat.le_of_ble_eq_true rfl⟩) ⟨sz_c, va_recv hKx hPx (ci := 11) (q0 := 0) rfl (gX_0 cs adx mux), sz_m hKx hz⟩ rfl rfl hl.1 rfl (lv_room (Nat.le_of_ble_eq_true rfl)) dL_law_864 ⟨Nat.le_of_ble_eq_true rfl, Nat.le_of_ble_eq_true rfl⟩) hS (fun q _ h => hFx q h) hFx (fun r1 xi1 t H1 locs ht hvm hw1 hB hz1 hk1 hS => ?_)
  obtain ⟨hfe1, okx, hw1, hkp1⟩ := hw1
  have hPx : va_P (dC, dI) vwCl (wR 157 adx (EX cs adx) xi1) H1 := by rw [← ht]; exact hB
  have hPm := kp_rest hD hPm hk1
  have hD : va_D (fun q : Nat => s.heap.size ≤ q) ((wR 157 adx (EX cs adx) xi1) ++ (wR 21 adm (EM cs adm) mum)) := wR_DD _ _ hD
  refine lv_pop hx hb dL_law_867 rfl ?_
  refine lv_aload_n hx hb dL_law_868 rfl (lv_at hl 1 rfl) ?_
  refine lv_aload_n hx hb dL_law_869 rfl (lv_at hl 3 rfl) ?_
  refine lv_iload_n hx hb dL_law_870 rfl (lv_at hl 0 rfl) ?_
  refine lv_iconst (v := 1) hx hb dL_law_871 (by decide) ?_
  refine lv_iadd hx hb dL_law_872 ?_
  refine lq_i t1 et1.symm ?_
  refine va_sld hx hb hX hbl hbA hS (show vp_in t1 L from vi_of (by omega) (by omega)) dL_law_873 ?_
  refine lq_i a1 ea1.symm ?_
  have hDx := dl_left hD
  have hDm := dl_right hD
  have hFm := fr_all hDm hS hA
  refine va_calli (va_runV (As := [.int a1]) (rest := []) ⟨hx, hb, hml, hown, hts⟩ (qm_days l dC dI cs adm mum okm H1 hPm (hDm.weaken (fun _ _ _ _ => trivial)) a1) (cwV 1 hts (wL_V mw_6_134 mw_6_131 mw_6_132 mw_6_133 mw_1_13) rfl rfl rfl (by decide +kernel) ⟨Nat.le_of_ble_eq_true rfl, Nat.le_of_ble_eq_true rfl⟩) ⟨sz_c, va_recv hKm hPm (ci := 12) (q0 := 0) rfl (gM_0 cs adm mum), sz_m hKm hz⟩ rfl rfl hl.1 rfl (lv_room (Nat.le_of_ble_eq_true rfl)) dL_law_874 ⟨Nat.le_of_ble_eq_true rfl, Nat.le_of_ble_eq_true rfl⟩) hS (fun q _ h => hFm q h) hFm (fun r2 xi2 t H2 locs ht hvm hw2 hB hz1 hk1 hS => ?_)
  obtain ⟨hfe2, okm, hw2, hkp2⟩ := hw2
  have hPm : va_P (dC, dI) vwCl (wR 21 adm (EM cs adm) xi2) H2 := by rw [← ht]; exact hB
  have hPx := kp_rest (pm_D List.perm_append_comm hD) hPx hk1
  have hD : va_D (fun q : Nat => s.heap.size ≤ q) ((wR 157 adx (EX cs adx) xi1) ++ (wR 21 adm (EM cs adm) xi2)) := wR_DD _ _ hD
  refine lv_pop hx hb dL_law_877 rfl ?_
  refine lv_goto (tgt := 1641) hx hb dL_law_878 (by decide) ?_
  exact KE xi1 xi2 _ _ _ ⟨okx, okm, ⟨simT_keep (by decide) (by decide) hkp1 hkp2 hsim.1, (days_rel okm0 hsim.2.1 hfe1 hfe2).2, mon_le (mon_keep (by decide) hkp2 hsim.2.2) (by omega)⟩, hPx, hPm, hD, hS, hl⟩
set_option maxHeartbeats 4000000 in
set_option maxRecDepth 100000 in
theorem le_19 {p : Program} {e : Env} {s : State} {m : MethodId} {below : List Frame} {meth : Method} {c : Code} (l : Launch) {b L : Nat} {xs : Nat → Int32} {dC : Nat → ClassId} {dI : Nat → Nat → Nat} {cs : Nat → ClassId} {tt : Nat} {adx adm : Nat → Nat} {i : Int32} {cc : Int} (F1 : lw_F p s m meth c b L xs dC dI cs tt) {mux mum : Nat → Nat → Int32} {H : Heap} {locs : List Loc} {ls : Array Slot} (J0 : lw_J s b dC dI cs adx adm i cc mux mum H locs ls) (hL : L ≤ 384) (hcc : 1000 ≤ cc ∧ cc ≤ 900000) (hi : 0 ≤ i.toInt ∧ i.toInt + 6 ≤ L) (KE : ∀ (mux mum : Nat → Nat → Int32) (H : Heap) (locs : List Loc) (ls : Array Slot), lw_J s b dC dI cs adx adm i (cc + 1000) mux mum H locs ls → W p l e room_1 s m #[Value.ref b] below meth c H locs 178 3099 (lw_Z below #[Value.ref b] s) (F0 m 1641 ls [])) : W p l e room_1 s m #[Value.ref b] below meth c H locs 178 3099 (lw_Z below #[Value.ref b] s) (F0 m 881 ls []) := by
  have F2 := F1
  have J1 := J0
  obtain ⟨C0, hKx, hKm, hz, hks⟩ := F1
  obtain ⟨hx, hb, hr, hml, hown0, hts0, hX, hbl, hlocks, hgv⟩ := C0
  obtain ⟨okx, okm, hsim, hPx, hPm, hD, hS, hl⟩ := J0
  have okx0 := okx
  have okm0 := okm
  have hown : s.vm.findClass RL = some m.cls := hown0
  have hts := hts0
  have hbA : ¬ (fun q : Nat => s.heap.size ≤ q) b := Nat.not_le.mpr hbl
  have hA : ∀ q : Nat, s.heap.size ≤ q → (fun q : Nat => s.heap.size ≤ q) q := fun _ h => h
  refine lv_aload_n hx hb dL_law_881 rfl (lv_at hl 2 rfl) ?_
  refine lv_aload_n hx hb dL_law_882 rfl (lv_at hl 3 rfl) ?_
  refine lv_iload_n hx hb dL_law_883 rfl (lv_at hl 0 rfl) ?_
  refine lv_iconst (v := 1) hx hb dL_law_884 (by decide) ?_
  refine lv_iadd hx hb dL_law_885 ?_
  refine lv_topi (fun t1 et1 => ?_)
  have at1 : t1.toInt = i.toInt + 1 := by rw [et1]; exact tI_add rfl (rfl : (1 : Int32).toInt = _) (by show _ ≤ i.toInt + (1 : Int); omega) (by show i.toInt + (1 : Int) < _; omega)
  refine va_sld hx hb hX hbl hbA hS (show vp_in t1 L from vi_of (by omega) (by omega)) dL_law_886 ?_
  refine lv_topi (fun a1 ea1 => ?_)
  have hDx := dl_left hD
  have hDm := dl_right hD
  have hFx := fr_all hDx hS hA
  refine va_calli (va_runV (As := [.int a1]) (rest := []) ⟨hx, hb, hml, hown, hts⟩ (qx_where l dC dI cs adx mux okx H hPx (hDx.weaken (fun _ _ _ _ => trivial)) a1) (cwV 1 hts (wL_V mw_3_192 mw_3_189 mw_3_190 mw_3_191 mw_1_1) rfl rfl rfl (by decide +kernel) ⟨Nat.le_of_ble_eq_true rfl, Nat.le_of_ble_eq_true rfl⟩) ⟨sz_c, va_recv hKx hPx (ci := 11) (q0 := 0) rfl (gX_0 cs adx mux), sz_m hKx hz⟩ rfl rfl hl.1 rfl (lv_room (Nat.le_of_ble_eq_true rfl)) dL_law_887 ⟨Nat.le_of_ble_eq_true rfl, Nat.le_of_ble_eq_true rfl⟩) hS (fun q _ h => hFx q h) hFx (fun r1 xi1 t H1 locs ht hvm hw1 hB hz1 hk1 hS => ?_)
  obtain ⟨hfe1, okx, hw1, hkp1⟩ := hw1
  have hPx : va_P (dC, dI) vwCl (wR 157 adx (EX cs adx) xi1) H1 := by rw [← ht]; exact hB
  have hPm := kp_rest hD hPm hk1
  have hD : va_D (fun q : Nat => s.heap.size ≤ q) ((wR 157 adx (EX cs adx) xi1) ++ (wR 21 adm (EM cs adm) mum)) := wR_DD _ _ hD
  refine lv_pop hx hb dL_law_890 rfl ?_
  refine lv_aload_n hx hb dL_law_891 rfl (lv_at hl 1 rfl) ?_
  refine lv_aload_n hx hb dL_law_892 rfl (lv_at hl 3 rfl) ?_
  refine lv_iload_n hx hb dL_law_893 rfl (lv_at hl 0 rfl) ?_
  refine lv_iconst (v := 1) hx hb dL_law_894 (by decide) ?_
  refine lv_iadd hx hb dL_law_895 ?_
  refine lq_i t1 et1.symm ?_
  refine va_sld hx hb hX hbl hbA hS (show vp_in t1 L from vi_of (by omega) (by omega)) dL_law_896 ?_
  refine lq_i a1 ea1.symm ?_
  have hDx := dl_left hD
  have hDm := dl_right hD
  have hFm := fr_all hDm hS hA
  refine va_calli (va_runV (As := [.int a1]) (rest := []) ⟨hx, hb, hml, hown, hts⟩ (qm_where l dC dI cs adm mum okm H1 hPm (hDm.weaken (fun _ _ _ _ => trivial)) a1) (cwV 1 hts (wL_V mw_6_138 mw_6_135 mw_6_136 mw_6_137 mw_1_13) rfl rfl rfl (by decide +kernel) ⟨Nat.le_of_ble_eq_true rfl, Nat.le_of_ble_eq_true rfl⟩) ⟨sz_c, va_recv hKm hPm (ci := 12) (q0 := 0) rfl (gM_0 cs adm mum), sz_m hKm hz⟩ rfl rfl hl.1 rfl (lv_room (Nat.le_of_ble_eq_true rfl)) dL_law_897 ⟨Nat.le_of_ble_eq_true rfl, Nat.le_of_ble_eq_true rfl⟩) hS (fun q _ h => hFm q h) hFm (fun r2 xi2 t H2 locs ht hvm hw2 hB hz1 hk1 hS => ?_)
  obtain ⟨hfe2, okm, hw2, hkp2⟩ := hw2
  have hPm : va_P (dC, dI) vwCl (wR 21 adm (EM cs adm) xi2) H2 := by rw [← ht]; exact hB
  have hPx := kp_rest (pm_D List.perm_append_comm hD) hPx hk1
  have hD : va_D (fun q : Nat => s.heap.size ≤ q) ((wR 157 adx (EX cs adx) xi1) ++ (wR 21 adm (EM cs adm) xi2)) := wR_DD _ _ hD
  refine lv_pop hx hb dL_law_900 rfl ?_
  refine lv_goto (tgt := 1641) hx hb dL_law_901 (by decide) ?_
  exact KE xi1 xi2 _ _ _ ⟨okx, okm, ⟨simT_keep (by decide) (by decide) hkp1 hkp2 hsim.1, core_keep okm0 (by decide) (by decide) hkp1 hkp2 hsim.2.1, mon_le (mon_keep (by decide) hkp2 hsim.2.2) (by omega)⟩, hPx, hPm, hD, hS, hl⟩
set_option maxHeartbeats 4000000 in
set_option maxRecDepth 100000 in
theorem le_20 {p : Program} {e : Env} {s : State} {m : MethodId} {below : List Frame} {meth : Method} {c : Code} (l : Launch) {b L : Nat} {xs : Nat → Int32} {dC : Nat → ClassId} {dI : Nat → Nat → Nat} {cs : Nat → ClassId} {tt : Nat} {adx adm : Nat → Nat} {i : Int32} {cc : Int} (F1 : lw_F p s m meth c b L xs dC dI cs tt) {mux mum : Nat → Nat → Int32} {H : Heap} {locs : List Loc} {ls : Array Slot} (J0 : lw_J s b dC dI cs adx adm i cc mux mum H locs ls) (hL : L ≤ 384) (hcc : 1000 ≤ cc ∧ cc ≤ 900000) (hi : 0 ≤ i.toInt ∧ i.toInt + 6 ≤ L) (KE : ∀ (mux mum : Nat → Nat → Int32) (H : Heap) (locs : List Loc) (ls : Array Slot), lw_J s b dC dI cs adx adm i (cc + 1000) mux mum H locs ls → W p l e room_1 s m #[Value.ref b] below meth c H locs 178 3099 (lw_Z below #[Value.ref b] s) (F0 m 1641 ls [])) : W p l e room_1 s m #[Value.ref b] below meth c H locs 178 3099 (lw_Z below #[Value.ref b] s) (F0 m 904 ls []) := by
  have F2 := F1
  have J1 := J0
  obtain ⟨C0, hKx, hKm, hz, hks⟩ := F1
  obtain ⟨hx, hb, hr, hml, hown0, hts0, hX, hbl, hlocks, hgv⟩ := C0
  obtain ⟨okx, okm, hsim, hPx, hPm, hD, hS, hl⟩ := J0
  have okx0 := okx
  have okm0 := okm
  have hown : s.vm.findClass RL = some m.cls := hown0
  have hts := hts0
  have hbA : ¬ (fun q : Nat => s.heap.size ≤ q) b := Nat.not_le.mpr hbl
  have hA : ∀ q : Nat, s.heap.size ≤ q → (fun q : Nat => s.heap.size ≤ q) q := fun _ h => h
  refine lv_aload_n hx hb dL_law_904 rfl (lv_at hl 2 rfl) ?_
  refine lv_aload_n hx hb dL_law_905 rfl (lv_at hl 3 rfl) ?_
  refine lv_iload_n hx hb dL_law_906 rfl (lv_at hl 0 rfl) ?_
  refine lv_iconst (v := 1) hx hb dL_law_907 (by decide) ?_
  refine lv_iadd hx hb dL_law_908 ?_
  refine lv_topi (fun t1 et1 => ?_)
  have at1 : t1.toInt = i.toInt + 1 := by rw [et1]; exact tI_add rfl (rfl : (1 : Int32).toInt = _) (by show _ ≤ i.toInt + (1 : Int); omega) (by show i.toInt + (1 : Int) < _; omega)
  refine va_sld hx hb hX hbl hbA hS (show vp_in t1 L from vi_of (by omega) (by omega)) dL_law_909 ?_
  refine lv_topi (fun a1 ea1 => ?_)
  refine lv_aload_n hx hb dL_law_910 rfl (lv_at hl 3 rfl) ?_
  refine lv_iload_n hx hb dL_law_911 rfl (lv_at hl 0 rfl) ?_
  refine lv_iconst (v := 2) hx hb dL_law_912 (by decide) ?_
  refine lv_iadd hx hb dL_law_913 ?_
  refine lv_topi (fun t2 et2 => ?_)
  have at2 : t2.toInt = i.toInt + 2 := by rw [et2]; exact tI_add rfl (rfl : (2 : Int32).toInt = _) (by show _ ≤ i.toInt + (2 : Int); omega) (by show i.toInt + (2 : Int) < _; omega)
  refine va_sld hx hb hX hbl hbA hS (show vp_in t2 L from vi_of (by omega) (by omega)) dL_law_914 ?_
  refine lv_topi (fun a2 ea2 => ?_)
  have hDx := dl_left hD
  have hDm := dl_right hD
  have hFx := fr_all hDx hS hA
  refine va_calli (va_runV (As := [.int a1, .int a2]) (rest := []) ⟨hx, hb, hml, hown, hts⟩ (qx_letter l dC dI cs adx mux okx H hPx (hDx.weaken (fun _ _ _ _ => trivial)) a1 a2) (cwV 2 hts (wL_V mw_3_196 mw_3_193 mw_3_194 mw_3_195 mw_1_1) rfl rfl rfl (by decide +kernel) ⟨Nat.le_of_ble_eq_true rfl, Nat.le_of_ble_eq_true rfl⟩) ⟨sz_c, va_recv hKx hPx (ci := 11) (q0 := 0) rfl (gX_0 cs adx mux), sz_m hKx hz⟩ rfl rfl hl.1 rfl (lv_room (Nat.le_of_ble_eq_true rfl)) dL_law_915 ⟨Nat.le_of_ble_eq_true rfl, Nat.le_of_ble_eq_true rfl⟩) hS (fun q _ h => hFx q h) hFx (fun r1 xi1 t H1 locs ht hvm hw1 hB hz1 hk1 hS => ?_)
  obtain ⟨hfe1, okx, hw1, hkp1⟩ := hw1
  have hPx : va_P (dC, dI) vwCl (wR 157 adx (EX cs adx) xi1) H1 := by rw [← ht]; exact hB
  have hPm := kp_rest hD hPm hk1
  have hD : va_D (fun q : Nat => s.heap.size ≤ q) ((wR 157 adx (EX cs adx) xi1) ++ (wR 21 adm (EM cs adm) mum)) := wR_DD _ _ hD
  refine lv_pop hx hb dL_law_918 rfl ?_
  refine lv_aload_n hx hb dL_law_919 rfl (lv_at hl 1 rfl) ?_
  refine lv_aload_n hx hb dL_law_920 rfl (lv_at hl 3 rfl) ?_
  refine lv_iload_n hx hb dL_law_921 rfl (lv_at hl 0 rfl) ?_
  refine lv_iconst (v := 1) hx hb dL_law_922 (by decide) ?_
  refine lv_iadd hx hb dL_law_923 ?_
  refine lq_i t1 et1.symm ?_
  refine va_sld hx hb hX hbl hbA hS (show vp_in t1 L from vi_of (by omega) (by omega)) dL_law_924 ?_
  refine lq_i a1 ea1.symm ?_
  refine lv_aload_n hx hb dL_law_925 rfl (lv_at hl 3 rfl) ?_
  refine lv_iload_n hx hb dL_law_926 rfl (lv_at hl 0 rfl) ?_
  refine lv_iconst (v := 2) hx hb dL_law_927 (by decide) ?_
  refine lv_iadd hx hb dL_law_928 ?_
  refine lq_i t2 et2.symm ?_
  refine va_sld hx hb hX hbl hbA hS (show vp_in t2 L from vi_of (by omega) (by omega)) dL_law_929 ?_
  refine lq_i a2 ea2.symm ?_
  have hDx := dl_left hD
  have hDm := dl_right hD
  have hFm := fr_all hDm hS hA
  refine va_calli (va_runV (As := [.int a1, .int a2]) (rest := []) ⟨hx, hb, hml, hown, hts⟩ (qm_letter l dC dI cs adm mum okm H1 hPm (hDm.weaken (fun _ _ _ _ => trivial)) a1 a2) (cwV 2 hts (wL_V mw_6_142 mw_6_139 mw_6_140 mw_6_141 mw_1_13) rfl rfl rfl (by decide +kernel) ⟨Nat.le_of_ble_eq_true rfl, Nat.le_of_ble_eq_true rfl⟩) ⟨sz_c, va_recv hKm hPm (ci := 12) (q0 := 0) rfl (gM_0 cs adm mum), sz_m hKm hz⟩ rfl rfl hl.1 rfl (lv_room (Nat.le_of_ble_eq_true rfl)) dL_law_930 ⟨Nat.le_of_ble_eq_true rfl, Nat.le_of_ble_eq_true rfl⟩) hS (fun q _ h => hFm q h) hFm (fun r2 xi2 t H2 locs ht hvm hw2 hB hz1 hk1 hS => ?_)
  obtain ⟨hfe2, okm, hw2, hkp2⟩ := hw2
  have hPm : va_P (dC, dI) vwCl (wR 21 adm (EM cs adm) xi2) H2 := by rw [← ht]; exact hB
  have hPx := kp_rest (pm_D List.perm_append_comm hD) hPx hk1
  have hD : va_D (fun q : Nat => s.heap.size ≤ q) ((wR 157 adx (EX cs adx) xi1) ++ (wR 21 adm (EM cs adm) xi2)) := wR_DD _ _ hD
  refine lv_pop hx hb dL_law_933 rfl ?_
  refine lv_goto (tgt := 1641) hx hb dL_law_934 (by decide) ?_
  exact KE xi1 xi2 _ _ _ ⟨okx, okm, ⟨simT_keep (by decide) (by decide) hkp1 hkp2 hsim.1, core_keep okm0 (by decide) (by decide) hkp1 hkp2 hsim.2.1, mon_le (mon_keep (by decide) hkp2 hsim.2.2) (by omega)⟩, hPx, hPm, hD, hS, hl⟩
set_option maxHeartbeats 4000000 in
set_option maxRecDepth 100000 in
theorem le_21 {p : Program} {e : Env} {s : State} {m : MethodId} {below : List Frame} {meth : Method} {c : Code} (l : Launch) {b L : Nat} {xs : Nat → Int32} {dC : Nat → ClassId} {dI : Nat → Nat → Nat} {cs : Nat → ClassId} {tt : Nat} {adx adm : Nat → Nat} {i : Int32} {cc : Int} (F1 : lw_F p s m meth c b L xs dC dI cs tt) {mux mum : Nat → Nat → Int32} {H : Heap} {locs : List Loc} {ls : Array Slot} (J0 : lw_J s b dC dI cs adx adm i cc mux mum H locs ls) (hL : L ≤ 384) (hcc : 1000 ≤ cc ∧ cc ≤ 900000) (hi : 0 ≤ i.toInt ∧ i.toInt + 6 ≤ L) (KE : ∀ (mux mum : Nat → Nat → Int32) (H : Heap) (locs : List Loc) (ls : Array Slot), lw_J s b dC dI cs adx adm i (cc + 1000) mux mum H locs ls → W p l e room_1 s m #[Value.ref b] below meth c H locs 178 3099 (lw_Z below #[Value.ref b] s) (F0 m 1641 ls [])) : W p l e room_1 s m #[Value.ref b] below meth c H locs 178 3099 (lw_Z below #[Value.ref b] s) (F0 m 937 ls []) := by
  have F2 := F1
  have J1 := J0
  obtain ⟨C0, hKx, hKm, hz, hks⟩ := F1
  obtain ⟨hx, hb, hr, hml, hown0, hts0, hX, hbl, hlocks, hgv⟩ := C0
  obtain ⟨okx, okm, hsim, hPx, hPm, hD, hS, hl⟩ := J0
  have okx0 := okx
  have okm0 := okm
  have hown : s.vm.findClass RL = some m.cls := hown0
  have hts := hts0
  have hbA : ¬ (fun q : Nat => s.heap.size ≤ q) b := Nat.not_le.mpr hbl
  have hA : ∀ q : Nat, s.heap.size ≤ q → (fun q : Nat => s.heap.size ≤ q) q := fun _ h => h
  refine lv_aload_n hx hb dL_law_937 rfl (lv_at hl 2 rfl) ?_
  refine lv_aload_n hx hb dL_law_938 rfl (lv_at hl 3 rfl) ?_
  refine lv_iload_n hx hb dL_law_939 rfl (lv_at hl 0 rfl) ?_
  refine lv_iconst (v := 1) hx hb dL_law_940 (by decide) ?_
  refine lv_iadd hx hb dL_law_941 ?_
  refine lv_topi (fun t1 et1 => ?_)
  have at1 : t1.toInt = i.toInt + 1 := by rw [et1]; exact tI_add rfl (rfl : (1 : Int32).toInt = _) (by show _ ≤ i.toInt + (1 : Int); omega) (by show i.toInt + (1 : Int) < _; omega)
  refine va_sld hx hb hX hbl hbA hS (show vp_in t1 L from vi_of (by omega) (by omega)) dL_law_942 ?_
  refine lv_topi (fun a1 ea1 => ?_)
  have hDx := dl_left hD
  have hDm := dl_right hD
  have hFx := fr_all hDx hS hA
  refine va_calli (va_runV (As := [.int a1]) (rest := []) ⟨hx, hb, hml, hown, hts⟩ (qx_can l dC dI cs adx mux okx H hPx (hDx.weaken (fun _ _ _ _ => trivial)) a1) (cwV 1 hts (wL_V mw_3_205 mw_3_202 mw_3_203 mw_3_204 mw_1_1) rfl rfl rfl (by decide +kernel) ⟨Nat.le_of_ble_eq_true rfl, Nat.le_of_ble_eq_true rfl⟩) ⟨sz_c, va_recv hKx hPx (ci := 11) (q0 := 0) rfl (gX_0 cs adx mux), sz_m hKx hz⟩ rfl rfl hl.1 rfl (lv_room (Nat.le_of_ble_eq_true rfl)) dL_law_943 ⟨Nat.le_of_ble_eq_true rfl, Nat.le_of_ble_eq_true rfl⟩) hS (fun q _ h => hFx q h) hFx (fun r1 xi1 t H1 locs ht hvm hw1 hB hz1 hk1 hS => ?_)
  obtain ⟨hfe1, okx, hw1, hkp1⟩ := hw1
  have hPx : va_P (dC, dI) vwCl (wR 157 adx (EX cs adx) xi1) H1 := by rw [← ht]; exact hB
  have hPm := kp_rest hD hPm hk1
  have hD : va_D (fun q : Nat => s.heap.size ≤ q) ((wR 157 adx (EX cs adx) xi1) ++ (wR 21 adm (EM cs adm) mum)) := wR_DD _ _ hD
  refine lv_pop hx hb dL_law_946 rfl ?_
  refine lv_aload_n hx hb dL_law_947 rfl (lv_at hl 1 rfl) ?_
  refine lv_aload_n hx hb dL_law_948 rfl (lv_at hl 3 rfl) ?_
  refine lv_iload_n hx hb dL_law_949 rfl (lv_at hl 0 rfl) ?_
  refine lv_iconst (v := 1) hx hb dL_law_950 (by decide) ?_
  refine lv_iadd hx hb dL_law_951 ?_
  refine lq_i t1 et1.symm ?_
  refine va_sld hx hb hX hbl hbA hS (show vp_in t1 L from vi_of (by omega) (by omega)) dL_law_952 ?_
  refine lq_i a1 ea1.symm ?_
  have hDx := dl_left hD
  have hDm := dl_right hD
  have hFm := fr_all hDm hS hA
  refine va_calli (va_runV (As := [.int a1]) (rest := []) ⟨hx, hb, hml, hown, hts⟩ (qm_can l dC dI cs adm mum okm H1 hPm (hDm.weaken (fun _ _ _ _ => trivial)) a1) (cwV 1 hts (wL_V mw_6_150 mw_6_147 mw_6_148 mw_6_149 mw_1_13) rfl rfl rfl (by decide +kernel) ⟨Nat.le_of_ble_eq_true rfl, Nat.le_of_ble_eq_true rfl⟩) ⟨sz_c, va_recv hKm hPm (ci := 12) (q0 := 0) rfl (gM_0 cs adm mum), sz_m hKm hz⟩ rfl rfl hl.1 rfl (lv_room (Nat.le_of_ble_eq_true rfl)) dL_law_953 ⟨Nat.le_of_ble_eq_true rfl, Nat.le_of_ble_eq_true rfl⟩) hS (fun q _ h => hFm q h) hFm (fun r2 xi2 t H2 locs ht hvm hw2 hB hz1 hk1 hS => ?_)
  obtain ⟨hfe2, okm, hw2, hkp2⟩ := hw2
  have hPm : va_P (dC, dI) vwCl (wR 21 adm (EM cs adm) xi2) H2 := by rw [← ht]; exact hB
  have hPx := kp_rest (pm_D List.perm_append_comm hD) hPx hk1
  have hD : va_D (fun q : Nat => s.heap.size ≤ q) ((wR 157 adx (EX cs adx) xi1) ++ (wR 21 adm (EM cs adm) xi2)) := wR_DD _ _ hD
  refine lv_pop hx hb dL_law_956 rfl ?_
  refine lv_goto (tgt := 1641) hx hb dL_law_957 (by decide) ?_
  exact KE xi1 xi2 _ _ _ ⟨okx, okm, ⟨simT_keep (by decide) (by decide) hkp1 hkp2 hsim.1, core_keep okm0 (by decide) (by decide) hkp1 hkp2 hsim.2.1, mon_le (mon_keep (by decide) hkp2 hsim.2.2) (by omega)⟩, hPx, hPm, hD, hS, hl⟩
set_option maxHeartbeats 4000000 in
set_option maxRecDepth 100000 in
theorem le_22 {p : Program} {e : Env} {s : State} {m : MethodId} {below : List Frame} {meth : Method} {c : Code} (l : Launch) {b L : Nat} {xs : Nat → Int32} {dC : Nat → ClassId} {dI : Nat → Nat → Nat} {cs : Nat → ClassId} {tt : Nat} {adx adm : Nat → Nat} {i : Int32} {cc : Int} (F1 : lw_F p s m meth c b L xs dC dI cs tt) {mux mum : Nat → Nat → Int32} {H : Heap} {locs : List Loc} {ls : Array Slot} (J0 : lw_J s b dC dI cs adx adm i cc mux mum H locs ls) (hL : L ≤ 384) (hcc : 1000 ≤ cc ∧ cc ≤ 900000) (hi : 0 ≤ i.toInt ∧ i.toInt + 6 ≤ L) (KE : ∀ (mux mum : Nat → Nat → Int32) (H : Heap) (locs : List Loc) (ls : Array Slot), lw_J s b dC dI cs adx adm i (cc + 1000) mux mum H locs ls → W p l e room_1 s m #[Value.ref b] below meth c H locs 178 3099 (lw_Z below #[Value.ref b] s) (F0 m 1641 ls [])) : W p l e room_1 s m #[Value.ref b] below meth c H locs 178 3099 (lw_Z below #[Value.ref b] s) (F0 m 960 ls []) := by
  have F2 := F1
  have J1 := J0
  obtain ⟨C0, hKx, hKm, hz, hks⟩ := F1
  obtain ⟨hx, hb, hr, hml, hown0, hts0, hX, hbl, hlocks, hgv⟩ := C0
  obtain ⟨okx, okm, hsim, hPx, hPm, hD, hS, hl⟩ := J0
  have okx0 := okx
  have okm0 := okm
  have hown : s.vm.findClass RL = some m.cls := hown0
  have hts := hts0
  have hbA : ¬ (fun q : Nat => s.heap.size ≤ q) b := Nat.not_le.mpr hbl
  have hA : ∀ q : Nat, s.heap.size ≤ q → (fun q : Nat => s.heap.size ≤ q) q := fun _ h => h
  refine lv_aload_n hx hb dL_law_960 rfl (lv_at hl 2 rfl) ?_
  refine lv_aload_n hx hb dL_law_961 rfl (lv_at hl 3 rfl) ?_
  refine lv_iload_n hx hb dL_law_962 rfl (lv_at hl 0 rfl) ?_
  refine lv_iconst (v := 1) hx hb dL_law_963 (by decide) ?_
  refine lv_iadd hx hb dL_law_964 ?_
  refine lv_topi (fun t1 et1 => ?_)
  have at1 : t1.toInt = i.toInt + 1 := by rw [et1]; exact tI_add rfl (rfl : (1 : Int32).toInt = _) (by show _ ≤ i.toInt + (1 : Int); omega) (by show i.toInt + (1 : Int) < _; omega)
  refine va_sld hx hb hX hbl hbA hS (show vp_in t1 L from vi_of (by omega) (by omega)) dL_law_965 ?_
  refine lv_topi (fun a1 ea1 => ?_)
  have hDx := dl_left hD
  have hDm := dl_right hD
  have hFx := fr_all hDx hS hA
  refine va_calli (va_runV (As := [.int a1]) (rest := []) ⟨hx, hb, hml, hown, hts⟩ (qx_undo l dC dI cs adx mux okx H hPx (hDx.weaken (fun _ _ _ _ => trivial)) a1) (cwV 1 hts (wL_V mw_3_209 mw_3_206 mw_3_207 mw_3_208 mw_1_1) rfl rfl rfl (by decide +kernel) ⟨Nat.le_of_ble_eq_true rfl, Nat.le_of_ble_eq_true rfl⟩) ⟨sz_c, va_recv hKx hPx (ci := 11) (q0 := 0) rfl (gX_0 cs adx mux), sz_m hKx hz⟩ rfl rfl hl.1 rfl (lv_room (Nat.le_of_ble_eq_true rfl)) dL_law_966 ⟨Nat.le_of_ble_eq_true rfl, Nat.le_of_ble_eq_true rfl⟩) hS (fun q _ h => hFx q h) hFx (fun r1 xi1 t H1 locs ht hvm hw1 hB hz1 hk1 hS => ?_)
  obtain ⟨hfe1, okx, hw1, hkp1⟩ := hw1
  have hPx : va_P (dC, dI) vwCl (wR 157 adx (EX cs adx) xi1) H1 := by rw [← ht]; exact hB
  have hPm := kp_rest hD hPm hk1
  have hD : va_D (fun q : Nat => s.heap.size ≤ q) ((wR 157 adx (EX cs adx) xi1) ++ (wR 21 adm (EM cs adm) mum)) := wR_DD _ _ hD
  refine lv_pop hx hb dL_law_969 rfl ?_
  refine lv_aload_n hx hb dL_law_970 rfl (lv_at hl 1 rfl) ?_
  refine lv_aload_n hx hb dL_law_971 rfl (lv_at hl 3 rfl) ?_
  refine lv_iload_n hx hb dL_law_972 rfl (lv_at hl 0 rfl) ?_
  refine lv_iconst (v := 1) hx hb dL_law_973 (by decide) ?_
  refine lv_iadd hx hb dL_law_974 ?_
  refine lq_i t1 et1.symm ?_
  refine va_sld hx hb hX hbl hbA hS (show vp_in t1 L from vi_of (by omega) (by omega)) dL_law_975 ?_
  refine lq_i a1 ea1.symm ?_
  have hDx := dl_left hD
  have hDm := dl_right hD
  have hFm := fr_all hDm hS hA
  refine va_calli (va_runV (As := [.int a1]) (rest := []) ⟨hx, hb, hml, hown, hts⟩ (qm_undo l dC dI cs adm mum okm H1 hPm (hDm.weaken (fun _ _ _ _ => trivial)) a1) (cwV 1 hts (wL_V mw_6_154 mw_6_151 mw_6_152 mw_6_153 mw_1_13) rfl rfl rfl (by decide +kernel) ⟨Nat.le_of_ble_eq_true rfl, Nat.le_of_ble_eq_true rfl⟩) ⟨sz_c, va_recv hKm hPm (ci := 12) (q0 := 0) rfl (gM_0 cs adm mum), sz_m hKm hz⟩ rfl rfl hl.1 rfl (lv_room (Nat.le_of_ble_eq_true rfl)) dL_law_976 ⟨Nat.le_of_ble_eq_true rfl, Nat.le_of_ble_eq_true rfl⟩) hS (fun q _ h => hFm q h) hFm (fun r2 xi2 t H2 locs ht hvm hw2 hB hz1 hk1 hS => ?_)
  obtain ⟨hfe2, okm, hw2, hkp2⟩ := hw2
  have hPm : va_P (dC, dI) vwCl (wR 21 adm (EM cs adm) xi2) H2 := by rw [← ht]; exact hB
  have hPx := kp_rest (pm_D List.perm_append_comm hD) hPx hk1
  have hD : va_D (fun q : Nat => s.heap.size ≤ q) ((wR 157 adx (EX cs adx) xi1) ++ (wR 21 adm (EM cs adm) xi2)) := wR_DD _ _ hD
  refine lv_pop hx hb dL_law_979 rfl ?_
  refine lv_goto (tgt := 1641) hx hb dL_law_980 (by decide) ?_
  exact KE xi1 xi2 _ _ _ ⟨okx, okm, ⟨simT_keep (by decide) (by decide) hkp1 hkp2 hsim.1, (undo_rel okm0 hsim.2.1 hfe1 hfe2).2, mon_le (undo_mon okm0 hsim.2.1 hsim.2.2 hfe2) (by omega)⟩, hPx, hPm, hD, hS, hl⟩
set_option maxHeartbeats 4000000 in
set_option maxRecDepth 100000 in
theorem le_23 {p : Program} {e : Env} {s : State} {m : MethodId} {below : List Frame} {meth : Method} {c : Code} (l : Launch) {b L : Nat} {xs : Nat → Int32} {dC : Nat → ClassId} {dI : Nat → Nat → Nat} {cs : Nat → ClassId} {tt : Nat} {adx adm : Nat → Nat} {i : Int32} {cc : Int} (F1 : lw_F p s m meth c b L xs dC dI cs tt) {mux mum : Nat → Nat → Int32} {H : Heap} {locs : List Loc} {ls : Array Slot} (J0 : lw_J s b dC dI cs adx adm i cc mux mum H locs ls) (hL : L ≤ 384) (hcc : 1000 ≤ cc ∧ cc ≤ 900000) (hi : 0 ≤ i.toInt ∧ i.toInt + 6 ≤ L) (KE : ∀ (mux mum : Nat → Nat → Int32) (H : Heap) (locs : List Loc) (ls : Array Slot), lw_J s b dC dI cs adx adm i (cc + 1000) mux mum H locs ls → W p l e room_1 s m #[Value.ref b] below meth c H locs 178 3099 (lw_Z below #[Value.ref b] s) (F0 m 1641 ls [])) : W p l e room_1 s m #[Value.ref b] below meth c H locs 178 3099 (lw_Z below #[Value.ref b] s) (F0 m 983 ls []) := by
  have F2 := F1
  have J1 := J0
  obtain ⟨C0, hKx, hKm, hz, hks⟩ := F1
  obtain ⟨hx, hb, hr, hml, hown0, hts0, hX, hbl, hlocks, hgv⟩ := C0
  obtain ⟨okx, okm, hsim, hPx, hPm, hD, hS, hl⟩ := J0
  have okx0 := okx
  have okm0 := okm
  have hown : s.vm.findClass RL = some m.cls := hown0
  have hts := hts0
  have hbA : ¬ (fun q : Nat => s.heap.size ≤ q) b := Nat.not_le.mpr hbl
  have hA : ∀ q : Nat, s.heap.size ≤ q → (fun q : Nat => s.heap.size ≤ q) q := fun _ h => h
  refine lv_aload_n hx hb dL_law_983 rfl (lv_at hl 2 rfl) ?_
  refine lv_aload_n hx hb dL_law_984 rfl (lv_at hl 3 rfl) ?_
  refine lv_iload_n hx hb dL_law_985 rfl (lv_at hl 0 rfl) ?_
  refine lv_iconst (v := 1) hx hb dL_law_986 (by decide) ?_
  refine lv_iadd hx hb dL_law_987 ?_
  refine lv_topi (fun t1 et1 => ?_)
  have at1 : t1.toInt = i.toInt + 1 := by rw [et1]; exact tI_add rfl (rfl : (1 : Int32).toInt = _) (by show _ ≤ i.toInt + (1 : Int); omega) (by show i.toInt + (1 : Int) < _; omega)
  refine va_sld hx hb hX hbl hbA hS (show vp_in t1 L from vi_of (by omega) (by omega)) dL_law_988 ?_
  refine lv_topi (fun a1 ea1 => ?_)
  have hDx := dl_left hD
  have hDm := dl_right hD
  have hFx := fr_all hDx hS hA
  refine va_calli (va_runV (As := [.int a1]) (rest := []) ⟨hx, hb, hml, hown, hts⟩ (qx_keep l dC dI cs adx mux okx H hPx (hDx.weaken (fun _ _ _ _ => trivial)) a1) (cwV 1 hts (wL_V mw_3_217 mw_3_214 mw_3_215 mw_3_216 mw_1_1) rfl rfl rfl (by decide +kernel) ⟨Nat.le_of_ble_eq_true rfl, Nat.le_of_ble_eq_true rfl⟩) ⟨sz_c, va_recv hKx hPx (ci := 11) (q0 := 0) rfl (gX_0 cs adx mux), sz_m hKx hz⟩ rfl rfl hl.1 rfl (lv_room (Nat.le_of_ble_eq_true rfl)) dL_law_989 ⟨Nat.le_of_ble_eq_true rfl, Nat.le_of_ble_eq_true rfl⟩) hS (fun q _ h => hFx q h) hFx (fun r1 xi1 t H1 locs ht hvm hw1 hB hz1 hk1 hS => ?_)
  obtain ⟨hfe1, okx, hw1, hkp1⟩ := hw1
  have hPx : va_P (dC, dI) vwCl (wR 157 adx (EX cs adx) xi1) H1 := by rw [← ht]; exact hB
  have hPm := kp_rest hD hPm hk1
  have hD : va_D (fun q : Nat => s.heap.size ≤ q) ((wR 157 adx (EX cs adx) xi1) ++ (wR 21 adm (EM cs adm) mum)) := wR_DD _ _ hD
  refine lv_pop hx hb dL_law_992 rfl ?_
  refine lv_aload_n hx hb dL_law_993 rfl (lv_at hl 1 rfl) ?_
  refine lv_aload_n hx hb dL_law_994 rfl (lv_at hl 3 rfl) ?_
  refine lv_iload_n hx hb dL_law_995 rfl (lv_at hl 0 rfl) ?_
  refine lv_iconst (v := 1) hx hb dL_law_996 (by decide) ?_
  refine lv_iadd hx hb dL_law_997 ?_
  refine lq_i t1 et1.symm ?_
  refine va_sld hx hb hX hbl hbA hS (show vp_in t1 L from vi_of (by omega) (by omega)) dL_law_998 ?_
  refine lq_i a1 ea1.symm ?_
  have hDx := dl_left hD
  have hDm := dl_right hD
  have hFm := fr_all hDm hS hA
  refine va_calli (va_runV (As := [.int a1]) (rest := []) ⟨hx, hb, hml, hown, hts⟩ (qm_keep l dC dI cs adm mum okm H1 hPm (hDm.weaken (fun _ _ _ _ => trivial)) a1) (cwV 1 hts (wL_V mw_6_158 mw_6_155 mw_6_156 mw_6_157 mw_1_13) rfl rfl rfl (by decide +kernel) ⟨Nat.le_of_ble_eq_true rfl, Nat.le_of_ble_eq_true rfl⟩) ⟨sz_c, va_recv hKm hPm (ci := 12) (q0 := 0) rfl (gM_0 cs adm mum), sz_m hKm hz⟩ rfl rfl hl.1 rfl (lv_room (Nat.le_of_ble_eq_true rfl)) dL_law_999 ⟨Nat.le_of_ble_eq_true rfl, Nat.le_of_ble_eq_true rfl⟩) hS (fun q _ h => hFm q h) hFm (fun r2 xi2 t H2 locs ht hvm hw2 hB hz1 hk1 hS => ?_)
  obtain ⟨hfe2, okm, hw2, hkp2⟩ := hw2
  have hPm : va_P (dC, dI) vwCl (wR 21 adm (EM cs adm) xi2) H2 := by rw [← ht]; exact hB
  have hPx := kp_rest (pm_D List.perm_append_comm hD) hPx hk1
  have hD : va_D (fun q : Nat => s.heap.size ≤ q) ((wR 157 adx (EX cs adx) xi1) ++ (wR 21 adm (EM cs adm) xi2)) := wR_DD _ _ hD
  refine lv_pop hx hb dL_law_1002 rfl ?_
  refine lv_goto (tgt := 1641) hx hb dL_law_1003 (by decide) ?_
  exact KE xi1 xi2 _ _ _ ⟨okx, okm, ⟨simT_keep (by decide) (by decide) hkp1 hkp2 hsim.1, (keep_rel okm0 hsim.2.1 hfe1 hfe2).2, mon_le (keep_mon okm0 hsim.2.2 hfe2) (by omega)⟩, hPx, hPm, hD, hS, hl⟩
set_option maxHeartbeats 4000000 in
set_option maxRecDepth 100000 in
theorem le_24 {p : Program} {e : Env} {s : State} {m : MethodId} {below : List Frame} {meth : Method} {c : Code} (l : Launch) {b L : Nat} {xs : Nat → Int32} {dC : Nat → ClassId} {dI : Nat → Nat → Nat} {cs : Nat → ClassId} {tt : Nat} {adx adm : Nat → Nat} {i : Int32} {cc : Int} (F1 : lw_F p s m meth c b L xs dC dI cs tt) {mux mum : Nat → Nat → Int32} {H : Heap} {locs : List Loc} {ls : Array Slot} (J0 : lw_J s b dC dI cs adx adm i cc mux mum H locs ls) (hL : L ≤ 384) (hcc : 1000 ≤ cc ∧ cc ≤ 900000) (hi : 0 ≤ i.toInt ∧ i.toInt + 6 ≤ L) (KE : ∀ (mux mum : Nat → Nat → Int32) (H : Heap) (locs : List Loc) (ls : Array Slot), lw_J s b dC dI cs adx adm i (cc + 1000) mux mum H locs ls → W p l e room_1 s m #[Value.ref b] below meth c H locs 178 3099 (lw_Z below #[Value.ref b] s) (F0 m 1641 ls [])) : W p l e room_1 s m #[Value.ref b] below meth c H locs 178 3099 (lw_Z below #[Value.ref b] s) (F0 m 1006 ls []) := by
  have F2 := F1
  have J1 := J0
  obtain ⟨C0, hKx, hKm, hz, hks⟩ := F1
  obtain ⟨hx, hb, hr, hml, hown0, hts0, hX, hbl, hlocks, hgv⟩ := C0
  obtain ⟨okx, okm, hsim, hPx, hPm, hD, hS, hl⟩ := J0
  have okx0 := okx
  have okm0 := okm
  have hown : s.vm.findClass RL = some m.cls := hown0
  have hts := hts0
  have hbA : ¬ (fun q : Nat => s.heap.size ≤ q) b := Nat.not_le.mpr hbl
  have hA : ∀ q : Nat, s.heap.size ≤ q → (fun q : Nat => s.heap.size ≤ q) q := fun _ h => h
  refine lv_aload_n hx hb dL_law_1006 rfl (lv_at hl 2 rfl) ?_
  refine lv_aload_n hx hb dL_law_1007 rfl (lv_at hl 3 rfl) ?_
  refine lv_iload_n hx hb dL_law_1008 rfl (lv_at hl 0 rfl) ?_
  refine lv_iconst (v := 1) hx hb dL_law_1009 (by decide) ?_
  refine lv_iadd hx hb dL_law_1010 ?_
  refine lv_topi (fun t1 et1 => ?_)
  have at1 : t1.toInt = i.toInt + 1 := by rw [et1]; exact tI_add rfl (rfl : (1 : Int32).toInt = _) (by show _ ≤ i.toInt + (1 : Int); omega) (by show i.toInt + (1 : Int) < _; omega)
  refine va_sld hx hb hX hbl hbA hS (show vp_in t1 L from vi_of (by omega) (by omega)) dL_law_1011 ?_
  refine lv_topi (fun a1 ea1 => ?_)
  have hDx := dl_left hD
  have hDm := dl_right hD
  have hFx := fr_all hDx hS hA
  refine va_calli (va_runV (As := [.int a1]) (rest := []) ⟨hx, hb, hml, hown, hts⟩ (qx_on l dC dI cs adx mux okx H hPx (hDx.weaken (fun _ _ _ _ => trivial)) a1) (cwV 1 hts (wL_V mw_3_233 mw_3_230 mw_3_231 mw_3_232 mw_1_1) rfl rfl rfl (by decide +kernel) ⟨Nat.le_of_ble_eq_true rfl, Nat.le_of_ble_eq_true rfl⟩) ⟨sz_c, va_recv hKx hPx (ci := 11) (q0 := 0) rfl (gX_0 cs adx mux), sz_m hKx hz⟩ rfl rfl hl.1 rfl (lv_room (Nat.le_of_ble_eq_true rfl)) dL_law_1012 ⟨Nat.le_of_ble_eq_true rfl, Nat.le_of_ble_eq_true rfl⟩) hS (fun q _ h => hFx q h) hFx (fun r1 xi1 t H1 locs ht hvm hw1 hB hz1 hk1 hS => ?_)
  obtain ⟨hfe1, okx, hw1, hkp1⟩ := hw1
  have hPx : va_P (dC, dI) vwCl (wR 157 adx (EX cs adx) xi1) H1 := by rw [← ht]; exact hB
  have hPm := kp_rest hD hPm hk1
  have hD : va_D (fun q : Nat => s.heap.size ≤ q) ((wR 157 adx (EX cs adx) xi1) ++ (wR 21 adm (EM cs adm) mum)) := wR_DD _ _ hD
  refine lv_pop hx hb dL_law_1015 rfl ?_
  refine lv_aload_n hx hb dL_law_1016 rfl (lv_at hl 1 rfl) ?_
  refine lv_aload_n hx hb dL_law_1017 rfl (lv_at hl 3 rfl) ?_
  refine lv_iload_n hx hb dL_law_1018 rfl (lv_at hl 0 rfl) ?_
  refine lv_iconst (v := 1) hx hb dL_law_1019 (by decide) ?_
  refine lv_iadd hx hb dL_law_1020 ?_
  refine lq_i t1 et1.symm ?_
  refine va_sld hx hb hX hbl hbA hS (show vp_in t1 L from vi_of (by omega) (by omega)) dL_law_1021 ?_
  refine lq_i a1 ea1.symm ?_
  have hDx := dl_left hD
  have hDm := dl_right hD
  have hFm := fr_all hDm hS hA
  refine va_calli (va_runV (As := [.int a1]) (rest := []) ⟨hx, hb, hml, hown, hts⟩ (qm_on l dC dI cs adm mum okm H1 hPm (hDm.weaken (fun _ _ _ _ => trivial)) a1) (cwV 1 hts (wL_V mw_6_162 mw_6_159 mw_6_160 mw_6_161 mw_1_13) rfl rfl rfl (by decide +kernel) ⟨Nat.le_of_ble_eq_true rfl, Nat.le_of_ble_eq_true rfl⟩) ⟨sz_c, va_recv hKm hPm (ci := 12) (q0 := 0) rfl (gM_0 cs adm mum), sz_m hKm hz⟩ rfl rfl hl.1 rfl (lv_room (Nat.le_of_ble_eq_true rfl)) dL_law_1022 ⟨Nat.le_of_ble_eq_true rfl, Nat.le_of_ble_eq_true rfl⟩) hS (fun q _ h => hFm q h) hFm (fun r2 xi2 t H2 locs ht hvm hw2 hB hz1 hk1 hS => ?_)
  obtain ⟨hfe2, okm, hw2, hkp2⟩ := hw2
  have hPm : va_P (dC, dI) vwCl (wR 21 adm (EM cs adm) xi2) H2 := by rw [← ht]; exact hB
  have hPx := kp_rest (pm_D List.perm_append_comm hD) hPx hk1
  have hD : va_D (fun q : Nat => s.heap.size ≤ q) ((wR 157 adx (EX cs adx) xi1) ++ (wR 21 adm (EM cs adm) xi2)) := wR_DD _ _ hD
  refine lv_pop hx hb dL_law_1025 rfl ?_
  refine lv_goto (tgt := 1641) hx hb dL_law_1026 (by decide) ?_
  exact KE xi1 xi2 _ _ _ ⟨okx, okm, ⟨simT_keep (by decide) (by decide) hkp1 hkp2 hsim.1, (on_rel okm0 hsim.2.1 hfe1 hfe2).2, mon_le (on_mon okm0 hsim.2.2 hfe2) (by omega)⟩, hPx, hPm, hD, hS, hl⟩
set_option maxHeartbeats 4000000 in
set_option maxRecDepth 100000 in
theorem le_25 {p : Program} {e : Env} {s : State} {m : MethodId} {below : List Frame} {meth : Method} {c : Code} (l : Launch) {b L : Nat} {xs : Nat → Int32} {dC : Nat → ClassId} {dI : Nat → Nat → Nat} {cs : Nat → ClassId} {tt : Nat} {adx adm : Nat → Nat} {i : Int32} {cc : Int} (F1 : lw_F p s m meth c b L xs dC dI cs tt) {mux mum : Nat → Nat → Int32} {H : Heap} {locs : List Loc} {ls : Array Slot} (J0 : lw_J s b dC dI cs adx adm i cc mux mum H locs ls) (hL : L ≤ 384) (hcc : 1000 ≤ cc ∧ cc ≤ 900000) (hi : 0 ≤ i.toInt ∧ i.toInt + 6 ≤ L) (KE : ∀ (mux mum : Nat → Nat → Int32) (H : Heap) (locs : List Loc) (ls : Array Slot), lw_J s b dC dI cs adx adm i (cc + 1000) mux mum H locs ls → W p l e room_1 s m #[Value.ref b] below meth c H locs 178 3099 (lw_Z below #[Value.ref b] s) (F0 m 1641 ls [])) : W p l e room_1 s m #[Value.ref b] below meth c H locs 178 3099 (lw_Z below #[Value.ref b] s) (F0 m 1029 ls []) := by
  have F2 := F1
  have J1 := J0
  obtain ⟨C0, hKx, hKm, hz, hks⟩ := F1
  obtain ⟨hx, hb, hr, hml, hown0, hts0, hX, hbl, hlocks, hgv⟩ := C0
  obtain ⟨okx, okm, hsim, hPx, hPm, hD, hS, hl⟩ := J0
  have okx0 := okx
  have okm0 := okm
  have hown : s.vm.findClass RL = some m.cls := hown0
  have hts := hts0
  have hbA : ¬ (fun q : Nat => s.heap.size ≤ q) b := Nat.not_le.mpr hbl
  have hA : ∀ q : Nat, s.heap.size ≤ q → (fun q : Nat => s.heap.size ≤ q) q := fun _ h => h
  refine lv_aload_n hx hb dL_law_1029 rfl (lv_at hl 2 rfl) ?_
  refine lv_aload_n hx hb dL_law_1030 rfl (lv_at hl 3 rfl) ?_
  refine lv_iload_n hx hb dL_law_1031 rfl (lv_at hl 0 rfl) ?_
  refine lv_iconst (v := 1) hx hb dL_law_1032 (by decide) ?_
  refine lv_iadd hx hb dL_law_1033 ?_
  refine lv_topi (fun t1 et1 => ?_)
  have at1 : t1.toInt = i.toInt + 1 := by rw [et1]; exact tI_add rfl (rfl : (1 : Int32).toInt = _) (by show _ ≤ i.toInt + (1 : Int); omega) (by show i.toInt + (1 : Int) < _; omega)
  refine va_sld hx hb hX hbl hbA hS (show vp_in t1 L from vi_of (by omega) (by omega)) dL_law_1034 ?_
  refine lv_topi (fun a1 ea1 => ?_)
  refine lv_aload_n hx hb dL_law_1035 rfl (lv_at hl 3 rfl) ?_
  refine lv_iload_n hx hb dL_law_1036 rfl (lv_at hl 0 rfl) ?_
  refine lv_iconst (v := 2) hx hb dL_law_1037 (by decide) ?_
  refine lv_iadd hx hb dL_law_1038 ?_
  refine lv_topi (fun t2 et2 => ?_)
  have at2 : t2.toInt = i.toInt + 2 := by rw [et2]; exact tI_add rfl (rfl : (2 : Int32).toInt = _) (by show _ ≤ i.toInt + (2 : Int); omega) (by show i.toInt + (2 : Int) < _; omega)
  refine va_sld hx hb hX hbl hbA hS (show vp_in t2 L from vi_of (by omega) (by omega)) dL_law_1039 ?_
  refine lv_topi (fun a2 ea2 => ?_)
  have hDx := dl_left hD
  have hDm := dl_right hD
  have hFx := fr_all hDx hS hA
  refine va_calli (va_runV (As := [.int a1, .int a2]) (rest := []) ⟨hx, hb, hml, hown, hts⟩ (qx_cheapest l dC dI cs adx mux okx H hPx (hDx.weaken (fun _ _ _ _ => trivial)) a1 a2) (cwV 2 hts (wL_V mw_3_237 mw_3_234 mw_3_235 mw_3_236 mw_1_1) rfl rfl rfl (by decide +kernel) ⟨Nat.le_of_ble_eq_true rfl, Nat.le_of_ble_eq_true rfl⟩) ⟨sz_c, va_recv hKx hPx (ci := 11) (q0 := 0) rfl (gX_0 cs adx mux), sz_m hKx hz⟩ rfl rfl hl.1 rfl (lv_room (Nat.le_of_ble_eq_true rfl)) dL_law_1040 ⟨Nat.le_of_ble_eq_true rfl, Nat.le_of_ble_eq_true rfl⟩) hS (fun q _ h => hFx q h) hFx (fun r1 xi1 t H1 locs ht hvm hw1 hB hz1 hk1 hS => ?_)
  obtain ⟨hfe1, okx, hw1, hkp1⟩ := hw1
  have hPx : va_P (dC, dI) vwCl (wR 157 adx (EX cs adx) xi1) H1 := by rw [← ht]; exact hB
  have hPm := kp_rest hD hPm hk1
  have hD : va_D (fun q : Nat => s.heap.size ≤ q) ((wR 157 adx (EX cs adx) xi1) ++ (wR 21 adm (EM cs adm) mum)) := wR_DD _ _ hD
  refine lv_pop hx hb dL_law_1043 rfl ?_
  refine lv_aload_n hx hb dL_law_1044 rfl (lv_at hl 1 rfl) ?_
  refine lv_aload_n hx hb dL_law_1045 rfl (lv_at hl 3 rfl) ?_
  refine lv_iload_n hx hb dL_law_1046 rfl (lv_at hl 0 rfl) ?_
  refine lv_iconst (v := 1) hx hb dL_law_1047 (by decide) ?_
  refine lv_iadd hx hb dL_law_1048 ?_
  refine lq_i t1 et1.symm ?_
  refine va_sld hx hb hX hbl hbA hS (show vp_in t1 L from vi_of (by omega) (by omega)) dL_law_1049 ?_
  refine lq_i a1 ea1.symm ?_
  refine lv_aload_n hx hb dL_law_1050 rfl (lv_at hl 3 rfl) ?_
  refine lv_iload_n hx hb dL_law_1051 rfl (lv_at hl 0 rfl) ?_
  refine lv_iconst (v := 2) hx hb dL_law_1052 (by decide) ?_
  refine lv_iadd hx hb dL_law_1053 ?_
  refine lq_i t2 et2.symm ?_
  refine va_sld hx hb hX hbl hbA hS (show vp_in t2 L from vi_of (by omega) (by omega)) dL_law_1054 ?_
  refine lq_i a2 ea2.symm ?_
  have hDx := dl_left hD
  have hDm := dl_right hD
  have hFm := fr_all hDm hS hA
  refine va_calli (va_runV (As := [.int a1, .int a2]) (rest := []) ⟨hx, hb, hml, hown, hts⟩ (qm_cheapest l dC dI cs adm mum okm H1 hPm (hDm.weaken (fun _ _ _ _ => trivial)) a1 a2) (cwV 2 hts (wL_V mw_6_166 mw_6_163 mw_6_164 mw_6_165 mw_1_13) rfl rfl rfl (by decide +kernel) ⟨Nat.le_of_ble_eq_true rfl, Nat.le_of_ble_eq_true rfl⟩) ⟨sz_c, va_recv hKm hPm (ci := 12) (q0 := 0) rfl (gM_0 cs adm mum), sz_m hKm hz⟩ rfl rfl hl.1 rfl (lv_room (Nat.le_of_ble_eq_true rfl)) dL_law_1055 ⟨Nat.le_of_ble_eq_true rfl, Nat.le_of_ble_eq_true rfl⟩) hS (fun q _ h => hFm q h) hFm (fun r2 xi2 t H2 locs ht hvm hw2 hB hz1 hk1 hS => ?_)
  obtain ⟨hfe2, okm, hw2, hkp2⟩ := hw2
  have hPm : va_P (dC, dI) vwCl (wR 21 adm (EM cs adm) xi2) H2 := by rw [← ht]; exact hB
  have hPx := kp_rest (pm_D List.perm_append_comm hD) hPx hk1
  have hD : va_D (fun q : Nat => s.heap.size ≤ q) ((wR 157 adx (EX cs adx) xi1) ++ (wR 21 adm (EM cs adm) xi2)) := wR_DD _ _ hD
  refine lv_pop hx hb dL_law_1058 rfl ?_
  refine lv_goto (tgt := 1641) hx hb dL_law_1059 (by decide) ?_
  exact KE xi1 xi2 _ _ _ ⟨okx, okm, ⟨simT_keep (by decide) (by decide) hkp1 hkp2 hsim.1, core_keep okm0 (by decide) (by decide) hkp1 hkp2 hsim.2.1, mon_le (mon_keep (by decide) hkp2 hsim.2.2) (by omega)⟩, hPx, hPm, hD, hS, hl⟩
theorem mw_4_60 : (Cond.code yX11_soonest cX11_soonest 4 (some .int) : Cond) ∈ lw_good := lg_at 4 60 rfl rfl
theorem mw_4_57 : (Cond.methodLink RL 122 yX11_soonest : Cond) ∈ lw_good := lg_at 4 57 rfl rfl
theorem mw_4_58 : (Cond.instanceMethod yX11_soonest : Cond) ∈ lw_good := lg_at 4 58 rfl rfl
theorem mw_4_59 : (Cond.selects RX11 yX11_soonest yX11_soonest : Cond) ∈ lw_good := lg_at 4 59 rfl rfl
theorem mw_6_200 : (Cond.code yX12_soonest cX12_soonest 4 (some .int) : Cond) ∈ lw_good := lg_at 6 200 rfl rfl
theorem mw_6_197 : (Cond.methodLink RL 125 yX12_soonest : Cond) ∈ lw_good := lg_at 6 197 rfl rfl
theorem mw_6_198 : (Cond.instanceMethod yX12_soonest : Cond) ∈ lw_good := lg_at 6 198 rfl rfl
theorem mw_6_199 : (Cond.selects RX12 yX12_soonest yX12_soonest : Cond) ∈ lw_good := lg_at 6 199 rfl rfl
theorem mw_4_64 : (Cond.code yX11_comes cX11_comes 3 (some .int) : Cond) ∈ lw_good := lg_at 4 64 rfl rfl
theorem mw_4_61 : (Cond.methodLink RL 126 yX11_comes : Cond) ∈ lw_good := lg_at 4 61 rfl rfl
theorem mw_4_62 : (Cond.instanceMethod yX11_comes : Cond) ∈ lw_good := lg_at 4 62 rfl rfl
theorem mw_4_63 : (Cond.selects RX11 yX11_comes yX11_comes : Cond) ∈ lw_good := lg_at 4 63 rfl rfl
theorem mw_6_204 : (Cond.code yX12_comes cX12_comes 3 (some .int) : Cond) ∈ lw_good := lg_at 6 204 rfl rfl
theorem mw_6_201 : (Cond.methodLink RL 129 yX12_comes : Cond) ∈ lw_good := lg_at 6 201 rfl rfl
theorem mw_6_202 : (Cond.instanceMethod yX12_comes : Cond) ∈ lw_good := lg_at 6 202 rfl rfl
theorem mw_6_203 : (Cond.selects RX12 yX12_comes yX12_comes : Cond) ∈ lw_good := lg_at 6 203 rfl rfl
theorem mw_4_68 : (Cond.code yX11_bars cX11_bars 3 (some .int) : Cond) ∈ lw_good := lg_at 4 68 rfl rfl
theorem mw_4_65 : (Cond.methodLink RL 130 yX11_bars : Cond) ∈ lw_good := lg_at 4 65 rfl rfl
theorem mw_4_66 : (Cond.instanceMethod yX11_bars : Cond) ∈ lw_good := lg_at 4 66 rfl rfl
theorem mw_4_67 : (Cond.selects RX11 yX11_bars yX11_bars : Cond) ∈ lw_good := lg_at 4 67 rfl rfl
theorem mw_6_208 : (Cond.code yX12_bars cX12_bars 3 (some .int) : Cond) ∈ lw_good := lg_at 6 208 rfl rfl
theorem mw_6_205 : (Cond.methodLink RL 133 yX12_bars : Cond) ∈ lw_good := lg_at 6 205 rfl rfl
theorem mw_6_206 : (Cond.instanceMethod yX12_bars : Cond) ∈ lw_good := lg_at 6 206 rfl rfl
theorem mw_6_207 : (Cond.selects RX12 yX12_bars yX12_bars : Cond) ∈ lw_good := lg_at 6 207 rfl rfl
theorem mw_4_72 : (Cond.code yX11_why cX11_why 3 (some .int) : Cond) ∈ lw_good := lg_at 4 72 rfl rfl
theorem mw_4_69 : (Cond.methodLink RL 134 yX11_why : Cond) ∈ lw_good := lg_at 4 69 rfl rfl
theorem mw_4_70 : (Cond.instanceMethod yX11_why : Cond) ∈ lw_good := lg_at 4 70 rfl rfl
theorem mw_4_71 : (Cond.selects RX11 yX11_why yX11_why : Cond) ∈ lw_good := lg_at 4 71 rfl rfl
theorem mw_6_212 : (Cond.code yX12_why cX12_why 3 (some .int) : Cond) ∈ lw_good := lg_at 6 212 rfl rfl
theorem mw_6_209 : (Cond.methodLink RL 137 yX12_why : Cond) ∈ lw_good := lg_at 6 209 rfl rfl
theorem mw_6_210 : (Cond.instanceMethod yX12_why : Cond) ∈ lw_good := lg_at 6 210 rfl rfl
theorem mw_6_211 : (Cond.selects RX12 yX12_why yX12_why : Cond) ∈ lw_good := lg_at 6 211 rfl rfl
theorem mw_4_80 : (Cond.code yX11_needs cX11_needs 3 (some .int) : Cond) ∈ lw_good := lg_at 4 80 rfl rfl
theorem mw_4_77 : (Cond.methodLink RL 138 yX11_needs : Cond) ∈ lw_good := lg_at 4 77 rfl rfl
theorem mw_4_78 : (Cond.instanceMethod yX11_needs : Cond) ∈ lw_good := lg_at 4 78 rfl rfl
theorem mw_4_79 : (Cond.selects RX11 yX11_needs yX11_needs : Cond) ∈ lw_good := lg_at 4 79 rfl rfl
theorem mw_6_216 : (Cond.code yX12_needs cX12_needs 3 (some .int) : Cond) ∈ lw_good := lg_at 6 216 rfl rfl
theorem mw_6_213 : (Cond.methodLink RL 141 yX12_needs : Cond) ∈ lw_good := lg_at 6 213 rfl rfl
theorem mw_6_214 : (Cond.instanceMethod yX12_needs : Cond) ∈ lw_good := lg_at 6 214 rfl rfl
theorem mw_6_215 : (Cond.selects RX12 yX12_needs yX12_needs : Cond) ∈ lw_good := lg_at 6 215 rfl rfl
theorem mw_4_84 : (Cond.code yX11_lend cX11_lend 7 (some .int) : Cond) ∈ lw_good := lg_at 4 84 rfl rfl
theorem mw_4_81 : (Cond.methodLink RL 142 yX11_lend : Cond) ∈ lw_good := lg_at 4 81 rfl rfl
theorem mw_4_82 : (Cond.instanceMethod yX11_lend : Cond) ∈ lw_good := lg_at 4 82 rfl rfl
theorem mw_4_83 : (Cond.selects RX11 yX11_lend yX11_lend : Cond) ∈ lw_good := lg_at 4 83 rfl rfl
theorem mw_6_220 : (Cond.code yX12_lend cX12_lend 9 (some .int) : Cond) ∈ lw_good := lg_at 6 220 rfl rfl
theorem mw_6_217 : (Cond.methodLink RL 145 yX12_lend : Cond) ∈ lw_good := lg_at 6 217 rfl rfl
theorem mw_6_218 : (Cond.instanceMethod yX12_lend : Cond) ∈ lw_good := lg_at 6 218 rfl rfl
theorem mw_6_219 : (Cond.selects RX12 yX12_lend yX12_lend : Cond) ∈ lw_good := lg_at 6 219 rfl rfl
theorem mw_4_93 : (Cond.code yX11_block cX11_block 6 (some .int) : Cond) ∈ lw_good := lg_at 4 93 rfl rfl
theorem mw_4_90 : (Cond.methodLink RL 146 yX11_block : Cond) ∈ lw_good := lg_at 4 90 rfl rfl
theorem mw_4_91 : (Cond.instanceMethod yX11_block : Cond) ∈ lw_good := lg_at 4 91 rfl rfl
theorem mw_4_92 : (Cond.selects RX11 yX11_block yX11_block : Cond) ∈ lw_good := lg_at 4 92 rfl rfl
theorem mw_6_224 : (Cond.code yX12_block cX12_block 6 (some .int) : Cond) ∈ lw_good := lg_at 6 224 rfl rfl
theorem mw_6_221 : (Cond.methodLink RL 149 yX12_block : Cond) ∈ lw_good := lg_at 6 221 rfl rfl
theorem mw_6_222 : (Cond.instanceMethod yX12_block : Cond) ∈ lw_good := lg_at 6 222 rfl rfl
theorem mw_6_223 : (Cond.selects RX12 yX12_block yX12_block : Cond) ∈ lw_good := lg_at 6 223 rfl rfl
theorem mw_4_110 : (Cond.code yX11_worth cX11_worth 5 (some .int) : Cond) ∈ lw_good := lg_at 4 110 rfl rfl
theorem mw_4_107 : (Cond.methodLink RL 150 yX11_worth : Cond) ∈ lw_good := lg_at 4 107 rfl rfl
theorem mw_4_108 : (Cond.instanceMethod yX11_worth : Cond) ∈ lw_good := lg_at 4 108 rfl rfl
theorem mw_4_109 : (Cond.selects RX11 yX11_worth yX11_worth : Cond) ∈ lw_good := lg_at 4 109 rfl rfl
theorem mw_6_228 : (Cond.code yX12_worth cX12_worth 8 (some .int) : Cond) ∈ lw_good := lg_at 6 228 rfl rfl
theorem mw_6_225 : (Cond.methodLink RL 153 yX12_worth : Cond) ∈ lw_good := lg_at 6 225 rfl rfl
theorem mw_6_226 : (Cond.instanceMethod yX12_worth : Cond) ∈ lw_good := lg_at 6 226 rfl rfl
theorem mw_6_227 : (Cond.selects RX12 yX12_worth yX12_worth : Cond) ∈ lw_good := lg_at 6 227 rfl rfl
theorem mw_4_125 : (Cond.code yX11_bundle cX11_bundle 7 (some .int) : Cond) ∈ lw_good := lg_at 4 125 rfl rfl
theorem mw_4_122 : (Cond.methodLink RL 154 yX11_bundle : Cond) ∈ lw_good := lg_at 4 122 rfl rfl
theorem mw_4_123 : (Cond.instanceMethod yX11_bundle : Cond) ∈ lw_good := lg_at 4 123 rfl rfl
theorem mw_4_124 : (Cond.selects RX11 yX11_bundle yX11_bundle : Cond) ∈ lw_good := lg_at 4 124 rfl rfl
theorem mw_6_236 : (Cond.code yX12_bundle cX12_bundle 7 (some .int) : Cond) ∈ lw_good := lg_at 6 236 rfl rfl
theorem mw_6_233 : (Cond.methodLink RL 157 yX12_bundle : Cond) ∈ lw_good := lg_at 6 233 rfl rfl
theorem mw_6_234 : (Cond.instanceMethod yX12_bundle : Cond) ∈ lw_good := lg_at 6 234 rfl rfl
theorem mw_6_235 : (Cond.selects RX12 yX12_bundle yX12_bundle : Cond) ∈ lw_good := lg_at 6 235 rfl rfl
theorem mw_4_138 : (Cond.code yX11_post cX11_post 6 (some .int) : Cond) ∈ lw_good := lg_at 4 138 rfl rfl
theorem mw_4_135 : (Cond.methodLink RL 158 yX11_post : Cond) ∈ lw_good := lg_at 4 135 rfl rfl
theorem mw_4_136 : (Cond.instanceMethod yX11_post : Cond) ∈ lw_good := lg_at 4 136 rfl rfl
theorem mw_4_137 : (Cond.selects RX11 yX11_post yX11_post : Cond) ∈ lw_good := lg_at 4 137 rfl rfl
theorem mw_7_0 : (Cond.code yX12_post cX12_post 6 (some .int) : Cond) ∈ lw_good := lg_at 7 0 rfl rfl
theorem mw_6_237 : (Cond.methodLink RL 161 yX12_post : Cond) ∈ lw_good := lg_at 6 237 rfl rfl
theorem mw_6_238 : (Cond.instanceMethod yX12_post : Cond) ∈ lw_good := lg_at 6 238 rfl rfl
theorem mw_6_239 : (Cond.selects RX12 yX12_post yX12_post : Cond) ∈ lw_good := lg_at 6 239 rfl rfl
theorem mw_4_146 : (Cond.code yX11_fake cX11_fake 4 (some .int) : Cond) ∈ lw_good := lg_at 4 146 rfl rfl
theorem mw_4_143 : (Cond.methodLink RL 162 yX11_fake : Cond) ∈ lw_good := lg_at 4 143 rfl rfl
theorem mw_4_144 : (Cond.instanceMethod yX11_fake : Cond) ∈ lw_good := lg_at 4 144 rfl rfl
theorem mw_4_145 : (Cond.selects RX11 yX11_fake yX11_fake : Cond) ∈ lw_good := lg_at 4 145 rfl rfl
theorem mw_7_4 : (Cond.code yX12_fake cX12_fake 4 (some .int) : Cond) ∈ lw_good := lg_at 7 4 rfl rfl
theorem mw_7_1 : (Cond.methodLink RL 165 yX12_fake : Cond) ∈ lw_good := lg_at 7 1 rfl rfl
theorem mw_7_2 : (Cond.instanceMethod yX12_fake : Cond) ∈ lw_good := lg_at 7 2 rfl rfl
theorem mw_7_3 : (Cond.selects RX12 yX12_fake yX12_fake : Cond) ∈ lw_good := lg_at 7 3 rfl rfl
theorem mw_4_150 : (Cond.code yX11_gain cX11_gain 2 (some .int) : Cond) ∈ lw_good := lg_at 4 150 rfl rfl
theorem mw_4_147 : (Cond.methodLink RL 166 yX11_gain : Cond) ∈ lw_good := lg_at 4 147 rfl rfl
theorem mw_4_148 : (Cond.instanceMethod yX11_gain : Cond) ∈ lw_good := lg_at 4 148 rfl rfl
theorem mw_4_149 : (Cond.selects RX11 yX11_gain yX11_gain : Cond) ∈ lw_good := lg_at 4 149 rfl rfl
theorem mw_7_8 : (Cond.code yX12_gain cX12_gain 4 (some .int) : Cond) ∈ lw_good := lg_at 7 8 rfl rfl
theorem mw_7_5 : (Cond.methodLink RL 169 yX12_gain : Cond) ∈ lw_good := lg_at 7 5 rfl rfl
theorem mw_7_6 : (Cond.instanceMethod yX12_gain : Cond) ∈ lw_good := lg_at 7 6 rfl rfl
theorem mw_7_7 : (Cond.selects RX12 yX12_gain yX12_gain : Cond) ∈ lw_good := lg_at 7 7 rfl rfl
theorem mw_4_158 : (Cond.code yX11_had cX11_had 4 (some .int) : Cond) ∈ lw_good := lg_at 4 158 rfl rfl
theorem mw_4_155 : (Cond.methodLink RL 170 yX11_had : Cond) ∈ lw_good := lg_at 4 155 rfl rfl
theorem mw_4_156 : (Cond.instanceMethod yX11_had : Cond) ∈ lw_good := lg_at 4 156 rfl rfl
theorem mw_4_157 : (Cond.selects RX11 yX11_had yX11_had : Cond) ∈ lw_good := lg_at 4 157 rfl rfl
theorem mw_7_16 : (Cond.code yX12_had cX12_had 4 (some .int) : Cond) ∈ lw_good := lg_at 7 16 rfl rfl
theorem mw_7_13 : (Cond.methodLink RL 173 yX12_had : Cond) ∈ lw_good := lg_at 7 13 rfl rfl
theorem mw_7_14 : (Cond.instanceMethod yX12_had : Cond) ∈ lw_good := lg_at 7 14 rfl rfl
theorem mw_7_15 : (Cond.selects RX12 yX12_had yX12_had : Cond) ∈ lw_good := lg_at 7 15 rfl rfl
