/-! DECODED: the law -/
theorem fW_law_617 : decode (m_cc M_W_law) 617 = .ok (.invokevirtual 80, 3) := by decide +kernel
theorem fW_law_620 : decode (m_cc M_W_law) 620 = .ok (.iload 5, 2) := by decide +kernel
theorem fW_law_622 : decode (m_cc M_W_law) 622 = .ok (.if_icmp .eq 5, 3) := by decide +kernel
theorem fW_law_625 : decode (m_cc M_W_law) 625 = .ok (.iconst 0, 1) := by decide +kernel
theorem fW_law_626 : decode (m_cc M_W_law) 626 = .ok (.ireturn, 1) := by decide +kernel
theorem fW_law_627 : decode (m_cc M_W_law) 627 = .ok (.iload 5, 2) := by decide +kernel
theorem fW_law_629 : decode (m_cc M_W_law) 629 = .ok (.ifCond .ne 22, 3) := by decide +kernel
theorem fW_law_632 : decode (m_cc M_W_law) 632 = .ok (.aload_n 3, 1) := by decide +kernel
theorem fW_law_633 : decode (m_cc M_W_law) 633 = .ok (.iconst 0, 1) := by decide +kernel
theorem fW_law_634 : decode (m_cc M_W_law) 634 = .ok (.laload, 1) := by decide +kernel
theorem fW_law_635 : decode (m_cc M_W_law) 635 = .ok (.iload 6, 2) := by decide +kernel
theorem fW_law_637 : decode (m_cc M_W_law) 637 = .ok (.ifCond .eq 7, 3) := by decide +kernel
theorem fW_law_640 : decode (m_cc M_W_law) 640 = .ok (.lconst 1, 1) := by decide +kernel
theorem fW_law_641 : decode (m_cc M_W_law) 641 = .ok (.goto 4, 3) := by decide +kernel
theorem fW_law_644 : decode (m_cc M_W_law) 644 = .ok (.lconst 0, 1) := by decide +kernel
theorem fW_law_645 : decode (m_cc M_W_law) 645 = .ok (.lcmp, 1) := by decide +kernel
theorem fW_law_646 : decode (m_cc M_W_law) 646 = .ok (.ifCond .eq 5, 3) := by decide +kernel
theorem fW_law_649 : decode (m_cc M_W_law) 649 = .ok (.iconst 0, 1) := by decide +kernel
theorem fW_law_650 : decode (m_cc M_W_law) 650 = .ok (.ireturn, 1) := by decide +kernel
theorem fW_law_651 : decode (m_cc M_W_law) 651 = .ok (.goto 531, 3) := by decide +kernel
theorem fW_law_654 : decode (m_cc M_W_law) 654 = .ok (.aload_n 1, 1) := by decide +kernel
theorem fW_law_655 : decode (m_cc M_W_law) 655 = .ok (.aload_n 0, 1) := by decide +kernel
theorem fW_law_656 : decode (m_cc M_W_law) 656 = .ok (.iload 4, 2) := by decide +kernel
theorem fW_law_658 : decode (m_cc M_W_law) 658 = .ok (.iconst 1, 1) := by decide +kernel
theorem fW_law_659 : decode (m_cc M_W_law) 659 = .ok (.iadd, 1) := by decide +kernel
theorem fW_law_660 : decode (m_cc M_W_law) 660 = .ok (.iaload, 1) := by decide +kernel
theorem fW_law_661 : decode (m_cc M_W_law) 661 = .ok (.aload_n 3, 1) := by decide +kernel
theorem fW_law_662 : decode (m_cc M_W_law) 662 = .ok (.invokestatic 105, 3) := by decide +kernel
theorem fW_law_665 : decode (m_cc M_W_law) 665 = .ok (.istore 5, 2) := by decide +kernel
theorem fW_law_667 : decode (m_cc M_W_law) 667 = .ok (.aload_n 2, 1) := by decide +kernel
theorem fW_law_668 : decode (m_cc M_W_law) 668 = .ok (.aload_n 0, 1) := by decide +kernel
theorem fW_law_669 : decode (m_cc M_W_law) 669 = .ok (.iload 4, 2) := by decide +kernel
theorem fW_law_671 : decode (m_cc M_W_law) 671 = .ok (.iconst 1, 1) := by decide +kernel
theorem fW_law_672 : decode (m_cc M_W_law) 672 = .ok (.iadd, 1) := by decide +kernel
theorem fW_law_673 : decode (m_cc M_W_law) 673 = .ok (.iaload, 1) := by decide +kernel
theorem fW_law_674 : decode (m_cc M_W_law) 674 = .ok (.invokevirtual 107, 3) := by decide +kernel
theorem fW_law_677 : decode (m_cc M_W_law) 677 = .ok (.istore 6, 2) := by decide +kernel
theorem fW_law_679 : decode (m_cc M_W_law) 679 = .ok (.aload_n 2, 1) := by decide +kernel
theorem fW_law_680 : decode (m_cc M_W_law) 680 = .ok (.invokevirtual 80, 3) := by decide +kernel
theorem fW_law_683 : decode (m_cc M_W_law) 683 = .ok (.iload 5, 2) := by decide +kernel
theorem fW_law_685 : decode (m_cc M_W_law) 685 = .ok (.if_icmp .eq 5, 3) := by decide +kernel
theorem fW_law_688 : decode (m_cc M_W_law) 688 = .ok (.iconst 0, 1) := by decide +kernel
theorem fW_law_689 : decode (m_cc M_W_law) 689 = .ok (.ireturn, 1) := by decide +kernel
theorem fW_law_690 : decode (m_cc M_W_law) 690 = .ok (.iload 5, 2) := by decide +kernel
theorem fW_law_692 : decode (m_cc M_W_law) 692 = .ok (.ifCond .ne 15, 3) := by decide +kernel
theorem fW_law_695 : decode (m_cc M_W_law) 695 = .ok (.aload_n 3, 1) := by decide +kernel
theorem fW_law_696 : decode (m_cc M_W_law) 696 = .ok (.iconst 0, 1) := by decide +kernel
theorem fW_law_697 : decode (m_cc M_W_law) 697 = .ok (.laload, 1) := by decide +kernel
theorem fW_law_698 : decode (m_cc M_W_law) 698 = .ok (.iload 6, 2) := by decide +kernel
theorem fW_law_700 : decode (m_cc M_W_law) 700 = .ok (.i2l, 1) := by decide +kernel
theorem fW_law_701 : decode (m_cc M_W_law) 701 = .ok (.lcmp, 1) := by decide +kernel
theorem fW_law_702 : decode (m_cc M_W_law) 702 = .ok (.ifCond .eq 5, 3) := by decide +kernel
theorem fW_law_705 : decode (m_cc M_W_law) 705 = .ok (.iconst 0, 1) := by decide +kernel
theorem fW_law_706 : decode (m_cc M_W_law) 706 = .ok (.ireturn, 1) := by decide +kernel
theorem fW_law_707 : decode (m_cc M_W_law) 707 = .ok (.goto 475, 3) := by decide +kernel
theorem fW_law_710 : decode (m_cc M_W_law) 710 = .ok (.aload_n 1, 1) := by decide +kernel
theorem fW_law_711 : decode (m_cc M_W_law) 711 = .ok (.aload_n 0, 1) := by decide +kernel
theorem fW_law_712 : decode (m_cc M_W_law) 712 = .ok (.iload 4, 2) := by decide +kernel
theorem fW_law_714 : decode (m_cc M_W_law) 714 = .ok (.iconst 1, 1) := by decide +kernel
theorem fW_law_715 : decode (m_cc M_W_law) 715 = .ok (.iadd, 1) := by decide +kernel
theorem fW_law_716 : decode (m_cc M_W_law) 716 = .ok (.iaload, 1) := by decide +kernel
theorem fW_law_717 : decode (m_cc M_W_law) 717 = .ok (.aload_n 0, 1) := by decide +kernel
theorem fW_law_718 : decode (m_cc M_W_law) 718 = .ok (.iload 4, 2) := by decide +kernel
theorem fW_law_720 : decode (m_cc M_W_law) 720 = .ok (.iconst 2, 1) := by decide +kernel
theorem fW_law_721 : decode (m_cc M_W_law) 721 = .ok (.iadd, 1) := by decide +kernel
theorem fW_law_722 : decode (m_cc M_W_law) 722 = .ok (.iaload, 1) := by decide +kernel
theorem fW_law_723 : decode (m_cc M_W_law) 723 = .ok (.invokestatic 108, 3) := by decide +kernel
theorem fW_law_726 : decode (m_cc M_W_law) 726 = .ok (.istore 5, 2) := by decide +kernel
theorem fW_law_728 : decode (m_cc M_W_law) 728 = .ok (.aload_n 2, 1) := by decide +kernel
theorem fW_law_729 : decode (m_cc M_W_law) 729 = .ok (.aload_n 0, 1) := by decide +kernel
theorem fW_law_730 : decode (m_cc M_W_law) 730 = .ok (.iload 4, 2) := by decide +kernel
theorem fW_law_732 : decode (m_cc M_W_law) 732 = .ok (.iconst 1, 1) := by decide +kernel
theorem fW_law_733 : decode (m_cc M_W_law) 733 = .ok (.iadd, 1) := by decide +kernel
theorem fW_law_734 : decode (m_cc M_W_law) 734 = .ok (.iaload, 1) := by decide +kernel
theorem fW_law_735 : decode (m_cc M_W_law) 735 = .ok (.aload_n 0, 1) := by decide +kernel
theorem fW_law_736 : decode (m_cc M_W_law) 736 = .ok (.iload 4, 2) := by decide +kernel
theorem fW_law_738 : decode (m_cc M_W_law) 738 = .ok (.iconst 2, 1) := by decide +kernel
theorem fW_law_739 : decode (m_cc M_W_law) 739 = .ok (.iadd, 1) := by decide +kernel
theorem fW_law_740 : decode (m_cc M_W_law) 740 = .ok (.iaload, 1) := by decide +kernel
theorem fW_law_741 : decode (m_cc M_W_law) 741 = .ok (.invokevirtual 111, 3) := by decide +kernel
theorem fW_law_744 : decode (m_cc M_W_law) 744 = .ok (.aload_n 2, 1) := by decide +kernel
theorem fW_law_745 : decode (m_cc M_W_law) 745 = .ok (.invokevirtual 80, 3) := by decide +kernel
theorem fW_law_748 : decode (m_cc M_W_law) 748 = .ok (.iload 5, 2) := by decide +kernel
theorem fW_law_750 : decode (m_cc M_W_law) 750 = .ok (.if_icmp .eq 5, 3) := by decide +kernel
theorem fW_law_753 : decode (m_cc M_W_law) 753 = .ok (.iconst 0, 1) := by decide +kernel
theorem fW_law_754 : decode (m_cc M_W_law) 754 = .ok (.ireturn, 1) := by decide +kernel
theorem fW_law_755 : decode (m_cc M_W_law) 755 = .ok (.goto 427, 3) := by decide +kernel
theorem fW_law_758 : decode (m_cc M_W_law) 758 = .ok (.aload_n 1, 1) := by decide +kernel
theorem fW_law_759 : decode (m_cc M_W_law) 759 = .ok (.aload_n 0, 1) := by decide +kernel
theorem fW_law_760 : decode (m_cc M_W_law) 760 = .ok (.iload 4, 2) := by decide +kernel
theorem fW_law_762 : decode (m_cc M_W_law) 762 = .ok (.iconst 1, 1) := by decide +kernel
theorem fW_law_763 : decode (m_cc M_W_law) 763 = .ok (.iadd, 1) := by decide +kernel
theorem fW_law_764 : decode (m_cc M_W_law) 764 = .ok (.iaload, 1) := by decide +kernel
theorem fW_law_765 : decode (m_cc M_W_law) 765 = .ok (.aload_n 0, 1) := by decide +kernel
theorem fW_law_766 : decode (m_cc M_W_law) 766 = .ok (.iload 4, 2) := by decide +kernel
theorem fW_law_768 : decode (m_cc M_W_law) 768 = .ok (.iconst 2, 1) := by decide +kernel
theorem fW_law_769 : decode (m_cc M_W_law) 769 = .ok (.iadd, 1) := by decide +kernel
theorem fW_law_770 : decode (m_cc M_W_law) 770 = .ok (.iaload, 1) := by decide +kernel
theorem fW_law_771 : decode (m_cc M_W_law) 771 = .ok (.aload_n 0, 1) := by decide +kernel
theorem fW_law_772 : decode (m_cc M_W_law) 772 = .ok (.iload 4, 2) := by decide +kernel
theorem fW_law_774 : decode (m_cc M_W_law) 774 = .ok (.iconst 3, 1) := by decide +kernel
theorem fW_law_775 : decode (m_cc M_W_law) 775 = .ok (.iadd, 1) := by decide +kernel
theorem fW_law_776 : decode (m_cc M_W_law) 776 = .ok (.iaload, 1) := by decide +kernel
theorem fW_law_777 : decode (m_cc M_W_law) 777 = .ok (.ifCond .eq 7, 3) := by decide +kernel
theorem fW_law_780 : decode (m_cc M_W_law) 780 = .ok (.iconst 1, 1) := by decide +kernel
theorem fW_law_781 : decode (m_cc M_W_law) 781 = .ok (.goto 4, 3) := by decide +kernel
theorem fW_law_784 : decode (m_cc M_W_law) 784 = .ok (.iconst 0, 1) := by decide +kernel
theorem fW_law_785 : decode (m_cc M_W_law) 785 = .ok (.aload_n 3, 1) := by decide +kernel
theorem fW_law_786 : decode (m_cc M_W_law) 786 = .ok (.invokestatic 112, 3) := by decide +kernel
theorem fW_law_789 : decode (m_cc M_W_law) 789 = .ok (.istore 5, 2) := by decide +kernel
theorem fW_law_791 : decode (m_cc M_W_law) 791 = .ok (.aload_n 2, 1) := by decide +kernel
theorem fW_law_792 : decode (m_cc M_W_law) 792 = .ok (.aload_n 0, 1) := by decide +kernel
theorem fW_law_793 : decode (m_cc M_W_law) 793 = .ok (.iload 4, 2) := by decide +kernel
theorem fW_law_795 : decode (m_cc M_W_law) 795 = .ok (.iconst 1, 1) := by decide +kernel
theorem fW_law_796 : decode (m_cc M_W_law) 796 = .ok (.iadd, 1) := by decide +kernel
theorem fW_law_797 : decode (m_cc M_W_law) 797 = .ok (.iaload, 1) := by decide +kernel
theorem fW_law_798 : decode (m_cc M_W_law) 798 = .ok (.aload_n 0, 1) := by decide +kernel
theorem fW_law_799 : decode (m_cc M_W_law) 799 = .ok (.iload 4, 2) := by decide +kernel
theorem fW_law_801 : decode (m_cc M_W_law) 801 = .ok (.iconst 2, 1) := by decide +kernel
theorem fW_law_802 : decode (m_cc M_W_law) 802 = .ok (.iadd, 1) := by decide +kernel
theorem fW_law_803 : decode (m_cc M_W_law) 803 = .ok (.iaload, 1) := by decide +kernel
theorem fW_law_804 : decode (m_cc M_W_law) 804 = .ok (.aload_n 0, 1) := by decide +kernel
