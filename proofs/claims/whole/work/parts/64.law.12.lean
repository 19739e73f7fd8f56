theorem d_law_631 : decode b_law 631 = .ok (.aload_n 0, 1) := by decide +kernel
theorem d_law_632 : decode b_law 632 = .ok (.iload 4, 2) := by decide +kernel
theorem d_law_634 : decode b_law 634 = .ok (.iconst 1, 1) := by decide +kernel
theorem d_law_635 : decode b_law 635 = .ok (.iadd, 1) := by decide +kernel
theorem d_law_636 : decode b_law 636 = .ok (.iaload, 1) := by decide +kernel
theorem d_law_637 : decode b_law 637 = .ok (.aload_n 3, 1) := by decide +kernel
theorem d_law_638 : decode b_law 638 = .ok (.invokestatic 91, 3) := by decide +kernel
theorem d_law_641 : decode b_law 641 = .ok (.istore 5, 2) := by decide +kernel
theorem d_law_643 : decode b_law 643 = .ok (.aload_n 2, 1) := by decide +kernel
theorem d_law_644 : decode b_law 644 = .ok (.aload_n 0, 1) := by decide +kernel
theorem d_law_645 : decode b_law 645 = .ok (.iload 4, 2) := by decide +kernel
theorem d_law_647 : decode b_law 647 = .ok (.iconst 1, 1) := by decide +kernel
theorem d_law_648 : decode b_law 648 = .ok (.iadd, 1) := by decide +kernel
theorem d_law_649 : decode b_law 649 = .ok (.iaload, 1) := by decide +kernel
theorem d_law_650 : decode b_law 650 = .ok (.invokevirtual 93, 3) := by decide +kernel
theorem d_law_653 : decode b_law 653 = .ok (.istore 6, 2) := by decide +kernel
theorem d_law_655 : decode b_law 655 = .ok (.aload_n 2, 1) := by decide +kernel
theorem d_law_656 : decode b_law 656 = .ok (.invokevirtual 60, 3) := by decide +kernel
theorem d_law_659 : decode b_law 659 = .ok (.iload 5, 2) := by decide +kernel
theorem d_law_661 : decode b_law 661 = .ok (.if_icmp .eq 5, 3) := by decide +kernel
theorem d_law_664 : decode b_law 664 = .ok (.iconst 0, 1) := by decide +kernel
theorem d_law_665 : decode b_law 665 = .ok (.ireturn, 1) := by decide +kernel
theorem d_law_666 : decode b_law 666 = .ok (.iload 5, 2) := by decide +kernel
theorem d_law_668 : decode b_law 668 = .ok (.ifCond .ne 15, 3) := by decide +kernel
theorem d_law_671 : decode b_law 671 = .ok (.aload_n 3, 1) := by decide +kernel
theorem d_law_672 : decode b_law 672 = .ok (.iconst 0, 1) := by decide +kernel
theorem d_law_673 : decode b_law 673 = .ok (.laload, 1) := by decide +kernel
theorem d_law_674 : decode b_law 674 = .ok (.iload 6, 2) := by decide +kernel
theorem d_law_676 : decode b_law 676 = .ok (.i2l, 1) := by decide +kernel
theorem d_law_677 : decode b_law 677 = .ok (.lcmp, 1) := by decide +kernel
theorem d_law_678 : decode b_law 678 = .ok (.ifCond .eq 5, 3) := by decide +kernel
theorem d_law_681 : decode b_law 681 = .ok (.iconst 0, 1) := by decide +kernel
theorem d_law_682 : decode b_law 682 = .ok (.ireturn, 1) := by decide +kernel
theorem d_law_683 : decode b_law 683 = .ok (.goto 208, 3) := by decide +kernel
theorem d_law_686 : decode b_law 686 = .ok (.aload_n 1, 1) := by decide +kernel
theorem d_law_687 : decode b_law 687 = .ok (.aload_n 0, 1) := by decide +kernel
theorem d_law_688 : decode b_law 688 = .ok (.iload 4, 2) := by decide +kernel
theorem d_law_690 : decode b_law 690 = .ok (.iconst 1, 1) := by decide +kernel
theorem d_law_691 : decode b_law 691 = .ok (.iadd, 1) := by decide +kernel
theorem d_law_692 : decode b_law 692 = .ok (.iaload, 1) := by decide +kernel
theorem d_law_693 : decode b_law 693 = .ok (.aload_n 3, 1) := by decide +kernel
theorem d_law_694 : decode b_law 694 = .ok (.invokestatic 94, 3) := by decide +kernel
theorem d_law_697 : decode b_law 697 = .ok (.istore 5, 2) := by decide +kernel
theorem d_law_699 : decode b_law 699 = .ok (.aload_n 2, 1) := by decide +kernel
theorem d_law_700 : decode b_law 700 = .ok (.aload_n 0, 1) := by decide +kernel
theorem d_law_701 : decode b_law 701 = .ok (.iload 4, 2) := by decide +kernel
theorem d_law_703 : decode b_law 703 = .ok (.iconst 1, 1) := by decide +kernel
theorem d_law_704 : decode b_law 704 = .ok (.iadd, 1) := by decide +kernel
theorem d_law_705 : decode b_law 705 = .ok (.iaload, 1) := by decide +kernel
theorem d_law_706 : decode b_law 706 = .ok (.invokevirtual 96, 3) := by decide +kernel
theorem d_law_709 : decode b_law 709 = .ok (.istore 6, 2) := by decide +kernel
theorem d_law_711 : decode b_law 711 = .ok (.aload_n 2, 1) := by decide +kernel
theorem d_law_712 : decode b_law 712 = .ok (.invokevirtual 60, 3) := by decide +kernel
theorem d_law_715 : decode b_law 715 = .ok (.iload 5, 2) := by decide +kernel
theorem d_law_717 : decode b_law 717 = .ok (.if_icmp .eq 5, 3) := by decide +kernel
theorem d_law_720 : decode b_law 720 = .ok (.iconst 0, 1) := by decide +kernel
theorem d_law_721 : decode b_law 721 = .ok (.ireturn, 1) := by decide +kernel
theorem d_law_722 : decode b_law 722 = .ok (.iload 5, 2) := by decide +kernel
theorem d_law_724 : decode b_law 724 = .ok (.ifCond .ne 15, 3) := by decide +kernel
theorem d_law_727 : decode b_law 727 = .ok (.aload_n 3, 1) := by decide +kernel
theorem d_law_728 : decode b_law 728 = .ok (.iconst 0, 1) := by decide +kernel
theorem d_law_729 : decode b_law 729 = .ok (.laload, 1) := by decide +kernel
theorem d_law_730 : decode b_law 730 = .ok (.iload 6, 2) := by decide +kernel
theorem d_law_732 : decode b_law 732 = .ok (.i2l, 1) := by decide +kernel
theorem d_law_733 : decode b_law 733 = .ok (.lcmp, 1) := by decide +kernel
theorem d_law_734 : decode b_law 734 = .ok (.ifCond .eq 5, 3) := by decide +kernel
theorem d_law_737 : decode b_law 737 = .ok (.iconst 0, 1) := by decide +kernel
theorem d_law_738 : decode b_law 738 = .ok (.ireturn, 1) := by decide +kernel
theorem d_law_739 : decode b_law 739 = .ok (.goto 152, 3) := by decide +kernel
theorem d_law_742 : decode b_law 742 = .ok (.aload_n 1, 1) := by decide +kernel
theorem d_law_743 : decode b_law 743 = .ok (.aload_n 0, 1) := by decide +kernel
theorem d_law_744 : decode b_law 744 = .ok (.iload 4, 2) := by decide +kernel
theorem d_law_746 : decode b_law 746 = .ok (.iconst 1, 1) := by decide +kernel
theorem d_law_747 : decode b_law 747 = .ok (.iadd, 1) := by decide +kernel
theorem d_law_748 : decode b_law 748 = .ok (.iaload, 1) := by decide +kernel
theorem d_law_749 : decode b_law 749 = .ok (.aload_n 3, 1) := by decide +kernel
theorem d_law_750 : decode b_law 750 = .ok (.invokestatic 97, 3) := by decide +kernel
theorem d_law_753 : decode b_law 753 = .ok (.istore 5, 2) := by decide +kernel
theorem d_law_755 : decode b_law 755 = .ok (.aload_n 2, 1) := by decide +kernel
theorem d_law_756 : decode b_law 756 = .ok (.aload_n 0, 1) := by decide +kernel
theorem d_law_757 : decode b_law 757 = .ok (.iload 4, 2) := by decide +kernel
theorem d_law_759 : decode b_law 759 = .ok (.iconst 1, 1) := by decide +kernel
theorem d_law_760 : decode b_law 760 = .ok (.iadd, 1) := by decide +kernel
theorem d_law_761 : decode b_law 761 = .ok (.iaload, 1) := by decide +kernel
theorem d_law_762 : decode b_law 762 = .ok (.invokevirtual 99, 3) := by decide +kernel
theorem d_law_765 : decode b_law 765 = .ok (.istore 6, 2) := by decide +kernel
theorem d_law_767 : decode b_law 767 = .ok (.aload_n 2, 1) := by decide +kernel
theorem d_law_768 : decode b_law 768 = .ok (.invokevirtual 60, 3) := by decide +kernel
theorem d_law_771 : decode b_law 771 = .ok (.iload 5, 2) := by decide +kernel
theorem d_law_773 : decode b_law 773 = .ok (.if_icmp .eq 5, 3) := by decide +kernel
theorem d_law_776 : decode b_law 776 = .ok (.iconst 0, 1) := by decide +kernel
theorem d_law_777 : decode b_law 777 = .ok (.ireturn, 1) := by decide +kernel
theorem d_law_778 : decode b_law 778 = .ok (.iload 5, 2) := by decide +kernel
theorem d_law_780 : decode b_law 780 = .ok (.ifCond .ne 15, 3) := by decide +kernel
theorem d_law_783 : decode b_law 783 = .ok (.aload_n 3, 1) := by decide +kernel
theorem d_law_784 : decode b_law 784 = .ok (.iconst 0, 1) := by decide +kernel
theorem d_law_785 : decode b_law 785 = .ok (.laload, 1) := by decide +kernel
theorem d_law_786 : decode b_law 786 = .ok (.iload 6, 2) := by decide +kernel
theorem d_law_788 : decode b_law 788 = .ok (.i2l, 1) := by decide +kernel
theorem d_law_789 : decode b_law 789 = .ok (.lcmp, 1) := by decide +kernel
theorem d_law_790 : decode b_law 790 = .ok (.ifCond .eq 5, 3) := by decide +kernel
theorem d_law_793 : decode b_law 793 = .ok (.iconst 0, 1) := by decide +kernel
theorem d_law_794 : decode b_law 794 = .ok (.ireturn, 1) := by decide +kernel
theorem d_law_795 : decode b_law 795 = .ok (.goto 96, 3) := by decide +kernel
theorem d_law_798 : decode b_law 798 = .ok (.aload_n 1, 1) := by decide +kernel
theorem d_law_799 : decode b_law 799 = .ok (.aload_n 0, 1) := by decide +kernel
theorem d_law_800 : decode b_law 800 = .ok (.iload 4, 2) := by decide +kernel
theorem d_law_802 : decode b_law 802 = .ok (.iconst 1, 1) := by decide +kernel
theorem d_law_803 : decode b_law 803 = .ok (.iadd, 1) := by decide +kernel
theorem d_law_804 : decode b_law 804 = .ok (.iaload, 1) := by decide +kernel
theorem d_law_805 : decode b_law 805 = .ok (.aload_n 0, 1) := by decide +kernel
theorem d_law_806 : decode b_law 806 = .ok (.iload 4, 2) := by decide +kernel
theorem d_law_808 : decode b_law 808 = .ok (.iconst 2, 1) := by decide +kernel
theorem d_law_809 : decode b_law 809 = .ok (.iadd, 1) := by decide +kernel
theorem d_law_810 : decode b_law 810 = .ok (.iaload, 1) := by decide +kernel
theorem d_law_811 : decode b_law 811 = .ok (.aload_n 3, 1) := by decide +kernel
theorem d_law_812 : decode b_law 812 = .ok (.invokestatic 100, 3) := by decide +kernel
theorem d_law_815 : decode b_law 815 = .ok (.istore 5, 2) := by decide +kernel
theorem d_law_817 : decode b_law 817 = .ok (.aload_n 2, 1) := by decide +kernel
theorem d_law_818 : decode b_law 818 = .ok (.aload_n 0, 1) := by decide +kernel
theorem d_law_819 : decode b_law 819 = .ok (.iload 4, 2) := by decide +kernel
theorem d_law_821 : decode b_law 821 = .ok (.iconst 1, 1) := by decide +kernel
theorem d_law_822 : decode b_law 822 = .ok (.iadd, 1) := by decide +kernel
theorem d_law_823 : decode b_law 823 = .ok (.iaload, 1) := by decide +kernel
theorem d_law_824 : decode b_law 824 = .ok (.aload_n 0, 1) := by decide +kernel
theorem d_law_825 : decode b_law 825 = .ok (.iload 4, 2) := by decide +kernel
theorem d_law_827 : decode b_law 827 = .ok (.iconst 2, 1) := by decide +kernel
theorem d_law_828 : decode b_law 828 = .ok (.iadd, 1) := by decide +kernel
theorem d_law_829 : decode b_law 829 = .ok (.iaload, 1) := by decide +kernel
theorem d_law_830 : decode b_law 830 = .ok (.invokevirtual 103, 3) := by decide +kernel
theorem d_law_833 : decode b_law 833 = .ok (.istore 6, 2) := by decide +kernel
theorem d_law_835 : decode b_law 835 = .ok (.aload_n 2, 1) := by decide +kernel
theorem d_law_836 : decode b_law 836 = .ok (.invokevirtual 60, 3) := by decide +kernel
theorem d_law_839 : decode b_law 839 = .ok (.iload 5, 2) := by decide +kernel
theorem d_law_841 : decode b_law 841 = .ok (.if_icmp .eq 5, 3) := by decide +kernel
theorem d_law_844 : decode b_law 844 = .ok (.iconst 0, 1) := by decide +kernel
theorem d_law_845 : decode b_law 845 = .ok (.ireturn, 1) := by decide +kernel
theorem d_law_846 : decode b_law 846 = .ok (.iload 5, 2) := by decide +kernel
theorem d_law_848 : decode b_law 848 = .ok (.ifCond .ne 15, 3) := by decide +kernel
theorem d_law_851 : decode b_law 851 = .ok (.aload_n 3, 1) := by decide +kernel
theorem d_law_852 : decode b_law 852 = .ok (.iconst 0, 1) := by decide +kernel
theorem d_law_853 : decode b_law 853 = .ok (.laload, 1) := by decide +kernel
theorem d_law_854 : decode b_law 854 = .ok (.iload 6, 2) := by decide +kernel
theorem d_law_856 : decode b_law 856 = .ok (.i2l, 1) := by decide +kernel
theorem d_law_857 : decode b_law 857 = .ok (.lcmp, 1) := by decide +kernel
theorem d_law_858 : decode b_law 858 = .ok (.ifCond .eq 5, 3) := by decide +kernel
theorem d_law_861 : decode b_law 861 = .ok (.iconst 0, 1) := by decide +kernel
theorem d_law_862 : decode b_law 862 = .ok (.ireturn, 1) := by decide +kernel
theorem d_law_863 : decode b_law 863 = .ok (.goto 28, 3) := by decide +kernel
theorem d_law_866 : decode b_law 866 = .ok (.aload_n 1, 1) := by decide +kernel
theorem d_law_867 : decode b_law 867 = .ok (.aload_n 0, 1) := by decide +kernel
theorem d_law_868 : decode b_law 868 = .ok (.iload 4, 2) := by decide +kernel
theorem d_law_870 : decode b_law 870 = .ok (.iconst 1, 1) := by decide +kernel
theorem d_law_871 : decode b_law 871 = .ok (.iadd, 1) := by decide +kernel
theorem d_law_872 : decode b_law 872 = .ok (.iaload, 1) := by decide +kernel
theorem d_law_873 : decode b_law 873 = .ok (.invokevirtual 104, 3) := by decide +kernel
theorem d_law_876 : decode b_law 876 = .ok (.aload_n 2, 1) := by decide +kernel
theorem d_law_877 : decode b_law 877 = .ok (.aload_n 0, 1) := by decide +kernel
theorem d_law_878 : decode b_law 878 = .ok (.iload 4, 2) := by decide +kernel
theorem d_law_880 : decode b_law 880 = .ok (.iconst 1, 1) := by decide +kernel
theorem d_law_881 : decode b_law 881 = .ok (.iadd, 1) := by decide +kernel
theorem d_law_882 : decode b_law 882 = .ok (.iaload, 1) := by decide +kernel
theorem d_law_883 : decode b_law 883 = .ok (.invokevirtual 107, 3) := by decide +kernel
theorem d_law_886 : decode b_law 886 = .ok (.if_icmp .eq 5, 3) := by decide +kernel
theorem d_law_889 : decode b_law 889 = .ok (.iconst 0, 1) := by decide +kernel
theorem d_law_890 : decode b_law 890 = .ok (.ireturn, 1) := by decide +kernel
theorem d_law_891 : decode b_law 891 = .ok (.iinc 4 6, 3) := by decide +kernel
theorem d_law_894 : decode b_law 894 = .ok (.goto (-871), 3) := by decide +kernel
theorem d_law_897 : decode b_law 897 = .ok (.iconst 1, 1) := by decide +kernel
theorem d_law_898 : decode b_law 898 = .ok (.ireturn, 1) := by decide +kernel
