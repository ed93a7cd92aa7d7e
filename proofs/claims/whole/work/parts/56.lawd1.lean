/-! the law: its instructions -/
theorem d_Law_law_588 : decode code 588 = .ok (.iload 5, 2) := by decide +kernel
theorem d_Law_law_590 : decode code 590 = .ok (.iconst 2, 1) := by decide +kernel
theorem d_Law_law_591 : decode code 591 = .ok (.iadd, 1) := by decide +kernel
theorem d_Law_law_592 : decode code 592 = .ok (.iaload, 1) := by decide +kernel
theorem d_Law_law_593 : decode code 593 = .ok (.invokevirtual 184, 3) := by decide +kernel
theorem d_Law_law_596 : decode code 596 = .ok (.istore 7, 2) := by decide +kernel
theorem d_Law_law_598 : decode code 598 = .ok (.aload_n 2, 1) := by decide +kernel
theorem d_Law_law_599 : decode code 599 = .ok (.invokevirtual 163, 3) := by decide +kernel
theorem d_Law_law_602 : decode code 602 = .ok (.iload 6, 2) := by decide +kernel
theorem d_Law_law_604 : decode code 604 = .ok (.if_icmp .eq 5, 3) := by decide +kernel
theorem d_Law_law_607 : decode code 607 = .ok (.iconst 0, 1) := by decide +kernel
theorem d_Law_law_608 : decode code 608 = .ok (.ireturn, 1) := by decide +kernel
theorem d_Law_law_609 : decode code 609 = .ok (.iload 6, 2) := by decide +kernel
theorem d_Law_law_611 : decode code 611 = .ok (.ifCond .ne 15, 3) := by decide +kernel
theorem d_Law_law_614 : decode code 614 = .ok (.aload_n 3, 1) := by decide +kernel
theorem d_Law_law_615 : decode code 615 = .ok (.iconst 0, 1) := by decide +kernel
theorem d_Law_law_616 : decode code 616 = .ok (.laload, 1) := by decide +kernel
theorem d_Law_law_617 : decode code 617 = .ok (.iload 7, 2) := by decide +kernel
theorem d_Law_law_619 : decode code 619 = .ok (.i2l, 1) := by decide +kernel
theorem d_Law_law_620 : decode code 620 = .ok (.lcmp, 1) := by decide +kernel
theorem d_Law_law_621 : decode code 621 = .ok (.ifCond .eq 5, 3) := by decide +kernel
theorem d_Law_law_624 : decode code 624 = .ok (.iconst 0, 1) := by decide +kernel
theorem d_Law_law_625 : decode code 625 = .ok (.ireturn, 1) := by decide +kernel
theorem d_Law_law_626 : decode code 626 = .ok (.goto 2307, 3) := by decide +kernel
theorem d_Law_law_629 : decode code 629 = .ok (.aload_n 1, 1) := by decide +kernel
theorem d_Law_law_630 : decode code 630 = .ok (.aload_n 0, 1) := by decide +kernel
theorem d_Law_law_631 : decode code 631 = .ok (.iload 5, 2) := by decide +kernel
theorem d_Law_law_633 : decode code 633 = .ok (.iconst 1, 1) := by decide +kernel
theorem d_Law_law_634 : decode code 634 = .ok (.iadd, 1) := by decide +kernel
theorem d_Law_law_635 : decode code 635 = .ok (.iaload, 1) := by decide +kernel
theorem d_Law_law_636 : decode code 636 = .ok (.aload_n 3, 1) := by decide +kernel
theorem d_Law_law_637 : decode code 637 = .ok (.invokestatic 185, 3) := by decide +kernel
theorem d_Law_law_640 : decode code 640 = .ok (.istore 6, 2) := by decide +kernel
theorem d_Law_law_642 : decode code 642 = .ok (.aload_n 2, 1) := by decide +kernel
theorem d_Law_law_643 : decode code 643 = .ok (.aload_n 0, 1) := by decide +kernel
theorem d_Law_law_644 : decode code 644 = .ok (.iload 5, 2) := by decide +kernel
theorem d_Law_law_646 : decode code 646 = .ok (.iconst 1, 1) := by decide +kernel
theorem d_Law_law_647 : decode code 647 = .ok (.iadd, 1) := by decide +kernel
theorem d_Law_law_648 : decode code 648 = .ok (.iaload, 1) := by decide +kernel
theorem d_Law_law_649 : decode code 649 = .ok (.invokevirtual 187, 3) := by decide +kernel
theorem d_Law_law_652 : decode code 652 = .ok (.istore 7, 2) := by decide +kernel
theorem d_Law_law_654 : decode code 654 = .ok (.aload_n 2, 1) := by decide +kernel
theorem d_Law_law_655 : decode code 655 = .ok (.invokevirtual 163, 3) := by decide +kernel
theorem d_Law_law_658 : decode code 658 = .ok (.iload 6, 2) := by decide +kernel
theorem d_Law_law_660 : decode code 660 = .ok (.if_icmp .eq 5, 3) := by decide +kernel
theorem d_Law_law_663 : decode code 663 = .ok (.iconst 0, 1) := by decide +kernel
theorem d_Law_law_664 : decode code 664 = .ok (.ireturn, 1) := by decide +kernel
theorem d_Law_law_665 : decode code 665 = .ok (.iload 6, 2) := by decide +kernel
theorem d_Law_law_667 : decode code 667 = .ok (.ifCond .ne 15, 3) := by decide +kernel
theorem d_Law_law_670 : decode code 670 = .ok (.aload_n 3, 1) := by decide +kernel
theorem d_Law_law_671 : decode code 671 = .ok (.iconst 0, 1) := by decide +kernel
theorem d_Law_law_672 : decode code 672 = .ok (.laload, 1) := by decide +kernel
theorem d_Law_law_673 : decode code 673 = .ok (.iload 7, 2) := by decide +kernel
theorem d_Law_law_675 : decode code 675 = .ok (.i2l, 1) := by decide +kernel
theorem d_Law_law_676 : decode code 676 = .ok (.lcmp, 1) := by decide +kernel
theorem d_Law_law_677 : decode code 677 = .ok (.ifCond .eq 5, 3) := by decide +kernel
theorem d_Law_law_680 : decode code 680 = .ok (.iconst 0, 1) := by decide +kernel
theorem d_Law_law_681 : decode code 681 = .ok (.ireturn, 1) := by decide +kernel
theorem d_Law_law_682 : decode code 682 = .ok (.goto 2251, 3) := by decide +kernel
theorem d_Law_law_685 : decode code 685 = .ok (.aload_n 1, 1) := by decide +kernel
theorem d_Law_law_686 : decode code 686 = .ok (.aload_n 3, 1) := by decide +kernel
theorem d_Law_law_687 : decode code 687 = .ok (.invokestatic 188, 3) := by decide +kernel
theorem d_Law_law_690 : decode code 690 = .ok (.istore 6, 2) := by decide +kernel
theorem d_Law_law_692 : decode code 692 = .ok (.aload_n 2, 1) := by decide +kernel
theorem d_Law_law_693 : decode code 693 = .ok (.invokevirtual 191, 3) := by decide +kernel
theorem d_Law_law_696 : decode code 696 = .ok (.istore 7, 2) := by decide +kernel
theorem d_Law_law_698 : decode code 698 = .ok (.aload_n 2, 1) := by decide +kernel
theorem d_Law_law_699 : decode code 699 = .ok (.invokevirtual 163, 3) := by decide +kernel
theorem d_Law_law_702 : decode code 702 = .ok (.iload 6, 2) := by decide +kernel
theorem d_Law_law_704 : decode code 704 = .ok (.if_icmp .eq 5, 3) := by decide +kernel
theorem d_Law_law_707 : decode code 707 = .ok (.iconst 0, 1) := by decide +kernel
theorem d_Law_law_708 : decode code 708 = .ok (.ireturn, 1) := by decide +kernel
theorem d_Law_law_709 : decode code 709 = .ok (.iload 6, 2) := by decide +kernel
theorem d_Law_law_711 : decode code 711 = .ok (.ifCond .ne 15, 3) := by decide +kernel
theorem d_Law_law_714 : decode code 714 = .ok (.aload_n 3, 1) := by decide +kernel
theorem d_Law_law_715 : decode code 715 = .ok (.iconst 0, 1) := by decide +kernel
theorem d_Law_law_716 : decode code 716 = .ok (.laload, 1) := by decide +kernel
theorem d_Law_law_717 : decode code 717 = .ok (.iload 7, 2) := by decide +kernel
theorem d_Law_law_719 : decode code 719 = .ok (.i2l, 1) := by decide +kernel
theorem d_Law_law_720 : decode code 720 = .ok (.lcmp, 1) := by decide +kernel
theorem d_Law_law_721 : decode code 721 = .ok (.ifCond .eq 5, 3) := by decide +kernel
theorem d_Law_law_724 : decode code 724 = .ok (.iconst 0, 1) := by decide +kernel
theorem d_Law_law_725 : decode code 725 = .ok (.ireturn, 1) := by decide +kernel
theorem d_Law_law_726 : decode code 726 = .ok (.goto 2207, 3) := by decide +kernel
theorem d_Law_law_729 : decode code 729 = .ok (.aload_n 1, 1) := by decide +kernel
theorem d_Law_law_730 : decode code 730 = .ok (.aload_n 0, 1) := by decide +kernel
theorem d_Law_law_731 : decode code 731 = .ok (.iload 5, 2) := by decide +kernel
theorem d_Law_law_733 : decode code 733 = .ok (.iconst 1, 1) := by decide +kernel
theorem d_Law_law_734 : decode code 734 = .ok (.iadd, 1) := by decide +kernel
theorem d_Law_law_735 : decode code 735 = .ok (.iaload, 1) := by decide +kernel
theorem d_Law_law_736 : decode code 736 = .ok (.aload_n 3, 1) := by decide +kernel
theorem d_Law_law_737 : decode code 737 = .ok (.invokestatic 192, 3) := by decide +kernel
theorem d_Law_law_740 : decode code 740 = .ok (.istore 6, 2) := by decide +kernel
theorem d_Law_law_742 : decode code 742 = .ok (.aload_n 2, 1) := by decide +kernel
theorem d_Law_law_743 : decode code 743 = .ok (.aload_n 0, 1) := by decide +kernel
theorem d_Law_law_744 : decode code 744 = .ok (.iload 5, 2) := by decide +kernel
theorem d_Law_law_746 : decode code 746 = .ok (.iconst 1, 1) := by decide +kernel
theorem d_Law_law_747 : decode code 747 = .ok (.iadd, 1) := by decide +kernel
theorem d_Law_law_748 : decode code 748 = .ok (.iaload, 1) := by decide +kernel
theorem d_Law_law_749 : decode code 749 = .ok (.invokevirtual 194, 3) := by decide +kernel
theorem d_Law_law_752 : decode code 752 = .ok (.istore 7, 2) := by decide +kernel
theorem d_Law_law_754 : decode code 754 = .ok (.aload_n 2, 1) := by decide +kernel
theorem d_Law_law_755 : decode code 755 = .ok (.invokevirtual 163, 3) := by decide +kernel
theorem d_Law_law_758 : decode code 758 = .ok (.iload 6, 2) := by decide +kernel
theorem d_Law_law_760 : decode code 760 = .ok (.if_icmp .eq 5, 3) := by decide +kernel
theorem d_Law_law_763 : decode code 763 = .ok (.iconst 0, 1) := by decide +kernel
theorem d_Law_law_764 : decode code 764 = .ok (.ireturn, 1) := by decide +kernel
theorem d_Law_law_765 : decode code 765 = .ok (.iload 6, 2) := by decide +kernel
theorem d_Law_law_767 : decode code 767 = .ok (.ifCond .ne 15, 3) := by decide +kernel
theorem d_Law_law_770 : decode code 770 = .ok (.aload_n 3, 1) := by decide +kernel
theorem d_Law_law_771 : decode code 771 = .ok (.iconst 0, 1) := by decide +kernel
theorem d_Law_law_772 : decode code 772 = .ok (.laload, 1) := by decide +kernel
theorem d_Law_law_773 : decode code 773 = .ok (.iload 7, 2) := by decide +kernel
theorem d_Law_law_775 : decode code 775 = .ok (.i2l, 1) := by decide +kernel
theorem d_Law_law_776 : decode code 776 = .ok (.lcmp, 1) := by decide +kernel
theorem d_Law_law_777 : decode code 777 = .ok (.ifCond .eq 5, 3) := by decide +kernel
theorem d_Law_law_780 : decode code 780 = .ok (.iconst 0, 1) := by decide +kernel
theorem d_Law_law_781 : decode code 781 = .ok (.ireturn, 1) := by decide +kernel
theorem d_Law_law_782 : decode code 782 = .ok (.goto 2151, 3) := by decide +kernel
theorem d_Law_law_785 : decode code 785 = .ok (.aload_n 1, 1) := by decide +kernel
theorem d_Law_law_786 : decode code 786 = .ok (.aload_n 3, 1) := by decide +kernel
theorem d_Law_law_787 : decode code 787 = .ok (.invokestatic 195, 3) := by decide +kernel
theorem d_Law_law_790 : decode code 790 = .ok (.istore 6, 2) := by decide +kernel
theorem d_Law_law_792 : decode code 792 = .ok (.aload_n 2, 1) := by decide +kernel
theorem d_Law_law_793 : decode code 793 = .ok (.invokevirtual 197, 3) := by decide +kernel
theorem d_Law_law_796 : decode code 796 = .ok (.istore 7, 2) := by decide +kernel
theorem d_Law_law_798 : decode code 798 = .ok (.aload_n 2, 1) := by decide +kernel
theorem d_Law_law_799 : decode code 799 = .ok (.invokevirtual 163, 3) := by decide +kernel
theorem d_Law_law_802 : decode code 802 = .ok (.iload 6, 2) := by decide +kernel
theorem d_Law_law_804 : decode code 804 = .ok (.if_icmp .eq 5, 3) := by decide +kernel
theorem d_Law_law_807 : decode code 807 = .ok (.iconst 0, 1) := by decide +kernel
theorem d_Law_law_808 : decode code 808 = .ok (.ireturn, 1) := by decide +kernel
theorem d_Law_law_809 : decode code 809 = .ok (.iload 6, 2) := by decide +kernel
theorem d_Law_law_811 : decode code 811 = .ok (.ifCond .ne 15, 3) := by decide +kernel
theorem d_Law_law_814 : decode code 814 = .ok (.aload_n 3, 1) := by decide +kernel
theorem d_Law_law_815 : decode code 815 = .ok (.iconst 0, 1) := by decide +kernel
theorem d_Law_law_816 : decode code 816 = .ok (.laload, 1) := by decide +kernel
theorem d_Law_law_817 : decode code 817 = .ok (.iload 7, 2) := by decide +kernel
theorem d_Law_law_819 : decode code 819 = .ok (.i2l, 1) := by decide +kernel
theorem d_Law_law_820 : decode code 820 = .ok (.lcmp, 1) := by decide +kernel
theorem d_Law_law_821 : decode code 821 = .ok (.ifCond .eq 5, 3) := by decide +kernel
theorem d_Law_law_824 : decode code 824 = .ok (.iconst 0, 1) := by decide +kernel
theorem d_Law_law_825 : decode code 825 = .ok (.ireturn, 1) := by decide +kernel
theorem d_Law_law_826 : decode code 826 = .ok (.goto 2107, 3) := by decide +kernel
theorem d_Law_law_829 : decode code 829 = .ok (.aload_n 1, 1) := by decide +kernel
theorem d_Law_law_830 : decode code 830 = .ok (.aload_n 0, 1) := by decide +kernel
theorem d_Law_law_831 : decode code 831 = .ok (.iload 5, 2) := by decide +kernel
theorem d_Law_law_833 : decode code 833 = .ok (.iconst 1, 1) := by decide +kernel
theorem d_Law_law_834 : decode code 834 = .ok (.iadd, 1) := by decide +kernel
theorem d_Law_law_835 : decode code 835 = .ok (.iaload, 1) := by decide +kernel
theorem d_Law_law_836 : decode code 836 = .ok (.i2c, 1) := by decide +kernel
theorem d_Law_law_837 : decode code 837 = .ok (.aload_n 3, 1) := by decide +kernel
theorem d_Law_law_838 : decode code 838 = .ok (.invokestatic 198, 3) := by decide +kernel
theorem d_Law_law_841 : decode code 841 = .ok (.istore 6, 2) := by decide +kernel
theorem d_Law_law_843 : decode code 843 = .ok (.aload_n 2, 1) := by decide +kernel
theorem d_Law_law_844 : decode code 844 = .ok (.aload_n 0, 1) := by decide +kernel
theorem d_Law_law_845 : decode code 845 = .ok (.iload 5, 2) := by decide +kernel
theorem d_Law_law_847 : decode code 847 = .ok (.iconst 1, 1) := by decide +kernel
theorem d_Law_law_848 : decode code 848 = .ok (.iadd, 1) := by decide +kernel
theorem d_Law_law_849 : decode code 849 = .ok (.iaload, 1) := by decide +kernel
theorem d_Law_law_850 : decode code 850 = .ok (.i2c, 1) := by decide +kernel
theorem d_Law_law_851 : decode code 851 = .ok (.invokevirtual 200, 3) := by decide +kernel
theorem d_Law_law_854 : decode code 854 = .ok (.istore 7, 2) := by decide +kernel
theorem d_Law_law_856 : decode code 856 = .ok (.aload_n 2, 1) := by decide +kernel
theorem d_Law_law_857 : decode code 857 = .ok (.invokevirtual 163, 3) := by decide +kernel
theorem d_Law_law_860 : decode code 860 = .ok (.iload 6, 2) := by decide +kernel
theorem d_Law_law_862 : decode code 862 = .ok (.if_icmp .eq 5, 3) := by decide +kernel
theorem d_Law_law_865 : decode code 865 = .ok (.iconst 0, 1) := by decide +kernel
theorem d_Law_law_866 : decode code 866 = .ok (.ireturn, 1) := by decide +kernel
theorem d_Law_law_867 : decode code 867 = .ok (.iload 6, 2) := by decide +kernel
theorem d_Law_law_869 : decode code 869 = .ok (.ifCond .ne 15, 3) := by decide +kernel
theorem d_Law_law_872 : decode code 872 = .ok (.aload_n 3, 1) := by decide +kernel
theorem d_Law_law_873 : decode code 873 = .ok (.iconst 0, 1) := by decide +kernel
theorem d_Law_law_874 : decode code 874 = .ok (.laload, 1) := by decide +kernel
theorem d_Law_law_875 : decode code 875 = .ok (.iload 7, 2) := by decide +kernel
theorem d_Law_law_877 : decode code 877 = .ok (.i2l, 1) := by decide +kernel
theorem d_Law_law_878 : decode code 878 = .ok (.lcmp, 1) := by decide +kernel
theorem d_Law_law_879 : decode code 879 = .ok (.ifCond .eq 5, 3) := by decide +kernel
theorem d_Law_law_882 : decode code 882 = .ok (.iconst 0, 1) := by decide +kernel
theorem d_Law_law_883 : decode code 883 = .ok (.ireturn, 1) := by decide +kernel
theorem d_Law_law_884 : decode code 884 = .ok (.goto 2049, 3) := by decide +kernel
theorem d_Law_law_887 : decode code 887 = .ok (.aload_n 1, 1) := by decide +kernel
theorem d_Law_law_888 : decode code 888 = .ok (.invokevirtual 201, 3) := by decide +kernel
theorem d_Law_law_891 : decode code 891 = .ok (.aload_n 2, 1) := by decide +kernel
theorem d_Law_law_892 : decode code 892 = .ok (.invokevirtual 204, 3) := by decide +kernel
theorem d_Law_law_895 : decode code 895 = .ok (.if_icmp .eq 2038, 3) := by decide +kernel
theorem d_Law_law_898 : decode code 898 = .ok (.iconst 0, 1) := by decide +kernel
theorem d_Law_law_899 : decode code 899 = .ok (.ireturn, 1) := by decide +kernel
theorem d_Law_law_900 : decode code 900 = .ok (.aload_n 1, 1) := by decide +kernel
theorem d_Law_law_901 : decode code 901 = .ok (.aload_n 0, 1) := by decide +kernel
theorem d_Law_law_902 : decode code 902 = .ok (.iload 5, 2) := by decide +kernel
theorem d_Law_law_904 : decode code 904 = .ok (.iconst 1, 1) := by decide +kernel
theorem d_Law_law_905 : decode code 905 = .ok (.iadd, 1) := by decide +kernel
theorem d_Law_law_906 : decode code 906 = .ok (.iaload, 1) := by decide +kernel
theorem d_Law_law_907 : decode code 907 = .ok (.i2c, 1) := by decide +kernel
theorem d_Law_law_908 : decode code 908 = .ok (.aload_n 3, 1) := by decide +kernel
theorem d_Law_law_909 : decode code 909 = .ok (.invokestatic 205, 3) := by decide +kernel
theorem d_Law_law_912 : decode code 912 = .ok (.istore 6, 2) := by decide +kernel
theorem d_Law_law_914 : decode code 914 = .ok (.aload_n 2, 1) := by decide +kernel
theorem d_Law_law_915 : decode code 915 = .ok (.aload_n 0, 1) := by decide +kernel
theorem d_Law_law_916 : decode code 916 = .ok (.iload 5, 2) := by decide +kernel
theorem d_Law_law_918 : decode code 918 = .ok (.iconst 1, 1) := by decide +kernel
theorem d_Law_law_919 : decode code 919 = .ok (.iadd, 1) := by decide +kernel
theorem d_Law_law_920 : decode code 920 = .ok (.iaload, 1) := by decide +kernel
theorem d_Law_law_921 : decode code 921 = .ok (.i2c, 1) := by decide +kernel
theorem d_Law_law_922 : decode code 922 = .ok (.invokevirtual 207, 3) := by decide +kernel
theorem d_Law_law_925 : decode code 925 = .ok (.istore 7, 2) := by decide +kernel
theorem d_Law_law_927 : decode code 927 = .ok (.aload_n 2, 1) := by decide +kernel
theorem d_Law_law_928 : decode code 928 = .ok (.invokevirtual 163, 3) := by decide +kernel
theorem d_Law_law_931 : decode code 931 = .ok (.iload 6, 2) := by decide +kernel
