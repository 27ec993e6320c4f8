theorem dl_626 : decode code 626 = .ok (.aload_n 0, 1) := by decide +kernel
theorem dl_627 : decode code 627 = .ok (.iload_n 3, 1) := by decide +kernel
theorem dl_628 : decode code 628 = .ok (.iconst 1, 1) := by decide +kernel
theorem dl_629 : decode code 629 = .ok (.iadd, 1) := by decide +kernel
theorem dl_630 : decode code 630 = .ok (.iaload, 1) := by decide +kernel
theorem dl_631 : decode code 631 = .ok (.aload_n 0, 1) := by decide +kernel
theorem dl_632 : decode code 632 = .ok (.iload_n 3, 1) := by decide +kernel
theorem dl_633 : decode code 633 = .ok (.iconst 2, 1) := by decide +kernel
theorem dl_634 : decode code 634 = .ok (.iadd, 1) := by decide +kernel
theorem dl_635 : decode code 635 = .ok (.iaload, 1) := by decide +kernel
theorem dl_636 : decode code 636 = .ok (.invokevirtual 81, 3) := by decide +kernel
theorem dl_639 : decode code 639 = .ok (.if_icmp .eq 453, 3) := by decide +kernel
theorem dl_642 : decode code 642 = .ok (.iconst 0, 1) := by decide +kernel
theorem dl_643 : decode code 643 = .ok (.ireturn, 1) := by decide +kernel
theorem dl_644 : decode code 644 = .ok (.aload_n 1, 1) := by decide +kernel
theorem dl_645 : decode code 645 = .ok (.invokevirtual 82, 3) := by decide +kernel
theorem dl_648 : decode code 648 = .ok (.aload_n 2, 1) := by decide +kernel
theorem dl_649 : decode code 649 = .ok (.invokevirtual 85, 3) := by decide +kernel
theorem dl_652 : decode code 652 = .ok (.if_icmp .eq 440, 3) := by decide +kernel
theorem dl_655 : decode code 655 = .ok (.iconst 0, 1) := by decide +kernel
theorem dl_656 : decode code 656 = .ok (.ireturn, 1) := by decide +kernel
theorem dl_657 : decode code 657 = .ok (.aload_n 1, 1) := by decide +kernel
theorem dl_658 : decode code 658 = .ok (.aload_n 0, 1) := by decide +kernel
theorem dl_659 : decode code 659 = .ok (.iload_n 3, 1) := by decide +kernel
theorem dl_660 : decode code 660 = .ok (.iconst 1, 1) := by decide +kernel
theorem dl_661 : decode code 661 = .ok (.iadd, 1) := by decide +kernel
theorem dl_662 : decode code 662 = .ok (.iaload, 1) := by decide +kernel
theorem dl_663 : decode code 663 = .ok (.aload_n 0, 1) := by decide +kernel
theorem dl_664 : decode code 664 = .ok (.iload_n 3, 1) := by decide +kernel
theorem dl_665 : decode code 665 = .ok (.iconst 2, 1) := by decide +kernel
theorem dl_666 : decode code 666 = .ok (.iadd, 1) := by decide +kernel
theorem dl_667 : decode code 667 = .ok (.iaload, 1) := by decide +kernel
theorem dl_668 : decode code 668 = .ok (.invokevirtual 86, 3) := by decide +kernel
theorem dl_671 : decode code 671 = .ok (.aload_n 2, 1) := by decide +kernel
theorem dl_672 : decode code 672 = .ok (.aload_n 0, 1) := by decide +kernel
theorem dl_673 : decode code 673 = .ok (.iload_n 3, 1) := by decide +kernel
theorem dl_674 : decode code 674 = .ok (.iconst 1, 1) := by decide +kernel
theorem dl_675 : decode code 675 = .ok (.iadd, 1) := by decide +kernel
theorem dl_676 : decode code 676 = .ok (.iaload, 1) := by decide +kernel
theorem dl_677 : decode code 677 = .ok (.aload_n 0, 1) := by decide +kernel
theorem dl_678 : decode code 678 = .ok (.iload_n 3, 1) := by decide +kernel
theorem dl_679 : decode code 679 = .ok (.iconst 2, 1) := by decide +kernel
theorem dl_680 : decode code 680 = .ok (.iadd, 1) := by decide +kernel
theorem dl_681 : decode code 681 = .ok (.iaload, 1) := by decide +kernel
theorem dl_682 : decode code 682 = .ok (.invokevirtual 89, 3) := by decide +kernel
theorem dl_685 : decode code 685 = .ok (.if_icmp .eq 407, 3) := by decide +kernel
theorem dl_688 : decode code 688 = .ok (.iconst 0, 1) := by decide +kernel
theorem dl_689 : decode code 689 = .ok (.ireturn, 1) := by decide +kernel
theorem dl_690 : decode code 690 = .ok (.aload_n 1, 1) := by decide +kernel
theorem dl_691 : decode code 691 = .ok (.aload_n 0, 1) := by decide +kernel
theorem dl_692 : decode code 692 = .ok (.iload_n 3, 1) := by decide +kernel
theorem dl_693 : decode code 693 = .ok (.iconst 1, 1) := by decide +kernel
theorem dl_694 : decode code 694 = .ok (.iadd, 1) := by decide +kernel
theorem dl_695 : decode code 695 = .ok (.iaload, 1) := by decide +kernel
theorem dl_696 : decode code 696 = .ok (.aload_n 0, 1) := by decide +kernel
theorem dl_697 : decode code 697 = .ok (.iload_n 3, 1) := by decide +kernel
theorem dl_698 : decode code 698 = .ok (.iconst 2, 1) := by decide +kernel
theorem dl_699 : decode code 699 = .ok (.iadd, 1) := by decide +kernel
theorem dl_700 : decode code 700 = .ok (.iaload, 1) := by decide +kernel
theorem dl_701 : decode code 701 = .ok (.invokevirtual 90, 3) := by decide +kernel
theorem dl_704 : decode code 704 = .ok (.aload_n 2, 1) := by decide +kernel
theorem dl_705 : decode code 705 = .ok (.aload_n 0, 1) := by decide +kernel
theorem dl_706 : decode code 706 = .ok (.iload_n 3, 1) := by decide +kernel
theorem dl_707 : decode code 707 = .ok (.iconst 1, 1) := by decide +kernel
theorem dl_708 : decode code 708 = .ok (.iadd, 1) := by decide +kernel
theorem dl_709 : decode code 709 = .ok (.iaload, 1) := by decide +kernel
theorem dl_710 : decode code 710 = .ok (.aload_n 0, 1) := by decide +kernel
theorem dl_711 : decode code 711 = .ok (.iload_n 3, 1) := by decide +kernel
theorem dl_712 : decode code 712 = .ok (.iconst 2, 1) := by decide +kernel
theorem dl_713 : decode code 713 = .ok (.iadd, 1) := by decide +kernel
theorem dl_714 : decode code 714 = .ok (.iaload, 1) := by decide +kernel
theorem dl_715 : decode code 715 = .ok (.invokevirtual 93, 3) := by decide +kernel
theorem dl_718 : decode code 718 = .ok (.if_icmp .eq 374, 3) := by decide +kernel
theorem dl_721 : decode code 721 = .ok (.iconst 0, 1) := by decide +kernel
theorem dl_722 : decode code 722 = .ok (.ireturn, 1) := by decide +kernel
theorem dl_723 : decode code 723 = .ok (.aload_n 1, 1) := by decide +kernel
theorem dl_724 : decode code 724 = .ok (.aload_n 0, 1) := by decide +kernel
theorem dl_725 : decode code 725 = .ok (.iload_n 3, 1) := by decide +kernel
theorem dl_726 : decode code 726 = .ok (.iconst 1, 1) := by decide +kernel
theorem dl_727 : decode code 727 = .ok (.iadd, 1) := by decide +kernel
theorem dl_728 : decode code 728 = .ok (.iaload, 1) := by decide +kernel
theorem dl_729 : decode code 729 = .ok (.invokevirtual 94, 3) := by decide +kernel
theorem dl_732 : decode code 732 = .ok (.aload_n 2, 1) := by decide +kernel
theorem dl_733 : decode code 733 = .ok (.aload_n 0, 1) := by decide +kernel
theorem dl_734 : decode code 734 = .ok (.iload_n 3, 1) := by decide +kernel
theorem dl_735 : decode code 735 = .ok (.iconst 1, 1) := by decide +kernel
theorem dl_736 : decode code 736 = .ok (.iadd, 1) := by decide +kernel
theorem dl_737 : decode code 737 = .ok (.iaload, 1) := by decide +kernel
theorem dl_738 : decode code 738 = .ok (.invokevirtual 97, 3) := by decide +kernel
theorem dl_741 : decode code 741 = .ok (.if_icmp .eq 351, 3) := by decide +kernel
theorem dl_744 : decode code 744 = .ok (.iconst 0, 1) := by decide +kernel
theorem dl_745 : decode code 745 = .ok (.ireturn, 1) := by decide +kernel
theorem dl_746 : decode code 746 = .ok (.aload_n 1, 1) := by decide +kernel
theorem dl_747 : decode code 747 = .ok (.aload_n 0, 1) := by decide +kernel
theorem dl_748 : decode code 748 = .ok (.iload_n 3, 1) := by decide +kernel
theorem dl_749 : decode code 749 = .ok (.iconst 1, 1) := by decide +kernel
theorem dl_750 : decode code 750 = .ok (.iadd, 1) := by decide +kernel
theorem dl_751 : decode code 751 = .ok (.iaload, 1) := by decide +kernel
theorem dl_752 : decode code 752 = .ok (.invokevirtual 98, 3) := by decide +kernel
theorem dl_755 : decode code 755 = .ok (.aload_n 2, 1) := by decide +kernel
theorem dl_756 : decode code 756 = .ok (.aload_n 0, 1) := by decide +kernel
theorem dl_757 : decode code 757 = .ok (.iload_n 3, 1) := by decide +kernel
theorem dl_758 : decode code 758 = .ok (.iconst 1, 1) := by decide +kernel
theorem dl_759 : decode code 759 = .ok (.iadd, 1) := by decide +kernel
theorem dl_760 : decode code 760 = .ok (.iaload, 1) := by decide +kernel
theorem dl_761 : decode code 761 = .ok (.invokevirtual 101, 3) := by decide +kernel
theorem dl_764 : decode code 764 = .ok (.if_icmp .eq 328, 3) := by decide +kernel
theorem dl_767 : decode code 767 = .ok (.iconst 0, 1) := by decide +kernel
theorem dl_768 : decode code 768 = .ok (.ireturn, 1) := by decide +kernel
theorem dl_769 : decode code 769 = .ok (.aload_n 1, 1) := by decide +kernel
theorem dl_770 : decode code 770 = .ok (.aload_n 0, 1) := by decide +kernel
theorem dl_771 : decode code 771 = .ok (.iload_n 3, 1) := by decide +kernel
theorem dl_772 : decode code 772 = .ok (.iconst 1, 1) := by decide +kernel
theorem dl_773 : decode code 773 = .ok (.iadd, 1) := by decide +kernel
theorem dl_774 : decode code 774 = .ok (.iaload, 1) := by decide +kernel
theorem dl_775 : decode code 775 = .ok (.aload_n 0, 1) := by decide +kernel
theorem dl_776 : decode code 776 = .ok (.iload_n 3, 1) := by decide +kernel
theorem dl_777 : decode code 777 = .ok (.iconst 2, 1) := by decide +kernel
theorem dl_778 : decode code 778 = .ok (.iadd, 1) := by decide +kernel
theorem dl_779 : decode code 779 = .ok (.iaload, 1) := by decide +kernel
theorem dl_780 : decode code 780 = .ok (.aload_n 0, 1) := by decide +kernel
theorem dl_781 : decode code 781 = .ok (.iload_n 3, 1) := by decide +kernel
theorem dl_782 : decode code 782 = .ok (.iconst 3, 1) := by decide +kernel
theorem dl_783 : decode code 783 = .ok (.iadd, 1) := by decide +kernel
theorem dl_784 : decode code 784 = .ok (.iaload, 1) := by decide +kernel
theorem dl_785 : decode code 785 = .ok (.aload_n 0, 1) := by decide +kernel
theorem dl_786 : decode code 786 = .ok (.iload_n 3, 1) := by decide +kernel
theorem dl_787 : decode code 787 = .ok (.iconst 4, 1) := by decide +kernel
theorem dl_788 : decode code 788 = .ok (.iadd, 1) := by decide +kernel
theorem dl_789 : decode code 789 = .ok (.iaload, 1) := by decide +kernel
theorem dl_790 : decode code 790 = .ok (.invokevirtual 102, 3) := by decide +kernel
theorem dl_793 : decode code 793 = .ok (.aload_n 2, 1) := by decide +kernel
theorem dl_794 : decode code 794 = .ok (.aload_n 0, 1) := by decide +kernel
theorem dl_795 : decode code 795 = .ok (.iload_n 3, 1) := by decide +kernel
theorem dl_796 : decode code 796 = .ok (.iconst 1, 1) := by decide +kernel
theorem dl_797 : decode code 797 = .ok (.iadd, 1) := by decide +kernel
theorem dl_798 : decode code 798 = .ok (.iaload, 1) := by decide +kernel
theorem dl_799 : decode code 799 = .ok (.aload_n 0, 1) := by decide +kernel
theorem dl_800 : decode code 800 = .ok (.iload_n 3, 1) := by decide +kernel
theorem dl_801 : decode code 801 = .ok (.iconst 2, 1) := by decide +kernel
theorem dl_802 : decode code 802 = .ok (.iadd, 1) := by decide +kernel
theorem dl_803 : decode code 803 = .ok (.iaload, 1) := by decide +kernel
theorem dl_804 : decode code 804 = .ok (.aload_n 0, 1) := by decide +kernel
theorem dl_805 : decode code 805 = .ok (.iload_n 3, 1) := by decide +kernel
theorem dl_806 : decode code 806 = .ok (.iconst 3, 1) := by decide +kernel
theorem dl_807 : decode code 807 = .ok (.iadd, 1) := by decide +kernel
theorem dl_808 : decode code 808 = .ok (.iaload, 1) := by decide +kernel
theorem dl_809 : decode code 809 = .ok (.aload_n 0, 1) := by decide +kernel
theorem dl_810 : decode code 810 = .ok (.iload_n 3, 1) := by decide +kernel
theorem dl_811 : decode code 811 = .ok (.iconst 4, 1) := by decide +kernel
theorem dl_812 : decode code 812 = .ok (.iadd, 1) := by decide +kernel
theorem dl_813 : decode code 813 = .ok (.iaload, 1) := by decide +kernel
theorem dl_814 : decode code 814 = .ok (.invokevirtual 106, 3) := by decide +kernel
theorem dl_817 : decode code 817 = .ok (.if_icmp .eq 275, 3) := by decide +kernel
theorem dl_820 : decode code 820 = .ok (.iconst 0, 1) := by decide +kernel
theorem dl_821 : decode code 821 = .ok (.ireturn, 1) := by decide +kernel
theorem dl_822 : decode code 822 = .ok (.aload_n 1, 1) := by decide +kernel
theorem dl_823 : decode code 823 = .ok (.aload_n 0, 1) := by decide +kernel
theorem dl_824 : decode code 824 = .ok (.iload_n 3, 1) := by decide +kernel
theorem dl_825 : decode code 825 = .ok (.iconst 1, 1) := by decide +kernel
theorem dl_826 : decode code 826 = .ok (.iadd, 1) := by decide +kernel
theorem dl_827 : decode code 827 = .ok (.iaload, 1) := by decide +kernel
theorem dl_828 : decode code 828 = .ok (.aload_n 0, 1) := by decide +kernel
theorem dl_829 : decode code 829 = .ok (.iload_n 3, 1) := by decide +kernel
theorem dl_830 : decode code 830 = .ok (.iconst 2, 1) := by decide +kernel
theorem dl_831 : decode code 831 = .ok (.iadd, 1) := by decide +kernel
theorem dl_832 : decode code 832 = .ok (.iaload, 1) := by decide +kernel
theorem dl_833 : decode code 833 = .ok (.invokevirtual 107, 3) := by decide +kernel
theorem dl_836 : decode code 836 = .ok (.aload_n 2, 1) := by decide +kernel
theorem dl_837 : decode code 837 = .ok (.aload_n 0, 1) := by decide +kernel
theorem dl_838 : decode code 838 = .ok (.iload_n 3, 1) := by decide +kernel
theorem dl_839 : decode code 839 = .ok (.iconst 1, 1) := by decide +kernel
theorem dl_840 : decode code 840 = .ok (.iadd, 1) := by decide +kernel
theorem dl_841 : decode code 841 = .ok (.iaload, 1) := by decide +kernel
theorem dl_842 : decode code 842 = .ok (.aload_n 0, 1) := by decide +kernel
theorem dl_843 : decode code 843 = .ok (.iload_n 3, 1) := by decide +kernel
theorem dl_844 : decode code 844 = .ok (.iconst 2, 1) := by decide +kernel
theorem dl_845 : decode code 845 = .ok (.iadd, 1) := by decide +kernel
theorem dl_846 : decode code 846 = .ok (.iaload, 1) := by decide +kernel
theorem dl_847 : decode code 847 = .ok (.invokevirtual 110, 3) := by decide +kernel
theorem dl_850 : decode code 850 = .ok (.if_icmp .eq 242, 3) := by decide +kernel
theorem dl_853 : decode code 853 = .ok (.iconst 0, 1) := by decide +kernel
theorem dl_854 : decode code 854 = .ok (.ireturn, 1) := by decide +kernel
theorem dl_855 : decode code 855 = .ok (.aload_n 1, 1) := by decide +kernel
theorem dl_856 : decode code 856 = .ok (.aload_n 0, 1) := by decide +kernel
theorem dl_857 : decode code 857 = .ok (.iload_n 3, 1) := by decide +kernel
theorem dl_858 : decode code 858 = .ok (.iconst 1, 1) := by decide +kernel
theorem dl_859 : decode code 859 = .ok (.iadd, 1) := by decide +kernel
theorem dl_860 : decode code 860 = .ok (.iaload, 1) := by decide +kernel
theorem dl_861 : decode code 861 = .ok (.aload_n 0, 1) := by decide +kernel