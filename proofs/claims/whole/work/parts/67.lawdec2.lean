theorem d_La_law_544 : decode code 544 = .ok (.aload_n 0, 1) := by decide +kernel
theorem d_La_law_545 : decode code 545 = .ok (.iload_n 3, 1) := by decide +kernel
theorem d_La_law_546 : decode code 546 = .ok (.iconst 1, 1) := by decide +kernel
theorem d_La_law_547 : decode code 547 = .ok (.iadd, 1) := by decide +kernel
theorem d_La_law_548 : decode code 548 = .ok (.iaload, 1) := by decide +kernel
theorem d_La_law_549 : decode code 549 = .ok (.invokevirtual 84, 3) := by decide +kernel
theorem d_La_law_552 : decode code 552 = .ok (.if_icmp .eq 381, 3) := by decide +kernel
theorem d_La_law_555 : decode code 555 = .ok (.iconst 0, 1) := by decide +kernel
theorem d_La_law_556 : decode code 556 = .ok (.ireturn, 1) := by decide +kernel
theorem d_La_law_557 : decode code 557 = .ok (.aload_n 1, 1) := by decide +kernel
theorem d_La_law_558 : decode code 558 = .ok (.aload_n 0, 1) := by decide +kernel
theorem d_La_law_559 : decode code 559 = .ok (.iload_n 3, 1) := by decide +kernel
theorem d_La_law_560 : decode code 560 = .ok (.iconst 1, 1) := by decide +kernel
theorem d_La_law_561 : decode code 561 = .ok (.iadd, 1) := by decide +kernel
theorem d_La_law_562 : decode code 562 = .ok (.iaload, 1) := by decide +kernel
theorem d_La_law_563 : decode code 563 = .ok (.aload_n 0, 1) := by decide +kernel
theorem d_La_law_564 : decode code 564 = .ok (.iload_n 3, 1) := by decide +kernel
theorem d_La_law_565 : decode code 565 = .ok (.iconst 2, 1) := by decide +kernel
theorem d_La_law_566 : decode code 566 = .ok (.iadd, 1) := by decide +kernel
theorem d_La_law_567 : decode code 567 = .ok (.iaload, 1) := by decide +kernel
theorem d_La_law_568 : decode code 568 = .ok (.invokevirtual 85, 3) := by decide +kernel
theorem d_La_law_571 : decode code 571 = .ok (.aload_n 2, 1) := by decide +kernel
theorem d_La_law_572 : decode code 572 = .ok (.aload_n 0, 1) := by decide +kernel
theorem d_La_law_573 : decode code 573 = .ok (.iload_n 3, 1) := by decide +kernel
theorem d_La_law_574 : decode code 574 = .ok (.iconst 1, 1) := by decide +kernel
theorem d_La_law_575 : decode code 575 = .ok (.iadd, 1) := by decide +kernel
theorem d_La_law_576 : decode code 576 = .ok (.iaload, 1) := by decide +kernel
theorem d_La_law_577 : decode code 577 = .ok (.aload_n 0, 1) := by decide +kernel
theorem d_La_law_578 : decode code 578 = .ok (.iload_n 3, 1) := by decide +kernel
theorem d_La_law_579 : decode code 579 = .ok (.iconst 2, 1) := by decide +kernel
theorem d_La_law_580 : decode code 580 = .ok (.iadd, 1) := by decide +kernel
theorem d_La_law_581 : decode code 581 = .ok (.iaload, 1) := by decide +kernel
theorem d_La_law_582 : decode code 582 = .ok (.invokevirtual 88, 3) := by decide +kernel
theorem d_La_law_585 : decode code 585 = .ok (.if_icmp .eq 348, 3) := by decide +kernel
theorem d_La_law_588 : decode code 588 = .ok (.iconst 0, 1) := by decide +kernel
theorem d_La_law_589 : decode code 589 = .ok (.ireturn, 1) := by decide +kernel
theorem d_La_law_590 : decode code 590 = .ok (.aload_n 1, 1) := by decide +kernel
theorem d_La_law_591 : decode code 591 = .ok (.aload_n 0, 1) := by decide +kernel
theorem d_La_law_592 : decode code 592 = .ok (.iload_n 3, 1) := by decide +kernel
theorem d_La_law_593 : decode code 593 = .ok (.iconst 1, 1) := by decide +kernel
theorem d_La_law_594 : decode code 594 = .ok (.iadd, 1) := by decide +kernel
theorem d_La_law_595 : decode code 595 = .ok (.iaload, 1) := by decide +kernel
theorem d_La_law_596 : decode code 596 = .ok (.aload_n 0, 1) := by decide +kernel
theorem d_La_law_597 : decode code 597 = .ok (.iload_n 3, 1) := by decide +kernel
theorem d_La_law_598 : decode code 598 = .ok (.iconst 2, 1) := by decide +kernel
theorem d_La_law_599 : decode code 599 = .ok (.iadd, 1) := by decide +kernel
theorem d_La_law_600 : decode code 600 = .ok (.iaload, 1) := by decide +kernel
theorem d_La_law_601 : decode code 601 = .ok (.ifCond .eq 7, 3) := by decide +kernel
theorem d_La_law_604 : decode code 604 = .ok (.iconst 1, 1) := by decide +kernel
theorem d_La_law_605 : decode code 605 = .ok (.goto 4, 3) := by decide +kernel
theorem d_La_law_608 : decode code 608 = .ok (.iconst 0, 1) := by decide +kernel
theorem d_La_law_609 : decode code 609 = .ok (.invokevirtual 89, 3) := by decide +kernel
theorem d_La_law_612 : decode code 612 = .ok (.aload_n 2, 1) := by decide +kernel
theorem d_La_law_613 : decode code 613 = .ok (.aload_n 0, 1) := by decide +kernel
theorem d_La_law_614 : decode code 614 = .ok (.iload_n 3, 1) := by decide +kernel
theorem d_La_law_615 : decode code 615 = .ok (.iconst 1, 1) := by decide +kernel
theorem d_La_law_616 : decode code 616 = .ok (.iadd, 1) := by decide +kernel
theorem d_La_law_617 : decode code 617 = .ok (.iaload, 1) := by decide +kernel
theorem d_La_law_618 : decode code 618 = .ok (.aload_n 0, 1) := by decide +kernel
theorem d_La_law_619 : decode code 619 = .ok (.iload_n 3, 1) := by decide +kernel
theorem d_La_law_620 : decode code 620 = .ok (.iconst 2, 1) := by decide +kernel
theorem d_La_law_621 : decode code 621 = .ok (.iadd, 1) := by decide +kernel
theorem d_La_law_622 : decode code 622 = .ok (.iaload, 1) := by decide +kernel
theorem d_La_law_623 : decode code 623 = .ok (.ifCond .eq 7, 3) := by decide +kernel
theorem d_La_law_626 : decode code 626 = .ok (.iconst 1, 1) := by decide +kernel
theorem d_La_law_627 : decode code 627 = .ok (.goto 4, 3) := by decide +kernel
theorem d_La_law_630 : decode code 630 = .ok (.iconst 0, 1) := by decide +kernel
theorem d_La_law_631 : decode code 631 = .ok (.invokevirtual 93, 3) := by decide +kernel
theorem d_La_law_634 : decode code 634 = .ok (.if_icmp .eq 299, 3) := by decide +kernel
theorem d_La_law_637 : decode code 637 = .ok (.iconst 0, 1) := by decide +kernel
theorem d_La_law_638 : decode code 638 = .ok (.ireturn, 1) := by decide +kernel
theorem d_La_law_639 : decode code 639 = .ok (.aload_n 1, 1) := by decide +kernel
theorem d_La_law_640 : decode code 640 = .ok (.aload_n 0, 1) := by decide +kernel
theorem d_La_law_641 : decode code 641 = .ok (.iload_n 3, 1) := by decide +kernel
theorem d_La_law_642 : decode code 642 = .ok (.iconst 1, 1) := by decide +kernel
theorem d_La_law_643 : decode code 643 = .ok (.iadd, 1) := by decide +kernel
theorem d_La_law_644 : decode code 644 = .ok (.iaload, 1) := by decide +kernel
theorem d_La_law_645 : decode code 645 = .ok (.aload_n 0, 1) := by decide +kernel
theorem d_La_law_646 : decode code 646 = .ok (.iload_n 3, 1) := by decide +kernel
theorem d_La_law_647 : decode code 647 = .ok (.iconst 2, 1) := by decide +kernel
theorem d_La_law_648 : decode code 648 = .ok (.iadd, 1) := by decide +kernel
theorem d_La_law_649 : decode code 649 = .ok (.iaload, 1) := by decide +kernel
theorem d_La_law_650 : decode code 650 = .ok (.aload_n 0, 1) := by decide +kernel
theorem d_La_law_651 : decode code 651 = .ok (.iload_n 3, 1) := by decide +kernel
theorem d_La_law_652 : decode code 652 = .ok (.iconst 3, 1) := by decide +kernel
theorem d_La_law_653 : decode code 653 = .ok (.iadd, 1) := by decide +kernel
theorem d_La_law_654 : decode code 654 = .ok (.iaload, 1) := by decide +kernel
theorem d_La_law_655 : decode code 655 = .ok (.invokevirtual 94, 3) := by decide +kernel
theorem d_La_law_658 : decode code 658 = .ok (.aload_n 2, 1) := by decide +kernel
theorem d_La_law_659 : decode code 659 = .ok (.aload_n 0, 1) := by decide +kernel
theorem d_La_law_660 : decode code 660 = .ok (.iload_n 3, 1) := by decide +kernel
theorem d_La_law_661 : decode code 661 = .ok (.iconst 1, 1) := by decide +kernel
theorem d_La_law_662 : decode code 662 = .ok (.iadd, 1) := by decide +kernel
theorem d_La_law_663 : decode code 663 = .ok (.iaload, 1) := by decide +kernel
theorem d_La_law_664 : decode code 664 = .ok (.aload_n 0, 1) := by decide +kernel
theorem d_La_law_665 : decode code 665 = .ok (.iload_n 3, 1) := by decide +kernel
theorem d_La_law_666 : decode code 666 = .ok (.iconst 2, 1) := by decide +kernel
theorem d_La_law_667 : decode code 667 = .ok (.iadd, 1) := by decide +kernel
theorem d_La_law_668 : decode code 668 = .ok (.iaload, 1) := by decide +kernel
theorem d_La_law_669 : decode code 669 = .ok (.aload_n 0, 1) := by decide +kernel
theorem d_La_law_670 : decode code 670 = .ok (.iload_n 3, 1) := by decide +kernel
theorem d_La_law_671 : decode code 671 = .ok (.iconst 3, 1) := by decide +kernel
theorem d_La_law_672 : decode code 672 = .ok (.iadd, 1) := by decide +kernel
theorem d_La_law_673 : decode code 673 = .ok (.iaload, 1) := by decide +kernel
theorem d_La_law_674 : decode code 674 = .ok (.invokevirtual 98, 3) := by decide +kernel
theorem d_La_law_677 : decode code 677 = .ok (.if_icmp .eq 256, 3) := by decide +kernel
theorem d_La_law_680 : decode code 680 = .ok (.iconst 0, 1) := by decide +kernel
theorem d_La_law_681 : decode code 681 = .ok (.ireturn, 1) := by decide +kernel
theorem d_La_law_682 : decode code 682 = .ok (.aload_n 1, 1) := by decide +kernel
theorem d_La_law_683 : decode code 683 = .ok (.invokevirtual 99, 3) := by decide +kernel
theorem d_La_law_686 : decode code 686 = .ok (.aload_n 2, 1) := by decide +kernel
theorem d_La_law_687 : decode code 687 = .ok (.invokevirtual 102, 3) := by decide +kernel
theorem d_La_law_690 : decode code 690 = .ok (.if_icmp .eq 243, 3) := by decide +kernel
theorem d_La_law_693 : decode code 693 = .ok (.iconst 0, 1) := by decide +kernel
theorem d_La_law_694 : decode code 694 = .ok (.ireturn, 1) := by decide +kernel
theorem d_La_law_695 : decode code 695 = .ok (.aload_n 1, 1) := by decide +kernel
theorem d_La_law_696 : decode code 696 = .ok (.invokevirtual 103, 3) := by decide +kernel
theorem d_La_law_699 : decode code 699 = .ok (.aload_n 2, 1) := by decide +kernel
theorem d_La_law_700 : decode code 700 = .ok (.invokevirtual 106, 3) := by decide +kernel
theorem d_La_law_703 : decode code 703 = .ok (.if_icmp .eq 230, 3) := by decide +kernel
theorem d_La_law_706 : decode code 706 = .ok (.iconst 0, 1) := by decide +kernel
theorem d_La_law_707 : decode code 707 = .ok (.ireturn, 1) := by decide +kernel
theorem d_La_law_708 : decode code 708 = .ok (.aload_n 1, 1) := by decide +kernel
theorem d_La_law_709 : decode code 709 = .ok (.aload_n 0, 1) := by decide +kernel
theorem d_La_law_710 : decode code 710 = .ok (.iload_n 3, 1) := by decide +kernel
theorem d_La_law_711 : decode code 711 = .ok (.iconst 1, 1) := by decide +kernel
theorem d_La_law_712 : decode code 712 = .ok (.iadd, 1) := by decide +kernel
theorem d_La_law_713 : decode code 713 = .ok (.iaload, 1) := by decide +kernel
theorem d_La_law_714 : decode code 714 = .ok (.aload_n 0, 1) := by decide +kernel
theorem d_La_law_715 : decode code 715 = .ok (.iload_n 3, 1) := by decide +kernel
theorem d_La_law_716 : decode code 716 = .ok (.iconst 2, 1) := by decide +kernel
theorem d_La_law_717 : decode code 717 = .ok (.iadd, 1) := by decide +kernel
theorem d_La_law_718 : decode code 718 = .ok (.iaload, 1) := by decide +kernel
theorem d_La_law_719 : decode code 719 = .ok (.aload_n 0, 1) := by decide +kernel
theorem d_La_law_720 : decode code 720 = .ok (.iload_n 3, 1) := by decide +kernel
theorem d_La_law_721 : decode code 721 = .ok (.iconst 3, 1) := by decide +kernel
theorem d_La_law_722 : decode code 722 = .ok (.iadd, 1) := by decide +kernel
theorem d_La_law_723 : decode code 723 = .ok (.iaload, 1) := by decide +kernel
theorem d_La_law_724 : decode code 724 = .ok (.invokevirtual 107, 3) := by decide +kernel
theorem d_La_law_727 : decode code 727 = .ok (.aload_n 2, 1) := by decide +kernel
theorem d_La_law_728 : decode code 728 = .ok (.aload_n 0, 1) := by decide +kernel
theorem d_La_law_729 : decode code 729 = .ok (.iload_n 3, 1) := by decide +kernel
theorem d_La_law_730 : decode code 730 = .ok (.iconst 1, 1) := by decide +kernel
theorem d_La_law_731 : decode code 731 = .ok (.iadd, 1) := by decide +kernel
theorem d_La_law_732 : decode code 732 = .ok (.iaload, 1) := by decide +kernel
theorem d_La_law_733 : decode code 733 = .ok (.aload_n 0, 1) := by decide +kernel
theorem d_La_law_734 : decode code 734 = .ok (.iload_n 3, 1) := by decide +kernel
theorem d_La_law_735 : decode code 735 = .ok (.iconst 2, 1) := by decide +kernel
theorem d_La_law_736 : decode code 736 = .ok (.iadd, 1) := by decide +kernel
theorem d_La_law_737 : decode code 737 = .ok (.iaload, 1) := by decide +kernel
theorem d_La_law_738 : decode code 738 = .ok (.aload_n 0, 1) := by decide +kernel
theorem d_La_law_739 : decode code 739 = .ok (.iload_n 3, 1) := by decide +kernel
theorem d_La_law_740 : decode code 740 = .ok (.iconst 3, 1) := by decide +kernel
theorem d_La_law_741 : decode code 741 = .ok (.iadd, 1) := by decide +kernel
theorem d_La_law_742 : decode code 742 = .ok (.iaload, 1) := by decide +kernel
theorem d_La_law_743 : decode code 743 = .ok (.invokevirtual 110, 3) := by decide +kernel
theorem d_La_law_746 : decode code 746 = .ok (.if_icmp .eq 187, 3) := by decide +kernel
theorem d_La_law_749 : decode code 749 = .ok (.iconst 0, 1) := by decide +kernel
theorem d_La_law_750 : decode code 750 = .ok (.ireturn, 1) := by decide +kernel
theorem d_La_law_751 : decode code 751 = .ok (.aload_n 1, 1) := by decide +kernel
theorem d_La_law_752 : decode code 752 = .ok (.aload_n 0, 1) := by decide +kernel
theorem d_La_law_753 : decode code 753 = .ok (.iload_n 3, 1) := by decide +kernel
theorem d_La_law_754 : decode code 754 = .ok (.iconst 1, 1) := by decide +kernel
theorem d_La_law_755 : decode code 755 = .ok (.iadd, 1) := by decide +kernel
theorem d_La_law_756 : decode code 756 = .ok (.iaload, 1) := by decide +kernel
theorem d_La_law_757 : decode code 757 = .ok (.aload_n 0, 1) := by decide +kernel
theorem d_La_law_758 : decode code 758 = .ok (.iload_n 3, 1) := by decide +kernel
theorem d_La_law_759 : decode code 759 = .ok (.iconst 2, 1) := by decide +kernel
theorem d_La_law_760 : decode code 760 = .ok (.iadd, 1) := by decide +kernel
theorem d_La_law_761 : decode code 761 = .ok (.iaload, 1) := by decide +kernel
theorem d_La_law_762 : decode code 762 = .ok (.aload_n 0, 1) := by decide +kernel
theorem d_La_law_763 : decode code 763 = .ok (.iload_n 3, 1) := by decide +kernel
theorem d_La_law_764 : decode code 764 = .ok (.iconst 3, 1) := by decide +kernel
theorem d_La_law_765 : decode code 765 = .ok (.iadd, 1) := by decide +kernel
theorem d_La_law_766 : decode code 766 = .ok (.iaload, 1) := by decide +kernel
theorem d_La_law_767 : decode code 767 = .ok (.ifCond .eq 7, 3) := by decide +kernel
theorem d_La_law_770 : decode code 770 = .ok (.iconst 1, 1) := by decide +kernel
theorem d_La_law_771 : decode code 771 = .ok (.goto 4, 3) := by decide +kernel
theorem d_La_law_774 : decode code 774 = .ok (.iconst 0, 1) := by decide +kernel
theorem d_La_law_775 : decode code 775 = .ok (.invokevirtual 111, 3) := by decide +kernel
theorem d_La_law_778 : decode code 778 = .ok (.aload_n 2, 1) := by decide +kernel
theorem d_La_law_779 : decode code 779 = .ok (.aload_n 0, 1) := by decide +kernel
theorem d_La_law_780 : decode code 780 = .ok (.iload_n 3, 1) := by decide +kernel
theorem d_La_law_781 : decode code 781 = .ok (.iconst 1, 1) := by decide +kernel
theorem d_La_law_782 : decode code 782 = .ok (.iadd, 1) := by decide +kernel
theorem d_La_law_783 : decode code 783 = .ok (.iaload, 1) := by decide +kernel
theorem d_La_law_784 : decode code 784 = .ok (.aload_n 0, 1) := by decide +kernel
theorem d_La_law_785 : decode code 785 = .ok (.iload_n 3, 1) := by decide +kernel
theorem d_La_law_786 : decode code 786 = .ok (.iconst 2, 1) := by decide +kernel
theorem d_La_law_787 : decode code 787 = .ok (.iadd, 1) := by decide +kernel
theorem d_La_law_788 : decode code 788 = .ok (.iaload, 1) := by decide +kernel
theorem d_La_law_789 : decode code 789 = .ok (.aload_n 0, 1) := by decide +kernel
theorem d_La_law_790 : decode code 790 = .ok (.iload_n 3, 1) := by decide +kernel
theorem d_La_law_791 : decode code 791 = .ok (.iconst 3, 1) := by decide +kernel
theorem d_La_law_792 : decode code 792 = .ok (.iadd, 1) := by decide +kernel
theorem d_La_law_793 : decode code 793 = .ok (.iaload, 1) := by decide +kernel
theorem d_La_law_794 : decode code 794 = .ok (.ifCond .eq 7, 3) := by decide +kernel
theorem d_La_law_797 : decode code 797 = .ok (.iconst 1, 1) := by decide +kernel
theorem d_La_law_798 : decode code 798 = .ok (.goto 4, 3) := by decide +kernel
theorem d_La_law_801 : decode code 801 = .ok (.iconst 0, 1) := by decide +kernel
theorem d_La_law_802 : decode code 802 = .ok (.invokevirtual 115, 3) := by decide +kernel
theorem d_La_law_805 : decode code 805 = .ok (.if_icmp .eq 128, 3) := by decide +kernel
theorem d_La_law_808 : decode code 808 = .ok (.iconst 0, 1) := by decide +kernel
theorem d_La_law_809 : decode code 809 = .ok (.ireturn, 1) := by decide +kernel
theorem d_La_law_810 : decode code 810 = .ok (.aload_n 1, 1) := by decide +kernel
theorem d_La_law_811 : decode code 811 = .ok (.aload_n 0, 1) := by decide +kernel
theorem d_La_law_812 : decode code 812 = .ok (.iload_n 3, 1) := by decide +kernel
theorem d_La_law_813 : decode code 813 = .ok (.iconst 1, 1) := by decide +kernel
theorem d_La_law_814 : decode code 814 = .ok (.iadd, 1) := by decide +kernel
theorem d_La_law_815 : decode code 815 = .ok (.iaload, 1) := by decide +kernel
theorem d_La_law_816 : decode code 816 = .ok (.i2l, 1) := by decide +kernel
theorem d_La_law_817 : decode code 817 = .ok (.bipush 32, 2) := by decide +kernel
theorem d_La_law_819 : decode code 819 = .ok (.lshl, 1) := by decide +kernel
theorem d_La_law_820 : decode code 820 = .ok (.aload_n 0, 1) := by decide +kernel
theorem d_La_law_821 : decode code 821 = .ok (.iload_n 3, 1) := by decide +kernel
theorem d_La_law_822 : decode code 822 = .ok (.iconst 2, 1) := by decide +kernel
theorem d_La_law_823 : decode code 823 = .ok (.iadd, 1) := by decide +kernel
theorem d_La_law_824 : decode code 824 = .ok (.iaload, 1) := by decide +kernel
theorem d_La_law_825 : decode code 825 = .ok (.i2l, 1) := by decide +kernel
theorem d_La_law_826 : decode code 826 = .ok (.ldc2_w 116, 3) := by decide +kernel
theorem d_La_law_829 : decode code 829 = .ok (.land, 1) := by decide +kernel
theorem d_La_law_830 : decode code 830 = .ok (.lor, 1) := by decide +kernel
theorem d_La_law_831 : decode code 831 = .ok (.invokevirtual 118, 3) := by decide +kernel
theorem d_La_law_834 : decode code 834 = .ok (.aload_n 2, 1) := by decide +kernel
theorem d_La_law_835 : decode code 835 = .ok (.aload_n 0, 1) := by decide +kernel
theorem d_La_law_836 : decode code 836 = .ok (.iload_n 3, 1) := by decide +kernel
theorem d_La_law_837 : decode code 837 = .ok (.iconst 1, 1) := by decide +kernel
theorem d_La_law_838 : decode code 838 = .ok (.iadd, 1) := by decide +kernel
theorem d_La_law_839 : decode code 839 = .ok (.iaload, 1) := by decide +kernel
theorem d_La_law_840 : decode code 840 = .ok (.i2l, 1) := by decide +kernel
theorem d_La_law_841 : decode code 841 = .ok (.bipush 32, 2) := by decide +kernel
theorem d_La_law_843 : decode code 843 = .ok (.lshl, 1) := by decide +kernel
theorem d_La_law_844 : decode code 844 = .ok (.aload_n 0, 1) := by decide +kernel
theorem d_La_law_845 : decode code 845 = .ok (.iload_n 3, 1) := by decide +kernel
theorem d_La_law_846 : decode code 846 = .ok (.iconst 2, 1) := by decide +kernel
theorem d_La_law_847 : decode code 847 = .ok (.iadd, 1) := by decide +kernel
theorem d_La_law_848 : decode code 848 = .ok (.iaload, 1) := by decide +kernel
theorem d_La_law_849 : decode code 849 = .ok (.i2l, 1) := by decide +kernel
theorem d_La_law_850 : decode code 850 = .ok (.ldc2_w 116, 3) := by decide +kernel
theorem d_La_law_853 : decode code 853 = .ok (.land, 1) := by decide +kernel
theorem d_La_law_854 : decode code 854 = .ok (.lor, 1) := by decide +kernel
theorem d_La_law_855 : decode code 855 = .ok (.invokevirtual 122, 3) := by decide +kernel
theorem d_La_law_858 : decode code 858 = .ok (.lcmp, 1) := by decide +kernel
theorem d_La_law_859 : decode code 859 = .ok (.ifCond .eq 74, 3) := by decide +kernel
theorem d_La_law_862 : decode code 862 = .ok (.iconst 0, 1) := by decide +kernel
theorem d_La_law_863 : decode code 863 = .ok (.ireturn, 1) := by decide +kernel
theorem d_La_law_864 : decode code 864 = .ok (.aload_n 1, 1) := by decide +kernel
theorem d_La_law_865 : decode code 865 = .ok (.aload_n 0, 1) := by decide +kernel
theorem d_La_law_866 : decode code 866 = .ok (.iload_n 3, 1) := by decide +kernel
theorem d_La_law_867 : decode code 867 = .ok (.iconst 1, 1) := by decide +kernel
theorem d_La_law_868 : decode code 868 = .ok (.iadd, 1) := by decide +kernel
theorem d_La_law_869 : decode code 869 = .ok (.iaload, 1) := by decide +kernel
theorem d_La_law_870 : decode code 870 = .ok (.invokevirtual 123, 3) := by decide +kernel
theorem d_La_law_873 : decode code 873 = .ok (.aload_n 2, 1) := by decide +kernel
theorem d_La_law_874 : decode code 874 = .ok (.aload_n 0, 1) := by decide +kernel
theorem d_La_law_875 : decode code 875 = .ok (.iload_n 3, 1) := by decide +kernel
theorem d_La_law_876 : decode code 876 = .ok (.iconst 1, 1) := by decide +kernel
theorem d_La_law_877 : decode code 877 = .ok (.iadd, 1) := by decide +kernel
theorem d_La_law_878 : decode code 878 = .ok (.iaload, 1) := by decide +kernel
theorem d_La_law_879 : decode code 879 = .ok (.invokevirtual 126, 3) := by decide +kernel
theorem d_La_law_882 : decode code 882 = .ok (.if_icmp .eq 51, 3) := by decide +kernel
theorem d_La_law_885 : decode code 885 = .ok (.iconst 0, 1) := by decide +kernel
theorem d_La_law_886 : decode code 886 = .ok (.ireturn, 1) := by decide +kernel
theorem d_La_law_887 : decode code 887 = .ok (.aload_n 1, 1) := by decide +kernel
theorem d_La_law_888 : decode code 888 = .ok (.aload_n 0, 1) := by decide +kernel
theorem d_La_law_889 : decode code 889 = .ok (.iload_n 3, 1) := by decide +kernel
theorem d_La_law_890 : decode code 890 = .ok (.iconst 1, 1) := by decide +kernel
theorem d_La_law_891 : decode code 891 = .ok (.iadd, 1) := by decide +kernel
theorem d_La_law_892 : decode code 892 = .ok (.iaload, 1) := by decide +kernel
theorem d_La_law_893 : decode code 893 = .ok (.invokevirtual 127, 3) := by decide +kernel
theorem d_La_law_896 : decode code 896 = .ok (.aload_n 2, 1) := by decide +kernel
theorem d_La_law_897 : decode code 897 = .ok (.aload_n 0, 1) := by decide +kernel
theorem d_La_law_898 : decode code 898 = .ok (.iload_n 3, 1) := by decide +kernel
theorem d_La_law_899 : decode code 899 = .ok (.iconst 1, 1) := by decide +kernel
theorem d_La_law_900 : decode code 900 = .ok (.iadd, 1) := by decide +kernel
theorem d_La_law_901 : decode code 901 = .ok (.iaload, 1) := by decide +kernel
theorem d_La_law_902 : decode code 902 = .ok (.invokevirtual 130, 3) := by decide +kernel
theorem d_La_law_905 : decode code 905 = .ok (.if_icmp .eq 28, 3) := by decide +kernel
theorem d_La_law_908 : decode code 908 = .ok (.iconst 0, 1) := by decide +kernel
theorem d_La_law_909 : decode code 909 = .ok (.ireturn, 1) := by decide +kernel
theorem d_La_law_910 : decode code 910 = .ok (.aload_n 1, 1) := by decide +kernel
theorem d_La_law_911 : decode code 911 = .ok (.aload_n 0, 1) := by decide +kernel
theorem d_La_law_912 : decode code 912 = .ok (.iload_n 3, 1) := by decide +kernel
theorem d_La_law_913 : decode code 913 = .ok (.iconst 1, 1) := by decide +kernel
theorem d_La_law_914 : decode code 914 = .ok (.iadd, 1) := by decide +kernel
theorem d_La_law_915 : decode code 915 = .ok (.iaload, 1) := by decide +kernel
theorem d_La_law_916 : decode code 916 = .ok (.invokevirtual 131, 3) := by decide +kernel
theorem d_La_law_919 : decode code 919 = .ok (.aload_n 2, 1) := by decide +kernel
theorem d_La_law_920 : decode code 920 = .ok (.aload_n 0, 1) := by decide +kernel
theorem d_La_law_921 : decode code 921 = .ok (.iload_n 3, 1) := by decide +kernel
theorem d_La_law_922 : decode code 922 = .ok (.iconst 1, 1) := by decide +kernel
theorem d_La_law_923 : decode code 923 = .ok (.iadd, 1) := by decide +kernel
theorem d_La_law_924 : decode code 924 = .ok (.iaload, 1) := by decide +kernel
theorem d_La_law_925 : decode code 925 = .ok (.invokevirtual 134, 3) := by decide +kernel
theorem d_La_law_928 : decode code 928 = .ok (.if_icmp .eq 5, 3) := by decide +kernel
theorem d_La_law_931 : decode code 931 = .ok (.iconst 0, 1) := by decide +kernel
theorem d_La_law_932 : decode code 932 = .ok (.ireturn, 1) := by decide +kernel
theorem d_La_law_933 : decode code 933 = .ok (.iinc 3 4, 3) := by decide +kernel
theorem d_La_law_936 : decode code 936 = .ok (.goto (-918), 3) := by decide +kernel
theorem d_La_law_939 : decode code 939 = .ok (.iconst 1, 1) := by decide +kernel
theorem d_La_law_940 : decode code 940 = .ok (.ireturn, 1) := by decide +kernel
