theorem dX12_init_655 : decode cX12_init 655 = .ok (.iconst 0, 1) := by decide +kernel
theorem dX12_init_656 : decode cX12_init 656 = .ok (.iconst 0, 1) := by decide +kernel
theorem dX12_init_657 : decode cX12_init 657 = .ok (.invokestatic 197, 3) := by decide +kernel
theorem dX12_init_660 : decode cX12_init 660 = .ok (.lastore, 1) := by decide +kernel
theorem dX12_init_661 : decode cX12_init 661 = .ok (.aload_n 0, 1) := by decide +kernel
theorem dX12_init_662 : decode cX12_init 662 = .ok (.getfield 34, 3) := by decide +kernel
theorem dX12_init_665 : decode cX12_init 665 = .ok (.bipush 8, 2) := by decide +kernel
theorem dX12_init_667 : decode cX12_init 667 = .ok (.bipush 97, 2) := by decide +kernel
theorem dX12_init_669 : decode cX12_init 669 = .ok (.bipush 110, 2) := by decide +kernel
theorem dX12_init_671 : decode cX12_init 671 = .ok (.bipush 100, 2) := by decide +kernel
theorem dX12_init_673 : decode cX12_init 673 = .ok (.iconst 0, 1) := by decide +kernel
theorem dX12_init_674 : decode cX12_init 674 = .ok (.iconst 0, 1) := by decide +kernel
theorem dX12_init_675 : decode cX12_init 675 = .ok (.iconst 0, 1) := by decide +kernel
theorem dX12_init_676 : decode cX12_init 676 = .ok (.iconst 0, 1) := by decide +kernel
theorem dX12_init_677 : decode cX12_init 677 = .ok (.iconst 0, 1) := by decide +kernel
theorem dX12_init_678 : decode cX12_init 678 = .ok (.invokestatic 197, 3) := by decide +kernel
theorem dX12_init_681 : decode cX12_init 681 = .ok (.lastore, 1) := by decide +kernel
theorem dX12_init_682 : decode cX12_init 682 = .ok (.aload_n 0, 1) := by decide +kernel
theorem dX12_init_683 : decode cX12_init 683 = .ok (.getfield 34, 3) := by decide +kernel
theorem dX12_init_686 : decode cX12_init 686 = .ok (.bipush 9, 2) := by decide +kernel
theorem dX12_init_688 : decode cX12_init 688 = .ok (.bipush 101, 2) := by decide +kernel
theorem dX12_init_690 : decode cX12_init 690 = .ok (.bipush 110, 2) := by decide +kernel
theorem dX12_init_692 : decode cX12_init 692 = .ok (.bipush 100, 2) := by decide +kernel
theorem dX12_init_694 : decode cX12_init 694 = .ok (.iconst 0, 1) := by decide +kernel
theorem dX12_init_695 : decode cX12_init 695 = .ok (.iconst 0, 1) := by decide +kernel
theorem dX12_init_696 : decode cX12_init 696 = .ok (.iconst 0, 1) := by decide +kernel
theorem dX12_init_697 : decode cX12_init 697 = .ok (.iconst 0, 1) := by decide +kernel
theorem dX12_init_698 : decode cX12_init 698 = .ok (.iconst 0, 1) := by decide +kernel
theorem dX12_init_699 : decode cX12_init 699 = .ok (.invokestatic 197, 3) := by decide +kernel
theorem dX12_init_702 : decode cX12_init 702 = .ok (.lastore, 1) := by decide +kernel
theorem dX12_init_703 : decode cX12_init 703 = .ok (.aload_n 0, 1) := by decide +kernel
theorem dX12_init_704 : decode cX12_init 704 = .ok (.getfield 34, 3) := by decide +kernel
theorem dX12_init_707 : decode cX12_init 707 = .ok (.bipush 10, 2) := by decide +kernel
theorem dX12_init_709 : decode cX12_init 709 = .ok (.bipush 115, 2) := by decide +kernel
theorem dX12_init_711 : decode cX12_init 711 = .ok (.bipush 104, 2) := by decide +kernel
theorem dX12_init_713 : decode cX12_init 713 = .ok (.bipush 111, 2) := by decide +kernel
theorem dX12_init_715 : decode cX12_init 715 = .ok (.bipush 119, 2) := by decide +kernel
theorem dX12_init_717 : decode cX12_init 717 = .ok (.bipush 110, 2) := by decide +kernel
theorem dX12_init_719 : decode cX12_init 719 = .ok (.iconst 0, 1) := by decide +kernel
theorem dX12_init_720 : decode cX12_init 720 = .ok (.iconst 0, 1) := by decide +kernel
theorem dX12_init_721 : decode cX12_init 721 = .ok (.iconst 0, 1) := by decide +kernel
theorem dX12_init_722 : decode cX12_init 722 = .ok (.invokestatic 197, 3) := by decide +kernel
theorem dX12_init_725 : decode cX12_init 725 = .ok (.lastore, 1) := by decide +kernel
theorem dX12_init_726 : decode cX12_init 726 = .ok (.aload_n 0, 1) := by decide +kernel
theorem dX12_init_727 : decode cX12_init 727 = .ok (.getfield 34, 3) := by decide +kernel
theorem dX12_init_730 : decode cX12_init 730 = .ok (.bipush 11, 2) := by decide +kernel
theorem dX12_init_732 : decode cX12_init 732 = .ok (.bipush 109, 2) := by decide +kernel
theorem dX12_init_734 : decode cX12_init 734 = .ok (.bipush 105, 2) := by decide +kernel
theorem dX12_init_736 : decode cX12_init 736 = .ok (.bipush 115, 2) := by decide +kernel
theorem dX12_init_738 : decode cX12_init 738 = .ok (.bipush 115, 2) := by decide +kernel
theorem dX12_init_740 : decode cX12_init 740 = .ok (.bipush 101, 2) := by decide +kernel
theorem dX12_init_742 : decode cX12_init 742 = .ok (.bipush 100, 2) := by decide +kernel
theorem dX12_init_744 : decode cX12_init 744 = .ok (.iconst 0, 1) := by decide +kernel
theorem dX12_init_745 : decode cX12_init 745 = .ok (.iconst 0, 1) := by decide +kernel
theorem dX12_init_746 : decode cX12_init 746 = .ok (.invokestatic 197, 3) := by decide +kernel
theorem dX12_init_749 : decode cX12_init 749 = .ok (.lastore, 1) := by decide +kernel
theorem dX12_init_750 : decode cX12_init 750 = .ok (.aload_n 0, 1) := by decide +kernel
theorem dX12_init_751 : decode cX12_init 751 = .ok (.getfield 34, 3) := by decide +kernel
theorem dX12_init_754 : decode cX12_init 754 = .ok (.bipush 12, 2) := by decide +kernel
theorem dX12_init_756 : decode cX12_init 756 = .ok (.bipush 105, 2) := by decide +kernel
theorem dX12_init_758 : decode cX12_init 758 = .ok (.bipush 110, 2) := by decide +kernel
theorem dX12_init_760 : decode cX12_init 760 = .ok (.bipush 115, 2) := by decide +kernel
theorem dX12_init_762 : decode cX12_init 762 = .ok (.bipush 116, 2) := by decide +kernel
theorem dX12_init_764 : decode cX12_init 764 = .ok (.bipush 101, 2) := by decide +kernel
theorem dX12_init_766 : decode cX12_init 766 = .ok (.bipush 97, 2) := by decide +kernel
theorem dX12_init_768 : decode cX12_init 768 = .ok (.bipush 100, 2) := by decide +kernel
theorem dX12_init_770 : decode cX12_init 770 = .ok (.iconst 0, 1) := by decide +kernel
theorem dX12_init_771 : decode cX12_init 771 = .ok (.invokestatic 197, 3) := by decide +kernel
theorem dX12_init_774 : decode cX12_init 774 = .ok (.lastore, 1) := by decide +kernel
theorem dX12_init_775 : decode cX12_init 775 = .ok (.aload_n 0, 1) := by decide +kernel
theorem dX12_init_776 : decode cX12_init 776 = .ok (.getfield 34, 3) := by decide +kernel
theorem dX12_init_779 : decode cX12_init 779 = .ok (.bipush 13, 2) := by decide +kernel
theorem dX12_init_781 : decode cX12_init 781 = .ok (.bipush 109, 2) := by decide +kernel
theorem dX12_init_783 : decode cX12_init 783 = .ok (.bipush 105, 2) := by decide +kernel
theorem dX12_init_785 : decode cX12_init 785 = .ok (.bipush 110, 2) := by decide +kernel
theorem dX12_init_787 : decode cX12_init 787 = .ok (.bipush 117, 2) := by decide +kernel
theorem dX12_init_789 : decode cX12_init 789 = .ok (.bipush 116, 2) := by decide +kernel
theorem dX12_init_791 : decode cX12_init 791 = .ok (.bipush 101, 2) := by decide +kernel
theorem dX12_init_793 : decode cX12_init 793 = .ok (.bipush 115, 2) := by decide +kernel
theorem dX12_init_795 : decode cX12_init 795 = .ok (.iconst 0, 1) := by decide +kernel
theorem dX12_init_796 : decode cX12_init 796 = .ok (.invokestatic 197, 3) := by decide +kernel
theorem dX12_init_799 : decode cX12_init 799 = .ok (.lastore, 1) := by decide +kernel
theorem dX12_init_800 : decode cX12_init 800 = .ok (.aload_n 0, 1) := by decide +kernel
theorem dX12_init_801 : decode cX12_init 801 = .ok (.getfield 34, 3) := by decide +kernel
theorem dX12_init_804 : decode cX12_init 804 = .ok (.bipush 14, 2) := by decide +kernel
theorem dX12_init_806 : decode cX12_init 806 = .ok (.bipush 103, 2) := by decide +kernel
theorem dX12_init_808 : decode cX12_init 808 = .ok (.bipush 97, 2) := by decide +kernel
theorem dX12_init_810 : decode cX12_init 810 = .ok (.bipush 115, 2) := by decide +kernel
theorem dX12_init_812 : decode cX12_init 812 = .ok (.iconst 0, 1) := by decide +kernel
theorem dX12_init_813 : decode cX12_init 813 = .ok (.iconst 0, 1) := by decide +kernel
theorem dX12_init_814 : decode cX12_init 814 = .ok (.iconst 0, 1) := by decide +kernel
theorem dX12_init_815 : decode cX12_init 815 = .ok (.iconst 0, 1) := by decide +kernel
theorem dX12_init_816 : decode cX12_init 816 = .ok (.iconst 0, 1) := by decide +kernel
theorem dX12_init_817 : decode cX12_init 817 = .ok (.invokestatic 197, 3) := by decide +kernel
theorem dX12_init_820 : decode cX12_init 820 = .ok (.lastore, 1) := by decide +kernel
theorem dX12_init_821 : decode cX12_init 821 = .ok (.aload_n 0, 1) := by decide +kernel
theorem dX12_init_822 : decode cX12_init 822 = .ok (.getfield 34, 3) := by decide +kernel
theorem dX12_init_825 : decode cX12_init 825 = .ok (.bipush 15, 2) := by decide +kernel
theorem dX12_init_827 : decode cX12_init 827 = .ok (.bipush 119, 2) := by decide +kernel
theorem dX12_init_829 : decode cX12_init 829 = .ok (.bipush 111, 2) := by decide +kernel
theorem dX12_init_831 : decode cX12_init 831 = .ok (.bipush 114, 2) := by decide +kernel
theorem dX12_init_833 : decode cX12_init 833 = .ok (.bipush 116, 2) := by decide +kernel
theorem dX12_init_835 : decode cX12_init 835 = .ok (.bipush 104, 2) := by decide +kernel
theorem dX12_init_837 : decode cX12_init 837 = .ok (.iconst 0, 1) := by decide +kernel
theorem dX12_init_838 : decode cX12_init 838 = .ok (.iconst 0, 1) := by decide +kernel
theorem dX12_init_839 : decode cX12_init 839 = .ok (.iconst 0, 1) := by decide +kernel
theorem dX12_init_840 : decode cX12_init 840 = .ok (.invokestatic 197, 3) := by decide +kernel
theorem dX12_init_843 : decode cX12_init 843 = .ok (.lastore, 1) := by decide +kernel
theorem dX12_init_844 : decode cX12_init 844 = .ok (.aload_n 0, 1) := by decide +kernel
theorem dX12_init_845 : decode cX12_init 845 = .ok (.iconst 1, 1) := by decide +kernel
theorem dX12_init_846 : decode cX12_init 846 = .ok (.putfield 201, 3) := by decide +kernel
theorem dX12_init_849 : decode cX12_init 849 = .ok (.return_, 1) := by decide +kernel
theorem dX12_feed_0 : decode cX12_feed 0 = .ok (.aload_n 0, 1) := by decide +kernel
theorem dX12_feed_1 : decode cX12_feed 1 = .ok (.getfield 204, 3) := by decide +kernel
theorem dX12_feed_4 : decode cX12_feed 4 = .ok (.bipush 20, 2) := by decide +kernel
theorem dX12_feed_6 : decode cX12_feed 6 = .ok (.iadd, 1) := by decide +kernel
theorem dX12_feed_7 : decode cX12_feed 7 = .ok (.sipush 3000, 3) := by decide +kernel
theorem dX12_feed_10 : decode cX12_feed 10 = .ok (.if_icmp .le 5, 3) := by decide +kernel
theorem dX12_feed_15 : decode cX12_feed 15 = .ok (.aload_n 0, 1) := by decide +kernel
theorem dX12_feed_16 : decode cX12_feed 16 = .ok (.iload_n 1, 1) := by decide +kernel
theorem dX12_feed_17 : decode cX12_feed 17 = .ok (.invokevirtual 207, 3) := by decide +kernel
theorem dX12_feed_20 : decode cX12_feed 20 = .ok (.aload_n 0, 1) := by decide +kernel
theorem dX12_feed_21 : decode cX12_feed 21 = .ok (.iload_n 2, 1) := by decide +kernel
theorem dX12_feed_22 : decode cX12_feed 22 = .ok (.invokevirtual 207, 3) := by decide +kernel
theorem dX12_feed_25 : decode cX12_feed 25 = .ok (.aload_n 0, 1) := by decide +kernel
theorem dX12_feed_26 : decode cX12_feed 26 = .ok (.iload_n 3, 1) := by decide +kernel
theorem dX12_feed_27 : decode cX12_feed 27 = .ok (.invokevirtual 207, 3) := by decide +kernel
theorem dX12_feed_30 : decode cX12_feed 30 = .ok (.aload_n 0, 1) := by decide +kernel
theorem dX12_feed_31 : decode cX12_feed 31 = .ok (.iload 4, 2) := by decide +kernel
theorem dX12_feed_33 : decode cX12_feed 33 = .ok (.invokevirtual 207, 3) := by decide +kernel
theorem dX12_feed_36 : decode cX12_feed 36 = .ok (.aload_n 0, 1) := by decide +kernel
theorem dX12_feed_37 : decode cX12_feed 37 = .ok (.iload 5, 2) := by decide +kernel
theorem dX12_feed_39 : decode cX12_feed 39 = .ok (.invokevirtual 207, 3) := by decide +kernel
theorem dX12_feed_42 : decode cX12_feed 42 = .ok (.aload_n 0, 1) := by decide +kernel
theorem dX12_feed_43 : decode cX12_feed 43 = .ok (.getfield 204, 3) := by decide +kernel
theorem dX12_feed_46 : decode cX12_feed 46 = .ok (.ireturn, 1) := by decide +kernel
theorem dX12_put_0 : decode cX12_put 0 = .ok (.bipush 24, 2) := by decide +kernel
theorem dX12_put_2 : decode cX12_put 2 = .ok (.istore_n 2, 1) := by decide +kernel
theorem dX12_put_3 : decode cX12_put 3 = .ok (.iload_n 2, 1) := by decide +kernel
theorem dX12_put_4 : decode cX12_put 4 = .ok (.ifCond .lt 32, 3) := by decide +kernel
theorem dX12_put_7 : decode cX12_put 7 = .ok (.aload_n 0, 1) := by decide +kernel
theorem dX12_put_8 : decode cX12_put 8 = .ok (.getfield 13, 3) := by decide +kernel
theorem dX12_put_11 : decode cX12_put 11 = .ok (.aload_n 0, 1) := by decide +kernel
theorem dX12_put_12 : decode cX12_put 12 = .ok (.getfield 204, 3) := by decide +kernel
theorem dX12_put_15 : decode cX12_put 15 = .ok (.iload_n 1, 1) := by decide +kernel
theorem dX12_put_16 : decode cX12_put 16 = .ok (.iload_n 2, 1) := by decide +kernel
theorem dX12_put_17 : decode cX12_put 17 = .ok (.ishr, 1) := by decide +kernel
theorem dX12_put_18 : decode cX12_put 18 = .ok (.i2b, 1) := by decide +kernel
theorem dX12_put_19 : decode cX12_put 19 = .ok (.bastore, 1) := by decide +kernel
theorem dX12_put_20 : decode cX12_put 20 = .ok (.aload_n 0, 1) := by decide +kernel
theorem dX12_put_21 : decode cX12_put 21 = .ok (.dup, 1) := by decide +kernel
theorem dX12_put_22 : decode cX12_put 22 = .ok (.getfield 204, 3) := by decide +kernel
theorem dX12_put_25 : decode cX12_put 25 = .ok (.iconst 1, 1) := by decide +kernel
theorem dX12_put_26 : decode cX12_put 26 = .ok (.iadd, 1) := by decide +kernel
theorem dX12_put_27 : decode cX12_put 27 = .ok (.putfield 204, 3) := by decide +kernel
theorem dX12_put_30 : decode cX12_put 30 = .ok (.iinc 2 (-8), 3) := by decide +kernel
theorem dX12_put_33 : decode cX12_put 33 = .ok (.goto (-30), 3) := by decide +kernel
theorem dX12_put_36 : decode cX12_put 36 = .ok (.return_, 1) := by decide +kernel
theorem dX12_back_0 : decode cX12_back 0 = .ok (.iload_n 1, 1) := by decide +kernel
theorem dX12_back_1 : decode cX12_back 1 = .ok (.ifCond .lt 11, 3) := by decide +kernel
theorem dX12_back_4 : decode cX12_back 4 = .ok (.iload_n 1, 1) := by decide +kernel
theorem dX12_back_5 : decode cX12_back 5 = .ok (.aload_n 0, 1) := by decide +kernel
theorem dX12_back_6 : decode cX12_back 6 = .ok (.getfield 204, 3) := by decide +kernel
theorem dX12_back_9 : decode cX12_back 9 = .ok (.if_icmp .le 5, 3) := by decide +kernel
theorem dX12_back_12 : decode cX12_back 12 = .ok (.iconst (-1), 1) := by decide +kernel
theorem dX12_back_13 : decode cX12_back 13 = .ok (.ireturn, 1) := by decide +kernel
theorem dX12_back_14 : decode cX12_back 14 = .ok (.aload_n 0, 1) := by decide +kernel
theorem dX12_back_15 : decode cX12_back 15 = .ok (.dup, 1) := by decide +kernel
theorem dX12_back_16 : decode cX12_back 16 = .ok (.getfield 204, 3) := by decide +kernel
theorem dX12_back_19 : decode cX12_back 19 = .ok (.iload_n 1, 1) := by decide +kernel
theorem dX12_back_20 : decode cX12_back 20 = .ok (.isub, 1) := by decide +kernel
theorem dX12_back_21 : decode cX12_back 21 = .ok (.putfield 204, 3) := by decide +kernel
theorem dX12_back_24 : decode cX12_back 24 = .ok (.aload_n 0, 1) := by decide +kernel
theorem dX12_back_25 : decode cX12_back 25 = .ok (.getfield 204, 3) := by decide +kernel
theorem dX12_back_28 : decode cX12_back 28 = .ok (.ireturn, 1) := by decide +kernel
theorem dX12_at_0 : decode cX12_at 0 = .ok (.iload_n 1, 1) := by decide +kernel
theorem dX12_at_1 : decode cX12_at 1 = .ok (.aload_n 0, 1) := by decide +kernel
theorem dX12_at_2 : decode cX12_at 2 = .ok (.getfield 211, 3) := by decide +kernel
theorem dX12_at_5 : decode cX12_at 5 = .ok (.if_icmp .ge 16, 3) := by decide +kernel
theorem dX12_at_21 : decode cX12_at 21 = .ok (.iconst 0, 1) := by decide +kernel
theorem dX12_at_22 : decode cX12_at 22 = .ok (.ireturn, 1) := by decide +kernel
theorem dX12_more_0 : decode cX12_more 0 = .ok (.iload_n 2, 1) := by decide +kernel
theorem dX12_more_1 : decode cX12_more 1 = .ok (.ifCond .ne 7, 3) := by decide +kernel
theorem dX12_more_4 : decode cX12_more 4 = .ok (.lload_n 0, 1) := by decide +kernel
theorem dX12_more_5 : decode cX12_more 5 = .ok (.goto 16, 3) := by decide +kernel
theorem dX12_more_8 : decode cX12_more 8 = .ok (.ldc2_w 214, 3) := by decide +kernel
theorem dX12_more_11 : decode cX12_more 11 = .ok (.lload_n 0, 1) := by decide +kernel
theorem dX12_more_12 : decode cX12_more 12 = .ok (.lmul, 1) := by decide +kernel
theorem dX12_more_13 : decode cX12_more 13 = .ok (.iload_n 2, 1) := by decide +kernel
theorem dX12_more_14 : decode cX12_more 14 = .ok (.bipush 97, 2) := by decide +kernel
theorem dX12_more_16 : decode cX12_more 16 = .ok (.isub, 1) := by decide +kernel
theorem dX12_more_17 : decode cX12_more 17 = .ok (.iconst 1, 1) := by decide +kernel
theorem dX12_more_18 : decode cX12_more 18 = .ok (.iadd, 1) := by decide +kernel
theorem dX12_more_19 : decode cX12_more 19 = .ok (.i2l, 1) := by decide +kernel
theorem dX12_more_20 : decode cX12_more 20 = .ok (.ladd, 1) := by decide +kernel
theorem dX12_more_21 : decode cX12_more 21 = .ok (.lreturn, 1) := by decide +kernel
theorem dX12_word_0 : decode cX12_word 0 = .ok (.lconst 0, 1) := by decide +kernel
theorem dX12_word_1 : decode cX12_word 1 = .ok (.iload_n 0, 1) := by decide +kernel
theorem dX12_word_2 : decode cX12_word 2 = .ok (.invokestatic 216, 3) := by decide +kernel
theorem dX12_word_5 : decode cX12_word 5 = .ok (.iload_n 1, 1) := by decide +kernel
theorem dX12_word_6 : decode cX12_word 6 = .ok (.invokestatic 216, 3) := by decide +kernel
theorem dX12_word_9 : decode cX12_word 9 = .ok (.iload_n 2, 1) := by decide +kernel
theorem dX12_word_10 : decode cX12_word 10 = .ok (.invokestatic 216, 3) := by decide +kernel
theorem dX12_word_13 : decode cX12_word 13 = .ok (.iload_n 3, 1) := by decide +kernel
theorem dX12_word_14 : decode cX12_word 14 = .ok (.invokestatic 216, 3) := by decide +kernel
theorem dX12_word_17 : decode cX12_word 17 = .ok (.iload 4, 2) := by decide +kernel
theorem dX12_word_19 : decode cX12_word 19 = .ok (.invokestatic 216, 3) := by decide +kernel
theorem dX12_word_22 : decode cX12_word 22 = .ok (.iload 5, 2) := by decide +kernel
theorem dX12_word_24 : decode cX12_word 24 = .ok (.invokestatic 216, 3) := by decide +kernel
theorem dX12_word_27 : decode cX12_word 27 = .ok (.iload 6, 2) := by decide +kernel
theorem dX12_word_29 : decode cX12_word 29 = .ok (.invokestatic 216, 3) := by decide +kernel
theorem dX12_word_32 : decode cX12_word 32 = .ok (.iload 7, 2) := by decide +kernel
theorem dX12_word_34 : decode cX12_word 34 = .ok (.invokestatic 216, 3) := by decide +kernel
theorem dX12_word_37 : decode cX12_word 37 = .ok (.lreturn, 1) := by decide +kernel
theorem dX12_token_0 : decode cX12_token 0 = .ok (.aload_n 0, 1) := by decide +kernel
theorem dX12_token_1 : decode cX12_token 1 = .ok (.getfield 20, 3) := by decide +kernel
theorem dX12_token_4 : decode cX12_token 4 = .ok (.aload_n 0, 1) := by decide +kernel
theorem dX12_token_5 : decode cX12_token 5 = .ok (.getfield 220, 3) := by decide +kernel
theorem dX12_token_8 : decode cX12_token 8 = .ok (.iload_n 1, 1) := by decide +kernel
theorem dX12_token_9 : decode cX12_token 9 = .ok (.iastore, 1) := by decide +kernel
theorem dX12_token_10 : decode cX12_token 10 = .ok (.aload_n 0, 1) := by decide +kernel
theorem dX12_token_11 : decode cX12_token 11 = .ok (.getfield 24, 3) := by decide +kernel
theorem dX12_token_14 : decode cX12_token 14 = .ok (.aload_n 0, 1) := by decide +kernel
theorem dX12_token_15 : decode cX12_token 15 = .ok (.getfield 220, 3) := by decide +kernel
theorem dX12_token_18 : decode cX12_token 18 = .ok (.iload_n 2, 1) := by decide +kernel
theorem dX12_token_19 : decode cX12_token 19 = .ok (.iastore, 1) := by decide +kernel
theorem dX12_token_20 : decode cX12_token 20 = .ok (.aload_n 0, 1) := by decide +kernel
theorem dX12_token_21 : decode cX12_token 21 = .ok (.getfield 27, 3) := by decide +kernel
theorem dX12_token_24 : decode cX12_token 24 = .ok (.aload_n 0, 1) := by decide +kernel
theorem dX12_token_25 : decode cX12_token 25 = .ok (.getfield 220, 3) := by decide +kernel
theorem dX12_token_28 : decode cX12_token 28 = .ok (.iload_n 3, 1) := by decide +kernel
theorem dX12_token_29 : decode cX12_token 29 = .ok (.iastore, 1) := by decide +kernel
theorem dX12_token_30 : decode cX12_token 30 = .ok (.aload_n 0, 1) := by decide +kernel
theorem dX12_token_31 : decode cX12_token 31 = .ok (.getfield 30, 3) := by decide +kernel
theorem dX12_token_34 : decode cX12_token 34 = .ok (.aload_n 0, 1) := by decide +kernel
theorem dX12_token_35 : decode cX12_token 35 = .ok (.getfield 220, 3) := by decide +kernel
theorem dX12_token_38 : decode cX12_token 38 = .ok (.lload 4, 2) := by decide +kernel
theorem dX12_token_40 : decode cX12_token 40 = .ok (.lastore, 1) := by decide +kernel
theorem dX12_token_41 : decode cX12_token 41 = .ok (.aload_n 0, 1) := by decide +kernel
theorem dX12_token_42 : decode cX12_token 42 = .ok (.dup, 1) := by decide +kernel
theorem dX12_token_43 : decode cX12_token 43 = .ok (.getfield 220, 3) := by decide +kernel
theorem dX12_token_46 : decode cX12_token 46 = .ok (.iconst 1, 1) := by decide +kernel
theorem dX12_token_47 : decode cX12_token 47 = .ok (.iadd, 1) := by decide +kernel
theorem dX12_token_48 : decode cX12_token 48 = .ok (.putfield 220, 3) := by decide +kernel
theorem dX12_token_51 : decode cX12_token 51 = .ok (.return_, 1) := by decide +kernel
theorem dX12_cut_0 : decode cX12_cut 0 = .ok (.aload_n 0, 1) := by decide +kernel
theorem dX12_cut_1 : decode cX12_cut 1 = .ok (.iconst 0, 1) := by decide +kernel
theorem dX12_cut_2 : decode cX12_cut 2 = .ok (.putfield 220, 3) := by decide +kernel
theorem dX12_cut_5 : decode cX12_cut 5 = .ok (.iconst 0, 1) := by decide +kernel
theorem dX12_cut_6 : decode cX12_cut 6 = .ok (.istore_n 1, 1) := by decide +kernel
theorem dX12_cut_7 : decode cX12_cut 7 = .ok (.aload_n 0, 1) := by decide +kernel
theorem dX12_cut_8 : decode cX12_cut 8 = .ok (.getfield 220, 3) := by decide +kernel
theorem dX12_cut_11 : decode cX12_cut 11 = .ok (.sipush 600, 3) := by decide +kernel
theorem dX12_cut_14 : decode cX12_cut 14 = .ok (.if_icmp .gt 280, 3) := by decide +kernel
theorem dX12_cut_17 : decode cX12_cut 17 = .ok (.aload_n 0, 1) := by decide +kernel
theorem dX12_cut_18 : decode cX12_cut 18 = .ok (.iload_n 1, 1) := by decide +kernel
theorem dX12_cut_19 : decode cX12_cut 19 = .ok (.invokevirtual 223, 3) := by decide +kernel
theorem dX12_cut_22 : decode cX12_cut 22 = .ok (.istore_n 2, 1) := by decide +kernel
theorem dX12_cut_23 : decode cX12_cut 23 = .ok (.iload_n 1, 1) := by decide +kernel
theorem dX12_cut_24 : decode cX12_cut 24 = .ok (.aload_n 0, 1) := by decide +kernel
theorem dX12_cut_25 : decode cX12_cut 25 = .ok (.getfield 211, 3) := by decide +kernel
theorem dX12_cut_28 : decode cX12_cut 28 = .ok (.if_icmp .lt 15, 3) := by decide +kernel
theorem dX12_cut_31 : decode cX12_cut 31 = .ok (.aload_n 0, 1) := by decide +kernel
theorem dX12_cut_32 : decode cX12_cut 32 = .ok (.iconst 0, 1) := by decide +kernel
theorem dX12_cut_33 : decode cX12_cut 33 = .ok (.aload_n 0, 1) := by decide +kernel
theorem dX12_cut_34 : decode cX12_cut 34 = .ok (.getfield 211, 3) := by decide +kernel
theorem dX12_cut_37 : decode cX12_cut 37 = .ok (.iconst 0, 1) := by decide +kernel
theorem dX12_cut_38 : decode cX12_cut 38 = .ok (.lconst 0, 1) := by decide +kernel
theorem dX12_cut_39 : decode cX12_cut 39 = .ok (.invokevirtual 227, 3) := by decide +kernel
theorem dX12_cut_42 : decode cX12_cut 42 = .ok (.return_, 1) := by decide +kernel
theorem dX12_is_0 : decode cX12_is 0 = .ok (.aload_n 0, 1) := by decide +kernel
theorem dX12_is_1 : decode cX12_is 1 = .ok (.getfield 242, 3) := by decide +kernel
theorem dX12_is_4 : decode cX12_is 4 = .ok (.ifCond .ne 20, 3) := by decide +kernel
theorem dX12_is_7 : decode cX12_is 7 = .ok (.aload_n 0, 1) := by decide +kernel
theorem dX12_is_8 : decode cX12_is 8 = .ok (.getfield 20, 3) := by decide +kernel
theorem dX12_is_11 : decode cX12_is 11 = .ok (.aload_n 0, 1) := by decide +kernel
theorem dX12_is_12 : decode cX12_is 12 = .ok (.getfield 245, 3) := by decide +kernel
theorem dX12_is_15 : decode cX12_is 15 = .ok (.iaload, 1) := by decide +kernel
theorem dX12_is_16 : decode cX12_is 16 = .ok (.iload_n 1, 1) := by decide +kernel
theorem dX12_is_17 : decode cX12_is 17 = .ok (.if_icmp .ne 7, 3) := by decide +kernel
theorem dX12_is_20 : decode cX12_is 20 = .ok (.iconst 1, 1) := by decide +kernel
theorem dX12_is_21 : decode cX12_is 21 = .ok (.goto 4, 3) := by decide +kernel
theorem dX12_is_25 : decode cX12_is 25 = .ok (.ireturn, 1) := by decide +kernel
theorem dX12_read_0 : decode cX12_read 0 = .ok (.aload_n 0, 1) := by decide +kernel
theorem dX12_read_1 : decode cX12_read 1 = .ok (.aload_n 0, 1) := by decide +kernel
theorem dX12_read_2 : decode cX12_read 2 = .ok (.getfield 204, 3) := by decide +kernel
theorem dX12_read_5 : decode cX12_read 5 = .ok (.putfield 211, 3) := by decide +kernel
theorem dX12_read_8 : decode cX12_read 8 = .ok (.iconst 0, 1) := by decide +kernel
theorem dX12_read_9 : decode cX12_read 9 = .ok (.istore_n 1, 1) := by decide +kernel
theorem dX12_read_10 : decode cX12_read 10 = .ok (.iload_n 1, 1) := by decide +kernel
theorem dX12_read_11 : decode cX12_read 11 = .ok (.aload_n 0, 1) := by decide +kernel
theorem dX12_read_12 : decode cX12_read 12 = .ok (.getfield 211, 3) := by decide +kernel
theorem dX12_read_15 : decode cX12_read 15 = .ok (.if_icmp .ge 21, 3) := by decide +kernel
theorem dX12_read_36 : decode cX12_read 36 = .ok (.aload_n 0, 1) := by decide +kernel
theorem dX12_read_37 : decode cX12_read 37 = .ok (.iconst 0, 1) := by decide +kernel
theorem dX12_read_38 : decode cX12_read 38 = .ok (.putfield 204, 3) := by decide +kernel
theorem dX12_read_41 : decode cX12_read 41 = .ok (.aload_n 0, 1) := by decide +kernel
theorem dX12_read_42 : decode cX12_read 42 = .ok (.invokevirtual 266, 3) := by decide +kernel
theorem dX12_read_45 : decode cX12_read 45 = .ok (.aload_n 0, 1) := by decide +kernel
theorem dX12_read_46 : decode cX12_read 46 = .ok (.iconst 0, 1) := by decide +kernel
theorem dX12_read_47 : decode cX12_read 47 = .ok (.putfield 245, 3) := by decide +kernel
theorem dX12_read_50 : decode cX12_read 50 = .ok (.aload_n 0, 1) := by decide +kernel
theorem dX12_read_51 : decode cX12_read 51 = .ok (.iconst 0, 1) := by decide +kernel
theorem dX12_read_52 : decode cX12_read 52 = .ok (.putfield 269, 3) := by decide +kernel
theorem dX12_read_55 : decode cX12_read 55 = .ok (.aload_n 0, 1) := by decide +kernel
theorem dX12_read_56 : decode cX12_read 56 = .ok (.iconst 0, 1) := by decide +kernel
theorem dX12_read_57 : decode cX12_read 57 = .ok (.putfield 242, 3) := by decide +kernel
theorem dX12_read_60 : decode cX12_read 60 = .ok (.aload_n 0, 1) := by decide +kernel
theorem dX12_read_61 : decode cX12_read 61 = .ok (.iconst 0, 1) := by decide +kernel
theorem dX12_read_62 : decode cX12_read 62 = .ok (.putfield 251, 3) := by decide +kernel
theorem dX12_read_65 : decode cX12_read 65 = .ok (.aload_n 0, 1) := by decide +kernel
theorem dX12_read_66 : decode cX12_read 66 = .ok (.iconst 1, 1) := by decide +kernel
theorem dX12_read_67 : decode cX12_read 67 = .ok (.aload_n 0, 1) := by decide +kernel
theorem dX12_read_68 : decode cX12_read 68 = .ok (.getfield 272, 3) := by decide +kernel
theorem dX12_read_71 : decode cX12_read 71 = .ok (.isub, 1) := by decide +kernel
theorem dX12_read_72 : decode cX12_read 72 = .ok (.putfield 275, 3) := by decide +kernel
theorem dX12_read_75 : decode cX12_read 75 = .ok (.aload_n 0, 1) := by decide +kernel
theorem dX12_read_76 : decode cX12_read 76 = .ok (.getfield 40, 3) := by decide +kernel
theorem dX12_read_79 : decode cX12_read 79 = .ok (.aload_n 0, 1) := by decide +kernel
theorem dX12_read_80 : decode cX12_read 80 = .ok (.getfield 275, 3) := by decide +kernel
theorem dX12_read_83 : decode cX12_read 83 = .ok (.iconst 0, 1) := by decide +kernel
theorem dX12_read_84 : decode cX12_read 84 = .ok (.iastore, 1) := by decide +kernel
theorem dX12_read_85 : decode cX12_read 85 = .ok (.aload_n 0, 1) := by decide +kernel
theorem dX12_read_86 : decode cX12_read 86 = .ok (.getfield 80, 3) := by decide +kernel
theorem dX12_read_89 : decode cX12_read 89 = .ok (.aload_n 0, 1) := by decide +kernel
theorem dX12_read_90 : decode cX12_read 90 = .ok (.getfield 275, 3) := by decide +kernel
theorem dX12_read_93 : decode cX12_read 93 = .ok (.iconst 0, 1) := by decide +kernel
theorem dX12_read_94 : decode cX12_read 94 = .ok (.iastore, 1) := by decide +kernel
theorem dX12_read_95 : decode cX12_read 95 = .ok (.aload_n 0, 1) := by decide +kernel
theorem dX12_read_96 : decode cX12_read 96 = .ok (.sipush 700, 3) := by decide +kernel
theorem dX12_read_99 : decode cX12_read 99 = .ok (.aload_n 0, 1) := by decide +kernel
theorem dX12_read_100 : decode cX12_read 100 = .ok (.getfield 275, 3) := by decide +kernel
theorem dX12_read_103 : decode cX12_read 103 = .ok (.imul, 1) := by decide +kernel
theorem dX12_read_104 : decode cX12_read 104 = .ok (.putfield 278, 3) := by decide +kernel
theorem dX12_read_107 : decode cX12_read 107 = .ok (.aload_n 0, 1) := by decide +kernel
theorem dX12_read_108 : decode cX12_read 108 = .ok (.getfield 242, 3) := by decide +kernel
theorem dX12_read_111 : decode cX12_read 111 = .ok (.ifCond .ne 18, 3) := by decide +kernel
theorem dX12_read_114 : decode cX12_read 114 = .ok (.aload_n 0, 1) := by decide +kernel
theorem dX12_read_115 : decode cX12_read 115 = .ok (.iconst 0, 1) := by decide +kernel
theorem dX12_read_116 : decode cX12_read 116 = .ok (.invokevirtual 260, 3) := by decide +kernel
theorem dX12_read_119 : decode cX12_read 119 = .ok (.ifCond .ne 10, 3) := by decide +kernel
theorem dX12_read_129 : decode cX12_read 129 = .ok (.aload_n 0, 1) := by decide +kernel
theorem dX12_read_130 : decode cX12_read 130 = .ok (.aload_n 0, 1) := by decide +kernel
theorem dX12_read_131 : decode cX12_read 131 = .ok (.getfield 242, 3) := by decide +kernel
theorem dX12_read_134 : decode cX12_read 134 = .ok (.ifCond .le 10, 3) := by decide +kernel
theorem dX12_read_144 : decode cX12_read 144 = .ok (.aload_n 0, 1) := by decide +kernel
theorem dX12_read_145 : decode cX12_read 145 = .ok (.getfield 251, 3) := by decide +kernel
theorem dX12_read_148 : decode cX12_read 148 = .ok (.ifCond .le 10, 3) := by decide +kernel
theorem dX12_read_158 : decode cX12_read 158 = .ok (.iconst (-1), 1) := by decide +kernel
theorem dX12_read_159 : decode cX12_read 159 = .ok (.putfield 37, 3) := by decide +kernel
theorem dX12_read_162 : decode cX12_read 162 = .ok (.aload_n 0, 1) := by decide +kernel
theorem dX12_read_163 : decode cX12_read 163 = .ok (.getfield 242, 3) := by decide +kernel
theorem dX12_read_166 : decode cX12_read 166 = .ok (.ifCond .le 8, 3) := by decide +kernel
theorem dX12_read_174 : decode cX12_read 174 = .ok (.aload_n 0, 1) := by decide +kernel
theorem dX12_read_175 : decode cX12_read 175 = .ok (.getfield 251, 3) := by decide +kernel
theorem dX12_read_178 : decode cX12_read 178 = .ok (.ifCond .le 8, 3) := by decide +kernel
theorem dX12_read_186 : decode cX12_read 186 = .ok (.aload_n 0, 1) := by decide +kernel
theorem dX12_read_187 : decode cX12_read 187 = .ok (.aload_n 0, 1) := by decide +kernel
theorem dX12_read_188 : decode cX12_read 188 = .ok (.getfield 275, 3) := by decide +kernel
theorem dX12_read_191 : decode cX12_read 191 = .ok (.putfield 272, 3) := by decide +kernel
theorem dX12_read_194 : decode cX12_read 194 = .ok (.aload_n 0, 1) := by decide +kernel
theorem dX12_read_195 : decode cX12_read 195 = .ok (.iconst 0, 1) := by decide +kernel
theorem dX12_read_196 : decode cX12_read 196 = .ok (.putfield 284, 3) := by decide +kernel
theorem dX12_read_199 : decode cX12_read 199 = .ok (.aload_n 0, 1) := by decide +kernel
theorem dX12_read_200 : decode cX12_read 200 = .ok (.iconst 0, 1) := by decide +kernel
theorem dX12_read_201 : decode cX12_read 201 = .ok (.putfield 287, 3) := by decide +kernel
theorem dX12_read_204 : decode cX12_read 204 = .ok (.iconst 0, 1) := by decide +kernel
theorem dX12_read_205 : decode cX12_read 205 = .ok (.ireturn, 1) := by decide +kernel
theorem dX12_place_0 : decode cX12_place 0 = .ok (.aload_n 0, 1) := by decide +kernel
theorem dX12_place_1 : decode cX12_place 1 = .ok (.getfield 37, 3) := by decide +kernel
theorem dX12_place_4 : decode cX12_place 4 = .ok (.ireturn, 1) := by decide +kernel
theorem dX12_isHall_0 : decode cX12_isHall 0 = .ok (.iload_n 1, 1) := by decide +kernel
theorem dX12_isHall_1 : decode cX12_isHall 1 = .ok (.ifCond .lt 15, 3) := by decide +kernel
theorem dX12_isHall_4 : decode cX12_isHall 4 = .ok (.iload_n 1, 1) := by decide +kernel
theorem dX12_isHall_5 : decode cX12_isHall 5 = .ok (.aload_n 0, 1) := by decide +kernel
theorem dX12_isHall_6 : decode cX12_isHall 6 = .ok (.getfield 201, 3) := by decide +kernel
theorem dX12_isHall_9 : decode cX12_isHall 9 = .ok (.if_icmp .ge 7, 3) := by decide +kernel
theorem dX12_isHall_12 : decode cX12_isHall 12 = .ok (.iconst 1, 1) := by decide +kernel
theorem dX12_isHall_13 : decode cX12_isHall 13 = .ok (.goto 4, 3) := by decide +kernel
theorem dX12_isHall_16 : decode cX12_isHall 16 = .ok (.iconst 0, 1) := by decide +kernel
theorem dX12_isHall_17 : decode cX12_isHall 17 = .ok (.ireturn, 1) := by decide +kernel
theorem dX12_isPlate_0 : decode cX12_isPlate 0 = .ok (.iload_n 1, 1) := by decide +kernel
theorem dX12_isPlate_1 : decode cX12_isPlate 1 = .ok (.ifCond .lt 15, 3) := by decide +kernel
theorem dX12_isPlate_4 : decode cX12_isPlate 4 = .ok (.iload_n 1, 1) := by decide +kernel
theorem dX12_isPlate_5 : decode cX12_isPlate 5 = .ok (.aload_n 0, 1) := by decide +kernel
theorem dX12_isPlate_6 : decode cX12_isPlate 6 = .ok (.getfield 320, 3) := by decide +kernel
theorem dX12_isPlate_9 : decode cX12_isPlate 9 = .ok (.if_icmp .ge 7, 3) := by decide +kernel
theorem dX12_isPlate_16 : decode cX12_isPlate 16 = .ok (.iconst 0, 1) := by decide +kernel
theorem dX12_isPlate_17 : decode cX12_isPlate 17 = .ok (.ireturn, 1) := by decide +kernel
theorem dX12_isHour_0 : decode cX12_isHour 0 = .ok (.iload_n 0, 1) := by decide +kernel
theorem dX12_isHour_1 : decode cX12_isHour 1 = .ok (.ifCond .lt 14, 3) := by decide +kernel
theorem dX12_isHour_4 : decode cX12_isHour 4 = .ok (.iload_n 0, 1) := by decide +kernel
theorem dX12_isHour_5 : decode cX12_isHour 5 = .ok (.sipush 700, 3) := by decide +kernel
theorem dX12_isHour_8 : decode cX12_isHour 8 = .ok (.if_icmp .gt 7, 3) := by decide +kernel
theorem dX12_isHour_11 : decode cX12_isHour 11 = .ok (.iconst 1, 1) := by decide +kernel
theorem dX12_isHour_12 : decode cX12_isHour 12 = .ok (.goto 4, 3) := by decide +kernel
theorem dX12_isHour_15 : decode cX12_isHour 15 = .ok (.iconst 0, 1) := by decide +kernel
theorem dX12_isHour_16 : decode cX12_isHour 16 = .ok (.ireturn, 1) := by decide +kernel
theorem dX12_isKnown_0 : decode cX12_isKnown 0 = .ok (.iload_n 1, 1) := by decide +kernel
theorem dX12_isKnown_1 : decode cX12_isKnown 1 = .ok (.ifCond .lt 15, 3) := by decide +kernel
