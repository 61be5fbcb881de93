theorem dL_law_596 : decode cL_law 596 = .ok (.aload_n 1, 1) := by decide +kernel
theorem dL_law_597 : decode cL_law 597 = .ok (.aload_n 0, 1) := by decide +kernel
theorem dL_law_598 : decode cL_law 598 = .ok (.iload_n 3, 1) := by decide +kernel
theorem dL_law_599 : decode cL_law 599 = .ok (.iconst 1, 1) := by decide +kernel
theorem dL_law_600 : decode cL_law 600 = .ok (.iadd, 1) := by decide +kernel
theorem dL_law_601 : decode cL_law 601 = .ok (.iaload, 1) := by decide +kernel
theorem dL_law_602 : decode cL_law 602 = .ok (.invokevirtual 67, 3) := by decide +kernel
theorem cw_X11_day : CWv yX11_day cX11_day 3 (some .int) 1 := ⟨⟨⟨List.mem_of_getElem? (i := 124) (by decide +kernel), by decide +kernel⟩, ⟨List.mem_of_getElem? (i := 1062) (by decide +kernel), by decide +kernel⟩, by decide +kernel⟩, ⟨List.mem_of_getElem? (i := 1060) (by decide +kernel), by decide +kernel⟩, ⟨List.mem_of_getElem? (i := 1061) (by decide +kernel), by decide +kernel⟩⟩
theorem kmL_67 : inW (Cond.methodLink RL 67 yX11_day) := ⟨List.mem_of_getElem? (i := 1059) (by decide +kernel), by decide +kernel⟩
theorem dL_law_605 : decode cL_law 605 = .ok (.pop, 1) := by decide +kernel
theorem dL_law_606 : decode cL_law 606 = .ok (.aload_n 2, 1) := by decide +kernel
theorem dL_law_607 : decode cL_law 607 = .ok (.aload_n 0, 1) := by decide +kernel
theorem dL_law_608 : decode cL_law 608 = .ok (.iload_n 3, 1) := by decide +kernel
theorem dL_law_609 : decode cL_law 609 = .ok (.iconst 1, 1) := by decide +kernel
theorem dL_law_610 : decode cL_law 610 = .ok (.iadd, 1) := by decide +kernel
theorem dL_law_611 : decode cL_law 611 = .ok (.iaload, 1) := by decide +kernel
theorem dL_law_612 : decode cL_law 612 = .ok (.invokevirtual 70, 3) := by decide +kernel
theorem cw_X12_day : CWv yX12_day cX12_day 2 (some .int) 1 := ⟨⟨⟨List.mem_of_getElem? (i := 137) (by decide +kernel), by decide +kernel⟩, ⟨List.mem_of_getElem? (i := 1908) (by decide +kernel), by decide +kernel⟩, by decide +kernel⟩, ⟨List.mem_of_getElem? (i := 1906) (by decide +kernel), by decide +kernel⟩, ⟨List.mem_of_getElem? (i := 1907) (by decide +kernel), by decide +kernel⟩⟩
theorem kmL_70 : inW (Cond.methodLink RL 70 yX12_day) := ⟨List.mem_of_getElem? (i := 1905) (by decide +kernel), by decide +kernel⟩
theorem dL_law_615 : decode cL_law 615 = .ok (.pop, 1) := by decide +kernel
theorem dL_law_616 : decode cL_law 616 = .ok (.goto 910, 3) := by decide +kernel
theorem dL_law_619 : decode cL_law 619 = .ok (.aload_n 1, 1) := by decide +kernel
theorem dL_law_620 : decode cL_law 620 = .ok (.aload_n 0, 1) := by decide +kernel
theorem dL_law_621 : decode cL_law 621 = .ok (.iload_n 3, 1) := by decide +kernel
theorem dL_law_622 : decode cL_law 622 = .ok (.iconst 1, 1) := by decide +kernel
theorem dL_law_623 : decode cL_law 623 = .ok (.iadd, 1) := by decide +kernel
theorem dL_law_624 : decode cL_law 624 = .ok (.iaload, 1) := by decide +kernel
theorem dL_law_625 : decode cL_law 625 = .ok (.invokevirtual 71, 3) := by decide +kernel
theorem cw_X11_played : CWv yX11_played cX11_played 4 (some .int) 1 := ⟨⟨⟨List.mem_of_getElem? (i := 124) (by decide +kernel), by decide +kernel⟩, ⟨List.mem_of_getElem? (i := 1096) (by decide +kernel), by decide +kernel⟩, by decide +kernel⟩, ⟨List.mem_of_getElem? (i := 1094) (by decide +kernel), by decide +kernel⟩, ⟨List.mem_of_getElem? (i := 1095) (by decide +kernel), by decide +kernel⟩⟩
theorem kmL_71 : inW (Cond.methodLink RL 71 yX11_played) := ⟨List.mem_of_getElem? (i := 1093) (by decide +kernel), by decide +kernel⟩
theorem dL_law_628 : decode cL_law 628 = .ok (.pop, 1) := by decide +kernel
theorem dL_law_629 : decode cL_law 629 = .ok (.aload_n 2, 1) := by decide +kernel
theorem dL_law_630 : decode cL_law 630 = .ok (.aload_n 0, 1) := by decide +kernel
theorem dL_law_631 : decode cL_law 631 = .ok (.iload_n 3, 1) := by decide +kernel
theorem dL_law_632 : decode cL_law 632 = .ok (.iconst 1, 1) := by decide +kernel
theorem dL_law_633 : decode cL_law 633 = .ok (.iadd, 1) := by decide +kernel
theorem dL_law_634 : decode cL_law 634 = .ok (.iaload, 1) := by decide +kernel
theorem dL_law_635 : decode cL_law 635 = .ok (.invokevirtual 74, 3) := by decide +kernel
theorem cw_X12_played : CWv yX12_played cX12_played 3 (some .int) 1 := ⟨⟨⟨List.mem_of_getElem? (i := 137) (by decide +kernel), by decide +kernel⟩, ⟨List.mem_of_getElem? (i := 1935) (by decide +kernel), by decide +kernel⟩, by decide +kernel⟩, ⟨List.mem_of_getElem? (i := 1933) (by decide +kernel), by decide +kernel⟩, ⟨List.mem_of_getElem? (i := 1934) (by decide +kernel), by decide +kernel⟩⟩
theorem kmL_74 : inW (Cond.methodLink RL 74 yX12_played) := ⟨List.mem_of_getElem? (i := 1932) (by decide +kernel), by decide +kernel⟩
theorem dL_law_638 : decode cL_law 638 = .ok (.pop, 1) := by decide +kernel
theorem dL_law_639 : decode cL_law 639 = .ok (.goto 887, 3) := by decide +kernel
theorem dL_law_642 : decode cL_law 642 = .ok (.aload_n 1, 1) := by decide +kernel
theorem dL_law_643 : decode cL_law 643 = .ok (.aload_n 0, 1) := by decide +kernel
theorem dL_law_644 : decode cL_law 644 = .ok (.iload_n 3, 1) := by decide +kernel
theorem dL_law_645 : decode cL_law 645 = .ok (.iconst 1, 1) := by decide +kernel
theorem dL_law_646 : decode cL_law 646 = .ok (.iadd, 1) := by decide +kernel
theorem dL_law_647 : decode cL_law 647 = .ok (.iaload, 1) := by decide +kernel
theorem dL_law_648 : decode cL_law 648 = .ok (.aload_n 0, 1) := by decide +kernel
theorem dL_law_649 : decode cL_law 649 = .ok (.iload_n 3, 1) := by decide +kernel
theorem dL_law_650 : decode cL_law 650 = .ok (.iconst 2, 1) := by decide +kernel
theorem dL_law_651 : decode cL_law 651 = .ok (.iadd, 1) := by decide +kernel
theorem dL_law_652 : decode cL_law 652 = .ok (.iaload, 1) := by decide +kernel
theorem dL_law_653 : decode cL_law 653 = .ok (.invokevirtual 75, 3) := by decide +kernel
theorem cw_X11_years : CWv yX11_years cX11_years 4 (some .int) 2 := ⟨⟨⟨List.mem_of_getElem? (i := 124) (by decide +kernel), by decide +kernel⟩, ⟨List.mem_of_getElem? (i := 1116) (by decide +kernel), by decide +kernel⟩, by decide +kernel⟩, ⟨List.mem_of_getElem? (i := 1114) (by decide +kernel), by decide +kernel⟩, ⟨List.mem_of_getElem? (i := 1115) (by decide +kernel), by decide +kernel⟩⟩
theorem kmL_75 : inW (Cond.methodLink RL 75 yX11_years) := ⟨List.mem_of_getElem? (i := 1113) (by decide +kernel), by decide +kernel⟩
theorem dL_law_656 : decode cL_law 656 = .ok (.pop, 1) := by decide +kernel
theorem dL_law_657 : decode cL_law 657 = .ok (.aload_n 2, 1) := by decide +kernel
theorem dL_law_658 : decode cL_law 658 = .ok (.aload_n 0, 1) := by decide +kernel
theorem dL_law_659 : decode cL_law 659 = .ok (.iload_n 3, 1) := by decide +kernel
theorem dL_law_660 : decode cL_law 660 = .ok (.iconst 1, 1) := by decide +kernel
theorem dL_law_661 : decode cL_law 661 = .ok (.iadd, 1) := by decide +kernel
theorem dL_law_662 : decode cL_law 662 = .ok (.iaload, 1) := by decide +kernel
theorem dL_law_663 : decode cL_law 663 = .ok (.aload_n 0, 1) := by decide +kernel
theorem dL_law_664 : decode cL_law 664 = .ok (.iload_n 3, 1) := by decide +kernel
theorem dL_law_665 : decode cL_law 665 = .ok (.iconst 2, 1) := by decide +kernel
theorem dL_law_666 : decode cL_law 666 = .ok (.iadd, 1) := by decide +kernel
theorem dL_law_667 : decode cL_law 667 = .ok (.iaload, 1) := by decide +kernel
theorem dL_law_668 : decode cL_law 668 = .ok (.invokevirtual 78, 3) := by decide +kernel
theorem cw_X12_years : CWv yX12_years cX12_years 5 (some .int) 2 := ⟨⟨⟨List.mem_of_getElem? (i := 137) (by decide +kernel), by decide +kernel⟩, ⟨List.mem_of_getElem? (i := 1949) (by decide +kernel), by decide +kernel⟩, by decide +kernel⟩, ⟨List.mem_of_getElem? (i := 1947) (by decide +kernel), by decide +kernel⟩, ⟨List.mem_of_getElem? (i := 1948) (by decide +kernel), by decide +kernel⟩⟩
theorem kmL_78 : inW (Cond.methodLink RL 78 yX12_years) := ⟨List.mem_of_getElem? (i := 1946) (by decide +kernel), by decide +kernel⟩
theorem dL_law_671 : decode cL_law 671 = .ok (.pop, 1) := by decide +kernel
theorem dL_law_672 : decode cL_law 672 = .ok (.goto 854, 3) := by decide +kernel
theorem dL_law_675 : decode cL_law 675 = .ok (.aload_n 1, 1) := by decide +kernel
theorem dL_law_676 : decode cL_law 676 = .ok (.invokevirtual 79, 3) := by decide +kernel
theorem cw_X11_undo : CWv yX11_undo cX11_undo 1 (some .int) 0 := ⟨⟨⟨List.mem_of_getElem? (i := 124) (by decide +kernel), by decide +kernel⟩, ⟨List.mem_of_getElem? (i := 1133) (by decide +kernel), by decide +kernel⟩, by decide +kernel⟩, ⟨List.mem_of_getElem? (i := 1131) (by decide +kernel), by decide +kernel⟩, ⟨List.mem_of_getElem? (i := 1132) (by decide +kernel), by decide +kernel⟩⟩
theorem kmL_79 : inW (Cond.methodLink RL 79 yX11_undo) := ⟨List.mem_of_getElem? (i := 1130) (by decide +kernel), by decide +kernel⟩
theorem dL_law_679 : decode cL_law 679 = .ok (.pop, 1) := by decide +kernel
theorem dL_law_680 : decode cL_law 680 = .ok (.aload_n 2, 1) := by decide +kernel
theorem dL_law_681 : decode cL_law 681 = .ok (.invokevirtual 82, 3) := by decide +kernel
theorem cw_X12_undo : CWv yX12_undo cX12_undo 3 (some .int) 0 := ⟨⟨⟨List.mem_of_getElem? (i := 137) (by decide +kernel), by decide +kernel⟩, ⟨List.mem_of_getElem? (i := 1776) (by decide +kernel), by decide +kernel⟩, by decide +kernel⟩, ⟨List.mem_of_getElem? (i := 1774) (by decide +kernel), by decide +kernel⟩, ⟨List.mem_of_getElem? (i := 1775) (by decide +kernel), by decide +kernel⟩⟩
theorem kmL_82 : inW (Cond.methodLink RL 82 yX12_undo) := ⟨List.mem_of_getElem? (i := 1773) (by decide +kernel), by decide +kernel⟩
theorem dL_law_684 : decode cL_law 684 = .ok (.pop, 1) := by decide +kernel
theorem dL_law_685 : decode cL_law 685 = .ok (.goto 841, 3) := by decide +kernel
theorem dL_law_688 : decode cL_law 688 = .ok (.aload_n 1, 1) := by decide +kernel
theorem dL_law_689 : decode cL_law 689 = .ok (.aload_n 0, 1) := by decide +kernel
theorem dL_law_690 : decode cL_law 690 = .ok (.iload_n 3, 1) := by decide +kernel
theorem dL_law_691 : decode cL_law 691 = .ok (.iconst 1, 1) := by decide +kernel
theorem dL_law_692 : decode cL_law 692 = .ok (.iadd, 1) := by decide +kernel
theorem dL_law_693 : decode cL_law 693 = .ok (.iaload, 1) := by decide +kernel
theorem dL_law_694 : decode cL_law 694 = .ok (.aload_n 0, 1) := by decide +kernel
theorem dL_law_695 : decode cL_law 695 = .ok (.iload_n 3, 1) := by decide +kernel
theorem dL_law_696 : decode cL_law 696 = .ok (.iconst 2, 1) := by decide +kernel
theorem dL_law_697 : decode cL_law 697 = .ok (.iadd, 1) := by decide +kernel
theorem dL_law_698 : decode cL_law 698 = .ok (.iaload, 1) := by decide +kernel
theorem dL_law_699 : decode cL_law 699 = .ok (.invokevirtual 83, 3) := by decide +kernel
theorem cw_X11_of : CWv yX11_of cX11_of 3 (some .int) 2 := ⟨⟨⟨List.mem_of_getElem? (i := 124) (by decide +kernel), by decide +kernel⟩, ⟨List.mem_of_getElem? (i := 1141) (by decide +kernel), by decide +kernel⟩, by decide +kernel⟩, ⟨List.mem_of_getElem? (i := 1139) (by decide +kernel), by decide +kernel⟩, ⟨List.mem_of_getElem? (i := 1140) (by decide +kernel), by decide +kernel⟩⟩
theorem kmL_83 : inW (Cond.methodLink RL 83 yX11_of) := ⟨List.mem_of_getElem? (i := 1138) (by decide +kernel), by decide +kernel⟩
theorem dL_law_702 : decode cL_law 702 = .ok (.pop, 1) := by decide +kernel
theorem dL_law_703 : decode cL_law 703 = .ok (.aload_n 2, 1) := by decide +kernel
theorem dL_law_704 : decode cL_law 704 = .ok (.aload_n 0, 1) := by decide +kernel
theorem dL_law_705 : decode cL_law 705 = .ok (.iload_n 3, 1) := by decide +kernel
theorem dL_law_706 : decode cL_law 706 = .ok (.iconst 1, 1) := by decide +kernel
theorem dL_law_707 : decode cL_law 707 = .ok (.iadd, 1) := by decide +kernel
theorem dL_law_708 : decode cL_law 708 = .ok (.iaload, 1) := by decide +kernel
theorem dL_law_709 : decode cL_law 709 = .ok (.aload_n 0, 1) := by decide +kernel
theorem dL_law_710 : decode cL_law 710 = .ok (.iload_n 3, 1) := by decide +kernel
theorem dL_law_711 : decode cL_law 711 = .ok (.iconst 2, 1) := by decide +kernel
theorem dL_law_712 : decode cL_law 712 = .ok (.iadd, 1) := by decide +kernel
theorem dL_law_713 : decode cL_law 713 = .ok (.iaload, 1) := by decide +kernel
theorem dL_law_714 : decode cL_law 714 = .ok (.invokevirtual 86, 3) := by decide +kernel
theorem cw_X12_of : CWv yX12_of cX12_of 3 (some .int) 2 := ⟨⟨⟨List.mem_of_getElem? (i := 137) (by decide +kernel), by decide +kernel⟩, ⟨List.mem_of_getElem? (i := 1957) (by decide +kernel), by decide +kernel⟩, by decide +kernel⟩, ⟨List.mem_of_getElem? (i := 1955) (by decide +kernel), by decide +kernel⟩, ⟨List.mem_of_getElem? (i := 1956) (by decide +kernel), by decide +kernel⟩⟩
theorem kmL_86 : inW (Cond.methodLink RL 86 yX12_of) := ⟨List.mem_of_getElem? (i := 1954) (by decide +kernel), by decide +kernel⟩
theorem dL_law_717 : decode cL_law 717 = .ok (.pop, 1) := by decide +kernel
theorem dL_law_718 : decode cL_law 718 = .ok (.goto 808, 3) := by decide +kernel
theorem dL_law_721 : decode cL_law 721 = .ok (.aload_n 1, 1) := by decide +kernel
theorem dL_law_722 : decode cL_law 722 = .ok (.aload_n 0, 1) := by decide +kernel
theorem dL_law_723 : decode cL_law 723 = .ok (.iload_n 3, 1) := by decide +kernel
theorem dL_law_724 : decode cL_law 724 = .ok (.iconst 1, 1) := by decide +kernel
theorem dL_law_725 : decode cL_law 725 = .ok (.iadd, 1) := by decide +kernel
theorem dL_law_726 : decode cL_law 726 = .ok (.iaload, 1) := by decide +kernel
theorem dL_law_727 : decode cL_law 727 = .ok (.aload_n 0, 1) := by decide +kernel
theorem dL_law_728 : decode cL_law 728 = .ok (.iload_n 3, 1) := by decide +kernel
theorem dL_law_729 : decode cL_law 729 = .ok (.iconst 2, 1) := by decide +kernel
theorem dL_law_730 : decode cL_law 730 = .ok (.iadd, 1) := by decide +kernel
theorem dL_law_731 : decode cL_law 731 = .ok (.iaload, 1) := by decide +kernel
theorem dL_law_732 : decode cL_law 732 = .ok (.invokevirtual 87, 3) := by decide +kernel
theorem cw_X11_ofOath : CWv yX11_ofOath cX11_ofOath 3 (some .int) 2 := ⟨⟨⟨List.mem_of_getElem? (i := 124) (by decide +kernel), by decide +kernel⟩, ⟨List.mem_of_getElem? (i := 1158) (by decide +kernel), by decide +kernel⟩, by decide +kernel⟩, ⟨List.mem_of_getElem? (i := 1156) (by decide +kernel), by decide +kernel⟩, ⟨List.mem_of_getElem? (i := 1157) (by decide +kernel), by decide +kernel⟩⟩
theorem kmL_87 : inW (Cond.methodLink RL 87 yX11_ofOath) := ⟨List.mem_of_getElem? (i := 1155) (by decide +kernel), by decide +kernel⟩
theorem dL_law_735 : decode cL_law 735 = .ok (.pop, 1) := by decide +kernel
theorem dL_law_736 : decode cL_law 736 = .ok (.aload_n 2, 1) := by decide +kernel
theorem dL_law_737 : decode cL_law 737 = .ok (.aload_n 0, 1) := by decide +kernel
theorem dL_law_738 : decode cL_law 738 = .ok (.iload_n 3, 1) := by decide +kernel
theorem dL_law_739 : decode cL_law 739 = .ok (.iconst 1, 1) := by decide +kernel
theorem dL_law_740 : decode cL_law 740 = .ok (.iadd, 1) := by decide +kernel
theorem dL_law_741 : decode cL_law 741 = .ok (.iaload, 1) := by decide +kernel
theorem dL_law_742 : decode cL_law 742 = .ok (.aload_n 0, 1) := by decide +kernel
theorem dL_law_743 : decode cL_law 743 = .ok (.iload_n 3, 1) := by decide +kernel
theorem dL_law_744 : decode cL_law 744 = .ok (.iconst 2, 1) := by decide +kernel
theorem dL_law_745 : decode cL_law 745 = .ok (.iadd, 1) := by decide +kernel
theorem dL_law_746 : decode cL_law 746 = .ok (.iaload, 1) := by decide +kernel
theorem dL_law_747 : decode cL_law 747 = .ok (.invokevirtual 90, 3) := by decide +kernel
theorem cw_X12_ofOath : CWv yX12_ofOath cX12_ofOath 3 (some .int) 2 := ⟨⟨⟨List.mem_of_getElem? (i := 137) (by decide +kernel), by decide +kernel⟩, ⟨List.mem_of_getElem? (i := 1969) (by decide +kernel), by decide +kernel⟩, by decide +kernel⟩, ⟨List.mem_of_getElem? (i := 1967) (by decide +kernel), by decide +kernel⟩, ⟨List.mem_of_getElem? (i := 1968) (by decide +kernel), by decide +kernel⟩⟩
theorem kmL_90 : inW (Cond.methodLink RL 90 yX12_ofOath) := ⟨List.mem_of_getElem? (i := 1966) (by decide +kernel), by decide +kernel⟩
theorem dL_law_750 : decode cL_law 750 = .ok (.pop, 1) := by decide +kernel
theorem dL_law_751 : decode cL_law 751 = .ok (.goto 775, 3) := by decide +kernel
theorem dL_law_754 : decode cL_law 754 = .ok (.aload_n 1, 1) := by decide +kernel
theorem dL_law_755 : decode cL_law 755 = .ok (.aload_n 0, 1) := by decide +kernel
theorem dL_law_756 : decode cL_law 756 = .ok (.iload_n 3, 1) := by decide +kernel
theorem dL_law_757 : decode cL_law 757 = .ok (.iconst 1, 1) := by decide +kernel
theorem dL_law_758 : decode cL_law 758 = .ok (.iadd, 1) := by decide +kernel
theorem dL_law_759 : decode cL_law 759 = .ok (.iaload, 1) := by decide +kernel
theorem dL_law_760 : decode cL_law 760 = .ok (.invokevirtual 91, 3) := by decide +kernel
theorem cw_X11_is : CWv yX11_is cX11_is 2 (some .int) 1 := ⟨⟨⟨List.mem_of_getElem? (i := 124) (by decide +kernel), by decide +kernel⟩, ⟨List.mem_of_getElem? (i := 1166) (by decide +kernel), by decide +kernel⟩, by decide +kernel⟩, ⟨List.mem_of_getElem? (i := 1164) (by decide +kernel), by decide +kernel⟩, ⟨List.mem_of_getElem? (i := 1165) (by decide +kernel), by decide +kernel⟩⟩
theorem kmL_91 : inW (Cond.methodLink RL 91 yX11_is) := ⟨List.mem_of_getElem? (i := 1163) (by decide +kernel), by decide +kernel⟩
theorem dL_law_763 : decode cL_law 763 = .ok (.pop, 1) := by decide +kernel
theorem dL_law_764 : decode cL_law 764 = .ok (.aload_n 2, 1) := by decide +kernel
theorem dL_law_765 : decode cL_law 765 = .ok (.aload_n 0, 1) := by decide +kernel
theorem dL_law_766 : decode cL_law 766 = .ok (.iload_n 3, 1) := by decide +kernel
theorem dL_law_767 : decode cL_law 767 = .ok (.iconst 1, 1) := by decide +kernel
theorem dL_law_768 : decode cL_law 768 = .ok (.iadd, 1) := by decide +kernel
theorem dL_law_769 : decode cL_law 769 = .ok (.iaload, 1) := by decide +kernel
theorem dL_law_770 : decode cL_law 770 = .ok (.invokevirtual 94, 3) := by decide +kernel
theorem cw_X12_is : CWv yX12_is cX12_is 2 (some .int) 1 := ⟨⟨⟨List.mem_of_getElem? (i := 137) (by decide +kernel), by decide +kernel⟩, ⟨List.mem_of_getElem? (i := 1973) (by decide +kernel), by decide +kernel⟩, by decide +kernel⟩, ⟨List.mem_of_getElem? (i := 1971) (by decide +kernel), by decide +kernel⟩, ⟨List.mem_of_getElem? (i := 1972) (by decide +kernel), by decide +kernel⟩⟩
theorem kmL_94 : inW (Cond.methodLink RL 94 yX12_is) := ⟨List.mem_of_getElem? (i := 1970) (by decide +kernel), by decide +kernel⟩
theorem dL_law_773 : decode cL_law 773 = .ok (.pop, 1) := by decide +kernel
theorem dL_law_774 : decode cL_law 774 = .ok (.goto 752, 3) := by decide +kernel
theorem dL_law_777 : decode cL_law 777 = .ok (.aload_n 1, 1) := by decide +kernel
theorem dL_law_778 : decode cL_law 778 = .ok (.aload_n 0, 1) := by decide +kernel
theorem dL_law_779 : decode cL_law 779 = .ok (.iload_n 3, 1) := by decide +kernel
theorem dL_law_780 : decode cL_law 780 = .ok (.iconst 1, 1) := by decide +kernel
theorem dL_law_781 : decode cL_law 781 = .ok (.iadd, 1) := by decide +kernel
theorem dL_law_782 : decode cL_law 782 = .ok (.iaload, 1) := by decide +kernel
theorem dL_law_783 : decode cL_law 783 = .ok (.aload_n 0, 1) := by decide +kernel
theorem dL_law_784 : decode cL_law 784 = .ok (.iload_n 3, 1) := by decide +kernel
theorem dL_law_785 : decode cL_law 785 = .ok (.iconst 2, 1) := by decide +kernel
theorem dL_law_786 : decode cL_law 786 = .ok (.iadd, 1) := by decide +kernel
theorem dL_law_787 : decode cL_law 787 = .ok (.iaload, 1) := by decide +kernel
theorem dL_law_788 : decode cL_law 788 = .ok (.invokevirtual 95, 3) := by decide +kernel
theorem cw_X11_book : CWv yX11_book cX11_book 3 (some .int) 2 := ⟨⟨⟨List.mem_of_getElem? (i := 124) (by decide +kernel), by decide +kernel⟩, ⟨List.mem_of_getElem? (i := 1170) (by decide +kernel), by decide +kernel⟩, by decide +kernel⟩, ⟨List.mem_of_getElem? (i := 1168) (by decide +kernel), by decide +kernel⟩, ⟨List.mem_of_getElem? (i := 1169) (by decide +kernel), by decide +kernel⟩⟩
theorem kmL_95 : inW (Cond.methodLink RL 95 yX11_book) := ⟨List.mem_of_getElem? (i := 1167) (by decide +kernel), by decide +kernel⟩
theorem dL_law_791 : decode cL_law 791 = .ok (.pop, 1) := by decide +kernel
theorem dL_law_792 : decode cL_law 792 = .ok (.aload_n 2, 1) := by decide +kernel
theorem dL_law_793 : decode cL_law 793 = .ok (.aload_n 0, 1) := by decide +kernel
theorem dL_law_794 : decode cL_law 794 = .ok (.iload_n 3, 1) := by decide +kernel
theorem dL_law_795 : decode cL_law 795 = .ok (.iconst 1, 1) := by decide +kernel
theorem dL_law_796 : decode cL_law 796 = .ok (.iadd, 1) := by decide +kernel
theorem dL_law_797 : decode cL_law 797 = .ok (.iaload, 1) := by decide +kernel
theorem dL_law_798 : decode cL_law 798 = .ok (.aload_n 0, 1) := by decide +kernel
theorem dL_law_799 : decode cL_law 799 = .ok (.iload_n 3, 1) := by decide +kernel
theorem dL_law_800 : decode cL_law 800 = .ok (.iconst 2, 1) := by decide +kernel
theorem dL_law_801 : decode cL_law 801 = .ok (.iadd, 1) := by decide +kernel
theorem dL_law_802 : decode cL_law 802 = .ok (.iaload, 1) := by decide +kernel
theorem dL_law_803 : decode cL_law 803 = .ok (.invokevirtual 98, 3) := by decide +kernel
theorem cw_X12_book : CWv yX12_book cX12_book 3 (some .int) 2 := ⟨⟨⟨List.mem_of_getElem? (i := 137) (by decide +kernel), by decide +kernel⟩, ⟨List.mem_of_getElem? (i := 1977) (by decide +kernel), by decide +kernel⟩, by decide +kernel⟩, ⟨List.mem_of_getElem? (i := 1975) (by decide +kernel), by decide +kernel⟩, ⟨List.mem_of_getElem? (i := 1976) (by decide +kernel), by decide +kernel⟩⟩
theorem kmL_98 : inW (Cond.methodLink RL 98 yX12_book) := ⟨List.mem_of_getElem? (i := 1974) (by decide +kernel), by decide +kernel⟩
theorem dL_law_806 : decode cL_law 806 = .ok (.pop, 1) := by decide +kernel
theorem dL_law_807 : decode cL_law 807 = .ok (.goto 719, 3) := by decide +kernel
theorem dL_law_810 : decode cL_law 810 = .ok (.aload_n 1, 1) := by decide +kernel
theorem dL_law_811 : decode cL_law 811 = .ok (.aload_n 0, 1) := by decide +kernel
theorem dL_law_812 : decode cL_law 812 = .ok (.iload_n 3, 1) := by decide +kernel
theorem dL_law_813 : decode cL_law 813 = .ok (.iconst 1, 1) := by decide +kernel
theorem dL_law_814 : decode cL_law 814 = .ok (.iadd, 1) := by decide +kernel
theorem dL_law_815 : decode cL_law 815 = .ok (.iaload, 1) := by decide +kernel
theorem dL_law_816 : decode cL_law 816 = .ok (.aload_n 0, 1) := by decide +kernel
theorem dL_law_817 : decode cL_law 817 = .ok (.iload_n 3, 1) := by decide +kernel
theorem dL_law_818 : decode cL_law 818 = .ok (.iconst 2, 1) := by decide +kernel
theorem dL_law_819 : decode cL_law 819 = .ok (.iadd, 1) := by decide +kernel
theorem dL_law_820 : decode cL_law 820 = .ok (.iaload, 1) := by decide +kernel
theorem dL_law_821 : decode cL_law 821 = .ok (.invokevirtual 99, 3) := by decide +kernel
theorem cw_X11_foretold : CWv yX11_foretold cX11_foretold 3 (some .int) 2 := ⟨⟨⟨List.mem_of_getElem? (i := 124) (by decide +kernel), by decide +kernel⟩, ⟨List.mem_of_getElem? (i := 1178) (by decide +kernel), by decide +kernel⟩, by decide +kernel⟩, ⟨List.mem_of_getElem? (i := 1176) (by decide +kernel), by decide +kernel⟩, ⟨List.mem_of_getElem? (i := 1177) (by decide +kernel), by decide +kernel⟩⟩
theorem kmL_99 : inW (Cond.methodLink RL 99 yX11_foretold) := ⟨List.mem_of_getElem? (i := 1175) (by decide +kernel), by decide +kernel⟩
theorem dL_law_824 : decode cL_law 824 = .ok (.pop, 1) := by decide +kernel
theorem dL_law_825 : decode cL_law 825 = .ok (.aload_n 2, 1) := by decide +kernel
theorem dL_law_826 : decode cL_law 826 = .ok (.aload_n 0, 1) := by decide +kernel
theorem dL_law_827 : decode cL_law 827 = .ok (.iload_n 3, 1) := by decide +kernel
theorem dL_law_828 : decode cL_law 828 = .ok (.iconst 1, 1) := by decide +kernel
theorem dL_law_829 : decode cL_law 829 = .ok (.iadd, 1) := by decide +kernel
theorem dL_law_830 : decode cL_law 830 = .ok (.iaload, 1) := by decide +kernel
theorem dL_law_831 : decode cL_law 831 = .ok (.aload_n 0, 1) := by decide +kernel
theorem dL_law_832 : decode cL_law 832 = .ok (.iload_n 3, 1) := by decide +kernel
theorem dL_law_833 : decode cL_law 833 = .ok (.iconst 2, 1) := by decide +kernel
theorem dL_law_834 : decode cL_law 834 = .ok (.iadd, 1) := by decide +kernel
theorem dL_law_835 : decode cL_law 835 = .ok (.iaload, 1) := by decide +kernel
theorem dL_law_836 : decode cL_law 836 = .ok (.invokevirtual 102, 3) := by decide +kernel
theorem cw_X12_foretold : CWv yX12_foretold cX12_foretold 5 (some .int) 2 := ⟨⟨⟨List.mem_of_getElem? (i := 137) (by decide +kernel), by decide +kernel⟩, ⟨List.mem_of_getElem? (i := 2005) (by decide +kernel), by decide +kernel⟩, by decide +kernel⟩, ⟨List.mem_of_getElem? (i := 2003) (by decide +kernel), by decide +kernel⟩, ⟨List.mem_of_getElem? (i := 2004) (by decide +kernel), by decide +kernel⟩⟩
theorem kmL_102 : inW (Cond.methodLink RL 102 yX12_foretold) := ⟨List.mem_of_getElem? (i := 2002) (by decide +kernel), by decide +kernel⟩
theorem dL_law_839 : decode cL_law 839 = .ok (.pop, 1) := by decide +kernel
theorem dL_law_840 : decode cL_law 840 = .ok (.goto 686, 3) := by decide +kernel
theorem dL_law_843 : decode cL_law 843 = .ok (.aload_n 1, 1) := by decide +kernel
theorem dL_law_844 : decode cL_law 844 = .ok (.aload_n 0, 1) := by decide +kernel
theorem dL_law_845 : decode cL_law 845 = .ok (.iload_n 3, 1) := by decide +kernel
theorem dL_law_846 : decode cL_law 846 = .ok (.iconst 1, 1) := by decide +kernel
theorem dL_law_847 : decode cL_law 847 = .ok (.iadd, 1) := by decide +kernel
theorem dL_law_848 : decode cL_law 848 = .ok (.iaload, 1) := by decide +kernel
theorem dL_law_849 : decode cL_law 849 = .ok (.invokevirtual 103, 3) := by decide +kernel
theorem cw_X11_firstAche : CWv yX11_firstAche cX11_firstAche 2 (some .int) 1 := ⟨⟨⟨List.mem_of_getElem? (i := 124) (by decide +kernel), by decide +kernel⟩, ⟨List.mem_of_getElem? (i := 1194) (by decide +kernel), by decide +kernel⟩, by decide +kernel⟩, ⟨List.mem_of_getElem? (i := 1192) (by decide +kernel), by decide +kernel⟩, ⟨List.mem_of_getElem? (i := 1193) (by decide +kernel), by decide +kernel⟩⟩
theorem kmL_103 : inW (Cond.methodLink RL 103 yX11_firstAche) := ⟨List.mem_of_getElem? (i := 1191) (by decide +kernel), by decide +kernel⟩
theorem dL_law_852 : decode cL_law 852 = .ok (.pop, 1) := by decide +kernel
theorem dL_law_853 : decode cL_law 853 = .ok (.aload_n 2, 1) := by decide +kernel
theorem dL_law_854 : decode cL_law 854 = .ok (.aload_n 0, 1) := by decide +kernel
theorem dL_law_855 : decode cL_law 855 = .ok (.iload_n 3, 1) := by decide +kernel
theorem dL_law_856 : decode cL_law 856 = .ok (.iconst 1, 1) := by decide +kernel
theorem dL_law_857 : decode cL_law 857 = .ok (.iadd, 1) := by decide +kernel
theorem dL_law_858 : decode cL_law 858 = .ok (.iaload, 1) := by decide +kernel
theorem dL_law_859 : decode cL_law 859 = .ok (.invokevirtual 106, 3) := by decide +kernel
theorem cw_X12_firstAche : CWv yX12_firstAche cX12_firstAche 4 (some .int) 1 := ⟨⟨⟨List.mem_of_getElem? (i := 137) (by decide +kernel), by decide +kernel⟩, ⟨List.mem_of_getElem? (i := 2017) (by decide +kernel), by decide +kernel⟩, by decide +kernel⟩, ⟨List.mem_of_getElem? (i := 2015) (by decide +kernel), by decide +kernel⟩, ⟨List.mem_of_getElem? (i := 2016) (by decide +kernel), by decide +kernel⟩⟩
theorem kmL_106 : inW (Cond.methodLink RL 106 yX12_firstAche) := ⟨List.mem_of_getElem? (i := 2014) (by decide +kernel), by decide +kernel⟩
theorem dL_law_862 : decode cL_law 862 = .ok (.pop, 1) := by decide +kernel
theorem dL_law_863 : decode cL_law 863 = .ok (.goto 663, 3) := by decide +kernel
theorem dL_law_866 : decode cL_law 866 = .ok (.aload_n 1, 1) := by decide +kernel
theorem dL_law_867 : decode cL_law 867 = .ok (.aload_n 0, 1) := by decide +kernel
theorem dL_law_868 : decode cL_law 868 = .ok (.iload_n 3, 1) := by decide +kernel
theorem dL_law_869 : decode cL_law 869 = .ok (.iconst 1, 1) := by decide +kernel
theorem dL_law_870 : decode cL_law 870 = .ok (.iadd, 1) := by decide +kernel
theorem dL_law_871 : decode cL_law 871 = .ok (.iaload, 1) := by decide +kernel
theorem dL_law_872 : decode cL_law 872 = .ok (.invokevirtual 107, 3) := by decide +kernel
theorem cw_X11_fades : CWv yX11_fades cX11_fades 2 (some .int) 1 := ⟨⟨⟨List.mem_of_getElem? (i := 124) (by decide +kernel), by decide +kernel⟩, ⟨List.mem_of_getElem? (i := 1202) (by decide +kernel), by decide +kernel⟩, by decide +kernel⟩, ⟨List.mem_of_getElem? (i := 1200) (by decide +kernel), by decide +kernel⟩, ⟨List.mem_of_getElem? (i := 1201) (by decide +kernel), by decide +kernel⟩⟩
theorem kmL_107 : inW (Cond.methodLink RL 107 yX11_fades) := ⟨List.mem_of_getElem? (i := 1199) (by decide +kernel), by decide +kernel⟩
theorem dL_law_875 : decode cL_law 875 = .ok (.pop, 1) := by decide +kernel
theorem dL_law_876 : decode cL_law 876 = .ok (.aload_n 2, 1) := by decide +kernel
theorem dL_law_877 : decode cL_law 877 = .ok (.aload_n 0, 1) := by decide +kernel
theorem dL_law_878 : decode cL_law 878 = .ok (.iload_n 3, 1) := by decide +kernel
theorem dL_law_879 : decode cL_law 879 = .ok (.iconst 1, 1) := by decide +kernel
theorem dL_law_880 : decode cL_law 880 = .ok (.iadd, 1) := by decide +kernel
theorem dL_law_881 : decode cL_law 881 = .ok (.iaload, 1) := by decide +kernel
theorem dL_law_882 : decode cL_law 882 = .ok (.invokevirtual 110, 3) := by decide +kernel
theorem cw_X12_fades : CWv yX12_fades cX12_fades 2 (some .int) 1 := ⟨⟨⟨List.mem_of_getElem? (i := 137) (by decide +kernel), by decide +kernel⟩, ⟨List.mem_of_getElem? (i := 2021) (by decide +kernel), by decide +kernel⟩, by decide +kernel⟩, ⟨List.mem_of_getElem? (i := 2019) (by decide +kernel), by decide +kernel⟩, ⟨List.mem_of_getElem? (i := 2020) (by decide +kernel), by decide +kernel⟩⟩
theorem kmL_110 : inW (Cond.methodLink RL 110 yX12_fades) := ⟨List.mem_of_getElem? (i := 2018) (by decide +kernel), by decide +kernel⟩
theorem dL_law_885 : decode cL_law 885 = .ok (.pop, 1) := by decide +kernel
theorem dL_law_886 : decode cL_law 886 = .ok (.goto 640, 3) := by decide +kernel
theorem dL_law_889 : decode cL_law 889 = .ok (.aload_n 1, 1) := by decide +kernel
theorem dL_law_890 : decode cL_law 890 = .ok (.aload_n 0, 1) := by decide +kernel
theorem dL_law_891 : decode cL_law 891 = .ok (.iload_n 3, 1) := by decide +kernel
theorem dL_law_892 : decode cL_law 892 = .ok (.iconst 1, 1) := by decide +kernel
theorem dL_law_893 : decode cL_law 893 = .ok (.iadd, 1) := by decide +kernel
theorem dL_law_894 : decode cL_law 894 = .ok (.iaload, 1) := by decide +kernel
theorem dL_law_895 : decode cL_law 895 = .ok (.aload_n 0, 1) := by decide +kernel
theorem dL_law_896 : decode cL_law 896 = .ok (.iload_n 3, 1) := by decide +kernel
theorem dL_law_897 : decode cL_law 897 = .ok (.iconst 2, 1) := by decide +kernel
theorem dL_law_898 : decode cL_law 898 = .ok (.iadd, 1) := by decide +kernel
theorem dL_law_899 : decode cL_law 899 = .ok (.iaload, 1) := by decide +kernel
theorem dL_law_900 : decode cL_law 900 = .ok (.aload_n 0, 1) := by decide +kernel
theorem dL_law_901 : decode cL_law 901 = .ok (.iload_n 3, 1) := by decide +kernel
theorem dL_law_902 : decode cL_law 902 = .ok (.iconst 3, 1) := by decide +kernel
theorem dL_law_903 : decode cL_law 903 = .ok (.iadd, 1) := by decide +kernel
theorem dL_law_904 : decode cL_law 904 = .ok (.iaload, 1) := by decide +kernel
theorem dL_law_905 : decode cL_law 905 = .ok (.invokevirtual 111, 3) := by decide +kernel
theorem cw_X11_felt : CWv yX11_felt cX11_felt 4 (some .int) 3 := ⟨⟨⟨List.mem_of_getElem? (i := 124) (by decide +kernel), by decide +kernel⟩, ⟨List.mem_of_getElem? (i := 1214) (by decide +kernel), by decide +kernel⟩, by decide +kernel⟩, ⟨List.mem_of_getElem? (i := 1212) (by decide +kernel), by decide +kernel⟩, ⟨List.mem_of_getElem? (i := 1213) (by decide +kernel), by decide +kernel⟩⟩
theorem kmL_111 : inW (Cond.methodLink RL 111 yX11_felt) := ⟨List.mem_of_getElem? (i := 1211) (by decide +kernel), by decide +kernel⟩
theorem dL_law_908 : decode cL_law 908 = .ok (.pop, 1) := by decide +kernel
theorem dL_law_909 : decode cL_law 909 = .ok (.aload_n 2, 1) := by decide +kernel
theorem dL_law_910 : decode cL_law 910 = .ok (.aload_n 0, 1) := by decide +kernel
theorem dL_law_911 : decode cL_law 911 = .ok (.iload_n 3, 1) := by decide +kernel
theorem dL_law_912 : decode cL_law 912 = .ok (.iconst 1, 1) := by decide +kernel
theorem dL_law_913 : decode cL_law 913 = .ok (.iadd, 1) := by decide +kernel
theorem dL_law_914 : decode cL_law 914 = .ok (.iaload, 1) := by decide +kernel
theorem dL_law_915 : decode cL_law 915 = .ok (.aload_n 0, 1) := by decide +kernel
theorem dL_law_916 : decode cL_law 916 = .ok (.iload_n 3, 1) := by decide +kernel
theorem dL_law_917 : decode cL_law 917 = .ok (.iconst 2, 1) := by decide +kernel
theorem dL_law_918 : decode cL_law 918 = .ok (.iadd, 1) := by decide +kernel
theorem dL_law_919 : decode cL_law 919 = .ok (.iaload, 1) := by decide +kernel
theorem dL_law_920 : decode cL_law 920 = .ok (.aload_n 0, 1) := by decide +kernel
theorem dL_law_921 : decode cL_law 921 = .ok (.iload_n 3, 1) := by decide +kernel
theorem dL_law_922 : decode cL_law 922 = .ok (.iconst 3, 1) := by decide +kernel
theorem dL_law_923 : decode cL_law 923 = .ok (.iadd, 1) := by decide +kernel
theorem dL_law_924 : decode cL_law 924 = .ok (.iaload, 1) := by decide +kernel
theorem dL_law_925 : decode cL_law 925 = .ok (.invokevirtual 115, 3) := by decide +kernel
theorem cw_X12_felt : CWv yX12_felt cX12_felt 5 (some .int) 3 := ⟨⟨⟨List.mem_of_getElem? (i := 137) (by decide +kernel), by decide +kernel⟩, ⟨List.mem_of_getElem? (i := 2035) (by decide +kernel), by decide +kernel⟩, by decide +kernel⟩, ⟨List.mem_of_getElem? (i := 2033) (by decide +kernel), by decide +kernel⟩, ⟨List.mem_of_getElem? (i := 2034) (by decide +kernel), by decide +kernel⟩⟩
theorem kmL_115 : inW (Cond.methodLink RL 115 yX12_felt) := ⟨List.mem_of_getElem? (i := 2032) (by decide +kernel), by decide +kernel⟩
theorem dL_law_928 : decode cL_law 928 = .ok (.pop, 1) := by decide +kernel
theorem dL_law_929 : decode cL_law 929 = .ok (.goto 597, 3) := by decide +kernel
set_option maxHeartbeats 4000000 in
set_option maxRecDepth 100000 in
theorem law_12 {p : Program} {e : Env} {s : State} {m : MethodId} {below : List Frame} {meth : Method} {c : Code} (l : Launch) {b L : Nat} {xs : Nat → Int32} (C0 : lw_At p s m meth c b L xs) (hL : L ≤ 3072) {G : GG} {A : Nat → Prop} (hAe : A = (fun q : Nat => s.heap.size ≤ q)) (S : SX G A p s m meth c RL code 4 ret) {aK aV : Nat → Nat} {z0 : Option Nat} (hz : ZS aK aV z0 A s s.heap) {adx adm : Nat → Nat → Nat} {i : Int32} (hi : 0 ≤ i.toInt ∧ i.toInt + 6 ≤ (L : Int)) {nL : Int} {bT : Nat → Int32} {kF pF a a8 : Int} {Lx Lm : List Nat} {fx fm : HF} {H : Heap} {locs : List Loc} {ls : Array Slot} (hC : CI G adx nL bT kF pF a a8 Lx fx) (hM : MI G adm nL bT kF pF a a8 Lm fm) (Y : DY G A s (va_pl Lx fx) Lm fm H locs) (hl : lv_has ls 4 [(3, .int i), (2, .ref (adm 0 0)), (1, .ref (adx 0 0)), (0, .ref b)]) (tail : ∀ (nL : Int) (bT : Nat → Int32) (kF pF a a8 : Int) (Lx Lm : List Nat) (fx fm : HF) (H : Heap) (locs : List Loc) (ls : Array Slot), CI G adx nL bT kF pF a a8 Lx fx → MI G adm nL bT kF pF a a8 Lm fm → DY G A s (va_pl Lx fx) Lm fm H locs → lv_has ls 4 [(3, .int i), (2, .ref (adm 0 0)), (1, .ref (adx 0 0)), (0, .ref b)] → W p l e room_1 s m #[Value.ref b] below meth c H locs 1000 60000 (lw_Z below #[Value.ref b] s) (F0 m 1526 ls [])) : W p l e room_1 s m #[Value.ref b] below meth c H locs 1000 60000 (lw_Z below #[Value.ref b] s) (F0 m 596 ls []) := by
  obtain ⟨hx, hb, hr, hml, hown, hts, hX, hbl, hlocks, hgv⟩ := id C0
  have hbA : ¬ A b := by rw [hAe]; exact Nat.not_le.mpr hbl
  refine lv_aload_n hx hb dL_law_596 rfl (lv_at hl 2 rfl) ?_
  refine lv_aload_n hx hb dL_law_597 rfl (lv_at hl 3 rfl) ?_
  refine lv_iload_n hx hb dL_law_598 rfl (lv_at hl 0 rfl) ?_
  refine lv_iconst (v := 1) hx hb dL_law_599 (by decide) ?_
  refine lv_iadd hx hb dL_law_600 ?_
  refine lv_topi (fun x_185979 ex_185979 => ?_)
  obtain ⟨v1, ev1⟩ : ∃ z, z = xs (i.toInt.toNat + (1 : Int32).toInt.toNat) := ⟨_, rfl⟩
  refine va_sld hx hb hX hbl hbA Y.2.2 (law_in ex_185979 hi hL (by decide)) dL_law_601 ?_
  refine lv_fold (z := v1) ((law_rd ex_185979 hi hL (by decide)).trans ev1.symm) ?_
  have Y := Y.swap
  obtain ⟨tc, w, q, I, hW, hT, hQ, hZ, hE, hw2, hw7, hq2, hq7, ha, ha8, hL9, hBT⟩ := hC
  refine cVi (As := [.int v1]) (rest := []) S Y (x_X11_day (l := l) I hW hT hQ hZ hE) cw_X11_day kmL_67 (I.opo (k := 0) (j := 0) (by decide) rfl).choose_spec.1 ok_X11.1 rfl rfl ⟨Nat.le_of_ble_eq_true rfl, Nat.le_of_ble_eq_true rfl⟩ hl.1 rfl (Nat.le_of_ble_eq_true rfl) ⟨Nat.le_of_ble_eq_true rfl, Nat.le_of_ble_eq_true rfl⟩ dL_law_602 (fun r_185980 L_185981 f_185982 H locs h_185983 Y => ?_)
  have I := h_185983
  have hC : CI G adx nL bT kF pF a a8 L_185981 f_185982 := ⟨tc, w, q, I, hW, hT, hQ, hZ, hE, hw2, hw7, hq2, hq7, ha, ha8, hL9, hBT⟩
  have Y := Y.swap
  refine lv_pop hx hb dL_law_605 rfl ?_
  refine lv_aload_n hx hb dL_law_606 rfl (lv_at hl 1 rfl) ?_
  refine lv_aload_n hx hb dL_law_607 rfl (lv_at hl 3 rfl) ?_
  refine lv_iload_n hx hb dL_law_608 rfl (lv_at hl 0 rfl) ?_
  refine lv_iconst (v := 1) hx hb dL_law_609 (by decide) ?_
  refine lv_iadd hx hb dL_law_610 ?_
  refine lv_topi (fun x_185984 ex_185984 => ?_)
  refine va_sld hx hb hX hbl hbA Y.2.2 (law_in ex_185984 hi hL (by decide)) dL_law_611 ?_
  refine lv_fold (z := v1) ((law_rd ex_185984 hi hL (by decide)).trans ev1.symm) ?_
  obtain ⟨wm, wm2, g0, I, hB, hB2, hX0, ew1, ew2, ha, ha8, hL9, hBT⟩ := hM
  refine cVi (As := [.int v1]) (rest := []) S Y (x_X12_day (l := l) I hB hX0) cw_X12_day kmL_70 (I.opo (k := 0) (j := 0) (by decide) rfl).choose_spec.1 ok_X12.1 rfl rfl ⟨Nat.le_of_ble_eq_true rfl, Nat.le_of_ble_eq_true rfl⟩ hl.1 rfl (Nat.le_of_ble_eq_true rfl) ⟨Nat.le_of_ble_eq_true rfl, Nat.le_of_ble_eq_true rfl⟩ dL_law_612 (fun r_185985 L_185986 f_185987 H locs h_185988 Y => ?_)
  have I := h_185988
  have hM : MI G adm nL bT kF pF a a8 L_185986 f_185987 := ⟨wm, wm2, g0, I, hB, hB2, hX0, ew1, ew2, ha, ha8, hL9, hBT⟩
  refine lv_pop hx hb dL_law_615 rfl ?_
  refine lv_goto (tgt := 1526) hx hb dL_law_616 (by decide) ?_
  exact tail _ _ _ _ _ _ _ _ _ _ _ _ _ hC hM Y hl
set_option maxHeartbeats 4000000 in
set_option maxRecDepth 100000 in
theorem law_13 {p : Program} {e : Env} {s : State} {m : MethodId} {below : List Frame} {meth : Method} {c : Code} (l : Launch) {b L : Nat} {xs : Nat → Int32} (C0 : lw_At p s m meth c b L xs) (hL : L ≤ 3072) {G : GG} {A : Nat → Prop} (hAe : A = (fun q : Nat => s.heap.size ≤ q)) (S : SX G A p s m meth c RL code 4 ret) {aK aV : Nat → Nat} {z0 : Option Nat} (hz : ZS aK aV z0 A s s.heap) {adx adm : Nat → Nat → Nat} {i : Int32} (hi : 0 ≤ i.toInt ∧ i.toInt + 6 ≤ (L : Int)) {nL : Int} {bT : Nat → Int32} {kF pF a a8 : Int} {Lx Lm : List Nat} {fx fm : HF} {H : Heap} {locs : List Loc} {ls : Array Slot} (hC : CI G adx nL bT kF pF a a8 Lx fx) (hM : MI G adm nL bT kF pF a a8 Lm fm) (Y : DY G A s (va_pl Lx fx) Lm fm H locs) (hl : lv_has ls 4 [(3, .int i), (2, .ref (adm 0 0)), (1, .ref (adx 0 0)), (0, .ref b)]) (tail : ∀ (nL : Int) (bT : Nat → Int32) (kF pF a a8 : Int) (Lx Lm : List Nat) (fx fm : HF) (H : Heap) (locs : List Loc) (ls : Array Slot), CI G adx nL bT kF pF a a8 Lx fx → MI G adm nL bT kF pF a a8 Lm fm → DY G A s (va_pl Lx fx) Lm fm H locs → lv_has ls 4 [(3, .int i), (2, .ref (adm 0 0)), (1, .ref (adx 0 0)), (0, .ref b)] → W p l e room_1 s m #[Value.ref b] below meth c H locs 1000 60000 (lw_Z below #[Value.ref b] s) (F0 m 1526 ls [])) : W p l e room_1 s m #[Value.ref b] below meth c H locs 1000 60000 (lw_Z below #[Value.ref b] s) (F0 m 619 ls []) := by
  obtain ⟨hx, hb, hr, hml, hown, hts, hX, hbl, hlocks, hgv⟩ := id C0
  have hbA : ¬ A b := by rw [hAe]; exact Nat.not_le.mpr hbl
  refine lv_aload_n hx hb dL_law_619 rfl (lv_at hl 2 rfl) ?_
  refine lv_aload_n hx hb dL_law_620 rfl (lv_at hl 3 rfl) ?_
  refine lv_iload_n hx hb dL_law_621 rfl (lv_at hl 0 rfl) ?_
  refine lv_iconst (v := 1) hx hb dL_law_622 (by decide) ?_
  refine lv_iadd hx hb dL_law_623 ?_
  refine lv_topi (fun x_185989 ex_185989 => ?_)
  obtain ⟨v1, ev1⟩ : ∃ z, z = xs (i.toInt.toNat + (1 : Int32).toInt.toNat) := ⟨_, rfl⟩
  refine va_sld hx hb hX hbl hbA Y.2.2 (law_in ex_185989 hi hL (by decide)) dL_law_624 ?_
  refine lv_fold (z := v1) ((law_rd ex_185989 hi hL (by decide)).trans ev1.symm) ?_
  have Y := Y.swap
  obtain ⟨tc, w, q, I, hW, hT, hQ, hZ, hE, hw2, hw7, hq2, hq7, ha, ha8, hL9, hBT⟩ := hC
  refine cVi (As := [.int v1]) (rest := []) S Y (x_X11_played (l := l) I hW hT hQ hZ hE) cw_X11_played kmL_71 (I.opo (k := 0) (j := 0) (by decide) rfl).choose_spec.1 ok_X11.1 rfl rfl ⟨Nat.le_of_ble_eq_true rfl, Nat.le_of_ble_eq_true rfl⟩ hl.1 rfl (Nat.le_of_ble_eq_true rfl) ⟨Nat.le_of_ble_eq_true rfl, Nat.le_of_ble_eq_true rfl⟩ dL_law_625 (fun r_185990 L_185991 f_185992 H locs h_185993 Y => ?_)
  have I := h_185993
  have hC : CI G adx nL bT kF pF a a8 L_185991 f_185992 := ⟨tc, w, q, I, hW, hT, hQ, hZ, hE, hw2, hw7, hq2, hq7, ha, ha8, hL9, hBT⟩
  have Y := Y.swap
  refine lv_pop hx hb dL_law_628 rfl ?_
  refine lv_aload_n hx hb dL_law_629 rfl (lv_at hl 1 rfl) ?_
  refine lv_aload_n hx hb dL_law_630 rfl (lv_at hl 3 rfl) ?_
  refine lv_iload_n hx hb dL_law_631 rfl (lv_at hl 0 rfl) ?_
  refine lv_iconst (v := 1) hx hb dL_law_632 (by decide) ?_
  refine lv_iadd hx hb dL_law_633 ?_
  refine lv_topi (fun x_185994 ex_185994 => ?_)
  refine va_sld hx hb hX hbl hbA Y.2.2 (law_in ex_185994 hi hL (by decide)) dL_law_634 ?_
  refine lv_fold (z := v1) ((law_rd ex_185994 hi hL (by decide)).trans ev1.symm) ?_
  obtain ⟨wm, wm2, g0, I, hB, hB2, hX0, ew1, ew2, ha, ha8, hL9, hBT⟩ := hM
  refine cVi (As := [.int v1]) (rest := []) S Y (x_X12_played (l := l) I hB hX0) cw_X12_played kmL_74 (I.opo (k := 0) (j := 0) (by decide) rfl).choose_spec.1 ok_X12.1 rfl rfl ⟨Nat.le_of_ble_eq_true rfl, Nat.le_of_ble_eq_true rfl⟩ hl.1 rfl (Nat.le_of_ble_eq_true rfl) ⟨Nat.le_of_ble_eq_true rfl, Nat.le_of_ble_eq_true rfl⟩ dL_law_635 (fun r_185995 L_185996 f_185997 H locs h_185998 Y => ?_)
  have I := h_185998
  have hM : MI G adm nL bT kF pF a a8 L_185996 f_185997 := ⟨wm, wm2, g0, I, hB, hB2, hX0, ew1, ew2, ha, ha8, hL9, hBT⟩
  refine lv_pop hx hb dL_law_638 rfl ?_
  refine lv_goto (tgt := 1526) hx hb dL_law_639 (by decide) ?_
  exact tail _ _ _ _ _ _ _ _ _ _ _ _ _ hC hM Y hl
set_option maxHeartbeats 4000000 in
set_option maxRecDepth 100000 in
theorem law_14 {p : Program} {e : Env} {s : State} {m : MethodId} {below : List Frame} {meth : Method} {c : Code} (l : Launch) {b L : Nat} {xs : Nat → Int32} (C0 : lw_At p s m meth c b L xs) (hL : L ≤ 3072) {G : GG} {A : Nat → Prop} (hAe : A = (fun q : Nat => s.heap.size ≤ q)) (S : SX G A p s m meth c RL code 4 ret) {aK aV : Nat → Nat} {z0 : Option Nat} (hz : ZS aK aV z0 A s s.heap) {adx adm : Nat → Nat → Nat} {i : Int32} (hi : 0 ≤ i.toInt ∧ i.toInt + 6 ≤ (L : Int)) {nL : Int} {bT : Nat → Int32} {kF pF a a8 : Int} {Lx Lm : List Nat} {fx fm : HF} {H : Heap} {locs : List Loc} {ls : Array Slot} (hC : CI G adx nL bT kF pF a a8 Lx fx) (hM : MI G adm nL bT kF pF a a8 Lm fm) (Y : DY G A s (va_pl Lx fx) Lm fm H locs) (hl : lv_has ls 4 [(3, .int i), (2, .ref (adm 0 0)), (1, .ref (adx 0 0)), (0, .ref b)]) (tail : ∀ (nL : Int) (bT : Nat → Int32) (kF pF a a8 : Int) (Lx Lm : List Nat) (fx fm : HF) (H : Heap) (locs : List Loc) (ls : Array Slot), CI G adx nL bT kF pF a a8 Lx fx → MI G adm nL bT kF pF a a8 Lm fm → DY G A s (va_pl Lx fx) Lm fm H locs → lv_has ls 4 [(3, .int i), (2, .ref (adm 0 0)), (1, .ref (adx 0 0)), (0, .ref b)] → W p l e room_1 s m #[Value.ref b] below meth c H locs 1000 60000 (lw_Z below #[Value.ref b] s) (F0 m 1526 ls [])) : W p l e room_1 s m #[Value.ref b] below meth c H locs 1000 60000 (lw_Z below #[Value.ref b] s) (F0 m 642 ls []) := by
  obtain ⟨hx, hb, hr, hml, hown, hts, hX, hbl, hlocks, hgv⟩ := id C0
  have hbA : ¬ A b := by rw [hAe]; exact Nat.not_le.mpr hbl
  refine lv_aload_n hx hb dL_law_642 rfl (lv_at hl 2 rfl) ?_
  refine lv_aload_n hx hb dL_law_643 rfl (lv_at hl 3 rfl) ?_
  refine lv_iload_n hx hb dL_law_644 rfl (lv_at hl 0 rfl) ?_
  refine lv_iconst (v := 1) hx hb dL_law_645 (by decide) ?_
  refine lv_iadd hx hb dL_law_646 ?_
  refine lv_topi (fun x_185999 ex_185999 => ?_)
  obtain ⟨v1, ev1⟩ : ∃ z, z = xs (i.toInt.toNat + (1 : Int32).toInt.toNat) := ⟨_, rfl⟩
  refine va_sld hx hb hX hbl hbA Y.2.2 (law_in ex_185999 hi hL (by decide)) dL_law_647 ?_
  refine lv_fold (z := v1) ((law_rd ex_185999 hi hL (by decide)).trans ev1.symm) ?_
  refine lv_aload_n hx hb dL_law_648 rfl (lv_at hl 3 rfl) ?_
  refine lv_iload_n hx hb dL_law_649 rfl (lv_at hl 0 rfl) ?_
  refine lv_iconst (v := 2) hx hb dL_law_650 (by decide) ?_
  refine lv_iadd hx hb dL_law_651 ?_
  refine lv_topi (fun x_186000 ex_186000 => ?_)
  obtain ⟨v2, ev2⟩ : ∃ z, z = xs (i.toInt.toNat + (2 : Int32).toInt.toNat) := ⟨_, rfl⟩
  refine va_sld hx hb hX hbl hbA Y.2.2 (law_in ex_186000 hi hL (by decide)) dL_law_652 ?_
  refine lv_fold (z := v2) ((law_rd ex_186000 hi hL (by decide)).trans ev2.symm) ?_
  have Y := Y.swap
  obtain ⟨tc, w, q, I, hW, hT, hQ, hZ, hE, hw2, hw7, hq2, hq7, ha, ha8, hL9, hBT⟩ := hC
  refine cVi (As := [.int v1, .int v2]) (rest := []) S Y (x_X11_years (l := l) I hW hT hQ hZ hE) cw_X11_years kmL_75 (I.opo (k := 0) (j := 0) (by decide) rfl).choose_spec.1 ok_X11.1 rfl rfl ⟨Nat.le_of_ble_eq_true rfl, Nat.le_of_ble_eq_true rfl⟩ hl.1 rfl (Nat.le_of_ble_eq_true rfl) ⟨Nat.le_of_ble_eq_true rfl, Nat.le_of_ble_eq_true rfl⟩ dL_law_653 (fun r_186001 L_186002 f_186003 H locs h_186004 Y => ?_)
  have I := h_186004
  have hC : CI G adx nL bT kF pF a a8 L_186002 f_186003 := ⟨tc, w, q, I, hW, hT, hQ, hZ, hE, hw2, hw7, hq2, hq7, ha, ha8, hL9, hBT⟩
  have Y := Y.swap
  refine lv_pop hx hb dL_law_656 rfl ?_
  refine lv_aload_n hx hb dL_law_657 rfl (lv_at hl 1 rfl) ?_
  refine lv_aload_n hx hb dL_law_658 rfl (lv_at hl 3 rfl) ?_
  refine lv_iload_n hx hb dL_law_659 rfl (lv_at hl 0 rfl) ?_
  refine lv_iconst (v := 1) hx hb dL_law_660 (by decide) ?_
  refine lv_iadd hx hb dL_law_661 ?_
  refine lv_topi (fun x_186005 ex_186005 => ?_)
  refine va_sld hx hb hX hbl hbA Y.2.2 (law_in ex_186005 hi hL (by decide)) dL_law_662 ?_
  refine lv_fold (z := v1) ((law_rd ex_186005 hi hL (by decide)).trans ev1.symm) ?_
  refine lv_aload_n hx hb dL_law_663 rfl (lv_at hl 3 rfl) ?_
  refine lv_iload_n hx hb dL_law_664 rfl (lv_at hl 0 rfl) ?_
  refine lv_iconst (v := 2) hx hb dL_law_665 (by decide) ?_
  refine lv_iadd hx hb dL_law_666 ?_
  refine lv_topi (fun x_186006 ex_186006 => ?_)
  refine va_sld hx hb hX hbl hbA Y.2.2 (law_in ex_186006 hi hL (by decide)) dL_law_667 ?_
  refine lv_fold (z := v2) ((law_rd ex_186006 hi hL (by decide)).trans ev2.symm) ?_
  obtain ⟨wm, wm2, g0, I, hB, hB2, hX0, ew1, ew2, ha, ha8, hL9, hBT⟩ := hM
  refine cVi (As := [.int v1, .int v2]) (rest := []) S Y (x_X12_years (l := l) I hB hX0) cw_X12_years kmL_78 (I.opo (k := 0) (j := 0) (by decide) rfl).choose_spec.1 ok_X12.1 rfl rfl ⟨Nat.le_of_ble_eq_true rfl, Nat.le_of_ble_eq_true rfl⟩ hl.1 rfl (Nat.le_of_ble_eq_true rfl) ⟨Nat.le_of_ble_eq_true rfl, Nat.le_of_ble_eq_true rfl⟩ dL_law_668 (fun r_186007 L_186008 f_186009 H locs h_186010 Y => ?_)
  have I := h_186010
  have hM : MI G adm nL bT kF pF a a8 L_186008 f_186009 := ⟨wm, wm2, g0, I, hB, hB2, hX0, ew1, ew2, ha, ha8, hL9, hBT⟩
  refine lv_pop hx hb dL_law_671 rfl ?_
  refine lv_goto (tgt := 1526) hx hb dL_law_672 (by decide) ?_
  exact tail _ _ _ _ _ _ _ _ _ _ _ _ _ hC hM Y hl
set_option maxHeartbeats 4000000 in
set_option maxRecDepth 100000 in
theorem law_15 {p : Program} {e : Env} {s : State} {m : MethodId} {below : List Frame} {meth : Method} {c : Code} (l : Launch) {b L : Nat} {xs : Nat → Int32} (C0 : lw_At p s m meth c b L xs) (hL : L ≤ 3072) {G : GG} {A : Nat → Prop} (hAe : A = (fun q : Nat => s.heap.size ≤ q)) (S : SX G A p s m meth c RL code 4 ret) {aK aV : Nat → Nat} {z0 : Option Nat} (hz : ZS aK aV z0 A s s.heap) {adx adm : Nat → Nat → Nat} {i : Int32} (hi : 0 ≤ i.toInt ∧ i.toInt + 6 ≤ (L : Int)) {nL : Int} {bT : Nat → Int32} {kF pF a a8 : Int} {Lx Lm : List Nat} {fx fm : HF} {H : Heap} {locs : List Loc} {ls : Array Slot} (hC : CI G adx nL bT kF pF a a8 Lx fx) (hM : MI G adm nL bT kF pF a a8 Lm fm) (Y : DY G A s (va_pl Lx fx) Lm fm H locs) (hl : lv_has ls 4 [(3, .int i), (2, .ref (adm 0 0)), (1, .ref (adx 0 0)), (0, .ref b)]) (tail : ∀ (nL : Int) (bT : Nat → Int32) (kF pF a a8 : Int) (Lx Lm : List Nat) (fx fm : HF) (H : Heap) (locs : List Loc) (ls : Array Slot), CI G adx nL bT kF pF a a8 Lx fx → MI G adm nL bT kF pF a a8 Lm fm → DY G A s (va_pl Lx fx) Lm fm H locs → lv_has ls 4 [(3, .int i), (2, .ref (adm 0 0)), (1, .ref (adx 0 0)), (0, .ref b)] → W p l e room_1 s m #[Value.ref b] below meth c H locs 1000 60000 (lw_Z below #[Value.ref b] s) (F0 m 1526 ls [])) : W p l e room_1 s m #[Value.ref b] below meth c H locs 1000 60000 (lw_Z below #[Value.ref b] s) (F0 m 675 ls []) := by
  obtain ⟨hx, hb, hr, hml, hown, hts, hX, hbl, hlocks, hgv⟩ := id C0
  have hbA : ¬ A b := by rw [hAe]; exact Nat.not_le.mpr hbl
  refine lv_aload_n hx hb dL_law_675 rfl (lv_at hl 2 rfl) ?_
  have Y := Y.swap
  obtain ⟨tc, w, q, I, hW, hT, hQ, hZ, hE, hw2, hw7, hq2, hq7, ha, ha8, hL9, hBT⟩ := hC
  refine cVi (As := []) (rest := []) S Y (x_X11_undo (l := l) I hW hT hQ hZ hE) cw_X11_undo kmL_79 (I.opo (k := 0) (j := 0) (by decide) rfl).choose_spec.1 ok_X11.1 rfl rfl ⟨Nat.le_of_ble_eq_true rfl, Nat.le_of_ble_eq_true rfl⟩ hl.1 rfl (Nat.le_of_ble_eq_true rfl) ⟨Nat.le_of_ble_eq_true rfl, Nat.le_of_ble_eq_true rfl⟩ dL_law_676 (fun r_186011 L_186012 f_186013 H locs h_186014 Y => ?_)
  have I := h_186014
  have hC : CI G adx nL bT kF pF a a8 L_186012 f_186013 := ⟨tc, w, q, I, hW, hT, hQ, hZ, hE, hw2, hw7, hq2, hq7, ha, ha8, hL9, hBT⟩
  have Y := Y.swap
  refine lv_pop hx hb dL_law_679 rfl ?_
  refine lv_aload_n hx hb dL_law_680 rfl (lv_at hl 1 rfl) ?_
  obtain ⟨wm, wm2, g0, I, hB, hB2, hX0, ew1, ew2, ha, ha8, hL9, hBT⟩ := hM
  refine cVi (As := []) (rest := []) S Y (x_X12_undo (l := l) I hB (by decide)) cw_X12_undo kmL_82 (I.opo (k := 0) (j := 0) (by decide) rfl).choose_spec.1 ok_X12.1 rfl rfl ⟨Nat.le_of_ble_eq_true rfl, Nat.le_of_ble_eq_true rfl⟩ hl.1 rfl (Nat.le_of_ble_eq_true rfl) ⟨Nat.le_of_ble_eq_true rfl, Nat.le_of_ble_eq_true rfl⟩ dL_law_681 (fun r_186015 L_186016 f_186017 H locs h_186018 Y => ?_)
  have I := h_186018
  have hM : MI G adm nL bT kF pF a a8 L_186016 f_186017 := ⟨wm, wm2, g0, I, hB, hB2, hX0, ew1, ew2, ha, ha8, hL9, hBT⟩
  refine lv_pop hx hb dL_law_684 rfl ?_
  refine lv_goto (tgt := 1526) hx hb dL_law_685 (by decide) ?_
  exact tail _ _ _ _ _ _ _ _ _ _ _ _ _ hC hM Y hl
set_option maxHeartbeats 4000000 in
set_option maxRecDepth 100000 in
theorem law_16 {p : Program} {e : Env} {s : State} {m : MethodId} {below : List Frame} {meth : Method} {c : Code} (l : Launch) {b L : Nat} {xs : Nat → Int32} (C0 : lw_At p s m meth c b L xs) (hL : L ≤ 3072) {G : GG} {A : Nat → Prop} (hAe : A = (fun q : Nat => s.heap.size ≤ q)) (S : SX G A p s m meth c RL code 4 ret) {aK aV : Nat → Nat} {z0 : Option Nat} (hz : ZS aK aV z0 A s s.heap) {adx adm : Nat → Nat → Nat} {i : Int32} (hi : 0 ≤ i.toInt ∧ i.toInt + 6 ≤ (L : Int)) {nL : Int} {bT : Nat → Int32} {kF pF a a8 : Int} {Lx Lm : List Nat} {fx fm : HF} {H : Heap} {locs : List Loc} {ls : Array Slot} (hC : CI G adx nL bT kF pF a a8 Lx fx) (hM : MI G adm nL bT kF pF a a8 Lm fm) (Y : DY G A s (va_pl Lx fx) Lm fm H locs) (hl : lv_has ls 4 [(3, .int i), (2, .ref (adm 0 0)), (1, .ref (adx 0 0)), (0, .ref b)]) (tail : ∀ (nL : Int) (bT : Nat → Int32) (kF pF a a8 : Int) (Lx Lm : List Nat) (fx fm : HF) (H : Heap) (locs : List Loc) (ls : Array Slot), CI G adx nL bT kF pF a a8 Lx fx → MI G adm nL bT kF pF a a8 Lm fm → DY G A s (va_pl Lx fx) Lm fm H locs → lv_has ls 4 [(3, .int i), (2, .ref (adm 0 0)), (1, .ref (adx 0 0)), (0, .ref b)] → W p l e room_1 s m #[Value.ref b] below meth c H locs 1000 60000 (lw_Z below #[Value.ref b] s) (F0 m 1526 ls [])) : W p l e room_1 s m #[Value.ref b] below meth c H locs 1000 60000 (lw_Z below #[Value.ref b] s) (F0 m 688 ls []) := by
  obtain ⟨hx, hb, hr, hml, hown, hts, hX, hbl, hlocks, hgv⟩ := id C0
  have hbA : ¬ A b := by rw [hAe]; exact Nat.not_le.mpr hbl
  refine lv_aload_n hx hb dL_law_688 rfl (lv_at hl 2 rfl) ?_
  refine lv_aload_n hx hb dL_law_689 rfl (lv_at hl 3 rfl) ?_
  refine lv_iload_n hx hb dL_law_690 rfl (lv_at hl 0 rfl) ?_
  refine lv_iconst (v := 1) hx hb dL_law_691 (by decide) ?_
  refine lv_iadd hx hb dL_law_692 ?_
  refine lv_topi (fun x_186019 ex_186019 => ?_)
  obtain ⟨v1, ev1⟩ : ∃ z, z = xs (i.toInt.toNat + (1 : Int32).toInt.toNat) := ⟨_, rfl⟩
  refine va_sld hx hb hX hbl hbA Y.2.2 (law_in ex_186019 hi hL (by decide)) dL_law_693 ?_
  refine lv_fold (z := v1) ((law_rd ex_186019 hi hL (by decide)).trans ev1.symm) ?_
  refine lv_aload_n hx hb dL_law_694 rfl (lv_at hl 3 rfl) ?_
  refine lv_iload_n hx hb dL_law_695 rfl (lv_at hl 0 rfl) ?_
  refine lv_iconst (v := 2) hx hb dL_law_696 (by decide) ?_
  refine lv_iadd hx hb dL_law_697 ?_
  refine lv_topi (fun x_186020 ex_186020 => ?_)
  obtain ⟨v2, ev2⟩ : ∃ z, z = xs (i.toInt.toNat + (2 : Int32).toInt.toNat) := ⟨_, rfl⟩
  refine va_sld hx hb hX hbl hbA Y.2.2 (law_in ex_186020 hi hL (by decide)) dL_law_698 ?_
  refine lv_fold (z := v2) ((law_rd ex_186020 hi hL (by decide)).trans ev2.symm) ?_
  have Y := Y.swap
  obtain ⟨tc, w, q, I, hW, hT, hQ, hZ, hE, hw2, hw7, hq2, hq7, ha, ha8, hL9, hBT⟩ := hC
  refine cVi (As := [.int v1, .int v2]) (rest := []) S Y (x_X11_of (l := l) I hW hT hQ hZ hE) cw_X11_of kmL_83 (I.opo (k := 0) (j := 0) (by decide) rfl).choose_spec.1 ok_X11.1 rfl rfl ⟨Nat.le_of_ble_eq_true rfl, Nat.le_of_ble_eq_true rfl⟩ hl.1 rfl (Nat.le_of_ble_eq_true rfl) ⟨Nat.le_of_ble_eq_true rfl, Nat.le_of_ble_eq_true rfl⟩ dL_law_699 (fun r_186021 L_186022 f_186023 H locs h_186024 Y => ?_)
  have I := h_186024
  have hC : CI G adx nL bT kF pF a a8 L_186022 f_186023 := ⟨tc, w, q, I, hW, hT, hQ, hZ, hE, hw2, hw7, hq2, hq7, ha, ha8, hL9, hBT⟩
  have Y := Y.swap
  refine lv_pop hx hb dL_law_702 rfl ?_
  refine lv_aload_n hx hb dL_law_703 rfl (lv_at hl 1 rfl) ?_
  refine lv_aload_n hx hb dL_law_704 rfl (lv_at hl 3 rfl) ?_
  refine lv_iload_n hx hb dL_law_705 rfl (lv_at hl 0 rfl) ?_
  refine lv_iconst (v := 1) hx hb dL_law_706 (by decide) ?_
  refine lv_iadd hx hb dL_law_707 ?_
  refine lv_topi (fun x_186025 ex_186025 => ?_)
  refine va_sld hx hb hX hbl hbA Y.2.2 (law_in ex_186025 hi hL (by decide)) dL_law_708 ?_
  refine lv_fold (z := v1) ((law_rd ex_186025 hi hL (by decide)).trans ev1.symm) ?_
  refine lv_aload_n hx hb dL_law_709 rfl (lv_at hl 3 rfl) ?_
  refine lv_iload_n hx hb dL_law_710 rfl (lv_at hl 0 rfl) ?_
  refine lv_iconst (v := 2) hx hb dL_law_711 (by decide) ?_
  refine lv_iadd hx hb dL_law_712 ?_
  refine lv_topi (fun x_186026 ex_186026 => ?_)
  refine va_sld hx hb hX hbl hbA Y.2.2 (law_in ex_186026 hi hL (by decide)) dL_law_713 ?_
  refine lv_fold (z := v2) ((law_rd ex_186026 hi hL (by decide)).trans ev2.symm) ?_
  obtain ⟨wm, wm2, g0, I, hB, hB2, hX0, ew1, ew2, ha, ha8, hL9, hBT⟩ := hM
  refine cVi (As := [.int v1, .int v2]) (rest := []) S Y (x_X12_of (l := l) I hB hX0) cw_X12_of kmL_86 (I.opo (k := 0) (j := 0) (by decide) rfl).choose_spec.1 ok_X12.1 rfl rfl ⟨Nat.le_of_ble_eq_true rfl, Nat.le_of_ble_eq_true rfl⟩ hl.1 rfl (Nat.le_of_ble_eq_true rfl) ⟨Nat.le_of_ble_eq_true rfl, Nat.le_of_ble_eq_true rfl⟩ dL_law_714 (fun r_186027 L_186028 f_186029 H locs h_186030 Y => ?_)
  have I := h_186030
  have hM : MI G adm nL bT kF pF a a8 L_186028 f_186029 := ⟨wm, wm2, g0, I, hB, hB2, hX0, ew1, ew2, ha, ha8, hL9, hBT⟩
  refine lv_pop hx hb dL_law_717 rfl ?_
  refine lv_goto (tgt := 1526) hx hb dL_law_718 (by decide) ?_
  exact tail _ _ _ _ _ _ _ _ _ _ _ _ _ hC hM Y hl
set_option maxHeartbeats 4000000 in
set_option maxRecDepth 100000 in
theorem law_17 {p : Program} {e : Env} {s : State} {m : MethodId} {below : List Frame} {meth : Method} {c : Code} (l : Launch) {b L : Nat} {xs : Nat → Int32} (C0 : lw_At p s m meth c b L xs) (hL : L ≤ 3072) {G : GG} {A : Nat → Prop} (hAe : A = (fun q : Nat => s.heap.size ≤ q)) (S : SX G A p s m meth c RL code 4 ret) {aK aV : Nat → Nat} {z0 : Option Nat} (hz : ZS aK aV z0 A s s.heap) {adx adm : Nat → Nat → Nat} {i : Int32} (hi : 0 ≤ i.toInt ∧ i.toInt + 6 ≤ (L : Int)) {nL : Int} {bT : Nat → Int32} {kF pF a a8 : Int} {Lx Lm : List Nat} {fx fm : HF} {H : Heap} {locs : List Loc} {ls : Array Slot} (hC : CI G adx nL bT kF pF a a8 Lx fx) (hM : MI G adm nL bT kF pF a a8 Lm fm) (Y : DY G A s (va_pl Lx fx) Lm fm H locs) (hl : lv_has ls 4 [(3, .int i), (2, .ref (adm 0 0)), (1, .ref (adx 0 0)), (0, .ref b)]) (tail : ∀ (nL : Int) (bT : Nat → Int32) (kF pF a a8 : Int) (Lx Lm : List Nat) (fx fm : HF) (H : Heap) (locs : List Loc) (ls : Array Slot), CI G adx nL bT kF pF a a8 Lx fx → MI G adm nL bT kF pF a a8 Lm fm → DY G A s (va_pl Lx fx) Lm fm H locs → lv_has ls 4 [(3, .int i), (2, .ref (adm 0 0)), (1, .ref (adx 0 0)), (0, .ref b)] → W p l e room_1 s m #[Value.ref b] below meth c H locs 1000 60000 (lw_Z below #[Value.ref b] s) (F0 m 1526 ls [])) : W p l e room_1 s m #[Value.ref b] below meth c H locs 1000 60000 (lw_Z below #[Value.ref b] s) (F0 m 721 ls []) := by
  obtain ⟨hx, hb, hr, hml, hown, hts, hX, hbl, hlocks, hgv⟩ := id C0
  have hbA : ¬ A b := by rw [hAe]; exact Nat.not_le.mpr hbl
  refine lv_aload_n hx hb dL_law_721 rfl (lv_at hl 2 rfl) ?_
  refine lv_aload_n hx hb dL_law_722 rfl (lv_at hl 3 rfl) ?_
  refine lv_iload_n hx hb dL_law_723 rfl (lv_at hl 0 rfl) ?_
  refine lv_iconst (v := 1) hx hb dL_law_724 (by decide) ?_
  refine lv_iadd hx hb dL_law_725 ?_
  refine lv_topi (fun x_186031 ex_186031 => ?_)
  obtain ⟨v1, ev1⟩ : ∃ z, z = xs (i.toInt.toNat + (1 : Int32).toInt.toNat) := ⟨_, rfl⟩
  refine va_sld hx hb hX hbl hbA Y.2.2 (law_in ex_186031 hi hL (by decide)) dL_law_726 ?_
  refine lv_fold (z := v1) ((law_rd ex_186031 hi hL (by decide)).trans ev1.symm) ?_
  refine lv_aload_n hx hb dL_law_727 rfl (lv_at hl 3 rfl) ?_
  refine lv_iload_n hx hb dL_law_728 rfl (lv_at hl 0 rfl) ?_
  refine lv_iconst (v := 2) hx hb dL_law_729 (by decide) ?_
  refine lv_iadd hx hb dL_law_730 ?_
  refine lv_topi (fun x_186032 ex_186032 => ?_)
  obtain ⟨v2, ev2⟩ : ∃ z, z = xs (i.toInt.toNat + (2 : Int32).toInt.toNat) := ⟨_, rfl⟩
  refine va_sld hx hb hX hbl hbA Y.2.2 (law_in ex_186032 hi hL (by decide)) dL_law_731 ?_
  refine lv_fold (z := v2) ((law_rd ex_186032 hi hL (by decide)).trans ev2.symm) ?_
  have Y := Y.swap
  obtain ⟨tc, w, q, I, hW, hT, hQ, hZ, hE, hw2, hw7, hq2, hq7, ha, ha8, hL9, hBT⟩ := hC
  refine cVi (As := [.int v1, .int v2]) (rest := []) S Y (x_X11_ofOath (l := l) I hW hT hQ hZ hE) cw_X11_ofOath kmL_87 (I.opo (k := 0) (j := 0) (by decide) rfl).choose_spec.1 ok_X11.1 rfl rfl ⟨Nat.le_of_ble_eq_true rfl, Nat.le_of_ble_eq_true rfl⟩ hl.1 rfl (Nat.le_of_ble_eq_true rfl) ⟨Nat.le_of_ble_eq_true rfl, Nat.le_of_ble_eq_true rfl⟩ dL_law_732 (fun r_186033 L_186034 f_186035 H locs h_186036 Y => ?_)
  have I := h_186036
  have hC : CI G adx nL bT kF pF a a8 L_186034 f_186035 := ⟨tc, w, q, I, hW, hT, hQ, hZ, hE, hw2, hw7, hq2, hq7, ha, ha8, hL9, hBT⟩
  have Y := Y.swap
  refine lv_pop hx hb dL_law_735 rfl ?_
  refine lv_aload_n hx hb dL_law_736 rfl (lv_at hl 1 rfl) ?_
  refine lv_aload_n hx hb dL_law_737 rfl (lv_at hl 3 rfl) ?_
  refine lv_iload_n hx hb dL_law_738 rfl (lv_at hl 0 rfl) ?_
  refine lv_iconst (v := 1) hx hb dL_law_739 (by decide) ?_
  refine lv_iadd hx hb dL_law_740 ?_
  refine lv_topi (fun x_186037 ex_186037 => ?_)
  refine va_sld hx hb hX hbl hbA Y.2.2 (law_in ex_186037 hi hL (by decide)) dL_law_741 ?_
  refine lv_fold (z := v1) ((law_rd ex_186037 hi hL (by decide)).trans ev1.symm) ?_
  refine lv_aload_n hx hb dL_law_742 rfl (lv_at hl 3 rfl) ?_
  refine lv_iload_n hx hb dL_law_743 rfl (lv_at hl 0 rfl) ?_
  refine lv_iconst (v := 2) hx hb dL_law_744 (by decide) ?_
  refine lv_iadd hx hb dL_law_745 ?_
  refine lv_topi (fun x_186038 ex_186038 => ?_)
  refine va_sld hx hb hX hbl hbA Y.2.2 (law_in ex_186038 hi hL (by decide)) dL_law_746 ?_
  refine lv_fold (z := v2) ((law_rd ex_186038 hi hL (by decide)).trans ev2.symm) ?_
  obtain ⟨wm, wm2, g0, I, hB, hB2, hX0, ew1, ew2, ha, ha8, hL9, hBT⟩ := hM
  refine cVi (As := [.int v1, .int v2]) (rest := []) S Y (x_X12_ofOath (l := l) I hB hX0) cw_X12_ofOath kmL_90 (I.opo (k := 0) (j := 0) (by decide) rfl).choose_spec.1 ok_X12.1 rfl rfl ⟨Nat.le_of_ble_eq_true rfl, Nat.le_of_ble_eq_true rfl⟩ hl.1 rfl (Nat.le_of_ble_eq_true rfl) ⟨Nat.le_of_ble_eq_true rfl, Nat.le_of_ble_eq_true rfl⟩ dL_law_747 (fun r_186039 L_186040 f_186041 H locs h_186042 Y => ?_)
  have I := h_186042
  have hM : MI G adm nL bT kF pF a a8 L_186040 f_186041 := ⟨wm, wm2, g0, I, hB, hB2, hX0, ew1, ew2, ha, ha8, hL9, hBT⟩
  refine lv_pop hx hb dL_law_750 rfl ?_
  refine lv_goto (tgt := 1526) hx hb dL_law_751 (by decide) ?_
  exact tail _ _ _ _ _ _ _ _ _ _ _ _ _ hC hM Y hl
set_option maxHeartbeats 4000000 in
set_option maxRecDepth 100000 in
theorem law_18 {p : Program} {e : Env} {s : State} {m : MethodId} {below : List Frame} {meth : Method} {c : Code} (l : Launch) {b L : Nat} {xs : Nat → Int32} (C0 : lw_At p s m meth c b L xs) (hL : L ≤ 3072) {G : GG} {A : Nat → Prop} (hAe : A = (fun q : Nat => s.heap.size ≤ q)) (S : SX G A p s m meth c RL code 4 ret) {aK aV : Nat → Nat} {z0 : Option Nat} (hz : ZS aK aV z0 A s s.heap) {adx adm : Nat → Nat → Nat} {i : Int32} (hi : 0 ≤ i.toInt ∧ i.toInt + 6 ≤ (L : Int)) {nL : Int} {bT : Nat → Int32} {kF pF a a8 : Int} {Lx Lm : List Nat} {fx fm : HF} {H : Heap} {locs : List Loc} {ls : Array Slot} (hC : CI G adx nL bT kF pF a a8 Lx fx) (hM : MI G adm nL bT kF pF a a8 Lm fm) (Y : DY G A s (va_pl Lx fx) Lm fm H locs) (hl : lv_has ls 4 [(3, .int i), (2, .ref (adm 0 0)), (1, .ref (adx 0 0)), (0, .ref b)]) (tail : ∀ (nL : Int) (bT : Nat → Int32) (kF pF a a8 : Int) (Lx Lm : List Nat) (fx fm : HF) (H : Heap) (locs : List Loc) (ls : Array Slot), CI G adx nL bT kF pF a a8 Lx fx → MI G adm nL bT kF pF a a8 Lm fm → DY G A s (va_pl Lx fx) Lm fm H locs → lv_has ls 4 [(3, .int i), (2, .ref (adm 0 0)), (1, .ref (adx 0 0)), (0, .ref b)] → W p l e room_1 s m #[Value.ref b] below meth c H locs 1000 60000 (lw_Z below #[Value.ref b] s) (F0 m 1526 ls [])) : W p l e room_1 s m #[Value.ref b] below meth c H locs 1000 60000 (lw_Z below #[Value.ref b] s) (F0 m 754 ls []) := by
  obtain ⟨hx, hb, hr, hml, hown, hts, hX, hbl, hlocks, hgv⟩ := id C0
  have hbA : ¬ A b := by rw [hAe]; exact Nat.not_le.mpr hbl
  refine lv_aload_n hx hb dL_law_754 rfl (lv_at hl 2 rfl) ?_
  refine lv_aload_n hx hb dL_law_755 rfl (lv_at hl 3 rfl) ?_
  refine lv_iload_n hx hb dL_law_756 rfl (lv_at hl 0 rfl) ?_
  refine lv_iconst (v := 1) hx hb dL_law_757 (by decide) ?_
  refine lv_iadd hx hb dL_law_758 ?_
  refine lv_topi (fun x_186043 ex_186043 => ?_)
  obtain ⟨v1, ev1⟩ : ∃ z, z = xs (i.toInt.toNat + (1 : Int32).toInt.toNat) := ⟨_, rfl⟩
  refine va_sld hx hb hX hbl hbA Y.2.2 (law_in ex_186043 hi hL (by decide)) dL_law_759 ?_
  refine lv_fold (z := v1) ((law_rd ex_186043 hi hL (by decide)).trans ev1.symm) ?_
  have Y := Y.swap
  obtain ⟨tc, w, q, I, hW, hT, hQ, hZ, hE, hw2, hw7, hq2, hq7, ha, ha8, hL9, hBT⟩ := hC
  refine cVi (As := [.int v1]) (rest := []) S Y (x_X11_is (l := l) I hW hT hQ hZ hE) cw_X11_is kmL_91 (I.opo (k := 0) (j := 0) (by decide) rfl).choose_spec.1 ok_X11.1 rfl rfl ⟨Nat.le_of_ble_eq_true rfl, Nat.le_of_ble_eq_true rfl⟩ hl.1 rfl (Nat.le_of_ble_eq_true rfl) ⟨Nat.le_of_ble_eq_true rfl, Nat.le_of_ble_eq_true rfl⟩ dL_law_760 (fun r_186044 L_186045 f_186046 H locs h_186047 Y => ?_)
  have I := h_186047
  have hC : CI G adx nL bT kF pF a a8 L_186045 f_186046 := ⟨tc, w, q, I, hW, hT, hQ, hZ, hE, hw2, hw7, hq2, hq7, ha, ha8, hL9, hBT⟩
  have Y := Y.swap
  refine lv_pop hx hb dL_law_763 rfl ?_
  refine lv_aload_n hx hb dL_law_764 rfl (lv_at hl 1 rfl) ?_
  refine lv_aload_n hx hb dL_law_765 rfl (lv_at hl 3 rfl) ?_
  refine lv_iload_n hx hb dL_law_766 rfl (lv_at hl 0 rfl) ?_
  refine lv_iconst (v := 1) hx hb dL_law_767 (by decide) ?_
  refine lv_iadd hx hb dL_law_768 ?_
  refine lv_topi (fun x_186048 ex_186048 => ?_)
  refine va_sld hx hb hX hbl hbA Y.2.2 (law_in ex_186048 hi hL (by decide)) dL_law_769 ?_
  refine lv_fold (z := v1) ((law_rd ex_186048 hi hL (by decide)).trans ev1.symm) ?_
  obtain ⟨wm, wm2, g0, I, hB, hB2, hX0, ew1, ew2, ha, ha8, hL9, hBT⟩ := hM
  refine cVp (As := [.int v1]) (rest := []) S Y (x_X12_is (l := l) I hB hX0) cw_X12_is kmL_94 (I.opo (k := 0) (j := 0) (by decide) rfl).choose_spec.1 ok_X12.1 rfl rfl ⟨Nat.le_of_ble_eq_true rfl, Nat.le_of_ble_eq_true rfl⟩ hl.1 rfl (Nat.le_of_ble_eq_true rfl) ⟨Nat.le_of_ble_eq_true rfl, Nat.le_of_ble_eq_true rfl⟩ dL_law_770 (fun r_186049 H locs er_186049 Y => ?_)
  have hM : MI G adm nL bT kF pF a a8 Lm fm := ⟨wm, wm2, g0, I, hB, hB2, hX0, ew1, ew2, ha, ha8, hL9, hBT⟩
  refine lv_pop hx hb dL_law_773 rfl ?_
  refine lv_goto (tgt := 1526) hx hb dL_law_774 (by decide) ?_
  exact tail _ _ _ _ _ _ _ _ _ _ _ _ _ hC hM Y hl
set_option maxHeartbeats 4000000 in
set_option maxRecDepth 100000 in
theorem law_19 {p : Program} {e : Env} {s : State} {m : MethodId} {below : List Frame} {meth : Method} {c : Code} (l : Launch) {b L : Nat} {xs : Nat → Int32} (C0 : lw_At p s m meth c b L xs) (hL : L ≤ 3072) {G : GG} {A : Nat → Prop} (hAe : A = (fun q : Nat => s.heap.size ≤ q)) (S : SX G A p s m meth c RL code 4 ret) {aK aV : Nat → Nat} {z0 : Option Nat} (hz : ZS aK aV z0 A s s.heap) {adx adm : Nat → Nat → Nat} {i : Int32} (hi : 0 ≤ i.toInt ∧ i.toInt + 6 ≤ (L : Int)) {nL : Int} {bT : Nat → Int32} {kF pF a a8 : Int} {Lx Lm : List Nat} {fx fm : HF} {H : Heap} {locs : List Loc} {ls : Array Slot} (hC : CI G adx nL bT kF pF a a8 Lx fx) (hM : MI G adm nL bT kF pF a a8 Lm fm) (Y : DY G A s (va_pl Lx fx) Lm fm H locs) (hl : lv_has ls 4 [(3, .int i), (2, .ref (adm 0 0)), (1, .ref (adx 0 0)), (0, .ref b)]) (tail : ∀ (nL : Int) (bT : Nat → Int32) (kF pF a a8 : Int) (Lx Lm : List Nat) (fx fm : HF) (H : Heap) (locs : List Loc) (ls : Array Slot), CI G adx nL bT kF pF a a8 Lx fx → MI G adm nL bT kF pF a a8 Lm fm → DY G A s (va_pl Lx fx) Lm fm H locs → lv_has ls 4 [(3, .int i), (2, .ref (adm 0 0)), (1, .ref (adx 0 0)), (0, .ref b)] → W p l e room_1 s m #[Value.ref b] below meth c H locs 1000 60000 (lw_Z below #[Value.ref b] s) (F0 m 1526 ls [])) : W p l e room_1 s m #[Value.ref b] below meth c H locs 1000 60000 (lw_Z below #[Value.ref b] s) (F0 m 777 ls []) := by
  obtain ⟨hx, hb, hr, hml, hown, hts, hX, hbl, hlocks, hgv⟩ := id C0
  have hbA : ¬ A b := by rw [hAe]; exact Nat.not_le.mpr hbl
  refine lv_aload_n hx hb dL_law_777 rfl (lv_at hl 2 rfl) ?_
  refine lv_aload_n hx hb dL_law_778 rfl (lv_at hl 3 rfl) ?_
  refine lv_iload_n hx hb dL_law_779 rfl (lv_at hl 0 rfl) ?_
  refine lv_iconst (v := 1) hx hb dL_law_780 (by decide) ?_
  refine lv_iadd hx hb dL_law_781 ?_
  refine lv_topi (fun x_186050 ex_186050 => ?_)
  obtain ⟨v1, ev1⟩ : ∃ z, z = xs (i.toInt.toNat + (1 : Int32).toInt.toNat) := ⟨_, rfl⟩
  refine va_sld hx hb hX hbl hbA Y.2.2 (law_in ex_186050 hi hL (by decide)) dL_law_782 ?_
  refine lv_fold (z := v1) ((law_rd ex_186050 hi hL (by decide)).trans ev1.symm) ?_
  refine lv_aload_n hx hb dL_law_783 rfl (lv_at hl 3 rfl) ?_
  refine lv_iload_n hx hb dL_law_784 rfl (lv_at hl 0 rfl) ?_
  refine lv_iconst (v := 2) hx hb dL_law_785 (by decide) ?_
  refine lv_iadd hx hb dL_law_786 ?_
  refine lv_topi (fun x_186051 ex_186051 => ?_)
  obtain ⟨v2, ev2⟩ : ∃ z, z = xs (i.toInt.toNat + (2 : Int32).toInt.toNat) := ⟨_, rfl⟩
  refine va_sld hx hb hX hbl hbA Y.2.2 (law_in ex_186051 hi hL (by decide)) dL_law_787 ?_
  refine lv_fold (z := v2) ((law_rd ex_186051 hi hL (by decide)).trans ev2.symm) ?_
  have Y := Y.swap
  obtain ⟨tc, w, q, I, hW, hT, hQ, hZ, hE, hw2, hw7, hq2, hq7, ha, ha8, hL9, hBT⟩ := hC
  refine cVi (As := [.int v1, .int v2]) (rest := []) S Y (x_X11_book (l := l) I hW hT hQ hZ hE) cw_X11_book kmL_95 (I.opo (k := 0) (j := 0) (by decide) rfl).choose_spec.1 ok_X11.1 rfl rfl ⟨Nat.le_of_ble_eq_true rfl, Nat.le_of_ble_eq_true rfl⟩ hl.1 rfl (Nat.le_of_ble_eq_true rfl) ⟨Nat.le_of_ble_eq_true rfl, Nat.le_of_ble_eq_true rfl⟩ dL_law_788 (fun r_186052 L_186053 f_186054 H locs h_186055 Y => ?_)
  have I := h_186055
  have hC : CI G adx nL bT kF pF a a8 L_186053 f_186054 := ⟨tc, w, q, I, hW, hT, hQ, hZ, hE, hw2, hw7, hq2, hq7, ha, ha8, hL9, hBT⟩
  have Y := Y.swap
  refine lv_pop hx hb dL_law_791 rfl ?_
  refine lv_aload_n hx hb dL_law_792 rfl (lv_at hl 1 rfl) ?_
  refine lv_aload_n hx hb dL_law_793 rfl (lv_at hl 3 rfl) ?_
  refine lv_iload_n hx hb dL_law_794 rfl (lv_at hl 0 rfl) ?_
  refine lv_iconst (v := 1) hx hb dL_law_795 (by decide) ?_
  refine lv_iadd hx hb dL_law_796 ?_
  refine lv_topi (fun x_186056 ex_186056 => ?_)
  refine va_sld hx hb hX hbl hbA Y.2.2 (law_in ex_186056 hi hL (by decide)) dL_law_797 ?_
  refine lv_fold (z := v1) ((law_rd ex_186056 hi hL (by decide)).trans ev1.symm) ?_
  refine lv_aload_n hx hb dL_law_798 rfl (lv_at hl 3 rfl) ?_
  refine lv_iload_n hx hb dL_law_799 rfl (lv_at hl 0 rfl) ?_
  refine lv_iconst (v := 2) hx hb dL_law_800 (by decide) ?_
  refine lv_iadd hx hb dL_law_801 ?_
  refine lv_topi (fun x_186057 ex_186057 => ?_)
  refine va_sld hx hb hX hbl hbA Y.2.2 (law_in ex_186057 hi hL (by decide)) dL_law_802 ?_
  refine lv_fold (z := v2) ((law_rd ex_186057 hi hL (by decide)).trans ev2.symm) ?_
  obtain ⟨wm, wm2, g0, I, hB, hB2, hX0, ew1, ew2, ha, ha8, hL9, hBT⟩ := hM
  refine cVp (As := [.int v1, .int v2]) (rest := []) S Y (x_X12_book (l := l) I hB hX0) cw_X12_book kmL_98 (I.opo (k := 0) (j := 0) (by decide) rfl).choose_spec.1 ok_X12.1 rfl rfl ⟨Nat.le_of_ble_eq_true rfl, Nat.le_of_ble_eq_true rfl⟩ hl.1 rfl (Nat.le_of_ble_eq_true rfl) ⟨Nat.le_of_ble_eq_true rfl, Nat.le_of_ble_eq_true rfl⟩ dL_law_803 (fun r_186058 H locs er_186058 Y => ?_)
  have hM : MI G adm nL bT kF pF a a8 Lm fm := ⟨wm, wm2, g0, I, hB, hB2, hX0, ew1, ew2, ha, ha8, hL9, hBT⟩
  refine lv_pop hx hb dL_law_806 rfl ?_
  refine lv_goto (tgt := 1526) hx hb dL_law_807 (by decide) ?_
  exact tail _ _ _ _ _ _ _ _ _ _ _ _ _ hC hM Y hl
set_option maxHeartbeats 4000000 in
set_option maxRecDepth 100000 in
theorem law_20 {p : Program} {e : Env} {s : State} {m : MethodId} {below : List Frame} {meth : Method} {c : Code} (l : Launch) {b L : Nat} {xs : Nat → Int32} (C0 : lw_At p s m meth c b L xs) (hL : L ≤ 3072) {G : GG} {A : Nat → Prop} (hAe : A = (fun q : Nat => s.heap.size ≤ q)) (S : SX G A p s m meth c RL code 4 ret) {aK aV : Nat → Nat} {z0 : Option Nat} (hz : ZS aK aV z0 A s s.heap) {adx adm : Nat → Nat → Nat} {i : Int32} (hi : 0 ≤ i.toInt ∧ i.toInt + 6 ≤ (L : Int)) {nL : Int} {bT : Nat → Int32} {kF pF a a8 : Int} {Lx Lm : List Nat} {fx fm : HF} {H : Heap} {locs : List Loc} {ls : Array Slot} (hC : CI G adx nL bT kF pF a a8 Lx fx) (hM : MI G adm nL bT kF pF a a8 Lm fm) (Y : DY G A s (va_pl Lx fx) Lm fm H locs) (hl : lv_has ls 4 [(3, .int i), (2, .ref (adm 0 0)), (1, .ref (adx 0 0)), (0, .ref b)]) (tail : ∀ (nL : Int) (bT : Nat → Int32) (kF pF a a8 : Int) (Lx Lm : List Nat) (fx fm : HF) (H : Heap) (locs : List Loc) (ls : Array Slot), CI G adx nL bT kF pF a a8 Lx fx → MI G adm nL bT kF pF a a8 Lm fm → DY G A s (va_pl Lx fx) Lm fm H locs → lv_has ls 4 [(3, .int i), (2, .ref (adm 0 0)), (1, .ref (adx 0 0)), (0, .ref b)] → W p l e room_1 s m #[Value.ref b] below meth c H locs 1000 60000 (lw_Z below #[Value.ref b] s) (F0 m 1526 ls [])) : W p l e room_1 s m #[Value.ref b] below meth c H locs 1000 60000 (lw_Z below #[Value.ref b] s) (F0 m 810 ls []) := by
  obtain ⟨hx, hb, hr, hml, hown, hts, hX, hbl, hlocks, hgv⟩ := id C0
  have hbA : ¬ A b := by rw [hAe]; exact Nat.not_le.mpr hbl
  refine lv_aload_n hx hb dL_law_810 rfl (lv_at hl 2 rfl) ?_
  refine lv_aload_n hx hb dL_law_811 rfl (lv_at hl 3 rfl) ?_
  refine lv_iload_n hx hb dL_law_812 rfl (lv_at hl 0 rfl) ?_
  refine lv_iconst (v := 1) hx hb dL_law_813 (by decide) ?_
  refine lv_iadd hx hb dL_law_814 ?_
  refine lv_topi (fun x_186059 ex_186059 => ?_)
  obtain ⟨v1, ev1⟩ : ∃ z, z = xs (i.toInt.toNat + (1 : Int32).toInt.toNat) := ⟨_, rfl⟩
  refine va_sld hx hb hX hbl hbA Y.2.2 (law_in ex_186059 hi hL (by decide)) dL_law_815 ?_
  refine lv_fold (z := v1) ((law_rd ex_186059 hi hL (by decide)).trans ev1.symm) ?_
  refine lv_aload_n hx hb dL_law_816 rfl (lv_at hl 3 rfl) ?_
  refine lv_iload_n hx hb dL_law_817 rfl (lv_at hl 0 rfl) ?_
  refine lv_iconst (v := 2) hx hb dL_law_818 (by decide) ?_
  refine lv_iadd hx hb dL_law_819 ?_
  refine lv_topi (fun x_186060 ex_186060 => ?_)
  obtain ⟨v2, ev2⟩ : ∃ z, z = xs (i.toInt.toNat + (2 : Int32).toInt.toNat) := ⟨_, rfl⟩
  refine va_sld hx hb hX hbl hbA Y.2.2 (law_in ex_186060 hi hL (by decide)) dL_law_820 ?_
  refine lv_fold (z := v2) ((law_rd ex_186060 hi hL (by decide)).trans ev2.symm) ?_
  have Y := Y.swap
  obtain ⟨tc, w, q, I, hW, hT, hQ, hZ, hE, hw2, hw7, hq2, hq7, ha, ha8, hL9, hBT⟩ := hC
  refine cVi (As := [.int v1, .int v2]) (rest := []) S Y (x_X11_foretold (l := l) I hW hT hQ hZ hE) cw_X11_foretold kmL_99 (I.opo (k := 0) (j := 0) (by decide) rfl).choose_spec.1 ok_X11.1 rfl rfl ⟨Nat.le_of_ble_eq_true rfl, Nat.le_of_ble_eq_true rfl⟩ hl.1 rfl (Nat.le_of_ble_eq_true rfl) ⟨Nat.le_of_ble_eq_true rfl, Nat.le_of_ble_eq_true rfl⟩ dL_law_821 (fun r_186061 L_186062 f_186063 H locs h_186064 Y => ?_)
  have I := h_186064
  have hC : CI G adx nL bT kF pF a a8 L_186062 f_186063 := ⟨tc, w, q, I, hW, hT, hQ, hZ, hE, hw2, hw7, hq2, hq7, ha, ha8, hL9, hBT⟩
  have Y := Y.swap
  refine lv_pop hx hb dL_law_824 rfl ?_
  refine lv_aload_n hx hb dL_law_825 rfl (lv_at hl 1 rfl) ?_
  refine lv_aload_n hx hb dL_law_826 rfl (lv_at hl 3 rfl) ?_
  refine lv_iload_n hx hb dL_law_827 rfl (lv_at hl 0 rfl) ?_
  refine lv_iconst (v := 1) hx hb dL_law_828 (by decide) ?_
  refine lv_iadd hx hb dL_law_829 ?_
  refine lv_topi (fun x_186065 ex_186065 => ?_)
  refine va_sld hx hb hX hbl hbA Y.2.2 (law_in ex_186065 hi hL (by decide)) dL_law_830 ?_
  refine lv_fold (z := v1) ((law_rd ex_186065 hi hL (by decide)).trans ev1.symm) ?_
  refine lv_aload_n hx hb dL_law_831 rfl (lv_at hl 3 rfl) ?_
  refine lv_iload_n hx hb dL_law_832 rfl (lv_at hl 0 rfl) ?_
  refine lv_iconst (v := 2) hx hb dL_law_833 (by decide) ?_
  refine lv_iadd hx hb dL_law_834 ?_
  refine lv_topi (fun x_186066 ex_186066 => ?_)
  refine va_sld hx hb hX hbl hbA Y.2.2 (law_in ex_186066 hi hL (by decide)) dL_law_835 ?_
  refine lv_fold (z := v2) ((law_rd ex_186066 hi hL (by decide)).trans ev2.symm) ?_
  obtain ⟨wm, wm2, g0, I, hB, hB2, hX0, ew1, ew2, ha, ha8, hL9, hBT⟩ := hM
  refine cVi (As := [.int v1, .int v2]) (rest := []) S Y (x_X12_foretold (l := l) I hB hX0) cw_X12_foretold kmL_102 (I.opo (k := 0) (j := 0) (by decide) rfl).choose_spec.1 ok_X12.1 rfl rfl ⟨Nat.le_of_ble_eq_true rfl, Nat.le_of_ble_eq_true rfl⟩ hl.1 rfl (Nat.le_of_ble_eq_true rfl) ⟨Nat.le_of_ble_eq_true rfl, Nat.le_of_ble_eq_true rfl⟩ dL_law_836 (fun r_186067 L_186068 f_186069 H locs h_186070 Y => ?_)
  have I := h_186070
  have hM : MI G adm nL bT kF pF a a8 L_186068 f_186069 := ⟨wm, wm2, g0, I, hB, hB2, hX0, ew1, ew2, ha, ha8, hL9, hBT⟩
  refine lv_pop hx hb dL_law_839 rfl ?_
  refine lv_goto (tgt := 1526) hx hb dL_law_840 (by decide) ?_
  exact tail _ _ _ _ _ _ _ _ _ _ _ _ _ hC hM Y hl
set_option maxHeartbeats 4000000 in
set_option maxRecDepth 100000 in
theorem law_21 {p : Program} {e : Env} {s : State} {m : MethodId} {below : List Frame} {meth : Method} {c : Code} (l : Launch) {b L : Nat} {xs : Nat → Int32} (C0 : lw_At p s m meth c b L xs) (hL : L ≤ 3072) {G : GG} {A : Nat → Prop} (hAe : A = (fun q : Nat => s.heap.size ≤ q)) (S : SX G A p s m meth c RL code 4 ret) {aK aV : Nat → Nat} {z0 : Option Nat} (hz : ZS aK aV z0 A s s.heap) {adx adm : Nat → Nat → Nat} {i : Int32} (hi : 0 ≤ i.toInt ∧ i.toInt + 6 ≤ (L : Int)) {nL : Int} {bT : Nat → Int32} {kF pF a a8 : Int} {Lx Lm : List Nat} {fx fm : HF} {H : Heap} {locs : List Loc} {ls : Array Slot} (hC : CI G adx nL bT kF pF a a8 Lx fx) (hM : MI G adm nL bT kF pF a a8 Lm fm) (Y : DY G A s (va_pl Lx fx) Lm fm H locs) (hl : lv_has ls 4 [(3, .int i), (2, .ref (adm 0 0)), (1, .ref (adx 0 0)), (0, .ref b)]) (tail : ∀ (nL : Int) (bT : Nat → Int32) (kF pF a a8 : Int) (Lx Lm : List Nat) (fx fm : HF) (H : Heap) (locs : List Loc) (ls : Array Slot), CI G adx nL bT kF pF a a8 Lx fx → MI G adm nL bT kF pF a a8 Lm fm → DY G A s (va_pl Lx fx) Lm fm H locs → lv_has ls 4 [(3, .int i), (2, .ref (adm 0 0)), (1, .ref (adx 0 0)), (0, .ref b)] → W p l e room_1 s m #[Value.ref b] below meth c H locs 1000 60000 (lw_Z below #[Value.ref b] s) (F0 m 1526 ls [])) : W p l e room_1 s m #[Value.ref b] below meth c H locs 1000 60000 (lw_Z below #[Value.ref b] s) (F0 m 843 ls []) := by
  obtain ⟨hx, hb, hr, hml, hown, hts, hX, hbl, hlocks, hgv⟩ := id C0
  have hbA : ¬ A b := by rw [hAe]; exact Nat.not_le.mpr hbl
  refine lv_aload_n hx hb dL_law_843 rfl (lv_at hl 2 rfl) ?_
  refine lv_aload_n hx hb dL_law_844 rfl (lv_at hl 3 rfl) ?_
  refine lv_iload_n hx hb dL_law_845 rfl (lv_at hl 0 rfl) ?_
  refine lv_iconst (v := 1) hx hb dL_law_846 (by decide) ?_
  refine lv_iadd hx hb dL_law_847 ?_
  refine lv_topi (fun x_186071 ex_186071 => ?_)
  obtain ⟨v1, ev1⟩ : ∃ z, z = xs (i.toInt.toNat + (1 : Int32).toInt.toNat) := ⟨_, rfl⟩
  refine va_sld hx hb hX hbl hbA Y.2.2 (law_in ex_186071 hi hL (by decide)) dL_law_848 ?_
  refine lv_fold (z := v1) ((law_rd ex_186071 hi hL (by decide)).trans ev1.symm) ?_
  have Y := Y.swap
  obtain ⟨tc, w, q, I, hW, hT, hQ, hZ, hE, hw2, hw7, hq2, hq7, ha, ha8, hL9, hBT⟩ := hC
  refine cVi (As := [.int v1]) (rest := []) S Y (x_X11_firstAche (l := l) I hW hT hQ hZ hE) cw_X11_firstAche kmL_103 (I.opo (k := 0) (j := 0) (by decide) rfl).choose_spec.1 ok_X11.1 rfl rfl ⟨Nat.le_of_ble_eq_true rfl, Nat.le_of_ble_eq_true rfl⟩ hl.1 rfl (Nat.le_of_ble_eq_true rfl) ⟨Nat.le_of_ble_eq_true rfl, Nat.le_of_ble_eq_true rfl⟩ dL_law_849 (fun r_186072 L_186073 f_186074 H locs h_186075 Y => ?_)
  have I := h_186075
  have hC : CI G adx nL bT kF pF a a8 L_186073 f_186074 := ⟨tc, w, q, I, hW, hT, hQ, hZ, hE, hw2, hw7, hq2, hq7, ha, ha8, hL9, hBT⟩
  have Y := Y.swap
  refine lv_pop hx hb dL_law_852 rfl ?_
  refine lv_aload_n hx hb dL_law_853 rfl (lv_at hl 1 rfl) ?_
  refine lv_aload_n hx hb dL_law_854 rfl (lv_at hl 3 rfl) ?_
  refine lv_iload_n hx hb dL_law_855 rfl (lv_at hl 0 rfl) ?_
  refine lv_iconst (v := 1) hx hb dL_law_856 (by decide) ?_
  refine lv_iadd hx hb dL_law_857 ?_
  refine lv_topi (fun x_186076 ex_186076 => ?_)
  refine va_sld hx hb hX hbl hbA Y.2.2 (law_in ex_186076 hi hL (by decide)) dL_law_858 ?_
  refine lv_fold (z := v1) ((law_rd ex_186076 hi hL (by decide)).trans ev1.symm) ?_
  obtain ⟨wm, wm2, g0, I, hB, hB2, hX0, ew1, ew2, ha, ha8, hL9, hBT⟩ := hM
  refine cVi (As := [.int v1]) (rest := []) S Y (x_X12_firstAche (l := l) I hB hX0) cw_X12_firstAche kmL_106 (I.opo (k := 0) (j := 0) (by decide) rfl).choose_spec.1 ok_X12.1 rfl rfl ⟨Nat.le_of_ble_eq_true rfl, Nat.le_of_ble_eq_true rfl⟩ hl.1 rfl (Nat.le_of_ble_eq_true rfl) ⟨Nat.le_of_ble_eq_true rfl, Nat.le_of_ble_eq_true rfl⟩ dL_law_859 (fun r_186077 L_186078 f_186079 H locs h_186080 Y => ?_)
  have I := h_186080
  have hM : MI G adm nL bT kF pF a a8 L_186078 f_186079 := ⟨wm, wm2, g0, I, hB, hB2, hX0, ew1, ew2, ha, ha8, hL9, hBT⟩
  refine lv_pop hx hb dL_law_862 rfl ?_
  refine lv_goto (tgt := 1526) hx hb dL_law_863 (by decide) ?_
  exact tail _ _ _ _ _ _ _ _ _ _ _ _ _ hC hM Y hl
set_option maxHeartbeats 4000000 in
set_option maxRecDepth 100000 in
theorem law_22 {p : Program} {e : Env} {s : State} {m : MethodId} {below : List Frame} {meth : Method} {c : Code} (l : Launch) {b L : Nat} {xs : Nat → Int32} (C0 : lw_At p s m meth c b L xs) (hL : L ≤ 3072) {G : GG} {A : Nat → Prop} (hAe : A = (fun q : Nat => s.heap.size ≤ q)) (S : SX G A p s m meth c RL code 4 ret) {aK aV : Nat → Nat} {z0 : Option Nat} (hz : ZS aK aV z0 A s s.heap) {adx adm : Nat → Nat → Nat} {i : Int32} (hi : 0 ≤ i.toInt ∧ i.toInt + 6 ≤ (L : Int)) {nL : Int} {bT : Nat → Int32} {kF pF a a8 : Int} {Lx Lm : List Nat} {fx fm : HF} {H : Heap} {locs : List Loc} {ls : Array Slot} (hC : CI G adx nL bT kF pF a a8 Lx fx) (hM : MI G adm nL bT kF pF a a8 Lm fm) (Y : DY G A s (va_pl Lx fx) Lm fm H locs) (hl : lv_has ls 4 [(3, .int i), (2, .ref (adm 0 0)), (1, .ref (adx 0 0)), (0, .ref b)]) (tail : ∀ (nL : Int) (bT : Nat → Int32) (kF pF a a8 : Int) (Lx Lm : List Nat) (fx fm : HF) (H : Heap) (locs : List Loc) (ls : Array Slot), CI G adx nL bT kF pF a a8 Lx fx → MI G adm nL bT kF pF a a8 Lm fm → DY G A s (va_pl Lx fx) Lm fm H locs → lv_has ls 4 [(3, .int i), (2, .ref (adm 0 0)), (1, .ref (adx 0 0)), (0, .ref b)] → W p l e room_1 s m #[Value.ref b] below meth c H locs 1000 60000 (lw_Z below #[Value.ref b] s) (F0 m 1526 ls [])) : W p l e room_1 s m #[Value.ref b] below meth c H locs 1000 60000 (lw_Z below #[Value.ref b] s) (F0 m 866 ls []) := by
  obtain ⟨hx, hb, hr, hml, hown, hts, hX, hbl, hlocks, hgv⟩ := id C0
  have hbA : ¬ A b := by rw [hAe]; exact Nat.not_le.mpr hbl
  refine lv_aload_n hx hb dL_law_866 rfl (lv_at hl 2 rfl) ?_
  refine lv_aload_n hx hb dL_law_867 rfl (lv_at hl 3 rfl) ?_
  refine lv_iload_n hx hb dL_law_868 rfl (lv_at hl 0 rfl) ?_
  refine lv_iconst (v := 1) hx hb dL_law_869 (by decide) ?_
  refine lv_iadd hx hb dL_law_870 ?_
  refine lv_topi (fun x_186081 ex_186081 => ?_)
  obtain ⟨v1, ev1⟩ : ∃ z, z = xs (i.toInt.toNat + (1 : Int32).toInt.toNat) := ⟨_, rfl⟩
  refine va_sld hx hb hX hbl hbA Y.2.2 (law_in ex_186081 hi hL (by decide)) dL_law_871 ?_
  refine lv_fold (z := v1) ((law_rd ex_186081 hi hL (by decide)).trans ev1.symm) ?_
  have Y := Y.swap
  obtain ⟨tc, w, q, I, hW, hT, hQ, hZ, hE, hw2, hw7, hq2, hq7, ha, ha8, hL9, hBT⟩ := hC
  refine cVi (As := [.int v1]) (rest := []) S Y (x_X11_fades (l := l) I hW hT hQ hZ hE) cw_X11_fades kmL_107 (I.opo (k := 0) (j := 0) (by decide) rfl).choose_spec.1 ok_X11.1 rfl rfl ⟨Nat.le_of_ble_eq_true rfl, Nat.le_of_ble_eq_true rfl⟩ hl.1 rfl (Nat.le_of_ble_eq_true rfl) ⟨Nat.le_of_ble_eq_true rfl, Nat.le_of_ble_eq_true rfl⟩ dL_law_872 (fun r_186082 L_186083 f_186084 H locs h_186085 Y => ?_)
  have I := h_186085
  have hC : CI G adx nL bT kF pF a a8 L_186083 f_186084 := ⟨tc, w, q, I, hW, hT, hQ, hZ, hE, hw2, hw7, hq2, hq7, ha, ha8, hL9, hBT⟩
  have Y := Y.swap
  refine lv_pop hx hb dL_law_875 rfl ?_
  refine lv_aload_n hx hb dL_law_876 rfl (lv_at hl 1 rfl) ?_
  refine lv_aload_n hx hb dL_law_877 rfl (lv_at hl 3 rfl) ?_
  refine lv_iload_n hx hb dL_law_878 rfl (lv_at hl 0 rfl) ?_
  refine lv_iconst (v := 1) hx hb dL_law_879 (by decide) ?_
  refine lv_iadd hx hb dL_law_880 ?_
  refine lv_topi (fun x_186086 ex_186086 => ?_)
  refine va_sld hx hb hX hbl hbA Y.2.2 (law_in ex_186086 hi hL (by decide)) dL_law_881 ?_
  refine lv_fold (z := v1) ((law_rd ex_186086 hi hL (by decide)).trans ev1.symm) ?_
  obtain ⟨wm, wm2, g0, I, hB, hB2, hX0, ew1, ew2, ha, ha8, hL9, hBT⟩ := hM
  refine cVi (As := [.int v1]) (rest := []) S Y (x_X12_fades (l := l) I hB hX0) cw_X12_fades kmL_110 (I.opo (k := 0) (j := 0) (by decide) rfl).choose_spec.1 ok_X12.1 rfl rfl ⟨Nat.le_of_ble_eq_true rfl, Nat.le_of_ble_eq_true rfl⟩ hl.1 rfl (Nat.le_of_ble_eq_true rfl) ⟨Nat.le_of_ble_eq_true rfl, Nat.le_of_ble_eq_true rfl⟩ dL_law_882 (fun r_186087 L_186088 f_186089 H locs h_186090 Y => ?_)
  have I := h_186090
  have hM : MI G adm nL bT kF pF a a8 L_186088 f_186089 := ⟨wm, wm2, g0, I, hB, hB2, hX0, ew1, ew2, ha, ha8, hL9, hBT⟩
  refine lv_pop hx hb dL_law_885 rfl ?_
  refine lv_goto (tgt := 1526) hx hb dL_law_886 (by decide) ?_
  exact tail _ _ _ _ _ _ _ _ _ _ _ _ _ hC hM Y hl
set_option maxHeartbeats 4000000 in
set_option maxRecDepth 100000 in
theorem law_23 {p : Program} {e : Env} {s : State} {m : MethodId} {below : List Frame} {meth : Method} {c : Code} (l : Launch) {b L : Nat} {xs : Nat → Int32} (C0 : lw_At p s m meth c b L xs) (hL : L ≤ 3072) {G : GG} {A : Nat → Prop} (hAe : A = (fun q : Nat => s.heap.size ≤ q)) (S : SX G A p s m meth c RL code 4 ret) {aK aV : Nat → Nat} {z0 : Option Nat} (hz : ZS aK aV z0 A s s.heap) {adx adm : Nat → Nat → Nat} {i : Int32} (hi : 0 ≤ i.toInt ∧ i.toInt + 6 ≤ (L : Int)) {nL : Int} {bT : Nat → Int32} {kF pF a a8 : Int} {Lx Lm : List Nat} {fx fm : HF} {H : Heap} {locs : List Loc} {ls : Array Slot} (hC : CI G adx nL bT kF pF a a8 Lx fx) (hM : MI G adm nL bT kF pF a a8 Lm fm) (Y : DY G A s (va_pl Lx fx) Lm fm H locs) (hl : lv_has ls 4 [(3, .int i), (2, .ref (adm 0 0)), (1, .ref (adx 0 0)), (0, .ref b)]) (tail : ∀ (nL : Int) (bT : Nat → Int32) (kF pF a a8 : Int) (Lx Lm : List Nat) (fx fm : HF) (H : Heap) (locs : List Loc) (ls : Array Slot), CI G adx nL bT kF pF a a8 Lx fx → MI G adm nL bT kF pF a a8 Lm fm → DY G A s (va_pl Lx fx) Lm fm H locs → lv_has ls 4 [(3, .int i), (2, .ref (adm 0 0)), (1, .ref (adx 0 0)), (0, .ref b)] → W p l e room_1 s m #[Value.ref b] below meth c H locs 1000 60000 (lw_Z below #[Value.ref b] s) (F0 m 1526 ls [])) : W p l e room_1 s m #[Value.ref b] below meth c H locs 1000 60000 (lw_Z below #[Value.ref b] s) (F0 m 889 ls []) := by
  obtain ⟨hx, hb, hr, hml, hown, hts, hX, hbl, hlocks, hgv⟩ := id C0
  have hbA : ¬ A b := by rw [hAe]; exact Nat.not_le.mpr hbl
  refine lv_aload_n hx hb dL_law_889 rfl (lv_at hl 2 rfl) ?_
  refine lv_aload_n hx hb dL_law_890 rfl (lv_at hl 3 rfl) ?_
  refine lv_iload_n hx hb dL_law_891 rfl (lv_at hl 0 rfl) ?_
  refine lv_iconst (v := 1) hx hb dL_law_892 (by decide) ?_
  refine lv_iadd hx hb dL_law_893 ?_
  refine lv_topi (fun x_186091 ex_186091 => ?_)
  obtain ⟨v1, ev1⟩ : ∃ z, z = xs (i.toInt.toNat + (1 : Int32).toInt.toNat) := ⟨_, rfl⟩
  refine va_sld hx hb hX hbl hbA Y.2.2 (law_in ex_186091 hi hL (by decide)) dL_law_894 ?_
  refine lv_fold (z := v1) ((law_rd ex_186091 hi hL (by decide)).trans ev1.symm) ?_
  refine lv_aload_n hx hb dL_law_895 rfl (lv_at hl 3 rfl) ?_
  refine lv_iload_n hx hb dL_law_896 rfl (lv_at hl 0 rfl) ?_
  refine lv_iconst (v := 2) hx hb dL_law_897 (by decide) ?_
  refine lv_iadd hx hb dL_law_898 ?_
  refine lv_topi (fun x_186092 ex_186092 => ?_)
  obtain ⟨v2, ev2⟩ : ∃ z, z = xs (i.toInt.toNat + (2 : Int32).toInt.toNat) := ⟨_, rfl⟩
  refine va_sld hx hb hX hbl hbA Y.2.2 (law_in ex_186092 hi hL (by decide)) dL_law_899 ?_
  refine lv_fold (z := v2) ((law_rd ex_186092 hi hL (by decide)).trans ev2.symm) ?_
  refine lv_aload_n hx hb dL_law_900 rfl (lv_at hl 3 rfl) ?_
  refine lv_iload_n hx hb dL_law_901 rfl (lv_at hl 0 rfl) ?_
  refine lv_iconst (v := 3) hx hb dL_law_902 (by decide) ?_
  refine lv_iadd hx hb dL_law_903 ?_
  refine lv_topi (fun x_186093 ex_186093 => ?_)
  obtain ⟨v3, ev3⟩ : ∃ z, z = xs (i.toInt.toNat + (3 : Int32).toInt.toNat) := ⟨_, rfl⟩
  refine va_sld hx hb hX hbl hbA Y.2.2 (law_in ex_186093 hi hL (by decide)) dL_law_904 ?_
  refine lv_fold (z := v3) ((law_rd ex_186093 hi hL (by decide)).trans ev3.symm) ?_
  have Y := Y.swap
  obtain ⟨tc, w, q, I, hW, hT, hQ, hZ, hE, hw2, hw7, hq2, hq7, ha, ha8, hL9, hBT⟩ := hC
  refine cVi (As := [.int v1, .int v2, .int v3]) (rest := []) S Y (x_X11_felt (l := l) I hW hT hQ hZ hE) cw_X11_felt kmL_111 (I.opo (k := 0) (j := 0) (by decide) rfl).choose_spec.1 ok_X11.1 rfl rfl ⟨Nat.le_of_ble_eq_true rfl, Nat.le_of_ble_eq_true rfl⟩ hl.1 rfl (Nat.le_of_ble_eq_true rfl) ⟨Nat.le_of_ble_eq_true rfl, Nat.le_of_ble_eq_true rfl⟩ dL_law_905 (fun r_186094 L_186095 f_186096 H locs h_186097 Y => ?_)
  have I := h_186097
  have hC : CI G adx nL bT kF pF a a8 L_186095 f_186096 := ⟨tc, w, q, I, hW, hT, hQ, hZ, hE, hw2, hw7, hq2, hq7, ha, ha8, hL9, hBT⟩
  have Y := Y.swap
  refine lv_pop hx hb dL_law_908 rfl ?_
  refine lv_aload_n hx hb dL_law_909 rfl (lv_at hl 1 rfl) ?_
  refine lv_aload_n hx hb dL_law_910 rfl (lv_at hl 3 rfl) ?_
  refine lv_iload_n hx hb dL_law_911 rfl (lv_at hl 0 rfl) ?_
  refine lv_iconst (v := 1) hx hb dL_law_912 (by decide) ?_
  refine lv_iadd hx hb dL_law_913 ?_
  refine lv_topi (fun x_186098 ex_186098 => ?_)
  refine va_sld hx hb hX hbl hbA Y.2.2 (law_in ex_186098 hi hL (by decide)) dL_law_914 ?_
  refine lv_fold (z := v1) ((law_rd ex_186098 hi hL (by decide)).trans ev1.symm) ?_
  refine lv_aload_n hx hb dL_law_915 rfl (lv_at hl 3 rfl) ?_
  refine lv_iload_n hx hb dL_law_916 rfl (lv_at hl 0 rfl) ?_
  refine lv_iconst (v := 2) hx hb dL_law_917 (by decide) ?_
  refine lv_iadd hx hb dL_law_918 ?_
  refine lv_topi (fun x_186099 ex_186099 => ?_)
  refine va_sld hx hb hX hbl hbA Y.2.2 (law_in ex_186099 hi hL (by decide)) dL_law_919 ?_
  refine lv_fold (z := v2) ((law_rd ex_186099 hi hL (by decide)).trans ev2.symm) ?_
  refine lv_aload_n hx hb dL_law_920 rfl (lv_at hl 3 rfl) ?_
  refine lv_iload_n hx hb dL_law_921 rfl (lv_at hl 0 rfl) ?_
  refine lv_iconst (v := 3) hx hb dL_law_922 (by decide) ?_
  refine lv_iadd hx hb dL_law_923 ?_
  refine lv_topi (fun x_186100 ex_186100 => ?_)
  refine va_sld hx hb hX hbl hbA Y.2.2 (law_in ex_186100 hi hL (by decide)) dL_law_924 ?_
  refine lv_fold (z := v3) ((law_rd ex_186100 hi hL (by decide)).trans ev3.symm) ?_
  obtain ⟨wm, wm2, g0, I, hB, hB2, hX0, ew1, ew2, ha, ha8, hL9, hBT⟩ := hM
  refine cVi (As := [.int v1, .int v2, .int v3]) (rest := []) S Y (x_X12_felt (l := l) I hB hX0) cw_X12_felt kmL_115 (I.opo (k := 0) (j := 0) (by decide) rfl).choose_spec.1 ok_X12.1 rfl rfl ⟨Nat.le_of_ble_eq_true rfl, Nat.le_of_ble_eq_true rfl⟩ hl.1 rfl (Nat.le_of_ble_eq_true rfl) ⟨Nat.le_of_ble_eq_true rfl, Nat.le_of_ble_eq_true rfl⟩ dL_law_925 (fun r_186101 L_186102 f_186103 H locs h_186104 Y => ?_)
  have I := h_186104
  have hM : MI G adm nL bT kF pF a a8 L_186102 f_186103 := ⟨wm, wm2, g0, I, hB, hB2, hX0, ew1, ew2, ha, ha8, hL9, hBT⟩
  refine lv_pop hx hb dL_law_928 rfl ?_
  refine lv_goto (tgt := 1526) hx hb dL_law_929 (by decide) ?_
  exact tail _ _ _ _ _ _ _ _ _ _ _ _ _ hC hM Y hl
