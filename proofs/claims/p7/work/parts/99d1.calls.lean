theorem dL_law_596 : decode cL_law 596 = .ok (.aload_n 1, 1) := by decide +kernel
theorem dL_law_597 : decode cL_law 597 = .ok (.aload_n 0, 1) := by decide +kernel
theorem dL_law_598 : decode cL_law 598 = .ok (.iload_n 3, 1) := by decide +kernel
theorem dL_law_599 : decode cL_law 599 = .ok (.iconst 1, 1) := by decide +kernel
theorem dL_law_600 : decode cL_law 600 = .ok (.iadd, 1) := by decide +kernel
theorem dL_law_601 : decode cL_law 601 = .ok (.iaload, 1) := by decide +kernel
theorem dL_law_602 : decode cL_law 602 = .ok (.invokevirtual 67, 3) := by decide +kernel
theorem cw_X11_day : CWv yX11_day cX11_day 3 (some .int) 1 := ⟨⟨⟨List.mem_of_getElem? (i := 124) (by decide +kernel), by decide +kernel⟩, ⟨List.mem_of_getElem? (i := 1062) (by decide +kernel), by decide +kernel⟩, by decide +kernel⟩, ⟨List.mem_of_getElem? (i := 1060) (by decide +kernel), by decide +kernel⟩, ⟨List.mem_of_getElem? (i := 1061) (by decide +kernel), by decide +kernel⟩⟩
theorem kmL_67 : inW (Cond.methodLink RL 67 yX11_day) := ⟨List.mem_of_getElem? (i := 1059) (by decide +kernel), by decide +kernel⟩
theorem dL_law_605 : decode cL_law 605 = .ok (.pop, 1) := by decide +kernel
theorem dL_law_606 : decode cL_law 606 = .ok (.aload_n 2, 1) := by decide +kernel
theorem dL_law_607 : decode cL_law 607 = .ok (.aload_n 0, 1) := by decide +kernel
theorem dL_law_608 : decode cL_law 608 = .ok (.iload_n 3, 1) := by decide +kernel
theorem dL_law_609 : decode cL_law 609 = .ok (.iconst 1, 1) := by decide +kernel
theorem dL_law_610 : decode cL_law 610 = .ok (.iadd, 1) := by decide +kernel
theorem dL_law_611 : decode cL_law 611 = .ok (.iaload, 1) := by decide +kernel
theorem dL_law_612 : decode cL_law 612 = .ok (.invokevirtual 70, 3) := by decide +kernel
theorem cw_X12_day : CWv yX12_day cX12_day 2 (some .int) 1 := ⟨⟨⟨List.mem_of_getElem? (i := 137) (by decide +kernel), by decide +kernel⟩, ⟨List.mem_of_getElem? (i := 1908) (by decide +kernel), by decide +kernel⟩, by decide +kernel⟩, ⟨List.mem_of_getElem? (i := 1906) (by decide +kernel), by decide +kernel⟩, ⟨List.mem_of_getElem? (i := 1907) (by decide +kernel), by decide +kernel⟩⟩
theorem kmL_70 : inW (Cond.methodLink RL 70 yX12_day) := ⟨List.mem_of_getElem? (i := 1905) (by decide +kernel), by decide +kernel⟩
theorem dL_law_615 : decode cL_law 615 = .ok (.pop, 1) := by decide +kernel
theorem dL_law_616 : decode cL_law 616 = .ok (.goto 910, 3) := by decide +kernel
theorem dL_law_619 : decode cL_law 619 = .ok (.aload_n 1, 1) := by decide +kernel
theorem dL_law_620 : decode cL_law 620 = .ok (.aload_n 0, 1) := by decide +kernel
theorem dL_law_621 : decode cL_law 621 = .ok (.iload_n 3, 1) := by decide +kernel
theorem dL_law_622 : decode cL_law 622 = .ok (.iconst 1, 1) := by decide +kernel
theorem dL_law_623 : decode cL_law 623 = .ok (.iadd, 1) := by decide +kernel
theorem dL_law_624 : decode cL_law 624 = .ok (.iaload, 1) := by decide +kernel
theorem dL_law_625 : decode cL_law 625 = .ok (.invokevirtual 71, 3) := by decide +kernel
theorem cw_X11_played : CWv yX11_played cX11_played 4 (some .int) 1 := ⟨⟨⟨List.mem_of_getElem? (i := 124) (by decide +kernel), by decide +kernel⟩, ⟨List.mem_of_getElem? (i := 1096) (by decide +kernel), by decide +kernel⟩, by decide +kernel⟩, ⟨List.mem_of_getElem? (i := 1094) (by decide +kernel), by decide +kernel⟩, ⟨List.mem_of_getElem? (i := 1095) (by decide +kernel), by decide +kernel⟩⟩
theorem kmL_71 : inW (Cond.methodLink RL 71 yX11_played) := ⟨List.mem_of_getElem? (i := 1093) (by decide +kernel), by decide +kernel⟩
theorem dL_law_628 : decode cL_law 628 = .ok (.pop, 1) := by decide +kernel
theorem dL_law_629 : decode cL_law 629 = .ok (.aload_n 2, 1) := by decide +kernel
theorem dL_law_630 : decode cL_law 630 = .ok (.aload_n 0, 1) := by decide +kernel
theorem dL_law_631 : decode cL_law 631 = .ok (.iload_n 3, 1) := by decide +kernel
theorem dL_law_632 : decode cL_law 632 = .ok (.iconst 1, 1) := by decide +kernel
theorem dL_law_633 : decode cL_law 633 = .ok (.iadd, 1) := by decide +kernel
theorem dL_law_634 : decode cL_law 634 = .ok (.iaload, 1) := by decide +kernel
theorem dL_law_635 : decode cL_law 635 = .ok (.invokevirtual 74, 3) := by decide +kernel
theorem cw_X12_played : CWv yX12_played cX12_played 3 (some .int) 1 := ⟨⟨⟨List.mem_of_getElem? (i := 137) (by decide +kernel), by decide +kernel⟩, ⟨List.mem_of_getElem? (i := 1935) (by decide +kernel), by decide +kernel⟩, by decide +kernel⟩, ⟨List.mem_of_getElem? (i := 1933) (by decide +kernel), by decide +kernel⟩, ⟨List.mem_of_getElem? (i := 1934) (by decide +kernel), by decide +kernel⟩⟩
theorem kmL_74 : inW (Cond.methodLink RL 74 yX12_played) := ⟨List.mem_of_getElem? (i := 1932) (by decide +kernel), by decide +kernel⟩
theorem dL_law_638 : decode cL_law 638 = .ok (.pop, 1) := by decide +kernel
theorem dL_law_639 : decode cL_law 639 = .ok (.goto 887, 3) := by decide +kernel
theorem dL_law_642 : decode cL_law 642 = .ok (.aload_n 1, 1) := by decide +kernel
theorem dL_law_643 : decode cL_law 643 = .ok (.aload_n 0, 1) := by decide +kernel
theorem dL_law_644 : decode cL_law 644 = .ok (.iload_n 3, 1) := by decide +kernel
theorem dL_law_645 : decode cL_law 645 = .ok (.iconst 1, 1) := by decide +kernel
theorem dL_law_646 : decode cL_law 646 = .ok (.iadd, 1) := by decide +kernel
theorem dL_law_647 : decode cL_law 647 = .ok (.iaload, 1) := by decide +kernel
theorem dL_law_648 : decode cL_law 648 = .ok (.aload_n 0, 1) := by decide +kernel
theorem dL_law_649 : decode cL_law 649 = .ok (.iload_n 3, 1) := by decide +kernel
theorem dL_law_650 : decode cL_law 650 = .ok (.iconst 2, 1) := by decide +kernel
theorem dL_law_651 : decode cL_law 651 = .ok (.iadd, 1) := by decide +kernel
theorem dL_law_652 : decode cL_law 652 = .ok (.iaload, 1) := by decide +kernel
theorem dL_law_653 : decode cL_law 653 = .ok (.invokevirtual 75, 3) := by decide +kernel
theorem cw_X11_years : CWv yX11_years cX11_years 4 (some .int) 2 := ⟨⟨⟨List.mem_of_getElem? (i := 124) (by decide +kernel), by decide +kernel⟩, ⟨List.mem_of_getElem? (i := 1116) (by decide +kernel), by decide +kernel⟩, by decide +kernel⟩, ⟨List.mem_of_getElem? (i := 1114) (by decide +kernel), by decide +kernel⟩, ⟨List.mem_of_getElem? (i := 1115) (by decide +kernel), by decide +kernel⟩⟩
theorem kmL_75 : inW (Cond.methodLink RL 75 yX11_years) := ⟨List.mem_of_getElem? (i := 1113) (by decide +kernel), by decide +kernel⟩
theorem dL_law_656 : decode cL_law 656 = .ok (.pop, 1) := by decide +kernel
theorem dL_law_657 : decode cL_law 657 = .ok (.aload_n 2, 1) := by decide +kernel
theorem dL_law_658 : decode cL_law 658 = .ok (.aload_n 0, 1) := by decide +kernel
theorem dL_law_659 : decode cL_law 659 = .ok (.iload_n 3, 1) := by decide +kernel
theorem dL_law_660 : decode cL_law 660 = .ok (.iconst 1, 1) := by decide +kernel
theorem dL_law_661 : decode cL_law 661 = .ok (.iadd, 1) := by decide +kernel
theorem dL_law_662 : decode cL_law 662 = .ok (.iaload, 1) := by decide +kernel
theorem dL_law_663 : decode cL_law 663 = .ok (.aload_n 0, 1) := by decide +kernel
theorem dL_law_664 : decode cL_law 664 = .ok (.iload_n 3, 1) := by decide +kernel
theorem dL_law_665 : decode cL_law 665 = .ok (.iconst 2, 1) := by decide +kernel
theorem dL_law_666 : decode cL_law 666 = .ok (.iadd, 1) := by decide +kernel
theorem dL_law_667 : decode cL_law 667 = .ok (.iaload, 1) := by decide +kernel
theorem dL_law_668 : decode cL_law 668 = .ok (.invokevirtual 78, 3) := by decide +kernel
theorem cw_X12_years : CWv yX12_years cX12_years 5 (some .int) 2 := ⟨⟨⟨List.mem_of_getElem? (i := 137) (by decide +kernel), by decide +kernel⟩, ⟨List.mem_of_getElem? (i := 1949) (by decide +kernel), by decide +kernel⟩, by decide +kernel⟩, ⟨List.mem_of_getElem? (i := 1947) (by decide +kernel), by decide +kernel⟩, ⟨List.mem_of_getElem? (i := 1948) (by decide +kernel), by decide +kernel⟩⟩
theorem kmL_78 : inW (Cond.methodLink RL 78 yX12_years) := ⟨List.mem_of_getElem? (i := 1946) (by decide +kernel), by decide +kernel⟩
theorem dL_law_671 : decode cL_law 671 = .ok (.pop, 1) := by decide +kernel
theorem dL_law_672 : decode cL_law 672 = .ok (.goto 854, 3) := by decide +kernel
theorem dL_law_675 : decode cL_law 675 = .ok (.aload_n 1, 1) := by decide +kernel
theorem dL_law_676 : decode cL_law 676 = .ok (.invokevirtual 79, 3) := by decide +kernel
theorem cw_X11_undo : CWv yX11_undo cX11_undo 1 (some .int) 0 := ⟨⟨⟨List.mem_of_getElem? (i := 124) (by decide +kernel), by decide +kernel⟩, ⟨List.mem_of_getElem? (i := 1133) (by decide +kernel), by decide +kernel⟩, by decide +kernel⟩, ⟨List.mem_of_getElem? (i := 1131) (by decide +kernel), by decide +kernel⟩, ⟨List.mem_of_getElem? (i := 1132) (by decide +kernel), by decide +kernel⟩⟩
theorem kmL_79 : inW (Cond.methodLink RL 79 yX11_undo) := ⟨List.mem_of_getElem? (i := 1130) (by decide +kernel), by decide +kernel⟩
theorem dL_law_679 : decode cL_law 679 = .ok (.pop, 1) := by decide +kernel
theorem dL_law_680 : decode cL_law 680 = .ok (.aload_n 2, 1) := by decide +kernel
theorem dL_law_681 : decode cL_law 681 = .ok (.invokevirtual 82, 3) := by decide +kernel
theorem cw_X12_undo : CWv yX12_undo cX12_undo 3 (some .int) 0 := ⟨⟨⟨List.mem_of_getElem? (i := 137) (by decide +kernel), by decide +kernel⟩, ⟨List.mem_of_getElem? (i := 1776) (by decide +kernel), by decide +kernel⟩, by decide +kernel⟩, ⟨List.mem_of_getElem? (i := 1774) (by decide +kernel), by decide +kernel⟩, ⟨List.mem_of_getElem? (i := 1775) (by decide +kernel), by decide +kernel⟩⟩
theorem kmL_82 : inW (Cond.methodLink RL 82 yX12_undo) := ⟨List.mem_of_getElem? (i := 1773) (by decide +kernel), by decide +kernel⟩
theorem dL_law_684 : decode cL_law 684 = .ok (.pop, 1) := by decide +kernel
theorem dL_law_685 : decode cL_law 685 = .ok (.goto 841, 3) := by decide +kernel
theorem dL_law_688 : decode cL_law 688 = .ok (.aload_n 1, 1) := by decide +kernel
theorem dL_law_689 : decode cL_law 689 = .ok (.aload_n 0, 1) := by decide +kernel
theorem dL_law_690 : decode cL_law 690 = .ok (.iload_n 3, 1) := by decide +kernel
theorem dL_law_691 : decode cL_law 691 = .ok (.iconst 1, 1) := by decide +kernel
theorem dL_law_692 : decode cL_law 692 = .ok (.iadd, 1) := by decide +kernel
theorem dL_law_693 : decode cL_law 693 = .ok (.iaload, 1) := by decide +kernel
theorem dL_law_694 : decode cL_law 694 = .ok (.aload_n 0, 1) := by decide +kernel
theorem dL_law_695 : decode cL_law 695 = .ok (.iload_n 3, 1) := by decide +kernel
theorem dL_law_696 : decode cL_law 696 = .ok (.iconst 2, 1) := by decide +kernel
theorem dL_law_697 : decode cL_law 697 = .ok (.iadd, 1) := by decide +kernel
theorem dL_law_698 : decode cL_law 698 = .ok (.iaload, 1) := by decide +kernel
theorem dL_law_699 : decode cL_law 699 = .ok (.invokevirtual 83, 3) := by decide +kernel
theorem cw_X11_of : CWv yX11_of cX11_of 3 (some .int) 2 := ⟨⟨⟨List.mem_of_getElem? (i := 124) (by decide +kernel), by decide +kernel⟩, ⟨List.mem_of_getElem? (i := 1141) (by decide +kernel), by decide +kernel⟩, by decide +kernel⟩, ⟨List.mem_of_getElem? (i := 1139) (by decide +kernel), by decide +kernel⟩, ⟨List.mem_of_getElem? (i := 1140) (by decide +kernel), by decide +kernel⟩⟩
theorem kmL_83 : inW (Cond.methodLink RL 83 yX11_of) := ⟨List.mem_of_getElem? (i := 1138) (by decide +kernel), by decide +kernel⟩
theorem dL_law_702 : decode cL_law 702 = .ok (.pop, 1) := by decide +kernel
theorem dL_law_703 : decode cL_law 703 = .ok (.aload_n 2, 1) := by decide +kernel
theorem dL_law_704 : decode cL_law 704 = .ok (.aload_n 0, 1) := by decide +kernel
theorem dL_law_705 : decode cL_law 705 = .ok (.iload_n 3, 1) := by decide +kernel
theorem dL_law_706 : decode cL_law 706 = .ok (.iconst 1, 1) := by decide +kernel
theorem dL_law_707 : decode cL_law 707 = .ok (.iadd, 1) := by decide +kernel
theorem dL_law_708 : decode cL_law 708 = .ok (.iaload, 1) := by decide +kernel
theorem dL_law_709 : decode cL_law 709 = .ok (.aload_n 0, 1) := by decide +kernel
theorem dL_law_710 : decode cL_law 710 = .ok (.iload_n 3, 1) := by decide +kernel
theorem dL_law_711 : decode cL_law 711 = .ok (.iconst 2, 1) := by decide +kernel
theorem dL_law_712 : decode cL_law 712 = .ok (.iadd, 1) := by decide +kernel
theorem dL_law_713 : decode cL_law 713 = .ok (.iaload, 1) := by decide +kernel
theorem dL_law_714 : decode cL_law 714 = .ok (.invokevirtual 86, 3) := by decide +kernel
theorem cw_X12_of : CWv yX12_of cX12_of 3 (some .int) 2 := ⟨⟨⟨List.mem_of_getElem? (i := 137) (by decide +kernel), by decide +kernel⟩, ⟨List.mem_of_getElem? (i := 1957) (by decide +kernel), by decide +kernel⟩, by decide +kernel⟩, ⟨List.mem_of_getElem? (i := 1955) (by decide +kernel), by decide +kernel⟩, ⟨List.mem_of_getElem? (i := 1956) (by decide +kernel), by decide +kernel⟩⟩
theorem kmL_86 : inW (Cond.methodLink RL 86 yX12_of) := ⟨List.mem_of_getElem? (i := 1954) (by decide +kernel), by decide +kernel⟩
theorem dL_law_717 : decode cL_law 717 = .ok (.pop, 1) := by decide +kernel
theorem dL_law_718 : decode cL_law 718 = .ok (.goto 808, 3) := by decide +kernel
theorem dL_law_721 : decode cL_law 721 = .ok (.aload_n 1, 1) := by decide +kernel
theorem dL_law_722 : decode cL_law 722 = .ok (.aload_n 0, 1) := by decide +kernel
theorem dL_law_723 : decode cL_law 723 = .ok (.iload_n 3, 1) := by decide +kernel
theorem dL_law_724 : decode cL_law 724 = .ok (.iconst 1, 1) := by decide +kernel
theorem dL_law_725 : decode cL_law 725 = .ok (.iadd, 1) := by decide +kernel
theorem dL_law_726 : decode cL_law 726 = .ok (.iaload, 1) := by decide +kernel
theorem dL_law_727 : decode cL_law 727 = .ok (.aload_n 0, 1) := by decide +kernel
theorem dL_law_728 : decode cL_law 728 = .ok (.iload_n 3, 1) := by decide +kernel
theorem dL_law_729 : decode cL_law 729 = .ok (.iconst 2, 1) := by decide +kernel
theorem dL_law_730 : decode cL_law 730 = .ok (.iadd, 1) := by decide +kernel
theorem dL_law_731 : decode cL_law 731 = .ok (.iaload, 1) := by decide +kernel
theorem dL_law_732 : decode cL_law 732 = .ok (.invokevirtual 87, 3) := by decide +kernel
theorem cw_X11_ofOath : CWv yX11_ofOath cX11_ofOath 3 (some .int) 2 := ⟨⟨⟨List.mem_of_getElem? (i := 124) (by decide +kernel), by decide +kernel⟩, ⟨List.mem_of_getElem? (i := 1158) (by decide +kernel), by decide +kernel⟩, by decide +kernel⟩, ⟨List.mem_of_getElem? (i := 1156) (by decide +kernel), by decide +kernel⟩, ⟨List.mem_of_getElem? (i := 1157) (by decide +kernel), by decide +kernel⟩⟩
theorem kmL_87 : inW (Cond.methodLink RL 87 yX11_ofOath) := ⟨List.mem_of_getElem? (i := 1155) (by decide +kernel), by decide +kernel⟩
theorem dL_law_735 : decode cL_law 735 = .ok (.pop, 1) := by decide +kernel
theorem dL_law_736 : decode cL_law 736 = .ok (.aload_n 2, 1) := by decide +kernel
theorem dL_law_737 : decode cL_law 737 = .ok (.aload_n 0, 1) := by decide +kernel
theorem dL_law_738 : decode cL_law 738 = .ok (.iload_n 3, 1) := by decide +kernel
theorem dL_law_739 : decode cL_law 739 = .ok (.iconst 1, 1) := by decide +kernel
theorem dL_law_740 : decode cL_law 740 = .ok (.iadd, 1) := by decide +kernel
theorem dL_law_741 : decode cL_law 741 = .ok (.iaload, 1) := by decide +kernel
theorem dL_law_742 : decode cL_law 742 = .ok (.aload_n 0, 1) := by decide +kernel
theorem dL_law_743 : decode cL_law 743 = .ok (.iload_n 3, 1) := by decide +kernel
theorem dL_law_744 : decode cL_law 744 = .ok (.iconst 2, 1) := by decide +kernel
theorem dL_law_745 : decode cL_law 745 = .ok (.iadd, 1) := by decide +kernel
theorem dL_law_746 : decode cL_law 746 = .ok (.iaload, 1) := by decide +kernel
theorem dL_law_747 : decode cL_law 747 = .ok (.invokevirtual 90, 3) := by decide +kernel
theorem cw_X12_ofOath : CWv yX12_ofOath cX12_ofOath 3 (some .int) 2 := ⟨⟨⟨List.mem_of_getElem? (i := 137) (by decide +kernel), by decide +kernel⟩, ⟨List.mem_of_getElem? (i := 1969) (by decide +kernel), by decide +kernel⟩, by decide +kernel⟩, ⟨List.mem_of_getElem? (i := 1967) (by decide +kernel), by decide +kernel⟩, ⟨List.mem_of_getElem? (i := 1968) (by decide +kernel), by decide +kernel⟩⟩
theorem kmL_90 : inW (Cond.methodLink RL 90 yX12_ofOath) := ⟨List.mem_of_getElem? (i := 1966) (by decide +kernel), by decide +kernel⟩
theorem dL_law_750 : decode cL_law 750 = .ok (.pop, 1) := by decide +kernel
theorem dL_law_751 : decode cL_law 751 = .ok (.goto 775, 3) := by decide +kernel
theorem dL_law_754 : decode cL_law 754 = .ok (.aload_n 1, 1) := by decide +kernel
theorem dL_law_755 : decode cL_law 755 = .ok (.aload_n 0, 1) := by decide +kernel
theorem dL_law_756 : decode cL_law 756 = .ok (.iload_n 3, 1) := by decide +kernel
theorem dL_law_757 : decode cL_law 757 = .ok (.iconst 1, 1) := by decide +kernel
theorem dL_law_758 : decode cL_law 758 = .ok (.iadd, 1) := by decide +kernel
theorem dL_law_759 : decode cL_law 759 = .ok (.iaload, 1) := by decide +kernel
theorem dL_law_760 : decode cL_law 760 = .ok (.invokevirtual 91, 3) := by decide +kernel
theorem cw_X11_is : CWv yX11_is cX11_is 2 (some .int) 1 := ⟨⟨⟨List.mem_of_getElem? (i := 124) (by decide +kernel), by decide +kernel⟩, ⟨List.mem_of_getElem? (i := 1166) (by decide +kernel), by decide +kernel⟩, by decide +kernel⟩, ⟨List.mem_of_getElem? (i := 1164) (by decide +kernel), by decide +kernel⟩, ⟨List.mem_of_getElem? (i := 1165) (by decide +kernel), by decide +kernel⟩⟩
theorem kmL_91 : inW (Cond.methodLink RL 91 yX11_is) := ⟨List.mem_of_getElem? (i := 1163) (by decide +kernel), by decide +kernel⟩
theorem dL_law_763 : decode cL_law 763 = .ok (.pop, 1) := by decide +kernel
theorem dL_law_764 : decode cL_law 764 = .ok (.aload_n 2, 1) := by decide +kernel
theorem dL_law_765 : decode cL_law 765 = .ok (.aload_n 0, 1) := by decide +kernel
theorem dL_law_766 : decode cL_law 766 = .ok (.iload_n 3, 1) := by decide +kernel
theorem dL_law_767 : decode cL_law 767 = .ok (.iconst 1, 1) := by decide +kernel
theorem dL_law_768 : decode cL_law 768 = .ok (.iadd, 1) := by decide +kernel
theorem dL_law_769 : decode cL_law 769 = .ok (.iaload, 1) := by decide +kernel
theorem dL_law_770 : decode cL_law 770 = .ok (.invokevirtual 94, 3) := by decide +kernel
theorem cw_X12_is : CWv yX12_is cX12_is 2 (some .int) 1 := ⟨⟨⟨List.mem_of_getElem? (i := 137) (by decide +kernel), by decide +kernel⟩, ⟨List.mem_of_getElem? (i := 1973) (by decide +kernel), by decide +kernel⟩, by decide +kernel⟩, ⟨List.mem_of_getElem? (i := 1971) (by decide +kernel), by decide +kernel⟩, ⟨List.mem_of_getElem? (i := 1972) (by decide +kernel), by decide +kernel⟩⟩
theorem kmL_94 : inW (Cond.methodLink RL 94 yX12_is) := ⟨List.mem_of_getElem? (i := 1970) (by decide +kernel), by decide +kernel⟩
theorem dL_law_773 : decode cL_law 773 = .ok (.pop, 1) := by decide +kernel
theorem dL_law_774 : decode cL_law 774 = .ok (.goto 752, 3) := by decide +kernel
theorem dL_law_777 : decode cL_law 777 = .ok (.aload_n 1, 1) := by decide +kernel
theorem dL_law_778 : decode cL_law 778 = .ok (.aload_n 0, 1) := by decide +kernel
theorem dL_law_779 : decode cL_law 779 = .ok (.iload_n 3, 1) := by decide +kernel
theorem dL_law_780 : decode cL_law 780 = .ok (.iconst 1, 1) := by decide +kernel
theorem dL_law_781 : decode cL_law 781 = .ok (.iadd, 1) := by decide +kernel
theorem dL_law_782 : decode cL_law 782 = .ok (.iaload, 1) := by decide +kernel
theorem dL_law_783 : decode cL_law 783 = .ok (.aload_n 0, 1) := by decide +kernel
theorem dL_law_784 : decode cL_law 784 = .ok (.iload_n 3, 1) := by decide +kernel
theorem dL_law_785 : decode cL_law 785 = .ok (.iconst 2, 1) := by decide +kernel
theorem dL_law_786 : decode cL_law 786 = .ok (.iadd, 1) := by decide +kernel
theorem dL_law_787 : decode cL_law 787 = .ok (.iaload, 1) := by decide +kernel
theorem dL_law_788 : decode cL_law 788 = .ok (.invokevirtual 95, 3) := by decide +kernel
theorem cw_X11_book : CWv yX11_book cX11_book 3 (some .int) 2 := ⟨⟨⟨List.mem_of_getElem? (i := 124) (by decide +kernel), by decide +kernel⟩, ⟨List.mem_of_getElem? (i := 1170) (by decide +kernel), by decide +kernel⟩, by decide +kernel⟩, ⟨List.mem_of_getElem? (i := 1168) (by decide +kernel), by decide +kernel⟩, ⟨List.mem_of_getElem? (i := 1169) (by decide +kernel), by decide +kernel⟩⟩
theorem kmL_95 : inW (Cond.methodLink RL 95 yX11_book) := ⟨List.mem_of_getElem? (i := 1167) (by decide +kernel), by decide +kernel⟩
theorem dL_law_791 : decode cL_law 791 = .ok (.pop, 1) := by decide +kernel
theorem dL_law_792 : decode cL_law 792 = .ok (.aload_n 2, 1) := by decide +kernel
theorem dL_law_793 : decode cL_law 793 = .ok (.aload_n 0, 1) := by decide +kernel
theorem dL_law_794 : decode cL_law 794 = .ok (.iload_n 3, 1) := by decide +kernel
theorem dL_law_795 : decode cL_law 795 = .ok (.iconst 1, 1) := by decide +kernel
theorem dL_law_796 : decode cL_law 796 = .ok (.iadd, 1) := by decide +kernel
theorem dL_law_797 : decode cL_law 797 = .ok (.iaload, 1) := by decide +kernel
theorem dL_law_798 : decode cL_law 798 = .ok (.aload_n 0, 1) := by decide +kernel
theorem dL_law_799 : decode cL_law 799 = .ok (.iload_n 3, 1) := by decide +kernel
theorem dL_law_800 : decode cL_law 800 = .ok (.iconst 2, 1) := by decide +kernel
theorem dL_law_801 : decode cL_law 801 = .ok (.iadd, 1) := by decide +kernel
theorem dL_law_802 : decode cL_law 802 = .ok (.iaload, 1) := by decide +kernel
theorem dL_law_803 : decode cL_law 803 = .ok (.invokevirtual 98, 3) := by decide +kernel
theorem cw_X12_book : CWv yX12_book cX12_book 3 (some .int) 2 := ⟨⟨⟨List.mem_of_getElem? (i := 137) (by decide +kernel), by decide +kernel⟩, ⟨List.mem_of_getElem? (i := 1977) (by decide +kernel), by decide +kernel⟩, by decide +kernel⟩, ⟨List.mem_of_getElem? (i := 1975) (by decide +kernel), by decide +kernel⟩, ⟨List.mem_of_getElem? (i := 1976) (by decide +kernel), by decide +kernel⟩⟩
theorem kmL_98 : inW (Cond.methodLink RL 98 yX12_book) := ⟨List.mem_of_getElem? (i := 1974) (by decide +kernel), by decide +kernel⟩
theorem dL_law_806 : decode cL_law 806 = .ok (.pop, 1) := by decide +kernel
theorem dL_law_807 : decode cL_law 807 = .ok (.goto 719, 3) := by decide +kernel
theorem dL_law_810 : decode cL_law 810 = .ok (.aload_n 1, 1) := by decide +kernel
theorem dL_law_811 : decode cL_law 811 = .ok (.aload_n 0, 1) := by decide +kernel
theorem dL_law_812 : decode cL_law 812 = .ok (.iload_n 3, 1) := by decide +kernel
theorem dL_law_813 : decode cL_law 813 = .ok (.iconst 1, 1) := by decide +kernel
theorem dL_law_814 : decode cL_law 814 = .ok (.iadd, 1) := by decide +kernel
theorem dL_law_815 : decode cL_law 815 = .ok (.iaload, 1) := by decide +kernel
theorem dL_law_816 : decode cL_law 816 = .ok (.aload_n 0, 1) := by decide +kernel
theorem dL_law_817 : decode cL_law 817 = .ok (.iload_n 3, 1) := by decide +kernel
theorem dL_law_818 : decode cL_law 818 = .ok (.iconst 2, 1) := by decide +kernel
theorem dL_law_819 : decode cL_law 819 = .ok (.iadd, 1) := by decide +kernel
theorem dL_law_820 : decode cL_law 820 = .ok (.iaload, 1) := by decide +kernel
theorem dL_law_821 : decode cL_law 821 = .ok (.invokevirtual 99, 3) := by decide +kernel
theorem cw_X11_foretold : CWv yX11_foretold cX11_foretold 3 (some .int) 2 := ⟨⟨⟨List.mem_of_getElem? (i := 124) (by decide +kernel), by decide +kernel⟩, ⟨List.mem_of_getElem? (i := 1178) (by decide +kernel), by decide +kernel⟩, by decide +kernel⟩, ⟨List.mem_of_getElem? (i := 1176) (by decide +kernel), by decide +kernel⟩, ⟨List.mem_of_getElem? (i := 1177) (by decide +kernel), by decide +kernel⟩⟩
theorem kmL_99 : inW (Cond.methodLink RL 99 yX11_foretold) := ⟨List.mem_of_getElem? (i := 1175) (by decide +kernel), by decide +kernel⟩
theorem dL_law_824 : decode cL_law 824 = .ok (.pop, 1) := by decide +kernel
theorem dL_law_825 : decode cL_law 825 = .ok (.aload_n 2, 1) := by decide +kernel
theorem dL_law_826 : decode cL_law 826 = .ok (.aload_n 0, 1) := by decide +kernel
theorem dL_law_827 : decode cL_law 827 = .ok (.iload_n 3, 1) := by decide +kernel
theorem dL_law_828 : decode cL_law 828 = .ok (.iconst 1, 1) := by decide +kernel
theorem dL_law_829 : decode cL_law 829 = .ok (.iadd, 1) := by decide +kernel
theorem dL_law_830 : decode cL_law 830 = .ok (.iaload, 1) := by decide +kernel
theorem dL_law_831 : decode cL_law 831 = .ok (.aload_n 0, 1) := by decide +kernel
theorem dL_law_832 : decode cL_law 832 = .ok (.iload_n 3, 1) := by decide +kernel
theorem dL_law_833 : decode cL_law 833 = .ok (.iconst 2, 1) := by decide +kernel
theorem dL_law_834 : decode cL_law 834 = .ok (.iadd, 1) := by decide +kernel
theorem dL_law_835 : decode cL_law 835 = .ok (.iaload, 1) := by decide +kernel
theorem dL_law_836 : decode cL_law 836 = .ok (.invokevirtual 102, 3) := by decide +kernel
theorem cw_X12_foretold : CWv yX12_foretold cX12_foretold 5 (some .int) 2 := ⟨⟨⟨List.mem_of_getElem? (i := 137) (by decide +kernel), by decide +kernel⟩, ⟨List.mem_of_getElem? (i := 2005) (by decide +kernel), by decide +kernel⟩, by decide +kernel⟩, ⟨List.mem_of_getElem? (i := 2003) (by decide +kernel), by decide +kernel⟩, ⟨List.mem_of_getElem? (i := 2004) (by decide +kernel), by decide +kernel⟩⟩
theorem kmL_102 : inW (Cond.methodLink RL 102 yX12_foretold) := ⟨List.mem_of_getElem? (i := 2002) (by decide +kernel), by decide +kernel⟩
theorem dL_law_839 : decode cL_law 839 = .ok (.pop, 1) := by decide +kernel
theorem dL_law_840 : decode cL_law 840 = .ok (.goto 686, 3) := by decide +kernel
theorem dL_law_843 : decode cL_law 843 = .ok (.aload_n 1, 1) := by decide +kernel
theorem dL_law_844 : decode cL_law 844 = .ok (.aload_n 0, 1) := by decide +kernel
theorem dL_law_845 : decode cL_law 845 = .ok (.iload_n 3, 1) := by decide +kernel
theorem dL_law_846 : decode cL_law 846 = .ok (.iconst 1, 1) := by decide +kernel
theorem dL_law_847 : decode cL_law 847 = .ok (.iadd, 1) := by decide +kernel
theorem dL_law_848 : decode cL_law 848 = .ok (.iaload, 1) := by decide +kernel
theorem dL_law_849 : decode cL_law 849 = .ok (.invokevirtual 103, 3) := by decide +kernel
theorem cw_X11_firstAche : CWv yX11_firstAche cX11_firstAche 2 (some .int) 1 := ⟨⟨⟨List.mem_of_getElem? (i := 124) (by decide +kernel), by decide +kernel⟩, ⟨List.mem_of_getElem? (i := 1194) (by decide +kernel), by decide +kernel⟩, by decide +kernel⟩, ⟨List.mem_of_getElem? (i := 1192) (by decide +kernel), by decide +kernel⟩, ⟨List.mem_of_getElem? (i := 1193) (by decide +kernel), by decide +kernel⟩⟩
theorem kmL_103 : inW (Cond.methodLink RL 103 yX11_firstAche) := ⟨List.mem_of_getElem? (i := 1191) (by decide +kernel), by decide +kernel⟩
theorem dL_law_852 : decode cL_law 852 = .ok (.pop, 1) := by decide +kernel
theorem dL_law_853 : decode cL_law 853 = .ok (.aload_n 2, 1) := by decide +kernel
theorem dL_law_854 : decode cL_law 854 = .ok (.aload_n 0, 1) := by decide +kernel
theorem dL_law_855 : decode cL_law 855 = .ok (.iload_n 3, 1) := by decide +kernel
theorem dL_law_856 : decode cL_law 856 = .ok (.iconst 1, 1) := by decide +kernel
theorem dL_law_857 : decode cL_law 857 = .ok (.iadd, 1) := by decide +kernel
theorem dL_law_858 : decode cL_law 858 = .ok (.iaload, 1) := by decide +kernel
theorem dL_law_859 : decode cL_law 859 = .ok (.invokevirtual 106, 3) := by decide +kernel
theorem cw_X12_firstAche : CWv yX12_firstAche cX12_firstAche 4 (some .int) 1 := ⟨⟨⟨List.mem_of_getElem? (i := 137) (by decide +kernel), by decide +kernel⟩, ⟨List.mem_of_getElem? (i := 2017) (by decide +kernel), by decide +kernel⟩, by decide +kernel⟩, ⟨List.mem_of_getElem? (i := 2015) (by decide +kernel), by decide +kernel⟩, ⟨List.mem_of_getElem? (i := 2016) (by decide +kernel), by decide +kernel⟩⟩
theorem kmL_106 : inW (Cond.methodLink RL 106 yX12_firstAche) := ⟨List.mem_of_getElem? (i := 2014) (by decide +kernel), by decide +kernel⟩
theorem dL_law_862 : decode cL_law 862 = .ok (.pop, 1) := by decide +kernel
theorem dL_law_863 : decode cL_law 863 = .ok (.goto 663, 3) := by decide +kernel
theorem dL_law_866 : decode cL_law 866 = .ok (.aload_n 1, 1) := by decide +kernel
theorem dL_law_867 : decode cL_law 867 = .ok (.aload_n 0, 1) := by decide +kernel
theorem dL_law_868 : decode cL_law 868 = .ok (.iload_n 3, 1) := by decide +kernel
theorem dL_law_869 : decode cL_law 869 = .ok (.iconst 1, 1) := by decide +kernel
theorem dL_law_870 : decode cL_law 870 = .ok (.iadd, 1) := by decide +kernel
theorem dL_law_871 : decode cL_law 871 = .ok (.iaload, 1) := by decide +kernel
theorem dL_law_872 : decode cL_law 872 = .ok (.invokevirtual 107, 3) := by decide +kernel
theorem cw_X11_fades : CWv yX11_fades cX11_fades 2 (some .int) 1 := ⟨⟨⟨List.mem_of_getElem? (i := 124) (by decide +kernel), by decide +kernel⟩, ⟨List.mem_of_getElem? (i := 1202) (by decide +kernel), by decide +kernel⟩, by decide +kernel⟩, ⟨List.mem_of_getElem? (i := 1200) (by decide +kernel), by decide +kernel⟩, ⟨List.mem_of_getElem? (i := 1201) (by decide +kernel), by decide +kernel⟩⟩
theorem kmL_107 : inW (Cond.methodLink RL 107 yX11_fades) := ⟨List.mem_of_getElem? (i := 1199) (by decide +kernel), by decide +kernel⟩
theorem dL_law_875 : decode cL_law 875 = .ok (.pop, 1) := by decide +kernel
theorem dL_law_876 : decode cL_law 876 = .ok (.aload_n 2, 1) := by decide +kernel
theorem dL_law_877 : decode cL_law 877 = .ok (.aload_n 0, 1) := by decide +kernel
theorem dL_law_878 : decode cL_law 878 = .ok (.iload_n 3, 1) := by decide +kernel
theorem dL_law_879 : decode cL_law 879 = .ok (.iconst 1, 1) := by decide +kernel
theorem dL_law_880 : decode cL_law 880 = .ok (.iadd, 1) := by decide +kernel
theorem dL_law_881 : decode cL_law 881 = .ok (.iaload, 1) := by decide +kernel
theorem dL_law_882 : decode cL_law 882 = .ok (.invokevirtual 110, 3) := by decide +kernel
theorem cw_X12_fades : CWv yX12_fades cX12_fades 2 (some .int) 1 := ⟨⟨⟨List.mem_of_getElem? (i := 137) (by decide +kernel), by decide +kernel⟩, ⟨List.mem_of_getElem? (i := 2021) (by decide +kernel), by decide +kernel⟩, by decide +kernel⟩, ⟨List.mem_of_getElem? (i := 2019) (by decide +kernel), by decide +kernel⟩, ⟨List.mem_of_getElem? (i := 2020) (by decide +kernel), by decide +kernel⟩⟩
theorem kmL_110 : inW (Cond.methodLink RL 110 yX12_fades) := ⟨List.mem_of_getElem? (i := 2018) (by decide +kernel), by decide +kernel⟩
theorem dL_law_885 : decode cL_law 885 = .ok (.pop, 1) := by decide +kernel
theorem dL_law_886 : decode cL_law 886 = .ok (.goto 640, 3) := by decide +kernel
theorem dL_law_889 : decode cL_law 889 = .ok (.aload_n 1, 1) := by decide +kernel
theorem dL_law_890 : decode cL_law 890 = .ok (.aload_n 0, 1) := by decide +kernel
theorem dL_law_891 : decode cL_law 891 = .ok (.iload_n 3, 1) := by decide +kernel
theorem dL_law_892 : decode cL_law 892 = .ok (.iconst 1, 1) := by decide +kernel
theorem dL_law_893 : decode cL_law 893 = .ok (.iadd, 1) := by decide +kernel
theorem dL_law_894 : decode cL_law 894 = .ok (.iaload, 1) := by decide +kernel
theorem dL_law_895 : decode cL_law 895 = .ok (.aload_n 0, 1) := by decide +kernel
theorem dL_law_896 : decode cL_law 896 = .ok (.iload_n 3, 1) := by decide +kernel
theorem dL_law_897 : decode cL_law 897 = .ok (.iconst 2, 1) := by decide +kernel
theorem dL_law_898 : decode cL_law 898 = .ok (.iadd, 1) := by decide +kernel
theorem dL_law_899 : decode cL_law 899 = .ok (.iaload, 1) := by decide +kernel
theorem dL_law_900 : decode cL_law 900 = .ok (.aload_n 0, 1) := by decide +kernel
theorem dL_law_901 : decode cL_law 901 = .ok (.iload_n 3, 1) := by decide +kernel
theorem dL_law_902 : decode cL_law 902 = .ok (.iconst 3, 1) := by decide +kernel
theorem dL_law_903 : decode cL_law 903 = .ok (.iadd, 1) := by decide +kernel
theorem dL_law_904 : decode cL_law 904 = .ok (.iaload, 1) := by decide +kernel
theorem dL_law_905 : decode cL_law 905 = .ok (.invokevirtual 111, 3) := by decide +kernel
theorem cw_X11_felt : CWv yX11_felt cX11_felt 4 (some .int) 3 := ⟨⟨⟨List.mem_of_getElem? (i := 124) (by decide +kernel), by decide +kernel⟩, ⟨List.mem_of_getElem? (i := 1214) (by decide +kernel), by decide +kernel⟩, by decide +kernel⟩, ⟨List.mem_of_getElem? (i := 1212) (by decide +kernel), by decide +kernel⟩, ⟨List.mem_of_getElem? (i := 1213) (by decide +kernel), by decide +kernel⟩⟩
theorem kmL_111 : inW (Cond.methodLink RL 111 yX11_felt) := ⟨List.mem_of_getElem? (i := 1211) (by decide +kernel), by decide +kernel⟩
theorem dL_law_908 : decode cL_law 908 = .ok (.pop, 1) := by decide +kernel
theorem dL_law_909 : decode cL_law 909 = .ok (.aload_n 2, 1) := by decide +kernel
theorem dL_law_910 : decode cL_law 910 = .ok (.aload_n 0, 1) := by decide +kernel
theorem dL_law_911 : decode cL_law 911 = .ok (.iload_n 3, 1) := by decide +kernel
theorem dL_law_912 : decode cL_law 912 = .ok (.iconst 1, 1) := by decide +kernel
theorem dL_law_913 : decode cL_law 913 = .ok (.iadd, 1) := by decide +kernel
theorem dL_law_914 : decode cL_law 914 = .ok (.iaload, 1) := by decide +kernel
theorem dL_law_915 : decode cL_law 915 = .ok (.aload_n 0, 1) := by decide +kernel
theorem dL_law_916 : decode cL_law 916 = .ok (.iload_n 3, 1) := by decide +kernel
theorem dL_law_917 : decode cL_law 917 = .ok (.iconst 2, 1) := by decide +kernel
theorem dL_law_918 : decode cL_law 918 = .ok (.iadd, 1) := by decide +kernel
theorem dL_law_919 : decode cL_law 919 = .ok (.iaload, 1) := by decide +kernel
theorem dL_law_920 : decode cL_law 920 = .ok (.aload_n 0, 1) := by decide +kernel
theorem dL_law_921 : decode cL_law 921 = .ok (.iload_n 3, 1) := by decide +kernel
theorem dL_law_922 : decode cL_law 922 = .ok (.iconst 3, 1) := by decide +kernel
theorem dL_law_923 : decode cL_law 923 = .ok (.iadd, 1) := by decide +kernel
theorem dL_law_924 : decode cL_law 924 = .ok (.iaload, 1) := by decide +kernel
theorem dL_law_925 : decode cL_law 925 = .ok (.invokevirtual 115, 3) := by decide +kernel
theorem cw_X12_felt : CWv yX12_felt cX12_felt 5 (some .int) 3 := ⟨⟨⟨List.mem_of_getElem? (i := 137) (by decide +kernel), by decide +kernel⟩, ⟨List.mem_of_getElem? (i := 2035) (by decide +kernel), by decide +kernel⟩, by decide +kernel⟩, ⟨List.mem_of_getElem? (i := 2033) (by decide +kernel), by decide +kernel⟩, ⟨List.mem_of_getElem? (i := 2034) (by decide +kernel), by decide +kernel⟩⟩
theorem kmL_115 : inW (Cond.methodLink RL 115 yX12_felt) := ⟨List.mem_of_getElem? (i := 2032) (by decide +kernel), by decide +kernel⟩
theorem dL_law_928 : decode cL_law 928 = .ok (.pop, 1) := by decide +kernel
theorem dL_law_929 : decode cL_law 929 = .ok (.goto 597, 3) := by decide +kernel
set_option maxHeartbeats 4000000 in
set_option maxRecDepth 100000 in
theorem law_12 {p : Program} {e : Env} {s : State} {m : MethodId} {below : List Frame} {meth : Method} {c : Code} (l : Launch) {b L : Nat} {xs : Nat → Int32} (C0 : lw_At p s m meth c b L xs) (hL : L ≤ 3072) {G : GG} {A : Nat → Prop} (hAe : A = (fun q : Nat => s.heap.size ≤ q)) (S : SX G A p s m meth c RL code 4 ret) {aK aV : Nat → Nat} {z0 : Option Nat} (hz : ZS aK aV z0 A s s.heap) {adx adm : Nat → Nat → Nat} {i : Int32} (hi : 0 ≤ i.toInt ∧ i.toInt + 6 ≤ (L : Int)) {nL : Int} {bT : Nat → Int32} {kF pF a a8 : Int} {Lx Lm : List Nat} {fx fm : HF} {H : Heap} {locs : List Loc} {ls : Array Slot} (hC : CI G adx nL bT kF pF a a8 Lx fx) (hM : MI G adm nL bT kF pF a a8 Lm fm) (Y : DY G A s (va_pl Lx fx) Lm fm H locs) (hl : lv_has ls 4 [(3, .int i), (2, .ref (adm 0 0)), (1, .ref (adx 0 0)), (0, .ref b)]) (tail : ∀ (nL : Int) (bT : Nat → Int32) (kF pF a a8 : Int) (Lx Lm : List Nat) (fx fm : HF) (H : Heap) (locs : List Loc) (ls : Array Slot), CI G adx nL bT kF pF a a8 Lx fx → MI G adm nL bT kF pF a a8 Lm fm → DY G A s (va_pl Lx fx) Lm fm H locs → lv_has ls 4 [(3, .int i), (2, .ref (adm 0 0)), (1, .ref (adx 0 0)), (0, .ref b)] → W p l e room_1 s m #[Value.ref b] below meth c H locs 1000 60000 (lw_Z below #[Value.ref b] s) (F0 m 1526 ls [])) : W p l e room_1 s m #[Value.ref b] below meth c H locs 1000 60000 (lw_Z below #[Value.ref b] s) (F0 m 596 ls []) := by
  obtain ⟨hx, hb, hr, hml, hown, hts, hX, hbl, hlocks, hgv⟩ := id C0
  have hbA : ¬ A b := by rw [hAe]; exact Nat.not_le.mpr hbl
  refine lv_aload_n hx hb dL_law_596 rfl (lv_at hl 2 rfl) ?_
  refine lv_aload_n hx hb dL_law_597 rfl (lv_at hl 3 rfl) ?_
  refine lv_iload_n hx hb dL_law_598 rfl (lv_at hl 0 rfl) ?_
  refine lv_iconst (v := 1) hx hb dL_law_599 (by decide) ?_
  refine lv_iadd hx hb dL_law_600 ?_
  refine lv_topi (fun x_186267 ex_186267 => ?_)
  obtain ⟨v1, ev1⟩ : ∃ z, z = xs (i.toInt.toNat + (1 : Int32).toInt.toNat) := ⟨_, rfl⟩
  refine va_sld hx hb hX hbl hbA Y.2.2 (law_in ex_186267 hi hL (by decide)) dL_law_601 ?_
  refine lv_fold (z := v1) ((law_rd ex_186267 hi hL (by decide)).trans ev1.symm) ?_
  have Y := Y.swap
  obtain ⟨tc, w, q, I, hW, hT, hQ, hZ, hE, hw2, hw7, hq2, hq7, ha, ha8, hL9, hBT⟩ := hC
  refine cVi (As := [.int v1]) (rest := []) S Y (x_X11_day (l := l) I hW hT hQ hZ hE) cw_X11_day kmL_67 (I.opo (k := 0) (j := 0) (by decide) rfl).choose_spec.1 ok_X11.1 rfl rfl ⟨Nat.le_of_ble_eq_true rfl, Nat.le_of_ble_eq_true rfl⟩ hl.1 rfl (Nat.le_of_ble_eq_true rfl) ⟨Nat.le_of_ble_eq_true rfl, Nat.le_of_ble_eq_true rfl⟩ dL_law_602 (fun r_186268 L_186269 f_186270 H locs h_186271 Y => ?_)
  have I := h_186271
  have hC : CI G adx nL bT kF pF a a8 L_186269 f_186270 := ⟨tc, w, q, I, hW, hT, hQ, hZ, hE, hw2, hw7, hq2, hq7, ha, ha8, hL9, hBT⟩
  have Y := Y.swap
  refine lv_pop hx hb dL_law_605 rfl ?_
  refine lv_aload_n hx hb dL_law_606 rfl (lv_at hl 1 rfl) ?_
  refine lv_aload_n hx hb dL_law_607 rfl (lv_at hl 3 rfl) ?_
  refine lv_iload_n hx hb dL_law_608 rfl (lv_at hl 0 rfl) ?_
  refine lv_iconst (v := 1) hx hb dL_law_609 (by decide) ?_
  refine lv_iadd hx hb dL_law_610 ?_
  refine lv_topi (fun x_186272 ex_186272 => ?_)
  refine va_sld hx hb hX hbl hbA Y.2.2 (law_in ex_186272 hi hL (by decide)) dL_law_611 ?_
  refine lv_fold (z := v1) ((law_rd ex_186272 hi hL (by decide)).trans ev1.symm) ?_
  obtain ⟨wm, wm2, g0, I, hB, hB2, hX0, ew1, ew2, ha, ha8, hL9, hBT⟩ := hM
  refine cVi (As := [.int v1]) (rest := []) S Y (x_X12_day (l := l) I hB hX0) cw_X12_day kmL_70 (I.opo (k := 0) (j := 0) (by decide) rfl).choose_spec.1 ok_X12.1 rfl rfl ⟨Nat.le_of_ble_eq_true rfl, Nat.le_of_ble_eq_true rfl⟩ hl.1 rfl (Nat.le_of_ble_eq_true rfl) ⟨Nat.le_of_ble_eq_true rfl, Nat.le_of_ble_eq_true rfl⟩ dL_law_612 (fun r_186273 L_186274 f_186275 H locs h_186276 Y => ?_)
  have I := h_186276
  have hM : MI G adm nL bT kF pF a a8 L_186274 f_186275 := ⟨wm, wm2, g0, I, hB, hB2, hX0, ew1, ew2, ha, ha8, hL9, hBT⟩
  refine lv_pop hx hb dL_law_615 rfl ?_
  refine lv_goto (tgt := 1526) hx hb dL_law_616 (by decide) ?_
  exact tail _ _ _ _ _ _ _ _ _ _ _ _ _ hC hM Y hl
set_option maxHeartbeats 4000000 in
set_option maxRecDepth 100000 in
theorem law_13 {p : Program} {e : Env} {s : State} {m : MethodId} {below : List Frame} {meth : Method} {c : Code} (l : Launch) {b L : Nat} {xs : Nat → Int32} (C0 : lw_At p s m meth c b L xs) (hL : L ≤ 3072) {G : GG} {A : Nat → Prop} (hAe : A = (fun q : Nat => s.heap.size ≤ q)) (S : SX G A p s m meth c RL code 4 ret) {aK aV : Nat → Nat} {z0 : Option Nat} (hz : ZS aK aV z0 A s s.heap) {adx adm : Nat → Nat → Nat} {i : Int32} (hi : 0 ≤ i.toInt ∧ i.toInt + 6 ≤ (L : Int)) {nL : Int} {bT : Nat → Int32} {kF pF a a8 : Int} {Lx Lm : List Nat} {fx fm : HF} {H : Heap} {locs : List Loc} {ls : Array Slot} (hC : CI G adx nL bT kF pF a a8 Lx fx) (hM : MI G adm nL bT kF pF a a8 Lm fm) (Y : DY G A s (va_pl Lx fx) Lm fm H locs) (hl : lv_has ls 4 [(3, .int i), (2, .ref (adm 0 0)), (1, .ref (adx 0 0)), (0, .ref b)]) (tail : ∀ (nL : Int) (bT : Nat → Int32) (kF pF a a8 : Int) (Lx Lm : List Nat) (fx fm : HF) (H : Heap) (locs : List Loc) (ls : Array Slot), CI G adx nL bT kF pF a a8 Lx fx → MI G adm nL bT kF pF a a8 Lm fm → DY G A s (va_pl Lx fx) Lm fm H locs → lv_has ls 4 [(3, .int i), (2, .ref (adm 0 0)), (1, .ref (adx 0 0)), (0, .ref b)] → W p l e room_1 s m #[Value.ref b] below meth c H locs 1000 60000 (lw_Z below #[Value.ref b] s) (F0 m 1526 ls [])) : W p l e room_1 s m #[Value.ref b] below meth c H locs 1000 60000 (lw_Z below #[Value.ref b] s) (F0 m 619 ls []) := by
  obtain ⟨hx, hb, hr, hml, hown, hts, hX, hbl, hlocks, hgv⟩ := id C0
  have hbA : ¬ A b := by rw [hAe]; exact Nat.not_le.mpr hbl
  refine lv_aload_n hx hb dL_law_619 rfl (lv_at hl 2 rfl) ?_
  refine lv_aload_n hx hb dL_law_620 rfl (lv_at hl 3 rfl) ?_
  refine lv_iload_n hx hb dL_law_621 rfl (lv_at hl 0 rfl) ?_
  refine lv_iconst (v := 1) hx hb dL_law_622 (by decide) ?_
  refine lv_iadd hx hb dL_law_623 ?_
  refine lv_topi (fun x_186277 ex_186277 => ?_)
  obtain ⟨v1, ev1⟩ : ∃ z, z = xs (i.toInt.toNat + (1 : Int32).toInt.toNat) := ⟨_, rfl⟩
  refine va_sld hx hb hX hbl hbA Y.2.2 (law_in ex_186277 hi hL (by decide)) dL_law_624 ?_
  refine lv_fold (z := v1) ((law_rd ex_186277 hi hL (by decide)).trans ev1.symm) ?_
  have Y := Y.swap
  obtain ⟨tc, w, q, I, hW, hT, hQ, hZ, hE, hw2, hw7, hq2, hq7, ha, ha8, hL9, hBT⟩ := hC
  refine cVi (As := [.int v1]) (rest := []) S Y (x_X11_played (l := l) I hW hT hQ hZ hE) cw_X11_played kmL_71 (I.opo (k := 0) (j := 0) (by decide) rfl).choose_spec.1 ok_X11.1 rfl rfl ⟨Nat.le_of_ble_eq_true rfl, Nat.le_of_ble_eq_true rfl⟩ hl.1 rfl (Nat.le_of_ble_eq_true rfl) ⟨Nat.le_of_ble_eq_true rfl, Nat.le_of_ble_eq_true rfl⟩ dL_law_625 (fun r_186278 L_186279 f_186280 H locs h_186281 Y => ?_)
  have I := h_186281
  have hC : CI G adx nL bT kF pF a a8 L_186279 f_186280 := ⟨tc, w, q, I, hW, hT, hQ, hZ, hE, hw2, hw7, hq2, hq7, ha, ha8, hL9, hBT⟩
  have Y := Y.swap
  refine lv_pop hx hb dL_law_628 rfl ?_
  refine lv_aload_n hx hb dL_law_629 rfl (lv_at hl 1 rfl) ?_
  refine lv_aload_n hx hb dL_law_630 rfl (lv_at hl 3 rfl) ?_
  refine lv_iload_n hx hb dL_law_631 rfl (lv_at hl 0 rfl) ?_
  refine lv_iconst (v := 1) hx hb dL_law_632 (by decide) ?_
  refine lv_iadd hx hb dL_law_633 ?_
  refine lv_topi (fun x_186282 ex_186282 => ?_)
  refine va_sld hx hb hX hbl hbA Y.2.2 (law_in ex_186282 hi hL (by decide)) dL_law_634 ?_
  refine lv_fold (z := v1) ((law_rd ex_186282 hi hL (by decide)).trans ev1.symm) ?_
  obtain ⟨wm, wm2, g0, I, hB, hB2, hX0, ew1, ew2, ha, ha8, hL9, hBT⟩ := hM
  refine cVi (As := [.int v1]) (rest := []) S Y (x_X12_played (l := l) I hB hX0) cw_X12_played kmL_74 (I.opo (k := 0) (j := 0) (by decide) rfl).choose_spec.1 ok_X12.1 rfl rfl ⟨Nat.le_of_ble_eq_true rfl, Nat.le_of_ble_eq_true rfl⟩ hl.1 rfl (Nat.le_of_ble_eq_true rfl) ⟨Nat.le_of_ble_eq_true rfl, Nat.le_of_ble_eq_true rfl⟩ dL_law_635 (fun r_186283 L_186284 f_186285 H locs h_186286 Y => ?_)
  have I := h_186286
  have hM : MI G adm nL bT kF pF a a8 L_186284 f_186285 := ⟨wm, wm2, g0, I, hB, hB2, hX0, ew1, ew2, ha, ha8, hL9, hBT⟩
  refine lv_pop hx hb dL_law_638 rfl ?_
  refine lv_goto (tgt := 1526) hx hb dL_law_639 (by decide) ?_
  exact tail _ _ _ _ _ _ _ _ _ _ _ _ _ hC hM Y hl
set_option maxHeartbeats 4000000 in
set_option maxRecDepth 100000 in
theorem law_14 {p : Program} {e : Env} {s : State} {m : MethodId} {below : List Frame} {meth : Method} {c : Code} (l : Launch) {b L : Nat} {xs : Nat → Int32} (C0 : lw_At p s m meth c b L xs) (hL : L ≤ 3072) {G : GG} {A : Nat → Prop} (hAe : A = (fun q : Nat => s.heap.size ≤ q)) (S : SX G A p s m meth c RL code 4 ret) {aK aV : Nat → Nat} {z0 : Option Nat} (hz : ZS aK aV z0 A s s.heap) {adx adm : Nat → Nat → Nat} {i : Int32} (hi : 0 ≤ i.toInt ∧ i.toInt + 6 ≤ (L : Int)) {nL : Int} {bT : Nat → Int32} {kF pF a a8 : Int} {Lx Lm : List Nat} {fx fm : HF} {H : Heap} {locs : List Loc} {ls : Array Slot} (hC : CI G adx nL bT kF pF a a8 Lx fx) (hM : MI G adm nL bT kF pF a a8 Lm fm) (Y : DY G A s (va_pl Lx fx) Lm fm H locs) (hl : lv_has ls 4 [(3, .int i), (2, .ref (adm 0 0)), (1, .ref (adx 0 0)), (0, .ref b)]) (tail : ∀ (nL : Int) (bT : Nat → Int32) (kF pF a a8 : Int) (Lx Lm : List Nat) (fx fm : HF) (H : Heap) (locs : List Loc) (ls : Array Slot), CI G adx nL bT kF pF a a8 Lx fx → MI G adm nL bT kF pF a a8 Lm fm → DY G A s (va_pl Lx fx) Lm fm H locs → lv_has ls 4 [(3, .int i), (2, .ref (adm 0 0)), (1, .ref (adx 0 0)), (0, .ref b)] → W p l e room_1 s m #[Value.ref b] below meth c H locs 1000 60000 (lw_Z below #[Value.ref b] s) (F0 m 1526 ls [])) : W p l e room_1 s m #[Value.ref b] below meth c H locs 1000 60000 (lw_Z below #[Value.ref b] s) (F0 m 642 ls []) := by
  obtain ⟨hx, hb, hr, hml, hown, hts, hX, hbl, hlocks, hgv⟩ := id C0
  have hbA : ¬ A b := by rw [hAe]; exact Nat.not_le.mpr hbl
  refine lv_aload_n hx hb dL_law_642 rfl (lv_at hl 2 rfl) ?_
  refine lv_aload_n hx hb dL_law_643 rfl (lv_at hl 3 rfl) ?_
  refine lv_iload_n hx hb dL_law_644 rfl (lv_at hl 0 rfl) ?_
  refine lv_iconst (v := 1) hx hb dL_law_645 (by decide) ?_
  refine lv_iadd hx hb dL_law_646 ?_
  refine lv_topi (fun x_186287 ex_186287 => ?_)
  obtain ⟨v1, ev1⟩ : ∃ z, z = xs (i.toInt.toNat + (1 : Int32).toInt.toNat) := ⟨_, rfl⟩
  refine va_sld hx hb hX hbl hbA Y.2.2 (law_in ex_186287 hi hL (by decide)) dL_law_647 ?_
  refine lv_fold (z := v1) ((law_rd ex_186287 hi hL (by decide)).trans ev1.symm) ?_
  refine lv_aload_n hx hb dL_law_648 rfl (lv_at hl 3 rfl) ?_
  refine lv_iload_n hx hb dL_law_649 rfl (lv_at hl 0 rfl) ?_
  refine lv_iconst (v := 2) hx hb dL_law_650 (by decide) ?_
  refine lv_iadd hx hb dL_law_651 ?_
  refine lv_topi (fun x_186288 ex_186288 => ?_)
  obtain ⟨v2, ev2⟩ : ∃ z, z = xs (i.toInt.toNat + (2 : Int32).toInt.toNat) := ⟨_, rfl⟩
  refine va_sld hx hb hX hbl hbA Y.2.2 (law_in ex_186288 hi hL (by decide)) dL_law_652 ?_
  refine lv_fold (z := v2) ((law_rd ex_186288 hi hL (by decide)).trans ev2.symm) ?_
  have Y := Y.swap
  obtain ⟨tc, w, q, I, hW, hT, hQ, hZ, hE, hw2, hw7, hq2, hq7, ha, ha8, hL9, hBT⟩ := hC
  refine cVi (As := [.int v1, .int v2]) (rest := []) S Y (x_X11_years (l := l) I hW hT hQ hZ hE) cw_X11_years kmL_75 (I.opo (k := 0) (j := 0) (by decide) rfl).choose_spec.1 ok_X11.1 rfl rfl ⟨Nat.le_of_ble_eq_true rfl, Nat.le_of_ble_eq_true rfl⟩ hl.1 rfl (Nat.le_of_ble_eq_true rfl) ⟨Nat.le_of_ble_eq_true rfl, Nat.le_of_ble_eq_true rfl⟩ dL_law_653 (fun r_186289 L_186290 f_186291 H locs h_186292 Y => ?_)
  have I := h_186292
  have hC : CI G adx nL bT kF pF a a8 L_186290 f_186291 := ⟨tc, w, q, I, hW, hT, hQ, hZ, hE, hw2, hw7, hq2, hq7, ha, ha8, hL9, hBT⟩
  have Y := Y.swap
  refine lv_pop hx hb dL_law_656 rfl ?_
  refine lv_aload_n hx hb dL_law_657 rfl (lv_at hl 1 rfl) ?_
  refine lv_aload_n hx hb dL_law_658 rfl (lv_at hl 3 rfl) ?_
  refine lv_iload_n hx hb dL_law_659 rfl (lv_at hl 0 rfl) ?_
  refine lv_iconst (v := 1) hx hb dL_law_660 (by decide) ?_
  refine lv_iadd hx hb dL_law_661 ?_
  refine lv_topi (fun x_186293 ex_186293 => ?_)
  refine va_sld hx hb hX hbl hbA Y.2.2 (law_in ex_186293 hi hL (by decide)) dL_law_662 ?_
  refine lv_fold (z := v1) ((law_rd ex_186293 hi hL (by decide)).trans ev1.symm) ?_
  refine lv_aload_n hx hb dL_law_663 rfl (lv_at hl 3 rfl) ?_
  refine lv_iload_n hx hb dL_law_664 rfl (lv_at hl 0 rfl) ?_
  refine lv_iconst (v := 2) hx hb dL_law_665 (by decide) ?_
  refine lv_iadd hx hb dL_law_666 ?_
  refine lv_topi (fun x_186294 ex_186294 => ?_)
  refine va_sld hx hb hX hbl hbA Y.2.2 (law_in ex_186294 hi hL (by decide)) dL_law_667 ?_
  refine lv_fold (z := v2) ((law_rd ex_186294 hi hL (by decide)).trans ev2.symm) ?_
  obtain ⟨wm, wm2, g0, I, hB, hB2, hX0, ew1, ew2, ha, ha8, hL9, hBT⟩ := hM
  refine cVi (As := [.int v1, .int v2]) (rest := []) S Y (x_X12_years (l := l) I hB hX0) cw_X12_years kmL_78 (I.opo (k := 0) (j := 0) (by decide) rfl).choose_spec.1 ok_X12.1 rfl rfl ⟨Nat.le_of_ble_eq_true rfl, Nat.le_of_ble_eq_true rfl⟩ hl.1 rfl (Nat.le_of_ble_eq_true rfl) ⟨Nat.le_of_ble_eq_true rfl, Nat.le_of_ble_eq_true rfl⟩ dL_law_668 (fun r_186295 L_186296 f_186297 H locs h_186298 Y => ?_)
  have I := h_186298
  have hM : MI G adm nL bT kF pF a a8 L_186296 f_186297 := ⟨wm, wm2, g0, I, hB, hB2, hX0, ew1, ew2, ha, ha8, hL9, hBT⟩
  refine lv_pop hx hb dL_law_671 rfl ?_
  refine lv_goto (tgt := 1526) hx hb dL_law_672 (by decide) ?_
  exact tail _ _ _ _ _ _ _ _ _ _ _ _ _ hC hM Y hl
set_option maxHeartbeats 4000000 in
set_option maxRecDepth 100000 in
theorem law_15 {p : Program} {e : Env} {s : State} {m : MethodId} {below : List Frame} {meth : Method} {c : Code} (l : Launch) {b L : Nat} {xs : Nat → Int32} (C0 : lw_At p s m meth c b L xs) (hL : L ≤ 3072) {G : GG} {A : Nat → Prop} (hAe : A = (fun q : Nat => s.heap.size ≤ q)) (S : SX G A p s m meth c RL code 4 ret) {aK aV : Nat → Nat} {z0 : Option Nat} (hz : ZS aK aV z0 A s s.heap) {adx adm : Nat → Nat → Nat} {i : Int32} (hi : 0 ≤ i.toInt ∧ i.toInt + 6 ≤ (L : Int)) {nL : Int} {bT : Nat → Int32} {kF pF a a8 : Int} {Lx Lm : List Nat} {fx fm : HF} {H : Heap} {locs : List Loc} {ls : Array Slot} (hC : CI G adx nL bT kF pF a a8 Lx fx) (hM : MI G adm nL bT kF pF a a8 Lm fm) (Y : DY G A s (va_pl Lx fx) Lm fm H locs) (hl : lv_has ls 4 [(3, .int i), (2, .ref (adm 0 0)), (1, .ref (adx 0 0)), (0, .ref b)]) (tail : ∀ (nL : Int) (bT : Nat → Int32) (kF pF a a8 : Int) (Lx Lm : List Nat) (fx fm : HF) (H : Heap) (locs : List Loc) (ls : Array Slot), CI G adx nL bT kF pF a a8 Lx fx → MI G adm nL bT kF pF a a8 Lm fm → DY G A s (va_pl Lx fx) Lm fm H locs → lv_has ls 4 [(3, .int i), (2, .ref (adm 0 0)), (1, .ref (adx 0 0)), (0, .ref b)] → W p l e room_1 s m #[Value.ref b] below meth c H locs 1000 60000 (lw_Z below #[Value.ref b] s) (F0 m 1526 ls [])) : W p l e room_1 s m #[Value.ref b] below meth c H locs 1000 60000 (lw_Z below #[Value.ref b] s) (F0 m 675 ls []) := by
  obtain ⟨hx, hb, hr, hml, hown, hts, hX, hbl, hlocks, hgv⟩ := id C0
  have hbA : ¬ A b := by rw [hAe]; exact Nat.not_le.mpr hbl
  refine lv_aload_n hx hb dL_law_675 rfl (lv_at hl 2 rfl) ?_
  have Y := Y.swap
  obtain ⟨tc, w, q, I, hW, hT, hQ, hZ, hE, hw2, hw7, hq2, hq7, ha, ha8, hL9, hBT⟩ := hC
  refine cVi (As := []) (rest := []) S Y (x_X11_undo (l := l) I hW hT hQ hZ hE) cw_X11_undo kmL_79 (I.opo (k := 0) (j := 0) (by decide) rfl).choose_spec.1 ok_X11.1 rfl rfl ⟨Nat.le_of_ble_eq_true rfl, Nat.le_of_ble_eq_true rfl⟩ hl.1 rfl (Nat.le_of_ble_eq_true rfl) ⟨Nat.le_of_ble_eq_true rfl, Nat.le_of_ble_eq_true rfl⟩ dL_law_676 (fun r_186299 L_186300 f_186301 H locs h_186302 Y => ?_)
  have I := h_186302
  have hC : CI G adx nL bT kF pF a a8 L_186300 f_186301 := ⟨tc, w, q, I, hW, hT, hQ, hZ, hE, hw2, hw7, hq2, hq7, ha, ha8, hL9, hBT⟩
  have Y := Y.swap
  refine lv_pop hx hb dL_law_679 rfl ?_
  refine lv_aload_n hx hb dL_law_680 rfl (lv_at hl 1 rfl) ?_
  obtain ⟨wm, wm2, g0, I, hB, hB2, hX0, ew1, ew2, ha, ha8, hL9, hBT⟩ := hM
  refine cVi (As := []) (rest := []) S Y (x_X12_undo (l := l) I hB (by decide)) cw_X12_undo kmL_82 (I.opo (k := 0) (j := 0) (by decide) rfl).choose_spec.1 ok_X12.1 rfl rfl ⟨Nat.le_of_ble_eq_true rfl, Nat.le_of_ble_eq_true rfl⟩ hl.1 rfl (Nat.le_of_ble_eq_true rfl) ⟨Nat.le_of_ble_eq_true rfl, Nat.le_of_ble_eq_true rfl⟩ dL_law_681 (fun r_186303 L_186304 f_186305 H locs h_186306 Y => ?_)
  have I := h_186306
  have hM : MI G adm nL bT kF pF a a8 L_186304 f_186305 := ⟨wm, wm2, g0, I, hB, hB2, hX0, ew1, ew2, ha, ha8, hL9, hBT⟩
  refine lv_pop hx hb dL_law_684 rfl ?_
  refine lv_goto (tgt := 1526) hx hb dL_law_685 (by decide) ?_
  exact tail _ _ _ _ _ _ _ _ _ _ _ _ _ hC hM Y hl
set_option maxHeartbeats 4000000 in
set_option maxRecDepth 100000 in
theorem law_16 {p : Program} {e : Env} {s : State} {m : MethodId} {below : List Frame} {meth : Method} {c : Code} (l : Launch) {b L : Nat} {xs : Nat → Int32} (C0 : lw_At p s m meth c b L xs) (hL : L ≤ 3072) {G : GG} {A : Nat → Prop} (hAe : A = (fun q : Nat => s.heap.size ≤ q)) (S : SX G A p s m meth c RL code 4 ret) {aK aV : Nat → Nat} {z0 : Option Nat} (hz : ZS aK aV z0 A s s.heap) {adx adm : Nat → Nat → Nat} {i : Int32} (hi : 0 ≤ i.toInt ∧ i.toInt + 6 ≤ (L : Int)) {nL : Int} {bT : Nat → Int32} {kF pF a a8 : Int} {Lx Lm : List Nat} {fx fm : HF} {H : Heap} {locs : List Loc} {ls : Array Slot} (hC : CI G adx nL bT kF pF a a8 Lx fx) (hM : MI G adm nL bT kF pF a a8 Lm fm) (Y : DY G A s (va_pl Lx fx) Lm fm H locs) (hl : lv_has ls 4 [(3, .int i), (2, .ref (adm 0 0)), (1, .ref (adx 0 0)), (0, .ref b)]) (tail : ∀ (nL : Int) (bT : Nat → Int32) (kF pF a a8 : Int) (Lx Lm : List Nat) (fx fm : HF) (H : Heap) (locs : List Loc) (ls : Array Slot), CI G adx nL bT kF pF a a8 Lx fx → MI G adm nL bT kF pF a a8 Lm fm → DY G A s (va_pl Lx fx) Lm fm H locs → lv_has ls 4 [(3, .int i), (2, .ref (adm 0 0)), (1, .ref (adx 0 0)), (0, .ref b)] → W p l e room_1 s m #[Value.ref b] below meth c H locs 1000 60000 (lw_Z below #[Value.ref b] s) (F0 m 1526 ls [])) : W p l e room_1 s m #[Value.ref b] below meth c H locs 1000 60000 (lw_Z below #[Value.ref b] s) (F0 m 688 ls []) := by
  obtain ⟨hx, hb, hr, hml, hown, hts, hX, hbl, hlocks, hgv⟩ := id C0
  have hbA : ¬ A b := by rw [hAe]; exact Nat.not_le.mpr hbl
  refine lv_aload_n hx hb dL_law_688 rfl (lv_at hl 2 rfl) ?_
  refine lv_aload_n hx hb dL_law_689 rfl (lv_at hl 3 rfl) ?_
  refine lv_iload_n hx hb dL_law_690 rfl (lv_at hl 0 rfl) ?_
  refine lv_iconst (v := 1) hx hb dL_law_691 (by decide) ?_
  refine lv_iadd hx hb dL_law_692 ?_
  refine lv_topi (fun x_186307 ex_186307 => ?_)
  obtain ⟨v1, ev1⟩ : ∃ z, z = xs (i.toInt.toNat + (1 : Int32).toInt.toNat) := ⟨_, rfl⟩
  refine va_sld hx hb hX hbl hbA Y.2.2 (law_in ex_186307 hi hL (by decide)) dL_law_693 ?_
  refine lv_fold (z := v1) ((law_rd ex_186307 hi hL (by decide)).trans ev1.symm) ?_
  refine lv_aload_n hx hb dL_law_694 rfl (lv_at hl 3 rfl) ?_
  refine lv_iload_n hx hb dL_law_695 rfl (lv_at hl 0 rfl) ?_
  refine lv_iconst (v := 2) hx hb dL_law_696 (by decide) ?_
  refine lv_iadd hx hb dL_law_697 ?_
  refine lv_topi (fun x_186308 ex_186308 => ?_)
  obtain ⟨v2, ev2⟩ : ∃ z, z = xs (i.toInt.toNat + (2 : Int32).toInt.toNat) := ⟨_, rfl⟩
  refine va_sld hx hb hX hbl hbA Y.2.2 (law_in ex_186308 hi hL (by decide)) dL_law_698 ?_
  refine lv_fold (z := v2) ((law_rd ex_186308 hi hL (by decide)).trans ev2.symm) ?_
  have Y := Y.swap
  obtain ⟨tc, w, q, I, hW, hT, hQ, hZ, hE, hw2, hw7, hq2, hq7, ha, ha8, hL9, hBT⟩ := hC
  refine cVi (As := [.int v1, .int v2]) (rest := []) S Y (x_X11_of (l := l) I hW hT hQ hZ hE) cw_X11_of kmL_83 (I.opo (k := 0) (j := 0) (by decide) rfl).choose_spec.1 ok_X11.1 rfl rfl ⟨Nat.le_of_ble_eq_true rfl, Nat.le_of_ble_eq_true rfl⟩ hl.1 rfl (Nat.le_of_ble_eq_true rfl) ⟨Nat.le_of_ble_eq_true rfl, Nat.le_of_ble_eq_true rfl⟩ dL_law_699 (fun r_186309 L_186310 f_186311 H locs h_186312 Y => ?_)
  have I := h_186312
  have hC : CI G adx nL bT kF pF a a8 L_186310 f_186311 := ⟨tc, w, q, I, hW, hT, hQ, hZ, hE, hw2, hw7, hq2, hq7, ha, ha8, hL9, hBT⟩
  have Y := Y.swap
  refine lv_pop hx hb dL_law_702 rfl ?_
  refine lv_aload_n hx hb dL_law_703 rfl (lv_at hl 1 rfl) ?_
  refine lv_aload_n hx hb dL_law_704 rfl (lv_at hl 3 rfl) ?_
  refine lv_iload_n hx hb dL_law_705 rfl (lv_at hl 0 rfl) ?_
  refine lv_iconst (v := 1) hx hb dL_law_706 (by decide) ?_
  refine lv_iadd hx hb dL_law_707 ?_
  refine lv_topi (fun x_186313 ex_186313 => ?_)
  refine va_sld hx hb hX hbl hbA Y.2.2 (law_in ex_186313 hi hL (by decide)) dL_law_708 ?_
  refine lv_fold (z := v1) ((law_rd ex_186313 hi hL (by decide)).trans ev1.symm) ?_
  refine lv_aload_n hx hb dL_law_709 rfl (lv_at hl 3 rfl) ?_
  refine lv_iload_n hx hb dL_law_710 rfl (lv_at hl 0 rfl) ?_
  refine lv_iconst (v := 2) hx hb dL_law_711 (by decide) ?_
  refine lv_iadd hx hb dL_law_712 ?_
  refine lv_topi (fun x_186314 ex_186314 => ?_)
  refine va_sld hx hb hX hbl hbA Y.2.2 (law_in ex_186314 hi hL (by decide)) dL_law_713 ?_
  refine lv_fold (z := v2) ((law_rd ex_186314 hi hL (by decide)).trans ev2.symm) ?_
  obtain ⟨wm, wm2, g0, I, hB, hB2, hX0, ew1, ew2, ha, ha8, hL9, hBT⟩ := hM
  refine cVi (As := [.int v1, .int v2]) (rest := []) S Y (x_X12_of (l := l) I hB hX0) cw_X12_of kmL_86 (I.opo (k := 0) (j := 0) (by decide) rfl).choose_spec.1 ok_X12.1 rfl rfl ⟨Nat.le_of_ble_eq_true rfl, Nat.le_of_ble_eq_true rfl⟩ hl.1 rfl (Nat.le_of_ble_eq_true rfl) ⟨Nat.le_of_ble_eq_true rfl, Nat.le_of_ble_eq_true rfl⟩ dL_law_714 (fun r_186315 L_186316 f_186317 H locs h_186318 Y => ?_)
  have I := h_186318
  have hM : MI G adm nL bT kF pF a a8 L_186316 f_186317 := ⟨wm, wm2, g0, I, hB, hB2, hX0, ew1, ew2, ha, ha8, hL9, hBT⟩
  refine lv_pop hx hb dL_law_717 rfl ?_
  refine lv_goto (tgt := 1526) hx hb dL_law_718 (by decide) ?_
  exact tail _ _ _ _ _ _ _ _ _ _ _ _ _ hC hM Y hl
set_option maxHeartbeats 4000000 in
set_option maxRecDepth 100000 in
theorem law_17 {p : Program} {e : Env} {s : State} {m : MethodId} {below : List Frame} {meth : Method} {c : Code} (l : Launch) {b L : Nat} {xs : Nat → Int32} (C0 : lw_At p s m meth c b L xs) (hL : L ≤ 3072) {G : GG} {A : Nat → Prop} (hAe : A = (fun q : Nat => s.heap.size ≤ q)) (S : SX G A p s m meth c RL code 4 ret) {aK aV : Nat → Nat} {z0 : Option Nat} (hz : ZS aK aV z0 A s s.heap) {adx adm : Nat → Nat → Nat} {i : Int32} (hi : 0 ≤ i.toInt ∧ i.toInt + 6 ≤ (L : Int)) {nL : Int} {bT : Nat → Int32} {kF pF a a8 : Int} {Lx Lm : List Nat} {fx fm : HF} {H : Heap} {locs : List Loc} {ls : Array Slot} (hC : CI G adx nL bT kF pF a a8 Lx fx) (hM : MI G adm nL bT kF pF a a8 Lm fm) (Y : DY G A s (va_pl Lx fx) Lm fm H locs) (hl : lv_has ls 4 [(3, .int i), (2, .ref (adm 0 0)), (1, .ref (adx 0 0)), (0, .ref b)]) (tail : ∀ (nL : Int) (bT : Nat → Int32) (kF pF a a8 : Int) (Lx Lm : List Nat) (fx fm : HF) (H : Heap) (locs : List Loc) (ls : Array Slot), CI G adx nL bT kF pF a a8 Lx fx → MI G adm nL bT kF pF a a8 Lm fm → DY G A s (va_pl Lx fx) Lm fm H locs → lv_has ls 4 [(3, .int i), (2, .ref (adm 0 0)), (1, .ref (adx 0 0)), (0, .ref b)] → W p l e room_1 s m #[Value.ref b] below meth c H locs 1000 60000 (lw_Z below #[Value.ref b] s) (F0 m 1526 ls [])) : W p l e room_1 s m #[Value.ref b] below meth c H locs 1000 60000 (lw_Z below #[Value.ref b] s) (F0 m 721 ls []) := by
  obtain ⟨hx, hb, hr, hml, hown, hts, hX, hbl, hlocks, hgv⟩ := id C0
  have hbA : ¬ A b := by rw [hAe]; exact Nat.not_le.mpr hbl
  refine lv_aload_n hx hb dL_law_721 rfl (lv_at hl 2 rfl) ?_
  refine lv_aload_n hx hb dL_law_722 rfl (lv_at hl 3 rfl) ?_
  refine lv_iload_n hx hb dL_law_723 rfl (lv_at hl 0 rfl) ?_
  refine lv_iconst (v := 1) hx hb dL_law_724 (by decide) ?_
  refine lv_iadd hx hb dL_law_725 ?_
  refine lv_topi (fun x_186319 ex_186319 => ?_)
  obtain ⟨v1, ev1⟩ : ∃ z, z = xs (i.toInt.toNat + (1 : Int32).toInt.toNat) := ⟨_, rfl⟩
  refine va_sld hx hb hX hbl hbA Y.2.2 (law_in ex_186319 hi hL (by decide)) dL_law_726 ?_
  refine lv_fold (z := v1) ((law_rd ex_186319 hi hL (by decide)).trans ev1.symm) ?_
  refine lv_aload_n hx hb dL_law_727 rfl (lv_at hl 3 rfl) ?_
  refine lv_iload_n hx hb dL_law_728 rfl (lv_at hl 0 rfl) ?_
  refine lv_iconst (v := 2) hx hb dL_law_729 (by decide) ?_
  refine lv_iadd hx hb dL_law_730 ?_
  refine lv_topi (fun x_186320 ex_186320 => ?_)
  obtain ⟨v2, ev2⟩ : ∃ z, z = xs (i.toInt.toNat + (2 : Int32).toInt.toNat) := ⟨_, rfl⟩
  refine va_sld hx hb hX hbl hbA Y.2.2 (law_in ex_186320 hi hL (by decide)) dL_law_731 ?_
  refine lv_fold (z := v2) ((law_rd ex_186320 hi hL (by decide)).trans ev2.symm) ?_
  have Y := Y.swap
  obtain ⟨tc, w, q, I, hW, hT, hQ, hZ, hE, hw2, hw7, hq2, hq7, ha, ha8, hL9, hBT⟩ := hC
  refine cVi (As := [.int v1, .int v2]) (rest := []) S Y (x_X11_ofOath (l := l) I hW hT hQ hZ hE) cw_X11_ofOath kmL_87 (I.opo (k := 0) (j := 0) (by decide) rfl).choose_spec.1 ok_X11.1 rfl rfl ⟨Nat.le_of_ble_eq_true rfl, Nat.le_of_ble_eq_true rfl⟩ hl.1 rfl (Nat.le_of_ble_eq_true rfl) ⟨Nat.le_of_ble_eq_true rfl, Nat.le_of_ble_eq_true rfl⟩ dL_law_732 (fun r_186321 L_186322 f_186323 H locs h_186324 Y => ?_)
  have I := h_186324
  have hC : CI G adx nL bT kF pF a a8 L_186322 f_186323 := ⟨tc, w, q, I, hW, hT, hQ, hZ, hE, hw2, hw7, hq2, hq7, ha, ha8, hL9, hBT⟩
  have Y := Y.swap
  refine lv_pop hx hb dL_law_735 rfl ?_
  refine lv_aload_n hx hb dL_law_736 rfl (lv_at hl 1 rfl) ?_
  refine lv_aload_n hx hb dL_law_737 rfl (lv_at hl 3 rfl) ?_
  refine lv_iload_n hx hb dL_law_738 rfl (lv_at hl 0 rfl) ?_
  refine lv_iconst (v := 1) hx hb dL_law_739 (by decide) ?_
  refine lv_iadd hx hb dL_law_740 ?_
  refine lv_topi (fun x_186325 ex_186325 => ?_)
  refine va_sld hx hb hX hbl hbA Y.2.2 (law_in ex_186325 hi hL (by decide)) dL_law_741 ?_
  refine lv_fold (z := v1) ((law_rd ex_186325 hi hL (by decide)).trans ev1.symm) ?_
  refine lv_aload_n hx hb dL_law_742 rfl (lv_at hl 3 rfl) ?_
  refine lv_iload_n hx hb dL_law_743 rfl (lv_at hl 0 rfl) ?_
  refine lv_iconst (v := 2) hx hb dL_law_744 (by decide) ?_
  refine lv_iadd hx hb dL_law_745 ?_
  refine lv_topi (fun x_186326 ex_186326 => ?_)
  refine va_sld hx hb hX hbl hbA Y.2.2 (law_in ex_186326 hi hL (by decide)) dL_law_746 ?_
  refine lv_fold (z := v2) ((law_rd ex_186326 hi hL (by decide)).trans ev2.symm) ?_
  obtain ⟨wm, wm2, g0, I, hB, hB2, hX0, ew1, ew2, ha, ha8, hL9, hBT⟩ := hM
  refine cVi (As := [.int v1, .int v2]) (rest := []) S Y (x_X12_ofOath (l := l) I hB hX0) cw_X12_ofOath kmL_90 (I.opo (k := 0) (j := 0) (by decide) rfl).choose_spec.1 ok_X12.1 rfl rfl ⟨Nat.le_of_ble_eq_true rfl, Nat.le_of_ble_eq_true rfl⟩ hl.1 rfl (Nat.le_of_ble_eq_true rfl) ⟨Nat.le_of_ble_eq_true rfl, Nat.le_of_ble_eq_true rfl⟩ dL_law_747 (fun r_186327 L_186328 f_186329 H locs h_186330 Y => ?_)
  have I := h_186330
  have hM : MI G adm nL bT kF pF a a8 L_186328 f_186329 := ⟨wm, wm2, g0, I, hB, hB2, hX0, ew1, ew2, ha, ha8, hL9, hBT⟩
  refine lv_pop hx hb dL_law_750 rfl ?_
  refine lv_goto (tgt := 1526) hx hb dL_law_751 (by decide) ?_
  exact tail _ _ _ _ _ _ _ _ _ _ _ _ _ hC hM Y hl
set_option maxHeartbeats 4000000 in
set_option maxRecDepth 100000 in
theorem law_18 {p : Program} {e : Env} {s : State} {m : MethodId} {below : List Frame} {meth : Method} {c : Code} (l : Launch) {b L : Nat} {xs : Nat → Int32} (C0 : lw_At p s m meth c b L xs) (hL : L ≤ 3072) {G : GG} {A : Nat → Prop} (hAe : A = (fun q : Nat => s.heap.size ≤ q)) (S : SX G A p s m meth c RL code 4 ret) {aK aV : Nat → Nat} {z0 : Option Nat} (hz : ZS aK aV z0 A s s.heap) {adx adm : Nat → Nat → Nat} {i : Int32} (hi : 0 ≤ i.toInt ∧ i.toInt + 6 ≤ (L : Int)) {nL : Int} {bT : Nat → Int32} {kF pF a a8 : Int} {Lx Lm : List Nat} {fx fm : HF} {H : Heap} {locs : List Loc} {ls : Array Slot} (hC : CI G adx nL bT kF pF a a8 Lx fx) (hM : MI G adm nL bT kF pF a a8 Lm fm) (Y : DY G A s (va_pl Lx fx) Lm fm H locs) (hl : lv_has ls 4 [(3, .int i), (2, .ref (adm 0 0)), (1, .ref (adx 0 0)), (0, .ref b)]) (tail : ∀ (nL : Int) (bT : Nat → Int32) (kF pF a a8 : Int) (Lx Lm : List Nat) (fx fm : HF) (H : Heap) (locs : List Loc) (ls : Array Slot), CI G adx nL bT kF pF a a8 Lx fx → MI G adm nL bT kF pF a a8 Lm fm → DY G A s (va_pl Lx fx) Lm fm H locs → lv_has ls 4 [(3, .int i), (2, .ref (adm 0 0)), (1, .ref (adx 0 0)), (0, .ref b)] → W p l e room_1 s m #[Value.ref b] below meth c H locs 1000 60000 (lw_Z below #[Value.ref b] s) (F0 m 1526 ls [])) : W p l e room_1 s m #[Value.ref b] below meth c H locs 1000 60000 (lw_Z below #[Value.ref b] s) (F0 m 754 ls []) := by
  obtain ⟨hx, hb, hr, hml, hown, hts, hX, hbl, hlocks, hgv⟩ := id C0
  have hbA : ¬ A b := by rw [hAe]; exact Nat.not_le.mpr hbl
  refine lv_aload_n hx hb dL_law_754 rfl (lv_at hl 2 rfl) ?_
  refine lv_aload_n hx hb dL_law_755 rfl (lv_at hl 3 rfl) ?_
  refine lv_iload_n hx hb dL_law_756 rfl (lv_at hl 0 rfl) ?_
  refine lv_iconst (v := 1) hx hb dL_law_757 (by decide) ?_
  refine lv_iadd hx hb dL_law_758 ?_
  refine lv_topi (fun x_186331 ex_186331 => ?_)
  obtain ⟨v1, ev1⟩ : ∃ z, z = xs (i.toInt.toNat + (1 : Int32).toInt.toNat) := ⟨_, rfl⟩
  refine va_sld hx hb hX hbl hbA Y.2.2 (law_in ex_186331 hi hL (by decide)) dL_law_759 ?_
  refine lv_fold (z := v1) ((law_rd ex_186331 hi hL (by decide)).trans ev1.symm) ?_
  have Y := Y.swap
  obtain ⟨tc, w, q, I, hW, hT, hQ, hZ, hE, hw2, hw7, hq2, hq7, ha, ha8, hL9, hBT⟩ := hC
  refine cVi (As := [.int v1]) (rest := []) S Y (x_X11_is (l := l) I hW hT hQ hZ hE) cw_X11_is kmL_91 (I.opo (k := 0) (j := 0) (by decide) rfl).choose_spec.1 ok_X11.1 rfl rfl ⟨Nat.le_of_ble_eq_true rfl, Nat.le_of_ble_eq_true rfl⟩ hl.1 rfl (Nat.le_of_ble_eq_true rfl) ⟨Nat.le_of_ble_eq_true rfl, Nat.le_of_ble_eq_true rfl⟩ dL_law_760 (fun r_186332 L_186333 f_186334 H locs h_186335 Y => ?_)
  have I := h_186335
  have hC : CI G adx nL bT kF pF a a8 L_186333 f_186334 := ⟨tc, w, q, I, hW, hT, hQ, hZ, hE, hw2, hw7, hq2, hq7, ha, ha8, hL9, hBT⟩
  have Y := Y.swap
  refine lv_pop hx hb dL_law_763 rfl ?_
  refine lv_aload_n hx hb dL_law_764 rfl (lv_at hl 1 rfl) ?_
  refine lv_aload_n hx hb dL_law_765 rfl (lv_at hl 3 rfl) ?_
  refine lv_iload_n hx hb dL_law_766 rfl (lv_at hl 0 rfl) ?_
  refine lv_iconst (v := 1) hx hb dL_law_767 (by decide) ?_
  refine lv_iadd hx hb dL_law_768 ?_
  refine lv_topi (fun x_186336 ex_186336 => ?_)
  refine va_sld hx hb hX hbl hbA Y.2.2 (law_in ex_186336 hi hL (by decide)) dL_law_769 ?_
  refine lv_fold (z := v1) ((law_rd ex_186336 hi hL (by decide)).trans ev1.symm) ?_
  obtain ⟨wm, wm2, g0, I, hB, hB2, hX0, ew1, ew2, ha, ha8, hL9, hBT⟩ := hM
  refine cVp (As := [.int v1]) (rest := []) S Y (x_X12_is (l := l) I hB hX0) cw_X12_is kmL_94 (I.opo (k := 0) (j := 0) (by decide) rfl).choose_spec.1 ok_X12.1 rfl rfl ⟨Nat.le_of_ble_eq_true rfl, Nat.le_of_ble_eq_true rfl⟩ hl.1 rfl (Nat.le_of_ble_eq_true rfl) ⟨Nat.le_of_ble_eq_true rfl, Nat.le_of_ble_eq_true rfl⟩ dL_law_770 (fun r_186337 H locs er_186337 Y => ?_)
  have hM : MI G adm nL bT kF pF a a8 Lm fm := ⟨wm, wm2, g0, I, hB, hB2, hX0, ew1, ew2, ha, ha8, hL9, hBT⟩
  refine lv_pop hx hb dL_law_773 rfl ?_
  refine lv_goto (tgt := 1526) hx hb dL_law_774 (by decide) ?_
  exact tail _ _ _ _ _ _ _ _ _ _ _ _ _ hC hM Y hl
set_option maxHeartbeats 4000000 in
set_option maxRecDepth 100000 in
theorem law_19 {p : Program} {e : Env} {s : State} {m : MethodId} {below : List Frame} {meth : Method} {c : Code} (l : Launch) {b L : Nat} {xs : Nat → Int32} (C0 : lw_At p s m meth c b L xs) (hL : L ≤ 3072) {G : GG} {A : Nat → Prop} (hAe : A = (fun q : Nat => s.heap.size ≤ q)) (S : SX G A p s m meth c RL code 4 ret) {aK aV : Nat → Nat} {z0 : Option Nat} (hz : ZS aK aV z0 A s s.heap) {adx adm : Nat → Nat → Nat} {i : Int32} (hi : 0 ≤ i.toInt ∧ i.toInt + 6 ≤ (L : Int)) {nL : Int} {bT : Nat → Int32} {kF pF a a8 : Int} {Lx Lm : List Nat} {fx fm : HF} {H : Heap} {locs : List Loc} {ls : Array Slot} (hC : CI G adx nL bT kF pF a a8 Lx fx) (hM : MI G adm nL bT kF pF a a8 Lm fm) (Y : DY G A s (va_pl Lx fx) Lm fm H locs) (hl : lv_has ls 4 [(3, .int i), (2, .ref (adm 0 0)), (1, .ref (adx 0 0)), (0, .ref b)]) (tail : ∀ (nL : Int) (bT : Nat → Int32) (kF pF a a8 : Int) (Lx Lm : List Nat) (fx fm : HF) (H : Heap) (locs : List Loc) (ls : Array Slot), CI G adx nL bT kF pF a a8 Lx fx → MI G adm nL bT kF pF a a8 Lm fm → DY G A s (va_pl Lx fx) Lm fm H locs → lv_has ls 4 [(3, .int i), (2, .ref (adm 0 0)), (1, .ref (adx 0 0)), (0, .ref b)] → W p l e room_1 s m #[Value.ref b] below meth c H locs 1000 60000 (lw_Z below #[Value.ref b] s) (F0 m 1526 ls [])) : W p l e room_1 s m #[Value.ref b] below meth c H locs 1000 60000 (lw_Z below #[Value.ref b] s) (F0 m 777 ls []) := by
  obtain ⟨hx, hb, hr, hml, hown, hts, hX, hbl, hlocks, hgv⟩ := id C0
  have hbA : ¬ A b := by rw [hAe]; exact Nat.not_le.mpr hbl
  refine lv_aload_n hx hb dL_law_777 rfl (lv_at hl 2 rfl) ?_
  refine lv_aload_n hx hb dL_law_778 rfl (lv_at hl 3 rfl) ?_
  refine lv_iload_n hx hb dL_law_779 rfl (lv_at hl 0 rfl) ?_
  refine lv_iconst (v := 1) hx hb dL_law_780 (by decide) ?_
  refine lv_iadd hx hb dL_law_781 ?_
  refine lv_topi (fun x_186338 ex_186338 => ?_)
  obtain ⟨v1, ev1⟩ : ∃ z, z = xs (i.toInt.toNat + (1 : Int32).toInt.toNat) := ⟨_, rfl⟩
  refine va_sld hx hb hX hbl hbA Y.2.2 (law_in ex_186338 hi hL (by decide)) dL_law_782 ?_
  refine lv_fold (z := v1) ((law_rd ex_186338 hi hL (by decide)).trans ev1.symm) ?_
  refine lv_aload_n hx hb dL_law_783 rfl (lv_at hl 3 rfl) ?_
  refine lv_iload_n hx hb dL_law_784 rfl (lv_at hl 0 rfl) ?_
  refine lv_iconst (v := 2) hx hb dL_law_785 (by decide) ?_
  refine lv_iadd hx hb dL_law_786 ?_
  refine lv_topi (fun x_186339 ex_186339 => ?_)
  obtain ⟨v2, ev2⟩ : ∃ z, z = xs (i.toInt.toNat + (2 : Int32).toInt.toNat) := ⟨_, rfl⟩
  refine va_sld hx hb hX hbl hbA Y.2.2 (law_in ex_186339 hi hL (by decide)) dL_law_787 ?_
  refine lv_fold (z := v2) ((law_rd ex_186339 hi hL (by decide)).trans ev2.symm) ?_
  have Y := Y.swap
  obtain ⟨tc, w, q, I, hW, hT, hQ, hZ, hE, hw2, hw7, hq2, hq7, ha, ha8, hL9, hBT⟩ := hC
  refine cVi (As := [.int v1, .int v2]) (rest := []) S Y (x_X11_book (l := l) I hW hT hQ hZ hE) cw_X11_book kmL_95 (I.opo (k := 0) (j := 0) (by decide) rfl).choose_spec.1 ok_X11.1 rfl rfl ⟨Nat.le_of_ble_eq_true rfl, Nat.le_of_ble_eq_true rfl⟩ hl.1 rfl (Nat.le_of_ble_eq_true rfl) ⟨Nat.le_of_ble_eq_true rfl, Nat.le_of_ble_eq_true rfl⟩ dL_law_788 (fun r_186340 L_186341 f_186342 H locs h_186343 Y => ?_)
  have I := h_186343
  have hC : CI G adx nL bT kF pF a a8 L_186341 f_186342 := ⟨tc, w, q, I, hW, hT, hQ, hZ, hE, hw2, hw7, hq2, hq7, ha, ha8, hL9, hBT⟩
  have Y := Y.swap
  refine lv_pop hx hb dL_law_791 rfl ?_
  refine lv_aload_n hx hb dL_law_792 rfl (lv_at hl 1 rfl) ?_
  refine lv_aload_n hx hb dL_law_793 rfl (lv_at hl 3 rfl) ?_
  refine lv_iload_n hx hb dL_law_794 rfl (lv_at hl 0 rfl) ?_
  refine lv_iconst (v := 1) hx hb dL_law_795 (by decide) ?_
  refine lv_iadd hx hb dL_law_796 ?_
  refine lv_topi (fun x_186344 ex_186344 => ?_)
  refine va_sld hx hb hX hbl hbA Y.2.2 (law_in ex_186344 hi hL (by decide)) dL_law_797 ?_
  refine lv_fold (z := v1) ((law_rd ex_186344 hi hL (by decide)).trans ev1.symm) ?_
  refine lv_aload_n hx hb dL_law_798 rfl (lv_at hl 3 rfl) ?_
  refine lv_iload_n hx hb dL_law_799 rfl (lv_at hl 0 rfl) ?_
  refine lv_iconst (v := 2) hx hb dL_law_800 (by decide) ?_
  refine lv_iadd hx hb dL_law_801 ?_
  refine lv_topi (fun x_186345 ex_186345 => ?_)
  refine va_sld hx hb hX hbl hbA Y.2.2 (law_in ex_186345 hi hL (by decide)) dL_law_802 ?_
  refine lv_fold (z := v2) ((law_rd ex_186345 hi hL (by decide)).trans ev2.symm) ?_
  obtain ⟨wm, wm2, g0, I, hB, hB2, hX0, ew1, ew2, ha, ha8, hL9, hBT⟩ := hM
  refine cVp (As := [.int v1, .int v2]) (rest := []) S Y (x_X12_book (l := l) I hB hX0) cw_X12_book kmL_98 (I.opo (k := 0) (j := 0) (by decide) rfl).choose_spec.1 ok_X12.1 rfl rfl ⟨Nat.le_of_ble_eq_true rfl, Nat.le_of_ble_eq_true rfl⟩ hl.1 rfl (Nat.le_of_ble_eq_true rfl) ⟨Nat.le_of_ble_eq_true rfl, Nat.le_of_ble_eq_true rfl⟩ dL_law_803 (fun r_186346 H locs er_186346 Y => ?_)
  have hM : MI G adm nL bT kF pF a a8 Lm fm := ⟨wm, wm2, g0, I, hB, hB2, hX0, ew1, ew2, ha, ha8, hL9, hBT⟩
  refine lv_pop hx hb dL_law_806 rfl ?_
  refine lv_goto (tgt := 1526) hx hb dL_law_807 (by decide) ?_
  exact tail _ _ _ _ _ _ _ _ _ _ _ _ _ hC hM Y hl
set_option maxHeartbeats 4000000 in
set_option maxRecDepth 100000 in
theorem law_20 {p : Program} {e : Env} {s : State} {m : MethodId} {below : List Frame} {meth : Method} {c : Code} (l : Launch) {b L : Nat} {xs : Nat → Int32} (C0 : lw_At p s m meth c b L xs) (hL : L ≤ 3072) {G : GG} {A : Nat → Prop} (hAe : A = (fun q : Nat => s.heap.size ≤ q)) (S : SX G A p s m meth c RL code 4 ret) {aK aV : Nat → Nat} {z0 : Option Nat} (hz : ZS aK aV z0 A s s.heap) {adx adm : Nat → Nat → Nat} {i : Int32} (hi : 0 ≤ i.toInt ∧ i.toInt + 6 ≤ (L : Int)) {nL : Int} {bT : Nat → Int32} {kF pF a a8 : Int} {Lx Lm : List Nat} {fx fm : HF} {H : Heap} {locs : List Loc} {ls : Array Slot} (hC : CI G adx nL bT kF pF a a8 Lx fx) (hM : MI G adm nL bT kF pF a a8 Lm fm) (Y : DY G A s (va_pl Lx fx) Lm fm H locs) (hl : lv_has ls 4 [(3, .int i), (2, .ref (adm 0 0)), (1, .ref (adx 0 0)), (0, .ref b)]) (tail : ∀ (nL : Int) (bT : Nat → Int32) (kF pF a a8 : Int) (Lx Lm : List Nat) (fx fm : HF) (H : Heap) (locs : List Loc) (ls : Array Slot), CI G adx nL bT kF pF a a8 Lx fx → MI G adm nL bT kF pF a a8 Lm fm → DY G A s (va_pl Lx fx) Lm fm H locs → lv_has ls 4 [(3, .int i), (2, .ref (adm 0 0)), (1, .ref (adx 0 0)), (0, .ref b)] → W p l e room_1 s m #[Value.ref b] below meth c H locs 1000 60000 (lw_Z below #[Value.ref b] s) (F0 m 1526 ls [])) : W p l e room_1 s m #[Value.ref b] below meth c H locs 1000 60000 (lw_Z below #[Value.ref b] s) (F0 m 810 ls []) := by
  obtain ⟨hx, hb, hr, hml, hown, hts, hX, hbl, hlocks, hgv⟩ := id C0
  have hbA : ¬ A b := by rw [hAe]; exact Nat.not_le.mpr hbl
  refine lv_aload_n hx hb dL_law_810 rfl (lv_at hl 2 rfl) ?_
  refine lv_aload_n hx hb dL_law_811 rfl (lv_at hl 3 rfl) ?_
  refine lv_iload_n hx hb dL_law_812 rfl (lv_at hl 0 rfl) ?_
  refine lv_iconst (v := 1) hx hb dL_law_813 (by decide) ?_
  refine lv_iadd hx hb dL_law_814 ?_
  refine lv_topi (fun x_186347 ex_186347 => ?_)
  obtain ⟨v1, ev1⟩ : ∃ z, z = xs (i.toInt.toNat + (1 : Int32).toInt.toNat) := ⟨_, rfl⟩
  refine va_sld hx hb hX hbl hbA Y.2.2 (law_in ex_186347 hi hL (by decide)) dL_law_815 ?_
  refine lv_fold (z := v1) ((law_rd ex_186347 hi hL (by decide)).trans ev1.symm) ?_
  refine lv_aload_n hx hb dL_law_816 rfl (lv_at hl 3 rfl) ?_
  refine lv_iload_n hx hb dL_law_817 rfl (lv_at hl 0 rfl) ?_
  refine lv_iconst (v := 2) hx hb dL_law_818 (by decide) ?_
  refine lv_iadd hx hb dL_law_819 ?_
  refine lv_topi (fun x_186348 ex_186348 => ?_)
  obtain ⟨v2, ev2⟩ : ∃ z, z = xs (i.toInt.toNat + (2 : Int32).toInt.toNat) := ⟨_, rfl⟩
  refine va_sld hx hb hX hbl hbA Y.2.2 (law_in ex_186348 hi hL (by decide)) dL_law_820 ?_
  refine lv_fold (z := v2) ((law_rd ex_186348 hi hL (by decide)).trans ev2.symm) ?_
  have Y := Y.swap
  obtain ⟨tc, w, q, I, hW, hT, hQ, hZ, hE, hw2, hw7, hq2, hq7, ha, ha8, hL9, hBT⟩ := hC
  refine cVi (As := [.int v1, .int v2]) (rest := []) S Y (x_X11_foretold (l := l) I hW hT hQ hZ hE) cw_X11_foretold kmL_99 (I.opo (k := 0) (j := 0) (by decide) rfl).choose_spec.1 ok_X11.1 rfl rfl ⟨Nat.le_of_ble_eq_true rfl, Nat.le_of_ble_eq_true rfl⟩ hl.1 rfl (Nat.le_of_ble_eq_true rfl) ⟨Nat.le_of_ble_eq_true rfl, Nat.le_of_ble_eq_true rfl⟩ dL_law_821 (fun r_186349 L_186350 f_186351 H locs h_186352 Y => ?_)
  have I := h_186352
  have hC : CI G adx nL bT kF pF a a8 L_186350 f_186351 := ⟨tc, w, q, I, hW, hT, hQ, hZ, hE, hw2, hw7, hq2, hq7, ha, ha8, hL9, hBT⟩
  have Y := Y.swap
  refine lv_pop hx hb dL_law_824 rfl ?_
  refine lv_aload_n hx hb dL_law_825 rfl (lv_at hl 1 rfl) ?_
  refine lv_aload_n hx hb dL_law_826 rfl (lv_at hl 3 rfl) ?_
  refine lv_iload_n hx hb dL_law_827 rfl (lv_at hl 0 rfl) ?_
  refine lv_iconst (v := 1) hx hb dL_law_828 (by decide) ?_
  refine lv_iadd hx hb dL_law_829 ?_
  refine lv_topi (fun x_186353 ex_186353 => ?_)
  refine va_sld hx hb hX hbl hbA Y.2.2 (law_in ex_186353 hi hL (by decide)) dL_law_830 ?_
  refine lv_fold (z := v1) ((law_rd ex_186353 hi hL (by decide)).trans ev1.symm) ?_
  refine lv_aload_n hx hb dL_law_831 rfl (lv_at hl 3 rfl) ?_
  refine lv_iload_n hx hb dL_law_832 rfl (lv_at hl 0 rfl) ?_
  refine lv_iconst (v := 2) hx hb dL_law_833 (by decide) ?_
  refine lv_iadd hx hb dL_law_834 ?_
  refine lv_topi (fun x_186354 ex_186354 => ?_)
  refine va_sld hx hb hX hbl hbA Y.2.2 (law_in ex_186354 hi hL (by decide)) dL_law_835 ?_
  refine lv_fold (z := v2) ((law_rd ex_186354 hi hL (by decide)).trans ev2.symm) ?_
  obtain ⟨wm, wm2, g0, I, hB, hB2, hX0, ew1, ew2, ha, ha8, hL9, hBT⟩ := hM
  refine cVi (As := [.int v1, .int v2]) (rest := []) S Y (x_X12_foretold (l := l) I hB hX0) cw_X12_foretold kmL_102 (I.opo (k := 0) (j := 0) (by decide) rfl).choose_spec.1 ok_X12.1 rfl rfl ⟨Nat.le_of_ble_eq_true rfl, Nat.le_of_ble_eq_true rfl⟩ hl.1 rfl (Nat.le_of_ble_eq_true rfl) ⟨Nat.le_of_ble_eq_true rfl, Nat.le_of_ble_eq_true rfl⟩ dL_law_836 (fun r_186355 L_186356 f_186357 H locs h_186358 Y => ?_)
  have I := h_186358
  have hM : MI G adm nL bT kF pF a a8 L_186356 f_186357 := ⟨wm, wm2, g0, I, hB, hB2, hX0, ew1, ew2, ha, ha8, hL9, hBT⟩
  refine lv_pop hx hb dL_law_839 rfl ?_
  refine lv_goto (tgt := 1526) hx hb dL_law_840 (by decide) ?_
  exact tail _ _ _ _ _ _ _ _ _ _ _ _ _ hC hM Y hl
set_option maxHeartbeats 4000000 in
set_option maxRecDepth 100000 in
theorem law_21 {p : Program} {e : Env} {s : State} {m : MethodId} {below : List Frame} {meth : Method} {c : Code} (l : Launch) {b L : Nat} {xs : Nat → Int32} (C0 : lw_At p s m meth c b L xs) (hL : L ≤ 3072) {G : GG} {A : Nat → Prop} (hAe : A = (fun q : Nat => s.heap.size ≤ q)) (S : SX G A p s m meth c RL code 4 ret) {aK aV : Nat → Nat} {z0 : Option Nat} (hz : ZS aK aV z0 A s s.heap) {adx adm : Nat → Nat → Nat} {i : Int32} (hi : 0 ≤ i.toInt ∧ i.toInt + 6 ≤ (L : Int)) {nL : Int} {bT : Nat → Int32} {kF pF a a8 : Int} {Lx Lm : List Nat} {fx fm : HF} {H : Heap} {locs : List Loc} {ls : Array Slot} (hC : CI G adx nL bT kF pF a a8 Lx fx) (hM : MI G adm nL bT kF pF a a8 Lm fm) (Y : DY G A s (va_pl Lx fx) Lm fm H locs) (hl : lv_has ls 4 [(3, .int i), (2, .ref (adm 0 0)), (1, .ref (adx 0 0)), (0, .ref b)]) (tail : ∀ (nL : Int) (bT : Nat → Int32) (kF pF a a8 : Int) (Lx Lm : List Nat) (fx fm : HF) (H : Heap) (locs : List Loc) (ls : Array Slot), CI G adx nL bT kF pF a a8 Lx fx → MI G adm nL bT kF pF a a8 Lm fm → DY G A s (va_pl Lx fx) Lm fm H locs → lv_has ls 4 [(3, .int i), (2, .ref (adm 0 0)), (1, .ref (adx 0 0)), (0, .ref b)] → W p l e room_1 s m #[Value.ref b] below meth c H locs 1000 60000 (lw_Z below #[Value.ref b] s) (F0 m 1526 ls [])) : W p l e room_1 s m #[Value.ref b] below meth c H locs 1000 60000 (lw_Z below #[Value.ref b] s) (F0 m 843 ls []) := by
  obtain ⟨hx, hb, hr, hml, hown, hts, hX, hbl, hlocks, hgv⟩ := id C0
  have hbA : ¬ A b := by rw [hAe]; exact Nat.not_le.mpr hbl
  refine lv_aload_n hx hb dL_law_843 rfl (lv_at hl 2 rfl) ?_
  refine lv_aload_n hx hb dL_law_844 rfl (lv_at hl 3 rfl) ?_
  refine lv_iload_n hx hb dL_law_845 rfl (lv_at hl 0 rfl) ?_
  refine lv_iconst (v := 1) hx hb dL_law_846 (by decide) ?_
  refine lv_iadd hx hb dL_law_847 ?_
  refine lv_topi (fun x_186359 ex_186359 => ?_)
  obtain ⟨v1, ev1⟩ : ∃ z, z = xs (i.toInt.toNat + (1 : Int32).toInt.toNat) := ⟨_, rfl⟩
  refine va_sld hx hb hX hbl hbA Y.2.2 (law_in ex_186359 hi hL (by decide)) dL_law_848 ?_
  refine lv_fold (z := v1) ((law_rd ex_186359 hi hL (by decide)).trans ev1.symm) ?_
  have Y := Y.swap
  obtain ⟨tc, w, q, I, hW, hT, hQ, hZ, hE, hw2, hw7, hq2, hq7, ha, ha8, hL9, hBT⟩ := hC
  refine cVi (As := [.int v1]) (rest := []) S Y (x_X11_firstAche (l := l) I hW hT hQ hZ hE) cw_X11_firstAche kmL_103 (I.opo (k := 0) (j := 0) (by decide) rfl).choose_spec.1 ok_X11.1 rfl rfl ⟨Nat.le_of_ble_eq_true rfl, Nat.le_of_ble_eq_true rfl⟩ hl.1 rfl (Nat.le_of_ble_eq_true rfl) ⟨Nat.le_of_ble_eq_true rfl, Nat.le_of_ble_eq_true rfl⟩ dL_law_849 (fun r_186360 L_186361 f_186362 H locs h_186363 Y => ?_)
  have I := h_186363
  have hC : CI G adx nL bT kF pF a a8 L_186361 f_186362 := ⟨tc, w, q, I, hW, hT, hQ, hZ, hE, hw2, hw7, hq2, hq7, ha, ha8, hL9, hBT⟩
  have Y := Y.swap
  refine lv_pop hx hb dL_law_852 rfl ?_
  refine lv_aload_n hx hb dL_law_853 rfl (lv_at hl 1 rfl) ?_
  refine lv_aload_n hx hb dL_law_854 rfl (lv_at hl 3 rfl) ?_
  refine lv_iload_n hx hb dL_law_855 rfl (lv_at hl 0 rfl) ?_
  refine lv_iconst (v := 1) hx hb dL_law_856 (by decide) ?_
  refine lv_iadd hx hb dL_law_857 ?_
  refine lv_topi (fun x_186364 ex_186364 => ?_)
  refine va_sld hx hb hX hbl hbA Y.2.2 (law_in ex_186364 hi hL (by decide)) dL_law_858 ?_
  refine lv_fold (z := v1) ((law_rd ex_186364 hi hL (by decide)).trans ev1.symm) ?_
  obtain ⟨wm, wm2, g0, I, hB, hB2, hX0, ew1, ew2, ha, ha8, hL9, hBT⟩ := hM
  refine cVi (As := [.int v1]) (rest := []) S Y (x_X12_firstAche (l := l) I hB hX0) cw_X12_firstAche kmL_106 (I.opo (k := 0) (j := 0) (by decide) rfl).choose_spec.1 ok_X12.1 rfl rfl ⟨Nat.le_of_ble_eq_true rfl, Nat.le_of_ble_eq_true rfl⟩ hl.1 rfl (Nat.le_of_ble_eq_true rfl) ⟨Nat.le_of_ble_eq_true rfl, Nat.le_of_ble_eq_true rfl⟩ dL_law_859 (fun r_186365 L_186366 f_186367 H locs h_186368 Y => ?_)
  have I := h_186368
  have hM : MI G adm nL bT kF pF a a8 L_186366 f_186367 := ⟨wm, wm2, g0, I, hB, hB2, hX0, ew1, ew2, ha, ha8, hL9, hBT⟩
  refine lv_pop hx hb dL_law_862 rfl ?_
  refine lv_goto (tgt := 1526) hx hb dL_law_863 (by decide) ?_
  exact tail _ _ _ _ _ _ _ _ _ _ _ _ _ hC hM Y hl
set_option maxHeartbeats 4000000 in
set_option maxRecDepth 100000 in
theorem law_22 {p : Program} {e : Env} {s : State} {m : MethodId} {below : List Frame} {meth : Method} {c : Code} (l : Launch) {b L : Nat} {xs : Nat → Int32} (C0 : lw_At p s m meth c b L xs) (hL : L ≤ 3072) {G : GG} {A : Nat → Prop} (hAe : A = (fun q : Nat => s.heap.size ≤ q)) (S : SX G A p s m meth c RL code 4 ret) {aK aV : Nat → Nat} {z0 : Option Nat} (hz : ZS aK aV z0 A s s.heap) {adx adm : Nat → Nat → Nat} {i : Int32} (hi : 0 ≤ i.toInt ∧ i.toInt + 6 ≤ (L : Int)) {nL : Int} {bT : Nat → Int32} {kF pF a a8 : Int} {Lx Lm : List Nat} {fx fm : HF} {H : Heap} {locs : List Loc} {ls : Array Slot} (hC : CI G adx nL bT kF pF a a8 Lx fx) (hM : MI G adm nL bT kF pF a a8 Lm fm) (Y : DY G A s (va_pl Lx fx) Lm fm H locs) (hl : lv_has ls 4 [(3, .int i), (2, .ref (adm 0 0)), (1, .ref (adx 0 0)), (0, .ref b)]) (tail : ∀ (nL : Int) (bT : Nat → Int32) (kF pF a a8 : Int) (Lx Lm : List Nat) (fx fm : HF) (H : Heap) (locs : List Loc) (ls : Array Slot), CI G adx nL bT kF pF a a8 Lx fx → MI G adm nL bT kF pF a a8 Lm fm → DY G A s (va_pl Lx fx) Lm fm H locs → lv_has ls 4 [(3, .int i), (2, .ref (adm 0 0)), (1, .ref (adx 0 0)), (0, .ref b)] → W p l e room_1 s m #[Value.ref b] below meth c H locs 1000 60000 (lw_Z below #[Value.ref b] s) (F0 m 1526 ls [])) : W p l e room_1 s m #[Value.ref b] below meth c H locs 1000 60000 (lw_Z below #[Value.ref b] s) (F0 m 866 ls []) := by
  obtain ⟨hx, hb, hr, hml, hown, hts, hX, hbl, hlocks, hgv⟩ := id C0
  have hbA : ¬ A b := by rw [hAe]; exact Nat.not_le.mpr hbl
  refine lv_aload_n hx hb dL_law_866 rfl (lv_at hl 2 rfl) ?_
  refine lv_aload_n hx hb dL_law_867 rfl (lv_at hl 3 rfl) ?_
  refine lv_iload_n hx hb dL_law_868 rfl (lv_at hl 0 rfl) ?_
  refine lv_iconst (v := 1) hx hb dL_law_869 (by decide) ?_
  refine lv_iadd hx hb dL_law_870 ?_
  refine lv_topi (fun x_186369 ex_186369 => ?_)
  obtain ⟨v1, ev1⟩ : ∃ z, z = xs (i.toInt.toNat + (1 : Int32).toInt.toNat) := ⟨_, rfl⟩
  refine va_sld hx hb hX hbl hbA Y.2.2 (law_in ex_186369 hi hL (by decide)) dL_law_871 ?_
  refine lv_fold (z := v1) ((law_rd ex_186369 hi hL (by decide)).trans ev1.symm) ?_
  have Y := Y.swap
  obtain ⟨tc, w, q, I, hW, hT, hQ, hZ, hE, hw2, hw7, hq2, hq7, ha, ha8, hL9, hBT⟩ := hC
  refine cVi (As := [.int v1]) (rest := []) S Y (x_X11_fades (l := l) I hW hT hQ hZ hE) cw_X11_fades kmL_107 (I.opo (k := 0) (j := 0) (by decide) rfl).choose_spec.1 ok_X11.1 rfl rfl ⟨Nat.le_of_ble_eq_true rfl, Nat.le_of_ble_eq_true rfl⟩ hl.1 rfl (Nat.le_of_ble_eq_true rfl) ⟨Nat.le_of_ble_eq_true rfl, Nat.le_of_ble_eq_true rfl⟩ dL_law_872 (fun r_186370 L_186371 f_186372 H locs h_186373 Y => ?_)
  have I := h_186373
  have hC : CI G adx nL bT kF pF a a8 L_186371 f_186372 := ⟨tc, w, q, I, hW, hT, hQ, hZ, hE, hw2, hw7, hq2, hq7, ha, ha8, hL9, hBT⟩
  have Y := Y.swap
  refine lv_pop hx hb dL_law_875 rfl ?_
  refine lv_aload_n hx hb dL_law_876 rfl (lv_at hl 1 rfl) ?_
  refine lv_aload_n hx hb dL_law_877 rfl (lv_at hl 3 rfl) ?_
  refine lv_iload_n hx hb dL_law_878 rfl (lv_at hl 0 rfl) ?_
  refine lv_iconst (v := 1) hx hb dL_law_879 (by decide) ?_
  refine lv_iadd hx hb dL_law_880 ?_
  refine lv_topi (fun x_186374 ex_186374 => ?_)
  refine va_sld hx hb hX hbl hbA Y.2.2 (law_in ex_186374 hi hL (by decide)) dL_law_881 ?_
  refine lv_fold (z := v1) ((law_rd ex_186374 hi hL (by decide)).trans ev1.symm) ?_
  obtain ⟨wm, wm2, g0, I, hB, hB2, hX0, ew1, ew2, ha, ha8, hL9, hBT⟩ := hM
  refine cVi (As := [.int v1]) (rest := []) S Y (x_X12_fades (l := l) I hB hX0) cw_X12_fades kmL_110 (I.opo (k := 0) (j := 0) (by decide) rfl).choose_spec.1 ok_X12.1 rfl rfl ⟨Nat.le_of_ble_eq_true rfl, Nat.le_of_ble_eq_true rfl⟩ hl.1 rfl (Nat.le_of_ble_eq_true rfl) ⟨Nat.le_of_ble_eq_true rfl, Nat.le_of_ble_eq_true rfl⟩ dL_law_882 (fun r_186375 L_186376 f_186377 H locs h_186378 Y => ?_)
  have I := h_186378
  have hM : MI G adm nL bT kF pF a a8 L_186376 f_186377 := ⟨wm, wm2, g0, I, hB, hB2, hX0, ew1, ew2, ha, ha8, hL9, hBT⟩
  refine lv_pop hx hb dL_law_885 rfl ?_
  refine lv_goto (tgt := 1526) hx hb dL_law_886 (by decide) ?_
  exact tail _ _ _ _ _ _ _ _ _ _ _ _ _ hC hM Y hl
set_option maxHeartbeats 4000000 in
set_option maxRecDepth 100000 in
theorem law_23 {p : Program} {e : Env} {s : State} {m : MethodId} {below : List Frame} {meth : Method} {c : Code} (l : Launch) {b L : Nat} {xs : Nat → Int32} (C0 : lw_At p s m meth c b L xs) (hL : L ≤ 3072) {G : GG} {A : Nat → Prop} (hAe : A = (fun q : Nat => s.heap.size ≤ q)) (S : SX G A p s m meth c RL code 4 ret) {aK aV : Nat → Nat} {z0 : Option Nat} (hz : ZS aK aV z0 A s s.heap) {adx adm : Nat → Nat → Nat} {i : Int32} (hi : 0 ≤ i.toInt ∧ i.toInt + 6 ≤ (L : Int)) {nL : Int} {bT : Nat → Int32} {kF pF a a8 : Int} {Lx Lm : List Nat} {fx fm : HF} {H : Heap} {locs : List Loc} {ls : Array Slot} (hC : CI G adx nL bT kF pF a a8 Lx fx) (hM : MI G adm nL bT kF pF a a8 Lm fm) (Y : DY G A s (va_pl Lx fx) Lm fm H locs) (hl : lv_has ls 4 [(3, .int i), (2, .ref (adm 0 0)), (1, .ref (adx 0 0)), (0, .ref b)]) (tail : ∀ (nL : Int) (bT : Nat → Int32) (kF pF a a8 : Int) (Lx Lm : List Nat) (fx fm : HF) (H : Heap) (locs : List Loc) (ls : Array Slot), CI G adx nL bT kF pF a a8 Lx fx → MI G adm nL bT kF pF a a8 Lm fm → DY G A s (va_pl Lx fx) Lm fm H locs → lv_has ls 4 [(3, .int i), (2, .ref (adm 0 0)), (1, .ref (adx 0 0)), (0, .ref b)] → W p l e room_1 s m #[Value.ref b] below meth c H locs 1000 60000 (lw_Z below #[Value.ref b] s) (F0 m 1526 ls [])) : W p l e room_1 s m #[Value.ref b] below meth c H locs 1000 60000 (lw_Z below #[Value.ref b] s) (F0 m 889 ls []) := by
  obtain ⟨hx, hb, hr, hml, hown, hts, hX, hbl, hlocks, hgv⟩ := id C0
  have hbA : ¬ A b := by rw [hAe]; exact Nat.not_le.mpr hbl
  refine lv_aload_n hx hb dL_law_889 rfl (lv_at hl 2 rfl) ?_
  refine lv_aload_n hx hb dL_law_890 rfl (lv_at hl 3 rfl) ?_
  refine lv_iload_n hx hb dL_law_891 rfl (lv_at hl 0 rfl) ?_
  refine lv_iconst (v := 1) hx hb dL_law_892 (by decide) ?_
  refine lv_iadd hx hb dL_law_893 ?_
  refine lv_topi (fun x_186379 ex_186379 => ?_)
  obtain ⟨v1, ev1⟩ : ∃ z, z = xs (i.toInt.toNat + (1 : Int32).toInt.toNat) := ⟨_, rfl⟩
  refine va_sld hx hb hX hbl hbA Y.2.2 (law_in ex_186379 hi hL (by decide)) dL_law_894 ?_
  refine lv_fold (z := v1) ((law_rd ex_186379 hi hL (by decide)).trans ev1.symm) ?_
  refine lv_aload_n hx hb dL_law_895 rfl (lv_at hl 3 rfl) ?_
  refine lv_iload_n hx hb dL_law_896 rfl (lv_at hl 0 rfl) ?_
  refine lv_iconst (v := 2) hx hb dL_law_897 (by decide) ?_
  refine lv_iadd hx hb dL_law_898 ?_
  refine lv_topi (fun x_186380 ex_186380 => ?_)
  obtain ⟨v2, ev2⟩ : ∃ z, z = xs (i.toInt.toNat + (2 : Int32).toInt.toNat) := ⟨_, rfl⟩
  refine va_sld hx hb hX hbl hbA Y.2.2 (law_in ex_186380 hi hL (by decide)) dL_law_899 ?_
  refine lv_fold (z := v2) ((law_rd ex_186380 hi hL (by decide)).trans ev2.symm) ?_
  refine lv_aload_n hx hb dL_law_900 rfl (lv_at hl 3 rfl) ?_
  refine lv_iload_n hx hb dL_law_901 rfl (lv_at hl 0 rfl) ?_
  refine lv_iconst (v := 3) hx hb dL_law_902 (by decide) ?_
  refine lv_iadd hx hb dL_law_903 ?_
  refine lv_topi (fun x_186381 ex_186381 => ?_)
  obtain ⟨v3, ev3⟩ : ∃ z, z = xs (i.toInt.toNat + (3 : Int32).toInt.toNat) := ⟨_, rfl⟩
  refine va_sld hx hb hX hbl hbA Y.2.2 (law_in ex_186381 hi hL (by decide)) dL_law_904 ?_
  refine lv_fold (z := v3) ((law_rd ex_186381 hi hL (by decide)).trans ev3.symm) ?_
  have Y := Y.swap
  obtain ⟨tc, w, q, I, hW, hT, hQ, hZ, hE, hw2, hw7, hq2, hq7, ha, ha8, hL9, hBT⟩ := hC
  refine cVi (As := [.int v1, .int v2, .int v3]) (rest := []) S Y (x_X11_felt (l := l) I hW hT hQ hZ hE) cw_X11_felt kmL_111 (I.opo (k := 0) (j := 0) (by decide) rfl).choose_spec.1 ok_X11.1 rfl rfl ⟨Nat.le_of_ble_eq_true rfl, Nat.le_of_ble_eq_true rfl⟩ hl.1 rfl (Nat.le_of_ble_eq_true rfl) ⟨Nat.le_of_ble_eq_true rfl, Nat.le_of_ble_eq_true rfl⟩ dL_law_905 (fun r_186382 L_186383 f_186384 H locs h_186385 Y => ?_)
  have I := h_186385
  have hC : CI G adx nL bT kF pF a a8 L_186383 f_186384 := ⟨tc, w, q, I, hW, hT, hQ, hZ, hE, hw2, hw7, hq2, hq7, ha, ha8, hL9, hBT⟩
  have Y := Y.swap
  refine lv_pop hx hb dL_law_908 rfl ?_
  refine lv_aload_n hx hb dL_law_909 rfl (lv_at hl 1 rfl) ?_
  refine lv_aload_n hx hb dL_law_910 rfl (lv_at hl 3 rfl) ?_
  refine lv_iload_n hx hb dL_law_911 rfl (lv_at hl 0 rfl) ?_
  refine lv_iconst (v := 1) hx hb dL_law_912 (by decide) ?_
  refine lv_iadd hx hb dL_law_913 ?_
  refine lv_topi (fun x_186386 ex_186386 => ?_)
  refine va_sld hx hb hX hbl hbA Y.2.2 (law_in ex_186386 hi hL (by decide)) dL_law_914 ?_
  refine lv_fold (z := v1) ((law_rd ex_186386 hi hL (by decide)).trans ev1.symm) ?_
  refine lv_aload_n hx hb dL_law_915 rfl (lv_at hl 3 rfl) ?_
  refine lv_iload_n hx hb dL_law_916 rfl (lv_at hl 0 rfl) ?_
  refine lv_iconst (v := 2) hx hb dL_law_917 (by decide) ?_
  refine lv_iadd hx hb dL_law_918 ?_
  refine lv_topi (fun x_186387 ex_186387 => ?_)
  refine va_sld hx hb hX hbl hbA Y.2.2 (law_in ex_186387 hi hL (by decide)) dL_law_919 ?_
  refine lv_fold (z := v2) ((law_rd ex_186387 hi hL (by decide)).trans ev2.symm) ?_
  refine lv_aload_n hx hb dL_law_920 rfl (lv_at hl 3 rfl) ?_
  refine lv_iload_n hx hb dL_law_921 rfl (lv_at hl 0 rfl) ?_
  refine lv_iconst (v := 3) hx hb dL_law_922 (by decide) ?_
  refine lv_iadd hx hb dL_law_923 ?_
  refine lv_topi (fun x_186388 ex_186388 => ?_)
  refine va_sld hx hb hX hbl hbA Y.2.2 (law_in ex_186388 hi hL (by decide)) dL_law_924 ?_
  refine lv_fold (z := v3) ((law_rd ex_186388 hi hL (by decide)).trans ev3.symm) ?_
  obtain ⟨wm, wm2, g0, I, hB, hB2, hX0, ew1, ew2, ha, ha8, hL9, hBT⟩ := hM
  refine cVi (As := [.int v1, .int v2, .int v3]) (rest := []) S Y (x_X12_felt (l := l) I hB hX0) cw_X12_felt kmL_115 (I.opo (k := 0) (j := 0) (by decide) rfl).choose_spec.1 ok_X12.1 rfl rfl ⟨Nat.le_of_ble_eq_true rfl, Nat.le_of_ble_eq_true rfl⟩ hl.1 rfl (Nat.le_of_ble_eq_true rfl) ⟨Nat.le_of_ble_eq_true rfl, Nat.le_of_ble_eq_true rfl⟩ dL_law_925 (fun r_186389 L_186390 f_186391 H locs h_186392 Y => ?_)
  have I := h_186392
  have hM : MI G adm nL bT kF pF a a8 L_186390 f_186391 := ⟨wm, wm2, g0, I, hB, hB2, hX0, ew1, ew2, ha, ha8, hL9, hBT⟩
  refine lv_pop hx hb dL_law_928 rfl ?_
  refine lv_goto (tgt := 1526) hx hb dL_law_929 (by decide) ?_
  exact tail _ _ _ _ _ _ _ _ _ _ _ _ _ hC hM Y hl
