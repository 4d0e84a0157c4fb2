def dlb_3l : List (Nat × Instr × Nat) := [(623, .aload_n 3, 1), (624, .invokestatic 146, 3), (627, .istore 6, 2), (629, .aload_n 2, 1), (630, .aload_n 0, 1), (631, .iload 5, 2), (633, .iconst 1, 1), (634, .iadd, 1), (635, .iaload, 1), (636, .aload_n 0, 1), (637, .iload 5, 2), (639, .iconst 2, 1), (640, .iadd, 1), (641, .iaload, 1), (642, .invokevirtual 149, 3), (645, .istore 7, 2), (647, .aload_n 2, 1), (648, .invokevirtual 125, 3), (651, .iload 6, 2), (653, .if_icmp .eq 5, 3), (656, .iconst 0, 1), (657, .ireturn, 1), (658, .iload 6, 2), (660, .ifCond .ne 15, 3), (663, .aload_n 3, 1), (664, .iconst 0, 1), (665, .laload, 1), (666, .iload 7, 2), (668, .i2l, 1), (669, .lcmp, 1), (670, .ifCond .eq 5, 3), (673, .iconst 0, 1), (674, .ireturn, 1), (675, .goto 1443, 3), (678, .aload_n 1, 1), (679, .aload_n 0, 1), (680, .iload 5, 2), (682, .iconst 1, 1), (683, .iadd, 1), (684, .iaload, 1), (685, .aload_n 0, 1), (686, .iload 5, 2), (688, .iconst 2, 1), (689, .iadd, 1), (690, .iaload, 1), (691, .aload_n 3, 1), (692, .invokestatic 150, 3), (695, .istore 6, 2), (697, .aload_n 2, 1), (698, .aload_n 0, 1), (699, .iload 5, 2), (701, .iconst 1, 1), (702, .iadd, 1), (703, .iaload, 1), (704, .aload_n 0, 1), (705, .iload 5, 2), (707, .iconst 2, 1), (708, .iadd, 1), (709, .iaload, 1), (710, .invokevirtual 152, 3), (713, .istore 7, 2), (715, .aload_n 2, 1), (716, .invokevirtual 125, 3), (719, .iload 6, 2), (721, .if_icmp .eq 5, 3), (724, .iconst 0, 1), (725, .ireturn, 1), (726, .iload 6, 2), (728, .ifCond .ne 15, 3), (731, .aload_n 3, 1), (732, .iconst 0, 1), (733, .laload, 1), (734, .iload 7, 2), (736, .i2l, 1), (737, .lcmp, 1), (738, .ifCond .eq 5, 3), (741, .iconst 0, 1), (742, .ireturn, 1), (743, .goto 1375, 3), (746, .aload_n 1, 1), (747, .aload_n 0, 1), (748, .iload 5, 2), (750, .iconst 1, 1), (751, .iadd, 1), (752, .iaload, 1), (753, .i2c, 1), (754, .aload_n 0, 1), (755, .iload 5, 2), (757, .iconst 2, 1), (758, .iadd, 1), (759, .iaload, 1), (760, .aload_n 3, 1), (761, .invokestatic 153, 3), (764, .istore 6, 2), (766, .aload_n 2, 1), (767, .aload_n 0, 1), (768, .iload 5, 2), (770, .iconst 1, 1), (771, .iadd, 1), (772, .iaload, 1), (773, .i2c, 1), (774, .aload_n 0, 1), (775, .iload 5, 2), (777, .iconst 2, 1), (778, .iadd, 1), (779, .iaload, 1), (780, .invokevirtual 156, 3)]
theorem dlb_3 : dcl (fun k => decode cL_law k) dlb_3l = true := by decide +kernel
theorem dL_law_623 : decode cL_law 623 = .ok (.aload_n 3, 1) := dcl_at (f := fun k => decode cL_law k) dlb_3 0 rfl
theorem dL_law_624 : decode cL_law 624 = .ok (.invokestatic 146, 3) := dcl_at (f := fun k => decode cL_law k) dlb_3 1 rfl
theorem dL_law_627 : decode cL_law 627 = .ok (.istore 6, 2) := dcl_at (f := fun k => decode cL_law k) dlb_3 2 rfl
theorem dL_law_629 : decode cL_law 629 = .ok (.aload_n 2, 1) := dcl_at (f := fun k => decode cL_law k) dlb_3 3 rfl
theorem dL_law_630 : decode cL_law 630 = .ok (.aload_n 0, 1) := dcl_at (f := fun k => decode cL_law k) dlb_3 4 rfl
theorem dL_law_631 : decode cL_law 631 = .ok (.iload 5, 2) := dcl_at (f := fun k => decode cL_law k) dlb_3 5 rfl
theorem dL_law_633 : decode cL_law 633 = .ok (.iconst 1, 1) := dcl_at (f := fun k => decode cL_law k) dlb_3 6 rfl
theorem dL_law_634 : decode cL_law 634 = .ok (.iadd, 1) := dcl_at (f := fun k => decode cL_law k) dlb_3 7 rfl
theorem dL_law_635 : decode cL_law 635 = .ok (.iaload, 1) := dcl_at (f := fun k => decode cL_law k) dlb_3 8 rfl
theorem dL_law_636 : decode cL_law 636 = .ok (.aload_n 0, 1) := dcl_at (f := fun k => decode cL_law k) dlb_3 9 rfl
theorem dL_law_637 : decode cL_law 637 = .ok (.iload 5, 2) := dcl_at (f := fun k => decode cL_law k) dlb_3 10 rfl
theorem dL_law_639 : decode cL_law 639 = .ok (.iconst 2, 1) := dcl_at (f := fun k => decode cL_law k) dlb_3 11 rfl
theorem dL_law_640 : decode cL_law 640 = .ok (.iadd, 1) := dcl_at (f := fun k => decode cL_law k) dlb_3 12 rfl
theorem dL_law_641 : decode cL_law 641 = .ok (.iaload, 1) := dcl_at (f := fun k => decode cL_law k) dlb_3 13 rfl
theorem dL_law_642 : decode cL_law 642 = .ok (.invokevirtual 149, 3) := dcl_at (f := fun k => decode cL_law k) dlb_3 14 rfl
theorem dL_law_645 : decode cL_law 645 = .ok (.istore 7, 2) := dcl_at (f := fun k => decode cL_law k) dlb_3 15 rfl
theorem dL_law_647 : decode cL_law 647 = .ok (.aload_n 2, 1) := dcl_at (f := fun k => decode cL_law k) dlb_3 16 rfl
theorem dL_law_648 : decode cL_law 648 = .ok (.invokevirtual 125, 3) := dcl_at (f := fun k => decode cL_law k) dlb_3 17 rfl
theorem dL_law_651 : decode cL_law 651 = .ok (.iload 6, 2) := dcl_at (f := fun k => decode cL_law k) dlb_3 18 rfl
theorem dL_law_653 : decode cL_law 653 = .ok (.if_icmp .eq 5, 3) := dcl_at (f := fun k => decode cL_law k) dlb_3 19 rfl
theorem dL_law_656 : decode cL_law 656 = .ok (.iconst 0, 1) := dcl_at (f := fun k => decode cL_law k) dlb_3 20 rfl
theorem dL_law_657 : decode cL_law 657 = .ok (.ireturn, 1) := dcl_at (f := fun k => decode cL_law k) dlb_3 21 rfl
theorem dL_law_658 : decode cL_law 658 = .ok (.iload 6, 2) := dcl_at (f := fun k => decode cL_law k) dlb_3 22 rfl
theorem dL_law_660 : decode cL_law 660 = .ok (.ifCond .ne 15, 3) := dcl_at (f := fun k => decode cL_law k) dlb_3 23 rfl
theorem dL_law_663 : decode cL_law 663 = .ok (.aload_n 3, 1) := dcl_at (f := fun k => decode cL_law k) dlb_3 24 rfl
theorem dL_law_664 : decode cL_law 664 = .ok (.iconst 0, 1) := dcl_at (f := fun k => decode cL_law k) dlb_3 25 rfl
theorem dL_law_665 : decode cL_law 665 = .ok (.laload, 1) := dcl_at (f := fun k => decode cL_law k) dlb_3 26 rfl
theorem dL_law_666 : decode cL_law 666 = .ok (.iload 7, 2) := dcl_at (f := fun k => decode cL_law k) dlb_3 27 rfl
theorem dL_law_668 : decode cL_law 668 = .ok (.i2l, 1) := dcl_at (f := fun k => decode cL_law k) dlb_3 28 rfl
theorem dL_law_669 : decode cL_law 669 = .ok (.lcmp, 1) := dcl_at (f := fun k => decode cL_law k) dlb_3 29 rfl
theorem dL_law_670 : decode cL_law 670 = .ok (.ifCond .eq 5, 3) := dcl_at (f := fun k => decode cL_law k) dlb_3 30 rfl
theorem dL_law_673 : decode cL_law 673 = .ok (.iconst 0, 1) := dcl_at (f := fun k => decode cL_law k) dlb_3 31 rfl
theorem dL_law_674 : decode cL_law 674 = .ok (.ireturn, 1) := dcl_at (f := fun k => decode cL_law k) dlb_3 32 rfl
theorem dL_law_675 : decode cL_law 675 = .ok (.goto 1443, 3) := dcl_at (f := fun k => decode cL_law k) dlb_3 33 rfl
theorem dL_law_678 : decode cL_law 678 = .ok (.aload_n 1, 1) := dcl_at (f := fun k => decode cL_law k) dlb_3 34 rfl
theorem dL_law_679 : decode cL_law 679 = .ok (.aload_n 0, 1) := dcl_at (f := fun k => decode cL_law k) dlb_3 35 rfl
theorem dL_law_680 : decode cL_law 680 = .ok (.iload 5, 2) := dcl_at (f := fun k => decode cL_law k) dlb_3 36 rfl
theorem dL_law_682 : decode cL_law 682 = .ok (.iconst 1, 1) := dcl_at (f := fun k => decode cL_law k) dlb_3 37 rfl
theorem dL_law_683 : decode cL_law 683 = .ok (.iadd, 1) := dcl_at (f := fun k => decode cL_law k) dlb_3 38 rfl
theorem dL_law_684 : decode cL_law 684 = .ok (.iaload, 1) := dcl_at (f := fun k => decode cL_law k) dlb_3 39 rfl
theorem dL_law_685 : decode cL_law 685 = .ok (.aload_n 0, 1) := dcl_at (f := fun k => decode cL_law k) dlb_3 40 rfl
theorem dL_law_686 : decode cL_law 686 = .ok (.iload 5, 2) := dcl_at (f := fun k => decode cL_law k) dlb_3 41 rfl
theorem dL_law_688 : decode cL_law 688 = .ok (.iconst 2, 1) := dcl_at (f := fun k => decode cL_law k) dlb_3 42 rfl
theorem dL_law_689 : decode cL_law 689 = .ok (.iadd, 1) := dcl_at (f := fun k => decode cL_law k) dlb_3 43 rfl
theorem dL_law_690 : decode cL_law 690 = .ok (.iaload, 1) := dcl_at (f := fun k => decode cL_law k) dlb_3 44 rfl
theorem dL_law_691 : decode cL_law 691 = .ok (.aload_n 3, 1) := dcl_at (f := fun k => decode cL_law k) dlb_3 45 rfl
theorem dL_law_692 : decode cL_law 692 = .ok (.invokestatic 150, 3) := dcl_at (f := fun k => decode cL_law k) dlb_3 46 rfl
theorem dL_law_695 : decode cL_law 695 = .ok (.istore 6, 2) := dcl_at (f := fun k => decode cL_law k) dlb_3 47 rfl
theorem dL_law_697 : decode cL_law 697 = .ok (.aload_n 2, 1) := dcl_at (f := fun k => decode cL_law k) dlb_3 48 rfl
theorem dL_law_698 : decode cL_law 698 = .ok (.aload_n 0, 1) := dcl_at (f := fun k => decode cL_law k) dlb_3 49 rfl
theorem dL_law_699 : decode cL_law 699 = .ok (.iload 5, 2) := dcl_at (f := fun k => decode cL_law k) dlb_3 50 rfl
theorem dL_law_701 : decode cL_law 701 = .ok (.iconst 1, 1) := dcl_at (f := fun k => decode cL_law k) dlb_3 51 rfl
theorem dL_law_702 : decode cL_law 702 = .ok (.iadd, 1) := dcl_at (f := fun k => decode cL_law k) dlb_3 52 rfl
theorem dL_law_703 : decode cL_law 703 = .ok (.iaload, 1) := dcl_at (f := fun k => decode cL_law k) dlb_3 53 rfl
theorem dL_law_704 : decode cL_law 704 = .ok (.aload_n 0, 1) := dcl_at (f := fun k => decode cL_law k) dlb_3 54 rfl
theorem dL_law_705 : decode cL_law 705 = .ok (.iload 5, 2) := dcl_at (f := fun k => decode cL_law k) dlb_3 55 rfl
theorem dL_law_707 : decode cL_law 707 = .ok (.iconst 2, 1) := dcl_at (f := fun k => decode cL_law k) dlb_3 56 rfl
theorem dL_law_708 : decode cL_law 708 = .ok (.iadd, 1) := dcl_at (f := fun k => decode cL_law k) dlb_3 57 rfl
theorem dL_law_709 : decode cL_law 709 = .ok (.iaload, 1) := dcl_at (f := fun k => decode cL_law k) dlb_3 58 rfl
theorem dL_law_710 : decode cL_law 710 = .ok (.invokevirtual 152, 3) := dcl_at (f := fun k => decode cL_law k) dlb_3 59 rfl
theorem dL_law_713 : decode cL_law 713 = .ok (.istore 7, 2) := dcl_at (f := fun k => decode cL_law k) dlb_3 60 rfl
theorem dL_law_715 : decode cL_law 715 = .ok (.aload_n 2, 1) := dcl_at (f := fun k => decode cL_law k) dlb_3 61 rfl
theorem dL_law_716 : decode cL_law 716 = .ok (.invokevirtual 125, 3) := dcl_at (f := fun k => decode cL_law k) dlb_3 62 rfl
theorem dL_law_719 : decode cL_law 719 = .ok (.iload 6, 2) := dcl_at (f := fun k => decode cL_law k) dlb_3 63 rfl
theorem dL_law_721 : decode cL_law 721 = .ok (.if_icmp .eq 5, 3) := dcl_at (f := fun k => decode cL_law k) dlb_3 64 rfl
theorem dL_law_724 : decode cL_law 724 = .ok (.iconst 0, 1) := dcl_at (f := fun k => decode cL_law k) dlb_3 65 rfl
theorem dL_law_725 : decode cL_law 725 = .ok (.ireturn, 1) := dcl_at (f := fun k => decode cL_law k) dlb_3 66 rfl
theorem dL_law_726 : decode cL_law 726 = .ok (.iload 6, 2) := dcl_at (f := fun k => decode cL_law k) dlb_3 67 rfl
theorem dL_law_728 : decode cL_law 728 = .ok (.ifCond .ne 15, 3) := dcl_at (f := fun k => decode cL_law k) dlb_3 68 rfl
theorem dL_law_731 : decode cL_law 731 = .ok (.aload_n 3, 1) := dcl_at (f := fun k => decode cL_law k) dlb_3 69 rfl
theorem dL_law_732 : decode cL_law 732 = .ok (.iconst 0, 1) := dcl_at (f := fun k => decode cL_law k) dlb_3 70 rfl
theorem dL_law_733 : decode cL_law 733 = .ok (.laload, 1) := dcl_at (f := fun k => decode cL_law k) dlb_3 71 rfl
theorem dL_law_734 : decode cL_law 734 = .ok (.iload 7, 2) := dcl_at (f := fun k => decode cL_law k) dlb_3 72 rfl
theorem dL_law_736 : decode cL_law 736 = .ok (.i2l, 1) := dcl_at (f := fun k => decode cL_law k) dlb_3 73 rfl
theorem dL_law_737 : decode cL_law 737 = .ok (.lcmp, 1) := dcl_at (f := fun k => decode cL_law k) dlb_3 74 rfl
theorem dL_law_738 : decode cL_law 738 = .ok (.ifCond .eq 5, 3) := dcl_at (f := fun k => decode cL_law k) dlb_3 75 rfl
theorem dL_law_741 : decode cL_law 741 = .ok (.iconst 0, 1) := dcl_at (f := fun k => decode cL_law k) dlb_3 76 rfl
theorem dL_law_742 : decode cL_law 742 = .ok (.ireturn, 1) := dcl_at (f := fun k => decode cL_law k) dlb_3 77 rfl
theorem dL_law_743 : decode cL_law 743 = .ok (.goto 1375, 3) := dcl_at (f := fun k => decode cL_law k) dlb_3 78 rfl
theorem dL_law_746 : decode cL_law 746 = .ok (.aload_n 1, 1) := dcl_at (f := fun k => decode cL_law k) dlb_3 79 rfl
theorem dL_law_747 : decode cL_law 747 = .ok (.aload_n 0, 1) := dcl_at (f := fun k => decode cL_law k) dlb_3 80 rfl
theorem dL_law_748 : decode cL_law 748 = .ok (.iload 5, 2) := dcl_at (f := fun k => decode cL_law k) dlb_3 81 rfl
theorem dL_law_750 : decode cL_law 750 = .ok (.iconst 1, 1) := dcl_at (f := fun k => decode cL_law k) dlb_3 82 rfl
theorem dL_law_751 : decode cL_law 751 = .ok (.iadd, 1) := dcl_at (f := fun k => decode cL_law k) dlb_3 83 rfl
theorem dL_law_752 : decode cL_law 752 = .ok (.iaload, 1) := dcl_at (f := fun k => decode cL_law k) dlb_3 84 rfl
theorem dL_law_753 : decode cL_law 753 = .ok (.i2c, 1) := dcl_at (f := fun k => decode cL_law k) dlb_3 85 rfl
theorem dL_law_754 : decode cL_law 754 = .ok (.aload_n 0, 1) := dcl_at (f := fun k => decode cL_law k) dlb_3 86 rfl
theorem dL_law_755 : decode cL_law 755 = .ok (.iload 5, 2) := dcl_at (f := fun k => decode cL_law k) dlb_3 87 rfl
theorem dL_law_757 : decode cL_law 757 = .ok (.iconst 2, 1) := dcl_at (f := fun k => decode cL_law k) dlb_3 88 rfl
theorem dL_law_758 : decode cL_law 758 = .ok (.iadd, 1) := dcl_at (f := fun k => decode cL_law k) dlb_3 89 rfl
theorem dL_law_759 : decode cL_law 759 = .ok (.iaload, 1) := dcl_at (f := fun k => decode cL_law k) dlb_3 90 rfl
theorem dL_law_760 : decode cL_law 760 = .ok (.aload_n 3, 1) := dcl_at (f := fun k => decode cL_law k) dlb_3 91 rfl
theorem dL_law_761 : decode cL_law 761 = .ok (.invokestatic 153, 3) := dcl_at (f := fun k => decode cL_law k) dlb_3 92 rfl
theorem dL_law_764 : decode cL_law 764 = .ok (.istore 6, 2) := dcl_at (f := fun k => decode cL_law k) dlb_3 93 rfl
theorem dL_law_766 : decode cL_law 766 = .ok (.aload_n 2, 1) := dcl_at (f := fun k => decode cL_law k) dlb_3 94 rfl
theorem dL_law_767 : decode cL_law 767 = .ok (.aload_n 0, 1) := dcl_at (f := fun k => decode cL_law k) dlb_3 95 rfl
theorem dL_law_768 : decode cL_law 768 = .ok (.iload 5, 2) := dcl_at (f := fun k => decode cL_law k) dlb_3 96 rfl
theorem dL_law_770 : decode cL_law 770 = .ok (.iconst 1, 1) := dcl_at (f := fun k => decode cL_law k) dlb_3 97 rfl
theorem dL_law_771 : decode cL_law 771 = .ok (.iadd, 1) := dcl_at (f := fun k => decode cL_law k) dlb_3 98 rfl
theorem dL_law_772 : decode cL_law 772 = .ok (.iaload, 1) := dcl_at (f := fun k => decode cL_law k) dlb_3 99 rfl
theorem dL_law_773 : decode cL_law 773 = .ok (.i2c, 1) := dcl_at (f := fun k => decode cL_law k) dlb_3 100 rfl
theorem dL_law_774 : decode cL_law 774 = .ok (.aload_n 0, 1) := dcl_at (f := fun k => decode cL_law k) dlb_3 101 rfl
theorem dL_law_775 : decode cL_law 775 = .ok (.iload 5, 2) := dcl_at (f := fun k => decode cL_law k) dlb_3 102 rfl
theorem dL_law_777 : decode cL_law 777 = .ok (.iconst 2, 1) := dcl_at (f := fun k => decode cL_law k) dlb_3 103 rfl
theorem dL_law_778 : decode cL_law 778 = .ok (.iadd, 1) := dcl_at (f := fun k => decode cL_law k) dlb_3 104 rfl
theorem dL_law_779 : decode cL_law 779 = .ok (.iaload, 1) := dcl_at (f := fun k => decode cL_law k) dlb_3 105 rfl
theorem dL_law_780 : decode cL_law 780 = .ok (.invokevirtual 156, 3) := dcl_at (f := fun k => decode cL_law k) dlb_3 106 rfl
def dlb_4l : List (Nat × Instr × Nat) := [(783, .istore 7, 2), (785, .aload_n 2, 1), (786, .invokevirtual 125, 3), (789, .iload 6, 2), (791, .if_icmp .eq 5, 3), (794, .iconst 0, 1), (795, .ireturn, 1), (796, .iload 6, 2), (798, .ifCond .ne 15, 3), (801, .aload_n 3, 1), (802, .iconst 0, 1), (803, .laload, 1), (804, .iload 7, 2), (806, .i2l, 1), (807, .lcmp, 1), (808, .ifCond .eq 5, 3), (811, .iconst 0, 1), (812, .ireturn, 1), (813, .goto 1305, 3), (816, .aload_n 1, 1), (817, .aload_n 3, 1), (818, .invokestatic 157, 3), (821, .istore 6, 2), (823, .aload_n 2, 1), (824, .invokevirtual 159, 3), (827, .istore 7, 2), (829, .aload_n 2, 1), (830, .invokevirtual 125, 3), (833, .iload 6, 2), (835, .if_icmp .eq 5, 3), (838, .iconst 0, 1), (839, .ireturn, 1), (840, .iload 6, 2), (842, .ifCond .ne 15, 3), (845, .aload_n 3, 1), (846, .iconst 0, 1), (847, .laload, 1), (848, .iload 7, 2), (850, .i2l, 1), (851, .lcmp, 1), (852, .ifCond .eq 5, 3), (855, .iconst 0, 1), (856, .ireturn, 1), (857, .goto 1261, 3), (860, .aload_n 1, 1), (861, .invokevirtual 160, 3), (864, .aload_n 2, 1), (865, .invokevirtual 163, 3), (868, .if_icmp .eq 1250, 3), (871, .iconst 0, 1), (872, .ireturn, 1), (873, .aload_n 1, 1), (874, .aload_n 0, 1), (875, .iload 5, 2), (877, .iconst 1, 1), (878, .iadd, 1), (879, .iaload, 1), (880, .aload_n 0, 1), (881, .iload 5, 2), (883, .iconst 2, 1), (884, .iadd, 1), (885, .iaload, 1), (886, .aload_n 3, 1), (887, .invokestatic 164, 3), (890, .istore 6, 2), (892, .aload_n 2, 1), (893, .aload_n 0, 1), (894, .iload 5, 2), (896, .iconst 1, 1), (897, .iadd, 1), (898, .iaload, 1), (899, .aload_n 0, 1), (900, .iload 5, 2), (902, .iconst 2, 1), (903, .iadd, 1), (904, .iaload, 1), (905, .invokevirtual 166, 3), (908, .istore 7, 2), (910, .aload_n 2, 1), (911, .invokevirtual 125, 3), (914, .iload 6, 2), (916, .if_icmp .eq 5, 3), (919, .iconst 0, 1), (920, .ireturn, 1), (921, .iload 6, 2), (923, .ifCond .ne 15, 3), (926, .aload_n 3, 1), (927, .iconst 0, 1), (928, .laload, 1), (929, .iload 7, 2), (931, .i2l, 1), (932, .lcmp, 1), (933, .ifCond .eq 5, 3), (936, .iconst 0, 1), (937, .ireturn, 1), (938, .goto 1180, 3), (941, .aload_n 1, 1), (942, .aload_n 0, 1), (943, .iload 5, 2), (945, .iconst 1, 1), (946, .iadd, 1), (947, .iaload, 1), (948, .aload_n 0, 1), (949, .iload 5, 2), (951, .iconst 2, 1), (952, .iadd, 1), (953, .iaload, 1)]
theorem dlb_4 : dcl (fun k => decode cL_law k) dlb_4l = true := by decide +kernel
theorem dL_law_783 : decode cL_law 783 = .ok (.istore 7, 2) := dcl_at (f := fun k => decode cL_law k) dlb_4 0 rfl
theorem dL_law_785 : decode cL_law 785 = .ok (.aload_n 2, 1) := dcl_at (f := fun k => decode cL_law k) dlb_4 1 rfl
theorem dL_law_786 : decode cL_law 786 = .ok (.invokevirtual 125, 3) := dcl_at (f := fun k => decode cL_law k) dlb_4 2 rfl
theorem dL_law_789 : decode cL_law 789 = .ok (.iload 6, 2) := dcl_at (f := fun k => decode cL_law k) dlb_4 3 rfl
theorem dL_law_791 : decode cL_law 791 = .ok (.if_icmp .eq 5, 3) := dcl_at (f := fun k => decode cL_law k) dlb_4 4 rfl
theorem dL_law_794 : decode cL_law 794 = .ok (.iconst 0, 1) := dcl_at (f := fun k => decode cL_law k) dlb_4 5 rfl
theorem dL_law_795 : decode cL_law 795 = .ok (.ireturn, 1) := dcl_at (f := fun k => decode cL_law k) dlb_4 6 rfl
theorem dL_law_796 : decode cL_law 796 = .ok (.iload 6, 2) := dcl_at (f := fun k => decode cL_law k) dlb_4 7 rfl
theorem dL_law_798 : decode cL_law 798 = .ok (.ifCond .ne 15, 3) := dcl_at (f := fun k => decode cL_law k) dlb_4 8 rfl
theorem dL_law_801 : decode cL_law 801 = .ok (.aload_n 3, 1) := dcl_at (f := fun k => decode cL_law k) dlb_4 9 rfl
theorem dL_law_802 : decode cL_law 802 = .ok (.iconst 0, 1) := dcl_at (f := fun k => decode cL_law k) dlb_4 10 rfl
theorem dL_law_803 : decode cL_law 803 = .ok (.laload, 1) := dcl_at (f := fun k => decode cL_law k) dlb_4 11 rfl
theorem dL_law_804 : decode cL_law 804 = .ok (.iload 7, 2) := dcl_at (f := fun k => decode cL_law k) dlb_4 12 rfl
theorem dL_law_806 : decode cL_law 806 = .ok (.i2l, 1) := dcl_at (f := fun k => decode cL_law k) dlb_4 13 rfl
theorem dL_law_807 : decode cL_law 807 = .ok (.lcmp, 1) := dcl_at (f := fun k => decode cL_law k) dlb_4 14 rfl
theorem dL_law_808 : decode cL_law 808 = .ok (.ifCond .eq 5, 3) := dcl_at (f := fun k => decode cL_law k) dlb_4 15 rfl
theorem dL_law_811 : decode cL_law 811 = .ok (.iconst 0, 1) := dcl_at (f := fun k => decode cL_law k) dlb_4 16 rfl
theorem dL_law_812 : decode cL_law 812 = .ok (.ireturn, 1) := dcl_at (f := fun k => decode cL_law k) dlb_4 17 rfl
theorem dL_law_813 : decode cL_law 813 = .ok (.goto 1305, 3) := dcl_at (f := fun k => decode cL_law k) dlb_4 18 rfl
theorem dL_law_816 : decode cL_law 816 = .ok (.aload_n 1, 1) := dcl_at (f := fun k => decode cL_law k) dlb_4 19 rfl
theorem dL_law_817 : decode cL_law 817 = .ok (.aload_n 3, 1) := dcl_at (f := fun k => decode cL_law k) dlb_4 20 rfl
theorem dL_law_818 : decode cL_law 818 = .ok (.invokestatic 157, 3) := dcl_at (f := fun k => decode cL_law k) dlb_4 21 rfl
theorem dL_law_821 : decode cL_law 821 = .ok (.istore 6, 2) := dcl_at (f := fun k => decode cL_law k) dlb_4 22 rfl
theorem dL_law_823 : decode cL_law 823 = .ok (.aload_n 2, 1) := dcl_at (f := fun k => decode cL_law k) dlb_4 23 rfl
theorem dL_law_824 : decode cL_law 824 = .ok (.invokevirtual 159, 3) := dcl_at (f := fun k => decode cL_law k) dlb_4 24 rfl
theorem dL_law_827 : decode cL_law 827 = .ok (.istore 7, 2) := dcl_at (f := fun k => decode cL_law k) dlb_4 25 rfl
theorem dL_law_829 : decode cL_law 829 = .ok (.aload_n 2, 1) := dcl_at (f := fun k => decode cL_law k) dlb_4 26 rfl
theorem dL_law_830 : decode cL_law 830 = .ok (.invokevirtual 125, 3) := dcl_at (f := fun k => decode cL_law k) dlb_4 27 rfl
theorem dL_law_833 : decode cL_law 833 = .ok (.iload 6, 2) := dcl_at (f := fun k => decode cL_law k) dlb_4 28 rfl
theorem dL_law_835 : decode cL_law 835 = .ok (.if_icmp .eq 5, 3) := dcl_at (f := fun k => decode cL_law k) dlb_4 29 rfl
theorem dL_law_838 : decode cL_law 838 = .ok (.iconst 0, 1) := dcl_at (f := fun k => decode cL_law k) dlb_4 30 rfl
theorem dL_law_839 : decode cL_law 839 = .ok (.ireturn, 1) := dcl_at (f := fun k => decode cL_law k) dlb_4 31 rfl
theorem dL_law_840 : decode cL_law 840 = .ok (.iload 6, 2) := dcl_at (f := fun k => decode cL_law k) dlb_4 32 rfl
theorem dL_law_842 : decode cL_law 842 = .ok (.ifCond .ne 15, 3) := dcl_at (f := fun k => decode cL_law k) dlb_4 33 rfl
theorem dL_law_845 : decode cL_law 845 = .ok (.aload_n 3, 1) := dcl_at (f := fun k => decode cL_law k) dlb_4 34 rfl
theorem dL_law_846 : decode cL_law 846 = .ok (.iconst 0, 1) := dcl_at (f := fun k => decode cL_law k) dlb_4 35 rfl
theorem dL_law_847 : decode cL_law 847 = .ok (.laload, 1) := dcl_at (f := fun k => decode cL_law k) dlb_4 36 rfl
theorem dL_law_848 : decode cL_law 848 = .ok (.iload 7, 2) := dcl_at (f := fun k => decode cL_law k) dlb_4 37 rfl
theorem dL_law_850 : decode cL_law 850 = .ok (.i2l, 1) := dcl_at (f := fun k => decode cL_law k) dlb_4 38 rfl
theorem dL_law_851 : decode cL_law 851 = .ok (.lcmp, 1) := dcl_at (f := fun k => decode cL_law k) dlb_4 39 rfl
theorem dL_law_852 : decode cL_law 852 = .ok (.ifCond .eq 5, 3) := dcl_at (f := fun k => decode cL_law k) dlb_4 40 rfl
theorem dL_law_855 : decode cL_law 855 = .ok (.iconst 0, 1) := dcl_at (f := fun k => decode cL_law k) dlb_4 41 rfl
theorem dL_law_856 : decode cL_law 856 = .ok (.ireturn, 1) := dcl_at (f := fun k => decode cL_law k) dlb_4 42 rfl
theorem dL_law_857 : decode cL_law 857 = .ok (.goto 1261, 3) := dcl_at (f := fun k => decode cL_law k) dlb_4 43 rfl
theorem dL_law_860 : decode cL_law 860 = .ok (.aload_n 1, 1) := dcl_at (f := fun k => decode cL_law k) dlb_4 44 rfl
theorem dL_law_861 : decode cL_law 861 = .ok (.invokevirtual 160, 3) := dcl_at (f := fun k => decode cL_law k) dlb_4 45 rfl
theorem dL_law_864 : decode cL_law 864 = .ok (.aload_n 2, 1) := dcl_at (f := fun k => decode cL_law k) dlb_4 46 rfl
theorem dL_law_865 : decode cL_law 865 = .ok (.invokevirtual 163, 3) := dcl_at (f := fun k => decode cL_law k) dlb_4 47 rfl
theorem dL_law_868 : decode cL_law 868 = .ok (.if_icmp .eq 1250, 3) := dcl_at (f := fun k => decode cL_law k) dlb_4 48 rfl
theorem dL_law_871 : decode cL_law 871 = .ok (.iconst 0, 1) := dcl_at (f := fun k => decode cL_law k) dlb_4 49 rfl
theorem dL_law_872 : decode cL_law 872 = .ok (.ireturn, 1) := dcl_at (f := fun k => decode cL_law k) dlb_4 50 rfl
theorem dL_law_873 : decode cL_law 873 = .ok (.aload_n 1, 1) := dcl_at (f := fun k => decode cL_law k) dlb_4 51 rfl
theorem dL_law_874 : decode cL_law 874 = .ok (.aload_n 0, 1) := dcl_at (f := fun k => decode cL_law k) dlb_4 52 rfl
theorem dL_law_875 : decode cL_law 875 = .ok (.iload 5, 2) := dcl_at (f := fun k => decode cL_law k) dlb_4 53 rfl
theorem dL_law_877 : decode cL_law 877 = .ok (.iconst 1, 1) := dcl_at (f := fun k => decode cL_law k) dlb_4 54 rfl
theorem dL_law_878 : decode cL_law 878 = .ok (.iadd, 1) := dcl_at (f := fun k => decode cL_law k) dlb_4 55 rfl
theorem dL_law_879 : decode cL_law 879 = .ok (.iaload, 1) := dcl_at (f := fun k => decode cL_law k) dlb_4 56 rfl
theorem dL_law_880 : decode cL_law 880 = .ok (.aload_n 0, 1) := dcl_at (f := fun k => decode cL_law k) dlb_4 57 rfl
theorem dL_law_881 : decode cL_law 881 = .ok (.iload 5, 2) := dcl_at (f := fun k => decode cL_law k) dlb_4 58 rfl
theorem dL_law_883 : decode cL_law 883 = .ok (.iconst 2, 1) := dcl_at (f := fun k => decode cL_law k) dlb_4 59 rfl
theorem dL_law_884 : decode cL_law 884 = .ok (.iadd, 1) := dcl_at (f := fun k => decode cL_law k) dlb_4 60 rfl
theorem dL_law_885 : decode cL_law 885 = .ok (.iaload, 1) := dcl_at (f := fun k => decode cL_law k) dlb_4 61 rfl
theorem dL_law_886 : decode cL_law 886 = .ok (.aload_n 3, 1) := dcl_at (f := fun k => decode cL_law k) dlb_4 62 rfl
theorem dL_law_887 : decode cL_law 887 = .ok (.invokestatic 164, 3) := dcl_at (f := fun k => decode cL_law k) dlb_4 63 rfl
theorem dL_law_890 : decode cL_law 890 = .ok (.istore 6, 2) := dcl_at (f := fun k => decode cL_law k) dlb_4 64 rfl
theorem dL_law_892 : decode cL_law 892 = .ok (.aload_n 2, 1) := dcl_at (f := fun k => decode cL_law k) dlb_4 65 rfl
theorem dL_law_893 : decode cL_law 893 = .ok (.aload_n 0, 1) := dcl_at (f := fun k => decode cL_law k) dlb_4 66 rfl
theorem dL_law_894 : decode cL_law 894 = .ok (.iload 5, 2) := dcl_at (f := fun k => decode cL_law k) dlb_4 67 rfl
theorem dL_law_896 : decode cL_law 896 = .ok (.iconst 1, 1) := dcl_at (f := fun k => decode cL_law k) dlb_4 68 rfl
theorem dL_law_897 : decode cL_law 897 = .ok (.iadd, 1) := dcl_at (f := fun k => decode cL_law k) dlb_4 69 rfl
theorem dL_law_898 : decode cL_law 898 = .ok (.iaload, 1) := dcl_at (f := fun k => decode cL_law k) dlb_4 70 rfl
theorem dL_law_899 : decode cL_law 899 = .ok (.aload_n 0, 1) := dcl_at (f := fun k => decode cL_law k) dlb_4 71 rfl
theorem dL_law_900 : decode cL_law 900 = .ok (.iload 5, 2) := dcl_at (f := fun k => decode cL_law k) dlb_4 72 rfl
theorem dL_law_902 : decode cL_law 902 = .ok (.iconst 2, 1) := dcl_at (f := fun k => decode cL_law k) dlb_4 73 rfl
theorem dL_law_903 : decode cL_law 903 = .ok (.iadd, 1) := dcl_at (f := fun k => decode cL_law k) dlb_4 74 rfl
theorem dL_law_904 : decode cL_law 904 = .ok (.iaload, 1) := dcl_at (f := fun k => decode cL_law k) dlb_4 75 rfl
theorem dL_law_905 : decode cL_law 905 = .ok (.invokevirtual 166, 3) := dcl_at (f := fun k => decode cL_law k) dlb_4 76 rfl
theorem dL_law_908 : decode cL_law 908 = .ok (.istore 7, 2) := dcl_at (f := fun k => decode cL_law k) dlb_4 77 rfl
theorem dL_law_910 : decode cL_law 910 = .ok (.aload_n 2, 1) := dcl_at (f := fun k => decode cL_law k) dlb_4 78 rfl
theorem dL_law_911 : decode cL_law 911 = .ok (.invokevirtual 125, 3) := dcl_at (f := fun k => decode cL_law k) dlb_4 79 rfl
theorem dL_law_914 : decode cL_law 914 = .ok (.iload 6, 2) := dcl_at (f := fun k => decode cL_law k) dlb_4 80 rfl
theorem dL_law_916 : decode cL_law 916 = .ok (.if_icmp .eq 5, 3) := dcl_at (f := fun k => decode cL_law k) dlb_4 81 rfl
theorem dL_law_919 : decode cL_law 919 = .ok (.iconst 0, 1) := dcl_at (f := fun k => decode cL_law k) dlb_4 82 rfl
theorem dL_law_920 : decode cL_law 920 = .ok (.ireturn, 1) := dcl_at (f := fun k => decode cL_law k) dlb_4 83 rfl
theorem dL_law_921 : decode cL_law 921 = .ok (.iload 6, 2) := dcl_at (f := fun k => decode cL_law k) dlb_4 84 rfl
theorem dL_law_923 : decode cL_law 923 = .ok (.ifCond .ne 15, 3) := dcl_at (f := fun k => decode cL_law k) dlb_4 85 rfl
theorem dL_law_926 : decode cL_law 926 = .ok (.aload_n 3, 1) := dcl_at (f := fun k => decode cL_law k) dlb_4 86 rfl
theorem dL_law_927 : decode cL_law 927 = .ok (.iconst 0, 1) := dcl_at (f := fun k => decode cL_law k) dlb_4 87 rfl
theorem dL_law_928 : decode cL_law 928 = .ok (.laload, 1) := dcl_at (f := fun k => decode cL_law k) dlb_4 88 rfl
theorem dL_law_929 : decode cL_law 929 = .ok (.iload 7, 2) := dcl_at (f := fun k => decode cL_law k) dlb_4 89 rfl
theorem dL_law_931 : decode cL_law 931 = .ok (.i2l, 1) := dcl_at (f := fun k => decode cL_law k) dlb_4 90 rfl
theorem dL_law_932 : decode cL_law 932 = .ok (.lcmp, 1) := dcl_at (f := fun k => decode cL_law k) dlb_4 91 rfl
theorem dL_law_933 : decode cL_law 933 = .ok (.ifCond .eq 5, 3) := dcl_at (f := fun k => decode cL_law k) dlb_4 92 rfl
theorem dL_law_936 : decode cL_law 936 = .ok (.iconst 0, 1) := dcl_at (f := fun k => decode cL_law k) dlb_4 93 rfl
theorem dL_law_937 : decode cL_law 937 = .ok (.ireturn, 1) := dcl_at (f := fun k => decode cL_law k) dlb_4 94 rfl
theorem dL_law_938 : decode cL_law 938 = .ok (.goto 1180, 3) := dcl_at (f := fun k => decode cL_law k) dlb_4 95 rfl
theorem dL_law_941 : decode cL_law 941 = .ok (.aload_n 1, 1) := dcl_at (f := fun k => decode cL_law k) dlb_4 96 rfl
theorem dL_law_942 : decode cL_law 942 = .ok (.aload_n 0, 1) := dcl_at (f := fun k => decode cL_law k) dlb_4 97 rfl
theorem dL_law_943 : decode cL_law 943 = .ok (.iload 5, 2) := dcl_at (f := fun k => decode cL_law k) dlb_4 98 rfl
theorem dL_law_945 : decode cL_law 945 = .ok (.iconst 1, 1) := dcl_at (f := fun k => decode cL_law k) dlb_4 99 rfl
theorem dL_law_946 : decode cL_law 946 = .ok (.iadd, 1) := dcl_at (f := fun k => decode cL_law k) dlb_4 100 rfl
theorem dL_law_947 : decode cL_law 947 = .ok (.iaload, 1) := dcl_at (f := fun k => decode cL_law k) dlb_4 101 rfl
theorem dL_law_948 : decode cL_law 948 = .ok (.aload_n 0, 1) := dcl_at (f := fun k => decode cL_law k) dlb_4 102 rfl
theorem dL_law_949 : decode cL_law 949 = .ok (.iload 5, 2) := dcl_at (f := fun k => decode cL_law k) dlb_4 103 rfl
theorem dL_law_951 : decode cL_law 951 = .ok (.iconst 2, 1) := dcl_at (f := fun k => decode cL_law k) dlb_4 104 rfl
theorem dL_law_952 : decode cL_law 952 = .ok (.iadd, 1) := dcl_at (f := fun k => decode cL_law k) dlb_4 105 rfl
theorem dL_law_953 : decode cL_law 953 = .ok (.iaload, 1) := dcl_at (f := fun k => decode cL_law k) dlb_4 106 rfl
def dlb_5l : List (Nat × Instr × Nat) := [(954, .aload_n 3, 1), (955, .invokestatic 167, 3), (958, .istore 6, 2), (960, .aload_n 2, 1), (961, .aload_n 0, 1), (962, .iload 5, 2), (964, .iconst 1, 1), (965, .iadd, 1), (966, .iaload, 1), (967, .aload_n 0, 1), (968, .iload 5, 2), (970, .iconst 2, 1), (971, .iadd, 1), (972, .iaload, 1), (973, .invokevirtual 169, 3), (976, .istore 7, 2), (978, .aload_n 2, 1), (979, .invokevirtual 125, 3), (982, .iload 6, 2), (984, .if_icmp .eq 5, 3), (987, .iconst 0, 1), (988, .ireturn, 1), (989, .iload 6, 2), (991, .ifCond .ne 15, 3), (994, .aload_n 3, 1), (995, .iconst 0, 1), (996, .laload, 1), (997, .iload 7, 2), (999, .i2l, 1), (1000, .lcmp, 1), (1001, .ifCond .eq 5, 3), (1004, .iconst 0, 1), (1005, .ireturn, 1), (1006, .goto 1112, 3), (1009, .aload_n 1, 1), (1010, .aload_n 0, 1), (1011, .iload 5, 2), (1013, .iconst 1, 1), (1014, .iadd, 1), (1015, .iaload, 1), (1016, .aload_n 3, 1), (1017, .invokestatic 170, 3), (1020, .istore 6, 2), (1022, .aload_n 2, 1), (1023, .aload_n 0, 1), (1024, .iload 5, 2), (1026, .iconst 1, 1), (1027, .iadd, 1), (1028, .iaload, 1), (1029, .invokevirtual 172, 3), (1032, .istore 7, 2), (1034, .aload_n 2, 1), (1035, .invokevirtual 125, 3), (1038, .iload 6, 2), (1040, .if_icmp .eq 5, 3), (1043, .iconst 0, 1), (1044, .ireturn, 1), (1045, .iload 6, 2), (1047, .ifCond .ne 15, 3), (1050, .aload_n 3, 1), (1051, .iconst 0, 1), (1052, .laload, 1), (1053, .iload 7, 2), (1055, .i2l, 1), (1056, .lcmp, 1), (1057, .ifCond .eq 5, 3), (1060, .iconst 0, 1), (1061, .ireturn, 1), (1062, .goto 1056, 3), (1065, .aload_n 1, 1), (1066, .aload_n 0, 1), (1067, .iload 5, 2), (1069, .iconst 1, 1), (1070, .iadd, 1), (1071, .iaload, 1), (1072, .aload_n 3, 1), (1073, .invokestatic 173, 3), (1076, .istore 6, 2), (1078, .aload_n 2, 1), (1079, .aload_n 0, 1), (1080, .iload 5, 2), (1082, .iconst 1, 1), (1083, .iadd, 1), (1084, .iaload, 1), (1085, .invokevirtual 175, 3), (1088, .istore 7, 2), (1090, .aload_n 2, 1), (1091, .invokevirtual 125, 3), (1094, .iload 6, 2), (1096, .if_icmp .eq 5, 3), (1099, .iconst 0, 1), (1100, .ireturn, 1), (1101, .iload 6, 2), (1103, .ifCond .ne 22, 3), (1106, .aload_n 3, 1), (1107, .iconst 0, 1), (1108, .laload, 1), (1109, .iload 7, 2), (1111, .ifCond .eq 7, 3), (1114, .lconst 1, 1), (1115, .goto 4, 3), (1118, .lconst 0, 1), (1119, .lcmp, 1), (1120, .ifCond .eq 5, 3), (1123, .iconst 0, 1), (1124, .ireturn, 1), (1125, .goto 993, 3)]
theorem dlb_5 : dcl (fun k => decode cL_law k) dlb_5l = true := by decide +kernel
theorem dL_law_954 : decode cL_law 954 = .ok (.aload_n 3, 1) := dcl_at (f := fun k => decode cL_law k) dlb_5 0 rfl
theorem dL_law_955 : decode cL_law 955 = .ok (.invokestatic 167, 3) := dcl_at (f := fun k => decode cL_law k) dlb_5 1 rfl
theorem dL_law_958 : decode cL_law 958 = .ok (.istore 6, 2) := dcl_at (f := fun k => decode cL_law k) dlb_5 2 rfl
theorem dL_law_960 : decode cL_law 960 = .ok (.aload_n 2, 1) := dcl_at (f := fun k => decode cL_law k) dlb_5 3 rfl
theorem dL_law_961 : decode cL_law 961 = .ok (.aload_n 0, 1) := dcl_at (f := fun k => decode cL_law k) dlb_5 4 rfl
theorem dL_law_962 : decode cL_law 962 = .ok (.iload 5, 2) := dcl_at (f := fun k => decode cL_law k) dlb_5 5 rfl
theorem dL_law_964 : decode cL_law 964 = .ok (.iconst 1, 1) := dcl_at (f := fun k => decode cL_law k) dlb_5 6 rfl
theorem dL_law_965 : decode cL_law 965 = .ok (.iadd, 1) := dcl_at (f := fun k => decode cL_law k) dlb_5 7 rfl
theorem dL_law_966 : decode cL_law 966 = .ok (.iaload, 1) := dcl_at (f := fun k => decode cL_law k) dlb_5 8 rfl
theorem dL_law_967 : decode cL_law 967 = .ok (.aload_n 0, 1) := dcl_at (f := fun k => decode cL_law k) dlb_5 9 rfl
theorem dL_law_968 : decode cL_law 968 = .ok (.iload 5, 2) := dcl_at (f := fun k => decode cL_law k) dlb_5 10 rfl
theorem dL_law_970 : decode cL_law 970 = .ok (.iconst 2, 1) := dcl_at (f := fun k => decode cL_law k) dlb_5 11 rfl
theorem dL_law_971 : decode cL_law 971 = .ok (.iadd, 1) := dcl_at (f := fun k => decode cL_law k) dlb_5 12 rfl
theorem dL_law_972 : decode cL_law 972 = .ok (.iaload, 1) := dcl_at (f := fun k => decode cL_law k) dlb_5 13 rfl
theorem dL_law_973 : decode cL_law 973 = .ok (.invokevirtual 169, 3) := dcl_at (f := fun k => decode cL_law k) dlb_5 14 rfl
theorem dL_law_976 : decode cL_law 976 = .ok (.istore 7, 2) := dcl_at (f := fun k => decode cL_law k) dlb_5 15 rfl
theorem dL_law_978 : decode cL_law 978 = .ok (.aload_n 2, 1) := dcl_at (f := fun k => decode cL_law k) dlb_5 16 rfl
theorem dL_law_979 : decode cL_law 979 = .ok (.invokevirtual 125, 3) := dcl_at (f := fun k => decode cL_law k) dlb_5 17 rfl
theorem dL_law_982 : decode cL_law 982 = .ok (.iload 6, 2) := dcl_at (f := fun k => decode cL_law k) dlb_5 18 rfl
theorem dL_law_984 : decode cL_law 984 = .ok (.if_icmp .eq 5, 3) := dcl_at (f := fun k => decode cL_law k) dlb_5 19 rfl
theorem dL_law_987 : decode cL_law 987 = .ok (.iconst 0, 1) := dcl_at (f := fun k => decode cL_law k) dlb_5 20 rfl
theorem dL_law_988 : decode cL_law 988 = .ok (.ireturn, 1) := dcl_at (f := fun k => decode cL_law k) dlb_5 21 rfl
theorem dL_law_989 : decode cL_law 989 = .ok (.iload 6, 2) := dcl_at (f := fun k => decode cL_law k) dlb_5 22 rfl
theorem dL_law_991 : decode cL_law 991 = .ok (.ifCond .ne 15, 3) := dcl_at (f := fun k => decode cL_law k) dlb_5 23 rfl
theorem dL_law_994 : decode cL_law 994 = .ok (.aload_n 3, 1) := dcl_at (f := fun k => decode cL_law k) dlb_5 24 rfl
theorem dL_law_995 : decode cL_law 995 = .ok (.iconst 0, 1) := dcl_at (f := fun k => decode cL_law k) dlb_5 25 rfl
theorem dL_law_996 : decode cL_law 996 = .ok (.laload, 1) := dcl_at (f := fun k => decode cL_law k) dlb_5 26 rfl
theorem dL_law_997 : decode cL_law 997 = .ok (.iload 7, 2) := dcl_at (f := fun k => decode cL_law k) dlb_5 27 rfl
theorem dL_law_999 : decode cL_law 999 = .ok (.i2l, 1) := dcl_at (f := fun k => decode cL_law k) dlb_5 28 rfl
theorem dL_law_1000 : decode cL_law 1000 = .ok (.lcmp, 1) := dcl_at (f := fun k => decode cL_law k) dlb_5 29 rfl
theorem dL_law_1001 : decode cL_law 1001 = .ok (.ifCond .eq 5, 3) := dcl_at (f := fun k => decode cL_law k) dlb_5 30 rfl
theorem dL_law_1004 : decode cL_law 1004 = .ok (.iconst 0, 1) := dcl_at (f := fun k => decode cL_law k) dlb_5 31 rfl
theorem dL_law_1005 : decode cL_law 1005 = .ok (.ireturn, 1) := dcl_at (f := fun k => decode cL_law k) dlb_5 32 rfl
theorem dL_law_1006 : decode cL_law 1006 = .ok (.goto 1112, 3) := dcl_at (f := fun k => decode cL_law k) dlb_5 33 rfl
theorem dL_law_1009 : decode cL_law 1009 = .ok (.aload_n 1, 1) := dcl_at (f := fun k => decode cL_law k) dlb_5 34 rfl
theorem dL_law_1010 : decode cL_law 1010 = .ok (.aload_n 0, 1) := dcl_at (f := fun k => decode cL_law k) dlb_5 35 rfl
theorem dL_law_1011 : decode cL_law 1011 = .ok (.iload 5, 2) := dcl_at (f := fun k => decode cL_law k) dlb_5 36 rfl
theorem dL_law_1013 : decode cL_law 1013 = .ok (.iconst 1, 1) := dcl_at (f := fun k => decode cL_law k) dlb_5 37 rfl
theorem dL_law_1014 : decode cL_law 1014 = .ok (.iadd, 1) := dcl_at (f := fun k => decode cL_law k) dlb_5 38 rfl
theorem dL_law_1015 : decode cL_law 1015 = .ok (.iaload, 1) := dcl_at (f := fun k => decode cL_law k) dlb_5 39 rfl
theorem dL_law_1016 : decode cL_law 1016 = .ok (.aload_n 3, 1) := dcl_at (f := fun k => decode cL_law k) dlb_5 40 rfl
theorem dL_law_1017 : decode cL_law 1017 = .ok (.invokestatic 170, 3) := dcl_at (f := fun k => decode cL_law k) dlb_5 41 rfl
theorem dL_law_1020 : decode cL_law 1020 = .ok (.istore 6, 2) := dcl_at (f := fun k => decode cL_law k) dlb_5 42 rfl
theorem dL_law_1022 : decode cL_law 1022 = .ok (.aload_n 2, 1) := dcl_at (f := fun k => decode cL_law k) dlb_5 43 rfl
theorem dL_law_1023 : decode cL_law 1023 = .ok (.aload_n 0, 1) := dcl_at (f := fun k => decode cL_law k) dlb_5 44 rfl
theorem dL_law_1024 : decode cL_law 1024 = .ok (.iload 5, 2) := dcl_at (f := fun k => decode cL_law k) dlb_5 45 rfl
theorem dL_law_1026 : decode cL_law 1026 = .ok (.iconst 1, 1) := dcl_at (f := fun k => decode cL_law k) dlb_5 46 rfl
theorem dL_law_1027 : decode cL_law 1027 = .ok (.iadd, 1) := dcl_at (f := fun k => decode cL_law k) dlb_5 47 rfl
theorem dL_law_1028 : decode cL_law 1028 = .ok (.iaload, 1) := dcl_at (f := fun k => decode cL_law k) dlb_5 48 rfl
theorem dL_law_1029 : decode cL_law 1029 = .ok (.invokevirtual 172, 3) := dcl_at (f := fun k => decode cL_law k) dlb_5 49 rfl
theorem dL_law_1032 : decode cL_law 1032 = .ok (.istore 7, 2) := dcl_at (f := fun k => decode cL_law k) dlb_5 50 rfl
theorem dL_law_1034 : decode cL_law 1034 = .ok (.aload_n 2, 1) := dcl_at (f := fun k => decode cL_law k) dlb_5 51 rfl
theorem dL_law_1035 : decode cL_law 1035 = .ok (.invokevirtual 125, 3) := dcl_at (f := fun k => decode cL_law k) dlb_5 52 rfl
theorem dL_law_1038 : decode cL_law 1038 = .ok (.iload 6, 2) := dcl_at (f := fun k => decode cL_law k) dlb_5 53 rfl
theorem dL_law_1040 : decode cL_law 1040 = .ok (.if_icmp .eq 5, 3) := dcl_at (f := fun k => decode cL_law k) dlb_5 54 rfl
theorem dL_law_1043 : decode cL_law 1043 = .ok (.iconst 0, 1) := dcl_at (f := fun k => decode cL_law k) dlb_5 55 rfl
theorem dL_law_1044 : decode cL_law 1044 = .ok (.ireturn, 1) := dcl_at (f := fun k => decode cL_law k) dlb_5 56 rfl
theorem dL_law_1045 : decode cL_law 1045 = .ok (.iload 6, 2) := dcl_at (f := fun k => decode cL_law k) dlb_5 57 rfl
theorem dL_law_1047 : decode cL_law 1047 = .ok (.ifCond .ne 15, 3) := dcl_at (f := fun k => decode cL_law k) dlb_5 58 rfl
theorem dL_law_1050 : decode cL_law 1050 = .ok (.aload_n 3, 1) := dcl_at (f := fun k => decode cL_law k) dlb_5 59 rfl
theorem dL_law_1051 : decode cL_law 1051 = .ok (.iconst 0, 1) := dcl_at (f := fun k => decode cL_law k) dlb_5 60 rfl
theorem dL_law_1052 : decode cL_law 1052 = .ok (.laload, 1) := dcl_at (f := fun k => decode cL_law k) dlb_5 61 rfl
theorem dL_law_1053 : decode cL_law 1053 = .ok (.iload 7, 2) := dcl_at (f := fun k => decode cL_law k) dlb_5 62 rfl
theorem dL_law_1055 : decode cL_law 1055 = .ok (.i2l, 1) := dcl_at (f := fun k => decode cL_law k) dlb_5 63 rfl
theorem dL_law_1056 : decode cL_law 1056 = .ok (.lcmp, 1) := dcl_at (f := fun k => decode cL_law k) dlb_5 64 rfl
theorem dL_law_1057 : decode cL_law 1057 = .ok (.ifCond .eq 5, 3) := dcl_at (f := fun k => decode cL_law k) dlb_5 65 rfl
theorem dL_law_1060 : decode cL_law 1060 = .ok (.iconst 0, 1) := dcl_at (f := fun k => decode cL_law k) dlb_5 66 rfl
theorem dL_law_1061 : decode cL_law 1061 = .ok (.ireturn, 1) := dcl_at (f := fun k => decode cL_law k) dlb_5 67 rfl
theorem dL_law_1062 : decode cL_law 1062 = .ok (.goto 1056, 3) := dcl_at (f := fun k => decode cL_law k) dlb_5 68 rfl
theorem dL_law_1065 : decode cL_law 1065 = .ok (.aload_n 1, 1) := dcl_at (f := fun k => decode cL_law k) dlb_5 69 rfl
theorem dL_law_1066 : decode cL_law 1066 = .ok (.aload_n 0, 1) := dcl_at (f := fun k => decode cL_law k) dlb_5 70 rfl
theorem dL_law_1067 : decode cL_law 1067 = .ok (.iload 5, 2) := dcl_at (f := fun k => decode cL_law k) dlb_5 71 rfl
theorem dL_law_1069 : decode cL_law 1069 = .ok (.iconst 1, 1) := dcl_at (f := fun k => decode cL_law k) dlb_5 72 rfl
theorem dL_law_1070 : decode cL_law 1070 = .ok (.iadd, 1) := dcl_at (f := fun k => decode cL_law k) dlb_5 73 rfl
theorem dL_law_1071 : decode cL_law 1071 = .ok (.iaload, 1) := dcl_at (f := fun k => decode cL_law k) dlb_5 74 rfl
theorem dL_law_1072 : decode cL_law 1072 = .ok (.aload_n 3, 1) := dcl_at (f := fun k => decode cL_law k) dlb_5 75 rfl
theorem dL_law_1073 : decode cL_law 1073 = .ok (.invokestatic 173, 3) := dcl_at (f := fun k => decode cL_law k) dlb_5 76 rfl
theorem dL_law_1076 : decode cL_law 1076 = .ok (.istore 6, 2) := dcl_at (f := fun k => decode cL_law k) dlb_5 77 rfl
theorem dL_law_1078 : decode cL_law 1078 = .ok (.aload_n 2, 1) := dcl_at (f := fun k => decode cL_law k) dlb_5 78 rfl
theorem dL_law_1079 : decode cL_law 1079 = .ok (.aload_n 0, 1) := dcl_at (f := fun k => decode cL_law k) dlb_5 79 rfl
theorem dL_law_1080 : decode cL_law 1080 = .ok (.iload 5, 2) := dcl_at (f := fun k => decode cL_law k) dlb_5 80 rfl
theorem dL_law_1082 : decode cL_law 1082 = .ok (.iconst 1, 1) := dcl_at (f := fun k => decode cL_law k) dlb_5 81 rfl
theorem dL_law_1083 : decode cL_law 1083 = .ok (.iadd, 1) := dcl_at (f := fun k => decode cL_law k) dlb_5 82 rfl
theorem dL_law_1084 : decode cL_law 1084 = .ok (.iaload, 1) := dcl_at (f := fun k => decode cL_law k) dlb_5 83 rfl
theorem dL_law_1085 : decode cL_law 1085 = .ok (.invokevirtual 175, 3) := dcl_at (f := fun k => decode cL_law k) dlb_5 84 rfl
theorem dL_law_1088 : decode cL_law 1088 = .ok (.istore 7, 2) := dcl_at (f := fun k => decode cL_law k) dlb_5 85 rfl
theorem dL_law_1090 : decode cL_law 1090 = .ok (.aload_n 2, 1) := dcl_at (f := fun k => decode cL_law k) dlb_5 86 rfl
theorem dL_law_1091 : decode cL_law 1091 = .ok (.invokevirtual 125, 3) := dcl_at (f := fun k => decode cL_law k) dlb_5 87 rfl
theorem dL_law_1094 : decode cL_law 1094 = .ok (.iload 6, 2) := dcl_at (f := fun k => decode cL_law k) dlb_5 88 rfl
theorem dL_law_1096 : decode cL_law 1096 = .ok (.if_icmp .eq 5, 3) := dcl_at (f := fun k => decode cL_law k) dlb_5 89 rfl
theorem dL_law_1099 : decode cL_law 1099 = .ok (.iconst 0, 1) := dcl_at (f := fun k => decode cL_law k) dlb_5 90 rfl
theorem dL_law_1100 : decode cL_law 1100 = .ok (.ireturn, 1) := dcl_at (f := fun k => decode cL_law k) dlb_5 91 rfl
theorem dL_law_1101 : decode cL_law 1101 = .ok (.iload 6, 2) := dcl_at (f := fun k => decode cL_law k) dlb_5 92 rfl
theorem dL_law_1103 : decode cL_law 1103 = .ok (.ifCond .ne 22, 3) := dcl_at (f := fun k => decode cL_law k) dlb_5 93 rfl
theorem dL_law_1106 : decode cL_law 1106 = .ok (.aload_n 3, 1) := dcl_at (f := fun k => decode cL_law k) dlb_5 94 rfl
theorem dL_law_1107 : decode cL_law 1107 = .ok (.iconst 0, 1) := dcl_at (f := fun k => decode cL_law k) dlb_5 95 rfl
theorem dL_law_1108 : decode cL_law 1108 = .ok (.laload, 1) := dcl_at (f := fun k => decode cL_law k) dlb_5 96 rfl
theorem dL_law_1109 : decode cL_law 1109 = .ok (.iload 7, 2) := dcl_at (f := fun k => decode cL_law k) dlb_5 97 rfl
theorem dL_law_1111 : decode cL_law 1111 = .ok (.ifCond .eq 7, 3) := dcl_at (f := fun k => decode cL_law k) dlb_5 98 rfl
theorem dL_law_1114 : decode cL_law 1114 = .ok (.lconst 1, 1) := dcl_at (f := fun k => decode cL_law k) dlb_5 99 rfl
theorem dL_law_1115 : decode cL_law 1115 = .ok (.goto 4, 3) := dcl_at (f := fun k => decode cL_law k) dlb_5 100 rfl
theorem dL_law_1118 : decode cL_law 1118 = .ok (.lconst 0, 1) := dcl_at (f := fun k => decode cL_law k) dlb_5 101 rfl
theorem dL_law_1119 : decode cL_law 1119 = .ok (.lcmp, 1) := dcl_at (f := fun k => decode cL_law k) dlb_5 102 rfl
theorem dL_law_1120 : decode cL_law 1120 = .ok (.ifCond .eq 5, 3) := dcl_at (f := fun k => decode cL_law k) dlb_5 103 rfl
theorem dL_law_1123 : decode cL_law 1123 = .ok (.iconst 0, 1) := dcl_at (f := fun k => decode cL_law k) dlb_5 104 rfl
theorem dL_law_1124 : decode cL_law 1124 = .ok (.ireturn, 1) := dcl_at (f := fun k => decode cL_law k) dlb_5 105 rfl
theorem dL_law_1125 : decode cL_law 1125 = .ok (.goto 993, 3) := dcl_at (f := fun k => decode cL_law k) dlb_5 106 rfl
