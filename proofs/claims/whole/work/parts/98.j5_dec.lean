theorem d_law_609 : decode code 609 = .ok (.aload_n 3, 1) := by decide +kernel
theorem d_law_610 : decode code 610 = .ok (.iconst 0, 1) := by decide +kernel
theorem d_law_611 : decode code 611 = .ok (.laload, 1) := by decide +kernel
theorem d_law_612 : decode code 612 = .ok (.iload 6, 2) := by decide +kernel
theorem d_law_614 : decode code 614 = .ok (.i2l, 1) := by decide +kernel
theorem d_law_615 : decode code 615 = .ok (.lcmp, 1) := by decide +kernel
theorem d_law_616 : decode code 616 = .ok (.ifCond .eq 5, 3) := by decide +kernel
theorem d_law_619 : decode code 619 = .ok (.iconst 0, 1) := by decide +kernel
theorem d_law_620 : decode code 620 = .ok (.ireturn, 1) := by decide +kernel
theorem d_law_621 : decode code 621 = .ok (.goto 209, 3) := by decide +kernel
theorem d_law_624 : decode code 624 = .ok (.aload_n 1, 1) := by decide +kernel
theorem d_law_625 : decode code 625 = .ok (.invokevirtual 87, 3) := by decide +kernel
theorem d_law_628 : decode code 628 = .ok (.aload_n 2, 1) := by decide +kernel
theorem d_law_629 : decode code 629 = .ok (.invokevirtual 91, 3) := by decide +kernel
theorem d_law_632 : decode code 632 = .ok (.lcmp, 1) := by decide +kernel
theorem d_law_633 : decode code 633 = .ok (.ifCond .eq 197, 3) := by decide +kernel
theorem d_law_636 : decode code 636 = .ok (.iconst 0, 1) := by decide +kernel
theorem d_law_637 : decode code 637 = .ok (.ireturn, 1) := by decide +kernel
theorem d_law_638 : decode code 638 = .ok (.aload_n 1, 1) := by decide +kernel
theorem d_law_639 : decode code 639 = .ok (.aload_n 0, 1) := by decide +kernel
theorem d_law_640 : decode code 640 = .ok (.iload 4, 2) := by decide +kernel
theorem d_law_642 : decode code 642 = .ok (.iconst 1, 1) := by decide +kernel
theorem d_law_643 : decode code 643 = .ok (.iadd, 1) := by decide +kernel
theorem d_law_644 : decode code 644 = .ok (.iaload, 1) := by decide +kernel
theorem d_law_645 : decode code 645 = .ok (.aload_n 3, 1) := by decide +kernel
theorem d_law_646 : decode code 646 = .ok (.invokestatic 92, 3) := by decide +kernel
theorem d_law_649 : decode code 649 = .ok (.istore 5, 2) := by decide +kernel
theorem d_law_651 : decode code 651 = .ok (.aload_n 2, 1) := by decide +kernel
theorem d_law_652 : decode code 652 = .ok (.aload_n 0, 1) := by decide +kernel
theorem d_law_653 : decode code 653 = .ok (.iload 4, 2) := by decide +kernel
theorem d_law_655 : decode code 655 = .ok (.iconst 1, 1) := by decide +kernel
theorem d_law_656 : decode code 656 = .ok (.iadd, 1) := by decide +kernel
theorem d_law_657 : decode code 657 = .ok (.iaload, 1) := by decide +kernel
theorem d_law_658 : decode code 658 = .ok (.invokevirtual 94, 3) := by decide +kernel
theorem d_law_661 : decode code 661 = .ok (.lstore 6, 2) := by decide +kernel
theorem d_law_663 : decode code 663 = .ok (.aload_n 2, 1) := by decide +kernel
theorem d_law_664 : decode code 664 = .ok (.invokevirtual 62, 3) := by decide +kernel
theorem d_law_667 : decode code 667 = .ok (.iload 5, 2) := by decide +kernel
theorem d_law_669 : decode code 669 = .ok (.if_icmp .eq 5, 3) := by decide +kernel
theorem d_law_672 : decode code 672 = .ok (.iconst 0, 1) := by decide +kernel
theorem d_law_673 : decode code 673 = .ok (.ireturn, 1) := by decide +kernel
theorem d_law_674 : decode code 674 = .ok (.iload 5, 2) := by decide +kernel
theorem d_law_676 : decode code 676 = .ok (.ifCond .ne 14, 3) := by decide +kernel
theorem d_law_679 : decode code 679 = .ok (.aload_n 3, 1) := by decide +kernel
theorem d_law_680 : decode code 680 = .ok (.iconst 0, 1) := by decide +kernel
theorem d_law_681 : decode code 681 = .ok (.laload, 1) := by decide +kernel
theorem d_law_682 : decode code 682 = .ok (.lload 6, 2) := by decide +kernel
theorem d_law_684 : decode code 684 = .ok (.lcmp, 1) := by decide +kernel
theorem d_law_685 : decode code 685 = .ok (.ifCond .eq 5, 3) := by decide +kernel
theorem d_law_688 : decode code 688 = .ok (.iconst 0, 1) := by decide +kernel
theorem d_law_689 : decode code 689 = .ok (.ireturn, 1) := by decide +kernel
theorem d_law_690 : decode code 690 = .ok (.goto 140, 3) := by decide +kernel
theorem d_law_693 : decode code 693 = .ok (.aload_n 1, 1) := by decide +kernel
theorem d_law_694 : decode code 694 = .ok (.aload_n 0, 1) := by decide +kernel
theorem d_law_695 : decode code 695 = .ok (.iload 4, 2) := by decide +kernel
theorem d_law_697 : decode code 697 = .ok (.iconst 1, 1) := by decide +kernel
theorem d_law_698 : decode code 698 = .ok (.iadd, 1) := by decide +kernel
theorem d_law_699 : decode code 699 = .ok (.iaload, 1) := by decide +kernel
theorem d_law_700 : decode code 700 = .ok (.aload_n 3, 1) := by decide +kernel
theorem d_law_701 : decode code 701 = .ok (.invokestatic 95, 3) := by decide +kernel
theorem d_law_704 : decode code 704 = .ok (.istore 5, 2) := by decide +kernel
theorem d_law_706 : decode code 706 = .ok (.aload_n 2, 1) := by decide +kernel
theorem d_law_707 : decode code 707 = .ok (.aload_n 0, 1) := by decide +kernel
theorem d_law_708 : decode code 708 = .ok (.iload 4, 2) := by decide +kernel
theorem d_law_710 : decode code 710 = .ok (.iconst 1, 1) := by decide +kernel
theorem d_law_711 : decode code 711 = .ok (.iadd, 1) := by decide +kernel
theorem d_law_712 : decode code 712 = .ok (.iaload, 1) := by decide +kernel
theorem d_law_713 : decode code 713 = .ok (.invokevirtual 97, 3) := by decide +kernel
theorem d_law_716 : decode code 716 = .ok (.lstore 6, 2) := by decide +kernel
theorem d_law_718 : decode code 718 = .ok (.aload_n 2, 1) := by decide +kernel
theorem d_law_719 : decode code 719 = .ok (.invokevirtual 62, 3) := by decide +kernel
theorem d_law_722 : decode code 722 = .ok (.iload 5, 2) := by decide +kernel
theorem d_law_724 : decode code 724 = .ok (.if_icmp .eq 5, 3) := by decide +kernel
