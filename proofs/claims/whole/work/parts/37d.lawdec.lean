theorem lr_d_L_612 : decode code 612 = .ok (.iconst 1, 1) := by decide +kernel
theorem lr_d_L_613 : decode code 613 = .ok (.iadd, 1) := by decide +kernel
theorem lr_d_L_614 : decode code 614 = .ok (.iaload, 1) := by decide +kernel
theorem lr_d_L_615 : decode code 615 = .ok (.aload_n 0, 1) := by decide +kernel
theorem lr_d_L_616 : decode code 616 = .ok (.iload_n 3, 1) := by decide +kernel
theorem lr_d_L_617 : decode code 617 = .ok (.iconst 2, 1) := by decide +kernel
theorem lr_d_L_618 : decode code 618 = .ok (.iadd, 1) := by decide +kernel
theorem lr_d_L_619 : decode code 619 = .ok (.iaload, 1) := by decide +kernel
theorem lr_d_L_620 : decode code 620 = .ok (.aload_n 0, 1) := by decide +kernel
theorem lr_d_L_621 : decode code 621 = .ok (.iload_n 3, 1) := by decide +kernel
theorem lr_d_L_622 : decode code 622 = .ok (.iconst 3, 1) := by decide +kernel
theorem lr_d_L_623 : decode code 623 = .ok (.iadd, 1) := by decide +kernel
theorem lr_d_L_624 : decode code 624 = .ok (.iaload, 1) := by decide +kernel
theorem lr_d_L_625 : decode code 625 = .ok (.invokevirtual 81, 3) := by decide +kernel
theorem lr_d_L_628 : decode code 628 = .ok (.aload_n 2, 1) := by decide +kernel
theorem lr_d_L_629 : decode code 629 = .ok (.aload_n 0, 1) := by decide +kernel
theorem lr_d_L_630 : decode code 630 = .ok (.iload_n 3, 1) := by decide +kernel
theorem lr_d_L_631 : decode code 631 = .ok (.iconst 1, 1) := by decide +kernel
theorem lr_d_L_632 : decode code 632 = .ok (.iadd, 1) := by decide +kernel
theorem lr_d_L_633 : decode code 633 = .ok (.iaload, 1) := by decide +kernel
theorem lr_d_L_634 : decode code 634 = .ok (.aload_n 0, 1) := by decide +kernel
theorem lr_d_L_635 : decode code 635 = .ok (.iload_n 3, 1) := by decide +kernel
theorem lr_d_L_636 : decode code 636 = .ok (.iconst 2, 1) := by decide +kernel
theorem lr_d_L_637 : decode code 637 = .ok (.iadd, 1) := by decide +kernel
theorem lr_d_L_638 : decode code 638 = .ok (.iaload, 1) := by decide +kernel
theorem lr_d_L_639 : decode code 639 = .ok (.aload_n 0, 1) := by decide +kernel
theorem lr_d_L_640 : decode code 640 = .ok (.iload_n 3, 1) := by decide +kernel
theorem lr_d_L_641 : decode code 641 = .ok (.iconst 3, 1) := by decide +kernel
theorem lr_d_L_642 : decode code 642 = .ok (.iadd, 1) := by decide +kernel
theorem lr_d_L_643 : decode code 643 = .ok (.iaload, 1) := by decide +kernel
theorem lr_d_L_644 : decode code 644 = .ok (.invokevirtual 84, 3) := by decide +kernel
theorem lr_d_L_647 : decode code 647 = .ok (.if_icmp .eq 104, 3) := by decide +kernel
theorem lr_d_L_650 : decode code 650 = .ok (.iconst 0, 1) := by decide +kernel
theorem lr_d_L_651 : decode code 651 = .ok (.ireturn, 1) := by decide +kernel
theorem lr_d_L_652 : decode code 652 = .ok (.aload_n 1, 1) := by decide +kernel
theorem lr_d_L_653 : decode code 653 = .ok (.aload_n 0, 1) := by decide +kernel
theorem lr_d_L_654 : decode code 654 = .ok (.iload_n 3, 1) := by decide +kernel
theorem lr_d_L_655 : decode code 655 = .ok (.iconst 1, 1) := by decide +kernel
theorem lr_d_L_656 : decode code 656 = .ok (.iadd, 1) := by decide +kernel
theorem lr_d_L_657 : decode code 657 = .ok (.iaload, 1) := by decide +kernel
theorem lr_d_L_658 : decode code 658 = .ok (.aload_n 0, 1) := by decide +kernel
theorem lr_d_L_659 : decode code 659 = .ok (.iload_n 3, 1) := by decide +kernel
theorem lr_d_L_660 : decode code 660 = .ok (.iconst 2, 1) := by decide +kernel
theorem lr_d_L_661 : decode code 661 = .ok (.iadd, 1) := by decide +kernel
theorem lr_d_L_662 : decode code 662 = .ok (.iaload, 1) := by decide +kernel
theorem lr_d_L_663 : decode code 663 = .ok (.aload_n 0, 1) := by decide +kernel
theorem lr_d_L_664 : decode code 664 = .ok (.iload_n 3, 1) := by decide +kernel
theorem lr_d_L_665 : decode code 665 = .ok (.iconst 3, 1) := by decide +kernel
theorem lr_d_L_666 : decode code 666 = .ok (.iadd, 1) := by decide +kernel
theorem lr_d_L_667 : decode code 667 = .ok (.iaload, 1) := by decide +kernel
theorem lr_d_L_668 : decode code 668 = .ok (.invokevirtual 85, 3) := by decide +kernel
theorem lr_d_L_671 : decode code 671 = .ok (.aload_n 2, 1) := by decide +kernel
theorem lr_d_L_672 : decode code 672 = .ok (.aload_n 0, 1) := by decide +kernel
theorem lr_d_L_673 : decode code 673 = .ok (.iload_n 3, 1) := by decide +kernel
theorem lr_d_L_674 : decode code 674 = .ok (.iconst 1, 1) := by decide +kernel
theorem lr_d_L_675 : decode code 675 = .ok (.iadd, 1) := by decide +kernel
theorem lr_d_L_676 : decode code 676 = .ok (.iaload, 1) := by decide +kernel
theorem lr_d_L_677 : decode code 677 = .ok (.aload_n 0, 1) := by decide +kernel
theorem lr_d_L_678 : decode code 678 = .ok (.iload_n 3, 1) := by decide +kernel
theorem lr_d_L_679 : decode code 679 = .ok (.iconst 2, 1) := by decide +kernel
theorem lr_d_L_680 : decode code 680 = .ok (.iadd, 1) := by decide +kernel
theorem lr_d_L_681 : decode code 681 = .ok (.iaload, 1) := by decide +kernel
theorem lr_d_L_682 : decode code 682 = .ok (.aload_n 0, 1) := by decide +kernel
theorem lr_d_L_683 : decode code 683 = .ok (.iload_n 3, 1) := by decide +kernel
theorem lr_d_L_684 : decode code 684 = .ok (.iconst 3, 1) := by decide +kernel
theorem lr_d_L_685 : decode code 685 = .ok (.iadd, 1) := by decide +kernel
theorem lr_d_L_686 : decode code 686 = .ok (.iaload, 1) := by decide +kernel
theorem lr_d_L_687 : decode code 687 = .ok (.invokevirtual 88, 3) := by decide +kernel
theorem lr_d_L_690 : decode code 690 = .ok (.if_icmp .eq 61, 3) := by decide +kernel
theorem lr_d_L_693 : decode code 693 = .ok (.iconst 0, 1) := by decide +kernel
theorem lr_d_L_694 : decode code 694 = .ok (.ireturn, 1) := by decide +kernel
theorem lr_d_L_695 : decode code 695 = .ok (.aload_n 1, 1) := by decide +kernel
theorem lr_d_L_696 : decode code 696 = .ok (.aload_n 0, 1) := by decide +kernel
theorem lr_d_L_697 : decode code 697 = .ok (.iload_n 3, 1) := by decide +kernel
theorem lr_d_L_698 : decode code 698 = .ok (.iconst 1, 1) := by decide +kernel
theorem lr_d_L_699 : decode code 699 = .ok (.iadd, 1) := by decide +kernel
theorem lr_d_L_700 : decode code 700 = .ok (.iaload, 1) := by decide +kernel
theorem lr_d_L_701 : decode code 701 = .ok (.invokevirtual 89, 3) := by decide +kernel
theorem lr_d_L_704 : decode code 704 = .ok (.aload_n 2, 1) := by decide +kernel
theorem lr_d_L_705 : decode code 705 = .ok (.aload_n 0, 1) := by decide +kernel
theorem lr_d_L_706 : decode code 706 = .ok (.iload_n 3, 1) := by decide +kernel
theorem lr_d_L_707 : decode code 707 = .ok (.iconst 1, 1) := by decide +kernel
theorem lr_d_L_708 : decode code 708 = .ok (.iadd, 1) := by decide +kernel
theorem lr_d_L_709 : decode code 709 = .ok (.iaload, 1) := by decide +kernel
theorem lr_d_L_710 : decode code 710 = .ok (.invokevirtual 92, 3) := by decide +kernel
theorem lr_d_L_713 : decode code 713 = .ok (.if_icmp .eq 38, 3) := by decide +kernel
theorem lr_d_L_716 : decode code 716 = .ok (.iconst 0, 1) := by decide +kernel
theorem lr_d_L_717 : decode code 717 = .ok (.ireturn, 1) := by decide +kernel
theorem lr_d_L_718 : decode code 718 = .ok (.aload_n 1, 1) := by decide +kernel
theorem lr_d_L_719 : decode code 719 = .ok (.aload_n 0, 1) := by decide +kernel
theorem lr_d_L_720 : decode code 720 = .ok (.iload_n 3, 1) := by decide +kernel
theorem lr_d_L_721 : decode code 721 = .ok (.iconst 1, 1) := by decide +kernel
theorem lr_d_L_722 : decode code 722 = .ok (.iadd, 1) := by decide +kernel
theorem lr_d_L_723 : decode code 723 = .ok (.iaload, 1) := by decide +kernel
theorem lr_d_L_724 : decode code 724 = .ok (.aload_n 0, 1) := by decide +kernel
theorem lr_d_L_725 : decode code 725 = .ok (.iload_n 3, 1) := by decide +kernel
theorem lr_d_L_726 : decode code 726 = .ok (.iconst 2, 1) := by decide +kernel
theorem lr_d_L_727 : decode code 727 = .ok (.iadd, 1) := by decide +kernel
theorem lr_d_L_728 : decode code 728 = .ok (.iaload, 1) := by decide +kernel
theorem lr_d_L_729 : decode code 729 = .ok (.invokevirtual 93, 3) := by decide +kernel
theorem lr_d_L_732 : decode code 732 = .ok (.aload_n 2, 1) := by decide +kernel
theorem lr_d_L_733 : decode code 733 = .ok (.aload_n 0, 1) := by decide +kernel
theorem lr_d_L_734 : decode code 734 = .ok (.iload_n 3, 1) := by decide +kernel
theorem lr_d_L_735 : decode code 735 = .ok (.iconst 1, 1) := by decide +kernel
theorem lr_d_L_736 : decode code 736 = .ok (.iadd, 1) := by decide +kernel
theorem lr_d_L_737 : decode code 737 = .ok (.iaload, 1) := by decide +kernel
theorem lr_d_L_738 : decode code 738 = .ok (.aload_n 0, 1) := by decide +kernel
theorem lr_d_L_739 : decode code 739 = .ok (.iload_n 3, 1) := by decide +kernel
theorem lr_d_L_740 : decode code 740 = .ok (.iconst 2, 1) := by decide +kernel
theorem lr_d_L_741 : decode code 741 = .ok (.iadd, 1) := by decide +kernel
theorem lr_d_L_742 : decode code 742 = .ok (.iaload, 1) := by decide +kernel
theorem lr_d_L_743 : decode code 743 = .ok (.invokevirtual 96, 3) := by decide +kernel
theorem lr_d_L_746 : decode code 746 = .ok (.if_icmp .eq 5, 3) := by decide +kernel
theorem lr_d_L_749 : decode code 749 = .ok (.iconst 0, 1) := by decide +kernel
theorem lr_d_L_750 : decode code 750 = .ok (.ireturn, 1) := by decide +kernel
theorem lr_d_L_751 : decode code 751 = .ok (.iinc 3 5, 3) := by decide +kernel
theorem lr_d_L_754 : decode code 754 = .ok (.goto (-736), 3) := by decide +kernel
theorem lr_d_L_757 : decode code 757 = .ok (.iconst 1, 1) := by decide +kernel
theorem lr_d_L_758 : decode code 758 = .ok (.ireturn, 1) := by decide +kernel
