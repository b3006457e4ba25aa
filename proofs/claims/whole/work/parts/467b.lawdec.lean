theorem ld_507 : decode code 507 = .ok (.iconst 0, 1) := by decide +kernel
theorem ld_508 : decode code 508 = .ok (.ireturn, 1) := by decide +kernel
theorem ld_509 : decode code 509 = .ok (.aload_n 1, 1) := by decide +kernel
theorem ld_510 : decode code 510 = .ok (.aload_n 0, 1) := by decide +kernel
theorem ld_511 : decode code 511 = .ok (.iload_n 3, 1) := by decide +kernel
theorem ld_512 : decode code 512 = .ok (.iconst 1, 1) := by decide +kernel
theorem ld_513 : decode code 513 = .ok (.iadd, 1) := by decide +kernel
theorem ld_514 : decode code 514 = .ok (.iaload, 1) := by decide +kernel
theorem ld_515 : decode code 515 = .ok (.aload_n 0, 1) := by decide +kernel
theorem ld_516 : decode code 516 = .ok (.iload_n 3, 1) := by decide +kernel
theorem ld_517 : decode code 517 = .ok (.iconst 2, 1) := by decide +kernel
theorem ld_518 : decode code 518 = .ok (.iadd, 1) := by decide +kernel
theorem ld_519 : decode code 519 = .ok (.iaload, 1) := by decide +kernel
theorem ld_520 : decode code 520 = .ok (.invokevirtual 70, 3) := by decide +kernel
theorem ld_523 : decode code 523 = .ok (.aload_n 2, 1) := by decide +kernel
theorem ld_524 : decode code 524 = .ok (.aload_n 0, 1) := by decide +kernel
theorem ld_525 : decode code 525 = .ok (.iload_n 3, 1) := by decide +kernel
theorem ld_526 : decode code 526 = .ok (.iconst 1, 1) := by decide +kernel
theorem ld_527 : decode code 527 = .ok (.iadd, 1) := by decide +kernel
theorem ld_528 : decode code 528 = .ok (.iaload, 1) := by decide +kernel
theorem ld_529 : decode code 529 = .ok (.aload_n 0, 1) := by decide +kernel
theorem ld_530 : decode code 530 = .ok (.iload_n 3, 1) := by decide +kernel
theorem ld_531 : decode code 531 = .ok (.iconst 2, 1) := by decide +kernel
theorem ld_532 : decode code 532 = .ok (.iadd, 1) := by decide +kernel
theorem ld_533 : decode code 533 = .ok (.iaload, 1) := by decide +kernel
theorem ld_534 : decode code 534 = .ok (.invokevirtual 73, 3) := by decide +kernel
theorem ld_537 : decode code 537 = .ok (.if_icmp .eq 347, 3) := by decide +kernel
theorem ld_540 : decode code 540 = .ok (.iconst 0, 1) := by decide +kernel
theorem ld_541 : decode code 541 = .ok (.ireturn, 1) := by decide +kernel
theorem ld_542 : decode code 542 = .ok (.aload_n 1, 1) := by decide +kernel
theorem ld_543 : decode code 543 = .ok (.invokevirtual 74, 3) := by decide +kernel
theorem ld_546 : decode code 546 = .ok (.aload_n 2, 1) := by decide +kernel
theorem ld_547 : decode code 547 = .ok (.invokevirtual 77, 3) := by decide +kernel
theorem ld_550 : decode code 550 = .ok (.if_icmp .eq 334, 3) := by decide +kernel
theorem ld_553 : decode code 553 = .ok (.iconst 0, 1) := by decide +kernel
theorem ld_554 : decode code 554 = .ok (.ireturn, 1) := by decide +kernel
theorem ld_555 : decode code 555 = .ok (.aload_n 1, 1) := by decide +kernel
theorem ld_556 : decode code 556 = .ok (.aload_n 0, 1) := by decide +kernel
theorem ld_557 : decode code 557 = .ok (.iload_n 3, 1) := by decide +kernel
theorem ld_558 : decode code 558 = .ok (.iconst 1, 1) := by decide +kernel
theorem ld_559 : decode code 559 = .ok (.iadd, 1) := by decide +kernel
theorem ld_560 : decode code 560 = .ok (.iaload, 1) := by decide +kernel
theorem ld_561 : decode code 561 = .ok (.aload_n 0, 1) := by decide +kernel
theorem ld_562 : decode code 562 = .ok (.iload_n 3, 1) := by decide +kernel
theorem ld_563 : decode code 563 = .ok (.iconst 2, 1) := by decide +kernel
theorem ld_564 : decode code 564 = .ok (.iadd, 1) := by decide +kernel
theorem ld_565 : decode code 565 = .ok (.iaload, 1) := by decide +kernel
theorem ld_566 : decode code 566 = .ok (.invokevirtual 78, 3) := by decide +kernel
theorem ld_569 : decode code 569 = .ok (.aload_n 2, 1) := by decide +kernel
theorem ld_570 : decode code 570 = .ok (.aload_n 0, 1) := by decide +kernel
theorem ld_571 : decode code 571 = .ok (.iload_n 3, 1) := by decide +kernel
theorem ld_572 : decode code 572 = .ok (.iconst 1, 1) := by decide +kernel
theorem ld_573 : decode code 573 = .ok (.iadd, 1) := by decide +kernel
theorem ld_574 : decode code 574 = .ok (.iaload, 1) := by decide +kernel
theorem ld_575 : decode code 575 = .ok (.aload_n 0, 1) := by decide +kernel
theorem ld_576 : decode code 576 = .ok (.iload_n 3, 1) := by decide +kernel
theorem ld_577 : decode code 577 = .ok (.iconst 2, 1) := by decide +kernel
theorem ld_578 : decode code 578 = .ok (.iadd, 1) := by decide +kernel
theorem ld_579 : decode code 579 = .ok (.iaload, 1) := by decide +kernel
theorem ld_580 : decode code 580 = .ok (.invokevirtual 81, 3) := by decide +kernel
theorem ld_583 : decode code 583 = .ok (.if_icmp .eq 301, 3) := by decide +kernel
theorem ld_586 : decode code 586 = .ok (.iconst 0, 1) := by decide +kernel
theorem ld_587 : decode code 587 = .ok (.ireturn, 1) := by decide +kernel
theorem ld_588 : decode code 588 = .ok (.aload_n 1, 1) := by decide +kernel
theorem ld_589 : decode code 589 = .ok (.aload_n 0, 1) := by decide +kernel
theorem ld_590 : decode code 590 = .ok (.iload_n 3, 1) := by decide +kernel
theorem ld_591 : decode code 591 = .ok (.iconst 1, 1) := by decide +kernel
theorem ld_592 : decode code 592 = .ok (.iadd, 1) := by decide +kernel
theorem ld_593 : decode code 593 = .ok (.iaload, 1) := by decide +kernel
theorem ld_594 : decode code 594 = .ok (.invokevirtual 82, 3) := by decide +kernel
theorem ld_597 : decode code 597 = .ok (.aload_n 2, 1) := by decide +kernel
theorem ld_598 : decode code 598 = .ok (.aload_n 0, 1) := by decide +kernel
theorem ld_599 : decode code 599 = .ok (.iload_n 3, 1) := by decide +kernel
theorem ld_600 : decode code 600 = .ok (.iconst 1, 1) := by decide +kernel
theorem ld_601 : decode code 601 = .ok (.iadd, 1) := by decide +kernel
theorem ld_602 : decode code 602 = .ok (.iaload, 1) := by decide +kernel
theorem ld_603 : decode code 603 = .ok (.invokevirtual 85, 3) := by decide +kernel
theorem ld_606 : decode code 606 = .ok (.if_icmp .eq 278, 3) := by decide +kernel
theorem ld_609 : decode code 609 = .ok (.iconst 0, 1) := by decide +kernel
theorem ld_610 : decode code 610 = .ok (.ireturn, 1) := by decide +kernel
theorem ld_611 : decode code 611 = .ok (.aload_n 1, 1) := by decide +kernel
theorem ld_612 : decode code 612 = .ok (.invokevirtual 86, 3) := by decide +kernel
theorem ld_615 : decode code 615 = .ok (.aload_n 2, 1) := by decide +kernel
theorem ld_616 : decode code 616 = .ok (.invokevirtual 89, 3) := by decide +kernel
theorem ld_619 : decode code 619 = .ok (.if_icmp .eq 265, 3) := by decide +kernel
theorem ld_622 : decode code 622 = .ok (.iconst 0, 1) := by decide +kernel
theorem ld_623 : decode code 623 = .ok (.ireturn, 1) := by decide +kernel
theorem ld_624 : decode code 624 = .ok (.aload_n 1, 1) := by decide +kernel
theorem ld_625 : decode code 625 = .ok (.aload_n 0, 1) := by decide +kernel
theorem ld_626 : decode code 626 = .ok (.iload_n 3, 1) := by decide +kernel
theorem ld_627 : decode code 627 = .ok (.iconst 1, 1) := by decide +kernel
theorem ld_628 : decode code 628 = .ok (.iadd, 1) := by decide +kernel
theorem ld_629 : decode code 629 = .ok (.iaload, 1) := by decide +kernel
theorem ld_630 : decode code 630 = .ok (.invokevirtual 90, 3) := by decide +kernel
theorem ld_633 : decode code 633 = .ok (.aload_n 2, 1) := by decide +kernel
theorem ld_634 : decode code 634 = .ok (.aload_n 0, 1) := by decide +kernel
theorem ld_635 : decode code 635 = .ok (.iload_n 3, 1) := by decide +kernel
theorem ld_636 : decode code 636 = .ok (.iconst 1, 1) := by decide +kernel
theorem ld_637 : decode code 637 = .ok (.iadd, 1) := by decide +kernel
theorem ld_638 : decode code 638 = .ok (.iaload, 1) := by decide +kernel
theorem ld_639 : decode code 639 = .ok (.invokevirtual 93, 3) := by decide +kernel
theorem ld_642 : decode code 642 = .ok (.if_icmp .eq 242, 3) := by decide +kernel
theorem ld_645 : decode code 645 = .ok (.iconst 0, 1) := by decide +kernel
theorem ld_646 : decode code 646 = .ok (.ireturn, 1) := by decide +kernel
theorem ld_647 : decode code 647 = .ok (.aload_n 1, 1) := by decide +kernel
theorem ld_648 : decode code 648 = .ok (.aload_n 0, 1) := by decide +kernel
theorem ld_649 : decode code 649 = .ok (.iload_n 3, 1) := by decide +kernel
theorem ld_650 : decode code 650 = .ok (.iconst 1, 1) := by decide +kernel
theorem ld_651 : decode code 651 = .ok (.iadd, 1) := by decide +kernel
theorem ld_652 : decode code 652 = .ok (.iaload, 1) := by decide +kernel
theorem ld_653 : decode code 653 = .ok (.aload_n 0, 1) := by decide +kernel
theorem ld_654 : decode code 654 = .ok (.iload_n 3, 1) := by decide +kernel
theorem ld_655 : decode code 655 = .ok (.iconst 2, 1) := by decide +kernel
theorem ld_656 : decode code 656 = .ok (.iadd, 1) := by decide +kernel
theorem ld_657 : decode code 657 = .ok (.iaload, 1) := by decide +kernel
theorem ld_658 : decode code 658 = .ok (.invokevirtual 94, 3) := by decide +kernel
theorem ld_661 : decode code 661 = .ok (.aload_n 2, 1) := by decide +kernel
theorem ld_662 : decode code 662 = .ok (.aload_n 0, 1) := by decide +kernel
theorem ld_663 : decode code 663 = .ok (.iload_n 3, 1) := by decide +kernel
theorem ld_664 : decode code 664 = .ok (.iconst 1, 1) := by decide +kernel
theorem ld_665 : decode code 665 = .ok (.iadd, 1) := by decide +kernel
theorem ld_666 : decode code 666 = .ok (.iaload, 1) := by decide +kernel
theorem ld_667 : decode code 667 = .ok (.aload_n 0, 1) := by decide +kernel
theorem ld_668 : decode code 668 = .ok (.iload_n 3, 1) := by decide +kernel
theorem ld_669 : decode code 669 = .ok (.iconst 2, 1) := by decide +kernel
theorem ld_670 : decode code 670 = .ok (.iadd, 1) := by decide +kernel
theorem ld_671 : decode code 671 = .ok (.iaload, 1) := by decide +kernel
theorem ld_672 : decode code 672 = .ok (.invokevirtual 97, 3) := by decide +kernel
theorem ld_675 : decode code 675 = .ok (.if_icmp .eq 209, 3) := by decide +kernel
theorem ld_678 : decode code 678 = .ok (.iconst 0, 1) := by decide +kernel
theorem ld_679 : decode code 679 = .ok (.ireturn, 1) := by decide +kernel
theorem ld_680 : decode code 680 = .ok (.aload_n 1, 1) := by decide +kernel
theorem ld_681 : decode code 681 = .ok (.aload_n 0, 1) := by decide +kernel
theorem ld_682 : decode code 682 = .ok (.iload_n 3, 1) := by decide +kernel
theorem ld_683 : decode code 683 = .ok (.iconst 1, 1) := by decide +kernel
theorem ld_684 : decode code 684 = .ok (.iadd, 1) := by decide +kernel
theorem ld_685 : decode code 685 = .ok (.iaload, 1) := by decide +kernel
theorem ld_686 : decode code 686 = .ok (.invokevirtual 98, 3) := by decide +kernel
theorem ld_689 : decode code 689 = .ok (.aload_n 2, 1) := by decide +kernel
theorem ld_690 : decode code 690 = .ok (.aload_n 0, 1) := by decide +kernel
theorem ld_691 : decode code 691 = .ok (.iload_n 3, 1) := by decide +kernel
theorem ld_692 : decode code 692 = .ok (.iconst 1, 1) := by decide +kernel
theorem ld_693 : decode code 693 = .ok (.iadd, 1) := by decide +kernel
theorem ld_694 : decode code 694 = .ok (.iaload, 1) := by decide +kernel
theorem ld_695 : decode code 695 = .ok (.invokevirtual 101, 3) := by decide +kernel
theorem ld_698 : decode code 698 = .ok (.if_icmp .eq 186, 3) := by decide +kernel
theorem ld_701 : decode code 701 = .ok (.iconst 0, 1) := by decide +kernel
theorem ld_702 : decode code 702 = .ok (.ireturn, 1) := by decide +kernel
theorem ld_703 : decode code 703 = .ok (.aload_n 1, 1) := by decide +kernel
theorem ld_704 : decode code 704 = .ok (.aload_n 0, 1) := by decide +kernel
theorem ld_705 : decode code 705 = .ok (.iload_n 3, 1) := by decide +kernel
theorem ld_706 : decode code 706 = .ok (.iconst 1, 1) := by decide +kernel
theorem ld_707 : decode code 707 = .ok (.iadd, 1) := by decide +kernel
theorem ld_708 : decode code 708 = .ok (.iaload, 1) := by decide +kernel
theorem ld_709 : decode code 709 = .ok (.invokevirtual 102, 3) := by decide +kernel
theorem ld_712 : decode code 712 = .ok (.aload_n 2, 1) := by decide +kernel
theorem ld_713 : decode code 713 = .ok (.aload_n 0, 1) := by decide +kernel
theorem ld_714 : decode code 714 = .ok (.iload_n 3, 1) := by decide +kernel
theorem ld_715 : decode code 715 = .ok (.iconst 1, 1) := by decide +kernel
theorem ld_716 : decode code 716 = .ok (.iadd, 1) := by decide +kernel
theorem ld_717 : decode code 717 = .ok (.iaload, 1) := by decide +kernel
theorem ld_718 : decode code 718 = .ok (.invokevirtual 105, 3) := by decide +kernel
theorem ld_721 : decode code 721 = .ok (.if_icmp .eq 163, 3) := by decide +kernel
theorem ld_724 : decode code 724 = .ok (.iconst 0, 1) := by decide +kernel
theorem ld_725 : decode code 725 = .ok (.ireturn, 1) := by decide +kernel
theorem ld_726 : decode code 726 = .ok (.aload_n 1, 1) := by decide +kernel
theorem ld_727 : decode code 727 = .ok (.invokevirtual 106, 3) := by decide +kernel
theorem ld_730 : decode code 730 = .ok (.aload_n 2, 1) := by decide +kernel
theorem ld_731 : decode code 731 = .ok (.invokevirtual 109, 3) := by decide +kernel
theorem ld_734 : decode code 734 = .ok (.if_icmp .eq 150, 3) := by decide +kernel
theorem ld_737 : decode code 737 = .ok (.iconst 0, 1) := by decide +kernel
theorem ld_738 : decode code 738 = .ok (.ireturn, 1) := by decide +kernel
theorem ld_739 : decode code 739 = .ok (.aload_n 1, 1) := by decide +kernel
theorem ld_740 : decode code 740 = .ok (.aload_n 0, 1) := by decide +kernel
theorem ld_741 : decode code 741 = .ok (.iload_n 3, 1) := by decide +kernel
theorem ld_742 : decode code 742 = .ok (.iconst 1, 1) := by decide +kernel
theorem ld_743 : decode code 743 = .ok (.iadd, 1) := by decide +kernel
theorem ld_744 : decode code 744 = .ok (.iaload, 1) := by decide +kernel
theorem ld_745 : decode code 745 = .ok (.aload_n 0, 1) := by decide +kernel
theorem ld_746 : decode code 746 = .ok (.iload_n 3, 1) := by decide +kernel
theorem ld_747 : decode code 747 = .ok (.iconst 2, 1) := by decide +kernel
theorem ld_748 : decode code 748 = .ok (.iadd, 1) := by decide +kernel
theorem ld_749 : decode code 749 = .ok (.iaload, 1) := by decide +kernel
theorem ld_750 : decode code 750 = .ok (.invokevirtual 110, 3) := by decide +kernel
theorem ld_753 : decode code 753 = .ok (.aload_n 2, 1) := by decide +kernel
theorem ld_754 : decode code 754 = .ok (.aload_n 0, 1) := by decide +kernel
theorem ld_755 : decode code 755 = .ok (.iload_n 3, 1) := by decide +kernel
theorem ld_756 : decode code 756 = .ok (.iconst 1, 1) := by decide +kernel
theorem ld_757 : decode code 757 = .ok (.iadd, 1) := by decide +kernel
theorem ld_758 : decode code 758 = .ok (.iaload, 1) := by decide +kernel
theorem ld_759 : decode code 759 = .ok (.aload_n 0, 1) := by decide +kernel
theorem ld_760 : decode code 760 = .ok (.iload_n 3, 1) := by decide +kernel
theorem ld_761 : decode code 761 = .ok (.iconst 2, 1) := by decide +kernel
theorem ld_762 : decode code 762 = .ok (.iadd, 1) := by decide +kernel
theorem ld_763 : decode code 763 = .ok (.iaload, 1) := by decide +kernel
theorem ld_764 : decode code 764 = .ok (.invokevirtual 113, 3) := by decide +kernel
theorem ld_767 : decode code 767 = .ok (.if_icmp .eq 117, 3) := by decide +kernel
theorem ld_770 : decode code 770 = .ok (.iconst 0, 1) := by decide +kernel
theorem ld_771 : decode code 771 = .ok (.ireturn, 1) := by decide +kernel
theorem ld_772 : decode code 772 = .ok (.aload_n 1, 1) := by decide +kernel
theorem ld_773 : decode code 773 = .ok (.aload_n 0, 1) := by decide +kernel
theorem ld_774 : decode code 774 = .ok (.iload_n 3, 1) := by decide +kernel
theorem ld_775 : decode code 775 = .ok (.iconst 1, 1) := by decide +kernel
theorem ld_776 : decode code 776 = .ok (.iadd, 1) := by decide +kernel
theorem ld_777 : decode code 777 = .ok (.iaload, 1) := by decide +kernel
theorem ld_778 : decode code 778 = .ok (.aload_n 0, 1) := by decide +kernel
theorem ld_779 : decode code 779 = .ok (.iload_n 3, 1) := by decide +kernel
theorem ld_780 : decode code 780 = .ok (.iconst 2, 1) := by decide +kernel
theorem ld_781 : decode code 781 = .ok (.iadd, 1) := by decide +kernel
theorem ld_782 : decode code 782 = .ok (.iaload, 1) := by decide +kernel
theorem ld_783 : decode code 783 = .ok (.aload_n 0, 1) := by decide +kernel
theorem ld_784 : decode code 784 = .ok (.iload_n 3, 1) := by decide +kernel
theorem ld_785 : decode code 785 = .ok (.iconst 3, 1) := by decide +kernel
theorem ld_786 : decode code 786 = .ok (.iadd, 1) := by decide +kernel
theorem ld_787 : decode code 787 = .ok (.iaload, 1) := by decide +kernel
theorem ld_788 : decode code 788 = .ok (.invokevirtual 114, 3) := by decide +kernel
theorem ld_791 : decode code 791 = .ok (.aload_n 2, 1) := by decide +kernel
theorem ld_792 : decode code 792 = .ok (.aload_n 0, 1) := by decide +kernel
theorem ld_793 : decode code 793 = .ok (.iload_n 3, 1) := by decide +kernel
theorem ld_794 : decode code 794 = .ok (.iconst 1, 1) := by decide +kernel
theorem ld_795 : decode code 795 = .ok (.iadd, 1) := by decide +kernel
theorem ld_796 : decode code 796 = .ok (.iaload, 1) := by decide +kernel
theorem ld_797 : decode code 797 = .ok (.aload_n 0, 1) := by decide +kernel
theorem ld_798 : decode code 798 = .ok (.iload_n 3, 1) := by decide +kernel
theorem ld_799 : decode code 799 = .ok (.iconst 2, 1) := by decide +kernel
theorem ld_800 : decode code 800 = .ok (.iadd, 1) := by decide +kernel
theorem ld_801 : decode code 801 = .ok (.iaload, 1) := by decide +kernel
theorem ld_802 : decode code 802 = .ok (.aload_n 0, 1) := by decide +kernel
theorem ld_803 : decode code 803 = .ok (.iload_n 3, 1) := by decide +kernel
theorem ld_804 : decode code 804 = .ok (.iconst 3, 1) := by decide +kernel
theorem ld_805 : decode code 805 = .ok (.iadd, 1) := by decide +kernel
theorem ld_806 : decode code 806 = .ok (.iaload, 1) := by decide +kernel
theorem ld_807 : decode code 807 = .ok (.invokevirtual 117, 3) := by decide +kernel
theorem ld_810 : decode code 810 = .ok (.if_icmp .eq 74, 3) := by decide +kernel
theorem ld_813 : decode code 813 = .ok (.iconst 0, 1) := by decide +kernel
theorem ld_814 : decode code 814 = .ok (.ireturn, 1) := by decide +kernel
theorem ld_815 : decode code 815 = .ok (.aload_n 1, 1) := by decide +kernel
theorem ld_816 : decode code 816 = .ok (.aload_n 0, 1) := by decide +kernel
theorem ld_817 : decode code 817 = .ok (.iload_n 3, 1) := by decide +kernel
theorem ld_818 : decode code 818 = .ok (.iconst 1, 1) := by decide +kernel
theorem ld_819 : decode code 819 = .ok (.iadd, 1) := by decide +kernel
theorem ld_820 : decode code 820 = .ok (.iaload, 1) := by decide +kernel
theorem ld_821 : decode code 821 = .ok (.aload_n 0, 1) := by decide +kernel
theorem ld_822 : decode code 822 = .ok (.iload_n 3, 1) := by decide +kernel
theorem ld_823 : decode code 823 = .ok (.iconst 2, 1) := by decide +kernel
theorem ld_824 : decode code 824 = .ok (.iadd, 1) := by decide +kernel
theorem ld_825 : decode code 825 = .ok (.iaload, 1) := by decide +kernel
theorem ld_826 : decode code 826 = .ok (.invokevirtual 118, 3) := by decide +kernel
theorem ld_829 : decode code 829 = .ok (.aload_n 2, 1) := by decide +kernel
theorem ld_830 : decode code 830 = .ok (.aload_n 0, 1) := by decide +kernel
theorem ld_831 : decode code 831 = .ok (.iload_n 3, 1) := by decide +kernel
theorem ld_832 : decode code 832 = .ok (.iconst 1, 1) := by decide +kernel
theorem ld_833 : decode code 833 = .ok (.iadd, 1) := by decide +kernel
theorem ld_834 : decode code 834 = .ok (.iaload, 1) := by decide +kernel
theorem ld_835 : decode code 835 = .ok (.aload_n 0, 1) := by decide +kernel
theorem ld_836 : decode code 836 = .ok (.iload_n 3, 1) := by decide +kernel
theorem ld_837 : decode code 837 = .ok (.iconst 2, 1) := by decide +kernel
theorem ld_838 : decode code 838 = .ok (.iadd, 1) := by decide +kernel
theorem ld_839 : decode code 839 = .ok (.iaload, 1) := by decide +kernel
theorem ld_840 : decode code 840 = .ok (.invokevirtual 121, 3) := by decide +kernel
theorem ld_843 : decode code 843 = .ok (.if_icmp .eq 41, 3) := by decide +kernel
theorem ld_846 : decode code 846 = .ok (.iconst 0, 1) := by decide +kernel
theorem ld_847 : decode code 847 = .ok (.ireturn, 1) := by decide +kernel
theorem ld_848 : decode code 848 = .ok (.aload_n 1, 1) := by decide +kernel
theorem ld_849 : decode code 849 = .ok (.invokevirtual 122, 3) := by decide +kernel
theorem ld_852 : decode code 852 = .ok (.aload_n 2, 1) := by decide +kernel
theorem ld_853 : decode code 853 = .ok (.invokevirtual 125, 3) := by decide +kernel
theorem ld_856 : decode code 856 = .ok (.if_icmp .eq 28, 3) := by decide +kernel
theorem ld_859 : decode code 859 = .ok (.iconst 0, 1) := by decide +kernel
theorem ld_860 : decode code 860 = .ok (.ireturn, 1) := by decide +kernel
theorem ld_861 : decode code 861 = .ok (.aload_n 1, 1) := by decide +kernel
theorem ld_862 : decode code 862 = .ok (.aload_n 0, 1) := by decide +kernel
theorem ld_863 : decode code 863 = .ok (.iload_n 3, 1) := by decide +kernel
theorem ld_864 : decode code 864 = .ok (.iconst 1, 1) := by decide +kernel
theorem ld_865 : decode code 865 = .ok (.iadd, 1) := by decide +kernel
theorem ld_866 : decode code 866 = .ok (.iaload, 1) := by decide +kernel
theorem ld_867 : decode code 867 = .ok (.invokevirtual 126, 3) := by decide +kernel
theorem ld_870 : decode code 870 = .ok (.aload_n 2, 1) := by decide +kernel
theorem ld_871 : decode code 871 = .ok (.aload_n 0, 1) := by decide +kernel
theorem ld_872 : decode code 872 = .ok (.iload_n 3, 1) := by decide +kernel
theorem ld_873 : decode code 873 = .ok (.iconst 1, 1) := by decide +kernel
theorem ld_874 : decode code 874 = .ok (.iadd, 1) := by decide +kernel
theorem ld_875 : decode code 875 = .ok (.iaload, 1) := by decide +kernel
theorem ld_876 : decode code 876 = .ok (.invokevirtual 129, 3) := by decide +kernel
theorem ld_879 : decode code 879 = .ok (.if_icmp .eq 5, 3) := by decide +kernel
theorem ld_882 : decode code 882 = .ok (.iconst 0, 1) := by decide +kernel
theorem ld_883 : decode code 883 = .ok (.ireturn, 1) := by decide +kernel
theorem ld_884 : decode code 884 = .ok (.iinc 3 6, 3) := by decide +kernel
theorem ld_887 : decode code 887 = .ok (.goto (-869), 3) := by decide +kernel
theorem ld_890 : decode code 890 = .ok (.iconst 1, 1) := by decide +kernel
theorem ld_891 : decode code 891 = .ok (.ireturn, 1) := by decide +kernel
