theorem d_L_law_469 : decode code 469 = .ok (.iadd, 1) := by decide +kernel
theorem d_L_law_470 : decode code 470 = .ok (.iaload, 1) := by decide +kernel
theorem d_L_law_471 : decode code 471 = .ok (.aload_n 0, 1) := by decide +kernel
theorem d_L_law_472 : decode code 472 = .ok (.iload 4, 2) := by decide +kernel
theorem d_L_law_474 : decode code 474 = .ok (.iconst 2, 1) := by decide +kernel
theorem d_L_law_475 : decode code 475 = .ok (.iadd, 1) := by decide +kernel
theorem d_L_law_476 : decode code 476 = .ok (.iaload, 1) := by decide +kernel
theorem d_L_law_477 : decode code 477 = .ok (.invokevirtual 112, 3) := by decide +kernel
theorem d_L_law_480 : decode code 480 = .ok (.lstore 6, 2) := by decide +kernel
theorem d_L_law_482 : decode code 482 = .ok (.aload_n 2, 1) := by decide +kernel
theorem d_L_law_483 : decode code 483 = .ok (.invokevirtual 90, 3) := by decide +kernel
theorem d_L_law_486 : decode code 486 = .ok (.iload 5, 2) := by decide +kernel
theorem d_L_law_488 : decode code 488 = .ok (.if_icmp .eq 5, 3) := by decide +kernel
theorem d_L_law_491 : decode code 491 = .ok (.iconst 0, 1) := by decide +kernel
theorem d_L_law_492 : decode code 492 = .ok (.ireturn, 1) := by decide +kernel
theorem d_L_law_493 : decode code 493 = .ok (.iload 5, 2) := by decide +kernel
theorem d_L_law_495 : decode code 495 = .ok (.ifCond .ne 14, 3) := by decide +kernel
theorem d_L_law_498 : decode code 498 = .ok (.aload_n 3, 1) := by decide +kernel
theorem d_L_law_499 : decode code 499 = .ok (.iconst 0, 1) := by decide +kernel
theorem d_L_law_500 : decode code 500 = .ok (.laload, 1) := by decide +kernel
theorem d_L_law_501 : decode code 501 = .ok (.lload 6, 2) := by decide +kernel
theorem d_L_law_503 : decode code 503 = .ok (.lcmp, 1) := by decide +kernel
theorem d_L_law_504 : decode code 504 = .ok (.ifCond .eq 5, 3) := by decide +kernel
theorem d_L_law_507 : decode code 507 = .ok (.iconst 0, 1) := by decide +kernel
theorem d_L_law_508 : decode code 508 = .ok (.ireturn, 1) := by decide +kernel
theorem d_L_law_509 : decode code 509 = .ok (.goto 857, 3) := by decide +kernel
theorem d_L_law_512 : decode code 512 = .ok (.aload_n 1, 1) := by decide +kernel
theorem d_L_law_513 : decode code 513 = .ok (.aload_n 0, 1) := by decide +kernel
theorem d_L_law_514 : decode code 514 = .ok (.iload 4, 2) := by decide +kernel
theorem d_L_law_516 : decode code 516 = .ok (.iconst 1, 1) := by decide +kernel
theorem d_L_law_517 : decode code 517 = .ok (.iadd, 1) := by decide +kernel
theorem d_L_law_518 : decode code 518 = .ok (.iaload, 1) := by decide +kernel
theorem d_L_law_519 : decode code 519 = .ok (.aload_n 3, 1) := by decide +kernel
theorem d_L_law_520 : decode code 520 = .ok (.invokestatic 113, 3) := by decide +kernel
theorem d_L_law_523 : decode code 523 = .ok (.istore 5, 2) := by decide +kernel
theorem d_L_law_525 : decode code 525 = .ok (.aload_n 2, 1) := by decide +kernel
theorem d_L_law_526 : decode code 526 = .ok (.aload_n 0, 1) := by decide +kernel
theorem d_L_law_527 : decode code 527 = .ok (.iload 4, 2) := by decide +kernel
theorem d_L_law_529 : decode code 529 = .ok (.iconst 1, 1) := by decide +kernel
theorem d_L_law_530 : decode code 530 = .ok (.iadd, 1) := by decide +kernel
theorem d_L_law_531 : decode code 531 = .ok (.iaload, 1) := by decide +kernel
theorem d_L_law_532 : decode code 532 = .ok (.invokevirtual 115, 3) := by decide +kernel
theorem d_L_law_535 : decode code 535 = .ok (.lstore 6, 2) := by decide +kernel
theorem d_L_law_537 : decode code 537 = .ok (.aload_n 2, 1) := by decide +kernel
theorem d_L_law_538 : decode code 538 = .ok (.invokevirtual 90, 3) := by decide +kernel
theorem d_L_law_541 : decode code 541 = .ok (.iload 5, 2) := by decide +kernel
theorem d_L_law_543 : decode code 543 = .ok (.if_icmp .eq 5, 3) := by decide +kernel
theorem d_L_law_546 : decode code 546 = .ok (.iconst 0, 1) := by decide +kernel
theorem d_L_law_547 : decode code 547 = .ok (.ireturn, 1) := by decide +kernel
theorem d_L_law_548 : decode code 548 = .ok (.iload 5, 2) := by decide +kernel
theorem d_L_law_550 : decode code 550 = .ok (.ifCond .ne 14, 3) := by decide +kernel
theorem d_L_law_553 : decode code 553 = .ok (.aload_n 3, 1) := by decide +kernel
theorem d_L_law_554 : decode code 554 = .ok (.iconst 0, 1) := by decide +kernel
theorem d_L_law_555 : decode code 555 = .ok (.laload, 1) := by decide +kernel
theorem d_L_law_556 : decode code 556 = .ok (.lload 6, 2) := by decide +kernel
theorem d_L_law_558 : decode code 558 = .ok (.lcmp, 1) := by decide +kernel
theorem d_L_law_559 : decode code 559 = .ok (.ifCond .eq 5, 3) := by decide +kernel
theorem d_L_law_562 : decode code 562 = .ok (.iconst 0, 1) := by decide +kernel
theorem d_L_law_563 : decode code 563 = .ok (.ireturn, 1) := by decide +kernel
theorem d_L_law_564 : decode code 564 = .ok (.goto 802, 3) := by decide +kernel
theorem d_L_law_567 : decode code 567 = .ok (.aload_n 1, 1) := by decide +kernel
theorem d_L_law_568 : decode code 568 = .ok (.aload_n 0, 1) := by decide +kernel
theorem d_L_law_569 : decode code 569 = .ok (.iload 4, 2) := by decide +kernel
theorem d_L_law_571 : decode code 571 = .ok (.iconst 1, 1) := by decide +kernel
theorem d_L_law_572 : decode code 572 = .ok (.iadd, 1) := by decide +kernel
theorem d_L_law_573 : decode code 573 = .ok (.iaload, 1) := by decide +kernel
theorem d_L_law_574 : decode code 574 = .ok (.aload_n 0, 1) := by decide +kernel
theorem d_L_law_575 : decode code 575 = .ok (.iload 4, 2) := by decide +kernel
theorem d_L_law_577 : decode code 577 = .ok (.iconst 2, 1) := by decide +kernel
theorem d_L_law_578 : decode code 578 = .ok (.iadd, 1) := by decide +kernel
theorem d_L_law_579 : decode code 579 = .ok (.iaload, 1) := by decide +kernel
theorem d_L_law_580 : decode code 580 = .ok (.aload_n 3, 1) := by decide +kernel
theorem d_L_law_581 : decode code 581 = .ok (.invokestatic 116, 3) := by decide +kernel
theorem d_L_law_584 : decode code 584 = .ok (.istore 5, 2) := by decide +kernel
theorem d_L_law_586 : decode code 586 = .ok (.aload_n 2, 1) := by decide +kernel
theorem d_L_law_587 : decode code 587 = .ok (.aload_n 0, 1) := by decide +kernel
theorem d_L_law_588 : decode code 588 = .ok (.iload 4, 2) := by decide +kernel
theorem d_L_law_590 : decode code 590 = .ok (.iconst 1, 1) := by decide +kernel
theorem d_L_law_591 : decode code 591 = .ok (.iadd, 1) := by decide +kernel
theorem d_L_law_592 : decode code 592 = .ok (.iaload, 1) := by decide +kernel
theorem d_L_law_593 : decode code 593 = .ok (.aload_n 0, 1) := by decide +kernel
theorem d_L_law_594 : decode code 594 = .ok (.iload 4, 2) := by decide +kernel
theorem d_L_law_596 : decode code 596 = .ok (.iconst 2, 1) := by decide +kernel
theorem d_L_law_597 : decode code 597 = .ok (.iadd, 1) := by decide +kernel
theorem d_L_law_598 : decode code 598 = .ok (.iaload, 1) := by decide +kernel
theorem d_L_law_599 : decode code 599 = .ok (.invokevirtual 118, 3) := by decide +kernel
theorem d_L_law_602 : decode code 602 = .ok (.lstore 6, 2) := by decide +kernel
theorem d_L_law_604 : decode code 604 = .ok (.aload_n 2, 1) := by decide +kernel
theorem d_L_law_605 : decode code 605 = .ok (.invokevirtual 90, 3) := by decide +kernel
theorem d_L_law_608 : decode code 608 = .ok (.iload 5, 2) := by decide +kernel
theorem d_L_law_610 : decode code 610 = .ok (.if_icmp .eq 5, 3) := by decide +kernel
theorem d_L_law_613 : decode code 613 = .ok (.iconst 0, 1) := by decide +kernel
theorem d_L_law_614 : decode code 614 = .ok (.ireturn, 1) := by decide +kernel
theorem d_L_law_615 : decode code 615 = .ok (.iload 5, 2) := by decide +kernel
theorem d_L_law_617 : decode code 617 = .ok (.ifCond .ne 14, 3) := by decide +kernel
theorem d_L_law_620 : decode code 620 = .ok (.aload_n 3, 1) := by decide +kernel
theorem d_L_law_621 : decode code 621 = .ok (.iconst 0, 1) := by decide +kernel
theorem d_L_law_622 : decode code 622 = .ok (.laload, 1) := by decide +kernel
theorem d_L_law_623 : decode code 623 = .ok (.lload 6, 2) := by decide +kernel
theorem d_L_law_625 : decode code 625 = .ok (.lcmp, 1) := by decide +kernel
theorem d_L_law_626 : decode code 626 = .ok (.ifCond .eq 5, 3) := by decide +kernel
theorem d_L_law_629 : decode code 629 = .ok (.iconst 0, 1) := by decide +kernel
theorem d_L_law_630 : decode code 630 = .ok (.ireturn, 1) := by decide +kernel
theorem d_L_law_631 : decode code 631 = .ok (.goto 735, 3) := by decide +kernel
theorem d_L_law_634 : decode code 634 = .ok (.aload_n 1, 1) := by decide +kernel
theorem d_L_law_635 : decode code 635 = .ok (.aload_n 0, 1) := by decide +kernel
theorem d_L_law_636 : decode code 636 = .ok (.iload 4, 2) := by decide +kernel
theorem d_L_law_638 : decode code 638 = .ok (.iconst 1, 1) := by decide +kernel
theorem d_L_law_639 : decode code 639 = .ok (.iadd, 1) := by decide +kernel
theorem d_L_law_640 : decode code 640 = .ok (.iaload, 1) := by decide +kernel
theorem d_L_law_641 : decode code 641 = .ok (.aload_n 0, 1) := by decide +kernel
theorem d_L_law_642 : decode code 642 = .ok (.iload 4, 2) := by decide +kernel
theorem d_L_law_644 : decode code 644 = .ok (.iconst 2, 1) := by decide +kernel
theorem d_L_law_645 : decode code 645 = .ok (.iadd, 1) := by decide +kernel
theorem d_L_law_646 : decode code 646 = .ok (.iaload, 1) := by decide +kernel
theorem d_L_law_647 : decode code 647 = .ok (.aload_n 3, 1) := by decide +kernel
theorem d_L_law_648 : decode code 648 = .ok (.invokestatic 119, 3) := by decide +kernel
theorem d_L_law_651 : decode code 651 = .ok (.istore 5, 2) := by decide +kernel
theorem d_L_law_653 : decode code 653 = .ok (.aload_n 2, 1) := by decide +kernel
theorem d_L_law_654 : decode code 654 = .ok (.aload_n 0, 1) := by decide +kernel
theorem d_L_law_655 : decode code 655 = .ok (.iload 4, 2) := by decide +kernel
theorem d_L_law_657 : decode code 657 = .ok (.iconst 1, 1) := by decide +kernel
theorem d_L_law_658 : decode code 658 = .ok (.iadd, 1) := by decide +kernel
theorem d_L_law_659 : decode code 659 = .ok (.iaload, 1) := by decide +kernel
theorem d_L_law_660 : decode code 660 = .ok (.aload_n 0, 1) := by decide +kernel
theorem d_L_law_661 : decode code 661 = .ok (.iload 4, 2) := by decide +kernel
theorem d_L_law_663 : decode code 663 = .ok (.iconst 2, 1) := by decide +kernel
theorem d_L_law_664 : decode code 664 = .ok (.iadd, 1) := by decide +kernel
theorem d_L_law_665 : decode code 665 = .ok (.iaload, 1) := by decide +kernel
theorem d_L_law_666 : decode code 666 = .ok (.invokevirtual 121, 3) := by decide +kernel
theorem d_L_law_669 : decode code 669 = .ok (.lstore 6, 2) := by decide +kernel
theorem d_L_law_671 : decode code 671 = .ok (.aload_n 2, 1) := by decide +kernel
theorem d_L_law_672 : decode code 672 = .ok (.invokevirtual 90, 3) := by decide +kernel
theorem d_L_law_675 : decode code 675 = .ok (.iload 5, 2) := by decide +kernel
theorem d_L_law_677 : decode code 677 = .ok (.if_icmp .eq 5, 3) := by decide +kernel
theorem d_L_law_680 : decode code 680 = .ok (.iconst 0, 1) := by decide +kernel
theorem d_L_law_681 : decode code 681 = .ok (.ireturn, 1) := by decide +kernel
theorem d_L_law_682 : decode code 682 = .ok (.iload 5, 2) := by decide +kernel
theorem d_L_law_684 : decode code 684 = .ok (.ifCond .ne 14, 3) := by decide +kernel
theorem d_L_law_687 : decode code 687 = .ok (.aload_n 3, 1) := by decide +kernel
theorem d_L_law_688 : decode code 688 = .ok (.iconst 0, 1) := by decide +kernel
theorem d_L_law_689 : decode code 689 = .ok (.laload, 1) := by decide +kernel
theorem d_L_law_690 : decode code 690 = .ok (.lload 6, 2) := by decide +kernel
theorem d_L_law_692 : decode code 692 = .ok (.lcmp, 1) := by decide +kernel
theorem d_L_law_693 : decode code 693 = .ok (.ifCond .eq 5, 3) := by decide +kernel
theorem d_L_law_696 : decode code 696 = .ok (.iconst 0, 1) := by decide +kernel
theorem d_L_law_697 : decode code 697 = .ok (.ireturn, 1) := by decide +kernel
theorem d_L_law_698 : decode code 698 = .ok (.goto 668, 3) := by decide +kernel
theorem d_L_law_701 : decode code 701 = .ok (.aload_n 1, 1) := by decide +kernel
theorem d_L_law_702 : decode code 702 = .ok (.aload_n 0, 1) := by decide +kernel
theorem d_L_law_703 : decode code 703 = .ok (.iload 4, 2) := by decide +kernel
theorem d_L_law_705 : decode code 705 = .ok (.iconst 1, 1) := by decide +kernel
theorem d_L_law_706 : decode code 706 = .ok (.iadd, 1) := by decide +kernel
theorem d_L_law_707 : decode code 707 = .ok (.iaload, 1) := by decide +kernel
theorem d_L_law_708 : decode code 708 = .ok (.aload_n 3, 1) := by decide +kernel
theorem d_L_law_709 : decode code 709 = .ok (.invokestatic 122, 3) := by decide +kernel
theorem d_L_law_712 : decode code 712 = .ok (.istore 5, 2) := by decide +kernel
theorem d_L_law_714 : decode code 714 = .ok (.aload_n 2, 1) := by decide +kernel
theorem d_L_law_715 : decode code 715 = .ok (.aload_n 0, 1) := by decide +kernel
theorem d_L_law_716 : decode code 716 = .ok (.iload 4, 2) := by decide +kernel
theorem d_L_law_718 : decode code 718 = .ok (.iconst 1, 1) := by decide +kernel
theorem d_L_law_719 : decode code 719 = .ok (.iadd, 1) := by decide +kernel
theorem d_L_law_720 : decode code 720 = .ok (.iaload, 1) := by decide +kernel
theorem d_L_law_721 : decode code 721 = .ok (.invokevirtual 124, 3) := by decide +kernel
theorem d_L_law_724 : decode code 724 = .ok (.lstore 6, 2) := by decide +kernel
theorem d_L_law_726 : decode code 726 = .ok (.aload_n 2, 1) := by decide +kernel
theorem d_L_law_727 : decode code 727 = .ok (.invokevirtual 90, 3) := by decide +kernel
theorem d_L_law_730 : decode code 730 = .ok (.iload 5, 2) := by decide +kernel
theorem d_L_law_732 : decode code 732 = .ok (.if_icmp .eq 5, 3) := by decide +kernel
theorem d_L_law_735 : decode code 735 = .ok (.iconst 0, 1) := by decide +kernel
theorem d_L_law_736 : decode code 736 = .ok (.ireturn, 1) := by decide +kernel
theorem d_L_law_737 : decode code 737 = .ok (.iload 5, 2) := by decide +kernel
theorem d_L_law_739 : decode code 739 = .ok (.ifCond .ne 14, 3) := by decide +kernel
theorem d_L_law_742 : decode code 742 = .ok (.aload_n 3, 1) := by decide +kernel
theorem d_L_law_743 : decode code 743 = .ok (.iconst 0, 1) := by decide +kernel
theorem d_L_law_744 : decode code 744 = .ok (.laload, 1) := by decide +kernel
theorem d_L_law_745 : decode code 745 = .ok (.lload 6, 2) := by decide +kernel
theorem d_L_law_747 : decode code 747 = .ok (.lcmp, 1) := by decide +kernel
theorem d_L_law_748 : decode code 748 = .ok (.ifCond .eq 5, 3) := by decide +kernel
theorem d_L_law_751 : decode code 751 = .ok (.iconst 0, 1) := by decide +kernel
theorem d_L_law_752 : decode code 752 = .ok (.ireturn, 1) := by decide +kernel
theorem d_L_law_753 : decode code 753 = .ok (.goto 613, 3) := by decide +kernel
theorem d_L_law_756 : decode code 756 = .ok (.aload_n 1, 1) := by decide +kernel
theorem d_L_law_757 : decode code 757 = .ok (.aload_n 0, 1) := by decide +kernel
theorem d_L_law_758 : decode code 758 = .ok (.iload 4, 2) := by decide +kernel
theorem d_L_law_760 : decode code 760 = .ok (.iconst 1, 1) := by decide +kernel
theorem d_L_law_761 : decode code 761 = .ok (.iadd, 1) := by decide +kernel
theorem d_L_law_762 : decode code 762 = .ok (.iaload, 1) := by decide +kernel
theorem d_L_law_763 : decode code 763 = .ok (.aload_n 3, 1) := by decide +kernel
theorem d_L_law_764 : decode code 764 = .ok (.invokestatic 125, 3) := by decide +kernel
theorem d_L_law_767 : decode code 767 = .ok (.istore 5, 2) := by decide +kernel
theorem d_L_law_769 : decode code 769 = .ok (.aload_n 2, 1) := by decide +kernel
theorem d_L_law_770 : decode code 770 = .ok (.aload_n 0, 1) := by decide +kernel
theorem d_L_law_771 : decode code 771 = .ok (.iload 4, 2) := by decide +kernel
theorem d_L_law_773 : decode code 773 = .ok (.iconst 1, 1) := by decide +kernel
theorem d_L_law_774 : decode code 774 = .ok (.iadd, 1) := by decide +kernel
theorem d_L_law_775 : decode code 775 = .ok (.iaload, 1) := by decide +kernel
theorem d_L_law_776 : decode code 776 = .ok (.invokevirtual 127, 3) := by decide +kernel
theorem d_L_law_779 : decode code 779 = .ok (.lstore 6, 2) := by decide +kernel
theorem d_L_law_781 : decode code 781 = .ok (.aload_n 2, 1) := by decide +kernel
theorem d_L_law_782 : decode code 782 = .ok (.invokevirtual 90, 3) := by decide +kernel
theorem d_L_law_785 : decode code 785 = .ok (.iload 5, 2) := by decide +kernel
theorem d_L_law_787 : decode code 787 = .ok (.if_icmp .eq 5, 3) := by decide +kernel
theorem d_L_law_790 : decode code 790 = .ok (.iconst 0, 1) := by decide +kernel
theorem d_L_law_791 : decode code 791 = .ok (.ireturn, 1) := by decide +kernel
theorem d_L_law_792 : decode code 792 = .ok (.iload 5, 2) := by decide +kernel
theorem d_L_law_794 : decode code 794 = .ok (.ifCond .ne 14, 3) := by decide +kernel
theorem d_L_law_797 : decode code 797 = .ok (.aload_n 3, 1) := by decide +kernel
theorem d_L_law_798 : decode code 798 = .ok (.iconst 0, 1) := by decide +kernel
theorem d_L_law_799 : decode code 799 = .ok (.laload, 1) := by decide +kernel
theorem d_L_law_800 : decode code 800 = .ok (.lload 6, 2) := by decide +kernel
theorem d_L_law_802 : decode code 802 = .ok (.lcmp, 1) := by decide +kernel
theorem d_L_law_803 : decode code 803 = .ok (.ifCond .eq 5, 3) := by decide +kernel
theorem d_L_law_806 : decode code 806 = .ok (.iconst 0, 1) := by decide +kernel
theorem d_L_law_807 : decode code 807 = .ok (.ireturn, 1) := by decide +kernel
theorem d_L_law_808 : decode code 808 = .ok (.goto 558, 3) := by decide +kernel
theorem d_L_law_811 : decode code 811 = .ok (.aload_n 1, 1) := by decide +kernel
theorem d_L_law_812 : decode code 812 = .ok (.invokevirtual 128, 3) := by decide +kernel
theorem d_L_law_815 : decode code 815 = .ok (.aload_n 2, 1) := by decide +kernel
theorem d_L_law_816 : decode code 816 = .ok (.invokevirtual 132, 3) := by decide +kernel
theorem d_L_law_819 : decode code 819 = .ok (.lcmp, 1) := by decide +kernel
theorem d_L_law_820 : decode code 820 = .ok (.ifCond .eq 546, 3) := by decide +kernel
theorem d_L_law_823 : decode code 823 = .ok (.iconst 0, 1) := by decide +kernel
theorem d_L_law_824 : decode code 824 = .ok (.ireturn, 1) := by decide +kernel
theorem d_L_law_825 : decode code 825 = .ok (.aload_n 1, 1) := by decide +kernel
theorem d_L_law_826 : decode code 826 = .ok (.aload_n 0, 1) := by decide +kernel
theorem d_L_law_827 : decode code 827 = .ok (.iload 4, 2) := by decide +kernel
theorem d_L_law_829 : decode code 829 = .ok (.iconst 1, 1) := by decide +kernel
theorem d_L_law_830 : decode code 830 = .ok (.iadd, 1) := by decide +kernel
theorem d_L_law_831 : decode code 831 = .ok (.iaload, 1) := by decide +kernel
theorem d_L_law_832 : decode code 832 = .ok (.aload_n 3, 1) := by decide +kernel
theorem d_L_law_833 : decode code 833 = .ok (.invokestatic 133, 3) := by decide +kernel
theorem d_L_law_836 : decode code 836 = .ok (.istore 5, 2) := by decide +kernel
theorem d_L_law_838 : decode code 838 = .ok (.aload_n 2, 1) := by decide +kernel
theorem d_L_law_839 : decode code 839 = .ok (.aload_n 0, 1) := by decide +kernel
theorem d_L_law_840 : decode code 840 = .ok (.iload 4, 2) := by decide +kernel
theorem d_L_law_842 : decode code 842 = .ok (.iconst 1, 1) := by decide +kernel
theorem d_L_law_843 : decode code 843 = .ok (.iadd, 1) := by decide +kernel
theorem d_L_law_844 : decode code 844 = .ok (.iaload, 1) := by decide +kernel
theorem d_L_law_845 : decode code 845 = .ok (.invokevirtual 135, 3) := by decide +kernel
theorem d_L_law_848 : decode code 848 = .ok (.istore 6, 2) := by decide +kernel
theorem d_L_law_850 : decode code 850 = .ok (.aload_n 2, 1) := by decide +kernel
theorem d_L_law_851 : decode code 851 = .ok (.invokevirtual 90, 3) := by decide +kernel
theorem d_L_law_854 : decode code 854 = .ok (.iload 5, 2) := by decide +kernel
theorem d_L_law_856 : decode code 856 = .ok (.if_icmp .eq 5, 3) := by decide +kernel
theorem d_L_law_859 : decode code 859 = .ok (.iconst 0, 1) := by decide +kernel
theorem d_L_law_860 : decode code 860 = .ok (.ireturn, 1) := by decide +kernel
theorem d_L_law_861 : decode code 861 = .ok (.iload 5, 2) := by decide +kernel
theorem d_L_law_863 : decode code 863 = .ok (.ifCond .ne 15, 3) := by decide +kernel
theorem d_L_law_866 : decode code 866 = .ok (.aload_n 3, 1) := by decide +kernel
