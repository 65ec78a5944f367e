theorem dL_law_532 : decode code 532 = .ok (.aload_n 1, 1) := by decide +kernel
theorem dL_law_533 : decode code 533 = .ok (.aload_n 0, 1) := by decide +kernel
theorem dL_law_534 : decode code 534 = .ok (.iload_n 3, 1) := by decide +kernel
theorem dL_law_535 : decode code 535 = .ok (.iconst 1, 1) := by decide +kernel
theorem dL_law_536 : decode code 536 = .ok (.iadd, 1) := by decide +kernel
theorem dL_law_537 : decode code 537 = .ok (.iaload, 1) := by decide +kernel
theorem dL_law_538 : decode code 538 = .ok (.invokevirtual 57, 3) := by decide +kernel
theorem dL_law_541 : decode code 541 = .ok (.pop, 1) := by decide +kernel
theorem dL_law_542 : decode code 542 = .ok (.aload_n 2, 1) := by decide +kernel
theorem dL_law_543 : decode code 543 = .ok (.aload_n 0, 1) := by decide +kernel
theorem dL_law_544 : decode code 544 = .ok (.iload_n 3, 1) := by decide +kernel
theorem dL_law_545 : decode code 545 = .ok (.iconst 1, 1) := by decide +kernel
theorem dL_law_546 : decode code 546 = .ok (.iadd, 1) := by decide +kernel
theorem dL_law_547 : decode code 547 = .ok (.iaload, 1) := by decide +kernel
theorem dL_law_548 : decode code 548 = .ok (.invokevirtual 60, 3) := by decide +kernel
theorem dL_law_551 : decode code 551 = .ok (.pop, 1) := by decide +kernel
theorem dL_law_552 : decode code 552 = .ok (.goto 843, 3) := by decide +kernel
theorem dL_law_555 : decode code 555 = .ok (.aload_n 1, 1) := by decide +kernel
theorem dL_law_556 : decode code 556 = .ok (.aload_n 0, 1) := by decide +kernel
theorem dL_law_557 : decode code 557 = .ok (.iload_n 3, 1) := by decide +kernel
theorem dL_law_558 : decode code 558 = .ok (.iconst 1, 1) := by decide +kernel
theorem dL_law_559 : decode code 559 = .ok (.iadd, 1) := by decide +kernel
theorem dL_law_560 : decode code 560 = .ok (.iaload, 1) := by decide +kernel
theorem dL_law_561 : decode code 561 = .ok (.invokevirtual 61, 3) := by decide +kernel
theorem dL_law_564 : decode code 564 = .ok (.pop, 1) := by decide +kernel
theorem dL_law_565 : decode code 565 = .ok (.aload_n 2, 1) := by decide +kernel
theorem dL_law_566 : decode code 566 = .ok (.aload_n 0, 1) := by decide +kernel
theorem dL_law_567 : decode code 567 = .ok (.iload_n 3, 1) := by decide +kernel
theorem dL_law_568 : decode code 568 = .ok (.iconst 1, 1) := by decide +kernel
theorem dL_law_569 : decode code 569 = .ok (.iadd, 1) := by decide +kernel
theorem dL_law_570 : decode code 570 = .ok (.iaload, 1) := by decide +kernel
theorem dL_law_571 : decode code 571 = .ok (.invokevirtual 64, 3) := by decide +kernel
theorem dL_law_574 : decode code 574 = .ok (.pop, 1) := by decide +kernel
theorem dL_law_575 : decode code 575 = .ok (.goto 820, 3) := by decide +kernel
theorem dL_law_578 : decode code 578 = .ok (.aload_n 1, 1) := by decide +kernel
theorem dL_law_579 : decode code 579 = .ok (.aload_n 0, 1) := by decide +kernel
theorem dL_law_580 : decode code 580 = .ok (.iload_n 3, 1) := by decide +kernel
theorem dL_law_581 : decode code 581 = .ok (.iconst 1, 1) := by decide +kernel
theorem dL_law_582 : decode code 582 = .ok (.iadd, 1) := by decide +kernel
theorem dL_law_583 : decode code 583 = .ok (.iaload, 1) := by decide +kernel
theorem dL_law_584 : decode code 584 = .ok (.invokevirtual 65, 3) := by decide +kernel
theorem dL_law_587 : decode code 587 = .ok (.pop, 1) := by decide +kernel
theorem dL_law_588 : decode code 588 = .ok (.aload_n 2, 1) := by decide +kernel
theorem dL_law_589 : decode code 589 = .ok (.aload_n 0, 1) := by decide +kernel
theorem dL_law_590 : decode code 590 = .ok (.iload_n 3, 1) := by decide +kernel
theorem dL_law_591 : decode code 591 = .ok (.iconst 1, 1) := by decide +kernel
theorem dL_law_592 : decode code 592 = .ok (.iadd, 1) := by decide +kernel
theorem dL_law_593 : decode code 593 = .ok (.iaload, 1) := by decide +kernel
theorem dL_law_594 : decode code 594 = .ok (.invokevirtual 68, 3) := by decide +kernel
theorem dL_law_597 : decode code 597 = .ok (.pop, 1) := by decide +kernel
theorem dL_law_598 : decode code 598 = .ok (.goto 797, 3) := by decide +kernel
theorem dL_law_601 : decode code 601 = .ok (.aload_n 1, 1) := by decide +kernel
theorem dL_law_602 : decode code 602 = .ok (.invokevirtual 69, 3) := by decide +kernel
theorem dL_law_605 : decode code 605 = .ok (.pop, 1) := by decide +kernel
theorem dL_law_606 : decode code 606 = .ok (.aload_n 2, 1) := by decide +kernel
theorem dL_law_607 : decode code 607 = .ok (.invokevirtual 73, 3) := by decide +kernel
theorem dL_law_610 : decode code 610 = .ok (.pop, 1) := by decide +kernel
theorem dL_law_611 : decode code 611 = .ok (.goto 784, 3) := by decide +kernel
theorem dL_law_614 : decode code 614 = .ok (.aload_n 1, 1) := by decide +kernel
theorem dL_law_615 : decode code 615 = .ok (.aload_n 0, 1) := by decide +kernel
theorem dL_law_616 : decode code 616 = .ok (.iload_n 3, 1) := by decide +kernel
theorem dL_law_617 : decode code 617 = .ok (.iconst 1, 1) := by decide +kernel
theorem dL_law_618 : decode code 618 = .ok (.iadd, 1) := by decide +kernel
theorem dL_law_619 : decode code 619 = .ok (.iaload, 1) := by decide +kernel
theorem dL_law_620 : decode code 620 = .ok (.invokevirtual 74, 3) := by decide +kernel
theorem dL_law_623 : decode code 623 = .ok (.pop, 1) := by decide +kernel
theorem dL_law_624 : decode code 624 = .ok (.aload_n 2, 1) := by decide +kernel
theorem dL_law_625 : decode code 625 = .ok (.aload_n 0, 1) := by decide +kernel
theorem dL_law_626 : decode code 626 = .ok (.iload_n 3, 1) := by decide +kernel
theorem dL_law_627 : decode code 627 = .ok (.iconst 1, 1) := by decide +kernel
theorem dL_law_628 : decode code 628 = .ok (.iadd, 1) := by decide +kernel
theorem dL_law_629 : decode code 629 = .ok (.iaload, 1) := by decide +kernel
theorem dL_law_630 : decode code 630 = .ok (.invokevirtual 77, 3) := by decide +kernel
theorem dL_law_633 : decode code 633 = .ok (.pop, 1) := by decide +kernel
theorem dL_law_634 : decode code 634 = .ok (.goto 761, 3) := by decide +kernel
theorem dL_law_637 : decode code 637 = .ok (.aload_n 1, 1) := by decide +kernel
theorem dL_law_638 : decode code 638 = .ok (.aload_n 0, 1) := by decide +kernel
theorem dL_law_639 : decode code 639 = .ok (.iload_n 3, 1) := by decide +kernel
theorem dL_law_640 : decode code 640 = .ok (.iconst 1, 1) := by decide +kernel
theorem dL_law_641 : decode code 641 = .ok (.iadd, 1) := by decide +kernel
theorem dL_law_642 : decode code 642 = .ok (.iaload, 1) := by decide +kernel
theorem dL_law_643 : decode code 643 = .ok (.aload_n 0, 1) := by decide +kernel
theorem dL_law_644 : decode code 644 = .ok (.iload_n 3, 1) := by decide +kernel
theorem dL_law_645 : decode code 645 = .ok (.iconst 2, 1) := by decide +kernel
theorem dL_law_646 : decode code 646 = .ok (.iadd, 1) := by decide +kernel
theorem dL_law_647 : decode code 647 = .ok (.iaload, 1) := by decide +kernel
theorem dL_law_648 : decode code 648 = .ok (.invokevirtual 78, 3) := by decide +kernel
theorem dL_law_651 : decode code 651 = .ok (.pop, 1) := by decide +kernel
theorem dL_law_652 : decode code 652 = .ok (.aload_n 2, 1) := by decide +kernel
theorem dL_law_653 : decode code 653 = .ok (.aload_n 0, 1) := by decide +kernel
theorem dL_law_654 : decode code 654 = .ok (.iload_n 3, 1) := by decide +kernel
theorem dL_law_655 : decode code 655 = .ok (.iconst 1, 1) := by decide +kernel
theorem dL_law_656 : decode code 656 = .ok (.iadd, 1) := by decide +kernel
theorem dL_law_657 : decode code 657 = .ok (.iaload, 1) := by decide +kernel
theorem dL_law_658 : decode code 658 = .ok (.aload_n 0, 1) := by decide +kernel
theorem dL_law_659 : decode code 659 = .ok (.iload_n 3, 1) := by decide +kernel
theorem dL_law_660 : decode code 660 = .ok (.iconst 2, 1) := by decide +kernel
theorem dL_law_661 : decode code 661 = .ok (.iadd, 1) := by decide +kernel
theorem dL_law_662 : decode code 662 = .ok (.iaload, 1) := by decide +kernel
theorem dL_law_663 : decode code 663 = .ok (.invokevirtual 81, 3) := by decide +kernel
theorem dL_law_666 : decode code 666 = .ok (.pop, 1) := by decide +kernel
theorem dL_law_667 : decode code 667 = .ok (.goto 728, 3) := by decide +kernel
theorem dL_law_670 : decode code 670 = .ok (.aload_n 1, 1) := by decide +kernel
theorem dL_law_671 : decode code 671 = .ok (.aload_n 0, 1) := by decide +kernel
theorem dL_law_672 : decode code 672 = .ok (.iload_n 3, 1) := by decide +kernel
theorem dL_law_673 : decode code 673 = .ok (.iconst 1, 1) := by decide +kernel
theorem dL_law_674 : decode code 674 = .ok (.iadd, 1) := by decide +kernel
theorem dL_law_675 : decode code 675 = .ok (.iaload, 1) := by decide +kernel
theorem dL_law_676 : decode code 676 = .ok (.aload_n 0, 1) := by decide +kernel
theorem dL_law_677 : decode code 677 = .ok (.iload_n 3, 1) := by decide +kernel
theorem dL_law_678 : decode code 678 = .ok (.iconst 2, 1) := by decide +kernel
theorem dL_law_679 : decode code 679 = .ok (.iadd, 1) := by decide +kernel
theorem dL_law_680 : decode code 680 = .ok (.iaload, 1) := by decide +kernel
theorem dL_law_681 : decode code 681 = .ok (.invokevirtual 82, 3) := by decide +kernel
theorem dL_law_684 : decode code 684 = .ok (.pop, 1) := by decide +kernel
theorem dL_law_685 : decode code 685 = .ok (.aload_n 2, 1) := by decide +kernel
theorem dL_law_686 : decode code 686 = .ok (.aload_n 0, 1) := by decide +kernel
theorem dL_law_687 : decode code 687 = .ok (.iload_n 3, 1) := by decide +kernel
theorem dL_law_688 : decode code 688 = .ok (.iconst 1, 1) := by decide +kernel
theorem dL_law_689 : decode code 689 = .ok (.iadd, 1) := by decide +kernel
theorem dL_law_690 : decode code 690 = .ok (.iaload, 1) := by decide +kernel
theorem dL_law_691 : decode code 691 = .ok (.aload_n 0, 1) := by decide +kernel
theorem dL_law_692 : decode code 692 = .ok (.iload_n 3, 1) := by decide +kernel
theorem dL_law_693 : decode code 693 = .ok (.iconst 2, 1) := by decide +kernel
theorem dL_law_694 : decode code 694 = .ok (.iadd, 1) := by decide +kernel
theorem dL_law_695 : decode code 695 = .ok (.iaload, 1) := by decide +kernel
theorem dL_law_696 : decode code 696 = .ok (.invokevirtual 85, 3) := by decide +kernel
theorem dL_law_699 : decode code 699 = .ok (.pop, 1) := by decide +kernel
theorem dL_law_700 : decode code 700 = .ok (.goto 695, 3) := by decide +kernel
theorem dL_law_703 : decode code 703 = .ok (.aload_n 1, 1) := by decide +kernel
theorem dL_law_704 : decode code 704 = .ok (.aload_n 0, 1) := by decide +kernel
theorem dL_law_705 : decode code 705 = .ok (.iload_n 3, 1) := by decide +kernel
theorem dL_law_706 : decode code 706 = .ok (.iconst 1, 1) := by decide +kernel
theorem dL_law_707 : decode code 707 = .ok (.iadd, 1) := by decide +kernel
theorem dL_law_708 : decode code 708 = .ok (.iaload, 1) := by decide +kernel
theorem dL_law_709 : decode code 709 = .ok (.invokevirtual 86, 3) := by decide +kernel
theorem dL_law_712 : decode code 712 = .ok (.pop2, 1) := by decide +kernel
theorem dL_law_713 : decode code 713 = .ok (.aload_n 2, 1) := by decide +kernel
theorem dL_law_714 : decode code 714 = .ok (.aload_n 0, 1) := by decide +kernel
theorem dL_law_715 : decode code 715 = .ok (.iload_n 3, 1) := by decide +kernel
theorem dL_law_716 : decode code 716 = .ok (.iconst 1, 1) := by decide +kernel
theorem dL_law_717 : decode code 717 = .ok (.iadd, 1) := by decide +kernel
theorem dL_law_718 : decode code 718 = .ok (.iaload, 1) := by decide +kernel
theorem dL_law_719 : decode code 719 = .ok (.invokevirtual 90, 3) := by decide +kernel
theorem dL_law_722 : decode code 722 = .ok (.pop2, 1) := by decide +kernel
theorem dL_law_723 : decode code 723 = .ok (.goto 672, 3) := by decide +kernel
theorem dL_law_726 : decode code 726 = .ok (.aload_n 1, 1) := by decide +kernel
theorem dL_law_727 : decode code 727 = .ok (.aload_n 0, 1) := by decide +kernel
theorem dL_law_728 : decode code 728 = .ok (.iload_n 3, 1) := by decide +kernel
theorem dL_law_729 : decode code 729 = .ok (.iconst 1, 1) := by decide +kernel
theorem dL_law_730 : decode code 730 = .ok (.iadd, 1) := by decide +kernel
theorem dL_law_731 : decode code 731 = .ok (.iaload, 1) := by decide +kernel
theorem dL_law_732 : decode code 732 = .ok (.aload_n 0, 1) := by decide +kernel
theorem dL_law_733 : decode code 733 = .ok (.iload_n 3, 1) := by decide +kernel
theorem dL_law_734 : decode code 734 = .ok (.iconst 2, 1) := by decide +kernel
theorem dL_law_735 : decode code 735 = .ok (.iadd, 1) := by decide +kernel
theorem dL_law_736 : decode code 736 = .ok (.iaload, 1) := by decide +kernel
theorem dL_law_737 : decode code 737 = .ok (.invokevirtual 91, 3) := by decide +kernel
theorem dL_law_740 : decode code 740 = .ok (.pop2, 1) := by decide +kernel
theorem dL_law_741 : decode code 741 = .ok (.aload_n 2, 1) := by decide +kernel
theorem dL_law_742 : decode code 742 = .ok (.aload_n 0, 1) := by decide +kernel
theorem dL_law_743 : decode code 743 = .ok (.iload_n 3, 1) := by decide +kernel
theorem dL_law_744 : decode code 744 = .ok (.iconst 1, 1) := by decide +kernel
theorem dL_law_745 : decode code 745 = .ok (.iadd, 1) := by decide +kernel
theorem dL_law_746 : decode code 746 = .ok (.iaload, 1) := by decide +kernel
theorem dL_law_747 : decode code 747 = .ok (.aload_n 0, 1) := by decide +kernel
theorem dL_law_748 : decode code 748 = .ok (.iload_n 3, 1) := by decide +kernel
theorem dL_law_749 : decode code 749 = .ok (.iconst 2, 1) := by decide +kernel
theorem dL_law_750 : decode code 750 = .ok (.iadd, 1) := by decide +kernel
theorem dL_law_751 : decode code 751 = .ok (.iaload, 1) := by decide +kernel
theorem dL_law_752 : decode code 752 = .ok (.invokevirtual 95, 3) := by decide +kernel
theorem dL_law_755 : decode code 755 = .ok (.pop2, 1) := by decide +kernel
theorem dL_law_756 : decode code 756 = .ok (.goto 639, 3) := by decide +kernel
theorem dL_law_759 : decode code 759 = .ok (.aload_n 1, 1) := by decide +kernel
theorem dL_law_760 : decode code 760 = .ok (.aload_n 0, 1) := by decide +kernel
theorem dL_law_761 : decode code 761 = .ok (.iload_n 3, 1) := by decide +kernel
theorem dL_law_762 : decode code 762 = .ok (.iconst 1, 1) := by decide +kernel
theorem dL_law_763 : decode code 763 = .ok (.iadd, 1) := by decide +kernel
theorem dL_law_764 : decode code 764 = .ok (.iaload, 1) := by decide +kernel
theorem dL_law_765 : decode code 765 = .ok (.invokevirtual 96, 3) := by decide +kernel
theorem dL_law_768 : decode code 768 = .ok (.pop, 1) := by decide +kernel
theorem dL_law_769 : decode code 769 = .ok (.aload_n 2, 1) := by decide +kernel
theorem dL_law_770 : decode code 770 = .ok (.aload_n 0, 1) := by decide +kernel
theorem dL_law_771 : decode code 771 = .ok (.iload_n 3, 1) := by decide +kernel
theorem dL_law_772 : decode code 772 = .ok (.iconst 1, 1) := by decide +kernel
theorem dL_law_773 : decode code 773 = .ok (.iadd, 1) := by decide +kernel
theorem dL_law_774 : decode code 774 = .ok (.iaload, 1) := by decide +kernel
theorem dL_law_775 : decode code 775 = .ok (.invokevirtual 99, 3) := by decide +kernel
theorem dL_law_778 : decode code 778 = .ok (.pop, 1) := by decide +kernel
theorem dL_law_779 : decode code 779 = .ok (.goto 616, 3) := by decide +kernel
theorem kw_930 : Cond.methodLink "FootholdWallLaw" 57 yX11_days ∈ gw := gw_of (tb_of 930 (by decide +kernel)) (by decide +kernel)
theorem kw_931 : Cond.instanceMethod yX11_days ∈ gw := gw_of (tb_of 931 (by decide +kernel)) (by decide +kernel)
theorem kw_932 : Cond.selects "FootholdWall" yX11_days yX11_days ∈ gw := gw_of (tb_of 932 (by decide +kernel)) (by decide +kernel)
theorem kw_933 : Cond.code yX11_days cX11_days 2 (some (.int)) ∈ gw := gw_of (tb_of 933 (by decide +kernel)) (by decide +kernel)
theorem kw_934 : Cond.methodLink "FootholdWallLaw" 61 yX11_rain ∈ gw := gw_of (tb_of 934 (by decide +kernel)) (by decide +kernel)
theorem kw_935 : Cond.instanceMethod yX11_rain ∈ gw := gw_of (tb_of 935 (by decide +kernel)) (by decide +kernel)
theorem kw_936 : Cond.selects "FootholdWall" yX11_rain yX11_rain ∈ gw := gw_of (tb_of 936 (by decide +kernel)) (by decide +kernel)
theorem kw_937 : Cond.code yX11_rain cX11_rain 3 (some (.int)) ∈ gw := gw_of (tb_of 937 (by decide +kernel)) (by decide +kernel)
theorem kw_942 : Cond.methodLink "FootholdWallLaw" 65 yX11_breaks ∈ gw := gw_of (tb_of 942 (by decide +kernel)) (by decide +kernel)
theorem kw_943 : Cond.instanceMethod yX11_breaks ∈ gw := gw_of (tb_of 943 (by decide +kernel)) (by decide +kernel)
theorem kw_944 : Cond.selects "FootholdWall" yX11_breaks yX11_breaks ∈ gw := gw_of (tb_of 944 (by decide +kernel)) (by decide +kernel)
theorem kw_945 : Cond.code yX11_breaks cX11_breaks 3 (some (.int)) ∈ gw := gw_of (tb_of 945 (by decide +kernel)) (by decide +kernel)
theorem kw_947 : Cond.methodLink "FootholdWallLaw" 69 yX11_newYear ∈ gw := gw_of (tb_of 947 (by decide +kernel)) (by decide +kernel)
theorem kw_948 : Cond.instanceMethod yX11_newYear ∈ gw := gw_of (tb_of 948 (by decide +kernel)) (by decide +kernel)
theorem kw_949 : Cond.selects "FootholdWall" yX11_newYear yX11_newYear ∈ gw := gw_of (tb_of 949 (by decide +kernel)) (by decide +kernel)
theorem kw_950 : Cond.code yX11_newYear cX11_newYear 2 (some (.int)) ∈ gw := gw_of (tb_of 950 (by decide +kernel)) (by decide +kernel)
theorem kw_951 : Cond.methodLink "FootholdWallLaw" 74 yX11_undo ∈ gw := gw_of (tb_of 951 (by decide +kernel)) (by decide +kernel)
theorem kw_952 : Cond.instanceMethod yX11_undo ∈ gw := gw_of (tb_of 952 (by decide +kernel)) (by decide +kernel)
theorem kw_953 : Cond.selects "FootholdWall" yX11_undo yX11_undo ∈ gw := gw_of (tb_of 953 (by decide +kernel)) (by decide +kernel)
theorem kw_954 : Cond.code yX11_undo cX11_undo 2 (some (.int)) ∈ gw := gw_of (tb_of 954 (by decide +kernel)) (by decide +kernel)
theorem kw_958 : Cond.methodLink "FootholdWallLaw" 78 yX11_season ∈ gw := gw_of (tb_of 958 (by decide +kernel)) (by decide +kernel)
theorem kw_959 : Cond.instanceMethod yX11_season ∈ gw := gw_of (tb_of 959 (by decide +kernel)) (by decide +kernel)
theorem kw_960 : Cond.selects "FootholdWall" yX11_season yX11_season ∈ gw := gw_of (tb_of 960 (by decide +kernel)) (by decide +kernel)
theorem kw_961 : Cond.code yX11_season cX11_season 9 (some (.int)) ∈ gw := gw_of (tb_of 961 (by decide +kernel)) (by decide +kernel)
theorem kw_966 : Cond.methodLink "FootholdWallLaw" 82 yX11_way ∈ gw := gw_of (tb_of 966 (by decide +kernel)) (by decide +kernel)
theorem kw_967 : Cond.instanceMethod yX11_way ∈ gw := gw_of (tb_of 967 (by decide +kernel)) (by decide +kernel)
theorem kw_968 : Cond.selects "FootholdWall" yX11_way yX11_way ∈ gw := gw_of (tb_of 968 (by decide +kernel)) (by decide +kernel)
theorem kw_969 : Cond.code yX11_way cX11_way 3 (some (.int)) ∈ gw := gw_of (tb_of 969 (by decide +kernel)) (by decide +kernel)
theorem kw_976 : Cond.methodLink "FootholdWallLaw" 86 yX11_ways ∈ gw := gw_of (tb_of 976 (by decide +kernel)) (by decide +kernel)
theorem kw_977 : Cond.instanceMethod yX11_ways ∈ gw := gw_of (tb_of 977 (by decide +kernel)) (by decide +kernel)
theorem kw_978 : Cond.selects "FootholdWall" yX11_ways yX11_ways ∈ gw := gw_of (tb_of 978 (by decide +kernel)) (by decide +kernel)
theorem kw_979 : Cond.code yX11_ways cX11_ways 2 (some (.long)) ∈ gw := gw_of (tb_of 979 (by decide +kernel)) (by decide +kernel)
theorem kw_989 : Cond.methodLink "FootholdWallLaw" 91 yX11_climbs ∈ gw := gw_of (tb_of 989 (by decide +kernel)) (by decide +kernel)
theorem kw_990 : Cond.instanceMethod yX11_climbs ∈ gw := gw_of (tb_of 990 (by decide +kernel)) (by decide +kernel)
theorem kw_991 : Cond.selects "FootholdWall" yX11_climbs yX11_climbs ∈ gw := gw_of (tb_of 991 (by decide +kernel)) (by decide +kernel)
theorem kw_992 : Cond.code yX11_climbs cX11_climbs 3 (some (.long)) ∈ gw := gw_of (tb_of 992 (by decide +kernel)) (by decide +kernel)
theorem kw_1010 : Cond.methodLink "FootholdWallLaw" 96 yX11_parties ∈ gw := gw_of (tb_of 1010 (by decide +kernel)) (by decide +kernel)
theorem kw_1011 : Cond.instanceMethod yX11_parties ∈ gw := gw_of (tb_of 1011 (by decide +kernel)) (by decide +kernel)
theorem kw_1012 : Cond.selects "FootholdWall" yX11_parties yX11_parties ∈ gw := gw_of (tb_of 1012 (by decide +kernel)) (by decide +kernel)
theorem kw_1013 : Cond.code yX11_parties cX11_parties 2 (some (.int)) ∈ gw := gw_of (tb_of 1013 (by decide +kernel)) (by decide +kernel)
theorem kw_1572 : Cond.methodLink "FootholdWallLaw" 60 yX12_days ∈ gw := gw_of (tb_of 1572 (by decide +kernel)) (by decide +kernel)
theorem kw_1573 : Cond.instanceMethod yX12_days ∈ gw := gw_of (tb_of 1573 (by decide +kernel)) (by decide +kernel)
theorem kw_1574 : Cond.selects "FootholdWallModel" yX12_days yX12_days ∈ gw := gw_of (tb_of 1574 (by decide +kernel)) (by decide +kernel)
theorem kw_1575 : Cond.code yX12_days cX12_days 2 (some (.int)) ∈ gw := gw_of (tb_of 1575 (by decide +kernel)) (by decide +kernel)
theorem kw_1577 : Cond.methodLink "FootholdWallLaw" 64 yX12_rain ∈ gw := gw_of (tb_of 1577 (by decide +kernel)) (by decide +kernel)
theorem kw_1578 : Cond.instanceMethod yX12_rain ∈ gw := gw_of (tb_of 1578 (by decide +kernel)) (by decide +kernel)
theorem kw_1579 : Cond.selects "FootholdWallModel" yX12_rain yX12_rain ∈ gw := gw_of (tb_of 1579 (by decide +kernel)) (by decide +kernel)
theorem kw_1580 : Cond.code yX12_rain cX12_rain 4 (some (.int)) ∈ gw := gw_of (tb_of 1580 (by decide +kernel)) (by decide +kernel)
theorem kw_1586 : Cond.methodLink "FootholdWallLaw" 68 yX12_breaks ∈ gw := gw_of (tb_of 1586 (by decide +kernel)) (by decide +kernel)
theorem kw_1587 : Cond.instanceMethod yX12_breaks ∈ gw := gw_of (tb_of 1587 (by decide +kernel)) (by decide +kernel)
theorem kw_1588 : Cond.selects "FootholdWallModel" yX12_breaks yX12_breaks ∈ gw := gw_of (tb_of 1588 (by decide +kernel)) (by decide +kernel)
theorem kw_1589 : Cond.code yX12_breaks cX12_breaks 3 (some (.int)) ∈ gw := gw_of (tb_of 1589 (by decide +kernel)) (by decide +kernel)
theorem kw_1590 : Cond.methodLink "FootholdWallLaw" 73 yX12_newYear ∈ gw := gw_of (tb_of 1590 (by decide +kernel)) (by decide +kernel)
theorem kw_1591 : Cond.instanceMethod yX12_newYear ∈ gw := gw_of (tb_of 1591 (by decide +kernel)) (by decide +kernel)
theorem kw_1592 : Cond.selects "FootholdWallModel" yX12_newYear yX12_newYear ∈ gw := gw_of (tb_of 1592 (by decide +kernel)) (by decide +kernel)
theorem kw_1593 : Cond.code yX12_newYear cX12_newYear 3 (some (.int)) ∈ gw := gw_of (tb_of 1593 (by decide +kernel)) (by decide +kernel)
theorem kw_1598 : Cond.methodLink "FootholdWallLaw" 77 yX12_undo ∈ gw := gw_of (tb_of 1598 (by decide +kernel)) (by decide +kernel)
theorem kw_1599 : Cond.instanceMethod yX12_undo ∈ gw := gw_of (tb_of 1599 (by decide +kernel)) (by decide +kernel)
theorem kw_1600 : Cond.selects "FootholdWallModel" yX12_undo yX12_undo ∈ gw := gw_of (tb_of 1600 (by decide +kernel)) (by decide +kernel)
theorem kw_1601 : Cond.code yX12_undo cX12_undo 3 (some (.int)) ∈ gw := gw_of (tb_of 1601 (by decide +kernel)) (by decide +kernel)
theorem kw_1603 : Cond.methodLink "FootholdWallLaw" 81 yX12_season ∈ gw := gw_of (tb_of 1603 (by decide +kernel)) (by decide +kernel)
theorem kw_1604 : Cond.instanceMethod yX12_season ∈ gw := gw_of (tb_of 1604 (by decide +kernel)) (by decide +kernel)
theorem kw_1605 : Cond.selects "FootholdWallModel" yX12_season yX12_season ∈ gw := gw_of (tb_of 1605 (by decide +kernel)) (by decide +kernel)
theorem kw_1606 : Cond.code yX12_season cX12_season 8 (some (.int)) ∈ gw := gw_of (tb_of 1606 (by decide +kernel)) (by decide +kernel)
theorem kw_1613 : Cond.methodLink "FootholdWallLaw" 85 yX12_way ∈ gw := gw_of (tb_of 1613 (by decide +kernel)) (by decide +kernel)
theorem kw_1614 : Cond.instanceMethod yX12_way ∈ gw := gw_of (tb_of 1614 (by decide +kernel)) (by decide +kernel)
theorem kw_1615 : Cond.selects "FootholdWallModel" yX12_way yX12_way ∈ gw := gw_of (tb_of 1615 (by decide +kernel)) (by decide +kernel)
theorem kw_1616 : Cond.code yX12_way cX12_way 3 (some (.int)) ∈ gw := gw_of (tb_of 1616 (by decide +kernel)) (by decide +kernel)
theorem kw_1618 : Cond.methodLink "FootholdWallLaw" 90 yX12_ways ∈ gw := gw_of (tb_of 1618 (by decide +kernel)) (by decide +kernel)
theorem kw_1619 : Cond.instanceMethod yX12_ways ∈ gw := gw_of (tb_of 1619 (by decide +kernel)) (by decide +kernel)
theorem kw_1620 : Cond.selects "FootholdWallModel" yX12_ways yX12_ways ∈ gw := gw_of (tb_of 1620 (by decide +kernel)) (by decide +kernel)
theorem kw_1621 : Cond.code yX12_ways cX12_ways 2 (some (.long)) ∈ gw := gw_of (tb_of 1621 (by decide +kernel)) (by decide +kernel)
theorem kw_1638 : Cond.methodLink "FootholdWallLaw" 95 yX12_climbs ∈ gw := gw_of (tb_of 1638 (by decide +kernel)) (by decide +kernel)
theorem kw_1639 : Cond.instanceMethod yX12_climbs ∈ gw := gw_of (tb_of 1639 (by decide +kernel)) (by decide +kernel)
theorem kw_1640 : Cond.selects "FootholdWallModel" yX12_climbs yX12_climbs ∈ gw := gw_of (tb_of 1640 (by decide +kernel)) (by decide +kernel)
theorem kw_1641 : Cond.code yX12_climbs cX12_climbs 3 (some (.long)) ∈ gw := gw_of (tb_of 1641 (by decide +kernel)) (by decide +kernel)
theorem kw_1648 : Cond.methodLink "FootholdWallLaw" 99 yX12_parties ∈ gw := gw_of (tb_of 1648 (by decide +kernel)) (by decide +kernel)
theorem kw_1649 : Cond.instanceMethod yX12_parties ∈ gw := gw_of (tb_of 1649 (by decide +kernel)) (by decide +kernel)
theorem kw_1650 : Cond.selects "FootholdWallModel" yX12_parties yX12_parties ∈ gw := gw_of (tb_of 1650 (by decide +kernel)) (by decide +kernel)
theorem kw_1651 : Cond.code yX12_parties cX12_parties 2 (some (.int)) ∈ gw := gw_of (tb_of 1651 (by decide +kernel)) (by decide +kernel)
