theorem dL_law_459 : decode cL_law 459 = .ok (.aload_n 1, 1) := by decide +kernel
theorem dL_law_460 : decode cL_law 460 = .ok (.aload_n 0, 1) := by decide +kernel
theorem dL_law_461 : decode cL_law 461 = .ok (.iload 4, 2) := by decide +kernel
theorem dL_law_463 : decode cL_law 463 = .ok (.iconst 1, 1) := by decide +kernel
theorem dL_law_464 : decode cL_law 464 = .ok (.iadd, 1) := by decide +kernel
theorem dL_law_465 : decode cL_law 465 = .ok (.iaload, 1) := by decide +kernel
theorem dL_law_466 : decode cL_law 466 = .ok (.aload_n 0, 1) := by decide +kernel
theorem dL_law_467 : decode cL_law 467 = .ok (.iload 4, 2) := by decide +kernel
theorem dL_law_469 : decode cL_law 469 = .ok (.iconst 2, 1) := by decide +kernel
theorem dL_law_470 : decode cL_law 470 = .ok (.iadd, 1) := by decide +kernel
theorem dL_law_471 : decode cL_law 471 = .ok (.iaload, 1) := by decide +kernel
theorem dL_law_472 : decode cL_law 472 = .ok (.aload_n 3, 1) := by decide +kernel
theorem dL_law_473 : decode cL_law 473 = .ok (.invokestatic 113, 3) := by decide +kernel
theorem dL_law_476 : decode cL_law 476 = .ok (.istore 5, 2) := by decide +kernel
theorem dL_law_478 : decode cL_law 478 = .ok (.aload_n 2, 1) := by decide +kernel
theorem dL_law_479 : decode cL_law 479 = .ok (.aload_n 0, 1) := by decide +kernel
theorem dL_law_480 : decode cL_law 480 = .ok (.iload 4, 2) := by decide +kernel
theorem dL_law_482 : decode cL_law 482 = .ok (.iconst 1, 1) := by decide +kernel
theorem dL_law_483 : decode cL_law 483 = .ok (.iadd, 1) := by decide +kernel
theorem dL_law_484 : decode cL_law 484 = .ok (.iaload, 1) := by decide +kernel
theorem dL_law_485 : decode cL_law 485 = .ok (.aload_n 0, 1) := by decide +kernel
theorem dL_law_486 : decode cL_law 486 = .ok (.iload 4, 2) := by decide +kernel
theorem dL_law_488 : decode cL_law 488 = .ok (.iconst 2, 1) := by decide +kernel
theorem dL_law_489 : decode cL_law 489 = .ok (.iadd, 1) := by decide +kernel
theorem dL_law_490 : decode cL_law 490 = .ok (.iaload, 1) := by decide +kernel
theorem dL_law_491 : decode cL_law 491 = .ok (.invokevirtual 116, 3) := by decide +kernel
theorem dL_law_494 : decode cL_law 494 = .ok (.istore 6, 2) := by decide +kernel
theorem dL_law_496 : decode cL_law 496 = .ok (.aload_n 2, 1) := by decide +kernel
theorem dL_law_497 : decode cL_law 497 = .ok (.invokevirtual 101, 3) := by decide +kernel
theorem dL_law_500 : decode cL_law 500 = .ok (.iload 5, 2) := by decide +kernel
theorem dL_law_502 : decode cL_law 502 = .ok (.if_icmp .eq 5, 3) := by decide +kernel
theorem dL_law_507 : decode cL_law 507 = .ok (.iload 5, 2) := by decide +kernel
theorem dL_law_509 : decode cL_law 509 = .ok (.ifCond .ne 15, 3) := by decide +kernel
theorem dL_law_512 : decode cL_law 512 = .ok (.aload_n 3, 1) := by decide +kernel
theorem dL_law_513 : decode cL_law 513 = .ok (.iconst 0, 1) := by decide +kernel
theorem dL_law_514 : decode cL_law 514 = .ok (.laload, 1) := by decide +kernel
theorem dL_law_515 : decode cL_law 515 = .ok (.iload 6, 2) := by decide +kernel
theorem dL_law_517 : decode cL_law 517 = .ok (.i2l, 1) := by decide +kernel
theorem dL_law_518 : decode cL_law 518 = .ok (.lcmp, 1) := by decide +kernel
theorem dL_law_519 : decode cL_law 519 = .ok (.ifCond .eq 5, 3) := by decide +kernel
theorem dL_law_524 : decode cL_law 524 = .ok (.goto 1336, 3) := by decide +kernel
theorem dL_law_527 : decode cL_law 527 = .ok (.aload_n 1, 1) := by decide +kernel
theorem dL_law_528 : decode cL_law 528 = .ok (.aload_n 0, 1) := by decide +kernel
theorem dL_law_529 : decode cL_law 529 = .ok (.iload 4, 2) := by decide +kernel
theorem dL_law_531 : decode cL_law 531 = .ok (.iconst 1, 1) := by decide +kernel
theorem dL_law_532 : decode cL_law 532 = .ok (.iadd, 1) := by decide +kernel
theorem dL_law_533 : decode cL_law 533 = .ok (.iaload, 1) := by decide +kernel
theorem dL_law_534 : decode cL_law 534 = .ok (.aload_n 0, 1) := by decide +kernel
theorem dL_law_535 : decode cL_law 535 = .ok (.iload 4, 2) := by decide +kernel
theorem dL_law_537 : decode cL_law 537 = .ok (.iconst 2, 1) := by decide +kernel
theorem dL_law_538 : decode cL_law 538 = .ok (.iadd, 1) := by decide +kernel
theorem dL_law_539 : decode cL_law 539 = .ok (.iaload, 1) := by decide +kernel
theorem dL_law_540 : decode cL_law 540 = .ok (.aload_n 3, 1) := by decide +kernel
theorem dL_law_541 : decode cL_law 541 = .ok (.invokestatic 117, 3) := by decide +kernel
theorem dL_law_544 : decode cL_law 544 = .ok (.istore 5, 2) := by decide +kernel
theorem dL_law_546 : decode cL_law 546 = .ok (.aload_n 2, 1) := by decide +kernel
theorem dL_law_547 : decode cL_law 547 = .ok (.aload_n 0, 1) := by decide +kernel
theorem dL_law_548 : decode cL_law 548 = .ok (.iload 4, 2) := by decide +kernel
theorem dL_law_550 : decode cL_law 550 = .ok (.iconst 1, 1) := by decide +kernel
theorem dL_law_551 : decode cL_law 551 = .ok (.iadd, 1) := by decide +kernel
theorem dL_law_552 : decode cL_law 552 = .ok (.iaload, 1) := by decide +kernel
theorem dL_law_553 : decode cL_law 553 = .ok (.aload_n 0, 1) := by decide +kernel
theorem dL_law_554 : decode cL_law 554 = .ok (.iload 4, 2) := by decide +kernel
theorem dL_law_556 : decode cL_law 556 = .ok (.iconst 2, 1) := by decide +kernel
theorem dL_law_557 : decode cL_law 557 = .ok (.iadd, 1) := by decide +kernel
theorem dL_law_558 : decode cL_law 558 = .ok (.iaload, 1) := by decide +kernel
theorem dL_law_559 : decode cL_law 559 = .ok (.invokevirtual 119, 3) := by decide +kernel
theorem dL_law_562 : decode cL_law 562 = .ok (.istore 6, 2) := by decide +kernel
theorem dL_law_564 : decode cL_law 564 = .ok (.aload_n 2, 1) := by decide +kernel
theorem dL_law_565 : decode cL_law 565 = .ok (.invokevirtual 101, 3) := by decide +kernel
theorem dL_law_568 : decode cL_law 568 = .ok (.iload 5, 2) := by decide +kernel
theorem dL_law_570 : decode cL_law 570 = .ok (.if_icmp .eq 5, 3) := by decide +kernel
theorem dL_law_575 : decode cL_law 575 = .ok (.iload 5, 2) := by decide +kernel
theorem dL_law_577 : decode cL_law 577 = .ok (.ifCond .ne 15, 3) := by decide +kernel
theorem dL_law_580 : decode cL_law 580 = .ok (.aload_n 3, 1) := by decide +kernel
theorem dL_law_581 : decode cL_law 581 = .ok (.iconst 0, 1) := by decide +kernel
theorem dL_law_582 : decode cL_law 582 = .ok (.laload, 1) := by decide +kernel
theorem dL_law_583 : decode cL_law 583 = .ok (.iload 6, 2) := by decide +kernel
theorem dL_law_585 : decode cL_law 585 = .ok (.i2l, 1) := by decide +kernel
theorem dL_law_586 : decode cL_law 586 = .ok (.lcmp, 1) := by decide +kernel
theorem dL_law_587 : decode cL_law 587 = .ok (.ifCond .eq 5, 3) := by decide +kernel
theorem dL_law_592 : decode cL_law 592 = .ok (.goto 1268, 3) := by decide +kernel
theorem dL_law_720 : decode cL_law 720 = .ok (.aload_n 1, 1) := by decide +kernel
theorem dL_law_721 : decode cL_law 721 = .ok (.aload_n 0, 1) := by decide +kernel
theorem dL_law_722 : decode cL_law 722 = .ok (.iload 4, 2) := by decide +kernel
theorem dL_law_724 : decode cL_law 724 = .ok (.iconst 1, 1) := by decide +kernel
theorem dL_law_725 : decode cL_law 725 = .ok (.iadd, 1) := by decide +kernel
theorem dL_law_726 : decode cL_law 726 = .ok (.iaload, 1) := by decide +kernel
theorem dL_law_727 : decode cL_law 727 = .ok (.aload_n 0, 1) := by decide +kernel
theorem dL_law_728 : decode cL_law 728 = .ok (.iload 4, 2) := by decide +kernel
theorem dL_law_730 : decode cL_law 730 = .ok (.iconst 2, 1) := by decide +kernel
theorem dL_law_731 : decode cL_law 731 = .ok (.iadd, 1) := by decide +kernel
theorem dL_law_732 : decode cL_law 732 = .ok (.iaload, 1) := by decide +kernel
theorem dL_law_733 : decode cL_law 733 = .ok (.aload_n 3, 1) := by decide +kernel
theorem dL_law_734 : decode cL_law 734 = .ok (.invokestatic 131, 3) := by decide +kernel
theorem dL_law_737 : decode cL_law 737 = .ok (.istore 5, 2) := by decide +kernel
theorem dL_law_739 : decode cL_law 739 = .ok (.aload_n 2, 1) := by decide +kernel
theorem dL_law_740 : decode cL_law 740 = .ok (.aload_n 0, 1) := by decide +kernel
theorem dL_law_741 : decode cL_law 741 = .ok (.iload 4, 2) := by decide +kernel
theorem dL_law_743 : decode cL_law 743 = .ok (.iconst 1, 1) := by decide +kernel
theorem dL_law_744 : decode cL_law 744 = .ok (.iadd, 1) := by decide +kernel
theorem dL_law_745 : decode cL_law 745 = .ok (.iaload, 1) := by decide +kernel
theorem dL_law_746 : decode cL_law 746 = .ok (.aload_n 0, 1) := by decide +kernel
theorem dL_law_747 : decode cL_law 747 = .ok (.iload 4, 2) := by decide +kernel
theorem dL_law_749 : decode cL_law 749 = .ok (.iconst 2, 1) := by decide +kernel
theorem dL_law_750 : decode cL_law 750 = .ok (.iadd, 1) := by decide +kernel
theorem dL_law_751 : decode cL_law 751 = .ok (.iaload, 1) := by decide +kernel
theorem dL_law_752 : decode cL_law 752 = .ok (.invokevirtual 133, 3) := by decide +kernel
theorem dL_law_755 : decode cL_law 755 = .ok (.istore 6, 2) := by decide +kernel
theorem dL_law_757 : decode cL_law 757 = .ok (.aload_n 2, 1) := by decide +kernel
theorem dL_law_758 : decode cL_law 758 = .ok (.invokevirtual 101, 3) := by decide +kernel
theorem dL_law_761 : decode cL_law 761 = .ok (.iload 5, 2) := by decide +kernel
theorem dL_law_763 : decode cL_law 763 = .ok (.if_icmp .eq 5, 3) := by decide +kernel
theorem dL_law_768 : decode cL_law 768 = .ok (.iload 5, 2) := by decide +kernel
theorem dL_law_770 : decode cL_law 770 = .ok (.ifCond .ne 15, 3) := by decide +kernel
theorem dL_law_773 : decode cL_law 773 = .ok (.aload_n 3, 1) := by decide +kernel
theorem dL_law_774 : decode cL_law 774 = .ok (.iconst 0, 1) := by decide +kernel
theorem dL_law_775 : decode cL_law 775 = .ok (.laload, 1) := by decide +kernel
theorem dL_law_776 : decode cL_law 776 = .ok (.iload 6, 2) := by decide +kernel
theorem dL_law_778 : decode cL_law 778 = .ok (.i2l, 1) := by decide +kernel
theorem dL_law_779 : decode cL_law 779 = .ok (.lcmp, 1) := by decide +kernel
theorem dL_law_780 : decode cL_law 780 = .ok (.ifCond .eq 5, 3) := by decide +kernel
theorem dL_law_785 : decode cL_law 785 = .ok (.goto 1075, 3) := by decide +kernel
theorem dL_law_788 : decode cL_law 788 = .ok (.aload_n 1, 1) := by decide +kernel
theorem dL_law_789 : decode cL_law 789 = .ok (.aload_n 0, 1) := by decide +kernel
theorem dL_law_790 : decode cL_law 790 = .ok (.iload 4, 2) := by decide +kernel
theorem dL_law_792 : decode cL_law 792 = .ok (.iconst 1, 1) := by decide +kernel
theorem dL_law_793 : decode cL_law 793 = .ok (.iadd, 1) := by decide +kernel
theorem dL_law_794 : decode cL_law 794 = .ok (.iaload, 1) := by decide +kernel
theorem dL_law_795 : decode cL_law 795 = .ok (.aload_n 0, 1) := by decide +kernel
theorem dL_law_796 : decode cL_law 796 = .ok (.iload 4, 2) := by decide +kernel
theorem dL_law_798 : decode cL_law 798 = .ok (.iconst 2, 1) := by decide +kernel
theorem dL_law_799 : decode cL_law 799 = .ok (.iadd, 1) := by decide +kernel
theorem dL_law_800 : decode cL_law 800 = .ok (.iaload, 1) := by decide +kernel
theorem dL_law_801 : decode cL_law 801 = .ok (.aload_n 3, 1) := by decide +kernel
theorem dL_law_802 : decode cL_law 802 = .ok (.invokestatic 134, 3) := by decide +kernel
theorem dL_law_805 : decode cL_law 805 = .ok (.istore 5, 2) := by decide +kernel
theorem dL_law_807 : decode cL_law 807 = .ok (.aload_n 2, 1) := by decide +kernel
theorem dL_law_808 : decode cL_law 808 = .ok (.aload_n 0, 1) := by decide +kernel
theorem dL_law_809 : decode cL_law 809 = .ok (.iload 4, 2) := by decide +kernel
theorem dL_law_811 : decode cL_law 811 = .ok (.iconst 1, 1) := by decide +kernel
theorem dL_law_812 : decode cL_law 812 = .ok (.iadd, 1) := by decide +kernel
theorem dL_law_813 : decode cL_law 813 = .ok (.iaload, 1) := by decide +kernel
theorem dL_law_814 : decode cL_law 814 = .ok (.aload_n 0, 1) := by decide +kernel
theorem dL_law_815 : decode cL_law 815 = .ok (.iload 4, 2) := by decide +kernel
theorem dL_law_817 : decode cL_law 817 = .ok (.iconst 2, 1) := by decide +kernel
theorem dL_law_818 : decode cL_law 818 = .ok (.iadd, 1) := by decide +kernel
theorem dL_law_819 : decode cL_law 819 = .ok (.iaload, 1) := by decide +kernel
theorem dL_law_820 : decode cL_law 820 = .ok (.invokevirtual 136, 3) := by decide +kernel
theorem dL_law_823 : decode cL_law 823 = .ok (.istore 6, 2) := by decide +kernel
theorem dL_law_825 : decode cL_law 825 = .ok (.aload_n 2, 1) := by decide +kernel
theorem dL_law_826 : decode cL_law 826 = .ok (.invokevirtual 101, 3) := by decide +kernel
theorem dL_law_829 : decode cL_law 829 = .ok (.iload 5, 2) := by decide +kernel
theorem dL_law_831 : decode cL_law 831 = .ok (.if_icmp .eq 5, 3) := by decide +kernel
theorem dL_law_836 : decode cL_law 836 = .ok (.iload 5, 2) := by decide +kernel
theorem dL_law_838 : decode cL_law 838 = .ok (.ifCond .ne 15, 3) := by decide +kernel
theorem dL_law_841 : decode cL_law 841 = .ok (.aload_n 3, 1) := by decide +kernel
theorem dL_law_842 : decode cL_law 842 = .ok (.iconst 0, 1) := by decide +kernel
theorem dL_law_843 : decode cL_law 843 = .ok (.laload, 1) := by decide +kernel
theorem dL_law_844 : decode cL_law 844 = .ok (.iload 6, 2) := by decide +kernel
theorem dL_law_846 : decode cL_law 846 = .ok (.i2l, 1) := by decide +kernel
theorem dL_law_847 : decode cL_law 847 = .ok (.lcmp, 1) := by decide +kernel
theorem dL_law_848 : decode cL_law 848 = .ok (.ifCond .eq 5, 3) := by decide +kernel
theorem dL_law_853 : decode cL_law 853 = .ok (.goto 1007, 3) := by decide +kernel
theorem dL_law_1692 : decode cL_law 1692 = .ok (.aload_n 1, 1) := by decide +kernel
theorem dL_law_1693 : decode cL_law 1693 = .ok (.aload_n 0, 1) := by decide +kernel
theorem dL_law_1694 : decode cL_law 1694 = .ok (.iload 4, 2) := by decide +kernel
theorem dL_law_1696 : decode cL_law 1696 = .ok (.iconst 1, 1) := by decide +kernel
theorem dL_law_1697 : decode cL_law 1697 = .ok (.iadd, 1) := by decide +kernel
theorem dL_law_1698 : decode cL_law 1698 = .ok (.iaload, 1) := by decide +kernel
theorem dL_law_1699 : decode cL_law 1699 = .ok (.aload_n 3, 1) := by decide +kernel
theorem dL_law_1700 : decode cL_law 1700 = .ok (.invokestatic 179, 3) := by decide +kernel
theorem dL_law_1703 : decode cL_law 1703 = .ok (.istore 5, 2) := by decide +kernel
theorem dL_law_1705 : decode cL_law 1705 = .ok (.aload_n 2, 1) := by decide +kernel
theorem dL_law_1706 : decode cL_law 1706 = .ok (.aload_n 0, 1) := by decide +kernel
theorem dL_law_1707 : decode cL_law 1707 = .ok (.iload 4, 2) := by decide +kernel
theorem dL_law_1709 : decode cL_law 1709 = .ok (.iconst 1, 1) := by decide +kernel
theorem dL_law_1710 : decode cL_law 1710 = .ok (.iadd, 1) := by decide +kernel
theorem dL_law_1711 : decode cL_law 1711 = .ok (.iaload, 1) := by decide +kernel
theorem dL_law_1712 : decode cL_law 1712 = .ok (.invokevirtual 181, 3) := by decide +kernel
theorem dL_law_1715 : decode cL_law 1715 = .ok (.istore 6, 2) := by decide +kernel
theorem dL_law_1717 : decode cL_law 1717 = .ok (.aload_n 2, 1) := by decide +kernel
theorem dL_law_1718 : decode cL_law 1718 = .ok (.invokevirtual 101, 3) := by decide +kernel
theorem dL_law_1721 : decode cL_law 1721 = .ok (.iload 5, 2) := by decide +kernel
theorem dL_law_1723 : decode cL_law 1723 = .ok (.if_icmp .eq 5, 3) := by decide +kernel
theorem dL_law_1728 : decode cL_law 1728 = .ok (.iload 5, 2) := by decide +kernel
theorem dL_law_1730 : decode cL_law 1730 = .ok (.ifCond .ne 15, 3) := by decide +kernel
theorem dL_law_1733 : decode cL_law 1733 = .ok (.aload_n 3, 1) := by decide +kernel
theorem dL_law_1734 : decode cL_law 1734 = .ok (.iconst 0, 1) := by decide +kernel
theorem dL_law_1735 : decode cL_law 1735 = .ok (.laload, 1) := by decide +kernel
theorem dL_law_1736 : decode cL_law 1736 = .ok (.iload 6, 2) := by decide +kernel
theorem dL_law_1738 : decode cL_law 1738 = .ok (.i2l, 1) := by decide +kernel
theorem dL_law_1739 : decode cL_law 1739 = .ok (.lcmp, 1) := by decide +kernel
theorem dL_law_1740 : decode cL_law 1740 = .ok (.ifCond .eq 5, 3) := by decide +kernel
theorem dL_law_1745 : decode cL_law 1745 = .ok (.goto 115, 3) := by decide +kernel
theorem dL_law_1748 : decode cL_law 1748 = .ok (.aload_n 1, 1) := by decide +kernel
theorem dL_law_1749 : decode cL_law 1749 = .ok (.aload_n 0, 1) := by decide +kernel
theorem dL_law_1750 : decode cL_law 1750 = .ok (.iload 4, 2) := by decide +kernel
theorem dL_law_1752 : decode cL_law 1752 = .ok (.iconst 1, 1) := by decide +kernel
theorem dL_law_1753 : decode cL_law 1753 = .ok (.iadd, 1) := by decide +kernel
theorem dL_law_1754 : decode cL_law 1754 = .ok (.iaload, 1) := by decide +kernel
theorem dL_law_1755 : decode cL_law 1755 = .ok (.aload_n 3, 1) := by decide +kernel
theorem dL_law_1756 : decode cL_law 1756 = .ok (.invokestatic 182, 3) := by decide +kernel
theorem dL_law_1759 : decode cL_law 1759 = .ok (.istore 5, 2) := by decide +kernel
theorem dL_law_1761 : decode cL_law 1761 = .ok (.aload_n 2, 1) := by decide +kernel
theorem dL_law_1762 : decode cL_law 1762 = .ok (.aload_n 0, 1) := by decide +kernel
theorem dL_law_1763 : decode cL_law 1763 = .ok (.iload 4, 2) := by decide +kernel
theorem dL_law_1765 : decode cL_law 1765 = .ok (.iconst 1, 1) := by decide +kernel
theorem dL_law_1766 : decode cL_law 1766 = .ok (.iadd, 1) := by decide +kernel
theorem dL_law_1767 : decode cL_law 1767 = .ok (.iaload, 1) := by decide +kernel
theorem dL_law_1768 : decode cL_law 1768 = .ok (.invokevirtual 184, 3) := by decide +kernel
theorem dL_law_1771 : decode cL_law 1771 = .ok (.istore 6, 2) := by decide +kernel
theorem dL_law_1773 : decode cL_law 1773 = .ok (.aload_n 2, 1) := by decide +kernel
theorem dL_law_1774 : decode cL_law 1774 = .ok (.invokevirtual 101, 3) := by decide +kernel
theorem dL_law_1777 : decode cL_law 1777 = .ok (.iload 5, 2) := by decide +kernel
theorem dL_law_1779 : decode cL_law 1779 = .ok (.if_icmp .eq 5, 3) := by decide +kernel
theorem dL_law_1784 : decode cL_law 1784 = .ok (.iload 5, 2) := by decide +kernel
theorem dL_law_1786 : decode cL_law 1786 = .ok (.ifCond .ne 15, 3) := by decide +kernel
theorem dL_law_1789 : decode cL_law 1789 = .ok (.aload_n 3, 1) := by decide +kernel
theorem dL_law_1790 : decode cL_law 1790 = .ok (.iconst 0, 1) := by decide +kernel
theorem dL_law_1791 : decode cL_law 1791 = .ok (.laload, 1) := by decide +kernel
theorem dL_law_1792 : decode cL_law 1792 = .ok (.iload 6, 2) := by decide +kernel
theorem dL_law_1794 : decode cL_law 1794 = .ok (.i2l, 1) := by decide +kernel
theorem dL_law_1795 : decode cL_law 1795 = .ok (.lcmp, 1) := by decide +kernel
theorem dL_law_1796 : decode cL_law 1796 = .ok (.ifCond .eq 5, 3) := by decide +kernel
theorem dL_law_1801 : decode cL_law 1801 = .ok (.goto 59, 3) := by decide +kernel
theorem dL_law_1804 : decode cL_law 1804 = .ok (.aload_n 1, 1) := by decide +kernel
theorem dL_law_1805 : decode cL_law 1805 = .ok (.aload_n 0, 1) := by decide +kernel
theorem dL_law_1806 : decode cL_law 1806 = .ok (.iload 4, 2) := by decide +kernel
theorem dL_law_1808 : decode cL_law 1808 = .ok (.iconst 1, 1) := by decide +kernel
theorem dL_law_1809 : decode cL_law 1809 = .ok (.iadd, 1) := by decide +kernel
theorem dL_law_1810 : decode cL_law 1810 = .ok (.iaload, 1) := by decide +kernel
theorem dL_law_1811 : decode cL_law 1811 = .ok (.aload_n 3, 1) := by decide +kernel
theorem dL_law_1812 : decode cL_law 1812 = .ok (.invokestatic 185, 3) := by decide +kernel
theorem dL_law_1815 : decode cL_law 1815 = .ok (.istore 5, 2) := by decide +kernel
theorem dL_law_1817 : decode cL_law 1817 = .ok (.aload_n 2, 1) := by decide +kernel
theorem dL_law_1818 : decode cL_law 1818 = .ok (.aload_n 0, 1) := by decide +kernel
theorem dL_law_1819 : decode cL_law 1819 = .ok (.iload 4, 2) := by decide +kernel
theorem dL_law_1821 : decode cL_law 1821 = .ok (.iconst 1, 1) := by decide +kernel
theorem dL_law_1822 : decode cL_law 1822 = .ok (.iadd, 1) := by decide +kernel
theorem dL_law_1823 : decode cL_law 1823 = .ok (.iaload, 1) := by decide +kernel
theorem dL_law_1824 : decode cL_law 1824 = .ok (.invokevirtual 187, 3) := by decide +kernel
theorem dL_law_1827 : decode cL_law 1827 = .ok (.istore 6, 2) := by decide +kernel
theorem dL_law_1829 : decode cL_law 1829 = .ok (.aload_n 2, 1) := by decide +kernel
theorem dL_law_1830 : decode cL_law 1830 = .ok (.invokevirtual 101, 3) := by decide +kernel
theorem dL_law_1833 : decode cL_law 1833 = .ok (.iload 5, 2) := by decide +kernel
theorem dL_law_1835 : decode cL_law 1835 = .ok (.if_icmp .eq 5, 3) := by decide +kernel
theorem dL_law_1840 : decode cL_law 1840 = .ok (.iload 5, 2) := by decide +kernel
theorem dL_law_1842 : decode cL_law 1842 = .ok (.ifCond .ne 15, 3) := by decide +kernel
theorem dL_law_1845 : decode cL_law 1845 = .ok (.aload_n 3, 1) := by decide +kernel
theorem dL_law_1846 : decode cL_law 1846 = .ok (.iconst 0, 1) := by decide +kernel
theorem dL_law_1847 : decode cL_law 1847 = .ok (.laload, 1) := by decide +kernel
theorem dL_law_1848 : decode cL_law 1848 = .ok (.iload 6, 2) := by decide +kernel
theorem dL_law_1850 : decode cL_law 1850 = .ok (.i2l, 1) := by decide +kernel
theorem dL_law_1851 : decode cL_law 1851 = .ok (.lcmp, 1) := by decide +kernel
theorem dL_law_1852 : decode cL_law 1852 = .ok (.ifCond .eq 5, 3) := by decide +kernel
theorem dL_law_1857 : decode cL_law 1857 = .ok (.goto 3, 3) := by decide +kernel
theorem kl_target : wl_SW yL_target cL_target 4 [(0, 9, 12, 13)] 3 := ⟨wd_c_L_target, wd_t_L_target, wd_n_L, by decide, by decide +kernel⟩
set_option maxHeartbeats 4000000 in
set_option maxRecDepth 100000 in
theorem lc_target {p : Program} {l : Launch} {e : Env} {s : State} {m : MethodId} {below : List Frame} {meth : Method} {c : Code} {b L : Nat} {xs : Nat → Int32} {G : k_G} {o : Nat} {a : Nat → Nat} {w : Nat} {cJ : ClassId} {xa : Nat} {Q : State → Prop} {t : Nat} (hF : CallFix p m c cL_law 7 s #[Value.ref b] wsL_law RL) (hX : ll_F l G o a w cJ s) (hSc : va_X b L xs s s.heap) (hbl : b < s.heap.size) (hL : L ≤ 3072) (ht : 6 * t + 6 ≤ L) (hnext : ll_W p l e s m below meth c b G o a w cJ xa Q (t + 1) t 1860) : ll_W p l e s m below meth c b G o a w cJ xa Q t t 1692 := by
  intro mm ad f0 H locs ls hI hN hK h00 hA hS hl
  subst h00
  have hx := hF.1
  have hb := hF.2.1
  have hK1 : sp_K mm < 512 := by omega
  have hbA : ¬ ll_0 s.heap.size b := Nat.not_le.mpr hbl
  refine lv_aload_n hx hb dL_law_1692 rfl (lv_at hl 1 rfl) ?_
  refine lv_aload_n hx hb dL_law_1693 rfl (lv_at hl 0 rfl) ?_
  refine lv_iload hx hb dL_law_1694 (lv_at hl 4 rfl) ?_
  refine lv_iconst (v := 1) hx hb dL_law_1696 (by decide) ?_
  refine lv_iadd hx hb dL_law_1697 ?_
  refine bo_to (v := nI (6 * t + 1)) (nI_add (6 * t) 1) ?_
  refine va_sld hF.1 hF.2.1 hSc hbl hbA hS (vp_in_nI (by omega) (by omega)) dL_law_1698 ?_
  refine bo_to (v := xs (6 * t + 1)) (by rw [nI_clamp (by omega)]) ?_
  refine lv_aload_n hx hb dL_law_1699 rfl (lv_at hl 3 rfl) ?_
  refine ll_L (fr := 8) (lo := 139) (mc := 1) (ms := 6) (n := 3) (As := [.ref (ad 0 0), .int (xs (6 * t + 1)), .ref w]) (rest := []) hF (m_L_target l hX.1 G _ w cJ ad mm f0 (xs (6 * t + 1)) hI) kl_target wd_l_L_179 (by decide) hX hA hS rfl hl.1 rfl (Nat.le_of_ble_eq_true rfl) dL_law_1700 (by show 30 + 10 * t + 1 ≤ 601024 ∧ 20000 + 100 * t + 6 ≤ 7293034; omega) (fun r ad1 ct1 f1 H locs hr hA hS => ?_)
  obtain ⟨hr19, hct, h01, hf1⟩ := hr
  replace hct : ct1 = k_C G ad1 (sp_tar mm (xs (6 * t + 1))).2 := hct
  subst hct
  replace h01 : ad1 0 0 = ad 0 0 := h01
  replace hr19 : r = (sp_tar mm (xs (6 * t + 1))).2 19 0 := hr19
  replace hf1 : r = 0 → f1 0 = Int32.toInt64 (sp_tar mm (xs (6 * t + 1))).1 := hf1
  refine lv_istore (lv' := [(5, .int r), (0, .ref b), (1, .ref (ad 0 0)), (2, .ref o), (3, .ref w), (4, .int (nI (6 * t)))]) hx hb dL_law_1703 hl (by decide) rfl (fun ls hl => ?_)
  refine lv_aload_n hx hb dL_law_1705 rfl (lv_at hl 3 rfl) ?_
  refine lv_aload_n hx hb dL_law_1706 rfl (lv_at hl 1 rfl) ?_
  refine lv_iload hx hb dL_law_1707 (lv_at hl 5 rfl) ?_
  refine lv_iconst (v := 1) hx hb dL_law_1709 (by decide) ?_
  refine lv_iadd hx hb dL_law_1710 ?_
  refine bo_to (v := nI (6 * t + 1)) (nI_add (6 * t) 1) ?_
  refine va_sld hF.1 hF.2.1 hSc hbl hbA hS (vp_in_nI (by omega) (by omega)) dL_law_1711 ?_
  refine bo_to (v := xs (6 * t + 1)) (by rw [nI_clamp (by omega)]) ?_
  refine ll_R (fr := 3) (lo := 74) (n := 1) (As := [.int (xs (6 * t + 1))]) (rest := []) hF (m_X5_target l G.1 G.2.1 o a mm hX.2.2.2.2.2.2.1 (xs (6 * t + 1)) hI hN) ke_X5_target wd_l_L_181 (by decide) hX hA hS rfl hl.1 rfl (Nat.le_of_ble_eq_true rfl) dL_law_1712 (by show 30 + 10 * t + 1 ≤ 601024 ∧ 20000 + 100 * t + 6 ≤ 7293034; omega) (fun r2 m2 H locs hr2 hA hS => ?_)
  have e1 : r2 = (sp_tar mm (xs (6 * t + 1))).1 := congrArg Prod.fst hr2
  have e2 : m2 = (sp_tar mm (xs (6 * t + 1))).2 := congrArg Prod.snd hr2
  have ex : eqx m2 (sp_tar mm (xs (6 * t + 1))).2 := by rw [e2]; exact eqx.rf _
  have hN2 : ∀ v, v < 40 → sp_N m2 v := fun v hv => by rw [e2]; exact (NS.tar).N (hN v hv)
  have hIK : IK mm (sp_tar mm (xs (6 * t + 1))).2 := IK_tar hI
  have hK2 : sp_K m2 ≤ t + 1 := by
    have h8 := hIK.2
    have h9 : sp_K m2 = sp_K (sp_tar mm (xs (6 * t + 1))).2 := by unfold sp_K; rw [ex 10 (by decide) (by decide)]
    omega
  refine lv_istore (lv' := [(6, .int r2), (5, .int r), (0, .ref b), (1, .ref (ad 0 0)), (2, .ref o), (3, .ref w), (4, .int (nI (6 * t)))]) hx hb dL_law_1715 hl (by decide) rfl (fun ls hl => ?_)
  refine lv_aload_n hx hb dL_law_1717 rfl (lv_at hl 4 rfl) ?_
  refine ll_T hF wd_l_L_101 (by decide) hX hA hl.1 (Nat.le_of_ble_eq_true rfl) dL_law_1718 (by show 30 + 10 * t + 1 ≤ 601024 ∧ 20000 + 100 * t + 6 ≤ 7293034; omega) ?_
  have h9 : m2 19 0 = r := by rw [hr19, ex 19 (by decide) (by decide)]
  refine lv_iload hx hb dL_law_1721 (lv_at hl 1 rfl) ?_
  refine lv_icmp_eq (tgt := 1728) hx hb dL_law_1723 (by decide) (fun c1723 => ?_) (fun c1723 => ?_)
  · skip
    refine lv_iload hx hb dL_law_1728 (lv_at hl 1 rfl) ?_
    refine lv_if_ne (tgt := 1745) hx hb dL_law_1730 (by decide) (fun cN => ?_) (fun cN => ?_)
    · skip
      refine lv_goto (tgt := 1860) hx hb dL_law_1745 (by decide) ?_
      refine W.widen (k := 30 + 10 * (t + 1)) (n := 20000 + 100 * (t + 1)) (by omega) (by omega) ?_
      exact hnext m2 ad1 f1 H locs ls (Inv_ext ex.sm hIK.1) hN2 hK2 h01 (by rw [kC_x ex]; exact hA) hS (lv_sub hl [2, 3, 4, 5, 6] rfl)
    · skip
      refine lv_aload_n hx hb dL_law_1733 rfl (lv_at hl 5 rfl) ?_
      refine lv_iconst (v := 0) hx hb dL_law_1734 (by decide) ?_
      refine va_lald hF.1 hF.2.1 hX.2.2.2.1 (mo_one hA.2.2.2) 0 0 rfl rfl (show vp_in (nI 0) 1 from vp_in_nI (by decide) (by decide)) dL_law_1735 ?_
      refine bo_toV (v := .long (Int32.toInt64 r2)) (by rw [e1]; exact congrArg Value.long (hf1 cN)) ?_
      refine lv_iload hx hb dL_law_1736 (lv_at hl 0 rfl) ?_
      refine lv_i2l (v := Int32.toInt64 r2) hx hb dL_law_1738 rfl ?_
      refine W.lcmp hx hb dL_law_1739 ?_
      refine bo_to (v := 0) (by simp [lg_cmp]) ?_
      refine lv_if_eq (tgt := 1745) hx hb dL_law_1740 (by decide) (fun cE => ?_) (fun cE => ?_)
      · skip
        refine lv_goto (tgt := 1860) hx hb dL_law_1745 (by decide) ?_
        refine W.widen (k := 30 + 10 * (t + 1)) (n := 20000 + 100 * (t + 1)) (by omega) (by omega) ?_
        exact hnext m2 ad1 f1 H locs ls (Inv_ext ex.sm hIK.1) hN2 hK2 h01 (by rw [kC_x ex]; exact hA) hS (lv_sub hl [2, 3, 4, 5, 6] rfl)
      · skip
        exact absurd rfl cE
  · skip
    exact absurd h9 c1723
theorem kl_send : wl_SW yL_send cL_send 4 [(0, 9, 12, 13), (0, 9, 15, 17)] 3 := ⟨wd_c_L_send, wd_t_L_send, wd_n_L, by decide, by decide +kernel⟩
set_option maxHeartbeats 4000000 in
set_option maxRecDepth 100000 in
theorem lc_send {p : Program} {l : Launch} {e : Env} {s : State} {m : MethodId} {below : List Frame} {meth : Method} {c : Code} {b L : Nat} {xs : Nat → Int32} {G : k_G} {o : Nat} {a : Nat → Nat} {w : Nat} {cJ : ClassId} {xa : Nat} {Q : State → Prop} {t : Nat} (hF : CallFix p m c cL_law 7 s #[Value.ref b] wsL_law RL) (hX : ll_F l G o a w cJ s) (hSc : va_X b L xs s s.heap) (hbl : b < s.heap.size) (hL : L ≤ 3072) (ht : 6 * t + 6 ≤ L) (hnext : ll_W p l e s m below meth c b G o a w cJ xa Q (t + 1) t 1860) : ll_W p l e s m below meth c b G o a w cJ xa Q t t 1748 := by
  intro mm ad f0 H locs ls hI hN hK h00 hA hS hl
  subst h00
  have hx := hF.1
  have hb := hF.2.1
  have hK1 : sp_K mm < 512 := by omega
  have hbA : ¬ ll_0 s.heap.size b := Nat.not_le.mpr hbl
  refine lv_aload_n hx hb dL_law_1748 rfl (lv_at hl 1 rfl) ?_
  refine lv_aload_n hx hb dL_law_1749 rfl (lv_at hl 0 rfl) ?_
  refine lv_iload hx hb dL_law_1750 (lv_at hl 4 rfl) ?_
  refine lv_iconst (v := 1) hx hb dL_law_1752 (by decide) ?_
  refine lv_iadd hx hb dL_law_1753 ?_
  refine bo_to (v := nI (6 * t + 1)) (nI_add (6 * t) 1) ?_
  refine va_sld hF.1 hF.2.1 hSc hbl hbA hS (vp_in_nI (by omega) (by omega)) dL_law_1754 ?_
  refine bo_to (v := xs (6 * t + 1)) (by rw [nI_clamp (by omega)]) ?_
  refine lv_aload_n hx hb dL_law_1755 rfl (lv_at hl 3 rfl) ?_
  refine ll_L (fr := 8) (lo := 144) (mc := 3) (ms := 18) (n := 3) (As := [.ref (ad 0 0), .int (xs (6 * t + 1)), .ref w]) (rest := []) hF (m_L_send l hX.1 G _ w cJ ad mm f0 (xs (6 * t + 1)) hI) kl_send wd_l_L_182 (by decide) hX hA hS rfl hl.1 rfl (Nat.le_of_ble_eq_true rfl) dL_law_1756 (by show 30 + 10 * t + 3 ≤ 601024 ∧ 20000 + 100 * t + 18 ≤ 7293034; omega) (fun r ad1 ct1 f1 H locs hr hA hS => ?_)
  obtain ⟨hr19, hct, h01, hf1⟩ := hr
  replace hct : ct1 = k_C G ad1 (sp_snd mm (xs (6 * t + 1))).2 := hct
  subst hct
  replace h01 : ad1 0 0 = ad 0 0 := h01
  replace hr19 : r = (sp_snd mm (xs (6 * t + 1))).2 19 0 := hr19
  replace hf1 : r = 0 → f1 0 = Int32.toInt64 (sp_snd mm (xs (6 * t + 1))).1 := hf1
  refine lv_istore (lv' := [(5, .int r), (0, .ref b), (1, .ref (ad 0 0)), (2, .ref o), (3, .ref w), (4, .int (nI (6 * t)))]) hx hb dL_law_1759 hl (by decide) rfl (fun ls hl => ?_)
  refine lv_aload_n hx hb dL_law_1761 rfl (lv_at hl 3 rfl) ?_
  refine lv_aload_n hx hb dL_law_1762 rfl (lv_at hl 1 rfl) ?_
  refine lv_iload hx hb dL_law_1763 (lv_at hl 5 rfl) ?_
  refine lv_iconst (v := 1) hx hb dL_law_1765 (by decide) ?_
  refine lv_iadd hx hb dL_law_1766 ?_
  refine bo_to (v := nI (6 * t + 1)) (nI_add (6 * t) 1) ?_
  refine va_sld hF.1 hF.2.1 hSc hbl hbA hS (vp_in_nI (by omega) (by omega)) dL_law_1767 ?_
  refine bo_to (v := xs (6 * t + 1)) (by rw [nI_clamp (by omega)]) ?_
  refine ll_R (fr := 3) (lo := 74) (n := 1) (As := [.int (xs (6 * t + 1))]) (rest := []) hF (m_X5_send l G.1 G.2.1 o a mm hX.2.2.2.2.2.2.1 (xs (6 * t + 1)) hI hN) ke_X5_send wd_l_L_184 (by decide) hX hA hS rfl hl.1 rfl (Nat.le_of_ble_eq_true rfl) dL_law_1768 (by show 30 + 10 * t + 3 ≤ 601024 ∧ 20000 + 100 * t + 18 ≤ 7293034; omega) (fun r2 m2 H locs hr2 hA hS => ?_)
  have e1 : r2 = (sp_snd mm (xs (6 * t + 1))).1 := congrArg Prod.fst hr2
  have e2 : m2 = (sp_snd mm (xs (6 * t + 1))).2 := congrArg Prod.snd hr2
  have ex : eqx m2 (sp_snd mm (xs (6 * t + 1))).2 := by rw [e2]; exact eqx.rf _
  have hN2 : ∀ v, v < 40 → sp_N m2 v := fun v hv => by rw [e2]; exact (NS.snd).N (hN v hv)
  have hIK : IK mm (sp_snd mm (xs (6 * t + 1))).2 := IK_snd hI
  have hK2 : sp_K m2 ≤ t + 1 := by
    have h8 := hIK.2
    have h9 : sp_K m2 = sp_K (sp_snd mm (xs (6 * t + 1))).2 := by unfold sp_K; rw [ex 10 (by decide) (by decide)]
    omega
  refine lv_istore (lv' := [(6, .int r2), (5, .int r), (0, .ref b), (1, .ref (ad 0 0)), (2, .ref o), (3, .ref w), (4, .int (nI (6 * t)))]) hx hb dL_law_1771 hl (by decide) rfl (fun ls hl => ?_)
  refine lv_aload_n hx hb dL_law_1773 rfl (lv_at hl 4 rfl) ?_
  refine ll_T hF wd_l_L_101 (by decide) hX hA hl.1 (Nat.le_of_ble_eq_true rfl) dL_law_1774 (by show 30 + 10 * t + 3 ≤ 601024 ∧ 20000 + 100 * t + 18 ≤ 7293034; omega) ?_
  have h9 : m2 19 0 = r := by rw [hr19, ex 19 (by decide) (by decide)]
  refine lv_iload hx hb dL_law_1777 (lv_at hl 1 rfl) ?_
  refine lv_icmp_eq (tgt := 1784) hx hb dL_law_1779 (by decide) (fun c1779 => ?_) (fun c1779 => ?_)
  · skip
    refine lv_iload hx hb dL_law_1784 (lv_at hl 1 rfl) ?_
    refine lv_if_ne (tgt := 1801) hx hb dL_law_1786 (by decide) (fun cN => ?_) (fun cN => ?_)
    · skip
      refine lv_goto (tgt := 1860) hx hb dL_law_1801 (by decide) ?_
      refine W.widen (k := 30 + 10 * (t + 1)) (n := 20000 + 100 * (t + 1)) (by omega) (by omega) ?_
      exact hnext m2 ad1 f1 H locs ls (Inv_ext ex.sm hIK.1) hN2 hK2 h01 (by rw [kC_x ex]; exact hA) hS (lv_sub hl [2, 3, 4, 5, 6] rfl)
    · skip
      refine lv_aload_n hx hb dL_law_1789 rfl (lv_at hl 5 rfl) ?_
      refine lv_iconst (v := 0) hx hb dL_law_1790 (by decide) ?_
      refine va_lald hF.1 hF.2.1 hX.2.2.2.1 (mo_one hA.2.2.2) 0 0 rfl rfl (show vp_in (nI 0) 1 from vp_in_nI (by decide) (by decide)) dL_law_1791 ?_
      refine bo_toV (v := .long (Int32.toInt64 r2)) (by rw [e1]; exact congrArg Value.long (hf1 cN)) ?_
      refine lv_iload hx hb dL_law_1792 (lv_at hl 0 rfl) ?_
      refine lv_i2l (v := Int32.toInt64 r2) hx hb dL_law_1794 rfl ?_
      refine W.lcmp hx hb dL_law_1795 ?_
      refine bo_to (v := 0) (by simp [lg_cmp]) ?_
      refine lv_if_eq (tgt := 1801) hx hb dL_law_1796 (by decide) (fun cE => ?_) (fun cE => ?_)
      · skip
        refine lv_goto (tgt := 1860) hx hb dL_law_1801 (by decide) ?_
        refine W.widen (k := 30 + 10 * (t + 1)) (n := 20000 + 100 * (t + 1)) (by omega) (by omega) ?_
        exact hnext m2 ad1 f1 H locs ls (Inv_ext ex.sm hIK.1) hN2 hK2 h01 (by rw [kC_x ex]; exact hA) hS (lv_sub hl [2, 3, 4, 5, 6] rfl)
      · skip
        exact absurd rfl cE
  · skip
    exact absurd h9 c1779
theorem kl_carAt : wl_SW yL_carAt cL_carAt 4 [(0, 9, 12, 13)] 3 := ⟨wd_c_L_carAt, wd_t_L_carAt, wd_n_L, by decide, by decide +kernel⟩
set_option maxHeartbeats 4000000 in
set_option maxRecDepth 100000 in
theorem lc_carAt {p : Program} {l : Launch} {e : Env} {s : State} {m : MethodId} {below : List Frame} {meth : Method} {c : Code} {b L : Nat} {xs : Nat → Int32} {G : k_G} {o : Nat} {a : Nat → Nat} {w : Nat} {cJ : ClassId} {xa : Nat} {Q : State → Prop} {t : Nat} (hF : CallFix p m c cL_law 7 s #[Value.ref b] wsL_law RL) (hX : ll_F l G o a w cJ s) (hSc : va_X b L xs s s.heap) (hbl : b < s.heap.size) (hL : L ≤ 3072) (ht : 6 * t + 6 ≤ L) (hnext : ll_W p l e s m below meth c b G o a w cJ xa Q (t + 1) t 1860) : ll_W p l e s m below meth c b G o a w cJ xa Q t t 1804 := by
  intro mm ad f0 H locs ls hI hN hK h00 hA hS hl
  subst h00
  have hx := hF.1
  have hb := hF.2.1
  have hK1 : sp_K mm < 512 := by omega
  have hbA : ¬ ll_0 s.heap.size b := Nat.not_le.mpr hbl
  refine lv_aload_n hx hb dL_law_1804 rfl (lv_at hl 1 rfl) ?_
  refine lv_aload_n hx hb dL_law_1805 rfl (lv_at hl 0 rfl) ?_
  refine lv_iload hx hb dL_law_1806 (lv_at hl 4 rfl) ?_
  refine lv_iconst (v := 1) hx hb dL_law_1808 (by decide) ?_
  refine lv_iadd hx hb dL_law_1809 ?_
  refine bo_to (v := nI (6 * t + 1)) (nI_add (6 * t) 1) ?_
  refine va_sld hF.1 hF.2.1 hSc hbl hbA hS (vp_in_nI (by omega) (by omega)) dL_law_1810 ?_
  refine bo_to (v := xs (6 * t + 1)) (by rw [nI_clamp (by omega)]) ?_
  refine lv_aload_n hx hb dL_law_1811 rfl (lv_at hl 3 rfl) ?_
  refine ll_L (fr := 8) (lo := 131) (mc := 1) (ms := 6) (n := 3) (As := [.ref (ad 0 0), .int (xs (6 * t + 1)), .ref w]) (rest := []) hF (m_L_carAt l hX.1 G _ w cJ ad mm f0 (xs (6 * t + 1))) kl_carAt wd_l_L_185 (by decide) hX hA hS rfl hl.1 rfl (Nat.le_of_ble_eq_true rfl) dL_law_1812 (by show 30 + 10 * t + 1 ≤ 601024 ∧ 20000 + 100 * t + 6 ≤ 7293034; omega) (fun r ad1 ct1 f1 H locs hr hA hS => ?_)
  obtain ⟨hr19, hct, h01, hf1⟩ := hr
  replace hct : ct1 = k_C G ad1 (sp_cat mm (xs (6 * t + 1))).2 := hct
  subst hct
  replace h01 : ad1 0 0 = ad 0 0 := h01
  replace hr19 : r = (sp_cat mm (xs (6 * t + 1))).2 19 0 := hr19
  replace hf1 : r = 0 → f1 0 = Int32.toInt64 (sp_cat mm (xs (6 * t + 1))).1 := hf1
  refine lv_istore (lv' := [(5, .int r), (0, .ref b), (1, .ref (ad 0 0)), (2, .ref o), (3, .ref w), (4, .int (nI (6 * t)))]) hx hb dL_law_1815 hl (by decide) rfl (fun ls hl => ?_)
  refine lv_aload_n hx hb dL_law_1817 rfl (lv_at hl 3 rfl) ?_
  refine lv_aload_n hx hb dL_law_1818 rfl (lv_at hl 1 rfl) ?_
  refine lv_iload hx hb dL_law_1819 (lv_at hl 5 rfl) ?_
  refine lv_iconst (v := 1) hx hb dL_law_1821 (by decide) ?_
  refine lv_iadd hx hb dL_law_1822 ?_
  refine bo_to (v := nI (6 * t + 1)) (nI_add (6 * t) 1) ?_
  refine va_sld hF.1 hF.2.1 hSc hbl hbA hS (vp_in_nI (by omega) (by omega)) dL_law_1823 ?_
  refine bo_to (v := xs (6 * t + 1)) (by rw [nI_clamp (by omega)]) ?_
  refine ll_R (fr := 1) (lo := 21) (n := 1) (As := [.int (xs (6 * t + 1))]) (rest := []) hF (m_X5_carAt l G.1 G.2.1 o a mm hX.2.2.2.2.2.2.1 (xs (6 * t + 1))) ke_X5_carAt wd_l_L_187 (by decide) hX hA hS rfl hl.1 rfl (Nat.le_of_ble_eq_true rfl) dL_law_1824 (by show 30 + 10 * t + 1 ≤ 601024 ∧ 20000 + 100 * t + 6 ≤ 7293034; omega) (fun r2 m2 H locs hr2 hA hS => ?_)
  have e1 : r2 = (sp_cat mm (xs (6 * t + 1))).1 := congrArg Prod.fst hr2
  have e2 : m2 = (sp_cat mm (xs (6 * t + 1))).2 := congrArg Prod.snd hr2
  have ex : eqx m2 (sp_cat mm (xs (6 * t + 1))).2 := by rw [e2]; exact eqx.rf _
  have hN2 : ∀ v, v < 40 → sp_N m2 v := fun v hv => by rw [e2]; exact (NS.cat).N (hN v hv)
  have hIK : IK mm (sp_cat mm (xs (6 * t + 1))).2 := IK_cat hI
  have hK2 : sp_K m2 ≤ t + 1 := by
    have h8 := hIK.2
    have h9 : sp_K m2 = sp_K (sp_cat mm (xs (6 * t + 1))).2 := by unfold sp_K; rw [ex 10 (by decide) (by decide)]
    omega
  refine lv_istore (lv' := [(6, .int r2), (5, .int r), (0, .ref b), (1, .ref (ad 0 0)), (2, .ref o), (3, .ref w), (4, .int (nI (6 * t)))]) hx hb dL_law_1827 hl (by decide) rfl (fun ls hl => ?_)
  refine lv_aload_n hx hb dL_law_1829 rfl (lv_at hl 4 rfl) ?_
  refine ll_T hF wd_l_L_101 (by decide) hX hA hl.1 (Nat.le_of_ble_eq_true rfl) dL_law_1830 (by show 30 + 10 * t + 1 ≤ 601024 ∧ 20000 + 100 * t + 6 ≤ 7293034; omega) ?_
  have h9 : m2 19 0 = r := by rw [hr19, ex 19 (by decide) (by decide)]
  refine lv_iload hx hb dL_law_1833 (lv_at hl 1 rfl) ?_
  refine lv_icmp_eq (tgt := 1840) hx hb dL_law_1835 (by decide) (fun c1835 => ?_) (fun c1835 => ?_)
  · skip
    refine lv_iload hx hb dL_law_1840 (lv_at hl 1 rfl) ?_
    refine lv_if_ne (tgt := 1857) hx hb dL_law_1842 (by decide) (fun cN => ?_) (fun cN => ?_)
    · skip
      refine lv_goto (tgt := 1860) hx hb dL_law_1857 (by decide) ?_
      refine W.widen (k := 30 + 10 * (t + 1)) (n := 20000 + 100 * (t + 1)) (by omega) (by omega) ?_
      exact hnext m2 ad1 f1 H locs ls (Inv_ext ex.sm hIK.1) hN2 hK2 h01 (by rw [kC_x ex]; exact hA) hS (lv_sub hl [2, 3, 4, 5, 6] rfl)
    · skip
      refine lv_aload_n hx hb dL_law_1845 rfl (lv_at hl 5 rfl) ?_
      refine lv_iconst (v := 0) hx hb dL_law_1846 (by decide) ?_
      refine va_lald hF.1 hF.2.1 hX.2.2.2.1 (mo_one hA.2.2.2) 0 0 rfl rfl (show vp_in (nI 0) 1 from vp_in_nI (by decide) (by decide)) dL_law_1847 ?_
      refine bo_toV (v := .long (Int32.toInt64 r2)) (by rw [e1]; exact congrArg Value.long (hf1 cN)) ?_
      refine lv_iload hx hb dL_law_1848 (lv_at hl 0 rfl) ?_
      refine lv_i2l (v := Int32.toInt64 r2) hx hb dL_law_1850 rfl ?_
      refine W.lcmp hx hb dL_law_1851 ?_
      refine bo_to (v := 0) (by simp [lg_cmp]) ?_
      refine lv_if_eq (tgt := 1857) hx hb dL_law_1852 (by decide) (fun cE => ?_) (fun cE => ?_)
      · skip
        refine lv_goto (tgt := 1860) hx hb dL_law_1857 (by decide) ?_
        refine W.widen (k := 30 + 10 * (t + 1)) (n := 20000 + 100 * (t + 1)) (by omega) (by omega) ?_
        exact hnext m2 ad1 f1 H locs ls (Inv_ext ex.sm hIK.1) hN2 hK2 h01 (by rw [kC_x ex]; exact hA) hS (lv_sub hl [2, 3, 4, 5, 6] rfl)
      · skip
        exact absurd rfl cE
  · skip
    exact absurd h9 c1835
theorem kl_revert : wl_SW yL_revert cL_revert 5 [(0, 10, 13, 13), (0, 10, 17, 17)] 4 := ⟨wd_c_L_revert, wd_t_L_revert, wd_n_L, by decide, by decide +kernel⟩
set_option maxHeartbeats 4000000 in
set_option maxRecDepth 100000 in
theorem lc_revert {p : Program} {l : Launch} {e : Env} {s : State} {m : MethodId} {below : List Frame} {meth : Method} {c : Code} {b L : Nat} {xs : Nat → Int32} {G : k_G} {o : Nat} {a : Nat → Nat} {w : Nat} {cJ : ClassId} {xa : Nat} {Q : State → Prop} {t : Nat} (hF : CallFix p m c cL_law 7 s #[Value.ref b] wsL_law RL) (hX : ll_F l G o a w cJ s) (hSc : va_X b L xs s s.heap) (hbl : b < s.heap.size) (hL : L ≤ 3072) (ht : 6 * t + 6 ≤ L) (hnext : ll_W p l e s m below meth c b G o a w cJ xa Q (t + 1) t 1860) : ll_W p l e s m below meth c b G o a w cJ xa Q t t 459 := by
  intro mm ad f0 H locs ls hI hN hK h00 hA hS hl
  subst h00
  have hx := hF.1
  have hb := hF.2.1
  have hK1 : sp_K mm < 512 := by omega
  have hbA : ¬ ll_0 s.heap.size b := Nat.not_le.mpr hbl
  refine lv_aload_n hx hb dL_law_459 rfl (lv_at hl 1 rfl) ?_
  refine lv_aload_n hx hb dL_law_460 rfl (lv_at hl 0 rfl) ?_
  refine lv_iload hx hb dL_law_461 (lv_at hl 4 rfl) ?_
  refine lv_iconst (v := 1) hx hb dL_law_463 (by decide) ?_
  refine lv_iadd hx hb dL_law_464 ?_
  refine bo_to (v := nI (6 * t + 1)) (nI_add (6 * t) 1) ?_
  refine va_sld hF.1 hF.2.1 hSc hbl hbA hS (vp_in_nI (by omega) (by omega)) dL_law_465 ?_
  refine bo_to (v := xs (6 * t + 1)) (by rw [nI_clamp (by omega)]) ?_
  refine lv_aload_n hx hb dL_law_466 rfl (lv_at hl 0 rfl) ?_
  refine lv_iload hx hb dL_law_467 (lv_at hl 4 rfl) ?_
  refine lv_iconst (v := 2) hx hb dL_law_469 (by decide) ?_
  refine lv_iadd hx hb dL_law_470 ?_
  refine bo_to (v := nI (6 * t + 2)) (nI_add (6 * t) 2) ?_
  refine va_sld hF.1 hF.2.1 hSc hbl hbA hS (vp_in_nI (by omega) (by omega)) dL_law_471 ?_
  refine bo_to (v := xs (6 * t + 2)) (by rw [nI_clamp (by omega)]) ?_
  refine lv_aload_n hx hb dL_law_472 rfl (lv_at hl 3 rfl) ?_
  refine ll_L (fr := 8) (lo := 137) (mc := 4) (ms := 19) (n := 4) (As := [.ref (ad 0 0), .int (xs (6 * t + 1)), .int (xs (6 * t + 2)), .ref w]) (rest := []) hF (m_L_revert l hX.1 G _ w cJ ad mm f0 (xs (6 * t + 1)) (xs (6 * t + 2)) hI hK1) kl_revert wd_l_L_113 (by decide) hX hA hS rfl hl.1 rfl (Nat.le_of_ble_eq_true rfl) dL_law_473 (by show 30 + 10 * t + 4 ≤ 601024 ∧ 20000 + 100 * t + 19 ≤ 7293034; omega) (fun r ad1 ct1 f1 H locs hr hA hS => ?_)
  obtain ⟨hr19, hct, h01, hf1⟩ := hr
  replace hct : ct1 = k_C G ad1 (sp_rev mm (xs (6 * t + 1)) (xs (6 * t + 2))).2 := hct
  subst hct
  replace h01 : ad1 0 0 = ad 0 0 := h01
  replace hr19 : r = (sp_rev mm (xs (6 * t + 1)) (xs (6 * t + 2))).2 19 0 := hr19
  replace hf1 : r = 0 → f1 0 = Int32.toInt64 (sp_rev mm (xs (6 * t + 1)) (xs (6 * t + 2))).1 := hf1
  refine lv_istore (lv' := [(5, .int r), (0, .ref b), (1, .ref (ad 0 0)), (2, .ref o), (3, .ref w), (4, .int (nI (6 * t)))]) hx hb dL_law_476 hl (by decide) rfl (fun ls hl => ?_)
  refine lv_aload_n hx hb dL_law_478 rfl (lv_at hl 3 rfl) ?_
  refine lv_aload_n hx hb dL_law_479 rfl (lv_at hl 1 rfl) ?_
  refine lv_iload hx hb dL_law_480 (lv_at hl 5 rfl) ?_
  refine lv_iconst (v := 1) hx hb dL_law_482 (by decide) ?_
  refine lv_iadd hx hb dL_law_483 ?_
  refine bo_to (v := nI (6 * t + 1)) (nI_add (6 * t) 1) ?_
  refine va_sld hF.1 hF.2.1 hSc hbl hbA hS (vp_in_nI (by omega) (by omega)) dL_law_484 ?_
  refine bo_to (v := xs (6 * t + 1)) (by rw [nI_clamp (by omega)]) ?_
  refine lv_aload_n hx hb dL_law_485 rfl (lv_at hl 1 rfl) ?_
  refine lv_iload hx hb dL_law_486 (lv_at hl 5 rfl) ?_
  refine lv_iconst (v := 2) hx hb dL_law_488 (by decide) ?_
  refine lv_iadd hx hb dL_law_489 ?_
  refine bo_to (v := nI (6 * t + 2)) (nI_add (6 * t) 2) ?_
  refine va_sld hF.1 hF.2.1 hSc hbl hbA hS (vp_in_nI (by omega) (by omega)) dL_law_490 ?_
  refine bo_to (v := xs (6 * t + 2)) (by rw [nI_clamp (by omega)]) ?_
  refine ll_R (fr := 1) (lo := 24) (n := 2) (As := [.int (xs (6 * t + 1)), .int (xs (6 * t + 2))]) (rest := []) hF (m_X5_revert l G.1 G.2.1 o a mm hX.2.2.2.2.2.2.1 (xs (6 * t + 1)) (xs (6 * t + 2)) hI) ke_X5_revert wd_l_L_116 (by decide) hX hA hS rfl hl.1 rfl (Nat.le_of_ble_eq_true rfl) dL_law_491 (by show 30 + 10 * t + 4 ≤ 601024 ∧ 20000 + 100 * t + 19 ≤ 7293034; omega) (fun r2 m2 H locs hr2 hA hS => ?_)
  have e1 : r2 = (sp_rev mm (xs (6 * t + 1)) (xs (6 * t + 2))).1 := congrArg Prod.fst hr2
  have e2 : m2 = (sp_rev mm (xs (6 * t + 1)) (xs (6 * t + 2))).2 := congrArg Prod.snd hr2
  have ex : eqx m2 (sp_rev mm (xs (6 * t + 1)) (xs (6 * t + 2))).2 := by rw [e2]; exact eqx.rf _
  have hN2 : ∀ v, v < 40 → sp_N m2 v := fun v hv => by rw [e2]; exact (NS.rev).N (hN v hv)
  have hIK : IK mm (sp_rev mm (xs (6 * t + 1)) (xs (6 * t + 2))).2 := IK_rev hI hK1
  have hK2 : sp_K m2 ≤ t + 1 := by
    have h8 := hIK.2
    have h9 : sp_K m2 = sp_K (sp_rev mm (xs (6 * t + 1)) (xs (6 * t + 2))).2 := by unfold sp_K; rw [ex 10 (by decide) (by decide)]
    omega
  refine lv_istore (lv' := [(6, .int r2), (5, .int r), (0, .ref b), (1, .ref (ad 0 0)), (2, .ref o), (3, .ref w), (4, .int (nI (6 * t)))]) hx hb dL_law_494 hl (by decide) rfl (fun ls hl => ?_)
  refine lv_aload_n hx hb dL_law_496 rfl (lv_at hl 4 rfl) ?_
  refine ll_T hF wd_l_L_101 (by decide) hX hA hl.1 (Nat.le_of_ble_eq_true rfl) dL_law_497 (by show 30 + 10 * t + 4 ≤ 601024 ∧ 20000 + 100 * t + 19 ≤ 7293034; omega) ?_
  have h9 : m2 19 0 = r := by rw [hr19, ex 19 (by decide) (by decide)]
  refine lv_iload hx hb dL_law_500 (lv_at hl 1 rfl) ?_
  refine lv_icmp_eq (tgt := 507) hx hb dL_law_502 (by decide) (fun c502 => ?_) (fun c502 => ?_)
  · skip
    refine lv_iload hx hb dL_law_507 (lv_at hl 1 rfl) ?_
    refine lv_if_ne (tgt := 524) hx hb dL_law_509 (by decide) (fun cN => ?_) (fun cN => ?_)
    · skip
      refine lv_goto (tgt := 1860) hx hb dL_law_524 (by decide) ?_
      refine W.widen (k := 30 + 10 * (t + 1)) (n := 20000 + 100 * (t + 1)) (by omega) (by omega) ?_
      exact hnext m2 ad1 f1 H locs ls (Inv_ext ex.sm hIK.1) hN2 hK2 h01 (by rw [kC_x ex]; exact hA) hS (lv_sub hl [2, 3, 4, 5, 6] rfl)
    · skip
      refine lv_aload_n hx hb dL_law_512 rfl (lv_at hl 5 rfl) ?_
      refine lv_iconst (v := 0) hx hb dL_law_513 (by decide) ?_
      refine va_lald hF.1 hF.2.1 hX.2.2.2.1 (mo_one hA.2.2.2) 0 0 rfl rfl (show vp_in (nI 0) 1 from vp_in_nI (by decide) (by decide)) dL_law_514 ?_
      refine bo_toV (v := .long (Int32.toInt64 r2)) (by rw [e1]; exact congrArg Value.long (hf1 cN)) ?_
      refine lv_iload hx hb dL_law_515 (lv_at hl 0 rfl) ?_
      refine lv_i2l (v := Int32.toInt64 r2) hx hb dL_law_517 rfl ?_
      refine W.lcmp hx hb dL_law_518 ?_
      refine bo_to (v := 0) (by simp [lg_cmp]) ?_
      refine lv_if_eq (tgt := 524) hx hb dL_law_519 (by decide) (fun cE => ?_) (fun cE => ?_)
      · skip
        refine lv_goto (tgt := 1860) hx hb dL_law_524 (by decide) ?_
        refine W.widen (k := 30 + 10 * (t + 1)) (n := 20000 + 100 * (t + 1)) (by omega) (by omega) ?_
        exact hnext m2 ad1 f1 H locs ls (Inv_ext ex.sm hIK.1) hN2 hK2 h01 (by rw [kC_x ex]; exact hA) hS (lv_sub hl [2, 3, 4, 5, 6] rfl)
      · skip
        exact absurd rfl cE
  · skip
    exact absurd h9 c502
theorem kl_guard : wl_SW yL_guard cL_guard 5 [(0, 10, 13, 13), (0, 10, 17, 15)] 4 := ⟨wd_c_L_guard, wd_t_L_guard, wd_n_L, by decide, by decide +kernel⟩
set_option maxHeartbeats 4000000 in
set_option maxRecDepth 100000 in
theorem lc_guard {p : Program} {l : Launch} {e : Env} {s : State} {m : MethodId} {below : List Frame} {meth : Method} {c : Code} {b L : Nat} {xs : Nat → Int32} {G : k_G} {o : Nat} {a : Nat → Nat} {w : Nat} {cJ : ClassId} {xa : Nat} {Q : State → Prop} {t : Nat} (hF : CallFix p m c cL_law 7 s #[Value.ref b] wsL_law RL) (hX : ll_F l G o a w cJ s) (hSc : va_X b L xs s s.heap) (hbl : b < s.heap.size) (hL : L ≤ 3072) (ht : 6 * t + 6 ≤ L) (hnext : ll_W p l e s m below meth c b G o a w cJ xa Q (t + 1) t 1860) : ll_W p l e s m below meth c b G o a w cJ xa Q t t 527 := by
  intro mm ad f0 H locs ls hI hN hK h00 hA hS hl
  subst h00
  have hx := hF.1
  have hb := hF.2.1
  have hK1 : sp_K mm < 512 := by omega
  have hbA : ¬ ll_0 s.heap.size b := Nat.not_le.mpr hbl
  refine lv_aload_n hx hb dL_law_527 rfl (lv_at hl 1 rfl) ?_
  refine lv_aload_n hx hb dL_law_528 rfl (lv_at hl 0 rfl) ?_
  refine lv_iload hx hb dL_law_529 (lv_at hl 4 rfl) ?_
  refine lv_iconst (v := 1) hx hb dL_law_531 (by decide) ?_
  refine lv_iadd hx hb dL_law_532 ?_
  refine bo_to (v := nI (6 * t + 1)) (nI_add (6 * t) 1) ?_
  refine va_sld hF.1 hF.2.1 hSc hbl hbA hS (vp_in_nI (by omega) (by omega)) dL_law_533 ?_
  refine bo_to (v := xs (6 * t + 1)) (by rw [nI_clamp (by omega)]) ?_
  refine lv_aload_n hx hb dL_law_534 rfl (lv_at hl 0 rfl) ?_
  refine lv_iload hx hb dL_law_535 (lv_at hl 4 rfl) ?_
  refine lv_iconst (v := 2) hx hb dL_law_537 (by decide) ?_
  refine lv_iadd hx hb dL_law_538 ?_
  refine bo_to (v := nI (6 * t + 2)) (nI_add (6 * t) 2) ?_
  refine va_sld hF.1 hF.2.1 hSc hbl hbA hS (vp_in_nI (by omega) (by omega)) dL_law_539 ?_
  refine bo_to (v := xs (6 * t + 2)) (by rw [nI_clamp (by omega)]) ?_
  refine lv_aload_n hx hb dL_law_540 rfl (lv_at hl 3 rfl) ?_
  refine ll_L (fr := 8) (lo := 135) (mc := 2) (ms := 12) (n := 4) (As := [.ref (ad 0 0), .int (xs (6 * t + 1)), .int (xs (6 * t + 2)), .ref w]) (rest := []) hF (m_L_guard l hX.1 G _ w cJ ad mm f0 (xs (6 * t + 1)) (xs (6 * t + 2)) hI) kl_guard wd_l_L_117 (by decide) hX hA hS rfl hl.1 rfl (Nat.le_of_ble_eq_true rfl) dL_law_541 (by show 30 + 10 * t + 2 ≤ 601024 ∧ 20000 + 100 * t + 12 ≤ 7293034; omega) (fun r ad1 ct1 f1 H locs hr hA hS => ?_)
  obtain ⟨hr19, hct, h01, hf1⟩ := hr
  replace hct : ct1 = k_C G ad1 (sp_guard mm (xs (6 * t + 1)) (xs (6 * t + 2))).2 := hct
  subst hct
  replace h01 : ad1 0 0 = ad 0 0 := h01
  replace hr19 : r = (sp_guard mm (xs (6 * t + 1)) (xs (6 * t + 2))).2 19 0 := hr19
  replace hf1 : r = 0 → f1 0 = Int32.toInt64 (sp_guard mm (xs (6 * t + 1)) (xs (6 * t + 2))).1 := hf1
  refine lv_istore (lv' := [(5, .int r), (0, .ref b), (1, .ref (ad 0 0)), (2, .ref o), (3, .ref w), (4, .int (nI (6 * t)))]) hx hb dL_law_544 hl (by decide) rfl (fun ls hl => ?_)
  refine lv_aload_n hx hb dL_law_546 rfl (lv_at hl 3 rfl) ?_
  refine lv_aload_n hx hb dL_law_547 rfl (lv_at hl 1 rfl) ?_
  refine lv_iload hx hb dL_law_548 (lv_at hl 5 rfl) ?_
  refine lv_iconst (v := 1) hx hb dL_law_550 (by decide) ?_
  refine lv_iadd hx hb dL_law_551 ?_
  refine bo_to (v := nI (6 * t + 1)) (nI_add (6 * t) 1) ?_
  refine va_sld hF.1 hF.2.1 hSc hbl hbA hS (vp_in_nI (by omega) (by omega)) dL_law_552 ?_
  refine bo_to (v := xs (6 * t + 1)) (by rw [nI_clamp (by omega)]) ?_
  refine lv_aload_n hx hb dL_law_553 rfl (lv_at hl 1 rfl) ?_
  refine lv_iload hx hb dL_law_554 (lv_at hl 5 rfl) ?_
  refine lv_iconst (v := 2) hx hb dL_law_556 (by decide) ?_
  refine lv_iadd hx hb dL_law_557 ?_
  refine bo_to (v := nI (6 * t + 2)) (nI_add (6 * t) 2) ?_
  refine va_sld hF.1 hF.2.1 hSc hbl hbA hS (vp_in_nI (by omega) (by omega)) dL_law_558 ?_
  refine bo_to (v := xs (6 * t + 2)) (by rw [nI_clamp (by omega)]) ?_
  refine ll_R (fr := 1) (lo := 22) (n := 2) (As := [.int (xs (6 * t + 1)), .int (xs (6 * t + 2))]) (rest := []) hF (m_X5_guard l G.1 G.2.1 o a mm hX.2.2.2.2.2.2.1 (xs (6 * t + 1)) (xs (6 * t + 2)) hI) ke_X5_guard wd_l_L_119 (by decide) hX hA hS rfl hl.1 rfl (Nat.le_of_ble_eq_true rfl) dL_law_559 (by show 30 + 10 * t + 2 ≤ 601024 ∧ 20000 + 100 * t + 12 ≤ 7293034; omega) (fun r2 m2 H locs hr2 hA hS => ?_)
  have e1 : r2 = (sp_guard mm (xs (6 * t + 1)) (xs (6 * t + 2))).1 := congrArg Prod.fst hr2
  have e2 : m2 = (sp_guard mm (xs (6 * t + 1)) (xs (6 * t + 2))).2 := congrArg Prod.snd hr2
  have ex : eqx m2 (sp_guard mm (xs (6 * t + 1)) (xs (6 * t + 2))).2 := by rw [e2]; exact eqx.rf _
  have hN2 : ∀ v, v < 40 → sp_N m2 v := fun v hv => by rw [e2]; exact (NS.guard).N (hN v hv)
  have hIK : IK mm (sp_guard mm (xs (6 * t + 1)) (xs (6 * t + 2))).2 := IK_guard hI
  have hK2 : sp_K m2 ≤ t + 1 := by
    have h8 := hIK.2
    have h9 : sp_K m2 = sp_K (sp_guard mm (xs (6 * t + 1)) (xs (6 * t + 2))).2 := by unfold sp_K; rw [ex 10 (by decide) (by decide)]
    omega
  refine lv_istore (lv' := [(6, .int r2), (5, .int r), (0, .ref b), (1, .ref (ad 0 0)), (2, .ref o), (3, .ref w), (4, .int (nI (6 * t)))]) hx hb dL_law_562 hl (by decide) rfl (fun ls hl => ?_)
  refine lv_aload_n hx hb dL_law_564 rfl (lv_at hl 4 rfl) ?_
  refine ll_T hF wd_l_L_101 (by decide) hX hA hl.1 (Nat.le_of_ble_eq_true rfl) dL_law_565 (by show 30 + 10 * t + 2 ≤ 601024 ∧ 20000 + 100 * t + 12 ≤ 7293034; omega) ?_
  have h9 : m2 19 0 = r := by rw [hr19, ex 19 (by decide) (by decide)]
  refine lv_iload hx hb dL_law_568 (lv_at hl 1 rfl) ?_
  refine lv_icmp_eq (tgt := 575) hx hb dL_law_570 (by decide) (fun c570 => ?_) (fun c570 => ?_)
  · skip
    refine lv_iload hx hb dL_law_575 (lv_at hl 1 rfl) ?_
    refine lv_if_ne (tgt := 592) hx hb dL_law_577 (by decide) (fun cN => ?_) (fun cN => ?_)
    · skip
      refine lv_goto (tgt := 1860) hx hb dL_law_592 (by decide) ?_
      refine W.widen (k := 30 + 10 * (t + 1)) (n := 20000 + 100 * (t + 1)) (by omega) (by omega) ?_
      exact hnext m2 ad1 f1 H locs ls (Inv_ext ex.sm hIK.1) hN2 hK2 h01 (by rw [kC_x ex]; exact hA) hS (lv_sub hl [2, 3, 4, 5, 6] rfl)
    · skip
      refine lv_aload_n hx hb dL_law_580 rfl (lv_at hl 5 rfl) ?_
      refine lv_iconst (v := 0) hx hb dL_law_581 (by decide) ?_
      refine va_lald hF.1 hF.2.1 hX.2.2.2.1 (mo_one hA.2.2.2) 0 0 rfl rfl (show vp_in (nI 0) 1 from vp_in_nI (by decide) (by decide)) dL_law_582 ?_
      refine bo_toV (v := .long (Int32.toInt64 r2)) (by rw [e1]; exact congrArg Value.long (hf1 cN)) ?_
      refine lv_iload hx hb dL_law_583 (lv_at hl 0 rfl) ?_
      refine lv_i2l (v := Int32.toInt64 r2) hx hb dL_law_585 rfl ?_
      refine W.lcmp hx hb dL_law_586 ?_
      refine bo_to (v := 0) (by simp [lg_cmp]) ?_
      refine lv_if_eq (tgt := 592) hx hb dL_law_587 (by decide) (fun cE => ?_) (fun cE => ?_)
      · skip
        refine lv_goto (tgt := 1860) hx hb dL_law_592 (by decide) ?_
        refine W.widen (k := 30 + 10 * (t + 1)) (n := 20000 + 100 * (t + 1)) (by omega) (by omega) ?_
        exact hnext m2 ad1 f1 H locs ls (Inv_ext ex.sm hIK.1) hN2 hK2 h01 (by rw [kC_x ex]; exact hA) hS (lv_sub hl [2, 3, 4, 5, 6] rfl)
      · skip
        exact absurd rfl cE
  · skip
    exact absurd h9 c570
theorem kl_version : wl_SW yL_version cL_version 5 [(0, 10, 13, 13)] 4 := ⟨wd_c_L_version, wd_t_L_version, wd_n_L, by decide, by decide +kernel⟩
set_option maxHeartbeats 4000000 in
set_option maxRecDepth 100000 in
theorem lc_version {p : Program} {l : Launch} {e : Env} {s : State} {m : MethodId} {below : List Frame} {meth : Method} {c : Code} {b L : Nat} {xs : Nat → Int32} {G : k_G} {o : Nat} {a : Nat → Nat} {w : Nat} {cJ : ClassId} {xa : Nat} {Q : State → Prop} {t : Nat} (hF : CallFix p m c cL_law 7 s #[Value.ref b] wsL_law RL) (hX : ll_F l G o a w cJ s) (hSc : va_X b L xs s s.heap) (hbl : b < s.heap.size) (hL : L ≤ 3072) (ht : 6 * t + 6 ≤ L) (hnext : ll_W p l e s m below meth c b G o a w cJ xa Q (t + 1) t 1860) : ll_W p l e s m below meth c b G o a w cJ xa Q t t 720 := by
  intro mm ad f0 H locs ls hI hN hK h00 hA hS hl
  subst h00
  have hx := hF.1
  have hb := hF.2.1
  have hK1 : sp_K mm < 512 := by omega
  have hbA : ¬ ll_0 s.heap.size b := Nat.not_le.mpr hbl
  refine lv_aload_n hx hb dL_law_720 rfl (lv_at hl 1 rfl) ?_
  refine lv_aload_n hx hb dL_law_721 rfl (lv_at hl 0 rfl) ?_
  refine lv_iload hx hb dL_law_722 (lv_at hl 4 rfl) ?_
  refine lv_iconst (v := 1) hx hb dL_law_724 (by decide) ?_
  refine lv_iadd hx hb dL_law_725 ?_
  refine bo_to (v := nI (6 * t + 1)) (nI_add (6 * t) 1) ?_
  refine va_sld hF.1 hF.2.1 hSc hbl hbA hS (vp_in_nI (by omega) (by omega)) dL_law_726 ?_
  refine bo_to (v := xs (6 * t + 1)) (by rw [nI_clamp (by omega)]) ?_
  refine lv_aload_n hx hb dL_law_727 rfl (lv_at hl 0 rfl) ?_
  refine lv_iload hx hb dL_law_728 (lv_at hl 4 rfl) ?_
  refine lv_iconst (v := 2) hx hb dL_law_730 (by decide) ?_
  refine lv_iadd hx hb dL_law_731 ?_
  refine bo_to (v := nI (6 * t + 2)) (nI_add (6 * t) 2) ?_
  refine va_sld hF.1 hF.2.1 hSc hbl hbA hS (vp_in_nI (by omega) (by omega)) dL_law_732 ?_
  refine bo_to (v := xs (6 * t + 2)) (by rw [nI_clamp (by omega)]) ?_
  refine lv_aload_n hx hb dL_law_733 rfl (lv_at hl 3 rfl) ?_
  refine ll_L (fr := 8) (lo := 134) (mc := 2) (ms := 12) (n := 4) (As := [.ref (ad 0 0), .int (xs (6 * t + 1)), .int (xs (6 * t + 2)), .ref w]) (rest := []) hF (m_L_version l hX.1 G _ w cJ ad mm f0 (xs (6 * t + 1)) (xs (6 * t + 2)) hI) kl_version wd_l_L_131 (by decide) hX hA hS rfl hl.1 rfl (Nat.le_of_ble_eq_true rfl) dL_law_734 (by show 30 + 10 * t + 2 ≤ 601024 ∧ 20000 + 100 * t + 12 ≤ 7293034; omega) (fun r ad1 ct1 f1 H locs hr hA hS => ?_)
  obtain ⟨hr19, hct, h01, hf1⟩ := hr
  replace hct : ct1 = k_C G ad1 (sp_ver mm (xs (6 * t + 1)) (xs (6 * t + 2))).2 := hct
  subst hct
  replace h01 : ad1 0 0 = ad 0 0 := h01
  replace hr19 : r = (sp_ver mm (xs (6 * t + 1)) (xs (6 * t + 2))).2 19 0 := hr19
  replace hf1 : r = 0 → f1 0 = Int32.toInt64 (sp_ver mm (xs (6 * t + 1)) (xs (6 * t + 2))).1 := hf1
  refine lv_istore (lv' := [(5, .int r), (0, .ref b), (1, .ref (ad 0 0)), (2, .ref o), (3, .ref w), (4, .int (nI (6 * t)))]) hx hb dL_law_737 hl (by decide) rfl (fun ls hl => ?_)
  refine lv_aload_n hx hb dL_law_739 rfl (lv_at hl 3 rfl) ?_
  refine lv_aload_n hx hb dL_law_740 rfl (lv_at hl 1 rfl) ?_
  refine lv_iload hx hb dL_law_741 (lv_at hl 5 rfl) ?_
  refine lv_iconst (v := 1) hx hb dL_law_743 (by decide) ?_
  refine lv_iadd hx hb dL_law_744 ?_
  refine bo_to (v := nI (6 * t + 1)) (nI_add (6 * t) 1) ?_
  refine va_sld hF.1 hF.2.1 hSc hbl hbA hS (vp_in_nI (by omega) (by omega)) dL_law_745 ?_
  refine bo_to (v := xs (6 * t + 1)) (by rw [nI_clamp (by omega)]) ?_
  refine lv_aload_n hx hb dL_law_746 rfl (lv_at hl 1 rfl) ?_
  refine lv_iload hx hb dL_law_747 (lv_at hl 5 rfl) ?_
  refine lv_iconst (v := 2) hx hb dL_law_749 (by decide) ?_
  refine lv_iadd hx hb dL_law_750 ?_
  refine bo_to (v := nI (6 * t + 2)) (nI_add (6 * t) 2) ?_
  refine va_sld hF.1 hF.2.1 hSc hbl hbA hS (vp_in_nI (by omega) (by omega)) dL_law_751 ?_
  refine bo_to (v := xs (6 * t + 2)) (by rw [nI_clamp (by omega)]) ?_
  refine ll_R (fr := 2) (lo := 45) (n := 2) (As := [.int (xs (6 * t + 1)), .int (xs (6 * t + 2))]) (rest := []) hF (m_X5_version l G.1 G.2.1 o a mm hX.2.2.2.2.2.2.1 (xs (6 * t + 1)) (xs (6 * t + 2)) hI) ke_X5_version wd_l_L_133 (by decide) hX hA hS rfl hl.1 rfl (Nat.le_of_ble_eq_true rfl) dL_law_752 (by show 30 + 10 * t + 2 ≤ 601024 ∧ 20000 + 100 * t + 12 ≤ 7293034; omega) (fun r2 m2 H locs hr2 hA hS => ?_)
  have e1 : r2 = (sp_ver mm (xs (6 * t + 1)) (xs (6 * t + 2))).1 := congrArg Prod.fst hr2
  have e2 : m2 = (sp_ver mm (xs (6 * t + 1)) (xs (6 * t + 2))).2 := congrArg Prod.snd hr2
  have ex : eqx m2 (sp_ver mm (xs (6 * t + 1)) (xs (6 * t + 2))).2 := by rw [e2]; exact eqx.rf _
  have hN2 : ∀ v, v < 40 → sp_N m2 v := fun v hv => by rw [e2]; exact (NS.ver).N (hN v hv)
  have hIK : IK mm (sp_ver mm (xs (6 * t + 1)) (xs (6 * t + 2))).2 := IK_ver hI
  have hK2 : sp_K m2 ≤ t + 1 := by
    have h8 := hIK.2
    have h9 : sp_K m2 = sp_K (sp_ver mm (xs (6 * t + 1)) (xs (6 * t + 2))).2 := by unfold sp_K; rw [ex 10 (by decide) (by decide)]
    omega
  refine lv_istore (lv' := [(6, .int r2), (5, .int r), (0, .ref b), (1, .ref (ad 0 0)), (2, .ref o), (3, .ref w), (4, .int (nI (6 * t)))]) hx hb dL_law_755 hl (by decide) rfl (fun ls hl => ?_)
  refine lv_aload_n hx hb dL_law_757 rfl (lv_at hl 4 rfl) ?_
  refine ll_T hF wd_l_L_101 (by decide) hX hA hl.1 (Nat.le_of_ble_eq_true rfl) dL_law_758 (by show 30 + 10 * t + 2 ≤ 601024 ∧ 20000 + 100 * t + 12 ≤ 7293034; omega) ?_
  have h9 : m2 19 0 = r := by rw [hr19, ex 19 (by decide) (by decide)]
  refine lv_iload hx hb dL_law_761 (lv_at hl 1 rfl) ?_
  refine lv_icmp_eq (tgt := 768) hx hb dL_law_763 (by decide) (fun c763 => ?_) (fun c763 => ?_)
  · skip
    refine lv_iload hx hb dL_law_768 (lv_at hl 1 rfl) ?_
    refine lv_if_ne (tgt := 785) hx hb dL_law_770 (by decide) (fun cN => ?_) (fun cN => ?_)
    · skip
      refine lv_goto (tgt := 1860) hx hb dL_law_785 (by decide) ?_
      refine W.widen (k := 30 + 10 * (t + 1)) (n := 20000 + 100 * (t + 1)) (by omega) (by omega) ?_
      exact hnext m2 ad1 f1 H locs ls (Inv_ext ex.sm hIK.1) hN2 hK2 h01 (by rw [kC_x ex]; exact hA) hS (lv_sub hl [2, 3, 4, 5, 6] rfl)
    · skip
      refine lv_aload_n hx hb dL_law_773 rfl (lv_at hl 5 rfl) ?_
      refine lv_iconst (v := 0) hx hb dL_law_774 (by decide) ?_
      refine va_lald hF.1 hF.2.1 hX.2.2.2.1 (mo_one hA.2.2.2) 0 0 rfl rfl (show vp_in (nI 0) 1 from vp_in_nI (by decide) (by decide)) dL_law_775 ?_
      refine bo_toV (v := .long (Int32.toInt64 r2)) (by rw [e1]; exact congrArg Value.long (hf1 cN)) ?_
      refine lv_iload hx hb dL_law_776 (lv_at hl 0 rfl) ?_
      refine lv_i2l (v := Int32.toInt64 r2) hx hb dL_law_778 rfl ?_
      refine W.lcmp hx hb dL_law_779 ?_
      refine bo_to (v := 0) (by simp [lg_cmp]) ?_
      refine lv_if_eq (tgt := 785) hx hb dL_law_780 (by decide) (fun cE => ?_) (fun cE => ?_)
      · skip
        refine lv_goto (tgt := 1860) hx hb dL_law_785 (by decide) ?_
        refine W.widen (k := 30 + 10 * (t + 1)) (n := 20000 + 100 * (t + 1)) (by omega) (by omega) ?_
        exact hnext m2 ad1 f1 H locs ls (Inv_ext ex.sm hIK.1) hN2 hK2 h01 (by rw [kC_x ex]; exact hA) hS (lv_sub hl [2, 3, 4, 5, 6] rfl)
      · skip
        exact absurd rfl cE
  · skip
    exact absurd h9 c763
theorem kl_stampOf : wl_SW yL_stampOf cL_stampOf 5 [(0, 10, 13, 13)] 4 := ⟨wd_c_L_stampOf, wd_t_L_stampOf, wd_n_L, by decide, by decide +kernel⟩
set_option maxHeartbeats 4000000 in
set_option maxRecDepth 100000 in
theorem lc_stampOf {p : Program} {l : Launch} {e : Env} {s : State} {m : MethodId} {below : List Frame} {meth : Method} {c : Code} {b L : Nat} {xs : Nat → Int32} {G : k_G} {o : Nat} {a : Nat → Nat} {w : Nat} {cJ : ClassId} {xa : Nat} {Q : State → Prop} {t : Nat} (hF : CallFix p m c cL_law 7 s #[Value.ref b] wsL_law RL) (hX : ll_F l G o a w cJ s) (hSc : va_X b L xs s s.heap) (hbl : b < s.heap.size) (hL : L ≤ 3072) (ht : 6 * t + 6 ≤ L) (hnext : ll_W p l e s m below meth c b G o a w cJ xa Q (t + 1) t 1860) : ll_W p l e s m below meth c b G o a w cJ xa Q t t 788 := by
  intro mm ad f0 H locs ls hI hN hK h00 hA hS hl
  subst h00
  have hx := hF.1
  have hb := hF.2.1
  have hK1 : sp_K mm < 512 := by omega
  have hbA : ¬ ll_0 s.heap.size b := Nat.not_le.mpr hbl
  refine lv_aload_n hx hb dL_law_788 rfl (lv_at hl 1 rfl) ?_
  refine lv_aload_n hx hb dL_law_789 rfl (lv_at hl 0 rfl) ?_
  refine lv_iload hx hb dL_law_790 (lv_at hl 4 rfl) ?_
  refine lv_iconst (v := 1) hx hb dL_law_792 (by decide) ?_
  refine lv_iadd hx hb dL_law_793 ?_
  refine bo_to (v := nI (6 * t + 1)) (nI_add (6 * t) 1) ?_
  refine va_sld hF.1 hF.2.1 hSc hbl hbA hS (vp_in_nI (by omega) (by omega)) dL_law_794 ?_
  refine bo_to (v := xs (6 * t + 1)) (by rw [nI_clamp (by omega)]) ?_
  refine lv_aload_n hx hb dL_law_795 rfl (lv_at hl 0 rfl) ?_
  refine lv_iload hx hb dL_law_796 (lv_at hl 4 rfl) ?_
  refine lv_iconst (v := 2) hx hb dL_law_798 (by decide) ?_
  refine lv_iadd hx hb dL_law_799 ?_
  refine bo_to (v := nI (6 * t + 2)) (nI_add (6 * t) 2) ?_
  refine va_sld hF.1 hF.2.1 hSc hbl hbA hS (vp_in_nI (by omega) (by omega)) dL_law_800 ?_
  refine bo_to (v := xs (6 * t + 2)) (by rw [nI_clamp (by omega)]) ?_
  refine lv_aload_n hx hb dL_law_801 rfl (lv_at hl 3 rfl) ?_
  refine ll_L (fr := 8) (lo := 134) (mc := 2) (ms := 12) (n := 4) (As := [.ref (ad 0 0), .int (xs (6 * t + 1)), .int (xs (6 * t + 2)), .ref w]) (rest := []) hF (m_L_stampOf l hX.1 G _ w cJ ad mm f0 (xs (6 * t + 1)) (xs (6 * t + 2)) hI) kl_stampOf wd_l_L_134 (by decide) hX hA hS rfl hl.1 rfl (Nat.le_of_ble_eq_true rfl) dL_law_802 (by show 30 + 10 * t + 2 ≤ 601024 ∧ 20000 + 100 * t + 12 ≤ 7293034; omega) (fun r ad1 ct1 f1 H locs hr hA hS => ?_)
  obtain ⟨hr19, hct, h01, hf1⟩ := hr
  replace hct : ct1 = k_C G ad1 (sp_sta mm (xs (6 * t + 1)) (xs (6 * t + 2))).2 := hct
  subst hct
  replace h01 : ad1 0 0 = ad 0 0 := h01
  replace hr19 : r = (sp_sta mm (xs (6 * t + 1)) (xs (6 * t + 2))).2 19 0 := hr19
  replace hf1 : r = 0 → f1 0 = Int32.toInt64 (sp_sta mm (xs (6 * t + 1)) (xs (6 * t + 2))).1 := hf1
  refine lv_istore (lv' := [(5, .int r), (0, .ref b), (1, .ref (ad 0 0)), (2, .ref o), (3, .ref w), (4, .int (nI (6 * t)))]) hx hb dL_law_805 hl (by decide) rfl (fun ls hl => ?_)
  refine lv_aload_n hx hb dL_law_807 rfl (lv_at hl 3 rfl) ?_
  refine lv_aload_n hx hb dL_law_808 rfl (lv_at hl 1 rfl) ?_
  refine lv_iload hx hb dL_law_809 (lv_at hl 5 rfl) ?_
  refine lv_iconst (v := 1) hx hb dL_law_811 (by decide) ?_
  refine lv_iadd hx hb dL_law_812 ?_
  refine bo_to (v := nI (6 * t + 1)) (nI_add (6 * t) 1) ?_
  refine va_sld hF.1 hF.2.1 hSc hbl hbA hS (vp_in_nI (by omega) (by omega)) dL_law_813 ?_
  refine bo_to (v := xs (6 * t + 1)) (by rw [nI_clamp (by omega)]) ?_
  refine lv_aload_n hx hb dL_law_814 rfl (lv_at hl 1 rfl) ?_
  refine lv_iload hx hb dL_law_815 (lv_at hl 5 rfl) ?_
  refine lv_iconst (v := 2) hx hb dL_law_817 (by decide) ?_
  refine lv_iadd hx hb dL_law_818 ?_
  refine bo_to (v := nI (6 * t + 2)) (nI_add (6 * t) 2) ?_
  refine va_sld hF.1 hF.2.1 hSc hbl hbA hS (vp_in_nI (by omega) (by omega)) dL_law_819 ?_
  refine bo_to (v := xs (6 * t + 2)) (by rw [nI_clamp (by omega)]) ?_
  refine ll_R (fr := 2) (lo := 45) (n := 2) (As := [.int (xs (6 * t + 1)), .int (xs (6 * t + 2))]) (rest := []) hF (m_X5_stampOf l G.1 G.2.1 o a mm hX.2.2.2.2.2.2.1 (xs (6 * t + 1)) (xs (6 * t + 2)) hI) ke_X5_stampOf wd_l_L_136 (by decide) hX hA hS rfl hl.1 rfl (Nat.le_of_ble_eq_true rfl) dL_law_820 (by show 30 + 10 * t + 2 ≤ 601024 ∧ 20000 + 100 * t + 12 ≤ 7293034; omega) (fun r2 m2 H locs hr2 hA hS => ?_)
  have e1 : r2 = (sp_sta mm (xs (6 * t + 1)) (xs (6 * t + 2))).1 := congrArg Prod.fst hr2
  have e2 : m2 = (sp_sta mm (xs (6 * t + 1)) (xs (6 * t + 2))).2 := congrArg Prod.snd hr2
  have ex : eqx m2 (sp_sta mm (xs (6 * t + 1)) (xs (6 * t + 2))).2 := by rw [e2]; exact eqx.rf _
  have hN2 : ∀ v, v < 40 → sp_N m2 v := fun v hv => by rw [e2]; exact (NS.sta).N (hN v hv)
  have hIK : IK mm (sp_sta mm (xs (6 * t + 1)) (xs (6 * t + 2))).2 := IK_sta hI
  have hK2 : sp_K m2 ≤ t + 1 := by
    have h8 := hIK.2
    have h9 : sp_K m2 = sp_K (sp_sta mm (xs (6 * t + 1)) (xs (6 * t + 2))).2 := by unfold sp_K; rw [ex 10 (by decide) (by decide)]
    omega
  refine lv_istore (lv' := [(6, .int r2), (5, .int r), (0, .ref b), (1, .ref (ad 0 0)), (2, .ref o), (3, .ref w), (4, .int (nI (6 * t)))]) hx hb dL_law_823 hl (by decide) rfl (fun ls hl => ?_)
  refine lv_aload_n hx hb dL_law_825 rfl (lv_at hl 4 rfl) ?_
  refine ll_T hF wd_l_L_101 (by decide) hX hA hl.1 (Nat.le_of_ble_eq_true rfl) dL_law_826 (by show 30 + 10 * t + 2 ≤ 601024 ∧ 20000 + 100 * t + 12 ≤ 7293034; omega) ?_
  have h9 : m2 19 0 = r := by rw [hr19, ex 19 (by decide) (by decide)]
  refine lv_iload hx hb dL_law_829 (lv_at hl 1 rfl) ?_
  refine lv_icmp_eq (tgt := 836) hx hb dL_law_831 (by decide) (fun c831 => ?_) (fun c831 => ?_)
  · skip
    refine lv_iload hx hb dL_law_836 (lv_at hl 1 rfl) ?_
    refine lv_if_ne (tgt := 853) hx hb dL_law_838 (by decide) (fun cN => ?_) (fun cN => ?_)
    · skip
      refine lv_goto (tgt := 1860) hx hb dL_law_853 (by decide) ?_
      refine W.widen (k := 30 + 10 * (t + 1)) (n := 20000 + 100 * (t + 1)) (by omega) (by omega) ?_
      exact hnext m2 ad1 f1 H locs ls (Inv_ext ex.sm hIK.1) hN2 hK2 h01 (by rw [kC_x ex]; exact hA) hS (lv_sub hl [2, 3, 4, 5, 6] rfl)
    · skip
      refine lv_aload_n hx hb dL_law_841 rfl (lv_at hl 5 rfl) ?_
      refine lv_iconst (v := 0) hx hb dL_law_842 (by decide) ?_
      refine va_lald hF.1 hF.2.1 hX.2.2.2.1 (mo_one hA.2.2.2) 0 0 rfl rfl (show vp_in (nI 0) 1 from vp_in_nI (by decide) (by decide)) dL_law_843 ?_
      refine bo_toV (v := .long (Int32.toInt64 r2)) (by rw [e1]; exact congrArg Value.long (hf1 cN)) ?_
      refine lv_iload hx hb dL_law_844 (lv_at hl 0 rfl) ?_
      refine lv_i2l (v := Int32.toInt64 r2) hx hb dL_law_846 rfl ?_
      refine W.lcmp hx hb dL_law_847 ?_
      refine bo_to (v := 0) (by simp [lg_cmp]) ?_
      refine lv_if_eq (tgt := 853) hx hb dL_law_848 (by decide) (fun cE => ?_) (fun cE => ?_)
      · skip
        refine lv_goto (tgt := 1860) hx hb dL_law_853 (by decide) ?_
        refine W.widen (k := 30 + 10 * (t + 1)) (n := 20000 + 100 * (t + 1)) (by omega) (by omega) ?_
        exact hnext m2 ad1 f1 H locs ls (Inv_ext ex.sm hIK.1) hN2 hK2 h01 (by rw [kC_x ex]; exact hA) hS (lv_sub hl [2, 3, 4, 5, 6] rfl)
      · skip
        exact absurd rfl cE
  · skip
    exact absurd h9 c831
