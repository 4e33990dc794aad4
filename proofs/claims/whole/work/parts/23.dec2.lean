theorem dL_law__597 : decode cL_law_ 597 = .ok (.aload_n 3, 1) := by decide +kernel
theorem dL_law__598 : decode cL_law_ 598 = .ok (.iconst 0, 1) := by decide +kernel
theorem dL_law__599 : decode cL_law_ 599 = .ok (.laload, 1) := by decide +kernel
theorem dL_law__600 : decode cL_law_ 600 = .ok (.iload 6, 2) := by decide +kernel
theorem dL_law__602 : decode cL_law_ 602 = .ok (.i2l, 1) := by decide +kernel
theorem dL_law__603 : decode cL_law_ 603 = .ok (.lcmp, 1) := by decide +kernel
theorem dL_law__604 : decode cL_law_ 604 = .ok (.ifCond .eq 5, 3) := by decide +kernel
theorem dL_law__607 : decode cL_law_ 607 = .ok (.iconst 0, 1) := by decide +kernel
theorem dL_law__608 : decode cL_law_ 608 = .ok (.ireturn, 1) := by decide +kernel
theorem dL_law__609 : decode cL_law_ 609 = .ok (.goto 1162, 3) := by decide +kernel
theorem dL_law__612 : decode cL_law_ 612 = .ok (.aload_n 1, 1) := by decide +kernel
theorem dL_law__613 : decode cL_law_ 613 = .ok (.aload_n 0, 1) := by decide +kernel
theorem dL_law__614 : decode cL_law_ 614 = .ok (.iload 4, 2) := by decide +kernel
theorem dL_law__616 : decode cL_law_ 616 = .ok (.iconst 1, 1) := by decide +kernel
theorem dL_law__617 : decode cL_law_ 617 = .ok (.iadd, 1) := by decide +kernel
theorem dL_law__618 : decode cL_law_ 618 = .ok (.iaload, 1) := by decide +kernel
theorem dL_law__619 : decode cL_law_ 619 = .ok (.aload_n 0, 1) := by decide +kernel
theorem dL_law__620 : decode cL_law_ 620 = .ok (.iload 4, 2) := by decide +kernel
theorem dL_law__622 : decode cL_law_ 622 = .ok (.iconst 2, 1) := by decide +kernel
theorem dL_law__623 : decode cL_law_ 623 = .ok (.iadd, 1) := by decide +kernel
theorem dL_law__624 : decode cL_law_ 624 = .ok (.iaload, 1) := by decide +kernel
theorem dL_law__625 : decode cL_law_ 625 = .ok (.aload_n 3, 1) := by decide +kernel
theorem dL_law__626 : decode cL_law_ 626 = .ok (.invokestatic 125, 3) := by decide +kernel
theorem dL_law__629 : decode cL_law_ 629 = .ok (.istore 5, 2) := by decide +kernel
theorem dL_law__631 : decode cL_law_ 631 = .ok (.aload_n 2, 1) := by decide +kernel
theorem dL_law__632 : decode cL_law_ 632 = .ok (.aload_n 0, 1) := by decide +kernel
theorem dL_law__633 : decode cL_law_ 633 = .ok (.iload 4, 2) := by decide +kernel
theorem dL_law__635 : decode cL_law_ 635 = .ok (.iconst 1, 1) := by decide +kernel
theorem dL_law__636 : decode cL_law_ 636 = .ok (.iadd, 1) := by decide +kernel
theorem dL_law__637 : decode cL_law_ 637 = .ok (.iaload, 1) := by decide +kernel
theorem dL_law__638 : decode cL_law_ 638 = .ok (.aload_n 0, 1) := by decide +kernel
theorem dL_law__639 : decode cL_law_ 639 = .ok (.iload 4, 2) := by decide +kernel
theorem dL_law__641 : decode cL_law_ 641 = .ok (.iconst 2, 1) := by decide +kernel
theorem dL_law__642 : decode cL_law_ 642 = .ok (.iadd, 1) := by decide +kernel
theorem dL_law__643 : decode cL_law_ 643 = .ok (.iaload, 1) := by decide +kernel
theorem dL_law__644 : decode cL_law_ 644 = .ok (.invokevirtual 127, 3) := by decide +kernel
theorem dL_law__647 : decode cL_law_ 647 = .ok (.istore 6, 2) := by decide +kernel
theorem dL_law__649 : decode cL_law_ 649 = .ok (.aload_n 2, 1) := by decide +kernel
theorem dL_law__650 : decode cL_law_ 650 = .ok (.invokevirtual 102, 3) := by decide +kernel
theorem dL_law__653 : decode cL_law_ 653 = .ok (.iload 5, 2) := by decide +kernel
theorem dL_law__655 : decode cL_law_ 655 = .ok (.if_icmp .eq 5, 3) := by decide +kernel
theorem dL_law__658 : decode cL_law_ 658 = .ok (.iconst 0, 1) := by decide +kernel
theorem dL_law__659 : decode cL_law_ 659 = .ok (.ireturn, 1) := by decide +kernel
theorem dL_law__660 : decode cL_law_ 660 = .ok (.iload 5, 2) := by decide +kernel
theorem dL_law__662 : decode cL_law_ 662 = .ok (.ifCond .ne 15, 3) := by decide +kernel
theorem dL_law__665 : decode cL_law_ 665 = .ok (.aload_n 3, 1) := by decide +kernel
theorem dL_law__666 : decode cL_law_ 666 = .ok (.iconst 0, 1) := by decide +kernel
theorem dL_law__667 : decode cL_law_ 667 = .ok (.laload, 1) := by decide +kernel
theorem dL_law__668 : decode cL_law_ 668 = .ok (.iload 6, 2) := by decide +kernel
theorem dL_law__670 : decode cL_law_ 670 = .ok (.i2l, 1) := by decide +kernel
theorem dL_law__671 : decode cL_law_ 671 = .ok (.lcmp, 1) := by decide +kernel
theorem dL_law__672 : decode cL_law_ 672 = .ok (.ifCond .eq 5, 3) := by decide +kernel
theorem dL_law__675 : decode cL_law_ 675 = .ok (.iconst 0, 1) := by decide +kernel
theorem dL_law__676 : decode cL_law_ 676 = .ok (.ireturn, 1) := by decide +kernel
theorem dL_law__677 : decode cL_law_ 677 = .ok (.goto 1094, 3) := by decide +kernel
theorem dL_law__680 : decode cL_law_ 680 = .ok (.aload_n 1, 1) := by decide +kernel
theorem dL_law__681 : decode cL_law_ 681 = .ok (.aload_n 0, 1) := by decide +kernel
theorem dL_law__682 : decode cL_law_ 682 = .ok (.iload 4, 2) := by decide +kernel
theorem dL_law__684 : decode cL_law_ 684 = .ok (.iconst 1, 1) := by decide +kernel
theorem dL_law__685 : decode cL_law_ 685 = .ok (.iadd, 1) := by decide +kernel
theorem dL_law__686 : decode cL_law_ 686 = .ok (.iaload, 1) := by decide +kernel
theorem dL_law__687 : decode cL_law_ 687 = .ok (.aload_n 3, 1) := by decide +kernel
theorem dL_law__688 : decode cL_law_ 688 = .ok (.invokestatic 128, 3) := by decide +kernel
theorem dL_law__691 : decode cL_law_ 691 = .ok (.istore 5, 2) := by decide +kernel
theorem dL_law__693 : decode cL_law_ 693 = .ok (.aload_n 2, 1) := by decide +kernel
theorem dL_law__694 : decode cL_law_ 694 = .ok (.aload_n 0, 1) := by decide +kernel
theorem dL_law__695 : decode cL_law_ 695 = .ok (.iload 4, 2) := by decide +kernel
theorem dL_law__697 : decode cL_law_ 697 = .ok (.iconst 1, 1) := by decide +kernel
theorem dL_law__698 : decode cL_law_ 698 = .ok (.iadd, 1) := by decide +kernel
theorem dL_law__699 : decode cL_law_ 699 = .ok (.iaload, 1) := by decide +kernel
theorem dL_law__700 : decode cL_law_ 700 = .ok (.invokevirtual 130, 3) := by decide +kernel
theorem dL_law__703 : decode cL_law_ 703 = .ok (.istore 6, 2) := by decide +kernel
theorem dL_law__705 : decode cL_law_ 705 = .ok (.aload_n 2, 1) := by decide +kernel
theorem dL_law__706 : decode cL_law_ 706 = .ok (.invokevirtual 102, 3) := by decide +kernel
theorem dL_law__709 : decode cL_law_ 709 = .ok (.iload 5, 2) := by decide +kernel
theorem dL_law__711 : decode cL_law_ 711 = .ok (.if_icmp .eq 5, 3) := by decide +kernel
theorem dL_law__714 : decode cL_law_ 714 = .ok (.iconst 0, 1) := by decide +kernel
theorem dL_law__715 : decode cL_law_ 715 = .ok (.ireturn, 1) := by decide +kernel
theorem dL_law__716 : decode cL_law_ 716 = .ok (.iload 5, 2) := by decide +kernel
theorem dL_law__718 : decode cL_law_ 718 = .ok (.ifCond .ne 15, 3) := by decide +kernel
theorem dL_law__721 : decode cL_law_ 721 = .ok (.aload_n 3, 1) := by decide +kernel
theorem dL_law__722 : decode cL_law_ 722 = .ok (.iconst 0, 1) := by decide +kernel
theorem dL_law__723 : decode cL_law_ 723 = .ok (.laload, 1) := by decide +kernel
theorem dL_law__724 : decode cL_law_ 724 = .ok (.iload 6, 2) := by decide +kernel
theorem dL_law__726 : decode cL_law_ 726 = .ok (.i2l, 1) := by decide +kernel
theorem dL_law__727 : decode cL_law_ 727 = .ok (.lcmp, 1) := by decide +kernel
theorem dL_law__728 : decode cL_law_ 728 = .ok (.ifCond .eq 5, 3) := by decide +kernel
theorem dL_law__731 : decode cL_law_ 731 = .ok (.iconst 0, 1) := by decide +kernel
theorem dL_law__732 : decode cL_law_ 732 = .ok (.ireturn, 1) := by decide +kernel
theorem dL_law__733 : decode cL_law_ 733 = .ok (.goto 1038, 3) := by decide +kernel
theorem dL_law__736 : decode cL_law_ 736 = .ok (.aload_n 1, 1) := by decide +kernel
theorem dL_law__737 : decode cL_law_ 737 = .ok (.invokevirtual 131, 3) := by decide +kernel
theorem dL_law__740 : decode cL_law_ 740 = .ok (.aload_n 2, 1) := by decide +kernel
theorem dL_law__741 : decode cL_law_ 741 = .ok (.invokevirtual 134, 3) := by decide +kernel
theorem dL_law__744 : decode cL_law_ 744 = .ok (.if_icmp .eq 1027, 3) := by decide +kernel
theorem dL_law__747 : decode cL_law_ 747 = .ok (.iconst 0, 1) := by decide +kernel
theorem dL_law__748 : decode cL_law_ 748 = .ok (.ireturn, 1) := by decide +kernel
theorem dL_law__749 : decode cL_law_ 749 = .ok (.aload_n 1, 1) := by decide +kernel
theorem dL_law__750 : decode cL_law_ 750 = .ok (.aload_n 0, 1) := by decide +kernel
theorem dL_law__751 : decode cL_law_ 751 = .ok (.iload 4, 2) := by decide +kernel
theorem dL_law__753 : decode cL_law_ 753 = .ok (.iconst 1, 1) := by decide +kernel
theorem dL_law__754 : decode cL_law_ 754 = .ok (.iadd, 1) := by decide +kernel
theorem dL_law__755 : decode cL_law_ 755 = .ok (.iaload, 1) := by decide +kernel
theorem dL_law__756 : decode cL_law_ 756 = .ok (.aload_n 0, 1) := by decide +kernel
theorem dL_law__757 : decode cL_law_ 757 = .ok (.iload 4, 2) := by decide +kernel
theorem dL_law__759 : decode cL_law_ 759 = .ok (.iconst 2, 1) := by decide +kernel
theorem dL_law__760 : decode cL_law_ 760 = .ok (.iadd, 1) := by decide +kernel
theorem dL_law__761 : decode cL_law_ 761 = .ok (.iaload, 1) := by decide +kernel
theorem dL_law__762 : decode cL_law_ 762 = .ok (.aload_n 3, 1) := by decide +kernel
theorem dL_law__763 : decode cL_law_ 763 = .ok (.invokestatic 135, 3) := by decide +kernel
theorem dL_law__766 : decode cL_law_ 766 = .ok (.istore 5, 2) := by decide +kernel
theorem dL_law__768 : decode cL_law_ 768 = .ok (.aload_n 2, 1) := by decide +kernel
theorem dL_law__769 : decode cL_law_ 769 = .ok (.aload_n 0, 1) := by decide +kernel
theorem dL_law__770 : decode cL_law_ 770 = .ok (.iload 4, 2) := by decide +kernel
theorem dL_law__772 : decode cL_law_ 772 = .ok (.iconst 1, 1) := by decide +kernel
theorem dL_law__773 : decode cL_law_ 773 = .ok (.iadd, 1) := by decide +kernel
theorem dL_law__774 : decode cL_law_ 774 = .ok (.iaload, 1) := by decide +kernel
theorem dL_law__775 : decode cL_law_ 775 = .ok (.aload_n 0, 1) := by decide +kernel
theorem dL_law__776 : decode cL_law_ 776 = .ok (.iload 4, 2) := by decide +kernel
theorem dL_law__778 : decode cL_law_ 778 = .ok (.iconst 2, 1) := by decide +kernel
theorem dL_law__779 : decode cL_law_ 779 = .ok (.iadd, 1) := by decide +kernel
theorem dL_law__780 : decode cL_law_ 780 = .ok (.iaload, 1) := by decide +kernel
theorem dL_law__781 : decode cL_law_ 781 = .ok (.invokevirtual 137, 3) := by decide +kernel
theorem dL_law__784 : decode cL_law_ 784 = .ok (.istore 6, 2) := by decide +kernel
theorem dL_law__786 : decode cL_law_ 786 = .ok (.aload_n 2, 1) := by decide +kernel
theorem dL_law__787 : decode cL_law_ 787 = .ok (.invokevirtual 102, 3) := by decide +kernel
theorem dL_law__790 : decode cL_law_ 790 = .ok (.iload 5, 2) := by decide +kernel
theorem dL_law__792 : decode cL_law_ 792 = .ok (.if_icmp .eq 5, 3) := by decide +kernel
theorem dL_law__795 : decode cL_law_ 795 = .ok (.iconst 0, 1) := by decide +kernel
theorem dL_law__796 : decode cL_law_ 796 = .ok (.ireturn, 1) := by decide +kernel
theorem dL_law__797 : decode cL_law_ 797 = .ok (.iload 5, 2) := by decide +kernel
theorem dL_law__799 : decode cL_law_ 799 = .ok (.ifCond .ne 15, 3) := by decide +kernel
theorem dL_law__802 : decode cL_law_ 802 = .ok (.aload_n 3, 1) := by decide +kernel
theorem dL_law__803 : decode cL_law_ 803 = .ok (.iconst 0, 1) := by decide +kernel
theorem dL_law__804 : decode cL_law_ 804 = .ok (.laload, 1) := by decide +kernel
theorem dL_law__805 : decode cL_law_ 805 = .ok (.iload 6, 2) := by decide +kernel
theorem dL_law__807 : decode cL_law_ 807 = .ok (.i2l, 1) := by decide +kernel
theorem dL_law__808 : decode cL_law_ 808 = .ok (.lcmp, 1) := by decide +kernel
theorem dL_law__809 : decode cL_law_ 809 = .ok (.ifCond .eq 5, 3) := by decide +kernel
theorem dL_law__812 : decode cL_law_ 812 = .ok (.iconst 0, 1) := by decide +kernel
theorem dL_law__813 : decode cL_law_ 813 = .ok (.ireturn, 1) := by decide +kernel
theorem dL_law__814 : decode cL_law_ 814 = .ok (.goto 957, 3) := by decide +kernel
theorem dL_law__817 : decode cL_law_ 817 = .ok (.aload_n 1, 1) := by decide +kernel
theorem dL_law__818 : decode cL_law_ 818 = .ok (.aload_n 0, 1) := by decide +kernel
theorem dL_law__819 : decode cL_law_ 819 = .ok (.iload 4, 2) := by decide +kernel
theorem dL_law__821 : decode cL_law_ 821 = .ok (.iconst 1, 1) := by decide +kernel
theorem dL_law__822 : decode cL_law_ 822 = .ok (.iadd, 1) := by decide +kernel
theorem dL_law__823 : decode cL_law_ 823 = .ok (.iaload, 1) := by decide +kernel
theorem dL_law__824 : decode cL_law_ 824 = .ok (.aload_n 3, 1) := by decide +kernel
theorem dL_law__825 : decode cL_law_ 825 = .ok (.invokestatic 138, 3) := by decide +kernel
