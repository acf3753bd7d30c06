/-! the walk runs: 3 -/
set_option maxRecDepth 100000 in
theorem w_g597 : w_g (nat_lit 597) = true := by decide +kernel
theorem w_r598 : w_rg 598 := w_rg_s (n := 597) w_r597 w_g597
set_option maxRecDepth 100000 in
theorem w_g598 : w_g (nat_lit 598) = true := by decide +kernel
theorem w_r599 : w_rg 599 := w_rg_s (n := 598) w_r598 w_g598
set_option maxRecDepth 100000 in
theorem w_g599 : w_g (nat_lit 599) = true := by decide +kernel
theorem w_r600 : w_rg 600 := w_rg_s (n := 599) w_r599 w_g599
set_option maxRecDepth 100000 in
theorem w_g600 : w_g (nat_lit 600) = true := by decide +kernel
theorem w_r601 : w_rg 601 := w_rg_s (n := 600) w_r600 w_g600
set_option maxRecDepth 100000 in
theorem w_g601 : w_g (nat_lit 601) = true := by decide +kernel
theorem w_r602 : w_rg 602 := w_rg_s (n := 601) w_r601 w_g601
set_option maxRecDepth 100000 in
theorem w_g602 : w_g (nat_lit 602) = true := by decide +kernel
theorem w_r603 : w_rg 603 := w_rg_s (n := 602) w_r602 w_g602
set_option maxRecDepth 100000 in
theorem w_g603 : w_g (nat_lit 603) = true := by decide +kernel
theorem w_r604 : w_rg 604 := w_rg_s (n := 603) w_r603 w_g603
set_option maxRecDepth 100000 in
theorem w_g604 : w_g (nat_lit 604) = true := by decide +kernel
theorem w_r605 : w_rg 605 := w_rg_s (n := 604) w_r604 w_g604
set_option maxRecDepth 100000 in
theorem w_g605 : w_g (nat_lit 605) = true := by decide +kernel
theorem w_r606 : w_rg 606 := w_rg_s (n := 605) w_r605 w_g605
set_option maxRecDepth 100000 in
theorem w_g606 : w_g (nat_lit 606) = true := by decide +kernel
theorem w_r607 : w_rg 607 := w_rg_s (n := 606) w_r606 w_g606
set_option maxRecDepth 100000 in
theorem w_g607 : w_g (nat_lit 607) = true := by decide +kernel
theorem w_r608 : w_rg 608 := w_rg_s (n := 607) w_r607 w_g607
set_option maxRecDepth 100000 in
theorem w_g608 : w_g (nat_lit 608) = true := by decide +kernel
theorem w_r609 : w_rg 609 := w_rg_s (n := 608) w_r608 w_g608
set_option maxRecDepth 100000 in
theorem w_g609 : w_g (nat_lit 609) = true := by decide +kernel
theorem w_r610 : w_rg 610 := w_rg_s (n := 609) w_r609 w_g609
set_option maxRecDepth 100000 in
theorem w_g610 : w_g (nat_lit 610) = true := by decide +kernel
theorem w_r611 : w_rg 611 := w_rg_s (n := 610) w_r610 w_g610
set_option maxRecDepth 100000 in
theorem w_g611 : w_g (nat_lit 611) = true := by decide +kernel
theorem w_r612 : w_rg 612 := w_rg_s (n := 611) w_r611 w_g611
set_option maxRecDepth 100000 in
theorem w_g612 : w_g (nat_lit 612) = true := by decide +kernel
theorem w_r613 : w_rg 613 := w_rg_s (n := 612) w_r612 w_g612
set_option maxRecDepth 100000 in
theorem w_g613 : w_g (nat_lit 613) = true := by decide +kernel
theorem w_r614 : w_rg 614 := w_rg_s (n := 613) w_r613 w_g613
set_option maxRecDepth 100000 in
theorem w_g614 : w_g (nat_lit 614) = true := by decide +kernel
theorem w_r615 : w_rg 615 := w_rg_s (n := 614) w_r614 w_g614
set_option maxRecDepth 100000 in
theorem w_g615 : w_g (nat_lit 615) = true := by decide +kernel
theorem w_r616 : w_rg 616 := w_rg_s (n := 615) w_r615 w_g615
set_option maxRecDepth 100000 in
theorem w_g616 : w_g (nat_lit 616) = true := by decide +kernel
theorem w_r617 : w_rg 617 := w_rg_s (n := 616) w_r616 w_g616
set_option maxRecDepth 100000 in
theorem w_g617 : w_g (nat_lit 617) = true := by decide +kernel
theorem w_r618 : w_rg 618 := w_rg_s (n := 617) w_r617 w_g617
set_option maxRecDepth 100000 in
theorem w_g618 : w_g (nat_lit 618) = true := by decide +kernel
theorem w_r619 : w_rg 619 := w_rg_s (n := 618) w_r618 w_g618
set_option maxRecDepth 100000 in
theorem w_g619 : w_g (nat_lit 619) = true := by decide +kernel
theorem w_r620 : w_rg 620 := w_rg_s (n := 619) w_r619 w_g619
set_option maxRecDepth 100000 in
theorem w_g620 : w_g (nat_lit 620) = true := by decide +kernel
theorem w_r621 : w_rg 621 := w_rg_s (n := 620) w_r620 w_g620
set_option maxRecDepth 100000 in
theorem w_g621 : w_g (nat_lit 621) = true := by decide +kernel
theorem w_r622 : w_rg 622 := w_rg_s (n := 621) w_r621 w_g621
set_option maxRecDepth 100000 in
theorem w_g622 : w_g (nat_lit 622) = true := by decide +kernel
theorem w_r623 : w_rg 623 := w_rg_s (n := 622) w_r622 w_g622
set_option maxRecDepth 100000 in
theorem w_g623 : w_g (nat_lit 623) = true := by decide +kernel
theorem w_r624 : w_rg 624 := w_rg_s (n := 623) w_r623 w_g623
set_option maxRecDepth 100000 in
theorem w_g624 : w_g (nat_lit 624) = true := by decide +kernel
theorem w_r625 : w_rg 625 := w_rg_s (n := 624) w_r624 w_g624
set_option maxRecDepth 100000 in
theorem w_g625 : w_g (nat_lit 625) = true := by decide +kernel
theorem w_r626 : w_rg 626 := w_rg_s (n := 625) w_r625 w_g625
set_option maxRecDepth 100000 in
theorem w_g626 : w_g (nat_lit 626) = true := by decide +kernel
theorem w_r627 : w_rg 627 := w_rg_s (n := 626) w_r626 w_g626
set_option maxRecDepth 100000 in
theorem w_g627 : w_g (nat_lit 627) = true := by decide +kernel
theorem w_r628 : w_rg 628 := w_rg_s (n := 627) w_r627 w_g627
set_option maxRecDepth 100000 in
theorem w_g628 : w_g (nat_lit 628) = true := by decide +kernel
theorem w_r629 : w_rg 629 := w_rg_s (n := 628) w_r628 w_g628
set_option maxRecDepth 100000 in
theorem w_g629 : w_g (nat_lit 629) = true := by decide +kernel
theorem w_r630 : w_rg 630 := w_rg_s (n := 629) w_r629 w_g629
set_option maxRecDepth 100000 in
theorem w_g630 : w_g (nat_lit 630) = true := by decide +kernel
theorem w_r631 : w_rg 631 := w_rg_s (n := 630) w_r630 w_g630
set_option maxRecDepth 100000 in
theorem w_g631 : w_g (nat_lit 631) = true := by decide +kernel
theorem w_r632 : w_rg 632 := w_rg_s (n := 631) w_r631 w_g631
set_option maxRecDepth 100000 in
theorem w_g632 : w_g (nat_lit 632) = true := by decide +kernel
theorem w_r633 : w_rg 633 := w_rg_s (n := 632) w_r632 w_g632
set_option maxRecDepth 100000 in
theorem w_g633 : w_g (nat_lit 633) = true := by decide +kernel
theorem w_r634 : w_rg 634 := w_rg_s (n := 633) w_r633 w_g633
set_option maxRecDepth 100000 in
theorem w_g634 : w_g (nat_lit 634) = true := by decide +kernel
theorem w_r635 : w_rg 635 := w_rg_s (n := 634) w_r634 w_g634
set_option maxRecDepth 100000 in
theorem w_g635 : w_g (nat_lit 635) = true := by decide +kernel
theorem w_r636 : w_rg 636 := w_rg_s (n := 635) w_r635 w_g635
set_option maxRecDepth 100000 in
theorem w_g636 : w_g (nat_lit 636) = true := by decide +kernel
theorem w_r637 : w_rg 637 := w_rg_s (n := 636) w_r636 w_g636
set_option maxRecDepth 100000 in
theorem w_g637 : w_g (nat_lit 637) = true := by decide +kernel
theorem w_r638 : w_rg 638 := w_rg_s (n := 637) w_r637 w_g637
set_option maxRecDepth 100000 in
theorem w_g638 : w_g (nat_lit 638) = true := by decide +kernel
theorem w_r639 : w_rg 639 := w_rg_s (n := 638) w_r638 w_g638
set_option maxRecDepth 100000 in
theorem w_g639 : w_g (nat_lit 639) = true := by decide +kernel
theorem w_r640 : w_rg 640 := w_rg_s (n := 639) w_r639 w_g639
set_option maxRecDepth 100000 in
theorem w_g640 : w_g (nat_lit 640) = true := by decide +kernel
theorem w_r641 : w_rg 641 := w_rg_s (n := 640) w_r640 w_g640
set_option maxRecDepth 100000 in
theorem w_g641 : w_g (nat_lit 641) = true := by decide +kernel
theorem w_r642 : w_rg 642 := w_rg_s (n := 641) w_r641 w_g641
set_option maxRecDepth 100000 in
theorem w_g642 : w_g (nat_lit 642) = true := by decide +kernel
theorem w_r643 : w_rg 643 := w_rg_s (n := 642) w_r642 w_g642
set_option maxRecDepth 100000 in
theorem w_g643 : w_g (nat_lit 643) = true := by decide +kernel
theorem w_r644 : w_rg 644 := w_rg_s (n := 643) w_r643 w_g643
set_option maxRecDepth 100000 in
theorem w_g644 : w_g (nat_lit 644) = true := by decide +kernel
theorem w_r645 : w_rg 645 := w_rg_s (n := 644) w_r644 w_g644
set_option maxRecDepth 100000 in
theorem w_g645 : w_g (nat_lit 645) = true := by decide +kernel
theorem w_r646 : w_rg 646 := w_rg_s (n := 645) w_r645 w_g645
set_option maxRecDepth 100000 in
theorem w_g646 : w_g (nat_lit 646) = true := by decide +kernel
theorem w_r647 : w_rg 647 := w_rg_s (n := 646) w_r646 w_g646
set_option maxRecDepth 100000 in
theorem w_g647 : w_g (nat_lit 647) = true := by decide +kernel
theorem w_r648 : w_rg 648 := w_rg_s (n := 647) w_r647 w_g647
set_option maxRecDepth 100000 in
theorem w_g648 : w_g (nat_lit 648) = true := by decide +kernel
theorem w_r649 : w_rg 649 := w_rg_s (n := 648) w_r648 w_g648
set_option maxRecDepth 100000 in
theorem w_g649 : w_g (nat_lit 649) = true := by decide +kernel
theorem w_r650 : w_rg 650 := w_rg_s (n := 649) w_r649 w_g649
set_option maxRecDepth 100000 in
theorem w_g650 : w_g (nat_lit 650) = true := by decide +kernel
theorem w_r651 : w_rg 651 := w_rg_s (n := 650) w_r650 w_g650
set_option maxRecDepth 100000 in
theorem w_g651 : w_g (nat_lit 651) = true := by decide +kernel
theorem w_r652 : w_rg 652 := w_rg_s (n := 651) w_r651 w_g651
set_option maxRecDepth 100000 in
theorem w_g652 : w_g (nat_lit 652) = true := by decide +kernel
theorem w_r653 : w_rg 653 := w_rg_s (n := 652) w_r652 w_g652
set_option maxRecDepth 100000 in
theorem w_g653 : w_g (nat_lit 653) = true := by decide +kernel
theorem w_r654 : w_rg 654 := w_rg_s (n := 653) w_r653 w_g653
set_option maxRecDepth 100000 in
theorem w_g654 : w_g (nat_lit 654) = true := by decide +kernel
theorem w_r655 : w_rg 655 := w_rg_s (n := 654) w_r654 w_g654
set_option maxRecDepth 100000 in
theorem w_g655 : w_g (nat_lit 655) = true := by decide +kernel
theorem w_r656 : w_rg 656 := w_rg_s (n := 655) w_r655 w_g655
set_option maxRecDepth 100000 in
theorem w_g656 : w_g (nat_lit 656) = true := by decide +kernel
theorem w_r657 : w_rg 657 := w_rg_s (n := 656) w_r656 w_g656
set_option maxRecDepth 100000 in
theorem w_g657 : w_g (nat_lit 657) = true := by decide +kernel
theorem w_r658 : w_rg 658 := w_rg_s (n := 657) w_r657 w_g657
set_option maxRecDepth 100000 in
theorem w_g658 : w_g (nat_lit 658) = true := by decide +kernel
theorem w_r659 : w_rg 659 := w_rg_s (n := 658) w_r658 w_g658
set_option maxRecDepth 100000 in
theorem w_g659 : w_g (nat_lit 659) = true := by decide +kernel
theorem w_r660 : w_rg 660 := w_rg_s (n := 659) w_r659 w_g659
set_option maxRecDepth 100000 in
theorem w_g660 : w_g (nat_lit 660) = true := by decide +kernel
theorem w_r661 : w_rg 661 := w_rg_s (n := 660) w_r660 w_g660
set_option maxRecDepth 100000 in
theorem w_g661 : w_g (nat_lit 661) = true := by decide +kernel
theorem w_r662 : w_rg 662 := w_rg_s (n := 661) w_r661 w_g661
set_option maxRecDepth 100000 in
theorem w_g662 : w_g (nat_lit 662) = true := by decide +kernel
theorem w_r663 : w_rg 663 := w_rg_s (n := 662) w_r662 w_g662
set_option maxRecDepth 100000 in
theorem w_g663 : w_g (nat_lit 663) = true := by decide +kernel
theorem w_r664 : w_rg 664 := w_rg_s (n := 663) w_r663 w_g663
set_option maxRecDepth 100000 in
theorem w_g664 : w_g (nat_lit 664) = true := by decide +kernel
theorem w_r665 : w_rg 665 := w_rg_s (n := 664) w_r664 w_g664
set_option maxRecDepth 100000 in
theorem w_g665 : w_g (nat_lit 665) = true := by decide +kernel
theorem w_r666 : w_rg 666 := w_rg_s (n := 665) w_r665 w_g665
set_option maxRecDepth 100000 in
theorem w_g666 : w_g (nat_lit 666) = true := by decide +kernel
theorem w_r667 : w_rg 667 := w_rg_s (n := 666) w_r666 w_g666
set_option maxRecDepth 100000 in
theorem w_g667 : w_g (nat_lit 667) = true := by decide +kernel
theorem w_r668 : w_rg 668 := w_rg_s (n := 667) w_r667 w_g667
set_option maxRecDepth 100000 in
theorem w_g668 : w_g (nat_lit 668) = true := by decide +kernel
theorem w_r669 : w_rg 669 := w_rg_s (n := 668) w_r668 w_g668
set_option maxRecDepth 100000 in
theorem w_g669 : w_g (nat_lit 669) = true := by decide +kernel
theorem w_r670 : w_rg 670 := w_rg_s (n := 669) w_r669 w_g669
set_option maxRecDepth 100000 in
theorem w_g670 : w_g (nat_lit 670) = true := by decide +kernel
theorem w_r671 : w_rg 671 := w_rg_s (n := 670) w_r670 w_g670
set_option maxRecDepth 100000 in
theorem w_g671 : w_g (nat_lit 671) = true := by decide +kernel
theorem w_r672 : w_rg 672 := w_rg_s (n := 671) w_r671 w_g671
set_option maxRecDepth 100000 in
theorem w_g672 : w_g (nat_lit 672) = true := by decide +kernel
theorem w_r673 : w_rg 673 := w_rg_s (n := 672) w_r672 w_g672
set_option maxRecDepth 100000 in
theorem w_g673 : w_g (nat_lit 673) = true := by decide +kernel
theorem w_r674 : w_rg 674 := w_rg_s (n := 673) w_r673 w_g673
set_option maxRecDepth 100000 in
theorem w_g674 : w_g (nat_lit 674) = true := by decide +kernel
theorem w_r675 : w_rg 675 := w_rg_s (n := 674) w_r674 w_g674
set_option maxRecDepth 100000 in
theorem w_g675 : w_g (nat_lit 675) = true := by decide +kernel
theorem w_r676 : w_rg 676 := w_rg_s (n := 675) w_r675 w_g675
set_option maxRecDepth 100000 in
theorem w_g676 : w_g (nat_lit 676) = true := by decide +kernel
theorem w_r677 : w_rg 677 := w_rg_s (n := 676) w_r676 w_g676
set_option maxRecDepth 100000 in
theorem w_g677 : w_g (nat_lit 677) = true := by decide +kernel
theorem w_r678 : w_rg 678 := w_rg_s (n := 677) w_r677 w_g677
set_option maxRecDepth 100000 in
theorem w_g678 : w_g (nat_lit 678) = true := by decide +kernel
theorem w_r679 : w_rg 679 := w_rg_s (n := 678) w_r678 w_g678
set_option maxRecDepth 100000 in
theorem w_g679 : w_g (nat_lit 679) = true := by decide +kernel
theorem w_r680 : w_rg 680 := w_rg_s (n := 679) w_r679 w_g679
set_option maxRecDepth 100000 in
theorem w_g680 : w_g (nat_lit 680) = true := by decide +kernel
theorem w_r681 : w_rg 681 := w_rg_s (n := 680) w_r680 w_g680
set_option maxRecDepth 100000 in
theorem w_g681 : w_g (nat_lit 681) = true := by decide +kernel
theorem w_r682 : w_rg 682 := w_rg_s (n := 681) w_r681 w_g681
set_option maxRecDepth 100000 in
theorem w_g682 : w_g (nat_lit 682) = true := by decide +kernel
theorem w_r683 : w_rg 683 := w_rg_s (n := 682) w_r682 w_g682
set_option maxRecDepth 100000 in
theorem w_g683 : w_g (nat_lit 683) = true := by decide +kernel
theorem w_r684 : w_rg 684 := w_rg_s (n := 683) w_r683 w_g683
set_option maxRecDepth 100000 in
theorem w_g684 : w_g (nat_lit 684) = true := by decide +kernel
theorem w_r685 : w_rg 685 := w_rg_s (n := 684) w_r684 w_g684
set_option maxRecDepth 100000 in
theorem w_g685 : w_g (nat_lit 685) = true := by decide +kernel
theorem w_r686 : w_rg 686 := w_rg_s (n := 685) w_r685 w_g685
set_option maxRecDepth 100000 in
theorem w_g686 : w_g (nat_lit 686) = true := by decide +kernel
theorem w_r687 : w_rg 687 := w_rg_s (n := 686) w_r686 w_g686
set_option maxRecDepth 100000 in
theorem w_g687 : w_g (nat_lit 687) = true := by decide +kernel
theorem w_r688 : w_rg 688 := w_rg_s (n := 687) w_r687 w_g687
set_option maxRecDepth 100000 in
theorem w_g688 : w_g (nat_lit 688) = true := by decide +kernel
theorem w_r689 : w_rg 689 := w_rg_s (n := 688) w_r688 w_g688
set_option maxRecDepth 100000 in
theorem w_g689 : w_g (nat_lit 689) = true := by decide +kernel
theorem w_r690 : w_rg 690 := w_rg_s (n := 689) w_r689 w_g689
set_option maxRecDepth 100000 in
theorem w_g690 : w_g (nat_lit 690) = true := by decide +kernel
theorem w_r691 : w_rg 691 := w_rg_s (n := 690) w_r690 w_g690
set_option maxRecDepth 100000 in
theorem w_g691 : w_g (nat_lit 691) = true := by decide +kernel
theorem w_r692 : w_rg 692 := w_rg_s (n := 691) w_r691 w_g691
set_option maxRecDepth 100000 in
theorem w_g692 : w_g (nat_lit 692) = true := by decide +kernel
theorem w_r693 : w_rg 693 := w_rg_s (n := 692) w_r692 w_g692
set_option maxRecDepth 100000 in
theorem w_g693 : w_g (nat_lit 693) = true := by decide +kernel
theorem w_r694 : w_rg 694 := w_rg_s (n := 693) w_r693 w_g693
set_option maxRecDepth 100000 in
theorem w_g694 : w_g (nat_lit 694) = true := by decide +kernel
theorem w_r695 : w_rg 695 := w_rg_s (n := 694) w_r694 w_g694
set_option maxRecDepth 100000 in
theorem w_g695 : w_g (nat_lit 695) = true := by decide +kernel
theorem w_r696 : w_rg 696 := w_rg_s (n := 695) w_r695 w_g695
set_option maxRecDepth 100000 in
theorem w_g696 : w_g (nat_lit 696) = true := by decide +kernel
theorem w_r697 : w_rg 697 := w_rg_s (n := 696) w_r696 w_g696
set_option maxRecDepth 100000 in
theorem w_g697 : w_g (nat_lit 697) = true := by decide +kernel
theorem w_r698 : w_rg 698 := w_rg_s (n := 697) w_r697 w_g697
set_option maxRecDepth 100000 in
theorem w_g698 : w_g (nat_lit 698) = true := by decide +kernel
theorem w_r699 : w_rg 699 := w_rg_s (n := 698) w_r698 w_g698
set_option maxRecDepth 100000 in
theorem w_g699 : w_g (nat_lit 699) = true := by decide +kernel
theorem w_r700 : w_rg 700 := w_rg_s (n := 699) w_r699 w_g699
set_option maxRecDepth 100000 in
theorem w_g700 : w_g (nat_lit 700) = true := by decide +kernel
theorem w_r701 : w_rg 701 := w_rg_s (n := 700) w_r700 w_g700
set_option maxRecDepth 100000 in
theorem w_g701 : w_g (nat_lit 701) = true := by decide +kernel
theorem w_r702 : w_rg 702 := w_rg_s (n := 701) w_r701 w_g701
set_option maxRecDepth 100000 in
theorem w_g702 : w_g (nat_lit 702) = true := by decide +kernel
theorem w_r703 : w_rg 703 := w_rg_s (n := 702) w_r702 w_g702
set_option maxRecDepth 100000 in
theorem w_g703 : w_g (nat_lit 703) = true := by decide +kernel
theorem w_r704 : w_rg 704 := w_rg_s (n := 703) w_r703 w_g703
set_option maxRecDepth 100000 in
theorem w_g704 : w_g (nat_lit 704) = true := by decide +kernel
theorem w_r705 : w_rg 705 := w_rg_s (n := 704) w_r704 w_g704
set_option maxRecDepth 100000 in
theorem w_g705 : w_g (nat_lit 705) = true := by decide +kernel
theorem w_r706 : w_rg 706 := w_rg_s (n := 705) w_r705 w_g705
set_option maxRecDepth 100000 in
theorem w_g706 : w_g (nat_lit 706) = true := by decide +kernel
theorem w_r707 : w_rg 707 := w_rg_s (n := 706) w_r706 w_g706
set_option maxRecDepth 100000 in
theorem w_g707 : w_g (nat_lit 707) = true := by decide +kernel
theorem w_r708 : w_rg 708 := w_rg_s (n := 707) w_r707 w_g707
set_option maxRecDepth 100000 in
theorem w_g708 : w_g (nat_lit 708) = true := by decide +kernel
theorem w_r709 : w_rg 709 := w_rg_s (n := 708) w_r708 w_g708
set_option maxRecDepth 100000 in
theorem w_g709 : w_g (nat_lit 709) = true := by decide +kernel
theorem w_r710 : w_rg 710 := w_rg_s (n := 709) w_r709 w_g709
set_option maxRecDepth 100000 in
theorem w_g710 : w_g (nat_lit 710) = true := by decide +kernel
theorem w_r711 : w_rg 711 := w_rg_s (n := 710) w_r710 w_g710
set_option maxRecDepth 100000 in
theorem w_g711 : w_g (nat_lit 711) = true := by decide +kernel
theorem w_r712 : w_rg 712 := w_rg_s (n := 711) w_r711 w_g711
set_option maxRecDepth 100000 in
theorem w_g712 : w_g (nat_lit 712) = true := by decide +kernel
theorem w_r713 : w_rg 713 := w_rg_s (n := 712) w_r712 w_g712
set_option maxRecDepth 100000 in
theorem w_g713 : w_g (nat_lit 713) = true := by decide +kernel
theorem w_r714 : w_rg 714 := w_rg_s (n := 713) w_r713 w_g713
set_option maxRecDepth 100000 in
theorem w_g714 : w_g (nat_lit 714) = true := by decide +kernel
theorem w_r715 : w_rg 715 := w_rg_s (n := 714) w_r714 w_g714
set_option maxRecDepth 100000 in
theorem w_g715 : w_g (nat_lit 715) = true := by decide +kernel
theorem w_r716 : w_rg 716 := w_rg_s (n := 715) w_r715 w_g715
set_option maxRecDepth 100000 in
theorem w_g716 : w_g (nat_lit 716) = true := by decide +kernel
theorem w_r717 : w_rg 717 := w_rg_s (n := 716) w_r716 w_g716
set_option maxRecDepth 100000 in
theorem w_g717 : w_g (nat_lit 717) = true := by decide +kernel
theorem w_r718 : w_rg 718 := w_rg_s (n := 717) w_r717 w_g717
set_option maxRecDepth 100000 in
theorem w_g718 : w_g (nat_lit 718) = true := by decide +kernel
theorem w_r719 : w_rg 719 := w_rg_s (n := 718) w_r718 w_g718
set_option maxRecDepth 100000 in
theorem w_g719 : w_g (nat_lit 719) = true := by decide +kernel
theorem w_r720 : w_rg 720 := w_rg_s (n := 719) w_r719 w_g719
set_option maxRecDepth 100000 in
theorem w_g720 : w_g (nat_lit 720) = true := by decide +kernel
theorem w_r721 : w_rg 721 := w_rg_s (n := 720) w_r720 w_g720
set_option maxRecDepth 100000 in
theorem w_g721 : w_g (nat_lit 721) = true := by decide +kernel
theorem w_r722 : w_rg 722 := w_rg_s (n := 721) w_r721 w_g721
set_option maxRecDepth 100000 in
theorem w_g722 : w_g (nat_lit 722) = true := by decide +kernel
theorem w_r723 : w_rg 723 := w_rg_s (n := 722) w_r722 w_g722
set_option maxRecDepth 100000 in
theorem w_g723 : w_g (nat_lit 723) = true := by decide +kernel
theorem w_r724 : w_rg 724 := w_rg_s (n := 723) w_r723 w_g723
set_option maxRecDepth 100000 in
theorem w_g724 : w_g (nat_lit 724) = true := by decide +kernel
theorem w_r725 : w_rg 725 := w_rg_s (n := 724) w_r724 w_g724
set_option maxRecDepth 100000 in
theorem w_g725 : w_g (nat_lit 725) = true := by decide +kernel
theorem w_r726 : w_rg 726 := w_rg_s (n := 725) w_r725 w_g725
set_option maxRecDepth 100000 in
theorem w_g726 : w_g (nat_lit 726) = true := by decide +kernel
theorem w_r727 : w_rg 727 := w_rg_s (n := 726) w_r726 w_g726
set_option maxRecDepth 100000 in
theorem w_g727 : w_g (nat_lit 727) = true := by decide +kernel
theorem w_r728 : w_rg 728 := w_rg_s (n := 727) w_r727 w_g727
set_option maxRecDepth 100000 in
theorem w_g728 : w_g (nat_lit 728) = true := by decide +kernel
theorem w_r729 : w_rg 729 := w_rg_s (n := 728) w_r728 w_g728
set_option maxRecDepth 100000 in
theorem w_g729 : w_g (nat_lit 729) = true := by decide +kernel
theorem w_r730 : w_rg 730 := w_rg_s (n := 729) w_r729 w_g729
set_option maxRecDepth 100000 in
theorem w_g730 : w_g (nat_lit 730) = true := by decide +kernel
theorem w_r731 : w_rg 731 := w_rg_s (n := 730) w_r730 w_g730
set_option maxRecDepth 100000 in
theorem w_g731 : w_g (nat_lit 731) = true := by decide +kernel
theorem w_r732 : w_rg 732 := w_rg_s (n := 731) w_r731 w_g731
set_option maxRecDepth 100000 in
theorem w_g732 : w_g (nat_lit 732) = true := by decide +kernel
theorem w_r733 : w_rg 733 := w_rg_s (n := 732) w_r732 w_g732
set_option maxRecDepth 100000 in
theorem w_g733 : w_g (nat_lit 733) = true := by decide +kernel
theorem w_r734 : w_rg 734 := w_rg_s (n := 733) w_r733 w_g733
set_option maxRecDepth 100000 in
theorem w_g734 : w_g (nat_lit 734) = true := by decide +kernel
theorem w_r735 : w_rg 735 := w_rg_s (n := 734) w_r734 w_g734
set_option maxRecDepth 100000 in
theorem w_g735 : w_g (nat_lit 735) = true := by decide +kernel
theorem w_r736 : w_rg 736 := w_rg_s (n := 735) w_r735 w_g735
set_option maxRecDepth 100000 in
theorem w_g736 : w_g (nat_lit 736) = true := by decide +kernel
theorem w_r737 : w_rg 737 := w_rg_s (n := 736) w_r736 w_g736
set_option maxRecDepth 100000 in
theorem w_g737 : w_g (nat_lit 737) = true := by decide +kernel
theorem w_r738 : w_rg 738 := w_rg_s (n := 737) w_r737 w_g737
set_option maxRecDepth 100000 in
theorem w_g738 : w_g (nat_lit 738) = true := by decide +kernel
theorem w_r739 : w_rg 739 := w_rg_s (n := 738) w_r738 w_g738
set_option maxRecDepth 100000 in
theorem w_g739 : w_g (nat_lit 739) = true := by decide +kernel
theorem w_r740 : w_rg 740 := w_rg_s (n := 739) w_r739 w_g739
set_option maxRecDepth 100000 in
theorem w_g740 : w_g (nat_lit 740) = true := by decide +kernel
theorem w_r741 : w_rg 741 := w_rg_s (n := 740) w_r740 w_g740
set_option maxRecDepth 100000 in
theorem w_g741 : w_g (nat_lit 741) = true := by decide +kernel
theorem w_r742 : w_rg 742 := w_rg_s (n := 741) w_r741 w_g741
set_option maxRecDepth 100000 in
theorem w_g742 : w_g (nat_lit 742) = true := by decide +kernel
theorem w_r743 : w_rg 743 := w_rg_s (n := 742) w_r742 w_g742
set_option maxRecDepth 100000 in
theorem w_g743 : w_g (nat_lit 743) = true := by decide +kernel
theorem w_r744 : w_rg 744 := w_rg_s (n := 743) w_r743 w_g743
set_option maxRecDepth 100000 in
theorem w_g744 : w_g (nat_lit 744) = true := by decide +kernel
theorem w_r745 : w_rg 745 := w_rg_s (n := 744) w_r744 w_g744
set_option maxRecDepth 100000 in
theorem w_g745 : w_g (nat_lit 745) = true := by decide +kernel
theorem w_r746 : w_rg 746 := w_rg_s (n := 745) w_r745 w_g745
set_option maxRecDepth 100000 in
theorem w_g746 : w_g (nat_lit 746) = true := by decide +kernel
theorem w_r747 : w_rg 747 := w_rg_s (n := 746) w_r746 w_g746
set_option maxRecDepth 100000 in
theorem w_g747 : w_g (nat_lit 747) = true := by decide +kernel
theorem w_r748 : w_rg 748 := w_rg_s (n := 747) w_r747 w_g747
set_option maxRecDepth 100000 in
theorem w_g748 : w_g (nat_lit 748) = true := by decide +kernel
theorem w_r749 : w_rg 749 := w_rg_s (n := 748) w_r748 w_g748
set_option maxRecDepth 100000 in
theorem w_g749 : w_g (nat_lit 749) = true := by decide +kernel
theorem w_r750 : w_rg 750 := w_rg_s (n := 749) w_r749 w_g749
set_option maxRecDepth 100000 in
theorem w_g750 : w_g (nat_lit 750) = true := by decide +kernel
theorem w_r751 : w_rg 751 := w_rg_s (n := 750) w_r750 w_g750
set_option maxRecDepth 100000 in
theorem w_g751 : w_g (nat_lit 751) = true := by decide +kernel
theorem w_r752 : w_rg 752 := w_rg_s (n := 751) w_r751 w_g751
set_option maxRecDepth 100000 in
theorem w_g752 : w_g (nat_lit 752) = true := by decide +kernel
theorem w_r753 : w_rg 753 := w_rg_s (n := 752) w_r752 w_g752
set_option maxRecDepth 100000 in
theorem w_g753 : w_g (nat_lit 753) = true := by decide +kernel
theorem w_r754 : w_rg 754 := w_rg_s (n := 753) w_r753 w_g753
set_option maxRecDepth 100000 in
theorem w_g754 : w_g (nat_lit 754) = true := by decide +kernel
theorem w_r755 : w_rg 755 := w_rg_s (n := 754) w_r754 w_g754
set_option maxRecDepth 100000 in
theorem w_g755 : w_g (nat_lit 755) = true := by decide +kernel
theorem w_r756 : w_rg 756 := w_rg_s (n := 755) w_r755 w_g755
set_option maxRecDepth 100000 in
theorem w_g756 : w_g (nat_lit 756) = true := by decide +kernel
theorem w_r757 : w_rg 757 := w_rg_s (n := 756) w_r756 w_g756
set_option maxRecDepth 100000 in
theorem w_g757 : w_g (nat_lit 757) = true := by decide +kernel
theorem w_r758 : w_rg 758 := w_rg_s (n := 757) w_r757 w_g757
set_option maxRecDepth 100000 in
theorem w_g758 : w_g (nat_lit 758) = true := by decide +kernel
theorem w_r759 : w_rg 759 := w_rg_s (n := 758) w_r758 w_g758
set_option maxRecDepth 100000 in
theorem w_g759 : w_g (nat_lit 759) = true := by decide +kernel
theorem w_r760 : w_rg 760 := w_rg_s (n := 759) w_r759 w_g759
set_option maxRecDepth 100000 in
theorem w_g760 : w_g (nat_lit 760) = true := by decide +kernel
theorem w_r761 : w_rg 761 := w_rg_s (n := 760) w_r760 w_g760
set_option maxRecDepth 100000 in
theorem w_g761 : w_g (nat_lit 761) = true := by decide +kernel
theorem w_r762 : w_rg 762 := w_rg_s (n := 761) w_r761 w_g761
set_option maxRecDepth 100000 in
theorem w_g762 : w_g (nat_lit 762) = true := by decide +kernel
theorem w_r763 : w_rg 763 := w_rg_s (n := 762) w_r762 w_g762
set_option maxRecDepth 100000 in
theorem w_g763 : w_g (nat_lit 763) = true := by decide +kernel
theorem w_r764 : w_rg 764 := w_rg_s (n := 763) w_r763 w_g763
set_option maxRecDepth 100000 in
theorem w_g764 : w_g (nat_lit 764) = true := by decide +kernel
theorem w_r765 : w_rg 765 := w_rg_s (n := 764) w_r764 w_g764
set_option maxRecDepth 100000 in
theorem w_g765 : w_g (nat_lit 765) = true := by decide +kernel
theorem w_r766 : w_rg 766 := w_rg_s (n := 765) w_r765 w_g765
set_option maxRecDepth 100000 in
theorem w_g766 : w_g (nat_lit 766) = true := by decide +kernel
theorem w_r767 : w_rg 767 := w_rg_s (n := 766) w_r766 w_g766
set_option maxRecDepth 100000 in
theorem w_g767 : w_g (nat_lit 767) = true := by decide +kernel
theorem w_r768 : w_rg 768 := w_rg_s (n := 767) w_r767 w_g767
set_option maxRecDepth 100000 in
theorem w_g768 : w_g (nat_lit 768) = true := by decide +kernel
theorem w_r769 : w_rg 769 := w_rg_s (n := 768) w_r768 w_g768
set_option maxRecDepth 100000 in
theorem w_g769 : w_g (nat_lit 769) = true := by decide +kernel
theorem w_r770 : w_rg 770 := w_rg_s (n := 769) w_r769 w_g769
set_option maxRecDepth 100000 in
theorem w_g770 : w_g (nat_lit 770) = true := by decide +kernel
theorem w_r771 : w_rg 771 := w_rg_s (n := 770) w_r770 w_g770
set_option maxRecDepth 100000 in
theorem w_g771 : w_g (nat_lit 771) = true := by decide +kernel
theorem w_r772 : w_rg 772 := w_rg_s (n := 771) w_r771 w_g771
set_option maxRecDepth 100000 in
theorem w_g772 : w_g (nat_lit 772) = true := by decide +kernel
theorem w_r773 : w_rg 773 := w_rg_s (n := 772) w_r772 w_g772
set_option maxRecDepth 100000 in
theorem w_g773 : w_g (nat_lit 773) = true := by decide +kernel
theorem w_r774 : w_rg 774 := w_rg_s (n := 773) w_r773 w_g773
set_option maxRecDepth 100000 in
theorem w_g774 : w_g (nat_lit 774) = true := by decide +kernel
theorem w_r775 : w_rg 775 := w_rg_s (n := 774) w_r774 w_g774
set_option maxRecDepth 100000 in
theorem w_g775 : w_g (nat_lit 775) = true := by decide +kernel
theorem w_r776 : w_rg 776 := w_rg_s (n := 775) w_r775 w_g775
set_option maxRecDepth 100000 in
theorem w_g776 : w_g (nat_lit 776) = true := by decide +kernel
theorem w_r777 : w_rg 777 := w_rg_s (n := 776) w_r776 w_g776
set_option maxRecDepth 100000 in
theorem w_g777 : w_g (nat_lit 777) = true := by decide +kernel
theorem w_r778 : w_rg 778 := w_rg_s (n := 777) w_r777 w_g777
set_option maxRecDepth 100000 in
theorem w_g778 : w_g (nat_lit 778) = true := by decide +kernel
theorem w_r779 : w_rg 779 := w_rg_s (n := 778) w_r778 w_g778
set_option maxRecDepth 100000 in
theorem w_g779 : w_g (nat_lit 779) = true := by decide +kernel
theorem w_r780 : w_rg 780 := w_rg_s (n := 779) w_r779 w_g779
set_option maxRecDepth 100000 in
theorem w_g780 : w_g (nat_lit 780) = true := by decide +kernel
theorem w_r781 : w_rg 781 := w_rg_s (n := 780) w_r780 w_g780
set_option maxRecDepth 100000 in
theorem w_g781 : w_g (nat_lit 781) = true := by decide +kernel
theorem w_r782 : w_rg 782 := w_rg_s (n := 781) w_r781 w_g781
set_option maxRecDepth 100000 in
theorem w_g782 : w_g (nat_lit 782) = true := by decide +kernel
theorem w_r783 : w_rg 783 := w_rg_s (n := 782) w_r782 w_g782
set_option maxRecDepth 100000 in
theorem w_g783 : w_g (nat_lit 783) = true := by decide +kernel
theorem w_r784 : w_rg 784 := w_rg_s (n := 783) w_r783 w_g783
set_option maxRecDepth 100000 in
theorem w_g784 : w_g (nat_lit 784) = true := by decide +kernel
theorem w_r785 : w_rg 785 := w_rg_s (n := 784) w_r784 w_g784
set_option maxRecDepth 100000 in
theorem w_g785 : w_g (nat_lit 785) = true := by decide +kernel
theorem w_r786 : w_rg 786 := w_rg_s (n := 785) w_r785 w_g785
set_option maxRecDepth 100000 in
theorem w_g786 : w_g (nat_lit 786) = true := by decide +kernel
theorem w_r787 : w_rg 787 := w_rg_s (n := 786) w_r786 w_g786
set_option maxRecDepth 100000 in
theorem w_g787 : w_g (nat_lit 787) = true := by decide +kernel
theorem w_r788 : w_rg 788 := w_rg_s (n := 787) w_r787 w_g787
set_option maxRecDepth 100000 in
theorem w_g788 : w_g (nat_lit 788) = true := by decide +kernel
theorem w_r789 : w_rg 789 := w_rg_s (n := 788) w_r788 w_g788
set_option maxRecDepth 100000 in
theorem w_g789 : w_g (nat_lit 789) = true := by decide +kernel
theorem w_r790 : w_rg 790 := w_rg_s (n := 789) w_r789 w_g789
set_option maxRecDepth 100000 in
theorem w_g790 : w_g (nat_lit 790) = true := by decide +kernel
theorem w_r791 : w_rg 791 := w_rg_s (n := 790) w_r790 w_g790
set_option maxRecDepth 100000 in
theorem w_g791 : w_g (nat_lit 791) = true := by decide +kernel
theorem w_r792 : w_rg 792 := w_rg_s (n := 791) w_r791 w_g791
set_option maxRecDepth 100000 in
theorem w_g792 : w_g (nat_lit 792) = true := by decide +kernel
theorem w_r793 : w_rg 793 := w_rg_s (n := 792) w_r792 w_g792
set_option maxRecDepth 100000 in
theorem w_g793 : w_g (nat_lit 793) = true := by decide +kernel
theorem w_r794 : w_rg 794 := w_rg_s (n := 793) w_r793 w_g793
set_option maxRecDepth 100000 in
theorem w_g794 : w_g (nat_lit 794) = true := by decide +kernel
theorem w_r795 : w_rg 795 := w_rg_s (n := 794) w_r794 w_g794
set_option maxRecDepth 100000 in
theorem w_g795 : w_g (nat_lit 795) = true := by decide +kernel
theorem w_r796 : w_rg 796 := w_rg_s (n := 795) w_r795 w_g795
