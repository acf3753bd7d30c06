/-! the walk runs: 8 -/
set_option maxRecDepth 100000 in
theorem w_g1592 : w_g (nat_lit 1592) = true := by decide +kernel
theorem w_r1593 : w_rg 1593 := w_rg_s (n := 1592) w_r1592 w_g1592
set_option maxRecDepth 100000 in
theorem w_g1593 : w_g (nat_lit 1593) = true := by decide +kernel
theorem w_r1594 : w_rg 1594 := w_rg_s (n := 1593) w_r1593 w_g1593
set_option maxRecDepth 100000 in
theorem w_g1594 : w_g (nat_lit 1594) = true := by decide +kernel
theorem w_r1595 : w_rg 1595 := w_rg_s (n := 1594) w_r1594 w_g1594
set_option maxRecDepth 100000 in
theorem w_g1595 : w_g (nat_lit 1595) = true := by decide +kernel
theorem w_r1596 : w_rg 1596 := w_rg_s (n := 1595) w_r1595 w_g1595
set_option maxRecDepth 100000 in
theorem w_g1596 : w_g (nat_lit 1596) = true := by decide +kernel
theorem w_r1597 : w_rg 1597 := w_rg_s (n := 1596) w_r1596 w_g1596
set_option maxRecDepth 100000 in
theorem w_g1597 : w_g (nat_lit 1597) = true := by decide +kernel
theorem w_r1598 : w_rg 1598 := w_rg_s (n := 1597) w_r1597 w_g1597
set_option maxRecDepth 100000 in
theorem w_g1598 : w_g (nat_lit 1598) = true := by decide +kernel
theorem w_r1599 : w_rg 1599 := w_rg_s (n := 1598) w_r1598 w_g1598
set_option maxRecDepth 100000 in
theorem w_g1599 : w_g (nat_lit 1599) = true := by decide +kernel
theorem w_r1600 : w_rg 1600 := w_rg_s (n := 1599) w_r1599 w_g1599
set_option maxRecDepth 100000 in
theorem w_g1600 : w_g (nat_lit 1600) = true := by decide +kernel
theorem w_r1601 : w_rg 1601 := w_rg_s (n := 1600) w_r1600 w_g1600
set_option maxRecDepth 100000 in
theorem w_g1601 : w_g (nat_lit 1601) = true := by decide +kernel
theorem w_r1602 : w_rg 1602 := w_rg_s (n := 1601) w_r1601 w_g1601
set_option maxRecDepth 100000 in
theorem w_g1602 : w_g (nat_lit 1602) = true := by decide +kernel
theorem w_r1603 : w_rg 1603 := w_rg_s (n := 1602) w_r1602 w_g1602
set_option maxRecDepth 100000 in
theorem w_g1603 : w_g (nat_lit 1603) = true := by decide +kernel
theorem w_r1604 : w_rg 1604 := w_rg_s (n := 1603) w_r1603 w_g1603
set_option maxRecDepth 100000 in
theorem w_g1604 : w_g (nat_lit 1604) = true := by decide +kernel
theorem w_r1605 : w_rg 1605 := w_rg_s (n := 1604) w_r1604 w_g1604
set_option maxRecDepth 100000 in
theorem w_g1605 : w_g (nat_lit 1605) = true := by decide +kernel
theorem w_r1606 : w_rg 1606 := w_rg_s (n := 1605) w_r1605 w_g1605
set_option maxRecDepth 100000 in
theorem w_g1606 : w_g (nat_lit 1606) = true := by decide +kernel
theorem w_r1607 : w_rg 1607 := w_rg_s (n := 1606) w_r1606 w_g1606
set_option maxRecDepth 100000 in
theorem w_g1607 : w_g (nat_lit 1607) = true := by decide +kernel
theorem w_r1608 : w_rg 1608 := w_rg_s (n := 1607) w_r1607 w_g1607
set_option maxRecDepth 100000 in
theorem w_g1608 : w_g (nat_lit 1608) = true := by decide +kernel
theorem w_r1609 : w_rg 1609 := w_rg_s (n := 1608) w_r1608 w_g1608
set_option maxRecDepth 100000 in
theorem w_g1609 : w_g (nat_lit 1609) = true := by decide +kernel
theorem w_r1610 : w_rg 1610 := w_rg_s (n := 1609) w_r1609 w_g1609
set_option maxRecDepth 100000 in
theorem w_g1610 : w_g (nat_lit 1610) = true := by decide +kernel
theorem w_r1611 : w_rg 1611 := w_rg_s (n := 1610) w_r1610 w_g1610
set_option maxRecDepth 100000 in
theorem w_g1611 : w_g (nat_lit 1611) = true := by decide +kernel
theorem w_r1612 : w_rg 1612 := w_rg_s (n := 1611) w_r1611 w_g1611
set_option maxRecDepth 100000 in
theorem w_g1612 : w_g (nat_lit 1612) = true := by decide +kernel
theorem w_r1613 : w_rg 1613 := w_rg_s (n := 1612) w_r1612 w_g1612
set_option maxRecDepth 100000 in
theorem w_g1613 : w_g (nat_lit 1613) = true := by decide +kernel
theorem w_r1614 : w_rg 1614 := w_rg_s (n := 1613) w_r1613 w_g1613
set_option maxRecDepth 100000 in
theorem w_g1614 : w_g (nat_lit 1614) = true := by decide +kernel
theorem w_r1615 : w_rg 1615 := w_rg_s (n := 1614) w_r1614 w_g1614
set_option maxRecDepth 100000 in
theorem w_g1615 : w_g (nat_lit 1615) = true := by decide +kernel
theorem w_r1616 : w_rg 1616 := w_rg_s (n := 1615) w_r1615 w_g1615
set_option maxRecDepth 100000 in
theorem w_g1616 : w_g (nat_lit 1616) = true := by decide +kernel
theorem w_r1617 : w_rg 1617 := w_rg_s (n := 1616) w_r1616 w_g1616
set_option maxRecDepth 100000 in
theorem w_g1617 : w_g (nat_lit 1617) = true := by decide +kernel
theorem w_r1618 : w_rg 1618 := w_rg_s (n := 1617) w_r1617 w_g1617
set_option maxRecDepth 100000 in
theorem w_g1618 : w_g (nat_lit 1618) = true := by decide +kernel
theorem w_r1619 : w_rg 1619 := w_rg_s (n := 1618) w_r1618 w_g1618
set_option maxRecDepth 100000 in
theorem w_g1619 : w_g (nat_lit 1619) = true := by decide +kernel
theorem w_r1620 : w_rg 1620 := w_rg_s (n := 1619) w_r1619 w_g1619
set_option maxRecDepth 100000 in
theorem w_g1620 : w_g (nat_lit 1620) = true := by decide +kernel
theorem w_r1621 : w_rg 1621 := w_rg_s (n := 1620) w_r1620 w_g1620
set_option maxRecDepth 100000 in
theorem w_g1621 : w_g (nat_lit 1621) = true := by decide +kernel
theorem w_r1622 : w_rg 1622 := w_rg_s (n := 1621) w_r1621 w_g1621
set_option maxRecDepth 100000 in
theorem w_g1622 : w_g (nat_lit 1622) = true := by decide +kernel
theorem w_r1623 : w_rg 1623 := w_rg_s (n := 1622) w_r1622 w_g1622
set_option maxRecDepth 100000 in
theorem w_g1623 : w_g (nat_lit 1623) = true := by decide +kernel
theorem w_r1624 : w_rg 1624 := w_rg_s (n := 1623) w_r1623 w_g1623
set_option maxRecDepth 100000 in
theorem w_g1624 : w_g (nat_lit 1624) = true := by decide +kernel
theorem w_r1625 : w_rg 1625 := w_rg_s (n := 1624) w_r1624 w_g1624
set_option maxRecDepth 100000 in
theorem w_g1625 : w_g (nat_lit 1625) = true := by decide +kernel
theorem w_r1626 : w_rg 1626 := w_rg_s (n := 1625) w_r1625 w_g1625
set_option maxRecDepth 100000 in
theorem w_g1626 : w_g (nat_lit 1626) = true := by decide +kernel
theorem w_r1627 : w_rg 1627 := w_rg_s (n := 1626) w_r1626 w_g1626
set_option maxRecDepth 100000 in
theorem w_g1627 : w_g (nat_lit 1627) = true := by decide +kernel
theorem w_r1628 : w_rg 1628 := w_rg_s (n := 1627) w_r1627 w_g1627
set_option maxRecDepth 100000 in
theorem w_g1628 : w_g (nat_lit 1628) = true := by decide +kernel
theorem w_r1629 : w_rg 1629 := w_rg_s (n := 1628) w_r1628 w_g1628
set_option maxRecDepth 100000 in
theorem w_g1629 : w_g (nat_lit 1629) = true := by decide +kernel
theorem w_r1630 : w_rg 1630 := w_rg_s (n := 1629) w_r1629 w_g1629
set_option maxRecDepth 100000 in
theorem w_g1630 : w_g (nat_lit 1630) = true := by decide +kernel
theorem w_r1631 : w_rg 1631 := w_rg_s (n := 1630) w_r1630 w_g1630
set_option maxRecDepth 100000 in
theorem w_g1631 : w_g (nat_lit 1631) = true := by decide +kernel
theorem w_r1632 : w_rg 1632 := w_rg_s (n := 1631) w_r1631 w_g1631
set_option maxRecDepth 100000 in
theorem w_g1632 : w_g (nat_lit 1632) = true := by decide +kernel
theorem w_r1633 : w_rg 1633 := w_rg_s (n := 1632) w_r1632 w_g1632
set_option maxRecDepth 100000 in
theorem w_g1633 : w_g (nat_lit 1633) = true := by decide +kernel
theorem w_r1634 : w_rg 1634 := w_rg_s (n := 1633) w_r1633 w_g1633
set_option maxRecDepth 100000 in
theorem w_g1634 : w_g (nat_lit 1634) = true := by decide +kernel
theorem w_r1635 : w_rg 1635 := w_rg_s (n := 1634) w_r1634 w_g1634
set_option maxRecDepth 100000 in
theorem w_g1635 : w_g (nat_lit 1635) = true := by decide +kernel
theorem w_r1636 : w_rg 1636 := w_rg_s (n := 1635) w_r1635 w_g1635
set_option maxRecDepth 100000 in
theorem w_g1636 : w_g (nat_lit 1636) = true := by decide +kernel
theorem w_r1637 : w_rg 1637 := w_rg_s (n := 1636) w_r1636 w_g1636
set_option maxRecDepth 100000 in
theorem w_g1637 : w_g (nat_lit 1637) = true := by decide +kernel
theorem w_r1638 : w_rg 1638 := w_rg_s (n := 1637) w_r1637 w_g1637
set_option maxRecDepth 100000 in
theorem w_g1638 : w_g (nat_lit 1638) = true := by decide +kernel
theorem w_r1639 : w_rg 1639 := w_rg_s (n := 1638) w_r1638 w_g1638
set_option maxRecDepth 100000 in
theorem w_g1639 : w_g (nat_lit 1639) = true := by decide +kernel
theorem w_r1640 : w_rg 1640 := w_rg_s (n := 1639) w_r1639 w_g1639
set_option maxRecDepth 100000 in
theorem w_g1640 : w_g (nat_lit 1640) = true := by decide +kernel
theorem w_r1641 : w_rg 1641 := w_rg_s (n := 1640) w_r1640 w_g1640
set_option maxRecDepth 100000 in
theorem w_g1641 : w_g (nat_lit 1641) = true := by decide +kernel
theorem w_r1642 : w_rg 1642 := w_rg_s (n := 1641) w_r1641 w_g1641
set_option maxRecDepth 100000 in
theorem w_g1642 : w_g (nat_lit 1642) = true := by decide +kernel
theorem w_r1643 : w_rg 1643 := w_rg_s (n := 1642) w_r1642 w_g1642
set_option maxRecDepth 100000 in
theorem w_g1643 : w_g (nat_lit 1643) = true := by decide +kernel
theorem w_r1644 : w_rg 1644 := w_rg_s (n := 1643) w_r1643 w_g1643
set_option maxRecDepth 100000 in
theorem w_g1644 : w_g (nat_lit 1644) = true := by decide +kernel
theorem w_r1645 : w_rg 1645 := w_rg_s (n := 1644) w_r1644 w_g1644
set_option maxRecDepth 100000 in
theorem w_g1645 : w_g (nat_lit 1645) = true := by decide +kernel
theorem w_r1646 : w_rg 1646 := w_rg_s (n := 1645) w_r1645 w_g1645
set_option maxRecDepth 100000 in
theorem w_g1646 : w_g (nat_lit 1646) = true := by decide +kernel
theorem w_r1647 : w_rg 1647 := w_rg_s (n := 1646) w_r1646 w_g1646
set_option maxRecDepth 100000 in
theorem w_g1647 : w_g (nat_lit 1647) = true := by decide +kernel
theorem w_r1648 : w_rg 1648 := w_rg_s (n := 1647) w_r1647 w_g1647
set_option maxRecDepth 100000 in
theorem w_g1648 : w_g (nat_lit 1648) = true := by decide +kernel
theorem w_r1649 : w_rg 1649 := w_rg_s (n := 1648) w_r1648 w_g1648
set_option maxRecDepth 100000 in
theorem w_g1649 : w_g (nat_lit 1649) = true := by decide +kernel
theorem w_r1650 : w_rg 1650 := w_rg_s (n := 1649) w_r1649 w_g1649
set_option maxRecDepth 100000 in
theorem w_g1650 : w_g (nat_lit 1650) = true := by decide +kernel
theorem w_r1651 : w_rg 1651 := w_rg_s (n := 1650) w_r1650 w_g1650
set_option maxRecDepth 100000 in
theorem w_g1651 : w_g (nat_lit 1651) = true := by decide +kernel
theorem w_r1652 : w_rg 1652 := w_rg_s (n := 1651) w_r1651 w_g1651
set_option maxRecDepth 100000 in
theorem w_g1652 : w_g (nat_lit 1652) = true := by decide +kernel
theorem w_r1653 : w_rg 1653 := w_rg_s (n := 1652) w_r1652 w_g1652
set_option maxRecDepth 100000 in
theorem w_g1653 : w_g (nat_lit 1653) = true := by decide +kernel
theorem w_r1654 : w_rg 1654 := w_rg_s (n := 1653) w_r1653 w_g1653
set_option maxRecDepth 100000 in
theorem w_g1654 : w_g (nat_lit 1654) = true := by decide +kernel
theorem w_r1655 : w_rg 1655 := w_rg_s (n := 1654) w_r1654 w_g1654
set_option maxRecDepth 100000 in
theorem w_g1655 : w_g (nat_lit 1655) = true := by decide +kernel
theorem w_r1656 : w_rg 1656 := w_rg_s (n := 1655) w_r1655 w_g1655
set_option maxRecDepth 100000 in
theorem w_g1656 : w_g (nat_lit 1656) = true := by decide +kernel
theorem w_r1657 : w_rg 1657 := w_rg_s (n := 1656) w_r1656 w_g1656
set_option maxRecDepth 100000 in
theorem w_g1657 : w_g (nat_lit 1657) = true := by decide +kernel
theorem w_r1658 : w_rg 1658 := w_rg_s (n := 1657) w_r1657 w_g1657
set_option maxRecDepth 100000 in
theorem w_g1658 : w_g (nat_lit 1658) = true := by decide +kernel
theorem w_r1659 : w_rg 1659 := w_rg_s (n := 1658) w_r1658 w_g1658
set_option maxRecDepth 100000 in
theorem w_g1659 : w_g (nat_lit 1659) = true := by decide +kernel
theorem w_r1660 : w_rg 1660 := w_rg_s (n := 1659) w_r1659 w_g1659
set_option maxRecDepth 100000 in
theorem w_g1660 : w_g (nat_lit 1660) = true := by decide +kernel
theorem w_r1661 : w_rg 1661 := w_rg_s (n := 1660) w_r1660 w_g1660
set_option maxRecDepth 100000 in
theorem w_g1661 : w_g (nat_lit 1661) = true := by decide +kernel
theorem w_r1662 : w_rg 1662 := w_rg_s (n := 1661) w_r1661 w_g1661
set_option maxRecDepth 100000 in
theorem w_g1662 : w_g (nat_lit 1662) = true := by decide +kernel
theorem w_r1663 : w_rg 1663 := w_rg_s (n := 1662) w_r1662 w_g1662
set_option maxRecDepth 100000 in
theorem w_g1663 : w_g (nat_lit 1663) = true := by decide +kernel
theorem w_r1664 : w_rg 1664 := w_rg_s (n := 1663) w_r1663 w_g1663
set_option maxRecDepth 100000 in
theorem w_g1664 : w_g (nat_lit 1664) = true := by decide +kernel
theorem w_r1665 : w_rg 1665 := w_rg_s (n := 1664) w_r1664 w_g1664
set_option maxRecDepth 100000 in
theorem w_g1665 : w_g (nat_lit 1665) = true := by decide +kernel
theorem w_r1666 : w_rg 1666 := w_rg_s (n := 1665) w_r1665 w_g1665
set_option maxRecDepth 100000 in
theorem w_g1666 : w_g (nat_lit 1666) = true := by decide +kernel
theorem w_r1667 : w_rg 1667 := w_rg_s (n := 1666) w_r1666 w_g1666
set_option maxRecDepth 100000 in
theorem w_g1667 : w_g (nat_lit 1667) = true := by decide +kernel
theorem w_r1668 : w_rg 1668 := w_rg_s (n := 1667) w_r1667 w_g1667
set_option maxRecDepth 100000 in
theorem w_g1668 : w_g (nat_lit 1668) = true := by decide +kernel
theorem w_r1669 : w_rg 1669 := w_rg_s (n := 1668) w_r1668 w_g1668
set_option maxRecDepth 100000 in
theorem w_g1669 : w_g (nat_lit 1669) = true := by decide +kernel
theorem w_r1670 : w_rg 1670 := w_rg_s (n := 1669) w_r1669 w_g1669
set_option maxRecDepth 100000 in
theorem w_g1670 : w_g (nat_lit 1670) = true := by decide +kernel
theorem w_r1671 : w_rg 1671 := w_rg_s (n := 1670) w_r1670 w_g1670
set_option maxRecDepth 100000 in
theorem w_g1671 : w_g (nat_lit 1671) = true := by decide +kernel
theorem w_r1672 : w_rg 1672 := w_rg_s (n := 1671) w_r1671 w_g1671
set_option maxRecDepth 100000 in
theorem w_g1672 : w_g (nat_lit 1672) = true := by decide +kernel
theorem w_r1673 : w_rg 1673 := w_rg_s (n := 1672) w_r1672 w_g1672
set_option maxRecDepth 100000 in
theorem w_g1673 : w_g (nat_lit 1673) = true := by decide +kernel
theorem w_r1674 : w_rg 1674 := w_rg_s (n := 1673) w_r1673 w_g1673
set_option maxRecDepth 100000 in
theorem w_g1674 : w_g (nat_lit 1674) = true := by decide +kernel
theorem w_r1675 : w_rg 1675 := w_rg_s (n := 1674) w_r1674 w_g1674
set_option maxRecDepth 100000 in
theorem w_g1675 : w_g (nat_lit 1675) = true := by decide +kernel
theorem w_r1676 : w_rg 1676 := w_rg_s (n := 1675) w_r1675 w_g1675
set_option maxRecDepth 100000 in
theorem w_g1676 : w_g (nat_lit 1676) = true := by decide +kernel
theorem w_r1677 : w_rg 1677 := w_rg_s (n := 1676) w_r1676 w_g1676
set_option maxRecDepth 100000 in
theorem w_g1677 : w_g (nat_lit 1677) = true := by decide +kernel
theorem w_r1678 : w_rg 1678 := w_rg_s (n := 1677) w_r1677 w_g1677
set_option maxRecDepth 100000 in
theorem w_g1678 : w_g (nat_lit 1678) = true := by decide +kernel
theorem w_r1679 : w_rg 1679 := w_rg_s (n := 1678) w_r1678 w_g1678
set_option maxRecDepth 100000 in
theorem w_g1679 : w_g (nat_lit 1679) = true := by decide +kernel
theorem w_r1680 : w_rg 1680 := w_rg_s (n := 1679) w_r1679 w_g1679
set_option maxRecDepth 100000 in
theorem w_g1680 : w_g (nat_lit 1680) = true := by decide +kernel
theorem w_r1681 : w_rg 1681 := w_rg_s (n := 1680) w_r1680 w_g1680
set_option maxRecDepth 100000 in
theorem w_g1681 : w_g (nat_lit 1681) = true := by decide +kernel
theorem w_r1682 : w_rg 1682 := w_rg_s (n := 1681) w_r1681 w_g1681
set_option maxRecDepth 100000 in
theorem w_g1682 : w_g (nat_lit 1682) = true := by decide +kernel
theorem w_r1683 : w_rg 1683 := w_rg_s (n := 1682) w_r1682 w_g1682
set_option maxRecDepth 100000 in
theorem w_g1683 : w_g (nat_lit 1683) = true := by decide +kernel
theorem w_r1684 : w_rg 1684 := w_rg_s (n := 1683) w_r1683 w_g1683
set_option maxRecDepth 100000 in
theorem w_g1684 : w_g (nat_lit 1684) = true := by decide +kernel
theorem w_r1685 : w_rg 1685 := w_rg_s (n := 1684) w_r1684 w_g1684
set_option maxRecDepth 100000 in
theorem w_g1685 : w_g (nat_lit 1685) = true := by decide +kernel
theorem w_r1686 : w_rg 1686 := w_rg_s (n := 1685) w_r1685 w_g1685
set_option maxRecDepth 100000 in
theorem w_g1686 : w_g (nat_lit 1686) = true := by decide +kernel
theorem w_r1687 : w_rg 1687 := w_rg_s (n := 1686) w_r1686 w_g1686
set_option maxRecDepth 100000 in
theorem w_g1687 : w_g (nat_lit 1687) = true := by decide +kernel
theorem w_r1688 : w_rg 1688 := w_rg_s (n := 1687) w_r1687 w_g1687
set_option maxRecDepth 100000 in
theorem w_g1688 : w_g (nat_lit 1688) = true := by decide +kernel
theorem w_r1689 : w_rg 1689 := w_rg_s (n := 1688) w_r1688 w_g1688
set_option maxRecDepth 100000 in
theorem w_g1689 : w_g (nat_lit 1689) = true := by decide +kernel
theorem w_r1690 : w_rg 1690 := w_rg_s (n := 1689) w_r1689 w_g1689
set_option maxRecDepth 100000 in
theorem w_g1690 : w_g (nat_lit 1690) = true := by decide +kernel
theorem w_r1691 : w_rg 1691 := w_rg_s (n := 1690) w_r1690 w_g1690
set_option maxRecDepth 100000 in
theorem w_g1691 : w_g (nat_lit 1691) = true := by decide +kernel
theorem w_r1692 : w_rg 1692 := w_rg_s (n := 1691) w_r1691 w_g1691
set_option maxRecDepth 100000 in
theorem w_g1692 : w_g (nat_lit 1692) = true := by decide +kernel
theorem w_r1693 : w_rg 1693 := w_rg_s (n := 1692) w_r1692 w_g1692
set_option maxRecDepth 100000 in
theorem w_g1693 : w_g (nat_lit 1693) = true := by decide +kernel
theorem w_r1694 : w_rg 1694 := w_rg_s (n := 1693) w_r1693 w_g1693
set_option maxRecDepth 100000 in
theorem w_g1694 : w_g (nat_lit 1694) = true := by decide +kernel
theorem w_r1695 : w_rg 1695 := w_rg_s (n := 1694) w_r1694 w_g1694
set_option maxRecDepth 100000 in
theorem w_g1695 : w_g (nat_lit 1695) = true := by decide +kernel
theorem w_r1696 : w_rg 1696 := w_rg_s (n := 1695) w_r1695 w_g1695
set_option maxRecDepth 100000 in
theorem w_g1696 : w_g (nat_lit 1696) = true := by decide +kernel
theorem w_r1697 : w_rg 1697 := w_rg_s (n := 1696) w_r1696 w_g1696
set_option maxRecDepth 100000 in
theorem w_g1697 : w_g (nat_lit 1697) = true := by decide +kernel
theorem w_r1698 : w_rg 1698 := w_rg_s (n := 1697) w_r1697 w_g1697
set_option maxRecDepth 100000 in
theorem w_g1698 : w_g (nat_lit 1698) = true := by decide +kernel
theorem w_r1699 : w_rg 1699 := w_rg_s (n := 1698) w_r1698 w_g1698
set_option maxRecDepth 100000 in
theorem w_g1699 : w_g (nat_lit 1699) = true := by decide +kernel
theorem w_r1700 : w_rg 1700 := w_rg_s (n := 1699) w_r1699 w_g1699
set_option maxRecDepth 100000 in
theorem w_g1700 : w_g (nat_lit 1700) = true := by decide +kernel
theorem w_r1701 : w_rg 1701 := w_rg_s (n := 1700) w_r1700 w_g1700
set_option maxRecDepth 100000 in
theorem w_g1701 : w_g (nat_lit 1701) = true := by decide +kernel
theorem w_r1702 : w_rg 1702 := w_rg_s (n := 1701) w_r1701 w_g1701
set_option maxRecDepth 100000 in
theorem w_g1702 : w_g (nat_lit 1702) = true := by decide +kernel
theorem w_r1703 : w_rg 1703 := w_rg_s (n := 1702) w_r1702 w_g1702
set_option maxRecDepth 100000 in
theorem w_g1703 : w_g (nat_lit 1703) = true := by decide +kernel
theorem w_r1704 : w_rg 1704 := w_rg_s (n := 1703) w_r1703 w_g1703
set_option maxRecDepth 100000 in
theorem w_g1704 : w_g (nat_lit 1704) = true := by decide +kernel
theorem w_r1705 : w_rg 1705 := w_rg_s (n := 1704) w_r1704 w_g1704
set_option maxRecDepth 100000 in
theorem w_g1705 : w_g (nat_lit 1705) = true := by decide +kernel
theorem w_r1706 : w_rg 1706 := w_rg_s (n := 1705) w_r1705 w_g1705
set_option maxRecDepth 100000 in
theorem w_g1706 : w_g (nat_lit 1706) = true := by decide +kernel
theorem w_r1707 : w_rg 1707 := w_rg_s (n := 1706) w_r1706 w_g1706
set_option maxRecDepth 100000 in
theorem w_g1707 : w_g (nat_lit 1707) = true := by decide +kernel
theorem w_r1708 : w_rg 1708 := w_rg_s (n := 1707) w_r1707 w_g1707
set_option maxRecDepth 100000 in
theorem w_g1708 : w_g (nat_lit 1708) = true := by decide +kernel
theorem w_r1709 : w_rg 1709 := w_rg_s (n := 1708) w_r1708 w_g1708
set_option maxRecDepth 100000 in
theorem w_g1709 : w_g (nat_lit 1709) = true := by decide +kernel
theorem w_r1710 : w_rg 1710 := w_rg_s (n := 1709) w_r1709 w_g1709
set_option maxRecDepth 100000 in
theorem w_g1710 : w_g (nat_lit 1710) = true := by decide +kernel
theorem w_r1711 : w_rg 1711 := w_rg_s (n := 1710) w_r1710 w_g1710
set_option maxRecDepth 100000 in
theorem w_g1711 : w_g (nat_lit 1711) = true := by decide +kernel
theorem w_r1712 : w_rg 1712 := w_rg_s (n := 1711) w_r1711 w_g1711
set_option maxRecDepth 100000 in
theorem w_g1712 : w_g (nat_lit 1712) = true := by decide +kernel
theorem w_r1713 : w_rg 1713 := w_rg_s (n := 1712) w_r1712 w_g1712
set_option maxRecDepth 100000 in
theorem w_g1713 : w_g (nat_lit 1713) = true := by decide +kernel
theorem w_r1714 : w_rg 1714 := w_rg_s (n := 1713) w_r1713 w_g1713
set_option maxRecDepth 100000 in
theorem w_g1714 : w_g (nat_lit 1714) = true := by decide +kernel
theorem w_r1715 : w_rg 1715 := w_rg_s (n := 1714) w_r1714 w_g1714
set_option maxRecDepth 100000 in
theorem w_g1715 : w_g (nat_lit 1715) = true := by decide +kernel
theorem w_r1716 : w_rg 1716 := w_rg_s (n := 1715) w_r1715 w_g1715
set_option maxRecDepth 100000 in
theorem w_g1716 : w_g (nat_lit 1716) = true := by decide +kernel
theorem w_r1717 : w_rg 1717 := w_rg_s (n := 1716) w_r1716 w_g1716
set_option maxRecDepth 100000 in
theorem w_g1717 : w_g (nat_lit 1717) = true := by decide +kernel
theorem w_r1718 : w_rg 1718 := w_rg_s (n := 1717) w_r1717 w_g1717
set_option maxRecDepth 100000 in
theorem w_g1718 : w_g (nat_lit 1718) = true := by decide +kernel
theorem w_r1719 : w_rg 1719 := w_rg_s (n := 1718) w_r1718 w_g1718
set_option maxRecDepth 100000 in
theorem w_g1719 : w_g (nat_lit 1719) = true := by decide +kernel
theorem w_r1720 : w_rg 1720 := w_rg_s (n := 1719) w_r1719 w_g1719
set_option maxRecDepth 100000 in
theorem w_g1720 : w_g (nat_lit 1720) = true := by decide +kernel
theorem w_r1721 : w_rg 1721 := w_rg_s (n := 1720) w_r1720 w_g1720
set_option maxRecDepth 100000 in
theorem w_g1721 : w_g (nat_lit 1721) = true := by decide +kernel
theorem w_r1722 : w_rg 1722 := w_rg_s (n := 1721) w_r1721 w_g1721
set_option maxRecDepth 100000 in
theorem w_g1722 : w_g (nat_lit 1722) = true := by decide +kernel
theorem w_r1723 : w_rg 1723 := w_rg_s (n := 1722) w_r1722 w_g1722
set_option maxRecDepth 100000 in
theorem w_g1723 : w_g (nat_lit 1723) = true := by decide +kernel
theorem w_r1724 : w_rg 1724 := w_rg_s (n := 1723) w_r1723 w_g1723
set_option maxRecDepth 100000 in
theorem w_g1724 : w_g (nat_lit 1724) = true := by decide +kernel
theorem w_r1725 : w_rg 1725 := w_rg_s (n := 1724) w_r1724 w_g1724
set_option maxRecDepth 100000 in
theorem w_g1725 : w_g (nat_lit 1725) = true := by decide +kernel
theorem w_r1726 : w_rg 1726 := w_rg_s (n := 1725) w_r1725 w_g1725
set_option maxRecDepth 100000 in
theorem w_g1726 : w_g (nat_lit 1726) = true := by decide +kernel
theorem w_r1727 : w_rg 1727 := w_rg_s (n := 1726) w_r1726 w_g1726
set_option maxRecDepth 100000 in
theorem w_g1727 : w_g (nat_lit 1727) = true := by decide +kernel
theorem w_r1728 : w_rg 1728 := w_rg_s (n := 1727) w_r1727 w_g1727
set_option maxRecDepth 100000 in
theorem w_g1728 : w_g (nat_lit 1728) = true := by decide +kernel
theorem w_r1729 : w_rg 1729 := w_rg_s (n := 1728) w_r1728 w_g1728
set_option maxRecDepth 100000 in
theorem w_g1729 : w_g (nat_lit 1729) = true := by decide +kernel
theorem w_r1730 : w_rg 1730 := w_rg_s (n := 1729) w_r1729 w_g1729
set_option maxRecDepth 100000 in
theorem w_g1730 : w_g (nat_lit 1730) = true := by decide +kernel
theorem w_r1731 : w_rg 1731 := w_rg_s (n := 1730) w_r1730 w_g1730
set_option maxRecDepth 100000 in
theorem w_g1731 : w_g (nat_lit 1731) = true := by decide +kernel
theorem w_r1732 : w_rg 1732 := w_rg_s (n := 1731) w_r1731 w_g1731
set_option maxRecDepth 100000 in
theorem w_g1732 : w_g (nat_lit 1732) = true := by decide +kernel
theorem w_r1733 : w_rg 1733 := w_rg_s (n := 1732) w_r1732 w_g1732
set_option maxRecDepth 100000 in
theorem w_g1733 : w_g (nat_lit 1733) = true := by decide +kernel
theorem w_r1734 : w_rg 1734 := w_rg_s (n := 1733) w_r1733 w_g1733
set_option maxRecDepth 100000 in
theorem w_g1734 : w_g (nat_lit 1734) = true := by decide +kernel
theorem w_r1735 : w_rg 1735 := w_rg_s (n := 1734) w_r1734 w_g1734
set_option maxRecDepth 100000 in
theorem w_g1735 : w_g (nat_lit 1735) = true := by decide +kernel
theorem w_r1736 : w_rg 1736 := w_rg_s (n := 1735) w_r1735 w_g1735
set_option maxRecDepth 100000 in
theorem w_g1736 : w_g (nat_lit 1736) = true := by decide +kernel
theorem w_r1737 : w_rg 1737 := w_rg_s (n := 1736) w_r1736 w_g1736
set_option maxRecDepth 100000 in
theorem w_g1737 : w_g (nat_lit 1737) = true := by decide +kernel
theorem w_r1738 : w_rg 1738 := w_rg_s (n := 1737) w_r1737 w_g1737
set_option maxRecDepth 100000 in
theorem w_g1738 : w_g (nat_lit 1738) = true := by decide +kernel
theorem w_r1739 : w_rg 1739 := w_rg_s (n := 1738) w_r1738 w_g1738
set_option maxRecDepth 100000 in
theorem w_g1739 : w_g (nat_lit 1739) = true := by decide +kernel
theorem w_r1740 : w_rg 1740 := w_rg_s (n := 1739) w_r1739 w_g1739
set_option maxRecDepth 100000 in
theorem w_g1740 : w_g (nat_lit 1740) = true := by decide +kernel
theorem w_r1741 : w_rg 1741 := w_rg_s (n := 1740) w_r1740 w_g1740
set_option maxRecDepth 100000 in
theorem w_g1741 : w_g (nat_lit 1741) = true := by decide +kernel
theorem w_r1742 : w_rg 1742 := w_rg_s (n := 1741) w_r1741 w_g1741
set_option maxRecDepth 100000 in
theorem w_g1742 : w_g (nat_lit 1742) = true := by decide +kernel
theorem w_r1743 : w_rg 1743 := w_rg_s (n := 1742) w_r1742 w_g1742
set_option maxRecDepth 100000 in
theorem w_g1743 : w_g (nat_lit 1743) = true := by decide +kernel
theorem w_r1744 : w_rg 1744 := w_rg_s (n := 1743) w_r1743 w_g1743
set_option maxRecDepth 100000 in
theorem w_g1744 : w_g (nat_lit 1744) = true := by decide +kernel
theorem w_r1745 : w_rg 1745 := w_rg_s (n := 1744) w_r1744 w_g1744
set_option maxRecDepth 100000 in
theorem w_g1745 : w_g (nat_lit 1745) = true := by decide +kernel
theorem w_r1746 : w_rg 1746 := w_rg_s (n := 1745) w_r1745 w_g1745
set_option maxRecDepth 100000 in
theorem w_g1746 : w_g (nat_lit 1746) = true := by decide +kernel
theorem w_r1747 : w_rg 1747 := w_rg_s (n := 1746) w_r1746 w_g1746
set_option maxRecDepth 100000 in
theorem w_g1747 : w_g (nat_lit 1747) = true := by decide +kernel
theorem w_r1748 : w_rg 1748 := w_rg_s (n := 1747) w_r1747 w_g1747
set_option maxRecDepth 100000 in
theorem w_g1748 : w_g (nat_lit 1748) = true := by decide +kernel
theorem w_r1749 : w_rg 1749 := w_rg_s (n := 1748) w_r1748 w_g1748
set_option maxRecDepth 100000 in
theorem w_g1749 : w_g (nat_lit 1749) = true := by decide +kernel
theorem w_r1750 : w_rg 1750 := w_rg_s (n := 1749) w_r1749 w_g1749
set_option maxRecDepth 100000 in
theorem w_g1750 : w_g (nat_lit 1750) = true := by decide +kernel
theorem w_r1751 : w_rg 1751 := w_rg_s (n := 1750) w_r1750 w_g1750
set_option maxRecDepth 100000 in
theorem w_g1751 : w_g (nat_lit 1751) = true := by decide +kernel
theorem w_r1752 : w_rg 1752 := w_rg_s (n := 1751) w_r1751 w_g1751
set_option maxRecDepth 100000 in
theorem w_g1752 : w_g (nat_lit 1752) = true := by decide +kernel
theorem w_r1753 : w_rg 1753 := w_rg_s (n := 1752) w_r1752 w_g1752
set_option maxRecDepth 100000 in
theorem w_g1753 : w_g (nat_lit 1753) = true := by decide +kernel
theorem w_r1754 : w_rg 1754 := w_rg_s (n := 1753) w_r1753 w_g1753
set_option maxRecDepth 100000 in
theorem w_g1754 : w_g (nat_lit 1754) = true := by decide +kernel
theorem w_r1755 : w_rg 1755 := w_rg_s (n := 1754) w_r1754 w_g1754
set_option maxRecDepth 100000 in
theorem w_g1755 : w_g (nat_lit 1755) = true := by decide +kernel
theorem w_r1756 : w_rg 1756 := w_rg_s (n := 1755) w_r1755 w_g1755
set_option maxRecDepth 100000 in
theorem w_g1756 : w_g (nat_lit 1756) = true := by decide +kernel
theorem w_r1757 : w_rg 1757 := w_rg_s (n := 1756) w_r1756 w_g1756
set_option maxRecDepth 100000 in
theorem w_g1757 : w_g (nat_lit 1757) = true := by decide +kernel
theorem w_r1758 : w_rg 1758 := w_rg_s (n := 1757) w_r1757 w_g1757
set_option maxRecDepth 100000 in
theorem w_g1758 : w_g (nat_lit 1758) = true := by decide +kernel
theorem w_r1759 : w_rg 1759 := w_rg_s (n := 1758) w_r1758 w_g1758
set_option maxRecDepth 100000 in
theorem w_g1759 : w_g (nat_lit 1759) = true := by decide +kernel
theorem w_r1760 : w_rg 1760 := w_rg_s (n := 1759) w_r1759 w_g1759
set_option maxRecDepth 100000 in
theorem w_g1760 : w_g (nat_lit 1760) = true := by decide +kernel
theorem w_r1761 : w_rg 1761 := w_rg_s (n := 1760) w_r1760 w_g1760
set_option maxRecDepth 100000 in
theorem w_g1761 : w_g (nat_lit 1761) = true := by decide +kernel
theorem w_r1762 : w_rg 1762 := w_rg_s (n := 1761) w_r1761 w_g1761
set_option maxRecDepth 100000 in
theorem w_g1762 : w_g (nat_lit 1762) = true := by decide +kernel
theorem w_r1763 : w_rg 1763 := w_rg_s (n := 1762) w_r1762 w_g1762
set_option maxRecDepth 100000 in
theorem w_g1763 : w_g (nat_lit 1763) = true := by decide +kernel
theorem w_r1764 : w_rg 1764 := w_rg_s (n := 1763) w_r1763 w_g1763
set_option maxRecDepth 100000 in
theorem w_g1764 : w_g (nat_lit 1764) = true := by decide +kernel
theorem w_r1765 : w_rg 1765 := w_rg_s (n := 1764) w_r1764 w_g1764
set_option maxRecDepth 100000 in
theorem w_g1765 : w_g (nat_lit 1765) = true := by decide +kernel
theorem w_r1766 : w_rg 1766 := w_rg_s (n := 1765) w_r1765 w_g1765
set_option maxRecDepth 100000 in
theorem w_g1766 : w_g (nat_lit 1766) = true := by decide +kernel
theorem w_r1767 : w_rg 1767 := w_rg_s (n := 1766) w_r1766 w_g1766
set_option maxRecDepth 100000 in
theorem w_g1767 : w_g (nat_lit 1767) = true := by decide +kernel
theorem w_r1768 : w_rg 1768 := w_rg_s (n := 1767) w_r1767 w_g1767
set_option maxRecDepth 100000 in
theorem w_g1768 : w_g (nat_lit 1768) = true := by decide +kernel
theorem w_r1769 : w_rg 1769 := w_rg_s (n := 1768) w_r1768 w_g1768
set_option maxRecDepth 100000 in
theorem w_g1769 : w_g (nat_lit 1769) = true := by decide +kernel
theorem w_r1770 : w_rg 1770 := w_rg_s (n := 1769) w_r1769 w_g1769
set_option maxRecDepth 100000 in
theorem w_g1770 : w_g (nat_lit 1770) = true := by decide +kernel
theorem w_r1771 : w_rg 1771 := w_rg_s (n := 1770) w_r1770 w_g1770
set_option maxRecDepth 100000 in
theorem w_g1771 : w_g (nat_lit 1771) = true := by decide +kernel
theorem w_r1772 : w_rg 1772 := w_rg_s (n := 1771) w_r1771 w_g1771
set_option maxRecDepth 100000 in
theorem w_g1772 : w_g (nat_lit 1772) = true := by decide +kernel
theorem w_r1773 : w_rg 1773 := w_rg_s (n := 1772) w_r1772 w_g1772
set_option maxRecDepth 100000 in
theorem w_g1773 : w_g (nat_lit 1773) = true := by decide +kernel
theorem w_r1774 : w_rg 1774 := w_rg_s (n := 1773) w_r1773 w_g1773
set_option maxRecDepth 100000 in
theorem w_g1774 : w_g (nat_lit 1774) = true := by decide +kernel
theorem w_r1775 : w_rg 1775 := w_rg_s (n := 1774) w_r1774 w_g1774
set_option maxRecDepth 100000 in
theorem w_g1775 : w_g (nat_lit 1775) = true := by decide +kernel
theorem w_r1776 : w_rg 1776 := w_rg_s (n := 1775) w_r1775 w_g1775
set_option maxRecDepth 100000 in
theorem w_g1776 : w_g (nat_lit 1776) = true := by decide +kernel
theorem w_r1777 : w_rg 1777 := w_rg_s (n := 1776) w_r1776 w_g1776
set_option maxRecDepth 100000 in
theorem w_g1777 : w_g (nat_lit 1777) = true := by decide +kernel
theorem w_r1778 : w_rg 1778 := w_rg_s (n := 1777) w_r1777 w_g1777
set_option maxRecDepth 100000 in
theorem w_g1778 : w_g (nat_lit 1778) = true := by decide +kernel
theorem w_r1779 : w_rg 1779 := w_rg_s (n := 1778) w_r1778 w_g1778
set_option maxRecDepth 100000 in
theorem w_g1779 : w_g (nat_lit 1779) = true := by decide +kernel
theorem w_r1780 : w_rg 1780 := w_rg_s (n := 1779) w_r1779 w_g1779
set_option maxRecDepth 100000 in
theorem w_g1780 : w_g (nat_lit 1780) = true := by decide +kernel
theorem w_r1781 : w_rg 1781 := w_rg_s (n := 1780) w_r1780 w_g1780
set_option maxRecDepth 100000 in
theorem w_g1781 : w_g (nat_lit 1781) = true := by decide +kernel
theorem w_r1782 : w_rg 1782 := w_rg_s (n := 1781) w_r1781 w_g1781
set_option maxRecDepth 100000 in
theorem w_g1782 : w_g (nat_lit 1782) = true := by decide +kernel
theorem w_r1783 : w_rg 1783 := w_rg_s (n := 1782) w_r1782 w_g1782
set_option maxRecDepth 100000 in
theorem w_g1783 : w_g (nat_lit 1783) = true := by decide +kernel
theorem w_r1784 : w_rg 1784 := w_rg_s (n := 1783) w_r1783 w_g1783
set_option maxRecDepth 100000 in
theorem w_g1784 : w_g (nat_lit 1784) = true := by decide +kernel
theorem w_r1785 : w_rg 1785 := w_rg_s (n := 1784) w_r1784 w_g1784
set_option maxRecDepth 100000 in
theorem w_g1785 : w_g (nat_lit 1785) = true := by decide +kernel
theorem w_r1786 : w_rg 1786 := w_rg_s (n := 1785) w_r1785 w_g1785
set_option maxRecDepth 100000 in
theorem w_g1786 : w_g (nat_lit 1786) = true := by decide +kernel
theorem w_r1787 : w_rg 1787 := w_rg_s (n := 1786) w_r1786 w_g1786
set_option maxRecDepth 100000 in
theorem w_g1787 : w_g (nat_lit 1787) = true := by decide +kernel
theorem w_r1788 : w_rg 1788 := w_rg_s (n := 1787) w_r1787 w_g1787
set_option maxRecDepth 100000 in
theorem w_g1788 : w_g (nat_lit 1788) = true := by decide +kernel
theorem w_r1789 : w_rg 1789 := w_rg_s (n := 1788) w_r1788 w_g1788
set_option maxRecDepth 100000 in
theorem w_g1789 : w_g (nat_lit 1789) = true := by decide +kernel
theorem w_r1790 : w_rg 1790 := w_rg_s (n := 1789) w_r1789 w_g1789
set_option maxRecDepth 100000 in
theorem w_g1790 : w_g (nat_lit 1790) = true := by decide +kernel
theorem w_r1791 : w_rg 1791 := w_rg_s (n := 1790) w_r1790 w_g1790
