theorem dL_law_1550 : decode cL_law 1550 = .ok (.aload_n 1, 1) := lw_f43 (lw_at lw_e48 (j := 14) rfl)
theorem dL_law_1551 : decode cL_law 1551 = .ok (.aload_n 0, 1) := lw_f42 (lw_at lw_e48 (j := 15) rfl)
theorem dL_law_1552 : decode cL_law 1552 = .ok (.iload_n 3, 1) := lw_f29 (lw_at lw_e48 (j := 16) rfl)
theorem dL_law_1553 : decode cL_law 1553 = .ok (.iconst 1, 1) := lw_f4 (lw_at lw_e48 (j := 17) rfl)
theorem dL_law_1554 : decode cL_law 1554 = .ok (.iadd, 1) := lw_f96 (lw_at lw_e48 (j := 18) rfl)
theorem dL_law_1555 : decode cL_law 1555 = .ok (.iaload, 1) := lw_f46 (lw_at lw_e48 (j := 19) rfl)
theorem dL_law_1556 : decode cL_law 1556 = .ok (.aload_n 0, 1) := lw_f42 (lw_at lw_e48 (j := 20) rfl)
theorem dL_law_1557 : decode cL_law 1557 = .ok (.iload_n 3, 1) := lw_f29 (lw_at lw_e48 (j := 21) rfl)
theorem dL_law_1558 : decode cL_law 1558 = .ok (.iconst 2, 1) := lw_f5 (lw_at lw_e48 (j := 22) rfl)
theorem dL_law_1559 : decode cL_law 1559 = .ok (.iadd, 1) := lw_f96 (lw_at lw_e48 (j := 23) rfl)
theorem dL_law_1560 : decode cL_law 1560 = .ok (.iaload, 1) := lw_f46 (lw_at lw_e48 (j := 24) rfl)
theorem dL_law_1561 : decode cL_law 1561 = .ok (.aload_n 0, 1) := lw_f42 (lw_at lw_e48 (j := 25) rfl)
theorem dL_law_1562 : decode cL_law 1562 = .ok (.iload_n 3, 1) := lw_f29 (lw_at lw_e48 (j := 26) rfl)
theorem dL_law_1563 : decode cL_law 1563 = .ok (.iconst 3, 1) := lw_f6 (lw_at lw_e48 (j := 27) rfl)
theorem dL_law_1564 : decode cL_law 1564 = .ok (.iadd, 1) := lw_f96 (lw_at lw_e48 (j := 28) rfl)
theorem dL_law_1565 : decode cL_law 1565 = .ok (.iaload, 1) := lw_f46 (lw_at lw_e48 (j := 29) rfl)
theorem dL_law_1566 : decode cL_law 1566 = .ok (.invokevirtual 142, 3) := lw_f182 (lw_at lw_e48 (j := 30) rfl) (lw_at lw_e48 (j := 31) rfl) (lw_at lw_e49 (j := 0) rfl) rfl
theorem dL_law_1569 : decode cL_law 1569 = .ok (.pop2, 1) := lw_f88 (lw_at lw_e49 (j := 1) rfl)
theorem dL_law_1570 : decode cL_law 1570 = .ok (.aload_n 2, 1) := lw_f44 (lw_at lw_e49 (j := 2) rfl)
theorem dL_law_1571 : decode cL_law 1571 = .ok (.aload_n 0, 1) := lw_f42 (lw_at lw_e49 (j := 3) rfl)
theorem dL_law_1572 : decode cL_law 1572 = .ok (.iload_n 3, 1) := lw_f29 (lw_at lw_e49 (j := 4) rfl)
theorem dL_law_1573 : decode cL_law 1573 = .ok (.iconst 1, 1) := lw_f4 (lw_at lw_e49 (j := 5) rfl)
theorem dL_law_1574 : decode cL_law 1574 = .ok (.iadd, 1) := lw_f96 (lw_at lw_e49 (j := 6) rfl)
theorem dL_law_1575 : decode cL_law 1575 = .ok (.iaload, 1) := lw_f46 (lw_at lw_e49 (j := 7) rfl)
theorem dL_law_1576 : decode cL_law 1576 = .ok (.aload_n 0, 1) := lw_f42 (lw_at lw_e49 (j := 8) rfl)
theorem dL_law_1577 : decode cL_law 1577 = .ok (.iload_n 3, 1) := lw_f29 (lw_at lw_e49 (j := 9) rfl)
theorem dL_law_1578 : decode cL_law 1578 = .ok (.iconst 2, 1) := lw_f5 (lw_at lw_e49 (j := 10) rfl)
theorem dL_law_1579 : decode cL_law 1579 = .ok (.iadd, 1) := lw_f96 (lw_at lw_e49 (j := 11) rfl)
theorem dL_law_1580 : decode cL_law 1580 = .ok (.iaload, 1) := lw_f46 (lw_at lw_e49 (j := 12) rfl)
theorem dL_law_1581 : decode cL_law 1581 = .ok (.aload_n 0, 1) := lw_f42 (lw_at lw_e49 (j := 13) rfl)
theorem dL_law_1582 : decode cL_law 1582 = .ok (.iload_n 3, 1) := lw_f29 (lw_at lw_e49 (j := 14) rfl)
theorem dL_law_1583 : decode cL_law 1583 = .ok (.iconst 3, 1) := lw_f6 (lw_at lw_e49 (j := 15) rfl)
theorem dL_law_1584 : decode cL_law 1584 = .ok (.iadd, 1) := lw_f96 (lw_at lw_e49 (j := 16) rfl)
theorem dL_law_1585 : decode cL_law 1585 = .ok (.iaload, 1) := lw_f46 (lw_at lw_e49 (j := 17) rfl)
theorem dL_law_1586 : decode cL_law 1586 = .ok (.invokevirtual 145, 3) := lw_f182 (lw_at lw_e49 (j := 18) rfl) (lw_at lw_e49 (j := 19) rfl) (lw_at lw_e49 (j := 20) rfl) rfl
theorem dL_law_1589 : decode cL_law 1589 = .ok (.pop2, 1) := lw_f88 (lw_at lw_e49 (j := 21) rfl)
theorem dL_law_1590 : decode cL_law 1590 = .ok (.goto 415, 3) := lw_f167 (lw_at lw_e49 (j := 22) rfl) (lw_at lw_e49 (j := 23) rfl) (lw_at lw_e49 (j := 24) rfl) (by decide)
theorem wk_1298 : Cond.methodLink RL 142 yX11_deepest ∈ tl_L := List.mem_filter.mpr ⟨lw_m5 (i := 0) rfl, rfl⟩
theorem wk_1299 : Cond.instanceMethod yX11_deepest ∈ tl_L := List.mem_filter.mpr ⟨lw_m5 (i := 1) rfl, rfl⟩
theorem wk_1300 : Cond.selects RX11 yX11_deepest yX11_deepest ∈ tl_L := List.mem_filter.mpr ⟨lw_m5 (i := 2) rfl, rfl⟩
theorem wk_1301 : Cond.code yX11_deepest cX11_deepest 10 (some .long) ∈ tl_L := List.mem_filter.mpr ⟨lw_m5 (i := 3) rfl, rfl⟩
theorem wk_1303 : Cond.methodLink RL 145 yX12_deepest ∈ tl_L := List.mem_filter.mpr ⟨lw_m8 (i := 204) rfl, rfl⟩
theorem wk_1304 : Cond.instanceMethod yX12_deepest ∈ tl_L := List.mem_filter.mpr ⟨lw_m8 (i := 205) rfl, rfl⟩
theorem wk_1305 : Cond.selects RX12 yX12_deepest yX12_deepest ∈ tl_L := List.mem_filter.mpr ⟨lw_m8 (i := 206) rfl, rfl⟩
theorem wk_1306 : Cond.code yX12_deepest cX12_deepest 11 (some .long) ∈ tl_L := List.mem_filter.mpr ⟨lw_m8 (i := 207) rfl, rfl⟩
theorem lk_L_142 : tl_kV RL 142 RX11 yX11_deepest cX11_deepest 10 (some .long) 3 := ⟨wk_1301, wk_1298, wk_1299, wk_1300, wk_2, ⟨by decide +kernel, by decide +kernel, by decide +kernel⟩⟩
theorem lk_L_145 : tl_kV RL 145 RX12 yX12_deepest cX12_deepest 11 (some .long) 3 := ⟨wk_1306, wk_1303, wk_1304, wk_1305, wk_5, ⟨by decide +kernel, by decide +kernel, by decide +kernel⟩⟩
theorem dL_law_1593 : decode cL_law 1593 = .ok (.aload_n 1, 1) := lw_f43 (lw_at lw_e49 (j := 25) rfl)
theorem dL_law_1594 : decode cL_law 1594 = .ok (.aload_n 0, 1) := lw_f42 (lw_at lw_e49 (j := 26) rfl)
theorem dL_law_1595 : decode cL_law 1595 = .ok (.iload_n 3, 1) := lw_f29 (lw_at lw_e49 (j := 27) rfl)
theorem dL_law_1596 : decode cL_law 1596 = .ok (.iconst 1, 1) := lw_f4 (lw_at lw_e49 (j := 28) rfl)
theorem dL_law_1597 : decode cL_law 1597 = .ok (.iadd, 1) := lw_f96 (lw_at lw_e49 (j := 29) rfl)
theorem dL_law_1598 : decode cL_law 1598 = .ok (.iaload, 1) := lw_f46 (lw_at lw_e49 (j := 30) rfl)
theorem dL_law_1599 : decode cL_law 1599 = .ok (.aload_n 0, 1) := lw_f42 (lw_at lw_e49 (j := 31) rfl)
theorem dL_law_1600 : decode cL_law 1600 = .ok (.iload_n 3, 1) := lw_f29 (lw_at lw_e50 (j := 0) rfl)
theorem dL_law_1601 : decode cL_law 1601 = .ok (.iconst 2, 1) := lw_f5 (lw_at lw_e50 (j := 1) rfl)
theorem dL_law_1602 : decode cL_law 1602 = .ok (.iadd, 1) := lw_f96 (lw_at lw_e50 (j := 2) rfl)
theorem dL_law_1603 : decode cL_law 1603 = .ok (.iaload, 1) := lw_f46 (lw_at lw_e50 (j := 3) rfl)
theorem dL_law_1604 : decode cL_law 1604 = .ok (.aload_n 0, 1) := lw_f42 (lw_at lw_e50 (j := 4) rfl)
theorem dL_law_1605 : decode cL_law 1605 = .ok (.iload_n 3, 1) := lw_f29 (lw_at lw_e50 (j := 5) rfl)
theorem dL_law_1606 : decode cL_law 1606 = .ok (.iconst 3, 1) := lw_f6 (lw_at lw_e50 (j := 6) rfl)
theorem dL_law_1607 : decode cL_law 1607 = .ok (.iadd, 1) := lw_f96 (lw_at lw_e50 (j := 7) rfl)
theorem dL_law_1608 : decode cL_law 1608 = .ok (.iaload, 1) := lw_f46 (lw_at lw_e50 (j := 8) rfl)
theorem dL_law_1609 : decode cL_law 1609 = .ok (.invokevirtual 146, 3) := lw_f182 (lw_at lw_e50 (j := 9) rfl) (lw_at lw_e50 (j := 10) rfl) (lw_at lw_e50 (j := 11) rfl) rfl
theorem dL_law_1612 : decode cL_law 1612 = .ok (.pop, 1) := lw_f87 (lw_at lw_e50 (j := 12) rfl)
theorem dL_law_1613 : decode cL_law 1613 = .ok (.aload_n 2, 1) := lw_f44 (lw_at lw_e50 (j := 13) rfl)
theorem dL_law_1614 : decode cL_law 1614 = .ok (.aload_n 0, 1) := lw_f42 (lw_at lw_e50 (j := 14) rfl)
theorem dL_law_1615 : decode cL_law 1615 = .ok (.iload_n 3, 1) := lw_f29 (lw_at lw_e50 (j := 15) rfl)
theorem dL_law_1616 : decode cL_law 1616 = .ok (.iconst 1, 1) := lw_f4 (lw_at lw_e50 (j := 16) rfl)
theorem dL_law_1617 : decode cL_law 1617 = .ok (.iadd, 1) := lw_f96 (lw_at lw_e50 (j := 17) rfl)
theorem dL_law_1618 : decode cL_law 1618 = .ok (.iaload, 1) := lw_f46 (lw_at lw_e50 (j := 18) rfl)
theorem dL_law_1619 : decode cL_law 1619 = .ok (.aload_n 0, 1) := lw_f42 (lw_at lw_e50 (j := 19) rfl)
theorem dL_law_1620 : decode cL_law 1620 = .ok (.iload_n 3, 1) := lw_f29 (lw_at lw_e50 (j := 20) rfl)
theorem dL_law_1621 : decode cL_law 1621 = .ok (.iconst 2, 1) := lw_f5 (lw_at lw_e50 (j := 21) rfl)
theorem dL_law_1622 : decode cL_law 1622 = .ok (.iadd, 1) := lw_f96 (lw_at lw_e50 (j := 22) rfl)
theorem dL_law_1623 : decode cL_law 1623 = .ok (.iaload, 1) := lw_f46 (lw_at lw_e50 (j := 23) rfl)
theorem dL_law_1624 : decode cL_law 1624 = .ok (.aload_n 0, 1) := lw_f42 (lw_at lw_e50 (j := 24) rfl)
theorem dL_law_1625 : decode cL_law 1625 = .ok (.iload_n 3, 1) := lw_f29 (lw_at lw_e50 (j := 25) rfl)
theorem dL_law_1626 : decode cL_law 1626 = .ok (.iconst 3, 1) := lw_f6 (lw_at lw_e50 (j := 26) rfl)
theorem dL_law_1627 : decode cL_law 1627 = .ok (.iadd, 1) := lw_f96 (lw_at lw_e50 (j := 27) rfl)
theorem dL_law_1628 : decode cL_law 1628 = .ok (.iaload, 1) := lw_f46 (lw_at lw_e50 (j := 28) rfl)
theorem dL_law_1629 : decode cL_law 1629 = .ok (.invokevirtual 149, 3) := lw_f182 (lw_at lw_e50 (j := 29) rfl) (lw_at lw_e50 (j := 30) rfl) (lw_at lw_e50 (j := 31) rfl) rfl
theorem dL_law_1632 : decode cL_law 1632 = .ok (.pop, 1) := lw_f87 (lw_at lw_e51 (j := 0) rfl)
theorem dL_law_1633 : decode cL_law 1633 = .ok (.goto 372, 3) := lw_f167 (lw_at lw_e51 (j := 1) rfl) (lw_at lw_e51 (j := 2) rfl) (lw_at lw_e51 (j := 3) rfl) (by decide)
theorem wk_1308 : Cond.methodLink RL 146 yX11_house ∈ tl_L := List.mem_filter.mpr ⟨lw_m5 (i := 173) rfl, rfl⟩
theorem wk_1309 : Cond.instanceMethod yX11_house ∈ tl_L := List.mem_filter.mpr ⟨lw_m5 (i := 174) rfl, rfl⟩
theorem wk_1310 : Cond.selects RX11 yX11_house yX11_house ∈ tl_L := List.mem_filter.mpr ⟨lw_m5 (i := 175) rfl, rfl⟩
theorem wk_1311 : Cond.code yX11_house cX11_house 4 (some .int) ∈ tl_L := List.mem_filter.mpr ⟨lw_m5 (i := 176) rfl, rfl⟩
theorem wk_1312 : Cond.methodLink RL 149 yX12_house ∈ tl_L := List.mem_filter.mpr ⟨lw_m8 (i := 209) rfl, rfl⟩
theorem wk_1313 : Cond.instanceMethod yX12_house ∈ tl_L := List.mem_filter.mpr ⟨lw_m8 (i := 210) rfl, rfl⟩
theorem wk_1314 : Cond.selects RX12 yX12_house yX12_house ∈ tl_L := List.mem_filter.mpr ⟨lw_m8 (i := 211) rfl, rfl⟩
theorem wk_1315 : Cond.code yX12_house cX12_house 5 (some .int) ∈ tl_L := List.mem_filter.mpr ⟨lw_m8 (i := 212) rfl, rfl⟩
theorem lk_L_146 : tl_kV RL 146 RX11 yX11_house cX11_house 4 (some .int) 3 := ⟨wk_1311, wk_1308, wk_1309, wk_1310, wk_2, ⟨by decide +kernel, by decide +kernel, by decide +kernel⟩⟩
theorem lk_L_149 : tl_kV RL 149 RX12 yX12_house cX12_house 5 (some .int) 3 := ⟨wk_1315, wk_1312, wk_1313, wk_1314, wk_5, ⟨by decide +kernel, by decide +kernel, by decide +kernel⟩⟩
theorem dL_law_1636 : decode cL_law 1636 = .ok (.aload_n 1, 1) := lw_f43 (lw_at lw_e51 (j := 4) rfl)
theorem dL_law_1637 : decode cL_law 1637 = .ok (.aload_n 0, 1) := lw_f42 (lw_at lw_e51 (j := 5) rfl)
theorem dL_law_1638 : decode cL_law 1638 = .ok (.iload_n 3, 1) := lw_f29 (lw_at lw_e51 (j := 6) rfl)
theorem dL_law_1639 : decode cL_law 1639 = .ok (.iconst 1, 1) := lw_f4 (lw_at lw_e51 (j := 7) rfl)
theorem dL_law_1640 : decode cL_law 1640 = .ok (.iadd, 1) := lw_f96 (lw_at lw_e51 (j := 8) rfl)
theorem dL_law_1641 : decode cL_law 1641 = .ok (.iaload, 1) := lw_f46 (lw_at lw_e51 (j := 9) rfl)
theorem dL_law_1642 : decode cL_law 1642 = .ok (.aload_n 0, 1) := lw_f42 (lw_at lw_e51 (j := 10) rfl)
theorem dL_law_1643 : decode cL_law 1643 = .ok (.iload_n 3, 1) := lw_f29 (lw_at lw_e51 (j := 11) rfl)
theorem dL_law_1644 : decode cL_law 1644 = .ok (.iconst 2, 1) := lw_f5 (lw_at lw_e51 (j := 12) rfl)
theorem dL_law_1645 : decode cL_law 1645 = .ok (.iadd, 1) := lw_f96 (lw_at lw_e51 (j := 13) rfl)
theorem dL_law_1646 : decode cL_law 1646 = .ok (.iaload, 1) := lw_f46 (lw_at lw_e51 (j := 14) rfl)
theorem dL_law_1647 : decode cL_law 1647 = .ok (.invokevirtual 150, 3) := lw_f182 (lw_at lw_e51 (j := 15) rfl) (lw_at lw_e51 (j := 16) rfl) (lw_at lw_e51 (j := 17) rfl) rfl
theorem dL_law_1650 : decode cL_law 1650 = .ok (.pop, 1) := lw_f87 (lw_at lw_e51 (j := 18) rfl)
theorem dL_law_1651 : decode cL_law 1651 = .ok (.aload_n 2, 1) := lw_f44 (lw_at lw_e51 (j := 19) rfl)
theorem dL_law_1652 : decode cL_law 1652 = .ok (.aload_n 0, 1) := lw_f42 (lw_at lw_e51 (j := 20) rfl)
theorem dL_law_1653 : decode cL_law 1653 = .ok (.iload_n 3, 1) := lw_f29 (lw_at lw_e51 (j := 21) rfl)
theorem dL_law_1654 : decode cL_law 1654 = .ok (.iconst 1, 1) := lw_f4 (lw_at lw_e51 (j := 22) rfl)
theorem dL_law_1655 : decode cL_law 1655 = .ok (.iadd, 1) := lw_f96 (lw_at lw_e51 (j := 23) rfl)
theorem dL_law_1656 : decode cL_law 1656 = .ok (.iaload, 1) := lw_f46 (lw_at lw_e51 (j := 24) rfl)
theorem dL_law_1657 : decode cL_law 1657 = .ok (.aload_n 0, 1) := lw_f42 (lw_at lw_e51 (j := 25) rfl)
theorem dL_law_1658 : decode cL_law 1658 = .ok (.iload_n 3, 1) := lw_f29 (lw_at lw_e51 (j := 26) rfl)
theorem dL_law_1659 : decode cL_law 1659 = .ok (.iconst 2, 1) := lw_f5 (lw_at lw_e51 (j := 27) rfl)
theorem dL_law_1660 : decode cL_law 1660 = .ok (.iadd, 1) := lw_f96 (lw_at lw_e51 (j := 28) rfl)
theorem dL_law_1661 : decode cL_law 1661 = .ok (.iaload, 1) := lw_f46 (lw_at lw_e51 (j := 29) rfl)
theorem dL_law_1662 : decode cL_law 1662 = .ok (.invokevirtual 153, 3) := lw_f182 (lw_at lw_e51 (j := 30) rfl) (lw_at lw_e51 (j := 31) rfl) (lw_at lw_e52 (j := 0) rfl) rfl
theorem dL_law_1665 : decode cL_law 1665 = .ok (.pop, 1) := lw_f87 (lw_at lw_e52 (j := 1) rfl)
theorem dL_law_1666 : decode cL_law 1666 = .ok (.goto 339, 3) := lw_f167 (lw_at lw_e52 (j := 2) rfl) (lw_at lw_e52 (j := 3) rfl) (lw_at lw_e52 (j := 4) rfl) (by decide)
theorem wk_1316 : Cond.methodLink RL 150 yX11_says ∈ tl_L := List.mem_filter.mpr ⟨lw_m5 (i := 177) rfl, rfl⟩
theorem wk_1317 : Cond.instanceMethod yX11_says ∈ tl_L := List.mem_filter.mpr ⟨lw_m5 (i := 178) rfl, rfl⟩
theorem wk_1318 : Cond.selects RX11 yX11_says yX11_says ∈ tl_L := List.mem_filter.mpr ⟨lw_m5 (i := 179) rfl, rfl⟩
theorem wk_1319 : Cond.code yX11_says cX11_says 3 (some .int) ∈ tl_L := List.mem_filter.mpr ⟨lw_m5 (i := 180) rfl, rfl⟩
theorem wk_1324 : Cond.methodLink RL 153 yX12_says ∈ tl_L := List.mem_filter.mpr ⟨lw_m8 (i := 213) rfl, rfl⟩
theorem wk_1325 : Cond.instanceMethod yX12_says ∈ tl_L := List.mem_filter.mpr ⟨lw_m8 (i := 214) rfl, rfl⟩
theorem wk_1326 : Cond.selects RX12 yX12_says yX12_says ∈ tl_L := List.mem_filter.mpr ⟨lw_m8 (i := 215) rfl, rfl⟩
theorem wk_1327 : Cond.code yX12_says cX12_says 3 (some .int) ∈ tl_L := List.mem_filter.mpr ⟨lw_m8 (i := 216) rfl, rfl⟩
theorem lk_L_150 : tl_kV RL 150 RX11 yX11_says cX11_says 3 (some .int) 2 := ⟨wk_1319, wk_1316, wk_1317, wk_1318, wk_2, ⟨by decide +kernel, by decide +kernel, by decide +kernel⟩⟩
theorem lk_L_153 : tl_kV RL 153 RX12 yX12_says cX12_says 3 (some .int) 2 := ⟨wk_1327, wk_1324, wk_1325, wk_1326, wk_5, ⟨by decide +kernel, by decide +kernel, by decide +kernel⟩⟩
theorem dL_law_1669 : decode cL_law 1669 = .ok (.aload_n 1, 1) := lw_f43 (lw_at lw_e52 (j := 5) rfl)
theorem dL_law_1670 : decode cL_law 1670 = .ok (.aload_n 0, 1) := lw_f42 (lw_at lw_e52 (j := 6) rfl)
theorem dL_law_1671 : decode cL_law 1671 = .ok (.iload_n 3, 1) := lw_f29 (lw_at lw_e52 (j := 7) rfl)
theorem dL_law_1672 : decode cL_law 1672 = .ok (.iconst 1, 1) := lw_f4 (lw_at lw_e52 (j := 8) rfl)
theorem dL_law_1673 : decode cL_law 1673 = .ok (.iadd, 1) := lw_f96 (lw_at lw_e52 (j := 9) rfl)
theorem dL_law_1674 : decode cL_law 1674 = .ok (.iaload, 1) := lw_f46 (lw_at lw_e52 (j := 10) rfl)
theorem dL_law_1675 : decode cL_law 1675 = .ok (.invokevirtual 154, 3) := lw_f182 (lw_at lw_e52 (j := 11) rfl) (lw_at lw_e52 (j := 12) rfl) (lw_at lw_e52 (j := 13) rfl) rfl
theorem dL_law_1678 : decode cL_law 1678 = .ok (.pop, 1) := lw_f87 (lw_at lw_e52 (j := 14) rfl)
theorem dL_law_1679 : decode cL_law 1679 = .ok (.aload_n 2, 1) := lw_f44 (lw_at lw_e52 (j := 15) rfl)
theorem dL_law_1680 : decode cL_law 1680 = .ok (.aload_n 0, 1) := lw_f42 (lw_at lw_e52 (j := 16) rfl)
theorem dL_law_1681 : decode cL_law 1681 = .ok (.iload_n 3, 1) := lw_f29 (lw_at lw_e52 (j := 17) rfl)
theorem dL_law_1682 : decode cL_law 1682 = .ok (.iconst 1, 1) := lw_f4 (lw_at lw_e52 (j := 18) rfl)
theorem dL_law_1683 : decode cL_law 1683 = .ok (.iadd, 1) := lw_f96 (lw_at lw_e52 (j := 19) rfl)
theorem dL_law_1684 : decode cL_law 1684 = .ok (.iaload, 1) := lw_f46 (lw_at lw_e52 (j := 20) rfl)
theorem dL_law_1685 : decode cL_law 1685 = .ok (.invokevirtual 157, 3) := lw_f182 (lw_at lw_e52 (j := 21) rfl) (lw_at lw_e52 (j := 22) rfl) (lw_at lw_e52 (j := 23) rfl) rfl
theorem dL_law_1688 : decode cL_law 1688 = .ok (.pop, 1) := lw_f87 (lw_at lw_e52 (j := 24) rfl)
theorem dL_law_1689 : decode cL_law 1689 = .ok (.goto 316, 3) := lw_f167 (lw_at lw_e52 (j := 25) rfl) (lw_at lw_e52 (j := 26) rfl) (lw_at lw_e52 (j := 27) rfl) (by decide)
theorem wk_1332 : Cond.methodLink RL 154 yX11_agreed ∈ tl_L := List.mem_filter.mpr ⟨lw_m5 (i := 185) rfl, rfl⟩
theorem wk_1333 : Cond.instanceMethod yX11_agreed ∈ tl_L := List.mem_filter.mpr ⟨lw_m5 (i := 186) rfl, rfl⟩
theorem wk_1334 : Cond.selects RX11 yX11_agreed yX11_agreed ∈ tl_L := List.mem_filter.mpr ⟨lw_m5 (i := 187) rfl, rfl⟩
theorem wk_1335 : Cond.code yX11_agreed cX11_agreed 3 (some .int) ∈ tl_L := List.mem_filter.mpr ⟨lw_m5 (i := 188) rfl, rfl⟩
theorem wk_1340 : Cond.methodLink RL 157 yX12_agreed ∈ tl_L := List.mem_filter.mpr ⟨lw_m8 (i := 221) rfl, rfl⟩
theorem wk_1341 : Cond.instanceMethod yX12_agreed ∈ tl_L := List.mem_filter.mpr ⟨lw_m8 (i := 222) rfl, rfl⟩
theorem wk_1342 : Cond.selects RX12 yX12_agreed yX12_agreed ∈ tl_L := List.mem_filter.mpr ⟨lw_m8 (i := 223) rfl, rfl⟩
theorem wk_1343 : Cond.code yX12_agreed cX12_agreed 3 (some .int) ∈ tl_L := List.mem_filter.mpr ⟨lw_m8 (i := 224) rfl, rfl⟩
theorem lk_L_154 : tl_kV RL 154 RX11 yX11_agreed cX11_agreed 3 (some .int) 1 := ⟨wk_1335, wk_1332, wk_1333, wk_1334, wk_2, ⟨by decide +kernel, by decide +kernel, by decide +kernel⟩⟩
theorem lk_L_157 : tl_kV RL 157 RX12 yX12_agreed cX12_agreed 3 (some .int) 1 := ⟨wk_1343, wk_1340, wk_1341, wk_1342, wk_5, ⟨by decide +kernel, by decide +kernel, by decide +kernel⟩⟩
theorem dL_law_1692 : decode cL_law 1692 = .ok (.aload_n 1, 1) := lw_f43 (lw_at lw_e52 (j := 28) rfl)
theorem dL_law_1693 : decode cL_law 1693 = .ok (.aload_n 0, 1) := lw_f42 (lw_at lw_e52 (j := 29) rfl)
theorem dL_law_1694 : decode cL_law 1694 = .ok (.iload_n 3, 1) := lw_f29 (lw_at lw_e52 (j := 30) rfl)
theorem dL_law_1695 : decode cL_law 1695 = .ok (.iconst 1, 1) := lw_f4 (lw_at lw_e52 (j := 31) rfl)
theorem dL_law_1696 : decode cL_law 1696 = .ok (.iadd, 1) := lw_f96 (lw_at lw_e53 (j := 0) rfl)
theorem dL_law_1697 : decode cL_law 1697 = .ok (.iaload, 1) := lw_f46 (lw_at lw_e53 (j := 1) rfl)
theorem dL_law_1698 : decode cL_law 1698 = .ok (.invokevirtual 158, 3) := lw_f182 (lw_at lw_e53 (j := 2) rfl) (lw_at lw_e53 (j := 3) rfl) (lw_at lw_e53 (j := 4) rfl) rfl
theorem dL_law_1701 : decode cL_law 1701 = .ok (.pop, 1) := lw_f87 (lw_at lw_e53 (j := 5) rfl)
theorem dL_law_1702 : decode cL_law 1702 = .ok (.aload_n 2, 1) := lw_f44 (lw_at lw_e53 (j := 6) rfl)
theorem dL_law_1703 : decode cL_law 1703 = .ok (.aload_n 0, 1) := lw_f42 (lw_at lw_e53 (j := 7) rfl)
theorem dL_law_1704 : decode cL_law 1704 = .ok (.iload_n 3, 1) := lw_f29 (lw_at lw_e53 (j := 8) rfl)
theorem dL_law_1705 : decode cL_law 1705 = .ok (.iconst 1, 1) := lw_f4 (lw_at lw_e53 (j := 9) rfl)
theorem dL_law_1706 : decode cL_law 1706 = .ok (.iadd, 1) := lw_f96 (lw_at lw_e53 (j := 10) rfl)
theorem dL_law_1707 : decode cL_law 1707 = .ok (.iaload, 1) := lw_f46 (lw_at lw_e53 (j := 11) rfl)
theorem dL_law_1708 : decode cL_law 1708 = .ok (.invokevirtual 161, 3) := lw_f182 (lw_at lw_e53 (j := 12) rfl) (lw_at lw_e53 (j := 13) rfl) (lw_at lw_e53 (j := 14) rfl) rfl
theorem dL_law_1711 : decode cL_law 1711 = .ok (.pop, 1) := lw_f87 (lw_at lw_e53 (j := 15) rfl)
theorem dL_law_1712 : decode cL_law 1712 = .ok (.goto 293, 3) := lw_f167 (lw_at lw_e53 (j := 16) rfl) (lw_at lw_e53 (j := 17) rfl) (lw_at lw_e53 (j := 18) rfl) (by decide)
theorem wk_1348 : Cond.methodLink RL 158 yX11_alone ∈ tl_L := List.mem_filter.mpr ⟨lw_m5 (i := 193) rfl, rfl⟩
theorem wk_1349 : Cond.instanceMethod yX11_alone ∈ tl_L := List.mem_filter.mpr ⟨lw_m5 (i := 194) rfl, rfl⟩
theorem wk_1350 : Cond.selects RX11 yX11_alone yX11_alone ∈ tl_L := List.mem_filter.mpr ⟨lw_m5 (i := 195) rfl, rfl⟩
theorem wk_1351 : Cond.code yX11_alone cX11_alone 4 (some .int) ∈ tl_L := List.mem_filter.mpr ⟨lw_m5 (i := 196) rfl, rfl⟩
theorem wk_1352 : Cond.methodLink RL 161 yX12_alone ∈ tl_L := List.mem_filter.mpr ⟨lw_m8 (i := 229) rfl, rfl⟩
theorem wk_1353 : Cond.instanceMethod yX12_alone ∈ tl_L := List.mem_filter.mpr ⟨lw_m8 (i := 230) rfl, rfl⟩
theorem wk_1354 : Cond.selects RX12 yX12_alone yX12_alone ∈ tl_L := List.mem_filter.mpr ⟨lw_m8 (i := 231) rfl, rfl⟩
theorem wk_1355 : Cond.code yX12_alone cX12_alone 3 (some .int) ∈ tl_L := List.mem_filter.mpr ⟨lw_m8 (i := 232) rfl, rfl⟩
theorem lk_L_158 : tl_kV RL 158 RX11 yX11_alone cX11_alone 4 (some .int) 1 := ⟨wk_1351, wk_1348, wk_1349, wk_1350, wk_2, ⟨by decide +kernel, by decide +kernel, by decide +kernel⟩⟩
theorem lk_L_161 : tl_kV RL 161 RX12 yX12_alone cX12_alone 3 (some .int) 1 := ⟨wk_1355, wk_1352, wk_1353, wk_1354, wk_5, ⟨by decide +kernel, by decide +kernel, by decide +kernel⟩⟩
theorem dL_law_1715 : decode cL_law 1715 = .ok (.aload_n 1, 1) := lw_f43 (lw_at lw_e53 (j := 19) rfl)
theorem dL_law_1716 : decode cL_law 1716 = .ok (.aload_n 0, 1) := lw_f42 (lw_at lw_e53 (j := 20) rfl)
theorem dL_law_1717 : decode cL_law 1717 = .ok (.iload_n 3, 1) := lw_f29 (lw_at lw_e53 (j := 21) rfl)
theorem dL_law_1718 : decode cL_law 1718 = .ok (.iconst 1, 1) := lw_f4 (lw_at lw_e53 (j := 22) rfl)
theorem dL_law_1719 : decode cL_law 1719 = .ok (.iadd, 1) := lw_f96 (lw_at lw_e53 (j := 23) rfl)
theorem dL_law_1720 : decode cL_law 1720 = .ok (.iaload, 1) := lw_f46 (lw_at lw_e53 (j := 24) rfl)
theorem dL_law_1721 : decode cL_law 1721 = .ok (.aload_n 0, 1) := lw_f42 (lw_at lw_e53 (j := 25) rfl)
theorem dL_law_1722 : decode cL_law 1722 = .ok (.iload_n 3, 1) := lw_f29 (lw_at lw_e53 (j := 26) rfl)
theorem dL_law_1723 : decode cL_law 1723 = .ok (.iconst 2, 1) := lw_f5 (lw_at lw_e53 (j := 27) rfl)
theorem dL_law_1724 : decode cL_law 1724 = .ok (.iadd, 1) := lw_f96 (lw_at lw_e53 (j := 28) rfl)
theorem dL_law_1725 : decode cL_law 1725 = .ok (.iaload, 1) := lw_f46 (lw_at lw_e53 (j := 29) rfl)
theorem dL_law_1726 : decode cL_law 1726 = .ok (.invokevirtual 162, 3) := lw_f182 (lw_at lw_e53 (j := 30) rfl) (lw_at lw_e53 (j := 31) rfl) (lw_at lw_e54 (j := 0) rfl) rfl
theorem dL_law_1729 : decode cL_law 1729 = .ok (.pop, 1) := lw_f87 (lw_at lw_e54 (j := 1) rfl)
theorem dL_law_1730 : decode cL_law 1730 = .ok (.aload_n 2, 1) := lw_f44 (lw_at lw_e54 (j := 2) rfl)
theorem dL_law_1731 : decode cL_law 1731 = .ok (.aload_n 0, 1) := lw_f42 (lw_at lw_e54 (j := 3) rfl)
theorem dL_law_1732 : decode cL_law 1732 = .ok (.iload_n 3, 1) := lw_f29 (lw_at lw_e54 (j := 4) rfl)
theorem dL_law_1733 : decode cL_law 1733 = .ok (.iconst 1, 1) := lw_f4 (lw_at lw_e54 (j := 5) rfl)
theorem dL_law_1734 : decode cL_law 1734 = .ok (.iadd, 1) := lw_f96 (lw_at lw_e54 (j := 6) rfl)
theorem dL_law_1735 : decode cL_law 1735 = .ok (.iaload, 1) := lw_f46 (lw_at lw_e54 (j := 7) rfl)
theorem dL_law_1736 : decode cL_law 1736 = .ok (.aload_n 0, 1) := lw_f42 (lw_at lw_e54 (j := 8) rfl)
theorem dL_law_1737 : decode cL_law 1737 = .ok (.iload_n 3, 1) := lw_f29 (lw_at lw_e54 (j := 9) rfl)
theorem dL_law_1738 : decode cL_law 1738 = .ok (.iconst 2, 1) := lw_f5 (lw_at lw_e54 (j := 10) rfl)
theorem dL_law_1739 : decode cL_law 1739 = .ok (.iadd, 1) := lw_f96 (lw_at lw_e54 (j := 11) rfl)
theorem dL_law_1740 : decode cL_law 1740 = .ok (.iaload, 1) := lw_f46 (lw_at lw_e54 (j := 12) rfl)
theorem dL_law_1741 : decode cL_law 1741 = .ok (.invokevirtual 165, 3) := lw_f182 (lw_at lw_e54 (j := 13) rfl) (lw_at lw_e54 (j := 14) rfl) (lw_at lw_e54 (j := 15) rfl) rfl
theorem dL_law_1744 : decode cL_law 1744 = .ok (.pop, 1) := lw_f87 (lw_at lw_e54 (j := 16) rfl)
theorem dL_law_1745 : decode cL_law 1745 = .ok (.goto 260, 3) := lw_f167 (lw_at lw_e54 (j := 17) rfl) (lw_at lw_e54 (j := 18) rfl) (lw_at lw_e54 (j := 19) rfl) (by decide)
theorem wk_1356 : Cond.methodLink RL 162 yX11_odd ∈ tl_L := List.mem_filter.mpr ⟨lw_m5 (i := 122) rfl, rfl⟩
theorem wk_1357 : Cond.instanceMethod yX11_odd ∈ tl_L := List.mem_filter.mpr ⟨lw_m5 (i := 123) rfl, rfl⟩
theorem wk_1358 : Cond.selects RX11 yX11_odd yX11_odd ∈ tl_L := List.mem_filter.mpr ⟨lw_m5 (i := 124) rfl, rfl⟩
theorem wk_1359 : Cond.code yX11_odd cX11_odd 5 (some .int) ∈ tl_L := List.mem_filter.mpr ⟨lw_m5 (i := 125) rfl, rfl⟩
theorem wk_1368 : Cond.methodLink RL 165 yX12_odd ∈ tl_L := List.mem_filter.mpr ⟨lw_m8 (i := 233) rfl, rfl⟩
theorem wk_1369 : Cond.instanceMethod yX12_odd ∈ tl_L := List.mem_filter.mpr ⟨lw_m8 (i := 234) rfl, rfl⟩
theorem wk_1370 : Cond.selects RX12 yX12_odd yX12_odd ∈ tl_L := List.mem_filter.mpr ⟨lw_m8 (i := 235) rfl, rfl⟩
theorem wk_1371 : Cond.code yX12_odd cX12_odd 9 (some .int) ∈ tl_L := List.mem_filter.mpr ⟨lw_m8 (i := 236) rfl, rfl⟩
theorem lk_L_162 : tl_kV RL 162 RX11 yX11_odd cX11_odd 5 (some .int) 2 := ⟨wk_1359, wk_1356, wk_1357, wk_1358, wk_2, ⟨by decide +kernel, by decide +kernel, by decide +kernel⟩⟩
theorem lk_L_165 : tl_kV RL 165 RX12 yX12_odd cX12_odd 9 (some .int) 2 := ⟨wk_1371, wk_1368, wk_1369, wk_1370, wk_5, ⟨by decide +kernel, by decide +kernel, by decide +kernel⟩⟩
theorem dL_law_1748 : decode cL_law 1748 = .ok (.aload_n 1, 1) := lw_f43 (lw_at lw_e54 (j := 20) rfl)
theorem dL_law_1749 : decode cL_law 1749 = .ok (.aload_n 0, 1) := lw_f42 (lw_at lw_e54 (j := 21) rfl)
theorem dL_law_1750 : decode cL_law 1750 = .ok (.iload_n 3, 1) := lw_f29 (lw_at lw_e54 (j := 22) rfl)
theorem dL_law_1751 : decode cL_law 1751 = .ok (.iconst 1, 1) := lw_f4 (lw_at lw_e54 (j := 23) rfl)
theorem dL_law_1752 : decode cL_law 1752 = .ok (.iadd, 1) := lw_f96 (lw_at lw_e54 (j := 24) rfl)
theorem dL_law_1753 : decode cL_law 1753 = .ok (.iaload, 1) := lw_f46 (lw_at lw_e54 (j := 25) rfl)
theorem dL_law_1754 : decode cL_law 1754 = .ok (.aload_n 0, 1) := lw_f42 (lw_at lw_e54 (j := 26) rfl)
theorem dL_law_1755 : decode cL_law 1755 = .ok (.iload_n 3, 1) := lw_f29 (lw_at lw_e54 (j := 27) rfl)
theorem dL_law_1756 : decode cL_law 1756 = .ok (.iconst 2, 1) := lw_f5 (lw_at lw_e54 (j := 28) rfl)
theorem dL_law_1757 : decode cL_law 1757 = .ok (.iadd, 1) := lw_f96 (lw_at lw_e54 (j := 29) rfl)
theorem dL_law_1758 : decode cL_law 1758 = .ok (.iaload, 1) := lw_f46 (lw_at lw_e54 (j := 30) rfl)
theorem dL_law_1759 : decode cL_law 1759 = .ok (.invokevirtual 166, 3) := lw_f182 (lw_at lw_e54 (j := 31) rfl) (lw_at lw_e55 (j := 0) rfl) (lw_at lw_e55 (j := 1) rfl) rfl
theorem dL_law_1762 : decode cL_law 1762 = .ok (.pop, 1) := lw_f87 (lw_at lw_e55 (j := 2) rfl)
theorem dL_law_1763 : decode cL_law 1763 = .ok (.aload_n 2, 1) := lw_f44 (lw_at lw_e55 (j := 3) rfl)
theorem dL_law_1764 : decode cL_law 1764 = .ok (.aload_n 0, 1) := lw_f42 (lw_at lw_e55 (j := 4) rfl)
theorem dL_law_1765 : decode cL_law 1765 = .ok (.iload_n 3, 1) := lw_f29 (lw_at lw_e55 (j := 5) rfl)
theorem dL_law_1766 : decode cL_law 1766 = .ok (.iconst 1, 1) := lw_f4 (lw_at lw_e55 (j := 6) rfl)
theorem dL_law_1767 : decode cL_law 1767 = .ok (.iadd, 1) := lw_f96 (lw_at lw_e55 (j := 7) rfl)
theorem dL_law_1768 : decode cL_law 1768 = .ok (.iaload, 1) := lw_f46 (lw_at lw_e55 (j := 8) rfl)
theorem dL_law_1769 : decode cL_law 1769 = .ok (.aload_n 0, 1) := lw_f42 (lw_at lw_e55 (j := 9) rfl)
theorem dL_law_1770 : decode cL_law 1770 = .ok (.iload_n 3, 1) := lw_f29 (lw_at lw_e55 (j := 10) rfl)
theorem dL_law_1771 : decode cL_law 1771 = .ok (.iconst 2, 1) := lw_f5 (lw_at lw_e55 (j := 11) rfl)
theorem dL_law_1772 : decode cL_law 1772 = .ok (.iadd, 1) := lw_f96 (lw_at lw_e55 (j := 12) rfl)
theorem dL_law_1773 : decode cL_law 1773 = .ok (.iaload, 1) := lw_f46 (lw_at lw_e55 (j := 13) rfl)
theorem dL_law_1774 : decode cL_law 1774 = .ok (.invokevirtual 169, 3) := lw_f182 (lw_at lw_e55 (j := 14) rfl) (lw_at lw_e55 (j := 15) rfl) (lw_at lw_e55 (j := 16) rfl) rfl
theorem dL_law_1777 : decode cL_law 1777 = .ok (.pop, 1) := lw_f87 (lw_at lw_e55 (j := 17) rfl)
theorem dL_law_1778 : decode cL_law 1778 = .ok (.goto 227, 3) := lw_f167 (lw_at lw_e55 (j := 18) rfl) (lw_at lw_e55 (j := 19) rfl) (lw_at lw_e55 (j := 20) rfl) (by decide)
theorem wk_1372 : Cond.methodLink RL 166 yX11_candidate ∈ tl_L := List.mem_filter.mpr ⟨lw_m5 (i := 197) rfl, rfl⟩
theorem wk_1373 : Cond.instanceMethod yX11_candidate ∈ tl_L := List.mem_filter.mpr ⟨lw_m5 (i := 198) rfl, rfl⟩
theorem wk_1374 : Cond.selects RX11 yX11_candidate yX11_candidate ∈ tl_L := List.mem_filter.mpr ⟨lw_m5 (i := 199) rfl, rfl⟩
theorem wk_1375 : Cond.code yX11_candidate cX11_candidate 3 (some .int) ∈ tl_L := List.mem_filter.mpr ⟨lw_m5 (i := 200) rfl, rfl⟩
theorem wk_1376 : Cond.methodLink RL 169 yX12_candidate ∈ tl_L := List.mem_filter.mpr ⟨lw_m8 (i := 237) rfl, rfl⟩
theorem wk_1377 : Cond.instanceMethod yX12_candidate ∈ tl_L := List.mem_filter.mpr ⟨lw_m8 (i := 238) rfl, rfl⟩
theorem wk_1378 : Cond.selects RX12 yX12_candidate yX12_candidate ∈ tl_L := List.mem_filter.mpr ⟨lw_m8 (i := 239) rfl, rfl⟩
theorem wk_1379 : Cond.code yX12_candidate cX12_candidate 4 (some .int) ∈ tl_L := List.mem_filter.mpr ⟨lw_m9 (i := 0) rfl, rfl⟩
theorem lk_L_166 : tl_kV RL 166 RX11 yX11_candidate cX11_candidate 3 (some .int) 2 := ⟨wk_1375, wk_1372, wk_1373, wk_1374, wk_2, ⟨by decide +kernel, by decide +kernel, by decide +kernel⟩⟩
theorem lk_L_169 : tl_kV RL 169 RX12 yX12_candidate cX12_candidate 4 (some .int) 2 := ⟨wk_1379, wk_1376, wk_1377, wk_1378, wk_5, ⟨by decide +kernel, by decide +kernel, by decide +kernel⟩⟩
theorem dL_law_1781 : decode cL_law 1781 = .ok (.aload_n 1, 1) := lw_f43 (lw_at lw_e55 (j := 21) rfl)
theorem dL_law_1782 : decode cL_law 1782 = .ok (.aload_n 0, 1) := lw_f42 (lw_at lw_e55 (j := 22) rfl)
theorem dL_law_1783 : decode cL_law 1783 = .ok (.iload_n 3, 1) := lw_f29 (lw_at lw_e55 (j := 23) rfl)
theorem dL_law_1784 : decode cL_law 1784 = .ok (.iconst 1, 1) := lw_f4 (lw_at lw_e55 (j := 24) rfl)
theorem dL_law_1785 : decode cL_law 1785 = .ok (.iadd, 1) := lw_f96 (lw_at lw_e55 (j := 25) rfl)
theorem dL_law_1786 : decode cL_law 1786 = .ok (.iaload, 1) := lw_f46 (lw_at lw_e55 (j := 26) rfl)
theorem dL_law_1787 : decode cL_law 1787 = .ok (.aload_n 0, 1) := lw_f42 (lw_at lw_e55 (j := 27) rfl)
theorem dL_law_1788 : decode cL_law 1788 = .ok (.iload_n 3, 1) := lw_f29 (lw_at lw_e55 (j := 28) rfl)
theorem dL_law_1789 : decode cL_law 1789 = .ok (.iconst 2, 1) := lw_f5 (lw_at lw_e55 (j := 29) rfl)
theorem dL_law_1790 : decode cL_law 1790 = .ok (.iadd, 1) := lw_f96 (lw_at lw_e55 (j := 30) rfl)
theorem dL_law_1791 : decode cL_law 1791 = .ok (.iaload, 1) := lw_f46 (lw_at lw_e55 (j := 31) rfl)
theorem dL_law_1792 : decode cL_law 1792 = .ok (.aload_n 0, 1) := lw_f42 (lw_at lw_e56 (j := 0) rfl)
theorem dL_law_1793 : decode cL_law 1793 = .ok (.iload_n 3, 1) := lw_f29 (lw_at lw_e56 (j := 1) rfl)
theorem dL_law_1794 : decode cL_law 1794 = .ok (.iconst 3, 1) := lw_f6 (lw_at lw_e56 (j := 2) rfl)
theorem dL_law_1795 : decode cL_law 1795 = .ok (.iadd, 1) := lw_f96 (lw_at lw_e56 (j := 3) rfl)
theorem dL_law_1796 : decode cL_law 1796 = .ok (.iaload, 1) := lw_f46 (lw_at lw_e56 (j := 4) rfl)
theorem dL_law_1797 : decode cL_law 1797 = .ok (.invokevirtual 170, 3) := lw_f182 (lw_at lw_e56 (j := 5) rfl) (lw_at lw_e56 (j := 6) rfl) (lw_at lw_e56 (j := 7) rfl) rfl
theorem dL_law_1800 : decode cL_law 1800 = .ok (.pop2, 1) := lw_f88 (lw_at lw_e56 (j := 8) rfl)
theorem dL_law_1801 : decode cL_law 1801 = .ok (.aload_n 2, 1) := lw_f44 (lw_at lw_e56 (j := 9) rfl)
theorem dL_law_1802 : decode cL_law 1802 = .ok (.aload_n 0, 1) := lw_f42 (lw_at lw_e56 (j := 10) rfl)
theorem dL_law_1803 : decode cL_law 1803 = .ok (.iload_n 3, 1) := lw_f29 (lw_at lw_e56 (j := 11) rfl)
theorem dL_law_1804 : decode cL_law 1804 = .ok (.iconst 1, 1) := lw_f4 (lw_at lw_e56 (j := 12) rfl)
theorem dL_law_1805 : decode cL_law 1805 = .ok (.iadd, 1) := lw_f96 (lw_at lw_e56 (j := 13) rfl)
theorem dL_law_1806 : decode cL_law 1806 = .ok (.iaload, 1) := lw_f46 (lw_at lw_e56 (j := 14) rfl)
theorem dL_law_1807 : decode cL_law 1807 = .ok (.aload_n 0, 1) := lw_f42 (lw_at lw_e56 (j := 15) rfl)
theorem dL_law_1808 : decode cL_law 1808 = .ok (.iload_n 3, 1) := lw_f29 (lw_at lw_e56 (j := 16) rfl)
theorem dL_law_1809 : decode cL_law 1809 = .ok (.iconst 2, 1) := lw_f5 (lw_at lw_e56 (j := 17) rfl)
theorem dL_law_1810 : decode cL_law 1810 = .ok (.iadd, 1) := lw_f96 (lw_at lw_e56 (j := 18) rfl)
theorem dL_law_1811 : decode cL_law 1811 = .ok (.iaload, 1) := lw_f46 (lw_at lw_e56 (j := 19) rfl)
theorem dL_law_1812 : decode cL_law 1812 = .ok (.aload_n 0, 1) := lw_f42 (lw_at lw_e56 (j := 20) rfl)
theorem dL_law_1813 : decode cL_law 1813 = .ok (.iload_n 3, 1) := lw_f29 (lw_at lw_e56 (j := 21) rfl)
theorem dL_law_1814 : decode cL_law 1814 = .ok (.iconst 3, 1) := lw_f6 (lw_at lw_e56 (j := 22) rfl)
theorem dL_law_1815 : decode cL_law 1815 = .ok (.iadd, 1) := lw_f96 (lw_at lw_e56 (j := 23) rfl)
theorem dL_law_1816 : decode cL_law 1816 = .ok (.iaload, 1) := lw_f46 (lw_at lw_e56 (j := 24) rfl)
theorem dL_law_1817 : decode cL_law 1817 = .ok (.invokevirtual 173, 3) := lw_f182 (lw_at lw_e56 (j := 25) rfl) (lw_at lw_e56 (j := 26) rfl) (lw_at lw_e56 (j := 27) rfl) rfl
theorem dL_law_1820 : decode cL_law 1820 = .ok (.pop2, 1) := lw_f88 (lw_at lw_e56 (j := 28) rfl)
theorem dL_law_1821 : decode cL_law 1821 = .ok (.goto 184, 3) := lw_f167 (lw_at lw_e56 (j := 29) rfl) (lw_at lw_e56 (j := 30) rfl) (lw_at lw_e56 (j := 31) rfl) (by decide)
theorem wk_1380 : Cond.methodLink RL 170 yX11_next ∈ tl_L := List.mem_filter.mpr ⟨lw_m5 (i := 201) rfl, rfl⟩
theorem wk_1381 : Cond.instanceMethod yX11_next ∈ tl_L := List.mem_filter.mpr ⟨lw_m5 (i := 202) rfl, rfl⟩
theorem wk_1382 : Cond.selects RX11 yX11_next yX11_next ∈ tl_L := List.mem_filter.mpr ⟨lw_m5 (i := 203) rfl, rfl⟩
theorem wk_1383 : Cond.code yX11_next cX11_next 12 (some .long) ∈ tl_L := List.mem_filter.mpr ⟨lw_m5 (i := 204) rfl, rfl⟩
theorem wk_1401 : Cond.methodLink RL 173 yX12_next ∈ tl_L := List.mem_filter.mpr ⟨lw_m9 (i := 1) rfl, rfl⟩
theorem wk_1402 : Cond.instanceMethod yX12_next ∈ tl_L := List.mem_filter.mpr ⟨lw_m9 (i := 2) rfl, rfl⟩
theorem wk_1403 : Cond.selects RX12 yX12_next yX12_next ∈ tl_L := List.mem_filter.mpr ⟨lw_m9 (i := 3) rfl, rfl⟩
theorem wk_1404 : Cond.code yX12_next cX12_next 13 (some .long) ∈ tl_L := List.mem_filter.mpr ⟨lw_m9 (i := 4) rfl, rfl⟩
theorem lk_L_170 : tl_kV RL 170 RX11 yX11_next cX11_next 12 (some .long) 3 := ⟨wk_1383, wk_1380, wk_1381, wk_1382, wk_2, ⟨by decide +kernel, by decide +kernel, by decide +kernel⟩⟩
theorem lk_L_173 : tl_kV RL 173 RX12 yX12_next cX12_next 13 (some .long) 3 := ⟨wk_1404, wk_1401, wk_1402, wk_1403, wk_5, ⟨by decide +kernel, by decide +kernel, by decide +kernel⟩⟩
theorem dL_law_1824 : decode cL_law 1824 = .ok (.aload_n 1, 1) := lw_f43 (lw_at lw_e57 (j := 0) rfl)
theorem dL_law_1825 : decode cL_law 1825 = .ok (.aload_n 0, 1) := lw_f42 (lw_at lw_e57 (j := 1) rfl)
theorem dL_law_1826 : decode cL_law 1826 = .ok (.iload_n 3, 1) := lw_f29 (lw_at lw_e57 (j := 2) rfl)
theorem dL_law_1827 : decode cL_law 1827 = .ok (.iconst 1, 1) := lw_f4 (lw_at lw_e57 (j := 3) rfl)
theorem dL_law_1828 : decode cL_law 1828 = .ok (.iadd, 1) := lw_f96 (lw_at lw_e57 (j := 4) rfl)
theorem dL_law_1829 : decode cL_law 1829 = .ok (.iaload, 1) := lw_f46 (lw_at lw_e57 (j := 5) rfl)
theorem dL_law_1830 : decode cL_law 1830 = .ok (.aload_n 0, 1) := lw_f42 (lw_at lw_e57 (j := 6) rfl)
theorem dL_law_1831 : decode cL_law 1831 = .ok (.iload_n 3, 1) := lw_f29 (lw_at lw_e57 (j := 7) rfl)
theorem dL_law_1832 : decode cL_law 1832 = .ok (.iconst 2, 1) := lw_f5 (lw_at lw_e57 (j := 8) rfl)
theorem dL_law_1833 : decode cL_law 1833 = .ok (.iadd, 1) := lw_f96 (lw_at lw_e57 (j := 9) rfl)
theorem dL_law_1834 : decode cL_law 1834 = .ok (.iaload, 1) := lw_f46 (lw_at lw_e57 (j := 10) rfl)
theorem dL_law_1835 : decode cL_law 1835 = .ok (.invokevirtual 174, 3) := lw_f182 (lw_at lw_e57 (j := 11) rfl) (lw_at lw_e57 (j := 12) rfl) (lw_at lw_e57 (j := 13) rfl) rfl
theorem dL_law_1838 : decode cL_law 1838 = .ok (.pop, 1) := lw_f87 (lw_at lw_e57 (j := 14) rfl)
theorem dL_law_1839 : decode cL_law 1839 = .ok (.aload_n 2, 1) := lw_f44 (lw_at lw_e57 (j := 15) rfl)
theorem dL_law_1840 : decode cL_law 1840 = .ok (.aload_n 0, 1) := lw_f42 (lw_at lw_e57 (j := 16) rfl)
theorem dL_law_1841 : decode cL_law 1841 = .ok (.iload_n 3, 1) := lw_f29 (lw_at lw_e57 (j := 17) rfl)
theorem dL_law_1842 : decode cL_law 1842 = .ok (.iconst 1, 1) := lw_f4 (lw_at lw_e57 (j := 18) rfl)
theorem dL_law_1843 : decode cL_law 1843 = .ok (.iadd, 1) := lw_f96 (lw_at lw_e57 (j := 19) rfl)
theorem dL_law_1844 : decode cL_law 1844 = .ok (.iaload, 1) := lw_f46 (lw_at lw_e57 (j := 20) rfl)
theorem dL_law_1845 : decode cL_law 1845 = .ok (.aload_n 0, 1) := lw_f42 (lw_at lw_e57 (j := 21) rfl)
theorem dL_law_1846 : decode cL_law 1846 = .ok (.iload_n 3, 1) := lw_f29 (lw_at lw_e57 (j := 22) rfl)
theorem dL_law_1847 : decode cL_law 1847 = .ok (.iconst 2, 1) := lw_f5 (lw_at lw_e57 (j := 23) rfl)
theorem dL_law_1848 : decode cL_law 1848 = .ok (.iadd, 1) := lw_f96 (lw_at lw_e57 (j := 24) rfl)
theorem dL_law_1849 : decode cL_law 1849 = .ok (.iaload, 1) := lw_f46 (lw_at lw_e57 (j := 25) rfl)
theorem dL_law_1850 : decode cL_law 1850 = .ok (.invokevirtual 177, 3) := lw_f182 (lw_at lw_e57 (j := 26) rfl) (lw_at lw_e57 (j := 27) rfl) (lw_at lw_e57 (j := 28) rfl) rfl
theorem dL_law_1853 : decode cL_law 1853 = .ok (.pop, 1) := lw_f87 (lw_at lw_e57 (j := 29) rfl)
theorem dL_law_1854 : decode cL_law 1854 = .ok (.goto 151, 3) := lw_f167 (lw_at lw_e57 (j := 30) rfl) (lw_at lw_e57 (j := 31) rfl) (lw_at lw_e58 (j := 0) rfl) (by decide)
theorem wk_1414 : Cond.methodLink RL 174 yX11_told ∈ tl_L := List.mem_filter.mpr ⟨lw_m5 (i := 222) rfl, rfl⟩
theorem wk_1415 : Cond.instanceMethod yX11_told ∈ tl_L := List.mem_filter.mpr ⟨lw_m5 (i := 223) rfl, rfl⟩
theorem wk_1416 : Cond.selects RX11 yX11_told yX11_told ∈ tl_L := List.mem_filter.mpr ⟨lw_m5 (i := 224) rfl, rfl⟩
theorem wk_1417 : Cond.code yX11_told cX11_told 4 (some .int) ∈ tl_L := List.mem_filter.mpr ⟨lw_m5 (i := 225) rfl, rfl⟩
theorem wk_1418 : Cond.methodLink RL 177 yX12_told ∈ tl_L := List.mem_filter.mpr ⟨lw_m9 (i := 14) rfl, rfl⟩
theorem wk_1419 : Cond.instanceMethod yX12_told ∈ tl_L := List.mem_filter.mpr ⟨lw_m9 (i := 15) rfl, rfl⟩
theorem wk_1420 : Cond.selects RX12 yX12_told yX12_told ∈ tl_L := List.mem_filter.mpr ⟨lw_m9 (i := 16) rfl, rfl⟩
theorem wk_1421 : Cond.code yX12_told cX12_told 4 (some .int) ∈ tl_L := List.mem_filter.mpr ⟨lw_m9 (i := 17) rfl, rfl⟩
theorem lk_L_174 : tl_kV RL 174 RX11 yX11_told cX11_told 4 (some .int) 2 := ⟨wk_1417, wk_1414, wk_1415, wk_1416, wk_2, ⟨by decide +kernel, by decide +kernel, by decide +kernel⟩⟩
theorem lk_L_177 : tl_kV RL 177 RX12 yX12_told cX12_told 4 (some .int) 2 := ⟨wk_1421, wk_1418, wk_1419, wk_1420, wk_5, ⟨by decide +kernel, by decide +kernel, by decide +kernel⟩⟩
theorem dL_law_1857 : decode cL_law 1857 = .ok (.aload_n 1, 1) := lw_f43 (lw_at lw_e58 (j := 1) rfl)
theorem dL_law_1858 : decode cL_law 1858 = .ok (.aload_n 0, 1) := lw_f42 (lw_at lw_e58 (j := 2) rfl)
theorem dL_law_1859 : decode cL_law 1859 = .ok (.iload_n 3, 1) := lw_f29 (lw_at lw_e58 (j := 3) rfl)
theorem dL_law_1860 : decode cL_law 1860 = .ok (.iconst 1, 1) := lw_f4 (lw_at lw_e58 (j := 4) rfl)
theorem dL_law_1861 : decode cL_law 1861 = .ok (.iadd, 1) := lw_f96 (lw_at lw_e58 (j := 5) rfl)
theorem dL_law_1862 : decode cL_law 1862 = .ok (.iaload, 1) := lw_f46 (lw_at lw_e58 (j := 6) rfl)
theorem dL_law_1863 : decode cL_law 1863 = .ok (.invokevirtual 178, 3) := lw_f182 (lw_at lw_e58 (j := 7) rfl) (lw_at lw_e58 (j := 8) rfl) (lw_at lw_e58 (j := 9) rfl) rfl
theorem dL_law_1866 : decode cL_law 1866 = .ok (.pop, 1) := lw_f87 (lw_at lw_e58 (j := 10) rfl)
theorem dL_law_1867 : decode cL_law 1867 = .ok (.aload_n 2, 1) := lw_f44 (lw_at lw_e58 (j := 11) rfl)
theorem dL_law_1868 : decode cL_law 1868 = .ok (.aload_n 0, 1) := lw_f42 (lw_at lw_e58 (j := 12) rfl)
theorem dL_law_1869 : decode cL_law 1869 = .ok (.iload_n 3, 1) := lw_f29 (lw_at lw_e58 (j := 13) rfl)
theorem dL_law_1870 : decode cL_law 1870 = .ok (.iconst 1, 1) := lw_f4 (lw_at lw_e58 (j := 14) rfl)
theorem dL_law_1871 : decode cL_law 1871 = .ok (.iadd, 1) := lw_f96 (lw_at lw_e58 (j := 15) rfl)
theorem dL_law_1872 : decode cL_law 1872 = .ok (.iaload, 1) := lw_f46 (lw_at lw_e58 (j := 16) rfl)
theorem dL_law_1873 : decode cL_law 1873 = .ok (.invokevirtual 181, 3) := lw_f182 (lw_at lw_e58 (j := 17) rfl) (lw_at lw_e58 (j := 18) rfl) (lw_at lw_e58 (j := 19) rfl) rfl
theorem dL_law_1876 : decode cL_law 1876 = .ok (.pop, 1) := lw_f87 (lw_at lw_e58 (j := 20) rfl)
theorem dL_law_1877 : decode cL_law 1877 = .ok (.goto 128, 3) := lw_f167 (lw_at lw_e58 (j := 21) rfl) (lw_at lw_e58 (j := 22) rfl) (lw_at lw_e58 (j := 23) rfl) (by decide)
theorem wk_1422 : Cond.methodLink RL 178 yX11_gives ∈ tl_L := List.mem_filter.mpr ⟨lw_m5 (i := 226) rfl, rfl⟩
theorem wk_1423 : Cond.instanceMethod yX11_gives ∈ tl_L := List.mem_filter.mpr ⟨lw_m5 (i := 227) rfl, rfl⟩
theorem wk_1424 : Cond.selects RX11 yX11_gives yX11_gives ∈ tl_L := List.mem_filter.mpr ⟨lw_m5 (i := 228) rfl, rfl⟩
theorem wk_1425 : Cond.code yX11_gives cX11_gives 3 (some .int) ∈ tl_L := List.mem_filter.mpr ⟨lw_m5 (i := 229) rfl, rfl⟩
theorem wk_1435 : Cond.methodLink RL 181 yX12_gives ∈ tl_L := List.mem_filter.mpr ⟨lw_m9 (i := 18) rfl, rfl⟩
theorem wk_1436 : Cond.instanceMethod yX12_gives ∈ tl_L := List.mem_filter.mpr ⟨lw_m9 (i := 19) rfl, rfl⟩
theorem wk_1437 : Cond.selects RX12 yX12_gives yX12_gives ∈ tl_L := List.mem_filter.mpr ⟨lw_m9 (i := 20) rfl, rfl⟩
theorem wk_1438 : Cond.code yX12_gives cX12_gives 2 (some .int) ∈ tl_L := List.mem_filter.mpr ⟨lw_m9 (i := 21) rfl, rfl⟩
theorem lk_L_178 : tl_kV RL 178 RX11 yX11_gives cX11_gives 3 (some .int) 1 := ⟨wk_1425, wk_1422, wk_1423, wk_1424, wk_2, ⟨by decide +kernel, by decide +kernel, by decide +kernel⟩⟩
theorem lk_L_181 : tl_kV RL 181 RX12 yX12_gives cX12_gives 2 (some .int) 1 := ⟨wk_1438, wk_1435, wk_1436, wk_1437, wk_5, ⟨by decide +kernel, by decide +kernel, by decide +kernel⟩⟩
theorem dL_law_1880 : decode cL_law 1880 = .ok (.aload_n 1, 1) := lw_f43 (lw_at lw_e58 (j := 24) rfl)
theorem dL_law_1881 : decode cL_law 1881 = .ok (.aload_n 0, 1) := lw_f42 (lw_at lw_e58 (j := 25) rfl)
theorem dL_law_1882 : decode cL_law 1882 = .ok (.iload_n 3, 1) := lw_f29 (lw_at lw_e58 (j := 26) rfl)
theorem dL_law_1883 : decode cL_law 1883 = .ok (.iconst 1, 1) := lw_f4 (lw_at lw_e58 (j := 27) rfl)
theorem dL_law_1884 : decode cL_law 1884 = .ok (.iadd, 1) := lw_f96 (lw_at lw_e58 (j := 28) rfl)
theorem dL_law_1885 : decode cL_law 1885 = .ok (.iaload, 1) := lw_f46 (lw_at lw_e58 (j := 29) rfl)
theorem dL_law_1886 : decode cL_law 1886 = .ok (.invokevirtual 182, 3) := lw_f182 (lw_at lw_e58 (j := 30) rfl) (lw_at lw_e58 (j := 31) rfl) (lw_at lw_e59 (j := 0) rfl) rfl
theorem dL_law_1889 : decode cL_law 1889 = .ok (.pop, 1) := lw_f87 (lw_at lw_e59 (j := 1) rfl)
theorem dL_law_1890 : decode cL_law 1890 = .ok (.aload_n 2, 1) := lw_f44 (lw_at lw_e59 (j := 2) rfl)
theorem dL_law_1891 : decode cL_law 1891 = .ok (.aload_n 0, 1) := lw_f42 (lw_at lw_e59 (j := 3) rfl)
theorem dL_law_1892 : decode cL_law 1892 = .ok (.iload_n 3, 1) := lw_f29 (lw_at lw_e59 (j := 4) rfl)
theorem dL_law_1893 : decode cL_law 1893 = .ok (.iconst 1, 1) := lw_f4 (lw_at lw_e59 (j := 5) rfl)
theorem dL_law_1894 : decode cL_law 1894 = .ok (.iadd, 1) := lw_f96 (lw_at lw_e59 (j := 6) rfl)
theorem dL_law_1895 : decode cL_law 1895 = .ok (.iaload, 1) := lw_f46 (lw_at lw_e59 (j := 7) rfl)
theorem dL_law_1896 : decode cL_law 1896 = .ok (.invokevirtual 185, 3) := lw_f182 (lw_at lw_e59 (j := 8) rfl) (lw_at lw_e59 (j := 9) rfl) (lw_at lw_e59 (j := 10) rfl) rfl
theorem dL_law_1899 : decode cL_law 1899 = .ok (.pop, 1) := lw_f87 (lw_at lw_e59 (j := 11) rfl)
theorem dL_law_1900 : decode cL_law 1900 = .ok (.goto 105, 3) := lw_f167 (lw_at lw_e59 (j := 12) rfl) (lw_at lw_e59 (j := 13) rfl) (lw_at lw_e59 (j := 14) rfl) (by decide)
theorem wk_1444 : Cond.methodLink RL 182 yX11_brief ∈ tl_L := List.mem_filter.mpr ⟨lw_m6 (i := 2) rfl, rfl⟩
theorem wk_1445 : Cond.instanceMethod yX11_brief ∈ tl_L := List.mem_filter.mpr ⟨lw_m6 (i := 3) rfl, rfl⟩
theorem wk_1446 : Cond.selects RX11 yX11_brief yX11_brief ∈ tl_L := List.mem_filter.mpr ⟨lw_m6 (i := 4) rfl, rfl⟩
theorem wk_1447 : Cond.code yX11_brief cX11_brief 2 (some .int) ∈ tl_L := List.mem_filter.mpr ⟨lw_m6 (i := 5) rfl, rfl⟩
theorem wk_1456 : Cond.methodLink RL 185 yX12_brief ∈ tl_L := List.mem_filter.mpr ⟨lw_m9 (i := 27) rfl, rfl⟩
theorem wk_1457 : Cond.instanceMethod yX12_brief ∈ tl_L := List.mem_filter.mpr ⟨lw_m9 (i := 28) rfl, rfl⟩
theorem wk_1458 : Cond.selects RX12 yX12_brief yX12_brief ∈ tl_L := List.mem_filter.mpr ⟨lw_m9 (i := 29) rfl, rfl⟩
theorem wk_1459 : Cond.code yX12_brief cX12_brief 3 (some .int) ∈ tl_L := List.mem_filter.mpr ⟨lw_m9 (i := 30) rfl, rfl⟩
theorem lk_L_182 : tl_kV RL 182 RX11 yX11_brief cX11_brief 2 (some .int) 1 := ⟨wk_1447, wk_1444, wk_1445, wk_1446, wk_2, ⟨by decide +kernel, by decide +kernel, by decide +kernel⟩⟩
theorem lk_L_185 : tl_kV RL 185 RX12 yX12_brief cX12_brief 3 (some .int) 1 := ⟨wk_1459, wk_1456, wk_1457, wk_1458, wk_5, ⟨by decide +kernel, by decide +kernel, by decide +kernel⟩⟩
theorem dL_law_1903 : decode cL_law 1903 = .ok (.aload_n 1, 1) := lw_f43 (lw_at lw_e59 (j := 15) rfl)
theorem dL_law_1904 : decode cL_law 1904 = .ok (.aload_n 0, 1) := lw_f42 (lw_at lw_e59 (j := 16) rfl)
theorem dL_law_1905 : decode cL_law 1905 = .ok (.iload_n 3, 1) := lw_f29 (lw_at lw_e59 (j := 17) rfl)
theorem dL_law_1906 : decode cL_law 1906 = .ok (.iconst 1, 1) := lw_f4 (lw_at lw_e59 (j := 18) rfl)
theorem dL_law_1907 : decode cL_law 1907 = .ok (.iadd, 1) := lw_f96 (lw_at lw_e59 (j := 19) rfl)
theorem dL_law_1908 : decode cL_law 1908 = .ok (.iaload, 1) := lw_f46 (lw_at lw_e59 (j := 20) rfl)
theorem dL_law_1909 : decode cL_law 1909 = .ok (.aload_n 0, 1) := lw_f42 (lw_at lw_e59 (j := 21) rfl)
theorem dL_law_1910 : decode cL_law 1910 = .ok (.iload_n 3, 1) := lw_f29 (lw_at lw_e59 (j := 22) rfl)
theorem dL_law_1911 : decode cL_law 1911 = .ok (.iconst 2, 1) := lw_f5 (lw_at lw_e59 (j := 23) rfl)
theorem dL_law_1912 : decode cL_law 1912 = .ok (.iadd, 1) := lw_f96 (lw_at lw_e59 (j := 24) rfl)
theorem dL_law_1913 : decode cL_law 1913 = .ok (.iaload, 1) := lw_f46 (lw_at lw_e59 (j := 25) rfl)
theorem dL_law_1914 : decode cL_law 1914 = .ok (.invokevirtual 186, 3) := lw_f182 (lw_at lw_e59 (j := 26) rfl) (lw_at lw_e59 (j := 27) rfl) (lw_at lw_e59 (j := 28) rfl) rfl
theorem dL_law_1917 : decode cL_law 1917 = .ok (.pop, 1) := lw_f87 (lw_at lw_e59 (j := 29) rfl)
theorem dL_law_1918 : decode cL_law 1918 = .ok (.aload_n 2, 1) := lw_f44 (lw_at lw_e59 (j := 30) rfl)
theorem dL_law_1919 : decode cL_law 1919 = .ok (.aload_n 0, 1) := lw_f42 (lw_at lw_e59 (j := 31) rfl)
theorem dL_law_1920 : decode cL_law 1920 = .ok (.iload_n 3, 1) := lw_f29 (lw_at lw_e60 (j := 0) rfl)
theorem dL_law_1921 : decode cL_law 1921 = .ok (.iconst 1, 1) := lw_f4 (lw_at lw_e60 (j := 1) rfl)
theorem dL_law_1922 : decode cL_law 1922 = .ok (.iadd, 1) := lw_f96 (lw_at lw_e60 (j := 2) rfl)
theorem dL_law_1923 : decode cL_law 1923 = .ok (.iaload, 1) := lw_f46 (lw_at lw_e60 (j := 3) rfl)
theorem dL_law_1924 : decode cL_law 1924 = .ok (.aload_n 0, 1) := lw_f42 (lw_at lw_e60 (j := 4) rfl)
theorem dL_law_1925 : decode cL_law 1925 = .ok (.iload_n 3, 1) := lw_f29 (lw_at lw_e60 (j := 5) rfl)
theorem dL_law_1926 : decode cL_law 1926 = .ok (.iconst 2, 1) := lw_f5 (lw_at lw_e60 (j := 6) rfl)
theorem dL_law_1927 : decode cL_law 1927 = .ok (.iadd, 1) := lw_f96 (lw_at lw_e60 (j := 7) rfl)
theorem dL_law_1928 : decode cL_law 1928 = .ok (.iaload, 1) := lw_f46 (lw_at lw_e60 (j := 8) rfl)
theorem dL_law_1929 : decode cL_law 1929 = .ok (.invokevirtual 189, 3) := lw_f182 (lw_at lw_e60 (j := 9) rfl) (lw_at lw_e60 (j := 10) rfl) (lw_at lw_e60 (j := 11) rfl) rfl
theorem dL_law_1932 : decode cL_law 1932 = .ok (.pop, 1) := lw_f87 (lw_at lw_e60 (j := 12) rfl)
theorem dL_law_1933 : decode cL_law 1933 = .ok (.goto 72, 3) := lw_f167 (lw_at lw_e60 (j := 13) rfl) (lw_at lw_e60 (j := 14) rfl) (lw_at lw_e60 (j := 15) rfl) (by decide)
theorem wk_1465 : Cond.methodLink RL 186 yX11_fewest ∈ tl_L := List.mem_filter.mpr ⟨lw_m6 (i := 14) rfl, rfl⟩
theorem wk_1466 : Cond.instanceMethod yX11_fewest ∈ tl_L := List.mem_filter.mpr ⟨lw_m6 (i := 15) rfl, rfl⟩
theorem wk_1467 : Cond.selects RX11 yX11_fewest yX11_fewest ∈ tl_L := List.mem_filter.mpr ⟨lw_m6 (i := 16) rfl, rfl⟩
theorem wk_1468 : Cond.code yX11_fewest cX11_fewest 12 (some .int) ∈ tl_L := List.mem_filter.mpr ⟨lw_m6 (i := 17) rfl, rfl⟩
theorem wk_1480 : Cond.methodLink RL 189 yX12_fewest ∈ tl_L := List.mem_filter.mpr ⟨lw_m9 (i := 36) rfl, rfl⟩
theorem wk_1481 : Cond.instanceMethod yX12_fewest ∈ tl_L := List.mem_filter.mpr ⟨lw_m9 (i := 37) rfl, rfl⟩
theorem wk_1482 : Cond.selects RX12 yX12_fewest yX12_fewest ∈ tl_L := List.mem_filter.mpr ⟨lw_m9 (i := 38) rfl, rfl⟩
theorem wk_1483 : Cond.code yX12_fewest cX12_fewest 7 (some .int) ∈ tl_L := List.mem_filter.mpr ⟨lw_m9 (i := 39) rfl, rfl⟩
theorem lk_L_186 : tl_kV RL 186 RX11 yX11_fewest cX11_fewest 12 (some .int) 2 := ⟨wk_1468, wk_1465, wk_1466, wk_1467, wk_2, ⟨by decide +kernel, by decide +kernel, by decide +kernel⟩⟩
theorem lk_L_189 : tl_kV RL 189 RX12 yX12_fewest cX12_fewest 7 (some .int) 2 := ⟨wk_1483, wk_1480, wk_1481, wk_1482, wk_5, ⟨by decide +kernel, by decide +kernel, by decide +kernel⟩⟩
theorem dL_law_1936 : decode cL_law 1936 = .ok (.aload_n 1, 1) := lw_f43 (lw_at lw_e60 (j := 16) rfl)
theorem dL_law_1937 : decode cL_law 1937 = .ok (.aload_n 0, 1) := lw_f42 (lw_at lw_e60 (j := 17) rfl)
theorem dL_law_1938 : decode cL_law 1938 = .ok (.iload_n 3, 1) := lw_f29 (lw_at lw_e60 (j := 18) rfl)
theorem dL_law_1939 : decode cL_law 1939 = .ok (.iconst 1, 1) := lw_f4 (lw_at lw_e60 (j := 19) rfl)
theorem dL_law_1940 : decode cL_law 1940 = .ok (.iadd, 1) := lw_f96 (lw_at lw_e60 (j := 20) rfl)
theorem dL_law_1941 : decode cL_law 1941 = .ok (.iaload, 1) := lw_f46 (lw_at lw_e60 (j := 21) rfl)
theorem dL_law_1942 : decode cL_law 1942 = .ok (.invokevirtual 190, 3) := lw_f182 (lw_at lw_e60 (j := 22) rfl) (lw_at lw_e60 (j := 23) rfl) (lw_at lw_e60 (j := 24) rfl) rfl
theorem dL_law_1945 : decode cL_law 1945 = .ok (.pop, 1) := lw_f87 (lw_at lw_e60 (j := 25) rfl)
theorem dL_law_1946 : decode cL_law 1946 = .ok (.aload_n 2, 1) := lw_f44 (lw_at lw_e60 (j := 26) rfl)
theorem dL_law_1947 : decode cL_law 1947 = .ok (.aload_n 0, 1) := lw_f42 (lw_at lw_e60 (j := 27) rfl)
theorem dL_law_1948 : decode cL_law 1948 = .ok (.iload_n 3, 1) := lw_f29 (lw_at lw_e60 (j := 28) rfl)
theorem dL_law_1949 : decode cL_law 1949 = .ok (.iconst 1, 1) := lw_f4 (lw_at lw_e60 (j := 29) rfl)
theorem dL_law_1950 : decode cL_law 1950 = .ok (.iadd, 1) := lw_f96 (lw_at lw_e60 (j := 30) rfl)
theorem dL_law_1951 : decode cL_law 1951 = .ok (.iaload, 1) := lw_f46 (lw_at lw_e60 (j := 31) rfl)
theorem dL_law_1952 : decode cL_law 1952 = .ok (.invokevirtual 193, 3) := lw_f182 (lw_at lw_e61 (j := 0) rfl) (lw_at lw_e61 (j := 1) rfl) (lw_at lw_e61 (j := 2) rfl) rfl
theorem dL_law_1955 : decode cL_law 1955 = .ok (.pop, 1) := lw_f87 (lw_at lw_e61 (j := 3) rfl)
theorem dL_law_1956 : decode cL_law 1956 = .ok (.goto 49, 3) := lw_f167 (lw_at lw_e61 (j := 4) rfl) (lw_at lw_e61 (j := 5) rfl) (lw_at lw_e61 (j := 6) rfl) (by decide)
theorem wk_1487 : Cond.methodLink RL 190 yX11_count ∈ tl_L := List.mem_filter.mpr ⟨lw_m6 (i := 28) rfl, rfl⟩
theorem wk_1488 : Cond.instanceMethod yX11_count ∈ tl_L := List.mem_filter.mpr ⟨lw_m6 (i := 29) rfl, rfl⟩
theorem wk_1489 : Cond.selects RX11 yX11_count yX11_count ∈ tl_L := List.mem_filter.mpr ⟨lw_m6 (i := 30) rfl, rfl⟩
theorem wk_1490 : Cond.code yX11_count cX11_count 2 (some .int) ∈ tl_L := List.mem_filter.mpr ⟨lw_m6 (i := 31) rfl, rfl⟩
theorem wk_1491 : Cond.methodLink RL 193 yX12_count ∈ tl_L := List.mem_filter.mpr ⟨lw_m9 (i := 43) rfl, rfl⟩
theorem wk_1492 : Cond.instanceMethod yX12_count ∈ tl_L := List.mem_filter.mpr ⟨lw_m9 (i := 44) rfl, rfl⟩
theorem wk_1493 : Cond.selects RX12 yX12_count yX12_count ∈ tl_L := List.mem_filter.mpr ⟨lw_m9 (i := 45) rfl, rfl⟩
theorem wk_1494 : Cond.code yX12_count cX12_count 4 (some .int) ∈ tl_L := List.mem_filter.mpr ⟨lw_m9 (i := 46) rfl, rfl⟩
theorem lk_L_190 : tl_kV RL 190 RX11 yX11_count cX11_count 2 (some .int) 1 := ⟨wk_1490, wk_1487, wk_1488, wk_1489, wk_2, ⟨by decide +kernel, by decide +kernel, by decide +kernel⟩⟩
theorem lk_L_193 : tl_kV RL 193 RX12 yX12_count cX12_count 4 (some .int) 1 := ⟨wk_1494, wk_1491, wk_1492, wk_1493, wk_5, ⟨by decide +kernel, by decide +kernel, by decide +kernel⟩⟩
theorem dL_law_1959 : decode cL_law 1959 = .ok (.aload_n 1, 1) := lw_f43 (lw_at lw_e61 (j := 7) rfl)
theorem dL_law_1960 : decode cL_law 1960 = .ok (.aload_n 0, 1) := lw_f42 (lw_at lw_e61 (j := 8) rfl)
theorem dL_law_1961 : decode cL_law 1961 = .ok (.iload_n 3, 1) := lw_f29 (lw_at lw_e61 (j := 9) rfl)
theorem dL_law_1962 : decode cL_law 1962 = .ok (.iconst 1, 1) := lw_f4 (lw_at lw_e61 (j := 10) rfl)
theorem dL_law_1963 : decode cL_law 1963 = .ok (.iadd, 1) := lw_f96 (lw_at lw_e61 (j := 11) rfl)
theorem dL_law_1964 : decode cL_law 1964 = .ok (.iaload, 1) := lw_f46 (lw_at lw_e61 (j := 12) rfl)
theorem dL_law_1965 : decode cL_law 1965 = .ok (.invokevirtual 194, 3) := lw_f182 (lw_at lw_e61 (j := 13) rfl) (lw_at lw_e61 (j := 14) rfl) (lw_at lw_e61 (j := 15) rfl) rfl
theorem dL_law_1968 : decode cL_law 1968 = .ok (.pop, 1) := lw_f87 (lw_at lw_e61 (j := 16) rfl)
theorem dL_law_1969 : decode cL_law 1969 = .ok (.aload_n 2, 1) := lw_f44 (lw_at lw_e61 (j := 17) rfl)
theorem dL_law_1970 : decode cL_law 1970 = .ok (.aload_n 0, 1) := lw_f42 (lw_at lw_e61 (j := 18) rfl)
theorem dL_law_1971 : decode cL_law 1971 = .ok (.iload_n 3, 1) := lw_f29 (lw_at lw_e61 (j := 19) rfl)
theorem dL_law_1972 : decode cL_law 1972 = .ok (.iconst 1, 1) := lw_f4 (lw_at lw_e61 (j := 20) rfl)
theorem dL_law_1973 : decode cL_law 1973 = .ok (.iadd, 1) := lw_f96 (lw_at lw_e61 (j := 21) rfl)
theorem dL_law_1974 : decode cL_law 1974 = .ok (.iaload, 1) := lw_f46 (lw_at lw_e61 (j := 22) rfl)
theorem dL_law_1975 : decode cL_law 1975 = .ok (.invokevirtual 197, 3) := lw_f182 (lw_at lw_e61 (j := 23) rfl) (lw_at lw_e61 (j := 24) rfl) (lw_at lw_e61 (j := 25) rfl) rfl
theorem dL_law_1978 : decode cL_law 1978 = .ok (.pop, 1) := lw_f87 (lw_at lw_e61 (j := 26) rfl)
theorem dL_law_1979 : decode cL_law 1979 = .ok (.goto 26, 3) := lw_f167 (lw_at lw_e61 (j := 27) rfl) (lw_at lw_e61 (j := 28) rfl) (lw_at lw_e61 (j := 29) rfl) (by decide)
theorem wk_1495 : Cond.methodLink RL 194 yX11_image ∈ tl_L := List.mem_filter.mpr ⟨lw_m6 (i := 32) rfl, rfl⟩
theorem wk_1496 : Cond.instanceMethod yX11_image ∈ tl_L := List.mem_filter.mpr ⟨lw_m6 (i := 33) rfl, rfl⟩
theorem wk_1497 : Cond.selects RX11 yX11_image yX11_image ∈ tl_L := List.mem_filter.mpr ⟨lw_m6 (i := 34) rfl, rfl⟩
theorem wk_1498 : Cond.code yX11_image cX11_image 2 (some .int) ∈ tl_L := List.mem_filter.mpr ⟨lw_m6 (i := 35) rfl, rfl⟩
theorem wk_1516 : Cond.methodLink RL 197 yX12_image ∈ tl_L := List.mem_filter.mpr ⟨lw_m9 (i := 47) rfl, rfl⟩
theorem wk_1517 : Cond.instanceMethod yX12_image ∈ tl_L := List.mem_filter.mpr ⟨lw_m9 (i := 48) rfl, rfl⟩
theorem wk_1518 : Cond.selects RX12 yX12_image yX12_image ∈ tl_L := List.mem_filter.mpr ⟨lw_m9 (i := 49) rfl, rfl⟩
theorem wk_1519 : Cond.code yX12_image cX12_image 3 (some .int) ∈ tl_L := List.mem_filter.mpr ⟨lw_m9 (i := 50) rfl, rfl⟩
theorem lk_L_194 : tl_kV RL 194 RX11 yX11_image cX11_image 2 (some .int) 1 := ⟨wk_1498, wk_1495, wk_1496, wk_1497, wk_2, ⟨by decide +kernel, by decide +kernel, by decide +kernel⟩⟩
theorem lk_L_197 : tl_kV RL 197 RX12 yX12_image cX12_image 3 (some .int) 1 := ⟨wk_1519, wk_1516, wk_1517, wk_1518, wk_5, ⟨by decide +kernel, by decide +kernel, by decide +kernel⟩⟩
theorem dL_law_1982 : decode cL_law 1982 = .ok (.aload_n 1, 1) := lw_f43 (lw_at lw_e61 (j := 30) rfl)
theorem dL_law_1983 : decode cL_law 1983 = .ok (.aload_n 0, 1) := lw_f42 (lw_at lw_e61 (j := 31) rfl)
theorem dL_law_1984 : decode cL_law 1984 = .ok (.iload_n 3, 1) := lw_f29 (lw_at lw_e62 (j := 0) rfl)
theorem dL_law_1985 : decode cL_law 1985 = .ok (.iconst 1, 1) := lw_f4 (lw_at lw_e62 (j := 1) rfl)
theorem dL_law_1986 : decode cL_law 1986 = .ok (.iadd, 1) := lw_f96 (lw_at lw_e62 (j := 2) rfl)
theorem dL_law_1987 : decode cL_law 1987 = .ok (.iaload, 1) := lw_f46 (lw_at lw_e62 (j := 3) rfl)
theorem dL_law_1988 : decode cL_law 1988 = .ok (.invokevirtual 198, 3) := lw_f182 (lw_at lw_e62 (j := 4) rfl) (lw_at lw_e62 (j := 5) rfl) (lw_at lw_e62 (j := 6) rfl) rfl
theorem dL_law_1991 : decode cL_law 1991 = .ok (.aload_n 2, 1) := lw_f44 (lw_at lw_e62 (j := 7) rfl)
theorem dL_law_1992 : decode cL_law 1992 = .ok (.aload_n 0, 1) := lw_f42 (lw_at lw_e62 (j := 8) rfl)
theorem dL_law_1993 : decode cL_law 1993 = .ok (.iload_n 3, 1) := lw_f29 (lw_at lw_e62 (j := 9) rfl)
theorem dL_law_1994 : decode cL_law 1994 = .ok (.iconst 1, 1) := lw_f4 (lw_at lw_e62 (j := 10) rfl)
theorem dL_law_1995 : decode cL_law 1995 = .ok (.iadd, 1) := lw_f96 (lw_at lw_e62 (j := 11) rfl)
theorem dL_law_1996 : decode cL_law 1996 = .ok (.iaload, 1) := lw_f46 (lw_at lw_e62 (j := 12) rfl)
theorem dL_law_1997 : decode cL_law 1997 = .ok (.invokevirtual 201, 3) := lw_f182 (lw_at lw_e62 (j := 13) rfl) (lw_at lw_e62 (j := 14) rfl) (lw_at lw_e62 (j := 15) rfl) rfl
theorem dL_law_2000 : decode cL_law 2000 = .ok (.if_icmp .eq 5, 3) := by decide +kernel
theorem wk_1520 : Cond.methodLink RL 198 yX11_back ∈ tl_L := List.mem_filter.mpr ⟨lw_m6 (i := 54) rfl, rfl⟩
theorem wk_1521 : Cond.instanceMethod yX11_back ∈ tl_L := List.mem_filter.mpr ⟨lw_m6 (i := 55) rfl, rfl⟩
theorem wk_1522 : Cond.selects RX11 yX11_back yX11_back ∈ tl_L := List.mem_filter.mpr ⟨lw_m6 (i := 56) rfl, rfl⟩
theorem wk_1523 : Cond.code yX11_back cX11_back 2 (some .int) ∈ tl_L := List.mem_filter.mpr ⟨lw_m6 (i := 57) rfl, rfl⟩
theorem wk_1524 : Cond.methodLink RL 201 yX12_back ∈ tl_L := List.mem_filter.mpr ⟨lw_m9 (i := 51) rfl, rfl⟩
theorem wk_1525 : Cond.instanceMethod yX12_back ∈ tl_L := List.mem_filter.mpr ⟨lw_m9 (i := 52) rfl, rfl⟩
theorem wk_1526 : Cond.selects RX12 yX12_back yX12_back ∈ tl_L := List.mem_filter.mpr ⟨lw_m9 (i := 53) rfl, rfl⟩
theorem wk_1527 : Cond.code yX12_back cX12_back 3 (some .int) ∈ tl_L := List.mem_filter.mpr ⟨lw_m9 (i := 54) rfl, rfl⟩
theorem lk_L_198 : tl_kV RL 198 RX11 yX11_back cX11_back 2 (some .int) 1 := ⟨wk_1523, wk_1520, wk_1521, wk_1522, wk_2, ⟨by decide +kernel, by decide +kernel, by decide +kernel⟩⟩
theorem lk_L_201 : tl_kV RL 201 RX12 yX12_back cX12_back 3 (some .int) 1 := ⟨wk_1527, wk_1524, wk_1525, wk_1526, wk_5, ⟨by decide +kernel, by decide +kernel, by decide +kernel⟩⟩
set_option maxHeartbeats 4000000 in
set_option maxRecDepth 100000 in
theorem tl_law_30 {p : Program} {e : Env} {s : State} {m : MethodId} {below : List Frame} {meth : Method} {c : Code} (l : Launch) {b N : Nat} {xs : Nat → Int32} (C0 : lw_At p s m meth c b N xs) (D : va_G) (cy : Nat → ClassId) (hK : va_K D vwCl (tl_T cy) s) (hN : tl_ok s) (Z : ts_Y) {A : Nat → Prop} (hAe : A = fun q : Nat => s.heap.size ≤ q) (hZ : ts_Z A Z s s.heap) (xq mq : Nat) (i : Int32) (hi : 0 ≤ i.toInt ∧ i.toInt + 7 ≤ N ∧ N ≤ 3584) {cells slots : Nat} (hcs : cells + 41 ≤ 600000 ∧ slots + 8199 ≤ 7302249) {L : List Nat} {K : Nat → tk_K} {Γ : tk_G} {f : Nat → va_E} {H : Heap} {locs : List Loc} {ls : Array Slot} (S : lq_S D cy A s L K Γ f H locs xq mq) (hl : lv_has ls 4 [(3, .int i), (2, .ref mq), (1, .ref xq), (0, .ref b)]) (kk : ∀ (L : List Nat) (K : Nat → tk_K) (Γ : tk_G) (f : Nat → va_E) (H : Heap) (locs : List Loc) (ls : Array Slot), lq_S D cy A s L K Γ f H locs xq mq → lv_has ls 4 [(3, .int i), (2, .ref mq), (1, .ref xq), (0, .ref b)] → W p l e room_1 s m #[Value.ref b] below meth c H locs (cells + 41) (slots + 8199) (lw_Z below #[Value.ref b] s) (F0 m 2005 ls [])) : W p l e room_1 s m #[Value.ref b] below meth c H locs cells slots (lw_Z below #[Value.ref b] s) (F0 m 1550 ls []) := by
  obtain ⟨hx, hb, hr, hml, hown, hts, hX, hbl, hlocks, hgv⟩ := id C0
  obtain ⟨hP, hI, hL, hU, hAL, hS, hxq, hmq, hlq, hfree⟩ := S
  have hta : ∀ w ∈ tl_L, w.before #[Value.ref b] s = true := fun w h => hts w (List.mem_filter.mp h).1
  have hA : ∀ q : Nat, s.heap.size ≤ q → A q := fun q h => by rw [hAe]; exact h
  have hbA : ¬ A b := by rw [hAe]; exact Nat.not_le.mpr hbl
  have hAf : ∀ (H : Heap), s.heap.size ≤ H.size → ∀ q, tp_A L H.size q → A q := fun H h q hq => hq.elim (hAL q) (fun h2 => hA q (Nat.le_trans h h2))
  have hRc : room_1.cells = 600000 := rfl
  have hRs : room_1.slots = 7302249 := rfl
  have hI0 := hI
  have hD : va_D A (va_pl L f) := tp_D hL hAL
  have htx := hlq.2.2.2.2.1
  have hsd := hlq.2.2.1
  have hs := ts_hs hsd
  have hraw := ts_raw hsd
  have hslp := ts_slp hsd
  have hdp := ts_dp hsd
  have hm0 := hlq.2.2.2.2.2
  have hIM : Γ (12, 4, 0) = Γ (12, 4, 0) := rfl
  refine lv_aload_n hx hb dL_law_1550 rfl (lv_at hl 2 rfl) ?_
  refine lv_aload_n hx hb dL_law_1551 rfl (lv_at hl 3 rfl) ?_
  refine lv_iload_n hx hb dL_law_1552 rfl (lv_at hl 0 rfl) ?_
  refine lv_iconst (v := 1) hx hb dL_law_1553 (by decide) ?_
  refine lv_iadd hx hb dL_law_1554 ?_
  refine lv_topi (fun z_1 ez_1 => ?_)
  try have iz_1 : z_1.toInt = i.toInt + (1 : Int) := by rw [ez_1]; exact tl_addN i 1 rfl rfl (by omega) (by omega)
  refine va_sld hx hb hX hbl hbA hS (tl_in (by omega) (by omega)) dL_law_1555 ?_
  refine lv_topi (fun z_2 ez_2 => ?_)
  refine lv_aload_n hx hb dL_law_1556 rfl (lv_at hl 3 rfl) ?_
  refine lv_iload_n hx hb dL_law_1557 rfl (lv_at hl 0 rfl) ?_
  refine lv_iconst (v := 2) hx hb dL_law_1558 (by decide) ?_
  refine lv_iadd hx hb dL_law_1559 ?_
  refine lv_topi (fun z_3 ez_3 => ?_)
  try have iz_3 : z_3.toInt = i.toInt + (2 : Int) := by rw [ez_3]; exact tl_addN i 2 rfl rfl (by omega) (by omega)
  refine va_sld hx hb hX hbl hbA hS (tl_in (by omega) (by omega)) dL_law_1560 ?_
  refine lv_topi (fun z_4 ez_4 => ?_)
  refine lv_aload_n hx hb dL_law_1561 rfl (lv_at hl 3 rfl) ?_
  refine lv_iload_n hx hb dL_law_1562 rfl (lv_at hl 0 rfl) ?_
  refine lv_iconst (v := 3) hx hb dL_law_1563 (by decide) ?_
  refine lv_iadd hx hb dL_law_1564 ?_
  refine lv_topi (fun z_5 ez_5 => ?_)
  try have iz_5 : z_5.toInt = i.toInt + (3 : Int) := by rw [ez_5]; exact tl_addN i 3 rfl rfl (by omega) (by omega)
  refine va_sld hx hb hX hbl hbA hS (tl_in (by omega) (by omega)) dL_law_1565 ?_
  refine lv_topi (fun z_6 ez_6 => ?_)
  obtain ⟨x_8, x_9, x_10, x_11, x_12, x_13, x_14, x_15, x_16, x_17, x_18, x_19, x_20, x_21, x_22, x_23, hf_7, hx_8, hx_9, hx_10, hx_11, hx_12, hx_13, hx_14, hx_15, hx_16, hx_17, hx_18, hx_19, hx_20, hx_21, hx_22, hx_23⟩ := (show tp_o_X L K (0) 0 (Γ (0, 0, 0)) (f xq) from hI.at hxq)
  refine tq_cl hS (hAf _ hS.1) (tq_rV (As := [.int z_2, .int z_4, .int z_6]) (rest := []) ⟨hx, hb, hml, hown, hta⟩ (tp_P.pre hK hN hL hU hI hP) (tp_recv hK hP hxq.1 hf_7 rfl) lk_L_142 (t_X11_deepest l D cy H.size L K Γ f xq z_2 z_4 z_6 hxq) rfl rfl ⟨Nat.le_of_ble_eq_true rfl, Nat.le_of_ble_eq_true rfl⟩ rfl hl.1 rfl (Nat.le_of_ble_eq_true rfl) dL_law_1566 ⟨by rw [hRc]; omega, by rw [hRs]; omega⟩) (fun r_25 f_26 H locs hw_24 hP hI hc_27 hS => ?_)
  have hD : va_D A (va_pl L f_26) := tp_D hL hAL
  have hf_28 := (tp_un hc_27 hxq (by decide)).trans hf_7
  refine lv_pop2_2 hx hb dL_law_1569 rfl ?_
  refine lv_aload_n hx hb dL_law_1570 rfl (lv_at hl 1 rfl) ?_
  refine lv_aload_n hx hb dL_law_1571 rfl (lv_at hl 3 rfl) ?_
  refine lv_iload_n hx hb dL_law_1572 rfl (lv_at hl 0 rfl) ?_
  refine lv_iconst (v := 1) hx hb dL_law_1573 (by decide) ?_
  refine lv_iadd hx hb dL_law_1574 ?_
  refine lv_topi (fun z_29 ez_29 => ?_)
  obtain rfl : z_1 = z_29 := ez_1.trans ez_29.symm
  refine va_sld hx hb hX hbl hbA hS (tl_in (by omega) (by omega)) dL_law_1575 ?_
  refine lv_topi (fun z_30 ez_30 => ?_)
  obtain rfl : z_2 = z_30 := ez_2.trans ez_30.symm
  refine lv_aload_n hx hb dL_law_1576 rfl (lv_at hl 3 rfl) ?_
  refine lv_iload_n hx hb dL_law_1577 rfl (lv_at hl 0 rfl) ?_
  refine lv_iconst (v := 2) hx hb dL_law_1578 (by decide) ?_
  refine lv_iadd hx hb dL_law_1579 ?_
  refine lv_topi (fun z_31 ez_31 => ?_)
  obtain rfl : z_3 = z_31 := ez_3.trans ez_31.symm
  refine va_sld hx hb hX hbl hbA hS (tl_in (by omega) (by omega)) dL_law_1580 ?_
  refine lv_topi (fun z_32 ez_32 => ?_)
  obtain rfl : z_4 = z_32 := ez_4.trans ez_32.symm
  refine lv_aload_n hx hb dL_law_1581 rfl (lv_at hl 3 rfl) ?_
  refine lv_iload_n hx hb dL_law_1582 rfl (lv_at hl 0 rfl) ?_
  refine lv_iconst (v := 3) hx hb dL_law_1583 (by decide) ?_
  refine lv_iadd hx hb dL_law_1584 ?_
  refine lv_topi (fun z_33 ez_33 => ?_)
  obtain rfl : z_5 = z_33 := ez_5.trans ez_33.symm
  refine va_sld hx hb hX hbl hbA hS (tl_in (by omega) (by omega)) dL_law_1585 ?_
  refine lv_topi (fun z_34 ez_34 => ?_)
  obtain rfl : z_6 = z_34 := ez_6.trans ez_34.symm
  obtain ⟨r_36, v_37, q_38, hf_35, hr_39, hv_40⟩ := (show tp_o_M L K 0 0 (Γ (39, 0, 0)) (f_26 mq) from hI.at hmq)
  refine tq_clR hS (hAf _ hS.1) (tq_rV (As := [.int z_2, .int z_4, .int z_6]) (rest := []) ⟨hx, hb, hml, hown, hta⟩ (tp_P.pre hK hN hL hU hI hP) (tp_recv hK hP hmq.1 hf_35 rfl) lk_L_145 (r_X12_deepest l D cy H.size L K Γ f_26 mq z_2 z_4 z_6 hmq (by first | omega | (simp only [Int32.toInt_toInt64]; omega) | decide | assumption) (by first | omega | (simp only [Int32.toInt_toInt64]; omega) | decide | assumption)) rfl rfl ⟨Nat.le_of_ble_eq_true rfl, Nat.le_of_ble_eq_true rfl⟩ rfl hl.1 rfl (Nat.le_of_ble_eq_true rfl) dL_law_1586 ⟨by rw [hRc]; omega, by rw [hRs]; omega⟩) (fun r_42 f_43 Γ_45 H locs hw_41 hP hI hc_44 hcg_46 hS => ?_)
  have hD : va_D A (va_pl L f_43) := tp_D hL hAL
  have hf_47 := (tp_un hc_44 hxq (by decide)).trans hf_28
  have hw_41 : Γ_45 (39, 0, 0) 0 = Γ (39, 0, 0) 0 := hw_41
  have hlq9 : lq Γ_45 := hlq.quiet hcg_46 (by decide) (by omega)
  have hfree9 : ∀ j : Nat, Γ_45 (12, 4, 0) j = 0 → ∀ a ∈ L, ¬ (K a).2.2 = j + 1 := fun j q a ha => hfree j (by rw [← (hcg_46 (12, 4, 0) (by decide)).trans hIM]; exact q) a ha
  refine lv_pop2_2 hx hb dL_law_1589 rfl ?_
  refine lv_goto (tgt := 2005) hx hb dL_law_1590 (by decide) ?_
  exact W.widen (k := cells + 41) (n := slots + 8199) (by omega) (by omega) (kk L K Γ_45 f_43 H locs ls ⟨hP, hI, hL, hU, hAL, hS, hxq, hmq, hlq9, hfree9⟩ (lv_sub hl [0, 1, 2, 3] rfl))
set_option maxHeartbeats 4000000 in
set_option maxRecDepth 100000 in
theorem tl_law_31 {p : Program} {e : Env} {s : State} {m : MethodId} {below : List Frame} {meth : Method} {c : Code} (l : Launch) {b N : Nat} {xs : Nat → Int32} (C0 : lw_At p s m meth c b N xs) (D : va_G) (cy : Nat → ClassId) (hK : va_K D vwCl (tl_T cy) s) (hN : tl_ok s) (Z : ts_Y) {A : Nat → Prop} (hAe : A = fun q : Nat => s.heap.size ≤ q) (hZ : ts_Z A Z s s.heap) (xq mq : Nat) (i : Int32) (hi : 0 ≤ i.toInt ∧ i.toInt + 7 ≤ N ∧ N ≤ 3584) {cells slots : Nat} (hcs : cells + 41 ≤ 600000 ∧ slots + 8199 ≤ 7302249) {L : List Nat} {K : Nat → tk_K} {Γ : tk_G} {f : Nat → va_E} {H : Heap} {locs : List Loc} {ls : Array Slot} (S : lq_S D cy A s L K Γ f H locs xq mq) (hl : lv_has ls 4 [(3, .int i), (2, .ref mq), (1, .ref xq), (0, .ref b)]) (kk : ∀ (L : List Nat) (K : Nat → tk_K) (Γ : tk_G) (f : Nat → va_E) (H : Heap) (locs : List Loc) (ls : Array Slot), lq_S D cy A s L K Γ f H locs xq mq → lv_has ls 4 [(3, .int i), (2, .ref mq), (1, .ref xq), (0, .ref b)] → W p l e room_1 s m #[Value.ref b] below meth c H locs (cells + 41) (slots + 8199) (lw_Z below #[Value.ref b] s) (F0 m 2005 ls [])) : W p l e room_1 s m #[Value.ref b] below meth c H locs cells slots (lw_Z below #[Value.ref b] s) (F0 m 1593 ls []) := by
  obtain ⟨hx, hb, hr, hml, hown, hts, hX, hbl, hlocks, hgv⟩ := id C0
  obtain ⟨hP, hI, hL, hU, hAL, hS, hxq, hmq, hlq, hfree⟩ := S
  have hta : ∀ w ∈ tl_L, w.before #[Value.ref b] s = true := fun w h => hts w (List.mem_filter.mp h).1
  have hA : ∀ q : Nat, s.heap.size ≤ q → A q := fun q h => by rw [hAe]; exact h
  have hbA : ¬ A b := by rw [hAe]; exact Nat.not_le.mpr hbl
  have hAf : ∀ (H : Heap), s.heap.size ≤ H.size → ∀ q, tp_A L H.size q → A q := fun H h q hq => hq.elim (hAL q) (fun h2 => hA q (Nat.le_trans h h2))
  have hRc : room_1.cells = 600000 := rfl
  have hRs : room_1.slots = 7302249 := rfl
  have hI0 := hI
  have hD : va_D A (va_pl L f) := tp_D hL hAL
  have htx := hlq.2.2.2.2.1
  have hsd := hlq.2.2.1
  have hs := ts_hs hsd
  have hraw := ts_raw hsd
  have hslp := ts_slp hsd
  have hdp := ts_dp hsd
  have hm0 := hlq.2.2.2.2.2
  have hIM : Γ (12, 4, 0) = Γ (12, 4, 0) := rfl
  refine lv_aload_n hx hb dL_law_1593 rfl (lv_at hl 2 rfl) ?_
  refine lv_aload_n hx hb dL_law_1594 rfl (lv_at hl 3 rfl) ?_
  refine lv_iload_n hx hb dL_law_1595 rfl (lv_at hl 0 rfl) ?_
  refine lv_iconst (v := 1) hx hb dL_law_1596 (by decide) ?_
  refine lv_iadd hx hb dL_law_1597 ?_
  refine lv_topi (fun z_1 ez_1 => ?_)
  try have iz_1 : z_1.toInt = i.toInt + (1 : Int) := by rw [ez_1]; exact tl_addN i 1 rfl rfl (by omega) (by omega)
  refine va_sld hx hb hX hbl hbA hS (tl_in (by omega) (by omega)) dL_law_1598 ?_
  refine lv_topi (fun z_2 ez_2 => ?_)
  refine lv_aload_n hx hb dL_law_1599 rfl (lv_at hl 3 rfl) ?_
  refine lv_iload_n hx hb dL_law_1600 rfl (lv_at hl 0 rfl) ?_
  refine lv_iconst (v := 2) hx hb dL_law_1601 (by decide) ?_
  refine lv_iadd hx hb dL_law_1602 ?_
  refine lv_topi (fun z_3 ez_3 => ?_)
  try have iz_3 : z_3.toInt = i.toInt + (2 : Int) := by rw [ez_3]; exact tl_addN i 2 rfl rfl (by omega) (by omega)
  refine va_sld hx hb hX hbl hbA hS (tl_in (by omega) (by omega)) dL_law_1603 ?_
  refine lv_topi (fun z_4 ez_4 => ?_)
  refine lv_aload_n hx hb dL_law_1604 rfl (lv_at hl 3 rfl) ?_
  refine lv_iload_n hx hb dL_law_1605 rfl (lv_at hl 0 rfl) ?_
  refine lv_iconst (v := 3) hx hb dL_law_1606 (by decide) ?_
  refine lv_iadd hx hb dL_law_1607 ?_
  refine lv_topi (fun z_5 ez_5 => ?_)
  try have iz_5 : z_5.toInt = i.toInt + (3 : Int) := by rw [ez_5]; exact tl_addN i 3 rfl rfl (by omega) (by omega)
  refine va_sld hx hb hX hbl hbA hS (tl_in (by omega) (by omega)) dL_law_1608 ?_
  refine lv_topi (fun z_6 ez_6 => ?_)
  obtain ⟨x_8, x_9, x_10, x_11, x_12, x_13, x_14, x_15, x_16, x_17, x_18, x_19, x_20, x_21, x_22, x_23, hf_7, hx_8, hx_9, hx_10, hx_11, hx_12, hx_13, hx_14, hx_15, hx_16, hx_17, hx_18, hx_19, hx_20, hx_21, hx_22, hx_23⟩ := (show tp_o_X L K (0) 0 (Γ (0, 0, 0)) (f xq) from hI.at hxq)
  refine tq_ci hS (hAf _ hS.1) (tq_rV (As := [.int z_2, .int z_4, .int z_6]) (rest := []) ⟨hx, hb, hml, hown, hta⟩ (tp_P.pre hK hN hL hU hI hP) (tp_recv hK hP hxq.1 hf_7 rfl) lk_L_146 (t_X11_house l D cy H.size L K Γ f xq z_2 z_4 z_6 hxq) rfl rfl ⟨Nat.le_of_ble_eq_true rfl, Nat.le_of_ble_eq_true rfl⟩ rfl hl.1 rfl (Nat.le_of_ble_eq_true rfl) dL_law_1609 ⟨by rw [hRc]; omega, by rw [hRs]; omega⟩) (fun r_25 f_26 H locs hw_24 hP hI hc_27 hS => ?_)
  have hD : va_D A (va_pl L f_26) := tp_D hL hAL
  have hf_28 := (tp_un hc_27 hxq (by decide)).trans hf_7
  refine lv_pop hx hb dL_law_1612 rfl ?_
  refine lv_aload_n hx hb dL_law_1613 rfl (lv_at hl 1 rfl) ?_
  refine lv_aload_n hx hb dL_law_1614 rfl (lv_at hl 3 rfl) ?_
  refine lv_iload_n hx hb dL_law_1615 rfl (lv_at hl 0 rfl) ?_
  refine lv_iconst (v := 1) hx hb dL_law_1616 (by decide) ?_
  refine lv_iadd hx hb dL_law_1617 ?_
  refine lv_topi (fun z_29 ez_29 => ?_)
  obtain rfl : z_1 = z_29 := ez_1.trans ez_29.symm
  refine va_sld hx hb hX hbl hbA hS (tl_in (by omega) (by omega)) dL_law_1618 ?_
  refine lv_topi (fun z_30 ez_30 => ?_)
  obtain rfl : z_2 = z_30 := ez_2.trans ez_30.symm
  refine lv_aload_n hx hb dL_law_1619 rfl (lv_at hl 3 rfl) ?_
  refine lv_iload_n hx hb dL_law_1620 rfl (lv_at hl 0 rfl) ?_
  refine lv_iconst (v := 2) hx hb dL_law_1621 (by decide) ?_
  refine lv_iadd hx hb dL_law_1622 ?_
  refine lv_topi (fun z_31 ez_31 => ?_)
  obtain rfl : z_3 = z_31 := ez_3.trans ez_31.symm
  refine va_sld hx hb hX hbl hbA hS (tl_in (by omega) (by omega)) dL_law_1623 ?_
  refine lv_topi (fun z_32 ez_32 => ?_)
  obtain rfl : z_4 = z_32 := ez_4.trans ez_32.symm
  refine lv_aload_n hx hb dL_law_1624 rfl (lv_at hl 3 rfl) ?_
  refine lv_iload_n hx hb dL_law_1625 rfl (lv_at hl 0 rfl) ?_
  refine lv_iconst (v := 3) hx hb dL_law_1626 (by decide) ?_
  refine lv_iadd hx hb dL_law_1627 ?_
  refine lv_topi (fun z_33 ez_33 => ?_)
  obtain rfl : z_5 = z_33 := ez_5.trans ez_33.symm
  refine va_sld hx hb hX hbl hbA hS (tl_in (by omega) (by omega)) dL_law_1628 ?_
  refine lv_topi (fun z_34 ez_34 => ?_)
  obtain rfl : z_6 = z_34 := ez_6.trans ez_34.symm
  obtain ⟨r_36, v_37, q_38, hf_35, hr_39, hv_40⟩ := (show tp_o_M L K 0 0 (Γ (39, 0, 0)) (f_26 mq) from hI.at hmq)
  refine tq_ciR hS (hAf _ hS.1) (tq_rV (As := [.int z_2, .int z_4, .int z_6]) (rest := []) ⟨hx, hb, hml, hown, hta⟩ (tp_P.pre hK hN hL hU hI hP) (tp_recv hK hP hmq.1 hf_35 rfl) lk_L_149 (r_X12_house l D cy H.size L K Γ f_26 mq z_2 z_4 z_6 hmq (by first | omega | (simp only [Int32.toInt_toInt64]; omega) | decide | assumption)) rfl rfl ⟨Nat.le_of_ble_eq_true rfl, Nat.le_of_ble_eq_true rfl⟩ rfl hl.1 rfl (Nat.le_of_ble_eq_true rfl) dL_law_1629 ⟨by rw [hRc]; omega, by rw [hRs]; omega⟩) (fun r_42 f_43 Γ_45 H locs hw_41 hP hI hc_44 hcg_46 hS => ?_)
  have hD : va_D A (va_pl L f_43) := tp_D hL hAL
  have hf_47 := (tp_un hc_44 hxq (by decide)).trans hf_28
  have hf_48 := (tp_un hc_44 hmq (by decide)).trans hf_35
  have hw_41 : r_42.toInt = (if ¬ Γ (40, 7666, 0) 7665 = 8 ∧ (0 ≤ z_2.toInt ∧ z_2.toInt < Γ (42, 3, 0) 1) ∧ (-999999 ≤ z_4.toInt ∧ z_4.toInt ≤ 999999) ∧ 1 ≤ z_6.toInt ∧ z_6.toInt ≤ 15 then Γ (40, 7666, 0) 7665 else -1) ∧ Γ_45 (40, 7666, 0) = if ¬ Γ (40, 7666, 0) 7665 = 8 ∧ (0 ≤ z_2.toInt ∧ z_2.toInt < Γ (42, 3, 0) 1) ∧ (-999999 ≤ z_4.toInt ∧ z_4.toInt ≤ 999999) ∧ 1 ≤ z_6.toInt ∧ z_6.toInt ≤ 15 then tgu (tgu (tgu (tgu (Γ (40, 7666, 0)) (7641 + 3 * Γ (40, 7666, 0) 7665 + 0).toNat (z_2.toInt)) (7641 + 3 * Γ (40, 7666, 0) 7665 + 1).toNat (z_4.toInt)) (7641 + 3 * Γ (40, 7666, 0) 7665 + 2).toNat (z_6.toInt)) 7665 (Γ (40, 7666, 0) 7665 + 1) else Γ (40, 7666, 0) := hw_41
  have hlq9 := s_house hlq hcg_46 hw_41.2
  have hfree9 : ∀ j : Nat, Γ_45 (12, 4, 0) j = 0 → ∀ a ∈ L, ¬ (K a).2.2 = j + 1 := fun j q a ha => hfree j (by rw [← (hcg_46 (12, 4, 0) (by decide)).trans hIM]; exact q) a ha
  refine lv_pop hx hb dL_law_1632 rfl ?_
  refine lv_goto (tgt := 2005) hx hb dL_law_1633 (by decide) ?_
  exact W.widen (k := cells + 41) (n := slots + 8199) (by omega) (by omega) (kk L K Γ_45 f_43 H locs ls ⟨hP, hI, hL, hU, hAL, hS, hxq, hmq, hlq9, hfree9⟩ (lv_sub hl [0, 1, 2, 3] rfl))
set_option maxHeartbeats 4000000 in
set_option maxRecDepth 100000 in
theorem tl_law_32 {p : Program} {e : Env} {s : State} {m : MethodId} {below : List Frame} {meth : Method} {c : Code} (l : Launch) {b N : Nat} {xs : Nat → Int32} (C0 : lw_At p s m meth c b N xs) (D : va_G) (cy : Nat → ClassId) (hK : va_K D vwCl (tl_T cy) s) (hN : tl_ok s) (Z : ts_Y) {A : Nat → Prop} (hAe : A = fun q : Nat => s.heap.size ≤ q) (hZ : ts_Z A Z s s.heap) (xq mq : Nat) (i : Int32) (hi : 0 ≤ i.toInt ∧ i.toInt + 7 ≤ N ∧ N ≤ 3584) {cells slots : Nat} (hcs : cells + 41 ≤ 600000 ∧ slots + 8199 ≤ 7302249) {L : List Nat} {K : Nat → tk_K} {Γ : tk_G} {f : Nat → va_E} {H : Heap} {locs : List Loc} {ls : Array Slot} (S : lq_S D cy A s L K Γ f H locs xq mq) (hl : lv_has ls 4 [(3, .int i), (2, .ref mq), (1, .ref xq), (0, .ref b)]) (kk : ∀ (L : List Nat) (K : Nat → tk_K) (Γ : tk_G) (f : Nat → va_E) (H : Heap) (locs : List Loc) (ls : Array Slot), lq_S D cy A s L K Γ f H locs xq mq → lv_has ls 4 [(3, .int i), (2, .ref mq), (1, .ref xq), (0, .ref b)] → W p l e room_1 s m #[Value.ref b] below meth c H locs (cells + 41) (slots + 8199) (lw_Z below #[Value.ref b] s) (F0 m 2005 ls [])) : W p l e room_1 s m #[Value.ref b] below meth c H locs cells slots (lw_Z below #[Value.ref b] s) (F0 m 1636 ls []) := by
  obtain ⟨hx, hb, hr, hml, hown, hts, hX, hbl, hlocks, hgv⟩ := id C0
  obtain ⟨hP, hI, hL, hU, hAL, hS, hxq, hmq, hlq, hfree⟩ := S
  have hta : ∀ w ∈ tl_L, w.before #[Value.ref b] s = true := fun w h => hts w (List.mem_filter.mp h).1
  have hA : ∀ q : Nat, s.heap.size ≤ q → A q := fun q h => by rw [hAe]; exact h
  have hbA : ¬ A b := by rw [hAe]; exact Nat.not_le.mpr hbl
  have hAf : ∀ (H : Heap), s.heap.size ≤ H.size → ∀ q, tp_A L H.size q → A q := fun H h q hq => hq.elim (hAL q) (fun h2 => hA q (Nat.le_trans h h2))
  have hRc : room_1.cells = 600000 := rfl
  have hRs : room_1.slots = 7302249 := rfl
  have hI0 := hI
  have hD : va_D A (va_pl L f) := tp_D hL hAL
  have htx := hlq.2.2.2.2.1
  have hsd := hlq.2.2.1
  have hs := ts_hs hsd
  have hraw := ts_raw hsd
  have hslp := ts_slp hsd
  have hdp := ts_dp hsd
  have hm0 := hlq.2.2.2.2.2
  have hIM : Γ (12, 4, 0) = Γ (12, 4, 0) := rfl
  refine lv_aload_n hx hb dL_law_1636 rfl (lv_at hl 2 rfl) ?_
  refine lv_aload_n hx hb dL_law_1637 rfl (lv_at hl 3 rfl) ?_
  refine lv_iload_n hx hb dL_law_1638 rfl (lv_at hl 0 rfl) ?_
  refine lv_iconst (v := 1) hx hb dL_law_1639 (by decide) ?_
  refine lv_iadd hx hb dL_law_1640 ?_
  refine lv_topi (fun z_1 ez_1 => ?_)
  try have iz_1 : z_1.toInt = i.toInt + (1 : Int) := by rw [ez_1]; exact tl_addN i 1 rfl rfl (by omega) (by omega)
  refine va_sld hx hb hX hbl hbA hS (tl_in (by omega) (by omega)) dL_law_1641 ?_
  refine lv_topi (fun z_2 ez_2 => ?_)
  refine lv_aload_n hx hb dL_law_1642 rfl (lv_at hl 3 rfl) ?_
  refine lv_iload_n hx hb dL_law_1643 rfl (lv_at hl 0 rfl) ?_
  refine lv_iconst (v := 2) hx hb dL_law_1644 (by decide) ?_
  refine lv_iadd hx hb dL_law_1645 ?_
  refine lv_topi (fun z_3 ez_3 => ?_)
  try have iz_3 : z_3.toInt = i.toInt + (2 : Int) := by rw [ez_3]; exact tl_addN i 2 rfl rfl (by omega) (by omega)
  refine va_sld hx hb hX hbl hbA hS (tl_in (by omega) (by omega)) dL_law_1646 ?_
  refine lv_topi (fun z_4 ez_4 => ?_)
  obtain ⟨x_6, x_7, x_8, x_9, x_10, x_11, x_12, x_13, x_14, x_15, x_16, x_17, x_18, x_19, x_20, x_21, hf_5, hx_6, hx_7, hx_8, hx_9, hx_10, hx_11, hx_12, hx_13, hx_14, hx_15, hx_16, hx_17, hx_18, hx_19, hx_20, hx_21⟩ := (show tp_o_X L K (0) 0 (Γ (0, 0, 0)) (f xq) from hI.at hxq)
  refine tq_ci hS (hAf _ hS.1) (tq_rV (As := [.int z_2, .int z_4]) (rest := []) ⟨hx, hb, hml, hown, hta⟩ (tp_P.pre hK hN hL hU hI hP) (tp_recv hK hP hxq.1 hf_5 rfl) lk_L_150 (t_X11_says l D cy H.size L K Γ f xq z_2 z_4 hxq) rfl rfl ⟨Nat.le_of_ble_eq_true rfl, Nat.le_of_ble_eq_true rfl⟩ rfl hl.1 rfl (Nat.le_of_ble_eq_true rfl) dL_law_1647 ⟨by rw [hRc]; omega, by rw [hRs]; omega⟩) (fun r_23 f_24 H locs hw_22 hP hI hc_25 hS => ?_)
  have hD : va_D A (va_pl L f_24) := tp_D hL hAL
  have hf_26 := (tp_un hc_25 hxq (by decide)).trans hf_5
  refine lv_pop hx hb dL_law_1650 rfl ?_
  refine lv_aload_n hx hb dL_law_1651 rfl (lv_at hl 1 rfl) ?_
  refine lv_aload_n hx hb dL_law_1652 rfl (lv_at hl 3 rfl) ?_
  refine lv_iload_n hx hb dL_law_1653 rfl (lv_at hl 0 rfl) ?_
  refine lv_iconst (v := 1) hx hb dL_law_1654 (by decide) ?_
  refine lv_iadd hx hb dL_law_1655 ?_
  refine lv_topi (fun z_27 ez_27 => ?_)
  obtain rfl : z_1 = z_27 := ez_1.trans ez_27.symm
  refine va_sld hx hb hX hbl hbA hS (tl_in (by omega) (by omega)) dL_law_1656 ?_
  refine lv_topi (fun z_28 ez_28 => ?_)
  obtain rfl : z_2 = z_28 := ez_2.trans ez_28.symm
  refine lv_aload_n hx hb dL_law_1657 rfl (lv_at hl 3 rfl) ?_
  refine lv_iload_n hx hb dL_law_1658 rfl (lv_at hl 0 rfl) ?_
  refine lv_iconst (v := 2) hx hb dL_law_1659 (by decide) ?_
  refine lv_iadd hx hb dL_law_1660 ?_
  refine lv_topi (fun z_29 ez_29 => ?_)
  obtain rfl : z_3 = z_29 := ez_3.trans ez_29.symm
  refine va_sld hx hb hX hbl hbA hS (tl_in (by omega) (by omega)) dL_law_1661 ?_
  refine lv_topi (fun z_30 ez_30 => ?_)
  obtain rfl : z_4 = z_30 := ez_4.trans ez_30.symm
  obtain ⟨r_32, v_33, q_34, hf_31, hr_35, hv_36⟩ := (show tp_o_M L K 0 0 (Γ (39, 0, 0)) (f_24 mq) from hI.at hmq)
  refine tq_ciR hS (hAf _ hS.1) (tq_rV (As := [.int z_2, .int z_4]) (rest := []) ⟨hx, hb, hml, hown, hta⟩ (tp_P.pre hK hN hL hU hI hP) (tp_recv hK hP hmq.1 hf_31 rfl) lk_L_153 (r_X12_says l D cy H.size L K Γ f_24 mq z_2 z_4 hmq (by first | omega | (simp only [Int32.toInt_toInt64]; omega) | decide | assumption) (by first | omega | (simp only [Int32.toInt_toInt64]; omega) | decide | assumption)) rfl rfl ⟨Nat.le_of_ble_eq_true rfl, Nat.le_of_ble_eq_true rfl⟩ rfl hl.1 rfl (Nat.le_of_ble_eq_true rfl) dL_law_1662 ⟨by rw [hRc]; omega, by rw [hRs]; omega⟩) (fun r_38 f_39 Γ_41 H locs hw_37 hP hI hc_40 hcg_42 hS => ?_)
  have hD : va_D A (va_pl L f_39) := tp_D hL hAL
  have hf_43 := (tp_un hc_40 hxq (by decide)).trans hf_26
  have hw_37 : Γ_41 (39, 0, 0) 0 = Γ (39, 0, 0) 0 := hw_37
  have hlq9 : lq Γ_41 := hlq.quiet hcg_42 (by decide) (by omega)
  have hfree9 : ∀ j : Nat, Γ_41 (12, 4, 0) j = 0 → ∀ a ∈ L, ¬ (K a).2.2 = j + 1 := fun j q a ha => hfree j (by rw [← (hcg_42 (12, 4, 0) (by decide)).trans hIM]; exact q) a ha
  refine lv_pop hx hb dL_law_1665 rfl ?_
  refine lv_goto (tgt := 2005) hx hb dL_law_1666 (by decide) ?_
  exact W.widen (k := cells + 41) (n := slots + 8199) (by omega) (by omega) (kk L K Γ_41 f_39 H locs ls ⟨hP, hI, hL, hU, hAL, hS, hxq, hmq, hlq9, hfree9⟩ (lv_sub hl [0, 1, 2, 3] rfl))
set_option maxHeartbeats 4000000 in
set_option maxRecDepth 100000 in
theorem tl_law_33 {p : Program} {e : Env} {s : State} {m : MethodId} {below : List Frame} {meth : Method} {c : Code} (l : Launch) {b N : Nat} {xs : Nat → Int32} (C0 : lw_At p s m meth c b N xs) (D : va_G) (cy : Nat → ClassId) (hK : va_K D vwCl (tl_T cy) s) (hN : tl_ok s) (Z : ts_Y) {A : Nat → Prop} (hAe : A = fun q : Nat => s.heap.size ≤ q) (hZ : ts_Z A Z s s.heap) (xq mq : Nat) (i : Int32) (hi : 0 ≤ i.toInt ∧ i.toInt + 7 ≤ N ∧ N ≤ 3584) {cells slots : Nat} (hcs : cells + 41 ≤ 600000 ∧ slots + 8199 ≤ 7302249) {L : List Nat} {K : Nat → tk_K} {Γ : tk_G} {f : Nat → va_E} {H : Heap} {locs : List Loc} {ls : Array Slot} (S : lq_S D cy A s L K Γ f H locs xq mq) (hl : lv_has ls 4 [(3, .int i), (2, .ref mq), (1, .ref xq), (0, .ref b)]) (kk : ∀ (L : List Nat) (K : Nat → tk_K) (Γ : tk_G) (f : Nat → va_E) (H : Heap) (locs : List Loc) (ls : Array Slot), lq_S D cy A s L K Γ f H locs xq mq → lv_has ls 4 [(3, .int i), (2, .ref mq), (1, .ref xq), (0, .ref b)] → W p l e room_1 s m #[Value.ref b] below meth c H locs (cells + 41) (slots + 8199) (lw_Z below #[Value.ref b] s) (F0 m 2005 ls [])) : W p l e room_1 s m #[Value.ref b] below meth c H locs cells slots (lw_Z below #[Value.ref b] s) (F0 m 1669 ls []) := by
  obtain ⟨hx, hb, hr, hml, hown, hts, hX, hbl, hlocks, hgv⟩ := id C0
  obtain ⟨hP, hI, hL, hU, hAL, hS, hxq, hmq, hlq, hfree⟩ := S
  have hta : ∀ w ∈ tl_L, w.before #[Value.ref b] s = true := fun w h => hts w (List.mem_filter.mp h).1
  have hA : ∀ q : Nat, s.heap.size ≤ q → A q := fun q h => by rw [hAe]; exact h
  have hbA : ¬ A b := by rw [hAe]; exact Nat.not_le.mpr hbl
  have hAf : ∀ (H : Heap), s.heap.size ≤ H.size → ∀ q, tp_A L H.size q → A q := fun H h q hq => hq.elim (hAL q) (fun h2 => hA q (Nat.le_trans h h2))
  have hRc : room_1.cells = 600000 := rfl
  have hRs : room_1.slots = 7302249 := rfl
  have hI0 := hI
  have hD : va_D A (va_pl L f) := tp_D hL hAL
  have htx := hlq.2.2.2.2.1
  have hsd := hlq.2.2.1
  have hs := ts_hs hsd
  have hraw := ts_raw hsd
  have hslp := ts_slp hsd
  have hdp := ts_dp hsd
  have hm0 := hlq.2.2.2.2.2
  have hIM : Γ (12, 4, 0) = Γ (12, 4, 0) := rfl
  refine lv_aload_n hx hb dL_law_1669 rfl (lv_at hl 2 rfl) ?_
  refine lv_aload_n hx hb dL_law_1670 rfl (lv_at hl 3 rfl) ?_
  refine lv_iload_n hx hb dL_law_1671 rfl (lv_at hl 0 rfl) ?_
  refine lv_iconst (v := 1) hx hb dL_law_1672 (by decide) ?_
  refine lv_iadd hx hb dL_law_1673 ?_
  refine lv_topi (fun z_1 ez_1 => ?_)
  try have iz_1 : z_1.toInt = i.toInt + (1 : Int) := by rw [ez_1]; exact tl_addN i 1 rfl rfl (by omega) (by omega)
  refine va_sld hx hb hX hbl hbA hS (tl_in (by omega) (by omega)) dL_law_1674 ?_
  refine lv_topi (fun z_2 ez_2 => ?_)
  obtain ⟨x_4, x_5, x_6, x_7, x_8, x_9, x_10, x_11, x_12, x_13, x_14, x_15, x_16, x_17, x_18, x_19, hf_3, hx_4, hx_5, hx_6, hx_7, hx_8, hx_9, hx_10, hx_11, hx_12, hx_13, hx_14, hx_15, hx_16, hx_17, hx_18, hx_19⟩ := (show tp_o_X L K (0) 0 (Γ (0, 0, 0)) (f xq) from hI.at hxq)
  refine tq_ci hS (hAf _ hS.1) (tq_rV (As := [.int z_2]) (rest := []) ⟨hx, hb, hml, hown, hta⟩ (tp_P.pre hK hN hL hU hI hP) (tp_recv hK hP hxq.1 hf_3 rfl) lk_L_154 (t_X11_agreed l D cy H.size L K Γ f xq z_2 hxq) rfl rfl ⟨Nat.le_of_ble_eq_true rfl, Nat.le_of_ble_eq_true rfl⟩ rfl hl.1 rfl (Nat.le_of_ble_eq_true rfl) dL_law_1675 ⟨by rw [hRc]; omega, by rw [hRs]; omega⟩) (fun r_21 f_22 H locs hw_20 hP hI hc_23 hS => ?_)
  have hD : va_D A (va_pl L f_22) := tp_D hL hAL
  have hf_24 := (tp_un hc_23 hxq (by decide)).trans hf_3
  refine lv_pop hx hb dL_law_1678 rfl ?_
  refine lv_aload_n hx hb dL_law_1679 rfl (lv_at hl 1 rfl) ?_
  refine lv_aload_n hx hb dL_law_1680 rfl (lv_at hl 3 rfl) ?_
  refine lv_iload_n hx hb dL_law_1681 rfl (lv_at hl 0 rfl) ?_
  refine lv_iconst (v := 1) hx hb dL_law_1682 (by decide) ?_
  refine lv_iadd hx hb dL_law_1683 ?_
  refine lv_topi (fun z_25 ez_25 => ?_)
  obtain rfl : z_1 = z_25 := ez_1.trans ez_25.symm
  refine va_sld hx hb hX hbl hbA hS (tl_in (by omega) (by omega)) dL_law_1684 ?_
  refine lv_topi (fun z_26 ez_26 => ?_)
  obtain rfl : z_2 = z_26 := ez_2.trans ez_26.symm
  obtain ⟨r_28, v_29, q_30, hf_27, hr_31, hv_32⟩ := (show tp_o_M L K 0 0 (Γ (39, 0, 0)) (f_22 mq) from hI.at hmq)
  refine tq_ciR hS (hAf _ hS.1) (tq_rV (As := [.int z_2]) (rest := []) ⟨hx, hb, hml, hown, hta⟩ (tp_P.pre hK hN hL hU hI hP) (tp_recv hK hP hmq.1 hf_27 rfl) lk_L_157 (r_X12_agreed l D cy H.size L K Γ f_22 mq z_2 hmq (by first | omega | (simp only [Int32.toInt_toInt64]; omega) | decide | assumption) (by first | omega | (simp only [Int32.toInt_toInt64]; omega) | decide | assumption)) rfl rfl ⟨Nat.le_of_ble_eq_true rfl, Nat.le_of_ble_eq_true rfl⟩ rfl hl.1 rfl (Nat.le_of_ble_eq_true rfl) dL_law_1685 ⟨by rw [hRc]; omega, by rw [hRs]; omega⟩) (fun r_34 f_35 Γ_37 H locs hw_33 hP hI hc_36 hcg_38 hS => ?_)
  have hD : va_D A (va_pl L f_35) := tp_D hL hAL
  have hf_39 := (tp_un hc_36 hxq (by decide)).trans hf_24
  have hw_33 : Γ_37 (39, 0, 0) 0 = Γ (39, 0, 0) 0 := hw_33
  have hlq9 : lq Γ_37 := hlq.quiet hcg_38 (by decide) (by omega)
  have hfree9 : ∀ j : Nat, Γ_37 (12, 4, 0) j = 0 → ∀ a ∈ L, ¬ (K a).2.2 = j + 1 := fun j q a ha => hfree j (by rw [← (hcg_38 (12, 4, 0) (by decide)).trans hIM]; exact q) a ha
  refine lv_pop hx hb dL_law_1688 rfl ?_
  refine lv_goto (tgt := 2005) hx hb dL_law_1689 (by decide) ?_
  exact W.widen (k := cells + 41) (n := slots + 8199) (by omega) (by omega) (kk L K Γ_37 f_35 H locs ls ⟨hP, hI, hL, hU, hAL, hS, hxq, hmq, hlq9, hfree9⟩ (lv_sub hl [0, 1, 2, 3] rfl))
set_option maxHeartbeats 4000000 in
set_option maxRecDepth 100000 in
theorem tl_law_34 {p : Program} {e : Env} {s : State} {m : MethodId} {below : List Frame} {meth : Method} {c : Code} (l : Launch) {b N : Nat} {xs : Nat → Int32} (C0 : lw_At p s m meth c b N xs) (D : va_G) (cy : Nat → ClassId) (hK : va_K D vwCl (tl_T cy) s) (hN : tl_ok s) (Z : ts_Y) {A : Nat → Prop} (hAe : A = fun q : Nat => s.heap.size ≤ q) (hZ : ts_Z A Z s s.heap) (xq mq : Nat) (i : Int32) (hi : 0 ≤ i.toInt ∧ i.toInt + 7 ≤ N ∧ N ≤ 3584) {cells slots : Nat} (hcs : cells + 41 ≤ 600000 ∧ slots + 8199 ≤ 7302249) {L : List Nat} {K : Nat → tk_K} {Γ : tk_G} {f : Nat → va_E} {H : Heap} {locs : List Loc} {ls : Array Slot} (S : lq_S D cy A s L K Γ f H locs xq mq) (hl : lv_has ls 4 [(3, .int i), (2, .ref mq), (1, .ref xq), (0, .ref b)]) (kk : ∀ (L : List Nat) (K : Nat → tk_K) (Γ : tk_G) (f : Nat → va_E) (H : Heap) (locs : List Loc) (ls : Array Slot), lq_S D cy A s L K Γ f H locs xq mq → lv_has ls 4 [(3, .int i), (2, .ref mq), (1, .ref xq), (0, .ref b)] → W p l e room_1 s m #[Value.ref b] below meth c H locs (cells + 41) (slots + 8199) (lw_Z below #[Value.ref b] s) (F0 m 2005 ls [])) : W p l e room_1 s m #[Value.ref b] below meth c H locs cells slots (lw_Z below #[Value.ref b] s) (F0 m 1692 ls []) := by
  obtain ⟨hx, hb, hr, hml, hown, hts, hX, hbl, hlocks, hgv⟩ := id C0
  obtain ⟨hP, hI, hL, hU, hAL, hS, hxq, hmq, hlq, hfree⟩ := S
  have hta : ∀ w ∈ tl_L, w.before #[Value.ref b] s = true := fun w h => hts w (List.mem_filter.mp h).1
  have hA : ∀ q : Nat, s.heap.size ≤ q → A q := fun q h => by rw [hAe]; exact h
  have hbA : ¬ A b := by rw [hAe]; exact Nat.not_le.mpr hbl
  have hAf : ∀ (H : Heap), s.heap.size ≤ H.size → ∀ q, tp_A L H.size q → A q := fun H h q hq => hq.elim (hAL q) (fun h2 => hA q (Nat.le_trans h h2))
  have hRc : room_1.cells = 600000 := rfl
  have hRs : room_1.slots = 7302249 := rfl
  have hI0 := hI
  have hD : va_D A (va_pl L f) := tp_D hL hAL
  have htx := hlq.2.2.2.2.1
  have hsd := hlq.2.2.1
  have hs := ts_hs hsd
  have hraw := ts_raw hsd
  have hslp := ts_slp hsd
  have hdp := ts_dp hsd
  have hm0 := hlq.2.2.2.2.2
  have hIM : Γ (12, 4, 0) = Γ (12, 4, 0) := rfl
  refine lv_aload_n hx hb dL_law_1692 rfl (lv_at hl 2 rfl) ?_
  refine lv_aload_n hx hb dL_law_1693 rfl (lv_at hl 3 rfl) ?_
  refine lv_iload_n hx hb dL_law_1694 rfl (lv_at hl 0 rfl) ?_
  refine lv_iconst (v := 1) hx hb dL_law_1695 (by decide) ?_
  refine lv_iadd hx hb dL_law_1696 ?_
  refine lv_topi (fun z_1 ez_1 => ?_)
  try have iz_1 : z_1.toInt = i.toInt + (1 : Int) := by rw [ez_1]; exact tl_addN i 1 rfl rfl (by omega) (by omega)
  refine va_sld hx hb hX hbl hbA hS (tl_in (by omega) (by omega)) dL_law_1697 ?_
  refine lv_topi (fun z_2 ez_2 => ?_)
  obtain ⟨x_4, x_5, x_6, x_7, x_8, x_9, x_10, x_11, x_12, x_13, x_14, x_15, x_16, x_17, x_18, x_19, hf_3, hx_4, hx_5, hx_6, hx_7, hx_8, hx_9, hx_10, hx_11, hx_12, hx_13, hx_14, hx_15, hx_16, hx_17, hx_18, hx_19⟩ := (show tp_o_X L K (0) 0 (Γ (0, 0, 0)) (f xq) from hI.at hxq)
  refine tq_ci hS (hAf _ hS.1) (tq_rV (As := [.int z_2]) (rest := []) ⟨hx, hb, hml, hown, hta⟩ (tp_P.pre hK hN hL hU hI hP) (tp_recv hK hP hxq.1 hf_3 rfl) lk_L_158 (t_X11_alone l D cy H.size L K Γ f xq z_2 hxq) rfl rfl ⟨Nat.le_of_ble_eq_true rfl, Nat.le_of_ble_eq_true rfl⟩ rfl hl.1 rfl (Nat.le_of_ble_eq_true rfl) dL_law_1698 ⟨by rw [hRc]; omega, by rw [hRs]; omega⟩) (fun r_21 f_22 H locs hw_20 hP hI hc_23 hS => ?_)
  have hD : va_D A (va_pl L f_22) := tp_D hL hAL
  have hf_24 := (tp_un hc_23 hxq (by decide)).trans hf_3
  refine lv_pop hx hb dL_law_1701 rfl ?_
  refine lv_aload_n hx hb dL_law_1702 rfl (lv_at hl 1 rfl) ?_
  refine lv_aload_n hx hb dL_law_1703 rfl (lv_at hl 3 rfl) ?_
  refine lv_iload_n hx hb dL_law_1704 rfl (lv_at hl 0 rfl) ?_
  refine lv_iconst (v := 1) hx hb dL_law_1705 (by decide) ?_
  refine lv_iadd hx hb dL_law_1706 ?_
  refine lv_topi (fun z_25 ez_25 => ?_)
  obtain rfl : z_1 = z_25 := ez_1.trans ez_25.symm
  refine va_sld hx hb hX hbl hbA hS (tl_in (by omega) (by omega)) dL_law_1707 ?_
  refine lv_topi (fun z_26 ez_26 => ?_)
  obtain rfl : z_2 = z_26 := ez_2.trans ez_26.symm
  obtain ⟨r_28, v_29, q_30, hf_27, hr_31, hv_32⟩ := (show tp_o_M L K 0 0 (Γ (39, 0, 0)) (f_22 mq) from hI.at hmq)
  refine tq_ciR hS (hAf _ hS.1) (tq_rV (As := [.int z_2]) (rest := []) ⟨hx, hb, hml, hown, hta⟩ (tp_P.pre hK hN hL hU hI hP) (tp_recv hK hP hmq.1 hf_27 rfl) lk_L_161 (r_X12_alone l D cy H.size L K Γ f_22 mq z_2 hmq (by first | omega | (simp only [Int32.toInt_toInt64]; omega) | decide | assumption) (by first | omega | (simp only [Int32.toInt_toInt64]; omega) | decide | assumption)) rfl rfl ⟨Nat.le_of_ble_eq_true rfl, Nat.le_of_ble_eq_true rfl⟩ rfl hl.1 rfl (Nat.le_of_ble_eq_true rfl) dL_law_1708 ⟨by rw [hRc]; omega, by rw [hRs]; omega⟩) (fun r_34 f_35 Γ_37 H locs hw_33 hP hI hc_36 hcg_38 hS => ?_)
  have hD : va_D A (va_pl L f_35) := tp_D hL hAL
  have hf_39 := (tp_un hc_36 hxq (by decide)).trans hf_24
  have hw_33 : Γ_37 (39, 0, 0) 0 = Γ (39, 0, 0) 0 := hw_33
  have hlq9 : lq Γ_37 := hlq.quiet hcg_38 (by decide) (by omega)
  have hfree9 : ∀ j : Nat, Γ_37 (12, 4, 0) j = 0 → ∀ a ∈ L, ¬ (K a).2.2 = j + 1 := fun j q a ha => hfree j (by rw [← (hcg_38 (12, 4, 0) (by decide)).trans hIM]; exact q) a ha
  refine lv_pop hx hb dL_law_1711 rfl ?_
  refine lv_goto (tgt := 2005) hx hb dL_law_1712 (by decide) ?_
  exact W.widen (k := cells + 41) (n := slots + 8199) (by omega) (by omega) (kk L K Γ_37 f_35 H locs ls ⟨hP, hI, hL, hU, hAL, hS, hxq, hmq, hlq9, hfree9⟩ (lv_sub hl [0, 1, 2, 3] rfl))
set_option maxHeartbeats 4000000 in
set_option maxRecDepth 100000 in
theorem tl_law_35 {p : Program} {e : Env} {s : State} {m : MethodId} {below : List Frame} {meth : Method} {c : Code} (l : Launch) {b N : Nat} {xs : Nat → Int32} (C0 : lw_At p s m meth c b N xs) (D : va_G) (cy : Nat → ClassId) (hK : va_K D vwCl (tl_T cy) s) (hN : tl_ok s) (Z : ts_Y) {A : Nat → Prop} (hAe : A = fun q : Nat => s.heap.size ≤ q) (hZ : ts_Z A Z s s.heap) (xq mq : Nat) (i : Int32) (hi : 0 ≤ i.toInt ∧ i.toInt + 7 ≤ N ∧ N ≤ 3584) {cells slots : Nat} (hcs : cells + 41 ≤ 600000 ∧ slots + 8199 ≤ 7302249) {L : List Nat} {K : Nat → tk_K} {Γ : tk_G} {f : Nat → va_E} {H : Heap} {locs : List Loc} {ls : Array Slot} (S : lq_S D cy A s L K Γ f H locs xq mq) (hl : lv_has ls 4 [(3, .int i), (2, .ref mq), (1, .ref xq), (0, .ref b)]) (kk : ∀ (L : List Nat) (K : Nat → tk_K) (Γ : tk_G) (f : Nat → va_E) (H : Heap) (locs : List Loc) (ls : Array Slot), lq_S D cy A s L K Γ f H locs xq mq → lv_has ls 4 [(3, .int i), (2, .ref mq), (1, .ref xq), (0, .ref b)] → W p l e room_1 s m #[Value.ref b] below meth c H locs (cells + 41) (slots + 8199) (lw_Z below #[Value.ref b] s) (F0 m 2005 ls [])) : W p l e room_1 s m #[Value.ref b] below meth c H locs cells slots (lw_Z below #[Value.ref b] s) (F0 m 1715 ls []) := by
  obtain ⟨hx, hb, hr, hml, hown, hts, hX, hbl, hlocks, hgv⟩ := id C0
  obtain ⟨hP, hI, hL, hU, hAL, hS, hxq, hmq, hlq, hfree⟩ := S
  have hta : ∀ w ∈ tl_L, w.before #[Value.ref b] s = true := fun w h => hts w (List.mem_filter.mp h).1
  have hA : ∀ q : Nat, s.heap.size ≤ q → A q := fun q h => by rw [hAe]; exact h
  have hbA : ¬ A b := by rw [hAe]; exact Nat.not_le.mpr hbl
  have hAf : ∀ (H : Heap), s.heap.size ≤ H.size → ∀ q, tp_A L H.size q → A q := fun H h q hq => hq.elim (hAL q) (fun h2 => hA q (Nat.le_trans h h2))
  have hRc : room_1.cells = 600000 := rfl
  have hRs : room_1.slots = 7302249 := rfl
  have hI0 := hI
  have hD : va_D A (va_pl L f) := tp_D hL hAL
  have htx := hlq.2.2.2.2.1
  have hsd := hlq.2.2.1
  have hs := ts_hs hsd
  have hraw := ts_raw hsd
  have hslp := ts_slp hsd
  have hdp := ts_dp hsd
  have hm0 := hlq.2.2.2.2.2
  have hIM : Γ (12, 4, 0) = Γ (12, 4, 0) := rfl
  refine lv_aload_n hx hb dL_law_1715 rfl (lv_at hl 2 rfl) ?_
  refine lv_aload_n hx hb dL_law_1716 rfl (lv_at hl 3 rfl) ?_
  refine lv_iload_n hx hb dL_law_1717 rfl (lv_at hl 0 rfl) ?_
  refine lv_iconst (v := 1) hx hb dL_law_1718 (by decide) ?_
  refine lv_iadd hx hb dL_law_1719 ?_
  refine lv_topi (fun z_1 ez_1 => ?_)
  try have iz_1 : z_1.toInt = i.toInt + (1 : Int) := by rw [ez_1]; exact tl_addN i 1 rfl rfl (by omega) (by omega)
  refine va_sld hx hb hX hbl hbA hS (tl_in (by omega) (by omega)) dL_law_1720 ?_
  refine lv_topi (fun z_2 ez_2 => ?_)
  refine lv_aload_n hx hb dL_law_1721 rfl (lv_at hl 3 rfl) ?_
  refine lv_iload_n hx hb dL_law_1722 rfl (lv_at hl 0 rfl) ?_
  refine lv_iconst (v := 2) hx hb dL_law_1723 (by decide) ?_
  refine lv_iadd hx hb dL_law_1724 ?_
  refine lv_topi (fun z_3 ez_3 => ?_)
  try have iz_3 : z_3.toInt = i.toInt + (2 : Int) := by rw [ez_3]; exact tl_addN i 2 rfl rfl (by omega) (by omega)
  refine va_sld hx hb hX hbl hbA hS (tl_in (by omega) (by omega)) dL_law_1725 ?_
  refine lv_topi (fun z_4 ez_4 => ?_)
  obtain ⟨x_6, x_7, x_8, x_9, x_10, x_11, x_12, x_13, x_14, x_15, x_16, x_17, x_18, x_19, x_20, x_21, hf_5, hx_6, hx_7, hx_8, hx_9, hx_10, hx_11, hx_12, hx_13, hx_14, hx_15, hx_16, hx_17, hx_18, hx_19, hx_20, hx_21⟩ := (show tp_o_X L K (0) 0 (Γ (0, 0, 0)) (f xq) from hI.at hxq)
  refine tq_ci hS (hAf _ hS.1) (tq_rV (As := [.int z_2, .int z_4]) (rest := []) ⟨hx, hb, hml, hown, hta⟩ (tp_P.pre hK hN hL hU hI hP) (tp_recv hK hP hxq.1 hf_5 rfl) lk_L_162 (t_X11_odd l D cy H.size L K Γ f xq z_2 z_4 hxq) rfl rfl ⟨Nat.le_of_ble_eq_true rfl, Nat.le_of_ble_eq_true rfl⟩ rfl hl.1 rfl (Nat.le_of_ble_eq_true rfl) dL_law_1726 ⟨by rw [hRc]; omega, by rw [hRs]; omega⟩) (fun r_23 f_24 H locs hw_22 hP hI hc_25 hS => ?_)
  have hD : va_D A (va_pl L f_24) := tp_D hL hAL
  have hf_26 := (tp_un hc_25 hxq (by decide)).trans hf_5
  refine lv_pop hx hb dL_law_1729 rfl ?_
  refine lv_aload_n hx hb dL_law_1730 rfl (lv_at hl 1 rfl) ?_
  refine lv_aload_n hx hb dL_law_1731 rfl (lv_at hl 3 rfl) ?_
  refine lv_iload_n hx hb dL_law_1732 rfl (lv_at hl 0 rfl) ?_
  refine lv_iconst (v := 1) hx hb dL_law_1733 (by decide) ?_
  refine lv_iadd hx hb dL_law_1734 ?_
  refine lv_topi (fun z_27 ez_27 => ?_)
  obtain rfl : z_1 = z_27 := ez_1.trans ez_27.symm
  refine va_sld hx hb hX hbl hbA hS (tl_in (by omega) (by omega)) dL_law_1735 ?_
  refine lv_topi (fun z_28 ez_28 => ?_)
  obtain rfl : z_2 = z_28 := ez_2.trans ez_28.symm
  refine lv_aload_n hx hb dL_law_1736 rfl (lv_at hl 3 rfl) ?_
  refine lv_iload_n hx hb dL_law_1737 rfl (lv_at hl 0 rfl) ?_
  refine lv_iconst (v := 2) hx hb dL_law_1738 (by decide) ?_
  refine lv_iadd hx hb dL_law_1739 ?_
  refine lv_topi (fun z_29 ez_29 => ?_)
  obtain rfl : z_3 = z_29 := ez_3.trans ez_29.symm
  refine va_sld hx hb hX hbl hbA hS (tl_in (by omega) (by omega)) dL_law_1740 ?_
  refine lv_topi (fun z_30 ez_30 => ?_)
  obtain rfl : z_4 = z_30 := ez_4.trans ez_30.symm
  obtain ⟨r_32, v_33, q_34, hf_31, hr_35, hv_36⟩ := (show tp_o_M L K 0 0 (Γ (39, 0, 0)) (f_24 mq) from hI.at hmq)
  refine tq_ciR hS (hAf _ hS.1) (tq_rV (As := [.int z_2, .int z_4]) (rest := []) ⟨hx, hb, hml, hown, hta⟩ (tp_P.pre hK hN hL hU hI hP) (tp_recv hK hP hmq.1 hf_31 rfl) lk_L_165 (r_X12_odd l D cy H.size L K Γ f_24 mq z_2 z_4 hmq (by first | omega | (simp only [Int32.toInt_toInt64]; omega) | decide | assumption) (by first | omega | (simp only [Int32.toInt_toInt64]; omega) | decide | assumption)) rfl rfl ⟨Nat.le_of_ble_eq_true rfl, Nat.le_of_ble_eq_true rfl⟩ rfl hl.1 rfl (Nat.le_of_ble_eq_true rfl) dL_law_1741 ⟨by rw [hRc]; omega, by rw [hRs]; omega⟩) (fun r_38 f_39 Γ_41 H locs hw_37 hP hI hc_40 hcg_42 hS => ?_)
  have hD : va_D A (va_pl L f_39) := tp_D hL hAL
  have hf_43 := (tp_un hc_40 hxq (by decide)).trans hf_26
  have hw_37 : Γ_41 (39, 0, 0) 0 = Γ (39, 0, 0) 0 := hw_37
  have hlq9 : lq Γ_41 := hlq.quiet hcg_42 (by decide) (by omega)
  have hfree9 : ∀ j : Nat, Γ_41 (12, 4, 0) j = 0 → ∀ a ∈ L, ¬ (K a).2.2 = j + 1 := fun j q a ha => hfree j (by rw [← (hcg_42 (12, 4, 0) (by decide)).trans hIM]; exact q) a ha
  refine lv_pop hx hb dL_law_1744 rfl ?_
  refine lv_goto (tgt := 2005) hx hb dL_law_1745 (by decide) ?_
  exact W.widen (k := cells + 41) (n := slots + 8199) (by omega) (by omega) (kk L K Γ_41 f_39 H locs ls ⟨hP, hI, hL, hU, hAL, hS, hxq, hmq, hlq9, hfree9⟩ (lv_sub hl [0, 1, 2, 3] rfl))
set_option maxHeartbeats 4000000 in
set_option maxRecDepth 100000 in
theorem tl_law_36 {p : Program} {e : Env} {s : State} {m : MethodId} {below : List Frame} {meth : Method} {c : Code} (l : Launch) {b N : Nat} {xs : Nat → Int32} (C0 : lw_At p s m meth c b N xs) (D : va_G) (cy : Nat → ClassId) (hK : va_K D vwCl (tl_T cy) s) (hN : tl_ok s) (Z : ts_Y) {A : Nat → Prop} (hAe : A = fun q : Nat => s.heap.size ≤ q) (hZ : ts_Z A Z s s.heap) (xq mq : Nat) (i : Int32) (hi : 0 ≤ i.toInt ∧ i.toInt + 7 ≤ N ∧ N ≤ 3584) {cells slots : Nat} (hcs : cells + 41 ≤ 600000 ∧ slots + 8199 ≤ 7302249) {L : List Nat} {K : Nat → tk_K} {Γ : tk_G} {f : Nat → va_E} {H : Heap} {locs : List Loc} {ls : Array Slot} (S : lq_S D cy A s L K Γ f H locs xq mq) (hl : lv_has ls 4 [(3, .int i), (2, .ref mq), (1, .ref xq), (0, .ref b)]) (kk : ∀ (L : List Nat) (K : Nat → tk_K) (Γ : tk_G) (f : Nat → va_E) (H : Heap) (locs : List Loc) (ls : Array Slot), lq_S D cy A s L K Γ f H locs xq mq → lv_has ls 4 [(3, .int i), (2, .ref mq), (1, .ref xq), (0, .ref b)] → W p l e room_1 s m #[Value.ref b] below meth c H locs (cells + 41) (slots + 8199) (lw_Z below #[Value.ref b] s) (F0 m 2005 ls [])) : W p l e room_1 s m #[Value.ref b] below meth c H locs cells slots (lw_Z below #[Value.ref b] s) (F0 m 1748 ls []) := by
  obtain ⟨hx, hb, hr, hml, hown, hts, hX, hbl, hlocks, hgv⟩ := id C0
  obtain ⟨hP, hI, hL, hU, hAL, hS, hxq, hmq, hlq, hfree⟩ := S
  have hta : ∀ w ∈ tl_L, w.before #[Value.ref b] s = true := fun w h => hts w (List.mem_filter.mp h).1
  have hA : ∀ q : Nat, s.heap.size ≤ q → A q := fun q h => by rw [hAe]; exact h
  have hbA : ¬ A b := by rw [hAe]; exact Nat.not_le.mpr hbl
  have hAf : ∀ (H : Heap), s.heap.size ≤ H.size → ∀ q, tp_A L H.size q → A q := fun H h q hq => hq.elim (hAL q) (fun h2 => hA q (Nat.le_trans h h2))
  have hRc : room_1.cells = 600000 := rfl
  have hRs : room_1.slots = 7302249 := rfl
  have hI0 := hI
  have hD : va_D A (va_pl L f) := tp_D hL hAL
  have htx := hlq.2.2.2.2.1
  have hsd := hlq.2.2.1
  have hs := ts_hs hsd
  have hraw := ts_raw hsd
  have hslp := ts_slp hsd
  have hdp := ts_dp hsd
  have hm0 := hlq.2.2.2.2.2
  have hIM : Γ (12, 4, 0) = Γ (12, 4, 0) := rfl
  refine lv_aload_n hx hb dL_law_1748 rfl (lv_at hl 2 rfl) ?_
  refine lv_aload_n hx hb dL_law_1749 rfl (lv_at hl 3 rfl) ?_
  refine lv_iload_n hx hb dL_law_1750 rfl (lv_at hl 0 rfl) ?_
  refine lv_iconst (v := 1) hx hb dL_law_1751 (by decide) ?_
  refine lv_iadd hx hb dL_law_1752 ?_
  refine lv_topi (fun z_1 ez_1 => ?_)
  try have iz_1 : z_1.toInt = i.toInt + (1 : Int) := by rw [ez_1]; exact tl_addN i 1 rfl rfl (by omega) (by omega)
  refine va_sld hx hb hX hbl hbA hS (tl_in (by omega) (by omega)) dL_law_1753 ?_
  refine lv_topi (fun z_2 ez_2 => ?_)
  refine lv_aload_n hx hb dL_law_1754 rfl (lv_at hl 3 rfl) ?_
  refine lv_iload_n hx hb dL_law_1755 rfl (lv_at hl 0 rfl) ?_
  refine lv_iconst (v := 2) hx hb dL_law_1756 (by decide) ?_
  refine lv_iadd hx hb dL_law_1757 ?_
  refine lv_topi (fun z_3 ez_3 => ?_)
  try have iz_3 : z_3.toInt = i.toInt + (2 : Int) := by rw [ez_3]; exact tl_addN i 2 rfl rfl (by omega) (by omega)
  refine va_sld hx hb hX hbl hbA hS (tl_in (by omega) (by omega)) dL_law_1758 ?_
  refine lv_topi (fun z_4 ez_4 => ?_)
  obtain ⟨x_6, x_7, x_8, x_9, x_10, x_11, x_12, x_13, x_14, x_15, x_16, x_17, x_18, x_19, x_20, x_21, hf_5, hx_6, hx_7, hx_8, hx_9, hx_10, hx_11, hx_12, hx_13, hx_14, hx_15, hx_16, hx_17, hx_18, hx_19, hx_20, hx_21⟩ := (show tp_o_X L K (0) 0 (Γ (0, 0, 0)) (f xq) from hI.at hxq)
  refine tq_ci hS (hAf _ hS.1) (tq_rV (As := [.int z_2, .int z_4]) (rest := []) ⟨hx, hb, hml, hown, hta⟩ (tp_P.pre hK hN hL hU hI hP) (tp_recv hK hP hxq.1 hf_5 rfl) lk_L_166 (t_X11_candidate l D cy H.size L K Γ f xq z_2 z_4 hxq) rfl rfl ⟨Nat.le_of_ble_eq_true rfl, Nat.le_of_ble_eq_true rfl⟩ rfl hl.1 rfl (Nat.le_of_ble_eq_true rfl) dL_law_1759 ⟨by rw [hRc]; omega, by rw [hRs]; omega⟩) (fun r_23 f_24 H locs hw_22 hP hI hc_25 hS => ?_)
  have hD : va_D A (va_pl L f_24) := tp_D hL hAL
  have hf_26 := (tp_un hc_25 hxq (by decide)).trans hf_5
  obtain ⟨Γ_27, eΓ_27⟩ : ∃ y : tk_G, y = if (0 ≤ z_2.toInt ∧ z_2.toInt ≤ 3) ∧ 1 ≤ z_4.toInt ∧ z_4.toInt ≤ 99 then tm_add Γ (7, 10, 0) (8, 4 * 10, 0) 10 z_2.toInt z_4.toInt 0 0 else Γ := ⟨_, rfl⟩
  have hI : tp_I cy L K Γ_27 f_24 := by rw [eΓ_27]; exact hI
  have hw_22 : r_23.toInt = if (0 ≤ z_2.toInt ∧ z_2.toInt ≤ 3) ∧ 1 ≤ z_4.toInt ∧ z_4.toInt ≤ 99 then tm_at 10 (Γ (7, 10, 0) 0) else -1 := hw_22
  have hSA1 : Γ_27 (40, 7666, 0) = Γ (40, 7666, 0) := (by rw [eΓ_27]; split; exact lq_add _ _ _ (by decide); rfl)
  have hIM : Γ_27 (12, 4, 0) = Γ (12, 4, 0) := (by rw [eΓ_27]; split; exact lq_add _ _ _ (by decide); rfl)
  have hs : (0 ≤ Γ_27 (40, 7666, 0) 1 ∧ Γ_27 (40, 7666, 0) 1 ≤ 24) ∧ (0 ≤ Γ_27 (40, 7666, 0) 2 ∧ Γ_27 (40, 7666, 0) 2 ≤ 40) ∧ (0 ≤ Γ_27 (40, 7666, 0) 3 ∧ Γ_27 (40, 7666, 0) 3 ≤ 60) ∧ (0 ≤ Γ_27 (40, 7666, 0) 4 ∧ Γ_27 (40, 7666, 0) 4 ≤ 10) ∧ (0 ≤ Γ_27 (40, 7666, 0) 7665 ∧ Γ_27 (40, 7666, 0) 7665 ≤ 8) := by rw [hSA1]; exact hs
  have hdp : ∀ l : Nat, (l : Int) < Γ_27 (40, 7666, 0) 3 → 1 ≤ Γ_27 (40, 7666, 0) (243 + 3 * l) := by rw [hSA1]; exact hdp
  refine lv_pop hx hb dL_law_1762 rfl ?_
  refine lv_aload_n hx hb dL_law_1763 rfl (lv_at hl 1 rfl) ?_
  refine lv_aload_n hx hb dL_law_1764 rfl (lv_at hl 3 rfl) ?_
  refine lv_iload_n hx hb dL_law_1765 rfl (lv_at hl 0 rfl) ?_
  refine lv_iconst (v := 1) hx hb dL_law_1766 (by decide) ?_
  refine lv_iadd hx hb dL_law_1767 ?_
  refine lv_topi (fun z_28 ez_28 => ?_)
  obtain rfl : z_1 = z_28 := ez_1.trans ez_28.symm
  refine va_sld hx hb hX hbl hbA hS (tl_in (by omega) (by omega)) dL_law_1768 ?_
  refine lv_topi (fun z_29 ez_29 => ?_)
  obtain rfl : z_2 = z_29 := ez_2.trans ez_29.symm
  refine lv_aload_n hx hb dL_law_1769 rfl (lv_at hl 3 rfl) ?_
  refine lv_iload_n hx hb dL_law_1770 rfl (lv_at hl 0 rfl) ?_
  refine lv_iconst (v := 2) hx hb dL_law_1771 (by decide) ?_
  refine lv_iadd hx hb dL_law_1772 ?_
  refine lv_topi (fun z_30 ez_30 => ?_)
  obtain rfl : z_3 = z_30 := ez_3.trans ez_30.symm
  refine va_sld hx hb hX hbl hbA hS (tl_in (by omega) (by omega)) dL_law_1773 ?_
  refine lv_topi (fun z_31 ez_31 => ?_)
  obtain rfl : z_4 = z_31 := ez_4.trans ez_31.symm
  obtain ⟨r_33, v_34, q_35, hf_32, hr_36, hv_37⟩ := (show tp_o_M L K 0 0 (Γ_27 (39, 0, 0)) (f_24 mq) from hI.at hmq)
  refine tq_ciR hS (hAf _ hS.1) (tq_rV (As := [.int z_2, .int z_4]) (rest := []) ⟨hx, hb, hml, hown, hta⟩ (tp_P.pre hK hN hL hU hI hP) (tp_recv hK hP hmq.1 hf_32 rfl) lk_L_169 (r_X12_candidate l D cy H.size L K Γ_27 f_24 mq z_2 z_4 hmq (by first | omega | (simp only [Int32.toInt_toInt64]; omega) | decide | assumption)) rfl rfl ⟨Nat.le_of_ble_eq_true rfl, Nat.le_of_ble_eq_true rfl⟩ rfl hl.1 rfl (Nat.le_of_ble_eq_true rfl) dL_law_1774 ⟨by rw [hRc]; omega, by rw [hRs]; omega⟩) (fun r_39 f_40 Γ_42 H locs hw_38 hP hI hc_41 hcg_43 hS => ?_)
  have hD : va_D A (va_pl L f_40) := tp_D hL hAL
  have hf_44 := (tp_un hc_41 hxq (by decide)).trans hf_26
  have hf_45 := (tp_un hc_41 hmq (by decide)).trans hf_32
  have hw_38 : r_39.toInt = (if ¬ Γ_27 (40, 7666, 0) 4 = 10 ∧ (0 ≤ z_2.toInt ∧ z_2.toInt ≤ 3) ∧ 1 ≤ z_4.toInt ∧ z_4.toInt ≤ 99 then Γ_27 (40, 7666, 0) 4 else -1) ∧ Γ_42 (40, 7666, 0) = if ¬ Γ_27 (40, 7666, 0) 4 = 10 ∧ (0 ≤ z_2.toInt ∧ z_2.toInt ≤ 3) ∧ 1 ≤ z_4.toInt ∧ z_4.toInt ≤ 99 then tgu (tgu (tgu (Γ_27 (40, 7666, 0)) (421 + 2 * Γ_27 (40, 7666, 0) 4 + 0).toNat (z_2.toInt)) (421 + 2 * Γ_27 (40, 7666, 0) 4 + 1).toNat (z_4.toInt)) 4 (Γ_27 (40, 7666, 0) 4 + 1) else Γ_27 (40, 7666, 0) := hw_38
  have hst := s_candidate hlq eΓ_27 hcg_43 hw_38.2
  have hlq9 := hst.1
  have hfree9 : ∀ j : Nat, Γ_42 (12, 4, 0) j = 0 → ∀ a ∈ L, ¬ (K a).2.2 = j + 1 := fun j q a ha => hfree j (by rw [← (hcg_43 (12, 4, 0) (by decide)).trans hIM]; exact q) a ha
  refine lv_pop hx hb dL_law_1777 rfl ?_
  refine lv_goto (tgt := 2005) hx hb dL_law_1778 (by decide) ?_
  exact W.widen (k := cells + 41) (n := slots + 8199) (by omega) (by omega) (kk L K Γ_42 f_40 H locs ls ⟨hP, hI, hL, hU, hAL, hS, hxq, hmq, hlq9, hfree9⟩ (lv_sub hl [0, 1, 2, 3] rfl))
set_option maxHeartbeats 4000000 in
set_option maxRecDepth 100000 in
theorem tl_law_37 {p : Program} {e : Env} {s : State} {m : MethodId} {below : List Frame} {meth : Method} {c : Code} (l : Launch) {b N : Nat} {xs : Nat → Int32} (C0 : lw_At p s m meth c b N xs) (D : va_G) (cy : Nat → ClassId) (hK : va_K D vwCl (tl_T cy) s) (hN : tl_ok s) (Z : ts_Y) {A : Nat → Prop} (hAe : A = fun q : Nat => s.heap.size ≤ q) (hZ : ts_Z A Z s s.heap) (xq mq : Nat) (i : Int32) (hi : 0 ≤ i.toInt ∧ i.toInt + 7 ≤ N ∧ N ≤ 3584) {cells slots : Nat} (hcs : cells + 41 ≤ 600000 ∧ slots + 8199 ≤ 7302249) {L : List Nat} {K : Nat → tk_K} {Γ : tk_G} {f : Nat → va_E} {H : Heap} {locs : List Loc} {ls : Array Slot} (S : lq_S D cy A s L K Γ f H locs xq mq) (hl : lv_has ls 4 [(3, .int i), (2, .ref mq), (1, .ref xq), (0, .ref b)]) (kk : ∀ (L : List Nat) (K : Nat → tk_K) (Γ : tk_G) (f : Nat → va_E) (H : Heap) (locs : List Loc) (ls : Array Slot), lq_S D cy A s L K Γ f H locs xq mq → lv_has ls 4 [(3, .int i), (2, .ref mq), (1, .ref xq), (0, .ref b)] → W p l e room_1 s m #[Value.ref b] below meth c H locs (cells + 41) (slots + 8199) (lw_Z below #[Value.ref b] s) (F0 m 2005 ls [])) : W p l e room_1 s m #[Value.ref b] below meth c H locs cells slots (lw_Z below #[Value.ref b] s) (F0 m 1781 ls []) := by
  obtain ⟨hx, hb, hr, hml, hown, hts, hX, hbl, hlocks, hgv⟩ := id C0
  obtain ⟨hP, hI, hL, hU, hAL, hS, hxq, hmq, hlq, hfree⟩ := S
  have hta : ∀ w ∈ tl_L, w.before #[Value.ref b] s = true := fun w h => hts w (List.mem_filter.mp h).1
  have hA : ∀ q : Nat, s.heap.size ≤ q → A q := fun q h => by rw [hAe]; exact h
  have hbA : ¬ A b := by rw [hAe]; exact Nat.not_le.mpr hbl
  have hAf : ∀ (H : Heap), s.heap.size ≤ H.size → ∀ q, tp_A L H.size q → A q := fun H h q hq => hq.elim (hAL q) (fun h2 => hA q (Nat.le_trans h h2))
  have hRc : room_1.cells = 600000 := rfl
  have hRs : room_1.slots = 7302249 := rfl
  have hI0 := hI
  have hD : va_D A (va_pl L f) := tp_D hL hAL
  have htx := hlq.2.2.2.2.1
  have hsd := hlq.2.2.1
  have hs := ts_hs hsd
  have hraw := ts_raw hsd
  have hslp := ts_slp hsd
  have hdp := ts_dp hsd
  have hm0 := hlq.2.2.2.2.2
  have hIM : Γ (12, 4, 0) = Γ (12, 4, 0) := rfl
  refine lv_aload_n hx hb dL_law_1781 rfl (lv_at hl 2 rfl) ?_
  refine lv_aload_n hx hb dL_law_1782 rfl (lv_at hl 3 rfl) ?_
  refine lv_iload_n hx hb dL_law_1783 rfl (lv_at hl 0 rfl) ?_
  refine lv_iconst (v := 1) hx hb dL_law_1784 (by decide) ?_
  refine lv_iadd hx hb dL_law_1785 ?_
  refine lv_topi (fun z_1 ez_1 => ?_)
  try have iz_1 : z_1.toInt = i.toInt + (1 : Int) := by rw [ez_1]; exact tl_addN i 1 rfl rfl (by omega) (by omega)
  refine va_sld hx hb hX hbl hbA hS (tl_in (by omega) (by omega)) dL_law_1786 ?_
  refine lv_topi (fun z_2 ez_2 => ?_)
  refine lv_aload_n hx hb dL_law_1787 rfl (lv_at hl 3 rfl) ?_
  refine lv_iload_n hx hb dL_law_1788 rfl (lv_at hl 0 rfl) ?_
  refine lv_iconst (v := 2) hx hb dL_law_1789 (by decide) ?_
  refine lv_iadd hx hb dL_law_1790 ?_
  refine lv_topi (fun z_3 ez_3 => ?_)
  try have iz_3 : z_3.toInt = i.toInt + (2 : Int) := by rw [ez_3]; exact tl_addN i 2 rfl rfl (by omega) (by omega)
  refine va_sld hx hb hX hbl hbA hS (tl_in (by omega) (by omega)) dL_law_1791 ?_
  refine lv_topi (fun z_4 ez_4 => ?_)
  refine lv_aload_n hx hb dL_law_1792 rfl (lv_at hl 3 rfl) ?_
  refine lv_iload_n hx hb dL_law_1793 rfl (lv_at hl 0 rfl) ?_
  refine lv_iconst (v := 3) hx hb dL_law_1794 (by decide) ?_
  refine lv_iadd hx hb dL_law_1795 ?_
  refine lv_topi (fun z_5 ez_5 => ?_)
  try have iz_5 : z_5.toInt = i.toInt + (3 : Int) := by rw [ez_5]; exact tl_addN i 3 rfl rfl (by omega) (by omega)
  refine va_sld hx hb hX hbl hbA hS (tl_in (by omega) (by omega)) dL_law_1796 ?_
  refine lv_topi (fun z_6 ez_6 => ?_)
  obtain ⟨x_8, x_9, x_10, x_11, x_12, x_13, x_14, x_15, x_16, x_17, x_18, x_19, x_20, x_21, x_22, x_23, hf_7, hx_8, hx_9, hx_10, hx_11, hx_12, hx_13, hx_14, hx_15, hx_16, hx_17, hx_18, hx_19, hx_20, hx_21, hx_22, hx_23⟩ := (show tp_o_X L K (0) 0 (Γ (0, 0, 0)) (f xq) from hI.at hxq)
  refine tq_cl hS (hAf _ hS.1) (tq_rV (As := [.int z_2, .int z_4, .int z_6]) (rest := []) ⟨hx, hb, hml, hown, hta⟩ (tp_P.pre hK hN hL hU hI hP) (tp_recv hK hP hxq.1 hf_7 rfl) lk_L_170 (t_X11_next l D cy H.size L K Γ f xq z_2 z_4 z_6 hxq) rfl rfl ⟨Nat.le_of_ble_eq_true rfl, Nat.le_of_ble_eq_true rfl⟩ rfl hl.1 rfl (Nat.le_of_ble_eq_true rfl) dL_law_1797 ⟨by rw [hRc]; omega, by rw [hRs]; omega⟩) (fun r_25 f_26 H locs hw_24 hP hI hc_27 hS => ?_)
  have hD : va_D A (va_pl L f_26) := tp_D hL hAL
  have hf_28 := (tp_un hc_27 hxq (by decide)).trans hf_7
  refine lv_pop2_2 hx hb dL_law_1800 rfl ?_
  refine lv_aload_n hx hb dL_law_1801 rfl (lv_at hl 1 rfl) ?_
  refine lv_aload_n hx hb dL_law_1802 rfl (lv_at hl 3 rfl) ?_
  refine lv_iload_n hx hb dL_law_1803 rfl (lv_at hl 0 rfl) ?_
  refine lv_iconst (v := 1) hx hb dL_law_1804 (by decide) ?_
  refine lv_iadd hx hb dL_law_1805 ?_
  refine lv_topi (fun z_29 ez_29 => ?_)
  obtain rfl : z_1 = z_29 := ez_1.trans ez_29.symm
  refine va_sld hx hb hX hbl hbA hS (tl_in (by omega) (by omega)) dL_law_1806 ?_
  refine lv_topi (fun z_30 ez_30 => ?_)
  obtain rfl : z_2 = z_30 := ez_2.trans ez_30.symm
  refine lv_aload_n hx hb dL_law_1807 rfl (lv_at hl 3 rfl) ?_
  refine lv_iload_n hx hb dL_law_1808 rfl (lv_at hl 0 rfl) ?_
  refine lv_iconst (v := 2) hx hb dL_law_1809 (by decide) ?_
  refine lv_iadd hx hb dL_law_1810 ?_
  refine lv_topi (fun z_31 ez_31 => ?_)
  obtain rfl : z_3 = z_31 := ez_3.trans ez_31.symm
  refine va_sld hx hb hX hbl hbA hS (tl_in (by omega) (by omega)) dL_law_1811 ?_
  refine lv_topi (fun z_32 ez_32 => ?_)
  obtain rfl : z_4 = z_32 := ez_4.trans ez_32.symm
  refine lv_aload_n hx hb dL_law_1812 rfl (lv_at hl 3 rfl) ?_
  refine lv_iload_n hx hb dL_law_1813 rfl (lv_at hl 0 rfl) ?_
  refine lv_iconst (v := 3) hx hb dL_law_1814 (by decide) ?_
  refine lv_iadd hx hb dL_law_1815 ?_
  refine lv_topi (fun z_33 ez_33 => ?_)
  obtain rfl : z_5 = z_33 := ez_5.trans ez_33.symm
  refine va_sld hx hb hX hbl hbA hS (tl_in (by omega) (by omega)) dL_law_1816 ?_
  refine lv_topi (fun z_34 ez_34 => ?_)
  obtain rfl : z_6 = z_34 := ez_6.trans ez_34.symm
  obtain ⟨r_36, v_37, q_38, hf_35, hr_39, hv_40⟩ := (show tp_o_M L K 0 0 (Γ (39, 0, 0)) (f_26 mq) from hI.at hmq)
  refine tq_clR hS (hAf _ hS.1) (tq_rV (As := [.int z_2, .int z_4, .int z_6]) (rest := []) ⟨hx, hb, hml, hown, hta⟩ (tp_P.pre hK hN hL hU hI hP) (tp_recv hK hP hmq.1 hf_35 rfl) lk_L_173 (r_X12_next l D cy H.size L K Γ f_26 mq z_2 z_4 z_6 hmq (by first | omega | (simp only [Int32.toInt_toInt64]; omega) | decide | assumption) (by first | omega | (simp only [Int32.toInt_toInt64]; omega) | decide | assumption)) rfl rfl ⟨Nat.le_of_ble_eq_true rfl, Nat.le_of_ble_eq_true rfl⟩ rfl hl.1 rfl (Nat.le_of_ble_eq_true rfl) dL_law_1817 ⟨by rw [hRc]; omega, by rw [hRs]; omega⟩) (fun r_42 f_43 Γ_45 H locs hw_41 hP hI hc_44 hcg_46 hS => ?_)
  have hD : va_D A (va_pl L f_43) := tp_D hL hAL
  have hf_47 := (tp_un hc_44 hxq (by decide)).trans hf_28
  have hw_41 : Γ_45 (39, 0, 0) 0 = Γ (39, 0, 0) 0 := hw_41
  have hlq9 : lq Γ_45 := hlq.quiet hcg_46 (by decide) (by omega)
  have hfree9 : ∀ j : Nat, Γ_45 (12, 4, 0) j = 0 → ∀ a ∈ L, ¬ (K a).2.2 = j + 1 := fun j q a ha => hfree j (by rw [← (hcg_46 (12, 4, 0) (by decide)).trans hIM]; exact q) a ha
  refine lv_pop2_2 hx hb dL_law_1820 rfl ?_
  refine lv_goto (tgt := 2005) hx hb dL_law_1821 (by decide) ?_
  exact W.widen (k := cells + 41) (n := slots + 8199) (by omega) (by omega) (kk L K Γ_45 f_43 H locs ls ⟨hP, hI, hL, hU, hAL, hS, hxq, hmq, hlq9, hfree9⟩ (lv_sub hl [0, 1, 2, 3] rfl))
set_option maxHeartbeats 4000000 in
set_option maxRecDepth 100000 in
theorem tl_law_38 {p : Program} {e : Env} {s : State} {m : MethodId} {below : List Frame} {meth : Method} {c : Code} (l : Launch) {b N : Nat} {xs : Nat → Int32} (C0 : lw_At p s m meth c b N xs) (D : va_G) (cy : Nat → ClassId) (hK : va_K D vwCl (tl_T cy) s) (hN : tl_ok s) (Z : ts_Y) {A : Nat → Prop} (hAe : A = fun q : Nat => s.heap.size ≤ q) (hZ : ts_Z A Z s s.heap) (xq mq : Nat) (i : Int32) (hi : 0 ≤ i.toInt ∧ i.toInt + 7 ≤ N ∧ N ≤ 3584) {cells slots : Nat} (hcs : cells + 41 ≤ 600000 ∧ slots + 8199 ≤ 7302249) {L : List Nat} {K : Nat → tk_K} {Γ : tk_G} {f : Nat → va_E} {H : Heap} {locs : List Loc} {ls : Array Slot} (S : lq_S D cy A s L K Γ f H locs xq mq) (hl : lv_has ls 4 [(3, .int i), (2, .ref mq), (1, .ref xq), (0, .ref b)]) (kk : ∀ (L : List Nat) (K : Nat → tk_K) (Γ : tk_G) (f : Nat → va_E) (H : Heap) (locs : List Loc) (ls : Array Slot), lq_S D cy A s L K Γ f H locs xq mq → lv_has ls 4 [(3, .int i), (2, .ref mq), (1, .ref xq), (0, .ref b)] → W p l e room_1 s m #[Value.ref b] below meth c H locs (cells + 41) (slots + 8199) (lw_Z below #[Value.ref b] s) (F0 m 2005 ls [])) : W p l e room_1 s m #[Value.ref b] below meth c H locs cells slots (lw_Z below #[Value.ref b] s) (F0 m 1824 ls []) := by
  obtain ⟨hx, hb, hr, hml, hown, hts, hX, hbl, hlocks, hgv⟩ := id C0
  obtain ⟨hP, hI, hL, hU, hAL, hS, hxq, hmq, hlq, hfree⟩ := S
  have hta : ∀ w ∈ tl_L, w.before #[Value.ref b] s = true := fun w h => hts w (List.mem_filter.mp h).1
  have hA : ∀ q : Nat, s.heap.size ≤ q → A q := fun q h => by rw [hAe]; exact h
  have hbA : ¬ A b := by rw [hAe]; exact Nat.not_le.mpr hbl
  have hAf : ∀ (H : Heap), s.heap.size ≤ H.size → ∀ q, tp_A L H.size q → A q := fun H h q hq => hq.elim (hAL q) (fun h2 => hA q (Nat.le_trans h h2))
  have hRc : room_1.cells = 600000 := rfl
  have hRs : room_1.slots = 7302249 := rfl
  have hI0 := hI
  have hD : va_D A (va_pl L f) := tp_D hL hAL
  have htx := hlq.2.2.2.2.1
  have hsd := hlq.2.2.1
  have hs := ts_hs hsd
  have hraw := ts_raw hsd
  have hslp := ts_slp hsd
  have hdp := ts_dp hsd
  have hm0 := hlq.2.2.2.2.2
  have hIM : Γ (12, 4, 0) = Γ (12, 4, 0) := rfl
  refine lv_aload_n hx hb dL_law_1824 rfl (lv_at hl 2 rfl) ?_
  refine lv_aload_n hx hb dL_law_1825 rfl (lv_at hl 3 rfl) ?_
  refine lv_iload_n hx hb dL_law_1826 rfl (lv_at hl 0 rfl) ?_
  refine lv_iconst (v := 1) hx hb dL_law_1827 (by decide) ?_
  refine lv_iadd hx hb dL_law_1828 ?_
  refine lv_topi (fun z_1 ez_1 => ?_)
  try have iz_1 : z_1.toInt = i.toInt + (1 : Int) := by rw [ez_1]; exact tl_addN i 1 rfl rfl (by omega) (by omega)
  refine va_sld hx hb hX hbl hbA hS (tl_in (by omega) (by omega)) dL_law_1829 ?_
  refine lv_topi (fun z_2 ez_2 => ?_)
  refine lv_aload_n hx hb dL_law_1830 rfl (lv_at hl 3 rfl) ?_
  refine lv_iload_n hx hb dL_law_1831 rfl (lv_at hl 0 rfl) ?_
  refine lv_iconst (v := 2) hx hb dL_law_1832 (by decide) ?_
  refine lv_iadd hx hb dL_law_1833 ?_
  refine lv_topi (fun z_3 ez_3 => ?_)
  try have iz_3 : z_3.toInt = i.toInt + (2 : Int) := by rw [ez_3]; exact tl_addN i 2 rfl rfl (by omega) (by omega)
  refine va_sld hx hb hX hbl hbA hS (tl_in (by omega) (by omega)) dL_law_1834 ?_
  refine lv_topi (fun z_4 ez_4 => ?_)
  obtain ⟨x_6, x_7, x_8, x_9, x_10, x_11, x_12, x_13, x_14, x_15, x_16, x_17, x_18, x_19, x_20, x_21, hf_5, hx_6, hx_7, hx_8, hx_9, hx_10, hx_11, hx_12, hx_13, hx_14, hx_15, hx_16, hx_17, hx_18, hx_19, hx_20, hx_21⟩ := (show tp_o_X L K (0) 0 (Γ (0, 0, 0)) (f xq) from hI.at hxq)
  refine tq_ci hS (hAf _ hS.1) (tq_rV (As := [.int z_2, .int z_4]) (rest := []) ⟨hx, hb, hml, hown, hta⟩ (tp_P.pre hK hN hL hU hI hP) (tp_recv hK hP hxq.1 hf_5 rfl) lk_L_174 (t_X11_told l D cy H.size L K Γ f xq z_2 z_4 hxq) rfl rfl ⟨Nat.le_of_ble_eq_true rfl, Nat.le_of_ble_eq_true rfl⟩ rfl hl.1 rfl (Nat.le_of_ble_eq_true rfl) dL_law_1835 ⟨by rw [hRc]; omega, by rw [hRs]; omega⟩) (fun r_23 f_24 H locs hw_22 hP hI hc_25 hS => ?_)
  have hD : va_D A (va_pl L f_24) := tp_D hL hAL
  have hf_26 := (tp_un hc_25 hxq (by decide)).trans hf_5
  obtain ⟨Γ_27, eΓ_27⟩ : ∃ y : tk_G, y = if (0 ≤ z_2.toInt ∧ z_2.toInt ≤ 3) ∧ 0 ≤ z_4.toInt ∧ z_4.toInt ≤ 9999 then tg Γ (2, 4, 0) z_2.toInt.toNat z_4.toInt else Γ := ⟨_, rfl⟩
  have hI : tp_I cy L K Γ_27 f_24 := by rw [eΓ_27]; exact hI
  have hw_22 : r_23.toInt = if (0 ≤ z_2.toInt ∧ z_2.toInt ≤ 3) ∧ 0 ≤ z_4.toInt ∧ z_4.toInt ≤ 9999 then Γ (2, 4, 0) z_2.toInt.toNat else -1 := hw_22
  have hSA1 : Γ_27 (40, 7666, 0) = Γ (40, 7666, 0) := (by rw [eΓ_27]; split; exact tg_rf (by decide); rfl)
  have hIM : Γ_27 (12, 4, 0) = Γ (12, 4, 0) := (by rw [eΓ_27]; split; exact tg_rf (by decide); rfl)
  have hs : (0 ≤ Γ_27 (40, 7666, 0) 1 ∧ Γ_27 (40, 7666, 0) 1 ≤ 24) ∧ (0 ≤ Γ_27 (40, 7666, 0) 2 ∧ Γ_27 (40, 7666, 0) 2 ≤ 40) ∧ (0 ≤ Γ_27 (40, 7666, 0) 3 ∧ Γ_27 (40, 7666, 0) 3 ≤ 60) ∧ (0 ≤ Γ_27 (40, 7666, 0) 4 ∧ Γ_27 (40, 7666, 0) 4 ≤ 10) ∧ (0 ≤ Γ_27 (40, 7666, 0) 7665 ∧ Γ_27 (40, 7666, 0) 7665 ≤ 8) := by rw [hSA1]; exact hs
  have hdp : ∀ l : Nat, (l : Int) < Γ_27 (40, 7666, 0) 3 → 1 ≤ Γ_27 (40, 7666, 0) (243 + 3 * l) := by rw [hSA1]; exact hdp
  refine lv_pop hx hb dL_law_1838 rfl ?_
  refine lv_aload_n hx hb dL_law_1839 rfl (lv_at hl 1 rfl) ?_
  refine lv_aload_n hx hb dL_law_1840 rfl (lv_at hl 3 rfl) ?_
  refine lv_iload_n hx hb dL_law_1841 rfl (lv_at hl 0 rfl) ?_
  refine lv_iconst (v := 1) hx hb dL_law_1842 (by decide) ?_
  refine lv_iadd hx hb dL_law_1843 ?_
  refine lv_topi (fun z_28 ez_28 => ?_)
  obtain rfl : z_1 = z_28 := ez_1.trans ez_28.symm
  refine va_sld hx hb hX hbl hbA hS (tl_in (by omega) (by omega)) dL_law_1844 ?_
  refine lv_topi (fun z_29 ez_29 => ?_)
  obtain rfl : z_2 = z_29 := ez_2.trans ez_29.symm
  refine lv_aload_n hx hb dL_law_1845 rfl (lv_at hl 3 rfl) ?_
  refine lv_iload_n hx hb dL_law_1846 rfl (lv_at hl 0 rfl) ?_
  refine lv_iconst (v := 2) hx hb dL_law_1847 (by decide) ?_
  refine lv_iadd hx hb dL_law_1848 ?_
  refine lv_topi (fun z_30 ez_30 => ?_)
  obtain rfl : z_3 = z_30 := ez_3.trans ez_30.symm
  refine va_sld hx hb hX hbl hbA hS (tl_in (by omega) (by omega)) dL_law_1849 ?_
  refine lv_topi (fun z_31 ez_31 => ?_)
  obtain rfl : z_4 = z_31 := ez_4.trans ez_31.symm
  obtain ⟨r_33, v_34, q_35, hf_32, hr_36, hv_37⟩ := (show tp_o_M L K 0 0 (Γ_27 (39, 0, 0)) (f_24 mq) from hI.at hmq)
  refine tq_ciR hS (hAf _ hS.1) (tq_rV (As := [.int z_2, .int z_4]) (rest := []) ⟨hx, hb, hml, hown, hta⟩ (tp_P.pre hK hN hL hU hI hP) (tp_recv hK hP hmq.1 hf_32 rfl) lk_L_177 (r_X12_told l D cy H.size L K Γ_27 f_24 mq z_2 z_4 hmq) rfl rfl ⟨Nat.le_of_ble_eq_true rfl, Nat.le_of_ble_eq_true rfl⟩ rfl hl.1 rfl (Nat.le_of_ble_eq_true rfl) dL_law_1850 ⟨by rw [hRc]; omega, by rw [hRs]; omega⟩) (fun r_39 f_40 Γ_42 H locs hw_38 hP hI hc_41 hcg_43 hS => ?_)
  have hD : va_D A (va_pl L f_40) := tp_D hL hAL
  have hf_44 := (tp_un hc_41 hxq (by decide)).trans hf_26
  have hf_45 := (tp_un hc_41 hmq (by decide)).trans hf_32
  have hw_38 : r_39.toInt = (if (0 ≤ z_2.toInt ∧ z_2.toInt ≤ 3) ∧ 0 ≤ z_4.toInt ∧ z_4.toInt ≤ 9999 then Γ_27 (40, 7666, 0) (5 + z_2.toInt).toNat else -1) ∧ Γ_42 (40, 7666, 0) = if (0 ≤ z_2.toInt ∧ z_2.toInt ≤ 3) ∧ 0 ≤ z_4.toInt ∧ z_4.toInt ≤ 9999 then tgu (Γ_27 (40, 7666, 0)) (5 + z_2.toInt).toNat z_4.toInt else Γ_27 (40, 7666, 0) := hw_38
  have hst := s_told hlq eΓ_27 hcg_43 hw_38.2
  have hlq9 := hst.1
  have hfree9 : ∀ j : Nat, Γ_42 (12, 4, 0) j = 0 → ∀ a ∈ L, ¬ (K a).2.2 = j + 1 := fun j q a ha => hfree j (by rw [← (hcg_43 (12, 4, 0) (by decide)).trans hIM]; exact q) a ha
  refine lv_pop hx hb dL_law_1853 rfl ?_
  refine lv_goto (tgt := 2005) hx hb dL_law_1854 (by decide) ?_
  exact W.widen (k := cells + 41) (n := slots + 8199) (by omega) (by omega) (kk L K Γ_42 f_40 H locs ls ⟨hP, hI, hL, hU, hAL, hS, hxq, hmq, hlq9, hfree9⟩ (lv_sub hl [0, 1, 2, 3] rfl))
set_option maxHeartbeats 4000000 in
set_option maxRecDepth 100000 in
theorem tl_law_39 {p : Program} {e : Env} {s : State} {m : MethodId} {below : List Frame} {meth : Method} {c : Code} (l : Launch) {b N : Nat} {xs : Nat → Int32} (C0 : lw_At p s m meth c b N xs) (D : va_G) (cy : Nat → ClassId) (hK : va_K D vwCl (tl_T cy) s) (hN : tl_ok s) (Z : ts_Y) {A : Nat → Prop} (hAe : A = fun q : Nat => s.heap.size ≤ q) (hZ : ts_Z A Z s s.heap) (xq mq : Nat) (i : Int32) (hi : 0 ≤ i.toInt ∧ i.toInt + 7 ≤ N ∧ N ≤ 3584) {cells slots : Nat} (hcs : cells + 41 ≤ 600000 ∧ slots + 8199 ≤ 7302249) {L : List Nat} {K : Nat → tk_K} {Γ : tk_G} {f : Nat → va_E} {H : Heap} {locs : List Loc} {ls : Array Slot} (S : lq_S D cy A s L K Γ f H locs xq mq) (hl : lv_has ls 4 [(3, .int i), (2, .ref mq), (1, .ref xq), (0, .ref b)]) (kk : ∀ (L : List Nat) (K : Nat → tk_K) (Γ : tk_G) (f : Nat → va_E) (H : Heap) (locs : List Loc) (ls : Array Slot), lq_S D cy A s L K Γ f H locs xq mq → lv_has ls 4 [(3, .int i), (2, .ref mq), (1, .ref xq), (0, .ref b)] → W p l e room_1 s m #[Value.ref b] below meth c H locs (cells + 41) (slots + 8199) (lw_Z below #[Value.ref b] s) (F0 m 2005 ls [])) : W p l e room_1 s m #[Value.ref b] below meth c H locs cells slots (lw_Z below #[Value.ref b] s) (F0 m 1857 ls []) := by
  obtain ⟨hx, hb, hr, hml, hown, hts, hX, hbl, hlocks, hgv⟩ := id C0
  obtain ⟨hP, hI, hL, hU, hAL, hS, hxq, hmq, hlq, hfree⟩ := S
  have hta : ∀ w ∈ tl_L, w.before #[Value.ref b] s = true := fun w h => hts w (List.mem_filter.mp h).1
  have hA : ∀ q : Nat, s.heap.size ≤ q → A q := fun q h => by rw [hAe]; exact h
  have hbA : ¬ A b := by rw [hAe]; exact Nat.not_le.mpr hbl
  have hAf : ∀ (H : Heap), s.heap.size ≤ H.size → ∀ q, tp_A L H.size q → A q := fun H h q hq => hq.elim (hAL q) (fun h2 => hA q (Nat.le_trans h h2))
  have hRc : room_1.cells = 600000 := rfl
  have hRs : room_1.slots = 7302249 := rfl
  have hI0 := hI
  have hD : va_D A (va_pl L f) := tp_D hL hAL
  have htx := hlq.2.2.2.2.1
  have hsd := hlq.2.2.1
  have hs := ts_hs hsd
  have hraw := ts_raw hsd
  have hslp := ts_slp hsd
  have hdp := ts_dp hsd
  have hm0 := hlq.2.2.2.2.2
  have hIM : Γ (12, 4, 0) = Γ (12, 4, 0) := rfl
  refine lv_aload_n hx hb dL_law_1857 rfl (lv_at hl 2 rfl) ?_
  refine lv_aload_n hx hb dL_law_1858 rfl (lv_at hl 3 rfl) ?_
  refine lv_iload_n hx hb dL_law_1859 rfl (lv_at hl 0 rfl) ?_
  refine lv_iconst (v := 1) hx hb dL_law_1860 (by decide) ?_
  refine lv_iadd hx hb dL_law_1861 ?_
  refine lv_topi (fun z_1 ez_1 => ?_)
  try have iz_1 : z_1.toInt = i.toInt + (1 : Int) := by rw [ez_1]; exact tl_addN i 1 rfl rfl (by omega) (by omega)
  refine va_sld hx hb hX hbl hbA hS (tl_in (by omega) (by omega)) dL_law_1862 ?_
  refine lv_topi (fun z_2 ez_2 => ?_)
  obtain ⟨x_4, x_5, x_6, x_7, x_8, x_9, x_10, x_11, x_12, x_13, x_14, x_15, x_16, x_17, x_18, x_19, hf_3, hx_4, hx_5, hx_6, hx_7, hx_8, hx_9, hx_10, hx_11, hx_12, hx_13, hx_14, hx_15, hx_16, hx_17, hx_18, hx_19⟩ := (show tp_o_X L K (0) 0 (Γ (0, 0, 0)) (f xq) from hI.at hxq)
  refine tq_ci hS (hAf _ hS.1) (tq_rV (As := [.int z_2]) (rest := []) ⟨hx, hb, hml, hown, hta⟩ (tp_P.pre hK hN hL hU hI hP) (tp_recv hK hP hxq.1 hf_3 rfl) lk_L_178 (t_X11_gives l D cy H.size L K Γ f xq z_2 hxq) rfl rfl ⟨Nat.le_of_ble_eq_true rfl, Nat.le_of_ble_eq_true rfl⟩ rfl hl.1 rfl (Nat.le_of_ble_eq_true rfl) dL_law_1863 ⟨by rw [hRc]; omega, by rw [hRs]; omega⟩) (fun r_21 f_22 H locs hw_20 hP hI hc_23 hS => ?_)
  have hD : va_D A (va_pl L f_22) := tp_D hL hAL
  have hf_24 := (tp_un hc_23 hxq (by decide)).trans hf_3
  refine lv_pop hx hb dL_law_1866 rfl ?_
  refine lv_aload_n hx hb dL_law_1867 rfl (lv_at hl 1 rfl) ?_
  refine lv_aload_n hx hb dL_law_1868 rfl (lv_at hl 3 rfl) ?_
  refine lv_iload_n hx hb dL_law_1869 rfl (lv_at hl 0 rfl) ?_
  refine lv_iconst (v := 1) hx hb dL_law_1870 (by decide) ?_
  refine lv_iadd hx hb dL_law_1871 ?_
  refine lv_topi (fun z_25 ez_25 => ?_)
  obtain rfl : z_1 = z_25 := ez_1.trans ez_25.symm
  refine va_sld hx hb hX hbl hbA hS (tl_in (by omega) (by omega)) dL_law_1872 ?_
  refine lv_topi (fun z_26 ez_26 => ?_)
  obtain rfl : z_2 = z_26 := ez_2.trans ez_26.symm
  obtain ⟨r_28, v_29, q_30, hf_27, hr_31, hv_32⟩ := (show tp_o_M L K 0 0 (Γ (39, 0, 0)) (f_22 mq) from hI.at hmq)
  refine tq_ciR hS (hAf _ hS.1) (tq_rV (As := [.int z_2]) (rest := []) ⟨hx, hb, hml, hown, hta⟩ (tp_P.pre hK hN hL hU hI hP) (tp_recv hK hP hmq.1 hf_27 rfl) lk_L_181 (r_X12_gives l D cy H.size L K Γ f_22 mq z_2 hmq (by first | omega | (simp only [Int32.toInt_toInt64]; omega) | decide | assumption)) rfl rfl ⟨Nat.le_of_ble_eq_true rfl, Nat.le_of_ble_eq_true rfl⟩ rfl hl.1 rfl (Nat.le_of_ble_eq_true rfl) dL_law_1873 ⟨by rw [hRc]; omega, by rw [hRs]; omega⟩) (fun r_34 f_35 Γ_37 H locs hw_33 hP hI hc_36 hcg_38 hS => ?_)
  have hD : va_D A (va_pl L f_35) := tp_D hL hAL
  have hf_39 := (tp_un hc_36 hxq (by decide)).trans hf_24
  have hw_33 : Γ_37 (39, 0, 0) 0 = Γ (39, 0, 0) 0 := hw_33
  have hlq9 : lq Γ_37 := hlq.quiet hcg_38 (by decide) (by omega)
  have hfree9 : ∀ j : Nat, Γ_37 (12, 4, 0) j = 0 → ∀ a ∈ L, ¬ (K a).2.2 = j + 1 := fun j q a ha => hfree j (by rw [← (hcg_38 (12, 4, 0) (by decide)).trans hIM]; exact q) a ha
  refine lv_pop hx hb dL_law_1876 rfl ?_
  refine lv_goto (tgt := 2005) hx hb dL_law_1877 (by decide) ?_
  exact W.widen (k := cells + 41) (n := slots + 8199) (by omega) (by omega) (kk L K Γ_37 f_35 H locs ls ⟨hP, hI, hL, hU, hAL, hS, hxq, hmq, hlq9, hfree9⟩ (lv_sub hl [0, 1, 2, 3] rfl))
set_option maxHeartbeats 4000000 in
set_option maxRecDepth 100000 in
theorem tl_law_40 {p : Program} {e : Env} {s : State} {m : MethodId} {below : List Frame} {meth : Method} {c : Code} (l : Launch) {b N : Nat} {xs : Nat → Int32} (C0 : lw_At p s m meth c b N xs) (D : va_G) (cy : Nat → ClassId) (hK : va_K D vwCl (tl_T cy) s) (hN : tl_ok s) (Z : ts_Y) {A : Nat → Prop} (hAe : A = fun q : Nat => s.heap.size ≤ q) (hZ : ts_Z A Z s s.heap) (xq mq : Nat) (i : Int32) (hi : 0 ≤ i.toInt ∧ i.toInt + 7 ≤ N ∧ N ≤ 3584) {cells slots : Nat} (hcs : cells + 41 ≤ 600000 ∧ slots + 8199 ≤ 7302249) {L : List Nat} {K : Nat → tk_K} {Γ : tk_G} {f : Nat → va_E} {H : Heap} {locs : List Loc} {ls : Array Slot} (S : lq_S D cy A s L K Γ f H locs xq mq) (hl : lv_has ls 4 [(3, .int i), (2, .ref mq), (1, .ref xq), (0, .ref b)]) (kk : ∀ (L : List Nat) (K : Nat → tk_K) (Γ : tk_G) (f : Nat → va_E) (H : Heap) (locs : List Loc) (ls : Array Slot), lq_S D cy A s L K Γ f H locs xq mq → lv_has ls 4 [(3, .int i), (2, .ref mq), (1, .ref xq), (0, .ref b)] → W p l e room_1 s m #[Value.ref b] below meth c H locs (cells + 41) (slots + 8199) (lw_Z below #[Value.ref b] s) (F0 m 2005 ls [])) : W p l e room_1 s m #[Value.ref b] below meth c H locs cells slots (lw_Z below #[Value.ref b] s) (F0 m 1880 ls []) := by
  obtain ⟨hx, hb, hr, hml, hown, hts, hX, hbl, hlocks, hgv⟩ := id C0
  obtain ⟨hP, hI, hL, hU, hAL, hS, hxq, hmq, hlq, hfree⟩ := S
  have hta : ∀ w ∈ tl_L, w.before #[Value.ref b] s = true := fun w h => hts w (List.mem_filter.mp h).1
  have hA : ∀ q : Nat, s.heap.size ≤ q → A q := fun q h => by rw [hAe]; exact h
  have hbA : ¬ A b := by rw [hAe]; exact Nat.not_le.mpr hbl
  have hAf : ∀ (H : Heap), s.heap.size ≤ H.size → ∀ q, tp_A L H.size q → A q := fun H h q hq => hq.elim (hAL q) (fun h2 => hA q (Nat.le_trans h h2))
  have hRc : room_1.cells = 600000 := rfl
  have hRs : room_1.slots = 7302249 := rfl
  have hI0 := hI
  have hD : va_D A (va_pl L f) := tp_D hL hAL
  have htx := hlq.2.2.2.2.1
  have hsd := hlq.2.2.1
  have hs := ts_hs hsd
  have hraw := ts_raw hsd
  have hslp := ts_slp hsd
  have hdp := ts_dp hsd
  have hm0 := hlq.2.2.2.2.2
  have hIM : Γ (12, 4, 0) = Γ (12, 4, 0) := rfl
  refine lv_aload_n hx hb dL_law_1880 rfl (lv_at hl 2 rfl) ?_
  refine lv_aload_n hx hb dL_law_1881 rfl (lv_at hl 3 rfl) ?_
  refine lv_iload_n hx hb dL_law_1882 rfl (lv_at hl 0 rfl) ?_
  refine lv_iconst (v := 1) hx hb dL_law_1883 (by decide) ?_
  refine lv_iadd hx hb dL_law_1884 ?_
  refine lv_topi (fun z_1 ez_1 => ?_)
  try have iz_1 : z_1.toInt = i.toInt + (1 : Int) := by rw [ez_1]; exact tl_addN i 1 rfl rfl (by omega) (by omega)
  refine va_sld hx hb hX hbl hbA hS (tl_in (by omega) (by omega)) dL_law_1885 ?_
  refine lv_topi (fun z_2 ez_2 => ?_)
  obtain ⟨x_4, x_5, x_6, x_7, x_8, x_9, x_10, x_11, x_12, x_13, x_14, x_15, x_16, x_17, x_18, x_19, hf_3, hx_4, hx_5, hx_6, hx_7, hx_8, hx_9, hx_10, hx_11, hx_12, hx_13, hx_14, hx_15, hx_16, hx_17, hx_18, hx_19⟩ := (show tp_o_X L K (0) 0 (Γ (0, 0, 0)) (f xq) from hI.at hxq)
  refine tq_ci hS (hAf _ hS.1) (tq_rV (As := [.int z_2]) (rest := []) ⟨hx, hb, hml, hown, hta⟩ (tp_P.pre hK hN hL hU hI hP) (tp_recv hK hP hxq.1 hf_3 rfl) lk_L_182 (t_X11_brief l D cy H.size L K Γ f xq z_2 hxq) rfl rfl ⟨Nat.le_of_ble_eq_true rfl, Nat.le_of_ble_eq_true rfl⟩ rfl hl.1 rfl (Nat.le_of_ble_eq_true rfl) dL_law_1886 ⟨by rw [hRc]; omega, by rw [hRs]; omega⟩) (fun r_21 f_22 H locs hw_20 hP hI hc_23 hS => ?_)
  have hD : va_D A (va_pl L f_22) := tp_D hL hAL
  have hf_24 := (tp_un hc_23 hxq (by decide)).trans hf_3
  refine lv_pop hx hb dL_law_1889 rfl ?_
  refine lv_aload_n hx hb dL_law_1890 rfl (lv_at hl 1 rfl) ?_
  refine lv_aload_n hx hb dL_law_1891 rfl (lv_at hl 3 rfl) ?_
  refine lv_iload_n hx hb dL_law_1892 rfl (lv_at hl 0 rfl) ?_
  refine lv_iconst (v := 1) hx hb dL_law_1893 (by decide) ?_
  refine lv_iadd hx hb dL_law_1894 ?_
  refine lv_topi (fun z_25 ez_25 => ?_)
  obtain rfl : z_1 = z_25 := ez_1.trans ez_25.symm
  refine va_sld hx hb hX hbl hbA hS (tl_in (by omega) (by omega)) dL_law_1895 ?_
  refine lv_topi (fun z_26 ez_26 => ?_)
  obtain rfl : z_2 = z_26 := ez_2.trans ez_26.symm
  obtain ⟨r_28, v_29, q_30, hf_27, hr_31, hv_32⟩ := (show tp_o_M L K 0 0 (Γ (39, 0, 0)) (f_22 mq) from hI.at hmq)
  refine tq_ciR hS (hAf _ hS.1) (tq_rV (As := [.int z_2]) (rest := []) ⟨hx, hb, hml, hown, hta⟩ (tp_P.pre hK hN hL hU hI hP) (tp_recv hK hP hmq.1 hf_27 rfl) lk_L_185 (r_X12_brief l D cy H.size L K Γ f_22 mq z_2 hmq (by first | omega | (simp only [Int32.toInt_toInt64]; omega) | decide | assumption)) rfl rfl ⟨Nat.le_of_ble_eq_true rfl, Nat.le_of_ble_eq_true rfl⟩ rfl hl.1 rfl (Nat.le_of_ble_eq_true rfl) dL_law_1896 ⟨by rw [hRc]; omega, by rw [hRs]; omega⟩) (fun r_34 f_35 Γ_37 H locs hw_33 hP hI hc_36 hcg_38 hS => ?_)
  have hD : va_D A (va_pl L f_35) := tp_D hL hAL
  have hf_39 := (tp_un hc_36 hxq (by decide)).trans hf_24
  have hw_33 : Γ_37 (39, 0, 0) 0 = Γ (39, 0, 0) 0 := hw_33
  have hlq9 : lq Γ_37 := hlq.quiet hcg_38 (by decide) (by omega)
  have hfree9 : ∀ j : Nat, Γ_37 (12, 4, 0) j = 0 → ∀ a ∈ L, ¬ (K a).2.2 = j + 1 := fun j q a ha => hfree j (by rw [← (hcg_38 (12, 4, 0) (by decide)).trans hIM]; exact q) a ha
  refine lv_pop hx hb dL_law_1899 rfl ?_
  refine lv_goto (tgt := 2005) hx hb dL_law_1900 (by decide) ?_
  exact W.widen (k := cells + 41) (n := slots + 8199) (by omega) (by omega) (kk L K Γ_37 f_35 H locs ls ⟨hP, hI, hL, hU, hAL, hS, hxq, hmq, hlq9, hfree9⟩ (lv_sub hl [0, 1, 2, 3] rfl))
set_option maxHeartbeats 4000000 in
set_option maxRecDepth 100000 in
theorem tl_law_41 {p : Program} {e : Env} {s : State} {m : MethodId} {below : List Frame} {meth : Method} {c : Code} (l : Launch) {b N : Nat} {xs : Nat → Int32} (C0 : lw_At p s m meth c b N xs) (D : va_G) (cy : Nat → ClassId) (hK : va_K D vwCl (tl_T cy) s) (hN : tl_ok s) (Z : ts_Y) {A : Nat → Prop} (hAe : A = fun q : Nat => s.heap.size ≤ q) (hZ : ts_Z A Z s s.heap) (xq mq : Nat) (i : Int32) (hi : 0 ≤ i.toInt ∧ i.toInt + 7 ≤ N ∧ N ≤ 3584) {cells slots : Nat} (hcs : cells + 41 ≤ 600000 ∧ slots + 8199 ≤ 7302249) {L : List Nat} {K : Nat → tk_K} {Γ : tk_G} {f : Nat → va_E} {H : Heap} {locs : List Loc} {ls : Array Slot} (S : lq_S D cy A s L K Γ f H locs xq mq) (hl : lv_has ls 4 [(3, .int i), (2, .ref mq), (1, .ref xq), (0, .ref b)]) (kk : ∀ (L : List Nat) (K : Nat → tk_K) (Γ : tk_G) (f : Nat → va_E) (H : Heap) (locs : List Loc) (ls : Array Slot), lq_S D cy A s L K Γ f H locs xq mq → lv_has ls 4 [(3, .int i), (2, .ref mq), (1, .ref xq), (0, .ref b)] → W p l e room_1 s m #[Value.ref b] below meth c H locs (cells + 41) (slots + 8199) (lw_Z below #[Value.ref b] s) (F0 m 2005 ls [])) : W p l e room_1 s m #[Value.ref b] below meth c H locs cells slots (lw_Z below #[Value.ref b] s) (F0 m 1903 ls []) := by
  obtain ⟨hx, hb, hr, hml, hown, hts, hX, hbl, hlocks, hgv⟩ := id C0
  obtain ⟨hP, hI, hL, hU, hAL, hS, hxq, hmq, hlq, hfree⟩ := S
  have hta : ∀ w ∈ tl_L, w.before #[Value.ref b] s = true := fun w h => hts w (List.mem_filter.mp h).1
  have hA : ∀ q : Nat, s.heap.size ≤ q → A q := fun q h => by rw [hAe]; exact h
  have hbA : ¬ A b := by rw [hAe]; exact Nat.not_le.mpr hbl
  have hAf : ∀ (H : Heap), s.heap.size ≤ H.size → ∀ q, tp_A L H.size q → A q := fun H h q hq => hq.elim (hAL q) (fun h2 => hA q (Nat.le_trans h h2))
  have hRc : room_1.cells = 600000 := rfl
  have hRs : room_1.slots = 7302249 := rfl
  have hI0 := hI
  have hD : va_D A (va_pl L f) := tp_D hL hAL
  have htx := hlq.2.2.2.2.1
  have hsd := hlq.2.2.1
  have hs := ts_hs hsd
  have hraw := ts_raw hsd
  have hslp := ts_slp hsd
  have hdp := ts_dp hsd
  have hm0 := hlq.2.2.2.2.2
  have hIM : Γ (12, 4, 0) = Γ (12, 4, 0) := rfl
  refine lv_aload_n hx hb dL_law_1903 rfl (lv_at hl 2 rfl) ?_
  refine lv_aload_n hx hb dL_law_1904 rfl (lv_at hl 3 rfl) ?_
  refine lv_iload_n hx hb dL_law_1905 rfl (lv_at hl 0 rfl) ?_
  refine lv_iconst (v := 1) hx hb dL_law_1906 (by decide) ?_
  refine lv_iadd hx hb dL_law_1907 ?_
  refine lv_topi (fun z_1 ez_1 => ?_)
  try have iz_1 : z_1.toInt = i.toInt + (1 : Int) := by rw [ez_1]; exact tl_addN i 1 rfl rfl (by omega) (by omega)
  refine va_sld hx hb hX hbl hbA hS (tl_in (by omega) (by omega)) dL_law_1908 ?_
  refine lv_topi (fun z_2 ez_2 => ?_)
  refine lv_aload_n hx hb dL_law_1909 rfl (lv_at hl 3 rfl) ?_
  refine lv_iload_n hx hb dL_law_1910 rfl (lv_at hl 0 rfl) ?_
  refine lv_iconst (v := 2) hx hb dL_law_1911 (by decide) ?_
  refine lv_iadd hx hb dL_law_1912 ?_
  refine lv_topi (fun z_3 ez_3 => ?_)
  try have iz_3 : z_3.toInt = i.toInt + (2 : Int) := by rw [ez_3]; exact tl_addN i 2 rfl rfl (by omega) (by omega)
  refine va_sld hx hb hX hbl hbA hS (tl_in (by omega) (by omega)) dL_law_1913 ?_
  refine lv_topi (fun z_4 ez_4 => ?_)
  obtain ⟨x_6, x_7, x_8, x_9, x_10, x_11, x_12, x_13, x_14, x_15, x_16, x_17, x_18, x_19, x_20, x_21, hf_5, hx_6, hx_7, hx_8, hx_9, hx_10, hx_11, hx_12, hx_13, hx_14, hx_15, hx_16, hx_17, hx_18, hx_19, hx_20, hx_21⟩ := (show tp_o_X L K (0) 0 (Γ (0, 0, 0)) (f xq) from hI.at hxq)
  refine tq_ci hS (hAf _ hS.1) (tq_rV (As := [.int z_2, .int z_4]) (rest := []) ⟨hx, hb, hml, hown, hta⟩ (tp_P.pre hK hN hL hU hI hP) (tp_recv hK hP hxq.1 hf_5 rfl) lk_L_186 (t_X11_fewest l D cy H.size L K Γ f xq z_2 z_4 hxq) rfl rfl ⟨Nat.le_of_ble_eq_true rfl, Nat.le_of_ble_eq_true rfl⟩ rfl hl.1 rfl (Nat.le_of_ble_eq_true rfl) dL_law_1914 ⟨by rw [hRc]; omega, by rw [hRs]; omega⟩) (fun r_23 f_24 H locs hw_22 hP hI hc_25 hS => ?_)
  have hD : va_D A (va_pl L f_24) := tp_D hL hAL
  have hf_26 := (tp_un hc_25 hxq (by decide)).trans hf_5
  refine lv_pop hx hb dL_law_1917 rfl ?_
  refine lv_aload_n hx hb dL_law_1918 rfl (lv_at hl 1 rfl) ?_
  refine lv_aload_n hx hb dL_law_1919 rfl (lv_at hl 3 rfl) ?_
  refine lv_iload_n hx hb dL_law_1920 rfl (lv_at hl 0 rfl) ?_
  refine lv_iconst (v := 1) hx hb dL_law_1921 (by decide) ?_
  refine lv_iadd hx hb dL_law_1922 ?_
  refine lv_topi (fun z_27 ez_27 => ?_)
  obtain rfl : z_1 = z_27 := ez_1.trans ez_27.symm
  refine va_sld hx hb hX hbl hbA hS (tl_in (by omega) (by omega)) dL_law_1923 ?_
  refine lv_topi (fun z_28 ez_28 => ?_)
  obtain rfl : z_2 = z_28 := ez_2.trans ez_28.symm
  refine lv_aload_n hx hb dL_law_1924 rfl (lv_at hl 3 rfl) ?_
  refine lv_iload_n hx hb dL_law_1925 rfl (lv_at hl 0 rfl) ?_
  refine lv_iconst (v := 2) hx hb dL_law_1926 (by decide) ?_
  refine lv_iadd hx hb dL_law_1927 ?_
  refine lv_topi (fun z_29 ez_29 => ?_)
  obtain rfl : z_3 = z_29 := ez_3.trans ez_29.symm
  refine va_sld hx hb hX hbl hbA hS (tl_in (by omega) (by omega)) dL_law_1928 ?_
  refine lv_topi (fun z_30 ez_30 => ?_)
  obtain rfl : z_4 = z_30 := ez_4.trans ez_30.symm
  obtain ⟨r_32, v_33, q_34, hf_31, hr_35, hv_36⟩ := (show tp_o_M L K 0 0 (Γ (39, 0, 0)) (f_24 mq) from hI.at hmq)
  refine tq_ciR hS (hAf _ hS.1) (tq_rV (As := [.int z_2, .int z_4]) (rest := []) ⟨hx, hb, hml, hown, hta⟩ (tp_P.pre hK hN hL hU hI hP) (tp_recv hK hP hmq.1 hf_31 rfl) lk_L_189 (r_X12_fewest l D cy H.size L K Γ f_24 mq z_2 z_4 hmq (by first | omega | (simp only [Int32.toInt_toInt64]; omega) | decide | assumption)) rfl rfl ⟨Nat.le_of_ble_eq_true rfl, Nat.le_of_ble_eq_true rfl⟩ rfl hl.1 rfl (Nat.le_of_ble_eq_true rfl) dL_law_1929 ⟨by rw [hRc]; omega, by rw [hRs]; omega⟩) (fun r_38 f_39 Γ_41 H locs hw_37 hP hI hc_40 hcg_42 hS => ?_)
  have hD : va_D A (va_pl L f_39) := tp_D hL hAL
  have hf_43 := (tp_un hc_40 hxq (by decide)).trans hf_26
  have hw_37 : Γ_41 (39, 0, 0) 0 = Γ (39, 0, 0) 0 := hw_37
  have hlq9 : lq Γ_41 := hlq.quiet hcg_42 (by decide) (by omega)
  have hfree9 : ∀ j : Nat, Γ_41 (12, 4, 0) j = 0 → ∀ a ∈ L, ¬ (K a).2.2 = j + 1 := fun j q a ha => hfree j (by rw [← (hcg_42 (12, 4, 0) (by decide)).trans hIM]; exact q) a ha
  refine lv_pop hx hb dL_law_1932 rfl ?_
  refine lv_goto (tgt := 2005) hx hb dL_law_1933 (by decide) ?_
  exact W.widen (k := cells + 41) (n := slots + 8199) (by omega) (by omega) (kk L K Γ_41 f_39 H locs ls ⟨hP, hI, hL, hU, hAL, hS, hxq, hmq, hlq9, hfree9⟩ (lv_sub hl [0, 1, 2, 3] rfl))
set_option maxHeartbeats 4000000 in
set_option maxRecDepth 100000 in
theorem tl_law_42 {p : Program} {e : Env} {s : State} {m : MethodId} {below : List Frame} {meth : Method} {c : Code} (l : Launch) {b N : Nat} {xs : Nat → Int32} (C0 : lw_At p s m meth c b N xs) (D : va_G) (cy : Nat → ClassId) (hK : va_K D vwCl (tl_T cy) s) (hN : tl_ok s) (Z : ts_Y) {A : Nat → Prop} (hAe : A = fun q : Nat => s.heap.size ≤ q) (hZ : ts_Z A Z s s.heap) (xq mq : Nat) (i : Int32) (hi : 0 ≤ i.toInt ∧ i.toInt + 7 ≤ N ∧ N ≤ 3584) {cells slots : Nat} (hcs : cells + 41 ≤ 600000 ∧ slots + 8199 ≤ 7302249) {L : List Nat} {K : Nat → tk_K} {Γ : tk_G} {f : Nat → va_E} {H : Heap} {locs : List Loc} {ls : Array Slot} (S : lq_S D cy A s L K Γ f H locs xq mq) (hl : lv_has ls 4 [(3, .int i), (2, .ref mq), (1, .ref xq), (0, .ref b)]) (kk : ∀ (L : List Nat) (K : Nat → tk_K) (Γ : tk_G) (f : Nat → va_E) (H : Heap) (locs : List Loc) (ls : Array Slot), lq_S D cy A s L K Γ f H locs xq mq → lv_has ls 4 [(3, .int i), (2, .ref mq), (1, .ref xq), (0, .ref b)] → W p l e room_1 s m #[Value.ref b] below meth c H locs (cells + 41) (slots + 8199) (lw_Z below #[Value.ref b] s) (F0 m 2005 ls [])) : W p l e room_1 s m #[Value.ref b] below meth c H locs cells slots (lw_Z below #[Value.ref b] s) (F0 m 1936 ls []) := by
  obtain ⟨hx, hb, hr, hml, hown, hts, hX, hbl, hlocks, hgv⟩ := id C0
  obtain ⟨hP, hI, hL, hU, hAL, hS, hxq, hmq, hlq, hfree⟩ := S
  have hta : ∀ w ∈ tl_L, w.before #[Value.ref b] s = true := fun w h => hts w (List.mem_filter.mp h).1
  have hA : ∀ q : Nat, s.heap.size ≤ q → A q := fun q h => by rw [hAe]; exact h
  have hbA : ¬ A b := by rw [hAe]; exact Nat.not_le.mpr hbl
  have hAf : ∀ (H : Heap), s.heap.size ≤ H.size → ∀ q, tp_A L H.size q → A q := fun H h q hq => hq.elim (hAL q) (fun h2 => hA q (Nat.le_trans h h2))
  have hRc : room_1.cells = 600000 := rfl
  have hRs : room_1.slots = 7302249 := rfl
  have hI0 := hI
  have hD : va_D A (va_pl L f) := tp_D hL hAL
  have htx := hlq.2.2.2.2.1
  have hsd := hlq.2.2.1
  have hs := ts_hs hsd
  have hraw := ts_raw hsd
  have hslp := ts_slp hsd
  have hdp := ts_dp hsd
  have hm0 := hlq.2.2.2.2.2
  have hIM : Γ (12, 4, 0) = Γ (12, 4, 0) := rfl
  refine lv_aload_n hx hb dL_law_1936 rfl (lv_at hl 2 rfl) ?_
  refine lv_aload_n hx hb dL_law_1937 rfl (lv_at hl 3 rfl) ?_
  refine lv_iload_n hx hb dL_law_1938 rfl (lv_at hl 0 rfl) ?_
  refine lv_iconst (v := 1) hx hb dL_law_1939 (by decide) ?_
  refine lv_iadd hx hb dL_law_1940 ?_
  refine lv_topi (fun z_1 ez_1 => ?_)
  try have iz_1 : z_1.toInt = i.toInt + (1 : Int) := by rw [ez_1]; exact tl_addN i 1 rfl rfl (by omega) (by omega)
  refine va_sld hx hb hX hbl hbA hS (tl_in (by omega) (by omega)) dL_law_1941 ?_
  refine lv_topi (fun z_2 ez_2 => ?_)
  obtain ⟨x_4, x_5, x_6, x_7, x_8, x_9, x_10, x_11, x_12, x_13, x_14, x_15, x_16, x_17, x_18, x_19, hf_3, hx_4, hx_5, hx_6, hx_7, hx_8, hx_9, hx_10, hx_11, hx_12, hx_13, hx_14, hx_15, hx_16, hx_17, hx_18, hx_19⟩ := (show tp_o_X L K (0) 0 (Γ (0, 0, 0)) (f xq) from hI.at hxq)
  refine tl_si (tq_rV (As := [.int z_2]) (rest := []) ⟨hx, hb, hml, hown, hta⟩ (tp_P.pre hK hN hL hU hI hP) (tp_recv hK hP hxq.1 hf_3 rfl) lk_L_190 (t_X11_count l D cy H.size L K Γ f xq z_2 hxq) rfl rfl ⟨Nat.le_of_ble_eq_true rfl, Nat.le_of_ble_eq_true rfl⟩ rfl hl.1 rfl (Nat.le_of_ble_eq_true rfl) dL_law_1942 ⟨by rw [hRc]; omega, by rw [hRs]; omega⟩) (fun r_21 hw_20 => ?_)
  refine lv_pop hx hb dL_law_1945 rfl ?_
  refine lv_aload_n hx hb dL_law_1946 rfl (lv_at hl 1 rfl) ?_
  refine lv_aload_n hx hb dL_law_1947 rfl (lv_at hl 3 rfl) ?_
  refine lv_iload_n hx hb dL_law_1948 rfl (lv_at hl 0 rfl) ?_
  refine lv_iconst (v := 1) hx hb dL_law_1949 (by decide) ?_
  refine lv_iadd hx hb dL_law_1950 ?_
  refine lv_topi (fun z_22 ez_22 => ?_)
  obtain rfl : z_1 = z_22 := ez_1.trans ez_22.symm
  refine va_sld hx hb hX hbl hbA hS (tl_in (by omega) (by omega)) dL_law_1951 ?_
  refine lv_topi (fun z_23 ez_23 => ?_)
  obtain rfl : z_2 = z_23 := ez_2.trans ez_23.symm
  obtain ⟨r_25, v_26, q_27, hf_24, hr_28, hv_29⟩ := (show tp_o_M L K 0 0 (Γ (39, 0, 0)) (f mq) from hI.at hmq)
  refine tl_si (tq_rV (As := [.int z_2]) (rest := []) ⟨hx, hb, hml, hown, hta⟩ (tp_P.pre hK hN hL hU hI hP) (tp_recv hK hP hmq.1 hf_24 rfl) lk_L_193 (r_X12_count l D cy H.size L K Γ f mq z_2 hmq (by first | omega | (simp only [Int32.toInt_toInt64]; omega) | decide | assumption)) rfl rfl ⟨Nat.le_of_ble_eq_true rfl, Nat.le_of_ble_eq_true rfl⟩ rfl hl.1 rfl (Nat.le_of_ble_eq_true rfl) dL_law_1952 ⟨by rw [hRc]; omega, by rw [hRs]; omega⟩) (fun r_31 hw_30 => ?_)
  have hlq9 := hlq
  have hfree9 := hfree
  refine lv_pop hx hb dL_law_1955 rfl ?_
  refine lv_goto (tgt := 2005) hx hb dL_law_1956 (by decide) ?_
  exact W.widen (k := cells + 41) (n := slots + 8199) (by omega) (by omega) (kk L K Γ f H locs ls ⟨hP, hI, hL, hU, hAL, hS, hxq, hmq, hlq9, hfree9⟩ (lv_sub hl [0, 1, 2, 3] rfl))
set_option maxHeartbeats 4000000 in
set_option maxRecDepth 100000 in
theorem tl_law_43 {p : Program} {e : Env} {s : State} {m : MethodId} {below : List Frame} {meth : Method} {c : Code} (l : Launch) {b N : Nat} {xs : Nat → Int32} (C0 : lw_At p s m meth c b N xs) (D : va_G) (cy : Nat → ClassId) (hK : va_K D vwCl (tl_T cy) s) (hN : tl_ok s) (Z : ts_Y) {A : Nat → Prop} (hAe : A = fun q : Nat => s.heap.size ≤ q) (hZ : ts_Z A Z s s.heap) (xq mq : Nat) (i : Int32) (hi : 0 ≤ i.toInt ∧ i.toInt + 7 ≤ N ∧ N ≤ 3584) {cells slots : Nat} (hcs : cells + 41 ≤ 600000 ∧ slots + 8199 ≤ 7302249) {L : List Nat} {K : Nat → tk_K} {Γ : tk_G} {f : Nat → va_E} {H : Heap} {locs : List Loc} {ls : Array Slot} (S : lq_S D cy A s L K Γ f H locs xq mq) (hl : lv_has ls 4 [(3, .int i), (2, .ref mq), (1, .ref xq), (0, .ref b)]) (kk : ∀ (L : List Nat) (K : Nat → tk_K) (Γ : tk_G) (f : Nat → va_E) (H : Heap) (locs : List Loc) (ls : Array Slot), lq_S D cy A s L K Γ f H locs xq mq → lv_has ls 4 [(3, .int i), (2, .ref mq), (1, .ref xq), (0, .ref b)] → W p l e room_1 s m #[Value.ref b] below meth c H locs (cells + 41) (slots + 8199) (lw_Z below #[Value.ref b] s) (F0 m 2005 ls [])) : W p l e room_1 s m #[Value.ref b] below meth c H locs cells slots (lw_Z below #[Value.ref b] s) (F0 m 1959 ls []) := by
  obtain ⟨hx, hb, hr, hml, hown, hts, hX, hbl, hlocks, hgv⟩ := id C0
  obtain ⟨hP, hI, hL, hU, hAL, hS, hxq, hmq, hlq, hfree⟩ := S
  have hta : ∀ w ∈ tl_L, w.before #[Value.ref b] s = true := fun w h => hts w (List.mem_filter.mp h).1
  have hA : ∀ q : Nat, s.heap.size ≤ q → A q := fun q h => by rw [hAe]; exact h
  have hbA : ¬ A b := by rw [hAe]; exact Nat.not_le.mpr hbl
  have hAf : ∀ (H : Heap), s.heap.size ≤ H.size → ∀ q, tp_A L H.size q → A q := fun H h q hq => hq.elim (hAL q) (fun h2 => hA q (Nat.le_trans h h2))
  have hRc : room_1.cells = 600000 := rfl
  have hRs : room_1.slots = 7302249 := rfl
  have hI0 := hI
  have hD : va_D A (va_pl L f) := tp_D hL hAL
  have htx := hlq.2.2.2.2.1
  have hsd := hlq.2.2.1
  have hs := ts_hs hsd
  have hraw := ts_raw hsd
  have hslp := ts_slp hsd
  have hdp := ts_dp hsd
  have hm0 := hlq.2.2.2.2.2
  have hIM : Γ (12, 4, 0) = Γ (12, 4, 0) := rfl
  refine lv_aload_n hx hb dL_law_1959 rfl (lv_at hl 2 rfl) ?_
  refine lv_aload_n hx hb dL_law_1960 rfl (lv_at hl 3 rfl) ?_
  refine lv_iload_n hx hb dL_law_1961 rfl (lv_at hl 0 rfl) ?_
  refine lv_iconst (v := 1) hx hb dL_law_1962 (by decide) ?_
  refine lv_iadd hx hb dL_law_1963 ?_
  refine lv_topi (fun z_1 ez_1 => ?_)
  try have iz_1 : z_1.toInt = i.toInt + (1 : Int) := by rw [ez_1]; exact tl_addN i 1 rfl rfl (by omega) (by omega)
  refine va_sld hx hb hX hbl hbA hS (tl_in (by omega) (by omega)) dL_law_1964 ?_
  refine lv_topi (fun z_2 ez_2 => ?_)
  obtain ⟨x_4, x_5, x_6, x_7, x_8, x_9, x_10, x_11, x_12, x_13, x_14, x_15, x_16, x_17, x_18, x_19, hf_3, hx_4, hx_5, hx_6, hx_7, hx_8, hx_9, hx_10, hx_11, hx_12, hx_13, hx_14, hx_15, hx_16, hx_17, hx_18, hx_19⟩ := (show tp_o_X L K (0) 0 (Γ (0, 0, 0)) (f xq) from hI.at hxq)
  have hsz0 := hS.1
  refine tq_ciX hS (hAf _ hS.1) (tq_rV (As := [.int z_2]) (rest := []) ⟨hx, hb, hml, hown, hta⟩ (tp_P.pre hK hN hL hU hI hP) (tp_recv hK hP hxq.1 hf_3 rfl) lk_L_194 (t_X11_image l D cy H.size L K Γ f xq z_2 hxq (by first | omega | (simp only [Int32.toInt_toInt64]; omega) | decide | assumption)) rfl rfl ⟨Nat.le_of_ble_eq_true rfl, Nat.le_of_ble_eq_true rfl⟩ rfl hl.1 rfl (Nat.le_of_ble_eq_true rfl) dL_law_1965 ⟨by rw [hRc]; omega, by rw [hRs]; omega⟩) (fun r_21 L K f_24 H locs hw_20 hP hI hL hU hmo hnw hS => ?_)
  have hxq := hmo _ _ _ _ hxq
  have hmq := hmo _ _ _ _ hmq
  have hAL : ∀ q ∈ L, A q := fun q hq => (hnw q hq).elim (hAL q) (fun h => hA q (Nat.le_trans hsz0 h.1))
  have hAf : ∀ (H : Heap), s.heap.size ≤ H.size → ∀ q, tp_A L H.size q → A q := fun H h q hq => hq.elim (hAL q) (fun h2 => hA q (Nat.le_trans h h2))
  obtain ⟨Γ_25, eΓ_25⟩ : ∃ y : tk_G, y = if 0 ≤ z_2.toInt ∧ z_2.toInt ≤ 3 then tm_img Γ z_2.toInt.toNat else Γ := ⟨_, rfl⟩
  have hI : tp_I cy L K Γ_25 f_24 := by rw [eΓ_25]; exact hI
  have hz9 := lq_imgz hlq eΓ_25
  have hfree1 : ∀ j : Nat, Γ_25 (12, 4, 0) j = 0 → ∀ a ∈ L, ¬ (K a).2.2 = j + 1 := lq_free hfree hmo hnw hz9.1 (hw_20.2.elim (fun q => Or.inr (hz9.2 q)) Or.inl)
  have hw_20 : r_21.toInt = (if 0 ≤ z_2.toInt ∧ z_2.toInt ≤ 3 then tm_img Γ z_2.toInt.toNat (3, 0, 0) 0 else -1) := hw_20.1
  have hD : va_D A (va_pl L f_24) := tp_D hL hAL
  refine lv_pop hx hb dL_law_1968 rfl ?_
  refine lv_aload_n hx hb dL_law_1969 rfl (lv_at hl 1 rfl) ?_
  refine lv_aload_n hx hb dL_law_1970 rfl (lv_at hl 3 rfl) ?_
  refine lv_iload_n hx hb dL_law_1971 rfl (lv_at hl 0 rfl) ?_
  refine lv_iconst (v := 1) hx hb dL_law_1972 (by decide) ?_
  refine lv_iadd hx hb dL_law_1973 ?_
  refine lv_topi (fun z_26 ez_26 => ?_)
  obtain rfl : z_1 = z_26 := ez_1.trans ez_26.symm
  refine va_sld hx hb hX hbl hbA hS (tl_in (by omega) (by omega)) dL_law_1974 ?_
  refine lv_topi (fun z_27 ez_27 => ?_)
  obtain rfl : z_2 = z_27 := ez_2.trans ez_27.symm
  obtain ⟨r_29, v_30, q_31, hf_28, hr_32, hv_33⟩ := (show tp_o_M L K 0 0 (Γ_25 (39, 0, 0)) (f_24 mq) from hI.at hmq)
  refine tq_ciR hS (hAf _ hS.1) (tq_rV (As := [.int z_2]) (rest := []) ⟨hx, hb, hml, hown, hta⟩ (tp_P.pre hK hN hL hU hI hP) (tp_recv hK hP hmq.1 hf_28 rfl) lk_L_197 (r_X12_image l D cy H.size L K Γ_25 f_24 mq z_2 hmq) rfl rfl ⟨Nat.le_of_ble_eq_true rfl, Nat.le_of_ble_eq_true rfl⟩ rfl hl.1 rfl (Nat.le_of_ble_eq_true rfl) dL_law_1975 ⟨by rw [hRc]; omega, by rw [hRs]; omega⟩) (fun r_35 f_36 Γ_38 H locs hw_34 hP hI hc_37 hcg_39 hS => ?_)
  have hD : va_D A (va_pl L f_36) := tp_D hL hAL
  have hf_40 := (tp_un hc_37 hmq (by decide)).trans hf_28
  have hw_34 : r_35.toInt = (if 0 ≤ z_2.toInt ∧ z_2.toInt ≤ 3 then Γ_25 (40, 7666, 0) 1 else -1) ∧ (Γ_38 (71, 4, 0) = if 0 ≤ z_2.toInt ∧ z_2.toInt ≤ 3 then tgu (Γ_25 (71, 4, 0)) z_2.toInt.toNat 1 else Γ_25 (71, 4, 0)) ∧ Γ_38 (70, 30664, 0) = if 0 ≤ z_2.toInt ∧ z_2.toInt ≤ 3 then tm_cp (Γ_25 (70, 30664, 0)) (Γ_25 (40, 7666, 0)) (7666 * z_2.toInt).toNat (7666 * z_2.toInt + 7666).toNat 0 else Γ_25 (70, 30664, 0) := hw_34
  have hst := s_image hlq eΓ_25 hcg_39 hw_34.2.1 hw_34.2.2
  have hlq9 := hst.1
  have hfree9 : ∀ j : Nat, Γ_38 (12, 4, 0) j = 0 → ∀ a ∈ L, ¬ (K a).2.2 = j + 1 := fun j q a ha => hfree1 j (by rw [← hcg_39 (12, 4, 0) (by decide)]; exact q) a ha
  refine lv_pop hx hb dL_law_1978 rfl ?_
  refine lv_goto (tgt := 2005) hx hb dL_law_1979 (by decide) ?_
  exact W.widen (k := cells + 41) (n := slots + 8199) (by omega) (by omega) (kk L K Γ_38 f_36 H locs ls ⟨hP, hI, hL, hU, hAL, hS, hxq, hmq, hlq9, hfree9⟩ (lv_sub hl [0, 1, 2, 3] rfl))
set_option maxHeartbeats 4000000 in
set_option maxRecDepth 100000 in
theorem tl_law_44 {p : Program} {e : Env} {s : State} {m : MethodId} {below : List Frame} {meth : Method} {c : Code} (l : Launch) {b N : Nat} {xs : Nat → Int32} (C0 : lw_At p s m meth c b N xs) (D : va_G) (cy : Nat → ClassId) (hK : va_K D vwCl (tl_T cy) s) (hN : tl_ok s) (Z : ts_Y) {A : Nat → Prop} (hAe : A = fun q : Nat => s.heap.size ≤ q) (hZ : ts_Z A Z s s.heap) (xq mq : Nat) (i : Int32) (hi : 0 ≤ i.toInt ∧ i.toInt + 7 ≤ N ∧ N ≤ 3584) {cells slots : Nat} (hcs : cells + 41 ≤ 600000 ∧ slots + 8199 ≤ 7302249) {L : List Nat} {K : Nat → tk_K} {Γ : tk_G} {f : Nat → va_E} {H : Heap} {locs : List Loc} {ls : Array Slot} (S : lq_S D cy A s L K Γ f H locs xq mq) (hl : lv_has ls 4 [(3, .int i), (2, .ref mq), (1, .ref xq), (0, .ref b)]) (kk : ∀ (L : List Nat) (K : Nat → tk_K) (Γ : tk_G) (f : Nat → va_E) (H : Heap) (locs : List Loc) (ls : Array Slot), lq_S D cy A s L K Γ f H locs xq mq → lv_has ls 4 [(3, .int i), (2, .ref mq), (1, .ref xq), (0, .ref b)] → W p l e room_1 s m #[Value.ref b] below meth c H locs (cells + 41) (slots + 8199) (lw_Z below #[Value.ref b] s) (F0 m 2005 ls [])) : W p l e room_1 s m #[Value.ref b] below meth c H locs cells slots (lw_Z below #[Value.ref b] s) (F0 m 1982 ls []) := by
  obtain ⟨hx, hb, hr, hml, hown, hts, hX, hbl, hlocks, hgv⟩ := id C0
  obtain ⟨hP, hI, hL, hU, hAL, hS, hxq, hmq, hlq, hfree⟩ := S
  have hta : ∀ w ∈ tl_L, w.before #[Value.ref b] s = true := fun w h => hts w (List.mem_filter.mp h).1
  have hA : ∀ q : Nat, s.heap.size ≤ q → A q := fun q h => by rw [hAe]; exact h
  have hbA : ¬ A b := by rw [hAe]; exact Nat.not_le.mpr hbl
  have hAf : ∀ (H : Heap), s.heap.size ≤ H.size → ∀ q, tp_A L H.size q → A q := fun H h q hq => hq.elim (hAL q) (fun h2 => hA q (Nat.le_trans h h2))
  have hRc : room_1.cells = 600000 := rfl
  have hRs : room_1.slots = 7302249 := rfl
  have hI0 := hI
  have hD : va_D A (va_pl L f) := tp_D hL hAL
  have htx := hlq.2.2.2.2.1
  have hsd := hlq.2.2.1
  have hs := ts_hs hsd
  have hraw := ts_raw hsd
  have hslp := ts_slp hsd
  have hdp := ts_dp hsd
  have hm0 := hlq.2.2.2.2.2
  have hIM : Γ (12, 4, 0) = Γ (12, 4, 0) := rfl
  refine lv_aload_n hx hb dL_law_1982 rfl (lv_at hl 2 rfl) ?_
  refine lv_aload_n hx hb dL_law_1983 rfl (lv_at hl 3 rfl) ?_
  refine lv_iload_n hx hb dL_law_1984 rfl (lv_at hl 0 rfl) ?_
  refine lv_iconst (v := 1) hx hb dL_law_1985 (by decide) ?_
  refine lv_iadd hx hb dL_law_1986 ?_
  refine lv_topi (fun z_1 ez_1 => ?_)
  try have iz_1 : z_1.toInt = i.toInt + (1 : Int) := by rw [ez_1]; exact tl_addN i 1 rfl rfl (by omega) (by omega)
  refine va_sld hx hb hX hbl hbA hS (tl_in (by omega) (by omega)) dL_law_1987 ?_
  refine lv_topi (fun z_2 ez_2 => ?_)
  obtain ⟨x_4, x_5, x_6, x_7, x_8, x_9, x_10, x_11, x_12, x_13, x_14, x_15, x_16, x_17, x_18, x_19, hf_3, hx_4, hx_5, hx_6, hx_7, hx_8, hx_9, hx_10, hx_11, hx_12, hx_13, hx_14, hx_15, hx_16, hx_17, hx_18, hx_19⟩ := (show tp_o_X L K (0) 0 (Γ (0, 0, 0)) (f xq) from hI.at hxq)
  refine tq_ci hS (hAf _ hS.1) (tq_rV (As := [.int z_2]) (rest := []) ⟨hx, hb, hml, hown, hta⟩ (tp_P.pre hK hN hL hU hI hP) (tp_recv hK hP hxq.1 hf_3 rfl) lk_L_198 (t_X11_back l D cy H.size L K Γ f xq z_2 hxq) rfl rfl ⟨Nat.le_of_ble_eq_true rfl, Nat.le_of_ble_eq_true rfl⟩ rfl hl.1 rfl (Nat.le_of_ble_eq_true rfl) dL_law_1988 ⟨by rw [hRc]; omega, by rw [hRs]; omega⟩) (fun r_21 f_22 H locs hw_20 hP hI hc_23 hS => ?_)
  have hD : va_D A (va_pl L f_22) := tp_D hL hAL
  have hf_24 := (tp_un hc_23 hxq (by decide)).trans hf_3
  obtain ⟨Γ_25, eΓ_25⟩ : ∃ y : tk_G, y = if (0 ≤ z_2.toInt ∧ z_2.toInt ≤ 3) ∧ Γ (12, 4, 0) z_2.toInt.toNat = 1 then tm_copy Γ 0 (z_2.toInt.toNat + 1) else Γ := ⟨_, rfl⟩
  have hI : tp_I cy L K Γ_25 f_22 := by rw [eΓ_25]; exact hI
  have hw_20 : r_21.toInt = if (0 ≤ z_2.toInt ∧ z_2.toInt ≤ 3) ∧ Γ (12, 4, 0) z_2.toInt.toNat = 1 then tm_copy Γ 0 (z_2.toInt.toNat + 1) (3, 0, 0) 0 else -1 := hw_20
  have hSA1 : Γ_25 (40, 7666, 0) = Γ (40, 7666, 0) := (by rw [eΓ_25]; split; exact tmc_o (Or.inr (by unfold tk_b; omega)); rfl)
  have hIM : Γ_25 (12, 4, 0) = Γ (12, 4, 0) := (by rw [eΓ_25]; split; exact tmc_o (Or.inr (by unfold tk_b; omega)); rfl)
  have hs : (0 ≤ Γ_25 (40, 7666, 0) 1 ∧ Γ_25 (40, 7666, 0) 1 ≤ 24) ∧ (0 ≤ Γ_25 (40, 7666, 0) 2 ∧ Γ_25 (40, 7666, 0) 2 ≤ 40) ∧ (0 ≤ Γ_25 (40, 7666, 0) 3 ∧ Γ_25 (40, 7666, 0) 3 ≤ 60) ∧ (0 ≤ Γ_25 (40, 7666, 0) 4 ∧ Γ_25 (40, 7666, 0) 4 ≤ 10) ∧ (0 ≤ Γ_25 (40, 7666, 0) 7665 ∧ Γ_25 (40, 7666, 0) 7665 ≤ 8) := by rw [hSA1]; exact hs
  have hdp : ∀ l : Nat, (l : Int) < Γ_25 (40, 7666, 0) 3 → 1 ≤ Γ_25 (40, 7666, 0) (243 + 3 * l) := by rw [hSA1]; exact hdp
  refine lv_aload_n hx hb dL_law_1991 rfl (lv_at hl 1 rfl) ?_
  refine lv_aload_n hx hb dL_law_1992 rfl (lv_at hl 3 rfl) ?_
  refine lv_iload_n hx hb dL_law_1993 rfl (lv_at hl 0 rfl) ?_
  refine lv_iconst (v := 1) hx hb dL_law_1994 (by decide) ?_
  refine lv_iadd hx hb dL_law_1995 ?_
  refine lv_topi (fun z_26 ez_26 => ?_)
  obtain rfl : z_1 = z_26 := ez_1.trans ez_26.symm
  refine va_sld hx hb hX hbl hbA hS (tl_in (by omega) (by omega)) dL_law_1996 ?_
  refine lv_topi (fun z_27 ez_27 => ?_)
  obtain rfl : z_2 = z_27 := ez_2.trans ez_27.symm
  obtain ⟨r_29, v_30, q_31, hf_28, hr_32, hv_33⟩ := (show tp_o_M L K 0 0 (Γ_25 (39, 0, 0)) (f_22 mq) from hI.at hmq)
  refine tq_ciR hS (hAf _ hS.1) (tq_rV (As := [.int z_2]) (rest := [.int r_21]) ⟨hx, hb, hml, hown, hta⟩ (tp_P.pre hK hN hL hU hI hP) (tp_recv hK hP hmq.1 hf_28 rfl) lk_L_201 (r_X12_back l D cy H.size L K Γ_25 f_22 mq z_2 hmq) rfl rfl ⟨Nat.le_of_ble_eq_true rfl, Nat.le_of_ble_eq_true rfl⟩ rfl hl.1 rfl (Nat.le_of_ble_eq_true rfl) dL_law_1997 ⟨by rw [hRc]; omega, by rw [hRs]; omega⟩) (fun r_35 f_36 Γ_38 H locs hw_34 hP hI hc_37 hcg_39 hS => ?_)
  have hD : va_D A (va_pl L f_36) := tp_D hL hAL
  have hf_40 := (tp_un hc_37 hxq (by decide)).trans hf_24
  have hf_41 := (tp_un hc_37 hmq (by decide)).trans hf_28
  have hw_34 : r_35.toInt = (if (0 ≤ z_2.toInt ∧ z_2.toInt ≤ 3) ∧ ¬ Γ_25 (71, 4, 0) z_2.toInt.toNat = 0 then Γ_38 (40, 7666, 0) 1 else -1) ∧ Γ_38 (40, 7666, 0) = if (0 ≤ z_2.toInt ∧ z_2.toInt ≤ 3) ∧ ¬ Γ_25 (71, 4, 0) z_2.toInt.toNat = 0 then tm_cp (Γ_25 (40, 7666, 0)) (Γ_25 (70, 30664, 0)) 0 (7666 : Int).toNat (7666 * z_2.toInt).toNat else Γ_25 (40, 7666, 0) := hw_34
  have hst := s_back hlq eΓ_25 hcg_39 hw_34.2
  have hlq9 := hst.1
  have hfree9 : ∀ j : Nat, Γ_38 (12, 4, 0) j = 0 → ∀ a ∈ L, ¬ (K a).2.2 = j + 1 := fun j q a ha => hfree j (by rw [← (hcg_39 (12, 4, 0) (by decide)).trans hIM]; exact q) a ha
  refine lv_icmp_eq (tgt := 2005) hx hb dL_law_2000 (by decide) (fun _ => ?_) (fun c9 => absurd (Int32.toInt_inj.mp (hw_20.trans (hst.2.trans hw_34.1.symm))) c9)
  exact W.widen (k := cells + 41) (n := slots + 8199) (by omega) (by omega) (kk L K Γ_38 f_36 H locs ls ⟨hP, hI, hL, hU, hAL, hS, hxq, hmq, hlq9, hfree9⟩ (lv_sub hl [0, 1, 2, 3] rfl))
