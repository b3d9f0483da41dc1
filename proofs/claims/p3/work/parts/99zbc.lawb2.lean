set_option maxRecDepth 100000 in
theorem wsL_x11 : ∀ w ∈ wsX110, w ∈ lw_tbl := sj_mem_r _ [575, 577, 579, 581, 583, 585, 587, 589, 591, 593, 595, 597, 599, 601] (by decide +kernel)
set_option maxRecDepth 100000 in
theorem wsL_x12 : ∀ w ∈ wsX120, w ∈ lw_tbl := sj_mem_r _ [1566, 1568, 1570, 1572, 1574, 1576, 1578, 1580, 1582, 1584, 1586, 1588, 1590, 1592, 1594, 1596, 1598, 1600, 1602, 1604, 1606, 1608, 1610, 1612, 1614, 1616, 1618, 1620, 1622, 1624, 1626, 1628, 1630, 1632, 1634, 1636, 1638, 1640, 1642, 1644, 1646, 1648, 1650, 1652, 1654, 1656, 1658, 1660, 1662, 1664, 1666, 1668, 1670, 1672, 1674, 1676, 1678, 1680, 1682, 1684, 1686, 1688, 1690, 1692, 1694, 1696, 1698, 1700, 1702, 1704, 1706, 1708, 1710, 1712, 1714, 1716, 1718, 1720, 1722, 1724, 1726, 1728, 1730, 1732, 1734, 1736] (by decide +kernel)
set_option maxRecDepth 100000 in
theorem wsL_x3 : ∀ w ∈ wsX30, w ∈ lw_tbl := sj_mem_r _ [174, 176] (by decide +kernel)
set_option maxRecDepth 100000 in
theorem wsL_x5 : ∀ w ∈ wsX50, w ∈ lw_tbl := sj_mem_r _ [295, 297, 299, 301, 303, 305, 307, 309, 311, 313, 315, 317, 319, 321, 323, 325, 327, 329, 331] (by decide +kernel)
set_option maxRecDepth 100000 in
theorem wsL_x1 : ∀ w ∈ wsX10, w ∈ lw_tbl := sj_mem_r _ [381, 383, 385, 387, 389] (by decide +kernel)
set_option maxRecDepth 100000 in
theorem wsL_x8 : ∀ w ∈ wsX80, w ∈ lw_tbl := sj_mem_r _ [401, 403, 405] (by decide +kernel)
set_option maxRecDepth 100000 in
theorem wsL_x7 : ∀ w ∈ wsX70, w ∈ lw_tbl := sj_mem_r _ [473, 475, 477, 479, 481, 483, 485, 487, 489, 491, 493] (by decide +kernel)
set_option maxRecDepth 100000 in
theorem wsL_x2 : ∀ w ∈ wsX20, w ∈ lw_tbl := sj_mem_r _ [517, 519, 521, 523, 525, 527, 529, 531, 533, 535, 537] (by decide +kernel)
set_option maxRecDepth 100000 in
theorem wsL_x9 : ∀ w ∈ wsX90, w ∈ lw_tbl := sj_mem_r _ [552, 554, 556, 558] (by decide +kernel)
set_option maxRecDepth 100000 in
theorem wsL_x4 : ∀ w ∈ wsX40, w ∈ lw_tbl := sj_mem_r _ [218, 220, 222, 224, 226, 228, 230, 232, 234] (by decide +kernel)
set_option maxRecDepth 100000 in
theorem wsL_x6 : ∀ w ∈ wsX60, w ∈ lw_tbl := sj_mem_r _ [255, 257, 259, 261] (by decide +kernel)
set_option maxRecDepth 100000 in
theorem wsL_x0 : ∀ w ∈ wsX00, w ∈ lw_tbl := sj_mem_r _ [358, 360, 362, 364, 366] (by decide +kernel)
set_option maxRecDepth 100000 in
theorem wsL_x10 : ∀ w ∈ wsX100, w ∈ lw_tbl := sj_mem_r _ [441, 443, 445, 447, 449, 451, 453, 455] (by decide +kernel)
theorem wsL_law_in0 : ∀ w ∈ wsL_law0, w ∈ lw_tbl := by
  unfold wsL_law0
  exact List.forall_mem_append.mpr ⟨List.forall_mem_append.mpr ⟨List.forall_mem_append.mpr ⟨List.forall_mem_append.mpr ⟨List.forall_mem_append.mpr ⟨List.forall_mem_append.mpr ⟨List.forall_mem_append.mpr ⟨List.forall_mem_append.mpr ⟨List.forall_mem_append.mpr ⟨List.forall_mem_append.mpr ⟨List.forall_mem_append.mpr ⟨List.forall_mem_append.mpr ⟨List.forall_mem_append.mpr ⟨List.forall_mem_append.mpr ⟨List.forall_mem_append.mpr ⟨wsL_r1, List.forall_mem_append.mpr ⟨wsL_r2, List.forall_mem_append.mpr ⟨wsL_r3, List.forall_mem_append.mpr ⟨wsL_r4, List.forall_mem_append.mpr ⟨wsL_r5, List.forall_mem_append.mpr ⟨wsL_r6, List.forall_mem_append.mpr ⟨wsL_r7, List.forall_mem_append.mpr ⟨wsL_r8, List.forall_mem_append.mpr ⟨wsL_r9, List.forall_mem_append.mpr ⟨wsL_r10, List.forall_mem_append.mpr ⟨wsL_r11, List.forall_mem_append.mpr ⟨wsL_r12, List.forall_mem_append.mpr ⟨wsL_r13, List.forall_mem_append.mpr ⟨wsL_r14, List.forall_mem_append.mpr ⟨wsL_r15, List.forall_mem_append.mpr ⟨wsL_r16, List.forall_mem_append.mpr ⟨wsL_r17, List.forall_mem_append.mpr ⟨wsL_r18, List.forall_mem_append.mpr ⟨wsL_r19, List.forall_mem_append.mpr ⟨wsL_r20, List.forall_mem_append.mpr ⟨wsL_r21, List.forall_mem_append.mpr ⟨wsL_r22, List.forall_mem_append.mpr ⟨wsL_r23, List.forall_mem_append.mpr ⟨wsL_r24, List.forall_mem_append.mpr ⟨wsL_r25, List.forall_mem_append.mpr ⟨wsL_r26, List.forall_mem_append.mpr ⟨wsL_r27, List.forall_mem_append.mpr ⟨wsL_r28, List.forall_mem_append.mpr ⟨wsL_r29, List.forall_mem_append.mpr ⟨wsL_r30, List.forall_mem_append.mpr ⟨wsL_r31, List.forall_mem_append.mpr ⟨wsL_r32, List.forall_mem_append.mpr ⟨wsL_r33, List.forall_mem_append.mpr ⟨wsL_r34, List.forall_mem_append.mpr ⟨wsL_r35, List.forall_mem_append.mpr ⟨wsL_r36, List.forall_mem_append.mpr ⟨wsL_r37, List.forall_mem_append.mpr ⟨wsL_r38, List.forall_mem_append.mpr ⟨wsL_r39, List.forall_mem_append.mpr ⟨wsL_r40, List.forall_mem_append.mpr ⟨wsL_r41, List.forall_mem_append.mpr ⟨wsL_r42, List.forall_mem_append.mpr ⟨wsL_r43, List.forall_mem_append.mpr ⟨wsL_r44, List.forall_mem_append.mpr ⟨wsL_r45, List.forall_mem_append.mpr ⟨wsL_r46, List.forall_mem_append.mpr ⟨wsL_r47, List.forall_mem_append.mpr ⟨wsL_r48, List.forall_mem_append.mpr ⟨wsL_r49, List.forall_mem_append.mpr ⟨wsL_r50, List.forall_mem_append.mpr ⟨wsL_r51, List.forall_mem_append.mpr ⟨wsL_r52, List.forall_mem_append.mpr ⟨wsL_r53, List.forall_mem_append.mpr ⟨wsL_r54, wsL_r55⟩⟩⟩⟩⟩⟩⟩⟩⟩⟩⟩⟩⟩⟩⟩⟩⟩⟩⟩⟩⟩⟩⟩⟩⟩⟩⟩⟩⟩⟩⟩⟩⟩⟩⟩⟩⟩⟩⟩⟩⟩⟩⟩⟩⟩⟩⟩⟩⟩⟩⟩⟩⟩⟩, wsL_x11⟩, wsL_x12⟩, wsL_x3⟩, wsL_x5⟩, wsL_x1⟩, wsL_x8⟩, wsL_x7⟩, wsL_x2⟩, wsL_x9⟩, wsL_x4⟩, wsL_x6⟩, wsL_x0⟩, wsL_x10⟩, fun _ h => absurd h List.not_mem_nil⟩
