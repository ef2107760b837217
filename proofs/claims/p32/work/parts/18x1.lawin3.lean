theorem inR13 : ∀ w ∈ wsL_law0_r13, w ∈ lw_tbl := mb_mema inR13_0 inR13_1
theorem inR14 : ∀ w ∈ wsL_law0_r14, w ∈ lw_tbl := mb_memr [537, 538, 539, 540, 541, 542, 544, 6, 545, 546, 547, 548, 549, 550, 551, 552, 553, 554, 555, 556, 557, 558, 559, 561] (by decide +kernel)
theorem inR15 : ∀ w ∈ wsL_law0_r15, w ∈ lw_tbl := mb_memr [562, 25, 563, 564, 565, 566, 567, 568, 569, 570, 70, 571, 572, 573, 574, 575, 576, 26, 578, 579, 580, 581, 587, 588] (by decide +kernel)
theorem inR16 : ∀ w ∈ wsL_law0_r16, w ∈ lw_tbl := mb_memr [589, 590, 591, 592, 593, 594, 595, 596, 597, 598, 599, 600, 601, 602, 603, 604, 605, 606, 608, 7, 609, 611, 612, 613] (by decide +kernel)
