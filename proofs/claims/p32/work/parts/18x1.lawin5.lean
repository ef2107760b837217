theorem inR21 : ∀ w ∈ wsL_law0_r21, w ∈ lw_tbl := mb_memr [706, 707, 708, 709, 710, 711, 712, 713, 714, 715, 716, 717, 718, 719, 720, 721, 722, 723, 724, 725, 726, 727, 728, 729] (by decide +kernel)
theorem inR22 : ∀ w ∈ wsL_law0_r22, w ∈ lw_tbl := mb_memr [730, 731, 732, 733, 734, 735, 736, 737, 407, 738, 739, 740, 741, 742, 743, 744, 745, 746, 747, 748, 749, 750, 751, 752] (by decide +kernel)
theorem inR23 : ∀ w ∈ wsL_law0_r23, w ∈ lw_tbl := mb_memr [753, 754, 755, 756, 757, 758, 759, 760, 761, 762, 763, 764, 765, 766, 767, 768, 769, 770, 771, 772, 773, 774, 775, 776] (by decide +kernel)
theorem inR24 : ∀ w ∈ wsL_law0_r24, w ∈ lw_tbl := mb_memr [777, 778, 779, 780, 781] (by decide +kernel)
