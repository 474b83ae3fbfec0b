theorem m_co_X11_set : Cond.code yX11_set cX11_set 10 (some .int) ∈ zT := zmem1 zsub_4 206 (by decide +kernel) (by decide +kernel)
theorem m_ml_RL_67 : Cond.methodLink RL 67 yX11_set ∈ zT := zmem1 zsub_4 203 (by decide +kernel) (by decide +kernel)
theorem m_im_X11_set : Cond.instanceMethod yX11_set ∈ zT := zmem1 zsub_4 204 (by decide +kernel) (by decide +kernel)
theorem m_se_X11_set : Cond.selects RX11 yX11_set yX11_set ∈ zT := zmem1 zsub_4 205 (by decide +kernel) (by decide +kernel)
theorem m_co_X12_set : Cond.code yX12_set cX12_set 7 (some .int) ∈ zT := zmem1 zsub_7 59 (by decide +kernel) (by decide +kernel)
theorem m_ml_RL_70 : Cond.methodLink RL 70 yX12_set ∈ zT := zmem1 zsub_7 56 (by decide +kernel) (by decide +kernel)
theorem m_im_X12_set : Cond.instanceMethod yX12_set ∈ zT := zmem1 zsub_7 57 (by decide +kernel) (by decide +kernel)
theorem m_se_X12_set : Cond.selects RX12 yX12_set yX12_set ∈ zT := zmem1 zsub_7 58 (by decide +kernel) (by decide +kernel)
theorem m_co_X11_lot : Cond.code yX11_lot cX11_lot 9 (some .int) ∈ zT := zmem1 zsub_5 40 (by decide +kernel) (by decide +kernel)
theorem m_ml_RL_71 : Cond.methodLink RL 71 yX11_lot ∈ zT := zmem1 zsub_5 37 (by decide +kernel) (by decide +kernel)
theorem m_im_X11_lot : Cond.instanceMethod yX11_lot ∈ zT := zmem1 zsub_5 38 (by decide +kernel) (by decide +kernel)
theorem m_se_X11_lot : Cond.selects RX11 yX11_lot yX11_lot ∈ zT := zmem1 zsub_5 39 (by decide +kernel) (by decide +kernel)
theorem m_co_X12_lot : Cond.code yX12_lot cX12_lot 8 (some .int) ∈ zT := zmem1 zsub_7 86 (by decide +kernel) (by decide +kernel)
theorem m_ml_RL_75 : Cond.methodLink RL 75 yX12_lot ∈ zT := zmem1 zsub_7 83 (by decide +kernel) (by decide +kernel)
theorem m_im_X12_lot : Cond.instanceMethod yX12_lot ∈ zT := zmem1 zsub_7 84 (by decide +kernel) (by decide +kernel)
theorem m_se_X12_lot : Cond.selects RX12 yX12_lot yX12_lot ∈ zT := zmem1 zsub_7 85 (by decide +kernel) (by decide +kernel)
theorem m_co_X11_mean : Cond.code yX11_mean cX11_mean 8 (some .int) ∈ zT := zmem1 zsub_5 48 (by decide +kernel) (by decide +kernel)
theorem m_ml_RL_76 : Cond.methodLink RL 76 yX11_mean ∈ zT := zmem1 zsub_5 45 (by decide +kernel) (by decide +kernel)
theorem m_im_X11_mean : Cond.instanceMethod yX11_mean ∈ zT := zmem1 zsub_5 46 (by decide +kernel) (by decide +kernel)
theorem m_se_X11_mean : Cond.selects RX11 yX11_mean yX11_mean ∈ zT := zmem1 zsub_5 47 (by decide +kernel) (by decide +kernel)
theorem m_co_X12_mean : Cond.code yX12_mean cX12_mean 7 (some .int) ∈ zT := zmem1 zsub_7 96 (by decide +kernel) (by decide +kernel)
theorem m_ml_RL_79 : Cond.methodLink RL 79 yX12_mean ∈ zT := zmem1 zsub_7 93 (by decide +kernel) (by decide +kernel)
theorem m_im_X12_mean : Cond.instanceMethod yX12_mean ∈ zT := zmem1 zsub_7 94 (by decide +kernel) (by decide +kernel)
theorem m_se_X12_mean : Cond.selects RX12 yX12_mean yX12_mean ∈ zT := zmem1 zsub_7 95 (by decide +kernel) (by decide +kernel)
theorem m_co_X11_trees : Cond.code yX11_trees cX11_trees 4 (some .int) ∈ zT := zmem1 zsub_5 56 (by decide +kernel) (by decide +kernel)
theorem m_ml_RL_80 : Cond.methodLink RL 80 yX11_trees ∈ zT := zmem1 zsub_5 53 (by decide +kernel) (by decide +kernel)
theorem m_im_X11_trees : Cond.instanceMethod yX11_trees ∈ zT := zmem1 zsub_5 54 (by decide +kernel) (by decide +kernel)
theorem m_se_X11_trees : Cond.selects RX11 yX11_trees yX11_trees ∈ zT := zmem1 zsub_5 55 (by decide +kernel) (by decide +kernel)
theorem m_co_X12_trees : Cond.code yX12_trees cX12_trees 7 (some .int) ∈ zT := zmem1 zsub_7 100 (by decide +kernel) (by decide +kernel)
theorem m_ml_RL_83 : Cond.methodLink RL 83 yX12_trees ∈ zT := zmem1 zsub_7 97 (by decide +kernel) (by decide +kernel)
theorem m_im_X12_trees : Cond.instanceMethod yX12_trees ∈ zT := zmem1 zsub_7 98 (by decide +kernel) (by decide +kernel)
theorem m_se_X12_trees : Cond.selects RX12 yX12_trees yX12_trees ∈ zT := zmem1 zsub_7 99 (by decide +kernel) (by decide +kernel)
theorem m_co_X11_game : Cond.code yX11_game cX11_game 9 (some .int) ∈ zT := zmem1 zsub_5 93 (by decide +kernel) (by decide +kernel)
theorem m_ml_RL_84 : Cond.methodLink RL 84 yX11_game ∈ zT := zmem1 zsub_5 90 (by decide +kernel) (by decide +kernel)
theorem m_im_X11_game : Cond.instanceMethod yX11_game ∈ zT := zmem1 zsub_5 91 (by decide +kernel) (by decide +kernel)
theorem m_se_X11_game : Cond.selects RX11 yX11_game yX11_game ∈ zT := zmem1 zsub_5 92 (by decide +kernel) (by decide +kernel)
theorem m_co_X12_game : Cond.code yX12_game cX12_game 11 (some .int) ∈ zT := zmem1 zsub_7 108 (by decide +kernel) (by decide +kernel)
theorem m_ml_RL_87 : Cond.methodLink RL 87 yX12_game ∈ zT := zmem1 zsub_7 105 (by decide +kernel) (by decide +kernel)
theorem m_im_X12_game : Cond.instanceMethod yX12_game ∈ zT := zmem1 zsub_7 106 (by decide +kernel) (by decide +kernel)
theorem m_se_X12_game : Cond.selects RX12 yX12_game yX12_game ∈ zT := zmem1 zsub_7 107 (by decide +kernel) (by decide +kernel)
theorem m_co_X11_fact : Cond.code yX11_fact cX11_fact 5 (some .int) ∈ zT := zmem1 zsub_3 224 (by decide +kernel) (by decide +kernel)
theorem m_ml_RL_88 : Cond.methodLink RL 88 yX11_fact ∈ zT := zmem1 zsub_3 221 (by decide +kernel) (by decide +kernel)
theorem m_im_X11_fact : Cond.instanceMethod yX11_fact ∈ zT := zmem1 zsub_3 222 (by decide +kernel) (by decide +kernel)
theorem m_se_X11_fact : Cond.selects RX11 yX11_fact yX11_fact ∈ zT := zmem1 zsub_3 223 (by decide +kernel) (by decide +kernel)
theorem m_co_X12_fact : Cond.code yX12_fact cX12_fact 4 (some .int) ∈ zT := zmem1 zsub_8 28 (by decide +kernel) (by decide +kernel)
theorem m_ml_RL_91 : Cond.methodLink RL 91 yX12_fact ∈ zT := zmem1 zsub_8 25 (by decide +kernel) (by decide +kernel)
theorem m_im_X12_fact : Cond.instanceMethod yX12_fact ∈ zT := zmem1 zsub_8 26 (by decide +kernel) (by decide +kernel)
theorem m_se_X12_fact : Cond.selects RX12 yX12_fact yX12_fact ∈ zT := zmem1 zsub_8 27 (by decide +kernel) (by decide +kernel)
theorem kV_RL_67 {R : Room} {s : State} {args : Array Value} {d mc ms : Nat} (hts : ∀ w ∈ zT, w.before args s = true) (h1 : d + 1 ≤ R.frames) (h2 : 8 + (10 + 11) + 40 * d ≤ R.locals) : CallW R s args RL RX11 67 yX11_set cX11_set 10 (some .int) (zW yX11_set cX11_set 10 (some .int)) (zR d mc ms) mc ms 4 := z_cwV hts m_co_X11_set m_ml_RL_67 m_im_X11_set m_se_X11_set m_ii_RX11 (by decide +kernel) h1 h2
theorem kV_RL_70 {R : Room} {s : State} {args : Array Value} {d mc ms : Nat} (hts : ∀ w ∈ zT, w.before args s = true) (h1 : d + 1 ≤ R.frames) (h2 : 8 + (7 + 11) + 40 * d ≤ R.locals) : CallW R s args RL RX12 70 yX12_set cX12_set 7 (some .int) (zW yX12_set cX12_set 7 (some .int)) (zR d mc ms) mc ms 4 := z_cwV hts m_co_X12_set m_ml_RL_70 m_im_X12_set m_se_X12_set m_ii_RX12 (by decide +kernel) h1 h2
theorem kV_RL_71 {R : Room} {s : State} {args : Array Value} {d mc ms : Nat} (hts : ∀ w ∈ zT, w.before args s = true) (h1 : d + 1 ≤ R.frames) (h2 : 8 + (9 + 11) + 40 * d ≤ R.locals) : CallW R s args RL RX11 71 yX11_lot cX11_lot 9 (some .int) (zW yX11_lot cX11_lot 9 (some .int)) (zR d mc ms) mc ms 4 := z_cwV hts m_co_X11_lot m_ml_RL_71 m_im_X11_lot m_se_X11_lot m_ii_RX11 (by decide +kernel) h1 h2
theorem kV_RL_75 {R : Room} {s : State} {args : Array Value} {d mc ms : Nat} (hts : ∀ w ∈ zT, w.before args s = true) (h1 : d + 1 ≤ R.frames) (h2 : 8 + (8 + 11) + 40 * d ≤ R.locals) : CallW R s args RL RX12 75 yX12_lot cX12_lot 8 (some .int) (zW yX12_lot cX12_lot 8 (some .int)) (zR d mc ms) mc ms 4 := z_cwV hts m_co_X12_lot m_ml_RL_75 m_im_X12_lot m_se_X12_lot m_ii_RX12 (by decide +kernel) h1 h2
theorem kV_RL_76 {R : Room} {s : State} {args : Array Value} {d mc ms : Nat} (hts : ∀ w ∈ zT, w.before args s = true) (h1 : d + 1 ≤ R.frames) (h2 : 8 + (8 + 11) + 40 * d ≤ R.locals) : CallW R s args RL RX11 76 yX11_mean cX11_mean 8 (some .int) (zW yX11_mean cX11_mean 8 (some .int)) (zR d mc ms) mc ms 3 := z_cwV hts m_co_X11_mean m_ml_RL_76 m_im_X11_mean m_se_X11_mean m_ii_RX11 (by decide +kernel) h1 h2
theorem kV_RL_79 {R : Room} {s : State} {args : Array Value} {d mc ms : Nat} (hts : ∀ w ∈ zT, w.before args s = true) (h1 : d + 1 ≤ R.frames) (h2 : 8 + (7 + 11) + 40 * d ≤ R.locals) : CallW R s args RL RX12 79 yX12_mean cX12_mean 7 (some .int) (zW yX12_mean cX12_mean 7 (some .int)) (zR d mc ms) mc ms 3 := z_cwV hts m_co_X12_mean m_ml_RL_79 m_im_X12_mean m_se_X12_mean m_ii_RX12 (by decide +kernel) h1 h2
theorem kV_RL_80 {R : Room} {s : State} {args : Array Value} {d mc ms : Nat} (hts : ∀ w ∈ zT, w.before args s = true) (h1 : d + 1 ≤ R.frames) (h2 : 8 + (4 + 11) + 40 * d ≤ R.locals) : CallW R s args RL RX11 80 yX11_trees cX11_trees 4 (some .int) (zW yX11_trees cX11_trees 4 (some .int)) (zR d mc ms) mc ms 1 := z_cwV hts m_co_X11_trees m_ml_RL_80 m_im_X11_trees m_se_X11_trees m_ii_RX11 (by decide +kernel) h1 h2
theorem kV_RL_83 {R : Room} {s : State} {args : Array Value} {d mc ms : Nat} (hts : ∀ w ∈ zT, w.before args s = true) (h1 : d + 1 ≤ R.frames) (h2 : 8 + (7 + 11) + 40 * d ≤ R.locals) : CallW R s args RL RX12 83 yX12_trees cX12_trees 7 (some .int) (zW yX12_trees cX12_trees 7 (some .int)) (zR d mc ms) mc ms 1 := z_cwV hts m_co_X12_trees m_ml_RL_83 m_im_X12_trees m_se_X12_trees m_ii_RX12 (by decide +kernel) h1 h2
theorem kV_RL_84 {R : Room} {s : State} {args : Array Value} {d mc ms : Nat} (hts : ∀ w ∈ zT, w.before args s = true) (h1 : d + 1 ≤ R.frames) (h2 : 8 + (9 + 11) + 40 * d ≤ R.locals) : CallW R s args RL RX11 84 yX11_game cX11_game 9 (some .int) (zW yX11_game cX11_game 9 (some .int)) (zR d mc ms) mc ms 4 := z_cwV hts m_co_X11_game m_ml_RL_84 m_im_X11_game m_se_X11_game m_ii_RX11 (by decide +kernel) h1 h2
theorem kV_RL_87 {R : Room} {s : State} {args : Array Value} {d mc ms : Nat} (hts : ∀ w ∈ zT, w.before args s = true) (h1 : d + 1 ≤ R.frames) (h2 : 8 + (11 + 11) + 40 * d ≤ R.locals) : CallW R s args RL RX12 87 yX12_game cX12_game 11 (some .int) (zW yX12_game cX12_game 11 (some .int)) (zR d mc ms) mc ms 4 := z_cwV hts m_co_X12_game m_ml_RL_87 m_im_X12_game m_se_X12_game m_ii_RX12 (by decide +kernel) h1 h2
theorem kV_RL_88 {R : Room} {s : State} {args : Array Value} {d mc ms : Nat} (hts : ∀ w ∈ zT, w.before args s = true) (h1 : d + 1 ≤ R.frames) (h2 : 8 + (5 + 11) + 40 * d ≤ R.locals) : CallW R s args RL RX11 88 yX11_fact cX11_fact 5 (some .int) (zW yX11_fact cX11_fact 5 (some .int)) (zR d mc ms) mc ms 3 := z_cwV hts m_co_X11_fact m_ml_RL_88 m_im_X11_fact m_se_X11_fact m_ii_RX11 (by decide +kernel) h1 h2
theorem kV_RL_91 {R : Room} {s : State} {args : Array Value} {d mc ms : Nat} (hts : ∀ w ∈ zT, w.before args s = true) (h1 : d + 1 ≤ R.frames) (h2 : 8 + (4 + 11) + 40 * d ≤ R.locals) : CallW R s args RL RX12 91 yX12_fact cX12_fact 4 (some .int) (zW yX12_fact cX12_fact 4 (some .int)) (zR d mc ms) mc ms 3 := z_cwV hts m_co_X12_fact m_ml_RL_91 m_im_X12_fact m_se_X12_fact m_ii_RX12 (by decide +kernel) h1 h2
theorem dL_law_670 : decode cL_law 670 = .ok (.aload_n 1, 1) := by decide +kernel
theorem dL_law_671 : decode cL_law 671 = .ok (.aload_n 0, 1) := by decide +kernel
theorem dL_law_672 : decode cL_law 672 = .ok (.iload_n 3, 1) := by decide +kernel
theorem dL_law_673 : decode cL_law 673 = .ok (.iconst 1, 1) := by decide +kernel
theorem dL_law_674 : decode cL_law 674 = .ok (.iadd, 1) := by decide +kernel
theorem dL_law_675 : decode cL_law 675 = .ok (.iaload, 1) := by decide +kernel
theorem dL_law_676 : decode cL_law 676 = .ok (.aload_n 0, 1) := by decide +kernel
theorem dL_law_677 : decode cL_law 677 = .ok (.iload_n 3, 1) := by decide +kernel
theorem dL_law_678 : decode cL_law 678 = .ok (.iconst 2, 1) := by decide +kernel
theorem dL_law_679 : decode cL_law 679 = .ok (.iadd, 1) := by decide +kernel
theorem dL_law_680 : decode cL_law 680 = .ok (.iaload, 1) := by decide +kernel
theorem dL_law_681 : decode cL_law 681 = .ok (.aload_n 0, 1) := by decide +kernel
theorem dL_law_682 : decode cL_law 682 = .ok (.iload_n 3, 1) := by decide +kernel
theorem dL_law_683 : decode cL_law 683 = .ok (.iconst 3, 1) := by decide +kernel
theorem dL_law_684 : decode cL_law 684 = .ok (.iadd, 1) := by decide +kernel
theorem dL_law_685 : decode cL_law 685 = .ok (.iaload, 1) := by decide +kernel
theorem dL_law_686 : decode cL_law 686 = .ok (.aload_n 0, 1) := by decide +kernel
theorem dL_law_687 : decode cL_law 687 = .ok (.iload_n 3, 1) := by decide +kernel
theorem dL_law_688 : decode cL_law 688 = .ok (.iconst 4, 1) := by decide +kernel
theorem dL_law_689 : decode cL_law 689 = .ok (.iadd, 1) := by decide +kernel
theorem dL_law_690 : decode cL_law 690 = .ok (.iaload, 1) := by decide +kernel
theorem dL_law_691 : decode cL_law 691 = .ok (.invokevirtual 67, 3) := by decide +kernel
theorem dL_law_694 : decode cL_law 694 = .ok (.pop, 1) := by decide +kernel
theorem dL_law_695 : decode cL_law 695 = .ok (.aload_n 2, 1) := by decide +kernel
theorem dL_law_696 : decode cL_law 696 = .ok (.aload_n 0, 1) := by decide +kernel
theorem dL_law_697 : decode cL_law 697 = .ok (.iload_n 3, 1) := by decide +kernel
theorem dL_law_698 : decode cL_law 698 = .ok (.iconst 1, 1) := by decide +kernel
theorem dL_law_699 : decode cL_law 699 = .ok (.iadd, 1) := by decide +kernel
theorem dL_law_700 : decode cL_law 700 = .ok (.iaload, 1) := by decide +kernel
theorem dL_law_701 : decode cL_law 701 = .ok (.aload_n 0, 1) := by decide +kernel
theorem dL_law_702 : decode cL_law 702 = .ok (.iload_n 3, 1) := by decide +kernel
theorem dL_law_703 : decode cL_law 703 = .ok (.iconst 2, 1) := by decide +kernel
theorem dL_law_704 : decode cL_law 704 = .ok (.iadd, 1) := by decide +kernel
theorem dL_law_705 : decode cL_law 705 = .ok (.iaload, 1) := by decide +kernel
theorem dL_law_706 : decode cL_law 706 = .ok (.aload_n 0, 1) := by decide +kernel
theorem dL_law_707 : decode cL_law 707 = .ok (.iload_n 3, 1) := by decide +kernel
theorem dL_law_708 : decode cL_law 708 = .ok (.iconst 3, 1) := by decide +kernel
theorem dL_law_709 : decode cL_law 709 = .ok (.iadd, 1) := by decide +kernel
theorem dL_law_710 : decode cL_law 710 = .ok (.iaload, 1) := by decide +kernel
theorem dL_law_711 : decode cL_law 711 = .ok (.aload_n 0, 1) := by decide +kernel
theorem dL_law_712 : decode cL_law 712 = .ok (.iload_n 3, 1) := by decide +kernel
theorem dL_law_713 : decode cL_law 713 = .ok (.iconst 4, 1) := by decide +kernel
theorem dL_law_714 : decode cL_law 714 = .ok (.iadd, 1) := by decide +kernel
theorem dL_law_715 : decode cL_law 715 = .ok (.iaload, 1) := by decide +kernel
theorem dL_law_716 : decode cL_law 716 = .ok (.invokevirtual 70, 3) := by decide +kernel
theorem dL_law_719 : decode cL_law 719 = .ok (.pop, 1) := by decide +kernel
theorem dL_law_720 : decode cL_law 720 = .ok (.goto 1047, 3) := by decide +kernel
theorem dL_law_723 : decode cL_law 723 = .ok (.aload_n 1, 1) := by decide +kernel
theorem dL_law_724 : decode cL_law 724 = .ok (.aload_n 0, 1) := by decide +kernel
theorem dL_law_725 : decode cL_law 725 = .ok (.iload_n 3, 1) := by decide +kernel
theorem dL_law_726 : decode cL_law 726 = .ok (.iconst 1, 1) := by decide +kernel
theorem dL_law_727 : decode cL_law 727 = .ok (.iadd, 1) := by decide +kernel
theorem dL_law_728 : decode cL_law 728 = .ok (.iaload, 1) := by decide +kernel
theorem dL_law_729 : decode cL_law 729 = .ok (.aload_n 0, 1) := by decide +kernel
theorem dL_law_730 : decode cL_law 730 = .ok (.iload_n 3, 1) := by decide +kernel
theorem dL_law_731 : decode cL_law 731 = .ok (.iconst 2, 1) := by decide +kernel
theorem dL_law_732 : decode cL_law 732 = .ok (.iadd, 1) := by decide +kernel
theorem dL_law_733 : decode cL_law 733 = .ok (.iaload, 1) := by decide +kernel
theorem dL_law_734 : decode cL_law 734 = .ok (.aload_n 0, 1) := by decide +kernel
theorem dL_law_735 : decode cL_law 735 = .ok (.iload_n 3, 1) := by decide +kernel
theorem dL_law_736 : decode cL_law 736 = .ok (.iconst 3, 1) := by decide +kernel
theorem dL_law_737 : decode cL_law 737 = .ok (.iadd, 1) := by decide +kernel
theorem dL_law_738 : decode cL_law 738 = .ok (.iaload, 1) := by decide +kernel
theorem dL_law_739 : decode cL_law 739 = .ok (.aload_n 0, 1) := by decide +kernel
theorem dL_law_740 : decode cL_law 740 = .ok (.iload_n 3, 1) := by decide +kernel
theorem dL_law_741 : decode cL_law 741 = .ok (.iconst 4, 1) := by decide +kernel
theorem dL_law_742 : decode cL_law 742 = .ok (.iadd, 1) := by decide +kernel
theorem dL_law_743 : decode cL_law 743 = .ok (.iaload, 1) := by decide +kernel
theorem dL_law_744 : decode cL_law 744 = .ok (.ifCond .eq 7, 3) := by decide +kernel
theorem dL_law_747 : decode cL_law 747 = .ok (.iconst 1, 1) := by decide +kernel
theorem dL_law_748 : decode cL_law 748 = .ok (.goto 4, 3) := by decide +kernel
theorem dL_law_751 : decode cL_law 751 = .ok (.iconst 0, 1) := by decide +kernel
theorem dL_law_752 : decode cL_law 752 = .ok (.invokevirtual 71, 3) := by decide +kernel
theorem dL_law_755 : decode cL_law 755 = .ok (.pop, 1) := by decide +kernel
theorem dL_law_756 : decode cL_law 756 = .ok (.aload_n 2, 1) := by decide +kernel
theorem dL_law_757 : decode cL_law 757 = .ok (.aload_n 0, 1) := by decide +kernel
theorem dL_law_758 : decode cL_law 758 = .ok (.iload_n 3, 1) := by decide +kernel
theorem dL_law_759 : decode cL_law 759 = .ok (.iconst 1, 1) := by decide +kernel
theorem dL_law_760 : decode cL_law 760 = .ok (.iadd, 1) := by decide +kernel
theorem dL_law_761 : decode cL_law 761 = .ok (.iaload, 1) := by decide +kernel
theorem dL_law_762 : decode cL_law 762 = .ok (.aload_n 0, 1) := by decide +kernel
theorem dL_law_763 : decode cL_law 763 = .ok (.iload_n 3, 1) := by decide +kernel
theorem dL_law_764 : decode cL_law 764 = .ok (.iconst 2, 1) := by decide +kernel
theorem dL_law_765 : decode cL_law 765 = .ok (.iadd, 1) := by decide +kernel
theorem dL_law_766 : decode cL_law 766 = .ok (.iaload, 1) := by decide +kernel
theorem dL_law_767 : decode cL_law 767 = .ok (.aload_n 0, 1) := by decide +kernel
theorem dL_law_768 : decode cL_law 768 = .ok (.iload_n 3, 1) := by decide +kernel
theorem dL_law_769 : decode cL_law 769 = .ok (.iconst 3, 1) := by decide +kernel
theorem dL_law_770 : decode cL_law 770 = .ok (.iadd, 1) := by decide +kernel
theorem dL_law_771 : decode cL_law 771 = .ok (.iaload, 1) := by decide +kernel
theorem dL_law_772 : decode cL_law 772 = .ok (.aload_n 0, 1) := by decide +kernel
theorem dL_law_773 : decode cL_law 773 = .ok (.iload_n 3, 1) := by decide +kernel
theorem dL_law_774 : decode cL_law 774 = .ok (.iconst 4, 1) := by decide +kernel
theorem dL_law_775 : decode cL_law 775 = .ok (.iadd, 1) := by decide +kernel
theorem dL_law_776 : decode cL_law 776 = .ok (.iaload, 1) := by decide +kernel
theorem dL_law_777 : decode cL_law 777 = .ok (.ifCond .eq 7, 3) := by decide +kernel
theorem dL_law_780 : decode cL_law 780 = .ok (.iconst 1, 1) := by decide +kernel
theorem dL_law_781 : decode cL_law 781 = .ok (.goto 4, 3) := by decide +kernel
theorem dL_law_784 : decode cL_law 784 = .ok (.iconst 0, 1) := by decide +kernel
theorem dL_law_785 : decode cL_law 785 = .ok (.invokevirtual 75, 3) := by decide +kernel
theorem dL_law_788 : decode cL_law 788 = .ok (.pop, 1) := by decide +kernel
theorem dL_law_789 : decode cL_law 789 = .ok (.goto 978, 3) := by decide +kernel
theorem dL_law_792 : decode cL_law 792 = .ok (.aload_n 1, 1) := by decide +kernel
theorem dL_law_793 : decode cL_law 793 = .ok (.aload_n 0, 1) := by decide +kernel
theorem dL_law_794 : decode cL_law 794 = .ok (.iload_n 3, 1) := by decide +kernel
theorem dL_law_795 : decode cL_law 795 = .ok (.iconst 1, 1) := by decide +kernel
theorem dL_law_796 : decode cL_law 796 = .ok (.iadd, 1) := by decide +kernel
theorem dL_law_797 : decode cL_law 797 = .ok (.iaload, 1) := by decide +kernel
theorem dL_law_798 : decode cL_law 798 = .ok (.aload_n 0, 1) := by decide +kernel
theorem dL_law_799 : decode cL_law 799 = .ok (.iload_n 3, 1) := by decide +kernel
theorem dL_law_800 : decode cL_law 800 = .ok (.iconst 2, 1) := by decide +kernel
theorem dL_law_801 : decode cL_law 801 = .ok (.iadd, 1) := by decide +kernel
theorem dL_law_802 : decode cL_law 802 = .ok (.iaload, 1) := by decide +kernel
theorem dL_law_803 : decode cL_law 803 = .ok (.aload_n 0, 1) := by decide +kernel
theorem dL_law_804 : decode cL_law 804 = .ok (.iload_n 3, 1) := by decide +kernel
theorem dL_law_805 : decode cL_law 805 = .ok (.iconst 3, 1) := by decide +kernel
theorem dL_law_806 : decode cL_law 806 = .ok (.iadd, 1) := by decide +kernel
theorem dL_law_807 : decode cL_law 807 = .ok (.iaload, 1) := by decide +kernel
theorem dL_law_808 : decode cL_law 808 = .ok (.ifCond .eq 7, 3) := by decide +kernel
theorem dL_law_811 : decode cL_law 811 = .ok (.iconst 1, 1) := by decide +kernel
theorem dL_law_812 : decode cL_law 812 = .ok (.goto 4, 3) := by decide +kernel
theorem dL_law_815 : decode cL_law 815 = .ok (.iconst 0, 1) := by decide +kernel
theorem dL_law_816 : decode cL_law 816 = .ok (.invokevirtual 76, 3) := by decide +kernel
theorem dL_law_819 : decode cL_law 819 = .ok (.pop, 1) := by decide +kernel
theorem dL_law_820 : decode cL_law 820 = .ok (.aload_n 2, 1) := by decide +kernel
theorem dL_law_821 : decode cL_law 821 = .ok (.aload_n 0, 1) := by decide +kernel
theorem dL_law_822 : decode cL_law 822 = .ok (.iload_n 3, 1) := by decide +kernel
theorem dL_law_823 : decode cL_law 823 = .ok (.iconst 1, 1) := by decide +kernel
theorem dL_law_824 : decode cL_law 824 = .ok (.iadd, 1) := by decide +kernel
theorem dL_law_825 : decode cL_law 825 = .ok (.iaload, 1) := by decide +kernel
theorem dL_law_826 : decode cL_law 826 = .ok (.aload_n 0, 1) := by decide +kernel
theorem dL_law_827 : decode cL_law 827 = .ok (.iload_n 3, 1) := by decide +kernel
theorem dL_law_828 : decode cL_law 828 = .ok (.iconst 2, 1) := by decide +kernel
theorem dL_law_829 : decode cL_law 829 = .ok (.iadd, 1) := by decide +kernel
theorem dL_law_830 : decode cL_law 830 = .ok (.iaload, 1) := by decide +kernel
theorem dL_law_831 : decode cL_law 831 = .ok (.aload_n 0, 1) := by decide +kernel
theorem dL_law_832 : decode cL_law 832 = .ok (.iload_n 3, 1) := by decide +kernel
theorem dL_law_833 : decode cL_law 833 = .ok (.iconst 3, 1) := by decide +kernel
theorem dL_law_834 : decode cL_law 834 = .ok (.iadd, 1) := by decide +kernel
theorem dL_law_835 : decode cL_law 835 = .ok (.iaload, 1) := by decide +kernel
theorem dL_law_836 : decode cL_law 836 = .ok (.ifCond .eq 7, 3) := by decide +kernel
theorem dL_law_839 : decode cL_law 839 = .ok (.iconst 1, 1) := by decide +kernel
theorem dL_law_840 : decode cL_law 840 = .ok (.goto 4, 3) := by decide +kernel
theorem dL_law_843 : decode cL_law 843 = .ok (.iconst 0, 1) := by decide +kernel
theorem dL_law_844 : decode cL_law 844 = .ok (.invokevirtual 79, 3) := by decide +kernel
theorem dL_law_847 : decode cL_law 847 = .ok (.pop, 1) := by decide +kernel
theorem dL_law_848 : decode cL_law 848 = .ok (.goto 919, 3) := by decide +kernel
theorem dL_law_851 : decode cL_law 851 = .ok (.aload_n 1, 1) := by decide +kernel
theorem dL_law_852 : decode cL_law 852 = .ok (.aload_n 0, 1) := by decide +kernel
theorem dL_law_853 : decode cL_law 853 = .ok (.iload_n 3, 1) := by decide +kernel
theorem dL_law_854 : decode cL_law 854 = .ok (.iconst 1, 1) := by decide +kernel
theorem dL_law_855 : decode cL_law 855 = .ok (.iadd, 1) := by decide +kernel
theorem dL_law_856 : decode cL_law 856 = .ok (.iaload, 1) := by decide +kernel
theorem dL_law_857 : decode cL_law 857 = .ok (.invokevirtual 80, 3) := by decide +kernel
theorem dL_law_860 : decode cL_law 860 = .ok (.pop, 1) := by decide +kernel
theorem dL_law_861 : decode cL_law 861 = .ok (.aload_n 2, 1) := by decide +kernel
theorem dL_law_862 : decode cL_law 862 = .ok (.aload_n 0, 1) := by decide +kernel
theorem dL_law_863 : decode cL_law 863 = .ok (.iload_n 3, 1) := by decide +kernel
theorem dL_law_864 : decode cL_law 864 = .ok (.iconst 1, 1) := by decide +kernel
theorem dL_law_865 : decode cL_law 865 = .ok (.iadd, 1) := by decide +kernel
theorem dL_law_866 : decode cL_law 866 = .ok (.iaload, 1) := by decide +kernel
theorem dL_law_867 : decode cL_law 867 = .ok (.invokevirtual 83, 3) := by decide +kernel
theorem dL_law_870 : decode cL_law 870 = .ok (.pop, 1) := by decide +kernel
theorem dL_law_871 : decode cL_law 871 = .ok (.goto 896, 3) := by decide +kernel
theorem dL_law_874 : decode cL_law 874 = .ok (.aload_n 1, 1) := by decide +kernel
theorem dL_law_875 : decode cL_law 875 = .ok (.aload_n 0, 1) := by decide +kernel
theorem dL_law_876 : decode cL_law 876 = .ok (.iload_n 3, 1) := by decide +kernel
theorem dL_law_877 : decode cL_law 877 = .ok (.iconst 1, 1) := by decide +kernel
theorem dL_law_878 : decode cL_law 878 = .ok (.iadd, 1) := by decide +kernel
theorem dL_law_879 : decode cL_law 879 = .ok (.iaload, 1) := by decide +kernel
theorem dL_law_880 : decode cL_law 880 = .ok (.aload_n 0, 1) := by decide +kernel
theorem dL_law_881 : decode cL_law 881 = .ok (.iload_n 3, 1) := by decide +kernel
theorem dL_law_882 : decode cL_law 882 = .ok (.iconst 2, 1) := by decide +kernel
theorem dL_law_883 : decode cL_law 883 = .ok (.iadd, 1) := by decide +kernel
theorem dL_law_884 : decode cL_law 884 = .ok (.iaload, 1) := by decide +kernel
theorem dL_law_885 : decode cL_law 885 = .ok (.aload_n 0, 1) := by decide +kernel
theorem dL_law_886 : decode cL_law 886 = .ok (.iload_n 3, 1) := by decide +kernel
theorem dL_law_887 : decode cL_law 887 = .ok (.iconst 3, 1) := by decide +kernel
theorem dL_law_888 : decode cL_law 888 = .ok (.iadd, 1) := by decide +kernel
theorem dL_law_889 : decode cL_law 889 = .ok (.iaload, 1) := by decide +kernel
theorem dL_law_890 : decode cL_law 890 = .ok (.aload_n 0, 1) := by decide +kernel
theorem dL_law_891 : decode cL_law 891 = .ok (.iload_n 3, 1) := by decide +kernel
theorem dL_law_892 : decode cL_law 892 = .ok (.iconst 4, 1) := by decide +kernel
theorem dL_law_893 : decode cL_law 893 = .ok (.iadd, 1) := by decide +kernel
theorem dL_law_894 : decode cL_law 894 = .ok (.iaload, 1) := by decide +kernel
theorem dL_law_895 : decode cL_law 895 = .ok (.ifCond .eq 7, 3) := by decide +kernel
theorem dL_law_898 : decode cL_law 898 = .ok (.iconst 1, 1) := by decide +kernel
theorem dL_law_899 : decode cL_law 899 = .ok (.goto 4, 3) := by decide +kernel
theorem dL_law_902 : decode cL_law 902 = .ok (.iconst 0, 1) := by decide +kernel
theorem dL_law_903 : decode cL_law 903 = .ok (.invokevirtual 84, 3) := by decide +kernel
theorem dL_law_906 : decode cL_law 906 = .ok (.pop, 1) := by decide +kernel
theorem dL_law_907 : decode cL_law 907 = .ok (.aload_n 2, 1) := by decide +kernel
theorem dL_law_908 : decode cL_law 908 = .ok (.aload_n 0, 1) := by decide +kernel
theorem dL_law_909 : decode cL_law 909 = .ok (.iload_n 3, 1) := by decide +kernel
theorem dL_law_910 : decode cL_law 910 = .ok (.iconst 1, 1) := by decide +kernel
theorem dL_law_911 : decode cL_law 911 = .ok (.iadd, 1) := by decide +kernel
theorem dL_law_912 : decode cL_law 912 = .ok (.iaload, 1) := by decide +kernel
theorem dL_law_913 : decode cL_law 913 = .ok (.aload_n 0, 1) := by decide +kernel
theorem dL_law_914 : decode cL_law 914 = .ok (.iload_n 3, 1) := by decide +kernel
theorem dL_law_915 : decode cL_law 915 = .ok (.iconst 2, 1) := by decide +kernel
theorem dL_law_916 : decode cL_law 916 = .ok (.iadd, 1) := by decide +kernel
theorem dL_law_917 : decode cL_law 917 = .ok (.iaload, 1) := by decide +kernel
theorem dL_law_918 : decode cL_law 918 = .ok (.aload_n 0, 1) := by decide +kernel
theorem dL_law_919 : decode cL_law 919 = .ok (.iload_n 3, 1) := by decide +kernel
theorem dL_law_920 : decode cL_law 920 = .ok (.iconst 3, 1) := by decide +kernel
theorem dL_law_921 : decode cL_law 921 = .ok (.iadd, 1) := by decide +kernel
theorem dL_law_922 : decode cL_law 922 = .ok (.iaload, 1) := by decide +kernel
theorem dL_law_923 : decode cL_law 923 = .ok (.aload_n 0, 1) := by decide +kernel
theorem dL_law_924 : decode cL_law 924 = .ok (.iload_n 3, 1) := by decide +kernel
theorem dL_law_925 : decode cL_law 925 = .ok (.iconst 4, 1) := by decide +kernel
theorem dL_law_926 : decode cL_law 926 = .ok (.iadd, 1) := by decide +kernel
theorem dL_law_927 : decode cL_law 927 = .ok (.iaload, 1) := by decide +kernel
theorem dL_law_928 : decode cL_law 928 = .ok (.ifCond .eq 7, 3) := by decide +kernel
theorem dL_law_931 : decode cL_law 931 = .ok (.iconst 1, 1) := by decide +kernel
theorem dL_law_932 : decode cL_law 932 = .ok (.goto 4, 3) := by decide +kernel
theorem dL_law_935 : decode cL_law 935 = .ok (.iconst 0, 1) := by decide +kernel
theorem dL_law_936 : decode cL_law 936 = .ok (.invokevirtual 87, 3) := by decide +kernel
theorem dL_law_939 : decode cL_law 939 = .ok (.pop, 1) := by decide +kernel
theorem dL_law_940 : decode cL_law 940 = .ok (.goto 827, 3) := by decide +kernel
theorem dL_law_943 : decode cL_law 943 = .ok (.aload_n 1, 1) := by decide +kernel
theorem dL_law_944 : decode cL_law 944 = .ok (.aload_n 0, 1) := by decide +kernel
theorem dL_law_945 : decode cL_law 945 = .ok (.iload_n 3, 1) := by decide +kernel
theorem dL_law_946 : decode cL_law 946 = .ok (.iconst 1, 1) := by decide +kernel
theorem dL_law_947 : decode cL_law 947 = .ok (.iadd, 1) := by decide +kernel
theorem dL_law_948 : decode cL_law 948 = .ok (.iaload, 1) := by decide +kernel
theorem dL_law_949 : decode cL_law 949 = .ok (.aload_n 0, 1) := by decide +kernel
theorem dL_law_950 : decode cL_law 950 = .ok (.iload_n 3, 1) := by decide +kernel
theorem dL_law_951 : decode cL_law 951 = .ok (.iconst 2, 1) := by decide +kernel
theorem dL_law_952 : decode cL_law 952 = .ok (.iadd, 1) := by decide +kernel
theorem dL_law_953 : decode cL_law 953 = .ok (.iaload, 1) := by decide +kernel
theorem dL_law_954 : decode cL_law 954 = .ok (.aload_n 0, 1) := by decide +kernel
theorem dL_law_955 : decode cL_law 955 = .ok (.iload_n 3, 1) := by decide +kernel
theorem dL_law_956 : decode cL_law 956 = .ok (.iconst 3, 1) := by decide +kernel
theorem dL_law_957 : decode cL_law 957 = .ok (.iadd, 1) := by decide +kernel
theorem dL_law_958 : decode cL_law 958 = .ok (.iaload, 1) := by decide +kernel
theorem dL_law_959 : decode cL_law 959 = .ok (.invokevirtual 88, 3) := by decide +kernel
theorem dL_law_962 : decode cL_law 962 = .ok (.pop, 1) := by decide +kernel
theorem dL_law_963 : decode cL_law 963 = .ok (.aload_n 2, 1) := by decide +kernel
theorem dL_law_964 : decode cL_law 964 = .ok (.aload_n 0, 1) := by decide +kernel
theorem dL_law_965 : decode cL_law 965 = .ok (.iload_n 3, 1) := by decide +kernel
theorem dL_law_966 : decode cL_law 966 = .ok (.iconst 1, 1) := by decide +kernel
theorem dL_law_967 : decode cL_law 967 = .ok (.iadd, 1) := by decide +kernel
theorem dL_law_968 : decode cL_law 968 = .ok (.iaload, 1) := by decide +kernel
theorem dL_law_969 : decode cL_law 969 = .ok (.aload_n 0, 1) := by decide +kernel
theorem dL_law_970 : decode cL_law 970 = .ok (.iload_n 3, 1) := by decide +kernel
theorem dL_law_971 : decode cL_law 971 = .ok (.iconst 2, 1) := by decide +kernel
theorem dL_law_972 : decode cL_law 972 = .ok (.iadd, 1) := by decide +kernel
theorem dL_law_973 : decode cL_law 973 = .ok (.iaload, 1) := by decide +kernel
theorem dL_law_974 : decode cL_law 974 = .ok (.aload_n 0, 1) := by decide +kernel
theorem dL_law_975 : decode cL_law 975 = .ok (.iload_n 3, 1) := by decide +kernel
theorem dL_law_976 : decode cL_law 976 = .ok (.iconst 3, 1) := by decide +kernel
theorem dL_law_977 : decode cL_law 977 = .ok (.iadd, 1) := by decide +kernel
theorem dL_law_978 : decode cL_law 978 = .ok (.iaload, 1) := by decide +kernel
theorem dL_law_979 : decode cL_law 979 = .ok (.invokevirtual 91, 3) := by decide +kernel
theorem dL_law_982 : decode cL_law 982 = .ok (.pop, 1) := by decide +kernel
theorem dL_law_983 : decode cL_law 983 = .ok (.goto 784, 3) := by decide +kernel

