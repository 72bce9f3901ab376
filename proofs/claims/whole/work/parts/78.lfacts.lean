/-! THE LAW: words of its calls -/
set_option maxRecDepth 100000 in
theorem t_450 : Cond.methodLink RL 13 yX11_barrel ∈ tb := tb_of 450 (by decide +kernel) (by decide +kernel)
set_option maxRecDepth 100000 in
theorem t_451 : Cond.instanceMethod yX11_barrel ∈ tb := tb_of 451 (by decide +kernel) (by decide +kernel)
set_option maxRecDepth 100000 in
theorem t_452 : Cond.selects RX11 yX11_barrel yX11_barrel ∈ tb := tb_of 452 (by decide +kernel) (by decide +kernel)
set_option maxRecDepth 100000 in
theorem t_453 : Cond.code yX11_barrel cX11_barrel 6 (some .int) ∈ tb := tb_of 453 (by decide +kernel) (by decide +kernel)
set_option maxRecDepth 100000 in
theorem t_461 : Cond.methodLink RL 18 yX11_barrelOf ∈ tb := tb_of 461 (by decide +kernel) (by decide +kernel)
set_option maxRecDepth 100000 in
theorem t_462 : Cond.instanceMethod yX11_barrelOf ∈ tb := tb_of 462 (by decide +kernel) (by decide +kernel)
set_option maxRecDepth 100000 in
theorem t_463 : Cond.selects RX11 yX11_barrelOf yX11_barrelOf ∈ tb := tb_of 463 (by decide +kernel) (by decide +kernel)
set_option maxRecDepth 100000 in
theorem t_464 : Cond.code yX11_barrelOf cX11_barrelOf 4 (some .int) ∈ tb := tb_of 464 (by decide +kernel) (by decide +kernel)
set_option maxRecDepth 100000 in
theorem t_582 : Cond.methodLink RL 23 yX11_change ∈ tb := tb_of 582 (by decide +kernel) (by decide +kernel)
set_option maxRecDepth 100000 in
theorem t_583 : Cond.instanceMethod yX11_change ∈ tb := tb_of 583 (by decide +kernel) (by decide +kernel)
set_option maxRecDepth 100000 in
theorem t_584 : Cond.selects RX11 yX11_change yX11_change ∈ tb := tb_of 584 (by decide +kernel) (by decide +kernel)
set_option maxRecDepth 100000 in
theorem t_585 : Cond.code yX11_change cX11_change 5 (some .int) ∈ tb := tb_of 585 (by decide +kernel) (by decide +kernel)
set_option maxRecDepth 100000 in
theorem t_589 : Cond.methodLink RL 28 yX11_remake ∈ tb := tb_of 589 (by decide +kernel) (by decide +kernel)
set_option maxRecDepth 100000 in
theorem t_590 : Cond.instanceMethod yX11_remake ∈ tb := tb_of 590 (by decide +kernel) (by decide +kernel)
set_option maxRecDepth 100000 in
theorem t_591 : Cond.selects RX11 yX11_remake yX11_remake ∈ tb := tb_of 591 (by decide +kernel) (by decide +kernel)
set_option maxRecDepth 100000 in
theorem t_592 : Cond.code yX11_remake cX11_remake 3 (some .int) ∈ tb := tb_of 592 (by decide +kernel) (by decide +kernel)
set_option maxRecDepth 100000 in
theorem t_593 : Cond.methodLink RL 32 yX11_water ∈ tb := tb_of 593 (by decide +kernel) (by decide +kernel)
set_option maxRecDepth 100000 in
theorem t_594 : Cond.instanceMethod yX11_water ∈ tb := tb_of 594 (by decide +kernel) (by decide +kernel)
set_option maxRecDepth 100000 in
theorem t_595 : Cond.selects RX11 yX11_water yX11_water ∈ tb := tb_of 595 (by decide +kernel) (by decide +kernel)
set_option maxRecDepth 100000 in
theorem t_596 : Cond.code yX11_water cX11_water 3 (some .int) ∈ tb := tb_of 596 (by decide +kernel) (by decide +kernel)
set_option maxRecDepth 100000 in
theorem t_597 : Cond.methodLink RL 36 yX11_tier ∈ tb := tb_of 597 (by decide +kernel) (by decide +kernel)
set_option maxRecDepth 100000 in
theorem t_598 : Cond.instanceMethod yX11_tier ∈ tb := tb_of 598 (by decide +kernel) (by decide +kernel)
set_option maxRecDepth 100000 in
theorem t_599 : Cond.selects RX11 yX11_tier yX11_tier ∈ tb := tb_of 599 (by decide +kernel) (by decide +kernel)
set_option maxRecDepth 100000 in
theorem t_600 : Cond.code yX11_tier cX11_tier 4 (some .int) ∈ tb := tb_of 600 (by decide +kernel) (by decide +kernel)
set_option maxRecDepth 100000 in
theorem t_601 : Cond.methodLink RL 40 yX11_tierOf ∈ tb := tb_of 601 (by decide +kernel) (by decide +kernel)
set_option maxRecDepth 100000 in
theorem t_602 : Cond.instanceMethod yX11_tierOf ∈ tb := tb_of 602 (by decide +kernel) (by decide +kernel)
set_option maxRecDepth 100000 in
theorem t_603 : Cond.selects RX11 yX11_tierOf yX11_tierOf ∈ tb := tb_of 603 (by decide +kernel) (by decide +kernel)
set_option maxRecDepth 100000 in
theorem t_604 : Cond.code yX11_tierOf cX11_tierOf 3 (some .int) ∈ tb := tb_of 604 (by decide +kernel) (by decide +kernel)
set_option maxRecDepth 100000 in
theorem t_605 : Cond.methodLink RL 44 yX11_ends ∈ tb := tb_of 605 (by decide +kernel) (by decide +kernel)
set_option maxRecDepth 100000 in
theorem t_606 : Cond.instanceMethod yX11_ends ∈ tb := tb_of 606 (by decide +kernel) (by decide +kernel)
set_option maxRecDepth 100000 in
theorem t_607 : Cond.selects RX11 yX11_ends yX11_ends ∈ tb := tb_of 607 (by decide +kernel) (by decide +kernel)
set_option maxRecDepth 100000 in
theorem t_608 : Cond.code yX11_ends cX11_ends 3 (some .int) ∈ tb := tb_of 608 (by decide +kernel) (by decide +kernel)
set_option maxRecDepth 100000 in
theorem t_609 : Cond.methodLink RL 49 yX11_anew ∈ tb := tb_of 609 (by decide +kernel) (by decide +kernel)
set_option maxRecDepth 100000 in
theorem t_610 : Cond.instanceMethod yX11_anew ∈ tb := tb_of 610 (by decide +kernel) (by decide +kernel)
set_option maxRecDepth 100000 in
theorem t_611 : Cond.selects RX11 yX11_anew yX11_anew ∈ tb := tb_of 611 (by decide +kernel) (by decide +kernel)
set_option maxRecDepth 100000 in
theorem t_612 : Cond.code yX11_anew cX11_anew 2 (some .int) ∈ tb := tb_of 612 (by decide +kernel) (by decide +kernel)
set_option maxRecDepth 100000 in
theorem t_613 : Cond.methodLink RL 54 yX11_state ∈ tb := tb_of 613 (by decide +kernel) (by decide +kernel)
set_option maxRecDepth 100000 in
theorem t_614 : Cond.instanceMethod yX11_state ∈ tb := tb_of 614 (by decide +kernel) (by decide +kernel)
set_option maxRecDepth 100000 in
theorem t_615 : Cond.selects RX11 yX11_state yX11_state ∈ tb := tb_of 615 (by decide +kernel) (by decide +kernel)
set_option maxRecDepth 100000 in
theorem t_616 : Cond.code yX11_state cX11_state 3 (some .int) ∈ tb := tb_of 616 (by decide +kernel) (by decide +kernel)
set_option maxRecDepth 100000 in
theorem t_626 : Cond.methodLink RL 60 yX11_feed ∈ tb := tb_of 626 (by decide +kernel) (by decide +kernel)
set_option maxRecDepth 100000 in
theorem t_627 : Cond.instanceMethod yX11_feed ∈ tb := tb_of 627 (by decide +kernel) (by decide +kernel)
set_option maxRecDepth 100000 in
theorem t_628 : Cond.selects RX11 yX11_feed yX11_feed ∈ tb := tb_of 628 (by decide +kernel) (by decide +kernel)
set_option maxRecDepth 100000 in
theorem t_629 : Cond.code yX11_feed cX11_feed 5 (some .int) ∈ tb := tb_of 629 (by decide +kernel) (by decide +kernel)
set_option maxRecDepth 100000 in
theorem t_630 : Cond.methodLink RL 65 yX11_rules ∈ tb := tb_of 630 (by decide +kernel) (by decide +kernel)
set_option maxRecDepth 100000 in
theorem t_631 : Cond.instanceMethod yX11_rules ∈ tb := tb_of 631 (by decide +kernel) (by decide +kernel)
set_option maxRecDepth 100000 in
theorem t_632 : Cond.selects RX11 yX11_rules yX11_rules ∈ tb := tb_of 632 (by decide +kernel) (by decide +kernel)
set_option maxRecDepth 100000 in
theorem t_633 : Cond.code yX11_rules cX11_rules 2 (some .int) ∈ tb := tb_of 633 (by decide +kernel) (by decide +kernel)
set_option maxRecDepth 100000 in
theorem t_744 : Cond.methodLink RL 69 yX11_tide ∈ tb := tb_of 744 (by decide +kernel) (by decide +kernel)
set_option maxRecDepth 100000 in
theorem t_745 : Cond.instanceMethod yX11_tide ∈ tb := tb_of 745 (by decide +kernel) (by decide +kernel)
set_option maxRecDepth 100000 in
theorem t_746 : Cond.selects RX11 yX11_tide yX11_tide ∈ tb := tb_of 746 (by decide +kernel) (by decide +kernel)
set_option maxRecDepth 100000 in
theorem t_747 : Cond.code yX11_tide cX11_tide 1 (some .int) ∈ tb := tb_of 747 (by decide +kernel) (by decide +kernel)
set_option maxRecDepth 100000 in
theorem t_769 : Cond.methodLink RL 73 yX11_on ∈ tb := tb_of 769 (by decide +kernel) (by decide +kernel)
set_option maxRecDepth 100000 in
theorem t_770 : Cond.instanceMethod yX11_on ∈ tb := tb_of 770 (by decide +kernel) (by decide +kernel)
set_option maxRecDepth 100000 in
theorem t_771 : Cond.selects RX11 yX11_on yX11_on ∈ tb := tb_of 771 (by decide +kernel) (by decide +kernel)
set_option maxRecDepth 100000 in
theorem t_772 : Cond.code yX11_on cX11_on 2 (some .int) ∈ tb := tb_of 772 (by decide +kernel) (by decide +kernel)
set_option maxRecDepth 100000 in
theorem t_784 : Cond.methodLink RL 77 yX11_when ∈ tb := tb_of 784 (by decide +kernel) (by decide +kernel)
set_option maxRecDepth 100000 in
theorem t_785 : Cond.instanceMethod yX11_when ∈ tb := tb_of 785 (by decide +kernel) (by decide +kernel)
set_option maxRecDepth 100000 in
theorem t_786 : Cond.selects RX11 yX11_when yX11_when ∈ tb := tb_of 786 (by decide +kernel) (by decide +kernel)
set_option maxRecDepth 100000 in
theorem t_787 : Cond.code yX11_when cX11_when 3 (some .int) ∈ tb := tb_of 787 (by decide +kernel) (by decide +kernel)
set_option maxRecDepth 100000 in
theorem t_789 : Cond.methodLink RL 81 yX11_chalkFor ∈ tb := tb_of 789 (by decide +kernel) (by decide +kernel)
set_option maxRecDepth 100000 in
theorem t_790 : Cond.instanceMethod yX11_chalkFor ∈ tb := tb_of 790 (by decide +kernel) (by decide +kernel)
set_option maxRecDepth 100000 in
theorem t_791 : Cond.selects RX11 yX11_chalkFor yX11_chalkFor ∈ tb := tb_of 791 (by decide +kernel) (by decide +kernel)
set_option maxRecDepth 100000 in
theorem t_792 : Cond.code yX11_chalkFor cX11_chalkFor 6 (some .int) ∈ tb := tb_of 792 (by decide +kernel) (by decide +kernel)
set_option maxRecDepth 100000 in
theorem t_793 : Cond.methodLink RL 85 yX11_tierFor ∈ tb := tb_of 793 (by decide +kernel) (by decide +kernel)
set_option maxRecDepth 100000 in
theorem t_794 : Cond.instanceMethod yX11_tierFor ∈ tb := tb_of 794 (by decide +kernel) (by decide +kernel)
set_option maxRecDepth 100000 in
theorem t_795 : Cond.selects RX11 yX11_tierFor yX11_tierFor ∈ tb := tb_of 795 (by decide +kernel) (by decide +kernel)
set_option maxRecDepth 100000 in
theorem t_796 : Cond.code yX11_tierFor cX11_tierFor 7 (some .int) ∈ tb := tb_of 796 (by decide +kernel) (by decide +kernel)
set_option maxRecDepth 100000 in
theorem t_797 : Cond.methodLink RL 89 yX11_dry ∈ tb := tb_of 797 (by decide +kernel) (by decide +kernel)
set_option maxRecDepth 100000 in
theorem t_798 : Cond.instanceMethod yX11_dry ∈ tb := tb_of 798 (by decide +kernel) (by decide +kernel)
set_option maxRecDepth 100000 in
theorem t_799 : Cond.selects RX11 yX11_dry yX11_dry ∈ tb := tb_of 799 (by decide +kernel) (by decide +kernel)
set_option maxRecDepth 100000 in
theorem t_800 : Cond.code yX11_dry cX11_dry 3 (some .int) ∈ tb := tb_of 800 (by decide +kernel) (by decide +kernel)
set_option maxRecDepth 100000 in
theorem t_801 : Cond.methodLink RL 93 yX11_least ∈ tb := tb_of 801 (by decide +kernel) (by decide +kernel)
set_option maxRecDepth 100000 in
theorem t_802 : Cond.instanceMethod yX11_least ∈ tb := tb_of 802 (by decide +kernel) (by decide +kernel)
set_option maxRecDepth 100000 in
theorem t_803 : Cond.selects RX11 yX11_least yX11_least ∈ tb := tb_of 803 (by decide +kernel) (by decide +kernel)
set_option maxRecDepth 100000 in
theorem t_804 : Cond.code yX11_least cX11_least 6 (some .int) ∈ tb := tb_of 804 (by decide +kernel) (by decide +kernel)
set_option maxRecDepth 100000 in
theorem t_805 : Cond.methodLink RL 97 yX11_left ∈ tb := tb_of 805 (by decide +kernel) (by decide +kernel)
set_option maxRecDepth 100000 in
theorem t_806 : Cond.instanceMethod yX11_left ∈ tb := tb_of 806 (by decide +kernel) (by decide +kernel)
set_option maxRecDepth 100000 in
theorem t_807 : Cond.selects RX11 yX11_left yX11_left ∈ tb := tb_of 807 (by decide +kernel) (by decide +kernel)
set_option maxRecDepth 100000 in
theorem t_808 : Cond.code yX11_left cX11_left 3 (some .int) ∈ tb := tb_of 808 (by decide +kernel) (by decide +kernel)
set_option maxRecDepth 100000 in
theorem t_809 : Cond.methodLink RL 101 yX11_rafts ∈ tb := tb_of 809 (by decide +kernel) (by decide +kernel)
set_option maxRecDepth 100000 in
theorem t_810 : Cond.instanceMethod yX11_rafts ∈ tb := tb_of 810 (by decide +kernel) (by decide +kernel)
set_option maxRecDepth 100000 in
theorem t_811 : Cond.selects RX11 yX11_rafts yX11_rafts ∈ tb := tb_of 811 (by decide +kernel) (by decide +kernel)
set_option maxRecDepth 100000 in
theorem t_812 : Cond.code yX11_rafts cX11_rafts 2 (some .int) ∈ tb := tb_of 812 (by decide +kernel) (by decide +kernel)
set_option maxRecDepth 100000 in
theorem t_826 : Cond.methodLink RL 105 yX11_best ∈ tb := tb_of 826 (by decide +kernel) (by decide +kernel)
set_option maxRecDepth 100000 in
theorem t_827 : Cond.instanceMethod yX11_best ∈ tb := tb_of 827 (by decide +kernel) (by decide +kernel)
set_option maxRecDepth 100000 in
theorem t_828 : Cond.selects RX11 yX11_best yX11_best ∈ tb := tb_of 828 (by decide +kernel) (by decide +kernel)
set_option maxRecDepth 100000 in
theorem t_829 : Cond.code yX11_best cX11_best 2 (some .int) ∈ tb := tb_of 829 (by decide +kernel) (by decide +kernel)
set_option maxRecDepth 100000 in
theorem t_854 : Cond.methodLink RL 109 yX11_ith ∈ tb := tb_of 854 (by decide +kernel) (by decide +kernel)
set_option maxRecDepth 100000 in
theorem t_855 : Cond.instanceMethod yX11_ith ∈ tb := tb_of 855 (by decide +kernel) (by decide +kernel)
set_option maxRecDepth 100000 in
theorem t_856 : Cond.selects RX11 yX11_ith yX11_ith ∈ tb := tb_of 856 (by decide +kernel) (by decide +kernel)
set_option maxRecDepth 100000 in
theorem t_857 : Cond.code yX11_ith cX11_ith 3 (some .int) ∈ tb := tb_of 857 (by decide +kernel) (by decide +kernel)
set_option maxRecDepth 100000 in
theorem t_859 : Cond.methodLink RL 113 yX11_ways ∈ tb := tb_of 859 (by decide +kernel) (by decide +kernel)
set_option maxRecDepth 100000 in
theorem t_860 : Cond.instanceMethod yX11_ways ∈ tb := tb_of 860 (by decide +kernel) (by decide +kernel)
set_option maxRecDepth 100000 in
theorem t_861 : Cond.selects RX11 yX11_ways yX11_ways ∈ tb := tb_of 861 (by decide +kernel) (by decide +kernel)
set_option maxRecDepth 100000 in
theorem t_862 : Cond.code yX11_ways cX11_ways 2 (some .int) ∈ tb := tb_of 862 (by decide +kernel) (by decide +kernel)
set_option maxRecDepth 100000 in
theorem t_863 : Cond.methodLink RL 117 yX11_chart ∈ tb := tb_of 863 (by decide +kernel) (by decide +kernel)
set_option maxRecDepth 100000 in
theorem t_864 : Cond.instanceMethod yX11_chart ∈ tb := tb_of 864 (by decide +kernel) (by decide +kernel)
set_option maxRecDepth 100000 in
theorem t_865 : Cond.selects RX11 yX11_chart yX11_chart ∈ tb := tb_of 865 (by decide +kernel) (by decide +kernel)
set_option maxRecDepth 100000 in
theorem t_866 : Cond.code yX11_chart cX11_chart 3 (some .int) ∈ tb := tb_of 866 (by decide +kernel) (by decide +kernel)
set_option maxRecDepth 100000 in
theorem t_871 : Cond.methodLink RL 121 yX11_bars ∈ tb := tb_of 871 (by decide +kernel) (by decide +kernel)
set_option maxRecDepth 100000 in
theorem t_872 : Cond.instanceMethod yX11_bars ∈ tb := tb_of 872 (by decide +kernel) (by decide +kernel)
set_option maxRecDepth 100000 in
theorem t_873 : Cond.selects RX11 yX11_bars yX11_bars ∈ tb := tb_of 873 (by decide +kernel) (by decide +kernel)
set_option maxRecDepth 100000 in
theorem t_874 : Cond.code yX11_bars cX11_bars 4 (some .int) ∈ tb := tb_of 874 (by decide +kernel) (by decide +kernel)
set_option maxRecDepth 100000 in
theorem t_879 : Cond.methodLink RL 125 yX11_game ∈ tb := tb_of 879 (by decide +kernel) (by decide +kernel)
set_option maxRecDepth 100000 in
theorem t_880 : Cond.instanceMethod yX11_game ∈ tb := tb_of 880 (by decide +kernel) (by decide +kernel)
set_option maxRecDepth 100000 in
theorem t_881 : Cond.selects RX11 yX11_game yX11_game ∈ tb := tb_of 881 (by decide +kernel) (by decide +kernel)
set_option maxRecDepth 100000 in
theorem t_882 : Cond.code yX11_game cX11_game 2 (some .int) ∈ tb := tb_of 882 (by decide +kernel) (by decide +kernel)
set_option maxRecDepth 100000 in
theorem t_891 : Cond.methodLink RL 129 yX11_play ∈ tb := tb_of 891 (by decide +kernel) (by decide +kernel)
set_option maxRecDepth 100000 in
theorem t_892 : Cond.instanceMethod yX11_play ∈ tb := tb_of 892 (by decide +kernel) (by decide +kernel)
set_option maxRecDepth 100000 in
theorem t_893 : Cond.selects RX11 yX11_play yX11_play ∈ tb := tb_of 893 (by decide +kernel) (by decide +kernel)
set_option maxRecDepth 100000 in
theorem t_894 : Cond.code yX11_play cX11_play 2 (some .int) ∈ tb := tb_of 894 (by decide +kernel) (by decide +kernel)
set_option maxRecDepth 100000 in
theorem t_895 : Cond.methodLink RL 133 yX11_report ∈ tb := tb_of 895 (by decide +kernel) (by decide +kernel)
set_option maxRecDepth 100000 in
theorem t_896 : Cond.instanceMethod yX11_report ∈ tb := tb_of 896 (by decide +kernel) (by decide +kernel)
set_option maxRecDepth 100000 in
theorem t_897 : Cond.selects RX11 yX11_report yX11_report ∈ tb := tb_of 897 (by decide +kernel) (by decide +kernel)
set_option maxRecDepth 100000 in
theorem t_898 : Cond.code yX11_report cX11_report 7 (some .int) ∈ tb := tb_of 898 (by decide +kernel) (by decide +kernel)
set_option maxRecDepth 100000 in
theorem t_899 : Cond.methodLink RL 137 yX11_forget ∈ tb := tb_of 899 (by decide +kernel) (by decide +kernel)
set_option maxRecDepth 100000 in
theorem t_900 : Cond.instanceMethod yX11_forget ∈ tb := tb_of 900 (by decide +kernel) (by decide +kernel)
set_option maxRecDepth 100000 in
theorem t_901 : Cond.selects RX11 yX11_forget yX11_forget ∈ tb := tb_of 901 (by decide +kernel) (by decide +kernel)
set_option maxRecDepth 100000 in
theorem t_902 : Cond.code yX11_forget cX11_forget 2 (some .int) ∈ tb := tb_of 902 (by decide +kernel) (by decide +kernel)
set_option maxRecDepth 100000 in
theorem t_903 : Cond.methodLink RL 141 yX11_lone ∈ tb := tb_of 903 (by decide +kernel) (by decide +kernel)
set_option maxRecDepth 100000 in
theorem t_904 : Cond.instanceMethod yX11_lone ∈ tb := tb_of 904 (by decide +kernel) (by decide +kernel)
set_option maxRecDepth 100000 in
theorem t_905 : Cond.selects RX11 yX11_lone yX11_lone ∈ tb := tb_of 905 (by decide +kernel) (by decide +kernel)
set_option maxRecDepth 100000 in
theorem t_906 : Cond.code yX11_lone cX11_lone 4 (some .int) ∈ tb := tb_of 906 (by decide +kernel) (by decide +kernel)
set_option maxRecDepth 100000 in
theorem t_931 : Cond.methodLink RL 145 yX11_liar ∈ tb := tb_of 931 (by decide +kernel) (by decide +kernel)
set_option maxRecDepth 100000 in
theorem t_932 : Cond.instanceMethod yX11_liar ∈ tb := tb_of 932 (by decide +kernel) (by decide +kernel)
set_option maxRecDepth 100000 in
theorem t_933 : Cond.selects RX11 yX11_liar yX11_liar ∈ tb := tb_of 933 (by decide +kernel) (by decide +kernel)
set_option maxRecDepth 100000 in
theorem t_934 : Cond.code yX11_liar cX11_liar 4 (some .int) ∈ tb := tb_of 934 (by decide +kernel) (by decide +kernel)
set_option maxRecDepth 100000 in
theorem t_941 : Cond.methodLink RL 149 yX11_seed ∈ tb := tb_of 941 (by decide +kernel) (by decide +kernel)
set_option maxRecDepth 100000 in
theorem t_942 : Cond.instanceMethod yX11_seed ∈ tb := tb_of 942 (by decide +kernel) (by decide +kernel)
set_option maxRecDepth 100000 in
theorem t_943 : Cond.selects RX11 yX11_seed yX11_seed ∈ tb := tb_of 943 (by decide +kernel) (by decide +kernel)
set_option maxRecDepth 100000 in
theorem t_944 : Cond.code yX11_seed cX11_seed 3 (some .int) ∈ tb := tb_of 944 (by decide +kernel) (by decide +kernel)
set_option maxRecDepth 100000 in
theorem t_945 : Cond.methodLink RL 153 yX11_lot ∈ tb := tb_of 945 (by decide +kernel) (by decide +kernel)
set_option maxRecDepth 100000 in
theorem t_946 : Cond.instanceMethod yX11_lot ∈ tb := tb_of 946 (by decide +kernel) (by decide +kernel)
set_option maxRecDepth 100000 in
theorem t_947 : Cond.selects RX11 yX11_lot yX11_lot ∈ tb := tb_of 947 (by decide +kernel) (by decide +kernel)
set_option maxRecDepth 100000 in
theorem t_948 : Cond.code yX11_lot cX11_lot 1 (some .int) ∈ tb := tb_of 948 (by decide +kernel) (by decide +kernel)
set_option maxRecDepth 100000 in
theorem t_957 : Cond.methodLink RL 157 yX11_times ∈ tb := tb_of 957 (by decide +kernel) (by decide +kernel)
set_option maxRecDepth 100000 in
theorem t_958 : Cond.instanceMethod yX11_times ∈ tb := tb_of 958 (by decide +kernel) (by decide +kernel)
set_option maxRecDepth 100000 in
theorem t_959 : Cond.selects RX11 yX11_times yX11_times ∈ tb := tb_of 959 (by decide +kernel) (by decide +kernel)
set_option maxRecDepth 100000 in
theorem t_960 : Cond.code yX11_times cX11_times 8 (some .int) ∈ tb := tb_of 960 (by decide +kernel) (by decide +kernel)
set_option maxRecDepth 100000 in
theorem t_961 : Cond.methodLink RL 161 yX11_prove ∈ tb := tb_of 961 (by decide +kernel) (by decide +kernel)
set_option maxRecDepth 100000 in
theorem t_962 : Cond.instanceMethod yX11_prove ∈ tb := tb_of 962 (by decide +kernel) (by decide +kernel)
set_option maxRecDepth 100000 in
theorem t_963 : Cond.selects RX11 yX11_prove yX11_prove ∈ tb := tb_of 963 (by decide +kernel) (by decide +kernel)
set_option maxRecDepth 100000 in
theorem t_964 : Cond.code yX11_prove cX11_prove 3 (some .int) ∈ tb := tb_of 964 (by decide +kernel) (by decide +kernel)
set_option maxRecDepth 100000 in
theorem t_965 : Cond.methodLink RL 165 yX11_row ∈ tb := tb_of 965 (by decide +kernel) (by decide +kernel)
set_option maxRecDepth 100000 in
theorem t_966 : Cond.instanceMethod yX11_row ∈ tb := tb_of 966 (by decide +kernel) (by decide +kernel)
set_option maxRecDepth 100000 in
theorem t_967 : Cond.selects RX11 yX11_row yX11_row ∈ tb := tb_of 967 (by decide +kernel) (by decide +kernel)
set_option maxRecDepth 100000 in
theorem t_968 : Cond.code yX11_row cX11_row 3 (some .int) ∈ tb := tb_of 968 (by decide +kernel) (by decide +kernel)
set_option maxRecDepth 100000 in
theorem t_973 : Cond.methodLink RL 169 yX11_alterRow ∈ tb := tb_of 973 (by decide +kernel) (by decide +kernel)
set_option maxRecDepth 100000 in
theorem t_974 : Cond.instanceMethod yX11_alterRow ∈ tb := tb_of 974 (by decide +kernel) (by decide +kernel)
set_option maxRecDepth 100000 in
theorem t_975 : Cond.selects RX11 yX11_alterRow yX11_alterRow ∈ tb := tb_of 975 (by decide +kernel) (by decide +kernel)
set_option maxRecDepth 100000 in
theorem t_976 : Cond.code yX11_alterRow cX11_alterRow 4 (some .int) ∈ tb := tb_of 976 (by decide +kernel) (by decide +kernel)
set_option maxRecDepth 100000 in
theorem t_977 : Cond.methodLink RL 173 yX11_judge ∈ tb := tb_of 977 (by decide +kernel) (by decide +kernel)
set_option maxRecDepth 100000 in
theorem t_978 : Cond.instanceMethod yX11_judge ∈ tb := tb_of 978 (by decide +kernel) (by decide +kernel)
set_option maxRecDepth 100000 in
theorem t_979 : Cond.selects RX11 yX11_judge yX11_judge ∈ tb := tb_of 979 (by decide +kernel) (by decide +kernel)
set_option maxRecDepth 100000 in
theorem t_980 : Cond.code yX11_judge cX11_judge 4 (some .int) ∈ tb := tb_of 980 (by decide +kernel) (by decide +kernel)
set_option maxRecDepth 100000 in
theorem t_985 : Cond.methodLink RL 177 yX11_sheet ∈ tb := tb_of 985 (by decide +kernel) (by decide +kernel)
set_option maxRecDepth 100000 in
theorem t_986 : Cond.instanceMethod yX11_sheet ∈ tb := tb_of 986 (by decide +kernel) (by decide +kernel)
set_option maxRecDepth 100000 in
theorem t_987 : Cond.selects RX11 yX11_sheet yX11_sheet ∈ tb := tb_of 987 (by decide +kernel) (by decide +kernel)
set_option maxRecDepth 100000 in
theorem t_988 : Cond.code yX11_sheet cX11_sheet 5 (some .int) ∈ tb := tb_of 988 (by decide +kernel) (by decide +kernel)
set_option maxRecDepth 100000 in
theorem t_992 : Cond.methodLink RL 181 yX11_write ∈ tb := tb_of 992 (by decide +kernel) (by decide +kernel)
set_option maxRecDepth 100000 in
theorem t_993 : Cond.instanceMethod yX11_write ∈ tb := tb_of 993 (by decide +kernel) (by decide +kernel)
set_option maxRecDepth 100000 in
theorem t_994 : Cond.selects RX11 yX11_write yX11_write ∈ tb := tb_of 994 (by decide +kernel) (by decide +kernel)
set_option maxRecDepth 100000 in
theorem t_995 : Cond.code yX11_write cX11_write 4 (some .int) ∈ tb := tb_of 995 (by decide +kernel) (by decide +kernel)
set_option maxRecDepth 100000 in
theorem t_999 : Cond.methodLink RL 185 yX11_item ∈ tb := tb_of 999 (by decide +kernel) (by decide +kernel)
set_option maxRecDepth 100000 in
theorem t_1000 : Cond.instanceMethod yX11_item ∈ tb := tb_of 1000 (by decide +kernel) (by decide +kernel)
set_option maxRecDepth 100000 in
theorem t_1001 : Cond.selects RX11 yX11_item yX11_item ∈ tb := tb_of 1001 (by decide +kernel) (by decide +kernel)
set_option maxRecDepth 100000 in
theorem t_1002 : Cond.code yX11_item cX11_item 5 (some .int) ∈ tb := tb_of 1002 (by decide +kernel) (by decide +kernel)
set_option maxRecDepth 100000 in
theorem t_1007 : Cond.methodLink RL 189 yX11_goAll ∈ tb := tb_of 1007 (by decide +kernel) (by decide +kernel)
set_option maxRecDepth 100000 in
theorem t_1008 : Cond.instanceMethod yX11_goAll ∈ tb := tb_of 1008 (by decide +kernel) (by decide +kernel)
set_option maxRecDepth 100000 in
theorem t_1009 : Cond.selects RX11 yX11_goAll yX11_goAll ∈ tb := tb_of 1009 (by decide +kernel) (by decide +kernel)
set_option maxRecDepth 100000 in
theorem t_1010 : Cond.code yX11_goAll cX11_goAll 8 (some .int) ∈ tb := tb_of 1010 (by decide +kernel) (by decide +kernel)
set_option maxRecDepth 100000 in
theorem t_1011 : Cond.methodLink RL 193 yX11_wouldBe ∈ tb := tb_of 1011 (by decide +kernel) (by decide +kernel)
set_option maxRecDepth 100000 in
theorem t_1012 : Cond.instanceMethod yX11_wouldBe ∈ tb := tb_of 1012 (by decide +kernel) (by decide +kernel)
set_option maxRecDepth 100000 in
theorem t_1013 : Cond.selects RX11 yX11_wouldBe yX11_wouldBe ∈ tb := tb_of 1013 (by decide +kernel) (by decide +kernel)
set_option maxRecDepth 100000 in
theorem t_1014 : Cond.code yX11_wouldBe cX11_wouldBe 8 (some .int) ∈ tb := tb_of 1014 (by decide +kernel) (by decide +kernel)
set_option maxRecDepth 100000 in
theorem t_1015 : Cond.methodLink RL 197 yX11_shelf ∈ tb := tb_of 1015 (by decide +kernel) (by decide +kernel)
set_option maxRecDepth 100000 in
theorem t_1016 : Cond.instanceMethod yX11_shelf ∈ tb := tb_of 1016 (by decide +kernel) (by decide +kernel)
set_option maxRecDepth 100000 in
theorem t_1017 : Cond.selects RX11 yX11_shelf yX11_shelf ∈ tb := tb_of 1017 (by decide +kernel) (by decide +kernel)
set_option maxRecDepth 100000 in
theorem t_1018 : Cond.code yX11_shelf cX11_shelf 4 (some .int) ∈ tb := tb_of 1018 (by decide +kernel) (by decide +kernel)
set_option maxRecDepth 100000 in
theorem t_1030 : Cond.methodLink RL 201 yX11_taken ∈ tb := tb_of 1030 (by decide +kernel) (by decide +kernel)
set_option maxRecDepth 100000 in
theorem t_1031 : Cond.instanceMethod yX11_taken ∈ tb := tb_of 1031 (by decide +kernel) (by decide +kernel)
set_option maxRecDepth 100000 in
theorem t_1032 : Cond.selects RX11 yX11_taken yX11_taken ∈ tb := tb_of 1032 (by decide +kernel) (by decide +kernel)
set_option maxRecDepth 100000 in
theorem t_1033 : Cond.code yX11_taken cX11_taken 6 (some .int) ∈ tb := tb_of 1033 (by decide +kernel) (by decide +kernel)
set_option maxRecDepth 100000 in
theorem t_1039 : Cond.methodLink RL 205 yX11_act ∈ tb := tb_of 1039 (by decide +kernel) (by decide +kernel)
set_option maxRecDepth 100000 in
theorem t_1040 : Cond.instanceMethod yX11_act ∈ tb := tb_of 1040 (by decide +kernel) (by decide +kernel)
set_option maxRecDepth 100000 in
theorem t_1041 : Cond.selects RX11 yX11_act yX11_act ∈ tb := tb_of 1041 (by decide +kernel) (by decide +kernel)
set_option maxRecDepth 100000 in
theorem t_1042 : Cond.code yX11_act cX11_act 7 (some .int) ∈ tb := tb_of 1042 (by decide +kernel) (by decide +kernel)
set_option maxRecDepth 100000 in
theorem t_1133 : Cond.methodLink RL 209 yX11_trace ∈ tb := tb_of 1133 (by decide +kernel) (by decide +kernel)
set_option maxRecDepth 100000 in
theorem t_1134 : Cond.instanceMethod yX11_trace ∈ tb := tb_of 1134 (by decide +kernel) (by decide +kernel)
set_option maxRecDepth 100000 in
theorem t_1135 : Cond.selects RX11 yX11_trace yX11_trace ∈ tb := tb_of 1135 (by decide +kernel) (by decide +kernel)
set_option maxRecDepth 100000 in
theorem t_1136 : Cond.code yX11_trace cX11_trace 2 (some .int) ∈ tb := tb_of 1136 (by decide +kernel) (by decide +kernel)
set_option maxRecDepth 100000 in
theorem t_1137 : Cond.methodLink RL 213 yX11_many ∈ tb := tb_of 1137 (by decide +kernel) (by decide +kernel)
set_option maxRecDepth 100000 in
theorem t_1138 : Cond.instanceMethod yX11_many ∈ tb := tb_of 1138 (by decide +kernel) (by decide +kernel)
set_option maxRecDepth 100000 in
theorem t_1139 : Cond.selects RX11 yX11_many yX11_many ∈ tb := tb_of 1139 (by decide +kernel) (by decide +kernel)
set_option maxRecDepth 100000 in
theorem t_1140 : Cond.code yX11_many cX11_many 2 (some .int) ∈ tb := tb_of 1140 (by decide +kernel) (by decide +kernel)
set_option maxRecDepth 100000 in
theorem t_1141 : Cond.methodLink RL 217 yX11_keep ∈ tb := tb_of 1141 (by decide +kernel) (by decide +kernel)
set_option maxRecDepth 100000 in
theorem t_1142 : Cond.instanceMethod yX11_keep ∈ tb := tb_of 1142 (by decide +kernel) (by decide +kernel)
set_option maxRecDepth 100000 in
theorem t_1143 : Cond.selects RX11 yX11_keep yX11_keep ∈ tb := tb_of 1143 (by decide +kernel) (by decide +kernel)
set_option maxRecDepth 100000 in
theorem t_1144 : Cond.code yX11_keep cX11_keep 1 (some .int) ∈ tb := tb_of 1144 (by decide +kernel) (by decide +kernel)
set_option maxRecDepth 100000 in
theorem t_1155 : Cond.methodLink RL 221 yX11_again ∈ tb := tb_of 1155 (by decide +kernel) (by decide +kernel)
set_option maxRecDepth 100000 in
theorem t_1156 : Cond.instanceMethod yX11_again ∈ tb := tb_of 1156 (by decide +kernel) (by decide +kernel)
set_option maxRecDepth 100000 in
theorem t_1157 : Cond.selects RX11 yX11_again yX11_again ∈ tb := tb_of 1157 (by decide +kernel) (by decide +kernel)
set_option maxRecDepth 100000 in
theorem t_1158 : Cond.code yX11_again cX11_again 1 (some .int) ∈ tb := tb_of 1158 (by decide +kernel) (by decide +kernel)
set_option maxRecDepth 100000 in
theorem t_1283 : Cond.methodLink RL 17 yX12_barrel ∈ tb := tb_of 1283 (by decide +kernel) (by decide +kernel)
set_option maxRecDepth 100000 in
theorem t_1284 : Cond.instanceMethod yX12_barrel ∈ tb := tb_of 1284 (by decide +kernel) (by decide +kernel)
set_option maxRecDepth 100000 in
theorem t_1285 : Cond.selects RX12 yX12_barrel yX12_barrel ∈ tb := tb_of 1285 (by decide +kernel) (by decide +kernel)
set_option maxRecDepth 100000 in
theorem t_1286 : Cond.code yX12_barrel cX12_barrel 6 (some .int) ∈ tb := tb_of 1286 (by decide +kernel) (by decide +kernel)
set_option maxRecDepth 100000 in
theorem t_1297 : Cond.methodLink RL 22 yX12_barrelOf ∈ tb := tb_of 1297 (by decide +kernel) (by decide +kernel)
set_option maxRecDepth 100000 in
theorem t_1298 : Cond.instanceMethod yX12_barrelOf ∈ tb := tb_of 1298 (by decide +kernel) (by decide +kernel)
set_option maxRecDepth 100000 in
theorem t_1299 : Cond.selects RX12 yX12_barrelOf yX12_barrelOf ∈ tb := tb_of 1299 (by decide +kernel) (by decide +kernel)
set_option maxRecDepth 100000 in
theorem t_1300 : Cond.code yX12_barrelOf cX12_barrelOf 3 (some .int) ∈ tb := tb_of 1300 (by decide +kernel) (by decide +kernel)
set_option maxRecDepth 100000 in
theorem t_1368 : Cond.methodLink RL 27 yX12_change ∈ tb := tb_of 1368 (by decide +kernel) (by decide +kernel)
set_option maxRecDepth 100000 in
theorem t_1369 : Cond.instanceMethod yX12_change ∈ tb := tb_of 1369 (by decide +kernel) (by decide +kernel)
set_option maxRecDepth 100000 in
theorem t_1370 : Cond.selects RX12 yX12_change yX12_change ∈ tb := tb_of 1370 (by decide +kernel) (by decide +kernel)
set_option maxRecDepth 100000 in
theorem t_1371 : Cond.code yX12_change cX12_change 5 (some .int) ∈ tb := tb_of 1371 (by decide +kernel) (by decide +kernel)
set_option maxRecDepth 100000 in
theorem t_1376 : Cond.methodLink RL 31 yX12_remake ∈ tb := tb_of 1376 (by decide +kernel) (by decide +kernel)
set_option maxRecDepth 100000 in
theorem t_1377 : Cond.instanceMethod yX12_remake ∈ tb := tb_of 1377 (by decide +kernel) (by decide +kernel)
set_option maxRecDepth 100000 in
theorem t_1378 : Cond.selects RX12 yX12_remake yX12_remake ∈ tb := tb_of 1378 (by decide +kernel) (by decide +kernel)
set_option maxRecDepth 100000 in
theorem t_1379 : Cond.code yX12_remake cX12_remake 3 (some .int) ∈ tb := tb_of 1379 (by decide +kernel) (by decide +kernel)
set_option maxRecDepth 100000 in
theorem t_1380 : Cond.methodLink RL 35 yX12_water ∈ tb := tb_of 1380 (by decide +kernel) (by decide +kernel)
set_option maxRecDepth 100000 in
theorem t_1381 : Cond.instanceMethod yX12_water ∈ tb := tb_of 1381 (by decide +kernel) (by decide +kernel)
set_option maxRecDepth 100000 in
theorem t_1382 : Cond.selects RX12 yX12_water yX12_water ∈ tb := tb_of 1382 (by decide +kernel) (by decide +kernel)
set_option maxRecDepth 100000 in
theorem t_1383 : Cond.code yX12_water cX12_water 3 (some .int) ∈ tb := tb_of 1383 (by decide +kernel) (by decide +kernel)
set_option maxRecDepth 100000 in
theorem t_1385 : Cond.methodLink RL 39 yX12_tier ∈ tb := tb_of 1385 (by decide +kernel) (by decide +kernel)
set_option maxRecDepth 100000 in
theorem t_1386 : Cond.instanceMethod yX12_tier ∈ tb := tb_of 1386 (by decide +kernel) (by decide +kernel)
set_option maxRecDepth 100000 in
theorem t_1387 : Cond.selects RX12 yX12_tier yX12_tier ∈ tb := tb_of 1387 (by decide +kernel) (by decide +kernel)
set_option maxRecDepth 100000 in
theorem t_1388 : Cond.code yX12_tier cX12_tier 4 (some .int) ∈ tb := tb_of 1388 (by decide +kernel) (by decide +kernel)
set_option maxRecDepth 100000 in
theorem t_1389 : Cond.methodLink RL 43 yX12_tierOf ∈ tb := tb_of 1389 (by decide +kernel) (by decide +kernel)
set_option maxRecDepth 100000 in
theorem t_1390 : Cond.instanceMethod yX12_tierOf ∈ tb := tb_of 1390 (by decide +kernel) (by decide +kernel)
set_option maxRecDepth 100000 in
theorem t_1391 : Cond.selects RX12 yX12_tierOf yX12_tierOf ∈ tb := tb_of 1391 (by decide +kernel) (by decide +kernel)
set_option maxRecDepth 100000 in
theorem t_1392 : Cond.code yX12_tierOf cX12_tierOf 3 (some .int) ∈ tb := tb_of 1392 (by decide +kernel) (by decide +kernel)
set_option maxRecDepth 100000 in
theorem t_1393 : Cond.methodLink RL 48 yX12_ends ∈ tb := tb_of 1393 (by decide +kernel) (by decide +kernel)
set_option maxRecDepth 100000 in
theorem t_1394 : Cond.instanceMethod yX12_ends ∈ tb := tb_of 1394 (by decide +kernel) (by decide +kernel)
set_option maxRecDepth 100000 in
theorem t_1395 : Cond.selects RX12 yX12_ends yX12_ends ∈ tb := tb_of 1395 (by decide +kernel) (by decide +kernel)
set_option maxRecDepth 100000 in
theorem t_1396 : Cond.code yX12_ends cX12_ends 2 (some .int) ∈ tb := tb_of 1396 (by decide +kernel) (by decide +kernel)
set_option maxRecDepth 100000 in
theorem t_1398 : Cond.methodLink RL 53 yX12_anew ∈ tb := tb_of 1398 (by decide +kernel) (by decide +kernel)
set_option maxRecDepth 100000 in
theorem t_1399 : Cond.instanceMethod yX12_anew ∈ tb := tb_of 1399 (by decide +kernel) (by decide +kernel)
set_option maxRecDepth 100000 in
theorem t_1400 : Cond.selects RX12 yX12_anew yX12_anew ∈ tb := tb_of 1400 (by decide +kernel) (by decide +kernel)
set_option maxRecDepth 100000 in
theorem t_1401 : Cond.code yX12_anew cX12_anew 2 (some .int) ∈ tb := tb_of 1401 (by decide +kernel) (by decide +kernel)
set_option maxRecDepth 100000 in
theorem t_1402 : Cond.methodLink RL 57 yX12_state ∈ tb := tb_of 1402 (by decide +kernel) (by decide +kernel)
set_option maxRecDepth 100000 in
theorem t_1403 : Cond.instanceMethod yX12_state ∈ tb := tb_of 1403 (by decide +kernel) (by decide +kernel)
set_option maxRecDepth 100000 in
theorem t_1404 : Cond.selects RX12 yX12_state yX12_state ∈ tb := tb_of 1404 (by decide +kernel) (by decide +kernel)
set_option maxRecDepth 100000 in
theorem t_1405 : Cond.code yX12_state cX12_state 2 (some .int) ∈ tb := tb_of 1405 (by decide +kernel) (by decide +kernel)
set_option maxRecDepth 100000 in
theorem t_1418 : Cond.methodLink RL 64 yX12_feed ∈ tb := tb_of 1418 (by decide +kernel) (by decide +kernel)
set_option maxRecDepth 100000 in
theorem t_1419 : Cond.instanceMethod yX12_feed ∈ tb := tb_of 1419 (by decide +kernel) (by decide +kernel)
set_option maxRecDepth 100000 in
theorem t_1420 : Cond.selects RX12 yX12_feed yX12_feed ∈ tb := tb_of 1420 (by decide +kernel) (by decide +kernel)
set_option maxRecDepth 100000 in
theorem t_1421 : Cond.code yX12_feed cX12_feed 5 (some .int) ∈ tb := tb_of 1421 (by decide +kernel) (by decide +kernel)
set_option maxRecDepth 100000 in
theorem t_1424 : Cond.methodLink RL 68 yX12_rules ∈ tb := tb_of 1424 (by decide +kernel) (by decide +kernel)
set_option maxRecDepth 100000 in
theorem t_1425 : Cond.instanceMethod yX12_rules ∈ tb := tb_of 1425 (by decide +kernel) (by decide +kernel)
set_option maxRecDepth 100000 in
theorem t_1426 : Cond.selects RX12 yX12_rules yX12_rules ∈ tb := tb_of 1426 (by decide +kernel) (by decide +kernel)
set_option maxRecDepth 100000 in
theorem t_1427 : Cond.code yX12_rules cX12_rules 2 (some .int) ∈ tb := tb_of 1427 (by decide +kernel) (by decide +kernel)
set_option maxRecDepth 100000 in
theorem t_1508 : Cond.methodLink RL 72 yX12_tide ∈ tb := tb_of 1508 (by decide +kernel) (by decide +kernel)
set_option maxRecDepth 100000 in
theorem t_1509 : Cond.instanceMethod yX12_tide ∈ tb := tb_of 1509 (by decide +kernel) (by decide +kernel)
set_option maxRecDepth 100000 in
theorem t_1510 : Cond.selects RX12 yX12_tide yX12_tide ∈ tb := tb_of 1510 (by decide +kernel) (by decide +kernel)
set_option maxRecDepth 100000 in
theorem t_1511 : Cond.code yX12_tide cX12_tide 1 (some .int) ∈ tb := tb_of 1511 (by decide +kernel) (by decide +kernel)
set_option maxRecDepth 100000 in
theorem t_1524 : Cond.methodLink RL 76 yX12_on ∈ tb := tb_of 1524 (by decide +kernel) (by decide +kernel)
set_option maxRecDepth 100000 in
theorem t_1525 : Cond.instanceMethod yX12_on ∈ tb := tb_of 1525 (by decide +kernel) (by decide +kernel)
set_option maxRecDepth 100000 in
theorem t_1526 : Cond.selects RX12 yX12_on yX12_on ∈ tb := tb_of 1526 (by decide +kernel) (by decide +kernel)
set_option maxRecDepth 100000 in
theorem t_1527 : Cond.code yX12_on cX12_on 3 (some .int) ∈ tb := tb_of 1527 (by decide +kernel) (by decide +kernel)
set_option maxRecDepth 100000 in
theorem t_1544 : Cond.methodLink RL 80 yX12_when ∈ tb := tb_of 1544 (by decide +kernel) (by decide +kernel)
set_option maxRecDepth 100000 in
theorem t_1545 : Cond.instanceMethod yX12_when ∈ tb := tb_of 1545 (by decide +kernel) (by decide +kernel)
set_option maxRecDepth 100000 in
theorem t_1546 : Cond.selects RX12 yX12_when yX12_when ∈ tb := tb_of 1546 (by decide +kernel) (by decide +kernel)
set_option maxRecDepth 100000 in
theorem t_1547 : Cond.code yX12_when cX12_when 3 (some .int) ∈ tb := tb_of 1547 (by decide +kernel) (by decide +kernel)
set_option maxRecDepth 100000 in
theorem t_1548 : Cond.methodLink RL 84 yX12_chalkFor ∈ tb := tb_of 1548 (by decide +kernel) (by decide +kernel)
set_option maxRecDepth 100000 in
theorem t_1549 : Cond.instanceMethod yX12_chalkFor ∈ tb := tb_of 1549 (by decide +kernel) (by decide +kernel)
set_option maxRecDepth 100000 in
theorem t_1550 : Cond.selects RX12 yX12_chalkFor yX12_chalkFor ∈ tb := tb_of 1550 (by decide +kernel) (by decide +kernel)
set_option maxRecDepth 100000 in
theorem t_1551 : Cond.code yX12_chalkFor cX12_chalkFor 2 (some .int) ∈ tb := tb_of 1551 (by decide +kernel) (by decide +kernel)
set_option maxRecDepth 100000 in
theorem t_1556 : Cond.methodLink RL 88 yX12_tierFor ∈ tb := tb_of 1556 (by decide +kernel) (by decide +kernel)
set_option maxRecDepth 100000 in
theorem t_1557 : Cond.instanceMethod yX12_tierFor ∈ tb := tb_of 1557 (by decide +kernel) (by decide +kernel)
set_option maxRecDepth 100000 in
theorem t_1558 : Cond.selects RX12 yX12_tierFor yX12_tierFor ∈ tb := tb_of 1558 (by decide +kernel) (by decide +kernel)
set_option maxRecDepth 100000 in
theorem t_1559 : Cond.code yX12_tierFor cX12_tierFor 2 (some .int) ∈ tb := tb_of 1559 (by decide +kernel) (by decide +kernel)
set_option maxRecDepth 100000 in
theorem t_1560 : Cond.methodLink RL 92 yX12_dry ∈ tb := tb_of 1560 (by decide +kernel) (by decide +kernel)
set_option maxRecDepth 100000 in
theorem t_1561 : Cond.instanceMethod yX12_dry ∈ tb := tb_of 1561 (by decide +kernel) (by decide +kernel)
set_option maxRecDepth 100000 in
theorem t_1562 : Cond.selects RX12 yX12_dry yX12_dry ∈ tb := tb_of 1562 (by decide +kernel) (by decide +kernel)
set_option maxRecDepth 100000 in
theorem t_1563 : Cond.code yX12_dry cX12_dry 3 (some .int) ∈ tb := tb_of 1563 (by decide +kernel) (by decide +kernel)
set_option maxRecDepth 100000 in
theorem t_1564 : Cond.methodLink RL 96 yX12_least ∈ tb := tb_of 1564 (by decide +kernel) (by decide +kernel)
set_option maxRecDepth 100000 in
theorem t_1565 : Cond.instanceMethod yX12_least ∈ tb := tb_of 1565 (by decide +kernel) (by decide +kernel)
set_option maxRecDepth 100000 in
theorem t_1566 : Cond.selects RX12 yX12_least yX12_least ∈ tb := tb_of 1566 (by decide +kernel) (by decide +kernel)
set_option maxRecDepth 100000 in
theorem t_1567 : Cond.code yX12_least cX12_least 6 (some .int) ∈ tb := tb_of 1567 (by decide +kernel) (by decide +kernel)
set_option maxRecDepth 100000 in
theorem t_1568 : Cond.methodLink RL 100 yX12_left ∈ tb := tb_of 1568 (by decide +kernel) (by decide +kernel)
set_option maxRecDepth 100000 in
theorem t_1569 : Cond.instanceMethod yX12_left ∈ tb := tb_of 1569 (by decide +kernel) (by decide +kernel)
set_option maxRecDepth 100000 in
theorem t_1570 : Cond.selects RX12 yX12_left yX12_left ∈ tb := tb_of 1570 (by decide +kernel) (by decide +kernel)
set_option maxRecDepth 100000 in
theorem t_1571 : Cond.code yX12_left cX12_left 4 (some .int) ∈ tb := tb_of 1571 (by decide +kernel) (by decide +kernel)
set_option maxRecDepth 100000 in
theorem t_1572 : Cond.methodLink RL 104 yX12_rafts ∈ tb := tb_of 1572 (by decide +kernel) (by decide +kernel)
set_option maxRecDepth 100000 in
theorem t_1573 : Cond.instanceMethod yX12_rafts ∈ tb := tb_of 1573 (by decide +kernel) (by decide +kernel)
set_option maxRecDepth 100000 in
theorem t_1574 : Cond.selects RX12 yX12_rafts yX12_rafts ∈ tb := tb_of 1574 (by decide +kernel) (by decide +kernel)
set_option maxRecDepth 100000 in
theorem t_1575 : Cond.code yX12_rafts cX12_rafts 5 (some .int) ∈ tb := tb_of 1575 (by decide +kernel) (by decide +kernel)
set_option maxRecDepth 100000 in
theorem t_1584 : Cond.methodLink RL 108 yX12_best ∈ tb := tb_of 1584 (by decide +kernel) (by decide +kernel)
set_option maxRecDepth 100000 in
theorem t_1585 : Cond.instanceMethod yX12_best ∈ tb := tb_of 1585 (by decide +kernel) (by decide +kernel)
set_option maxRecDepth 100000 in
theorem t_1586 : Cond.selects RX12 yX12_best yX12_best ∈ tb := tb_of 1586 (by decide +kernel) (by decide +kernel)
set_option maxRecDepth 100000 in
theorem t_1587 : Cond.code yX12_best cX12_best 2 (some .int) ∈ tb := tb_of 1587 (by decide +kernel) (by decide +kernel)
set_option maxRecDepth 100000 in
theorem t_1608 : Cond.methodLink RL 112 yX12_ith ∈ tb := tb_of 1608 (by decide +kernel) (by decide +kernel)
set_option maxRecDepth 100000 in
theorem t_1609 : Cond.instanceMethod yX12_ith ∈ tb := tb_of 1609 (by decide +kernel) (by decide +kernel)
set_option maxRecDepth 100000 in
theorem t_1610 : Cond.selects RX12 yX12_ith yX12_ith ∈ tb := tb_of 1610 (by decide +kernel) (by decide +kernel)
set_option maxRecDepth 100000 in
theorem t_1611 : Cond.code yX12_ith cX12_ith 3 (some .int) ∈ tb := tb_of 1611 (by decide +kernel) (by decide +kernel)
set_option maxRecDepth 100000 in
theorem t_1613 : Cond.methodLink RL 116 yX12_ways ∈ tb := tb_of 1613 (by decide +kernel) (by decide +kernel)
set_option maxRecDepth 100000 in
theorem t_1614 : Cond.instanceMethod yX12_ways ∈ tb := tb_of 1614 (by decide +kernel) (by decide +kernel)
set_option maxRecDepth 100000 in
theorem t_1615 : Cond.selects RX12 yX12_ways yX12_ways ∈ tb := tb_of 1615 (by decide +kernel) (by decide +kernel)
set_option maxRecDepth 100000 in
theorem t_1616 : Cond.code yX12_ways cX12_ways 2 (some .int) ∈ tb := tb_of 1616 (by decide +kernel) (by decide +kernel)
set_option maxRecDepth 100000 in
theorem t_1617 : Cond.methodLink RL 120 yX12_chart ∈ tb := tb_of 1617 (by decide +kernel) (by decide +kernel)
set_option maxRecDepth 100000 in
theorem t_1618 : Cond.instanceMethod yX12_chart ∈ tb := tb_of 1618 (by decide +kernel) (by decide +kernel)
set_option maxRecDepth 100000 in
theorem t_1619 : Cond.selects RX12 yX12_chart yX12_chart ∈ tb := tb_of 1619 (by decide +kernel) (by decide +kernel)
set_option maxRecDepth 100000 in
theorem t_1620 : Cond.code yX12_chart cX12_chart 3 (some .int) ∈ tb := tb_of 1620 (by decide +kernel) (by decide +kernel)
set_option maxRecDepth 100000 in
theorem t_1629 : Cond.methodLink RL 124 yX12_bars ∈ tb := tb_of 1629 (by decide +kernel) (by decide +kernel)
set_option maxRecDepth 100000 in
theorem t_1630 : Cond.instanceMethod yX12_bars ∈ tb := tb_of 1630 (by decide +kernel) (by decide +kernel)
set_option maxRecDepth 100000 in
theorem t_1631 : Cond.selects RX12 yX12_bars yX12_bars ∈ tb := tb_of 1631 (by decide +kernel) (by decide +kernel)
set_option maxRecDepth 100000 in
theorem t_1632 : Cond.code yX12_bars cX12_bars 4 (some .int) ∈ tb := tb_of 1632 (by decide +kernel) (by decide +kernel)
set_option maxRecDepth 100000 in
theorem t_1633 : Cond.methodLink RL 128 yX12_game ∈ tb := tb_of 1633 (by decide +kernel) (by decide +kernel)
set_option maxRecDepth 100000 in
theorem t_1634 : Cond.instanceMethod yX12_game ∈ tb := tb_of 1634 (by decide +kernel) (by decide +kernel)
set_option maxRecDepth 100000 in
theorem t_1635 : Cond.selects RX12 yX12_game yX12_game ∈ tb := tb_of 1635 (by decide +kernel) (by decide +kernel)
set_option maxRecDepth 100000 in
theorem t_1636 : Cond.code yX12_game cX12_game 2 (some .int) ∈ tb := tb_of 1636 (by decide +kernel) (by decide +kernel)
set_option maxRecDepth 100000 in
theorem t_1642 : Cond.methodLink RL 132 yX12_play ∈ tb := tb_of 1642 (by decide +kernel) (by decide +kernel)
set_option maxRecDepth 100000 in
theorem t_1643 : Cond.instanceMethod yX12_play ∈ tb := tb_of 1643 (by decide +kernel) (by decide +kernel)
set_option maxRecDepth 100000 in
theorem t_1644 : Cond.selects RX12 yX12_play yX12_play ∈ tb := tb_of 1644 (by decide +kernel) (by decide +kernel)
set_option maxRecDepth 100000 in
theorem t_1645 : Cond.code yX12_play cX12_play 6 (some .int) ∈ tb := tb_of 1645 (by decide +kernel) (by decide +kernel)
set_option maxRecDepth 100000 in
theorem t_1646 : Cond.methodLink RL 136 yX12_report ∈ tb := tb_of 1646 (by decide +kernel) (by decide +kernel)
set_option maxRecDepth 100000 in
theorem t_1647 : Cond.instanceMethod yX12_report ∈ tb := tb_of 1647 (by decide +kernel) (by decide +kernel)
set_option maxRecDepth 100000 in
theorem t_1648 : Cond.selects RX12 yX12_report yX12_report ∈ tb := tb_of 1648 (by decide +kernel) (by decide +kernel)
set_option maxRecDepth 100000 in
theorem t_1649 : Cond.code yX12_report cX12_report 7 (some .int) ∈ tb := tb_of 1649 (by decide +kernel) (by decide +kernel)
set_option maxRecDepth 100000 in
theorem t_1650 : Cond.methodLink RL 140 yX12_forget ∈ tb := tb_of 1650 (by decide +kernel) (by decide +kernel)
set_option maxRecDepth 100000 in
theorem t_1651 : Cond.instanceMethod yX12_forget ∈ tb := tb_of 1651 (by decide +kernel) (by decide +kernel)
set_option maxRecDepth 100000 in
theorem t_1652 : Cond.selects RX12 yX12_forget yX12_forget ∈ tb := tb_of 1652 (by decide +kernel) (by decide +kernel)
set_option maxRecDepth 100000 in
theorem t_1653 : Cond.code yX12_forget cX12_forget 1 (some .int) ∈ tb := tb_of 1653 (by decide +kernel) (by decide +kernel)
set_option maxRecDepth 100000 in
theorem t_1654 : Cond.methodLink RL 144 yX12_lone ∈ tb := tb_of 1654 (by decide +kernel) (by decide +kernel)
set_option maxRecDepth 100000 in
theorem t_1655 : Cond.instanceMethod yX12_lone ∈ tb := tb_of 1655 (by decide +kernel) (by decide +kernel)
set_option maxRecDepth 100000 in
theorem t_1656 : Cond.selects RX12 yX12_lone yX12_lone ∈ tb := tb_of 1656 (by decide +kernel) (by decide +kernel)
set_option maxRecDepth 100000 in
theorem t_1657 : Cond.code yX12_lone cX12_lone 2 (some .int) ∈ tb := tb_of 1657 (by decide +kernel) (by decide +kernel)
set_option maxRecDepth 100000 in
theorem t_1666 : Cond.methodLink RL 148 yX12_liar ∈ tb := tb_of 1666 (by decide +kernel) (by decide +kernel)
set_option maxRecDepth 100000 in
theorem t_1667 : Cond.instanceMethod yX12_liar ∈ tb := tb_of 1667 (by decide +kernel) (by decide +kernel)
set_option maxRecDepth 100000 in
theorem t_1668 : Cond.selects RX12 yX12_liar yX12_liar ∈ tb := tb_of 1668 (by decide +kernel) (by decide +kernel)
set_option maxRecDepth 100000 in
theorem t_1669 : Cond.code yX12_liar cX12_liar 2 (some .int) ∈ tb := tb_of 1669 (by decide +kernel) (by decide +kernel)
set_option maxRecDepth 100000 in
theorem t_1670 : Cond.methodLink RL 152 yX12_seed ∈ tb := tb_of 1670 (by decide +kernel) (by decide +kernel)
set_option maxRecDepth 100000 in
theorem t_1671 : Cond.instanceMethod yX12_seed ∈ tb := tb_of 1671 (by decide +kernel) (by decide +kernel)
set_option maxRecDepth 100000 in
theorem t_1672 : Cond.selects RX12 yX12_seed yX12_seed ∈ tb := tb_of 1672 (by decide +kernel) (by decide +kernel)
set_option maxRecDepth 100000 in
theorem t_1673 : Cond.code yX12_seed cX12_seed 2 (some .int) ∈ tb := tb_of 1673 (by decide +kernel) (by decide +kernel)
set_option maxRecDepth 100000 in
theorem t_1674 : Cond.methodLink RL 156 yX12_lot ∈ tb := tb_of 1674 (by decide +kernel) (by decide +kernel)
set_option maxRecDepth 100000 in
theorem t_1675 : Cond.instanceMethod yX12_lot ∈ tb := tb_of 1675 (by decide +kernel) (by decide +kernel)
set_option maxRecDepth 100000 in
theorem t_1676 : Cond.selects RX12 yX12_lot yX12_lot ∈ tb := tb_of 1676 (by decide +kernel) (by decide +kernel)
set_option maxRecDepth 100000 in
theorem t_1677 : Cond.code yX12_lot cX12_lot 1 (some .int) ∈ tb := tb_of 1677 (by decide +kernel) (by decide +kernel)
set_option maxRecDepth 100000 in
theorem t_1683 : Cond.methodLink RL 160 yX12_times ∈ tb := tb_of 1683 (by decide +kernel) (by decide +kernel)
set_option maxRecDepth 100000 in
theorem t_1684 : Cond.instanceMethod yX12_times ∈ tb := tb_of 1684 (by decide +kernel) (by decide +kernel)
set_option maxRecDepth 100000 in
theorem t_1685 : Cond.selects RX12 yX12_times yX12_times ∈ tb := tb_of 1685 (by decide +kernel) (by decide +kernel)
set_option maxRecDepth 100000 in
theorem t_1686 : Cond.code yX12_times cX12_times 7 (some .int) ∈ tb := tb_of 1686 (by decide +kernel) (by decide +kernel)
set_option maxRecDepth 100000 in
theorem t_1689 : Cond.methodLink RL 164 yX12_prove ∈ tb := tb_of 1689 (by decide +kernel) (by decide +kernel)
set_option maxRecDepth 100000 in
theorem t_1690 : Cond.instanceMethod yX12_prove ∈ tb := tb_of 1690 (by decide +kernel) (by decide +kernel)
set_option maxRecDepth 100000 in
theorem t_1691 : Cond.selects RX12 yX12_prove yX12_prove ∈ tb := tb_of 1691 (by decide +kernel) (by decide +kernel)
set_option maxRecDepth 100000 in
theorem t_1692 : Cond.code yX12_prove cX12_prove 3 (some .int) ∈ tb := tb_of 1692 (by decide +kernel) (by decide +kernel)
set_option maxRecDepth 100000 in
theorem t_1693 : Cond.methodLink RL 168 yX12_row ∈ tb := tb_of 1693 (by decide +kernel) (by decide +kernel)
set_option maxRecDepth 100000 in
theorem t_1694 : Cond.instanceMethod yX12_row ∈ tb := tb_of 1694 (by decide +kernel) (by decide +kernel)
set_option maxRecDepth 100000 in
theorem t_1695 : Cond.selects RX12 yX12_row yX12_row ∈ tb := tb_of 1695 (by decide +kernel) (by decide +kernel)
set_option maxRecDepth 100000 in
theorem t_1696 : Cond.code yX12_row cX12_row 3 (some .int) ∈ tb := tb_of 1696 (by decide +kernel) (by decide +kernel)
set_option maxRecDepth 100000 in
theorem t_1698 : Cond.methodLink RL 172 yX12_alterRow ∈ tb := tb_of 1698 (by decide +kernel) (by decide +kernel)
set_option maxRecDepth 100000 in
theorem t_1699 : Cond.instanceMethod yX12_alterRow ∈ tb := tb_of 1699 (by decide +kernel) (by decide +kernel)
set_option maxRecDepth 100000 in
theorem t_1700 : Cond.selects RX12 yX12_alterRow yX12_alterRow ∈ tb := tb_of 1700 (by decide +kernel) (by decide +kernel)
set_option maxRecDepth 100000 in
theorem t_1701 : Cond.code yX12_alterRow cX12_alterRow 5 (some .int) ∈ tb := tb_of 1701 (by decide +kernel) (by decide +kernel)
set_option maxRecDepth 100000 in
theorem t_1702 : Cond.methodLink RL 176 yX12_judge ∈ tb := tb_of 1702 (by decide +kernel) (by decide +kernel)
set_option maxRecDepth 100000 in
theorem t_1703 : Cond.instanceMethod yX12_judge ∈ tb := tb_of 1703 (by decide +kernel) (by decide +kernel)
set_option maxRecDepth 100000 in
theorem t_1704 : Cond.selects RX12 yX12_judge yX12_judge ∈ tb := tb_of 1704 (by decide +kernel) (by decide +kernel)
set_option maxRecDepth 100000 in
theorem t_1705 : Cond.code yX12_judge cX12_judge 4 (some .int) ∈ tb := tb_of 1705 (by decide +kernel) (by decide +kernel)
set_option maxRecDepth 100000 in
theorem t_1706 : Cond.methodLink RL 180 yX12_sheet ∈ tb := tb_of 1706 (by decide +kernel) (by decide +kernel)
set_option maxRecDepth 100000 in
theorem t_1707 : Cond.instanceMethod yX12_sheet ∈ tb := tb_of 1707 (by decide +kernel) (by decide +kernel)
set_option maxRecDepth 100000 in
theorem t_1708 : Cond.selects RX12 yX12_sheet yX12_sheet ∈ tb := tb_of 1708 (by decide +kernel) (by decide +kernel)
set_option maxRecDepth 100000 in
theorem t_1709 : Cond.code yX12_sheet cX12_sheet 5 (some .int) ∈ tb := tb_of 1709 (by decide +kernel) (by decide +kernel)
set_option maxRecDepth 100000 in
theorem t_1713 : Cond.methodLink RL 184 yX12_write ∈ tb := tb_of 1713 (by decide +kernel) (by decide +kernel)
set_option maxRecDepth 100000 in
theorem t_1714 : Cond.instanceMethod yX12_write ∈ tb := tb_of 1714 (by decide +kernel) (by decide +kernel)
set_option maxRecDepth 100000 in
theorem t_1715 : Cond.selects RX12 yX12_write yX12_write ∈ tb := tb_of 1715 (by decide +kernel) (by decide +kernel)
set_option maxRecDepth 100000 in
theorem t_1716 : Cond.code yX12_write cX12_write 5 (some .int) ∈ tb := tb_of 1716 (by decide +kernel) (by decide +kernel)
set_option maxRecDepth 100000 in
theorem t_1717 : Cond.methodLink RL 188 yX12_item ∈ tb := tb_of 1717 (by decide +kernel) (by decide +kernel)
set_option maxRecDepth 100000 in
theorem t_1718 : Cond.instanceMethod yX12_item ∈ tb := tb_of 1718 (by decide +kernel) (by decide +kernel)
set_option maxRecDepth 100000 in
theorem t_1719 : Cond.selects RX12 yX12_item yX12_item ∈ tb := tb_of 1719 (by decide +kernel) (by decide +kernel)
set_option maxRecDepth 100000 in
theorem t_1720 : Cond.code yX12_item cX12_item 4 (some .int) ∈ tb := tb_of 1720 (by decide +kernel) (by decide +kernel)
set_option maxRecDepth 100000 in
theorem t_1721 : Cond.methodLink RL 192 yX12_goAll ∈ tb := tb_of 1721 (by decide +kernel) (by decide +kernel)
set_option maxRecDepth 100000 in
theorem t_1722 : Cond.instanceMethod yX12_goAll ∈ tb := tb_of 1722 (by decide +kernel) (by decide +kernel)
set_option maxRecDepth 100000 in
theorem t_1723 : Cond.selects RX12 yX12_goAll yX12_goAll ∈ tb := tb_of 1723 (by decide +kernel) (by decide +kernel)
set_option maxRecDepth 100000 in
theorem t_1724 : Cond.code yX12_goAll cX12_goAll 8 (some .int) ∈ tb := tb_of 1724 (by decide +kernel) (by decide +kernel)
set_option maxRecDepth 100000 in
theorem t_1730 : Cond.methodLink RL 196 yX12_wouldBe ∈ tb := tb_of 1730 (by decide +kernel) (by decide +kernel)
set_option maxRecDepth 100000 in
theorem t_1731 : Cond.instanceMethod yX12_wouldBe ∈ tb := tb_of 1731 (by decide +kernel) (by decide +kernel)
set_option maxRecDepth 100000 in
theorem t_1732 : Cond.selects RX12 yX12_wouldBe yX12_wouldBe ∈ tb := tb_of 1732 (by decide +kernel) (by decide +kernel)
set_option maxRecDepth 100000 in
theorem t_1733 : Cond.code yX12_wouldBe cX12_wouldBe 7 (some .int) ∈ tb := tb_of 1733 (by decide +kernel) (by decide +kernel)
set_option maxRecDepth 100000 in
theorem t_1734 : Cond.methodLink RL 200 yX12_shelf ∈ tb := tb_of 1734 (by decide +kernel) (by decide +kernel)
set_option maxRecDepth 100000 in
theorem t_1735 : Cond.instanceMethod yX12_shelf ∈ tb := tb_of 1735 (by decide +kernel) (by decide +kernel)
set_option maxRecDepth 100000 in
theorem t_1736 : Cond.selects RX12 yX12_shelf yX12_shelf ∈ tb := tb_of 1736 (by decide +kernel) (by decide +kernel)
set_option maxRecDepth 100000 in
theorem t_1737 : Cond.code yX12_shelf cX12_shelf 6 (some .int) ∈ tb := tb_of 1737 (by decide +kernel) (by decide +kernel)
set_option maxRecDepth 100000 in
theorem t_1738 : Cond.methodLink RL 204 yX12_taken ∈ tb := tb_of 1738 (by decide +kernel) (by decide +kernel)
set_option maxRecDepth 100000 in
theorem t_1739 : Cond.instanceMethod yX12_taken ∈ tb := tb_of 1739 (by decide +kernel) (by decide +kernel)
set_option maxRecDepth 100000 in
theorem t_1740 : Cond.selects RX12 yX12_taken yX12_taken ∈ tb := tb_of 1740 (by decide +kernel) (by decide +kernel)
set_option maxRecDepth 100000 in
theorem t_1741 : Cond.code yX12_taken cX12_taken 4 (some .int) ∈ tb := tb_of 1741 (by decide +kernel) (by decide +kernel)
set_option maxRecDepth 100000 in
theorem t_1747 : Cond.methodLink RL 208 yX12_act ∈ tb := tb_of 1747 (by decide +kernel) (by decide +kernel)
set_option maxRecDepth 100000 in
theorem t_1748 : Cond.instanceMethod yX12_act ∈ tb := tb_of 1748 (by decide +kernel) (by decide +kernel)
set_option maxRecDepth 100000 in
theorem t_1749 : Cond.selects RX12 yX12_act yX12_act ∈ tb := tb_of 1749 (by decide +kernel) (by decide +kernel)
set_option maxRecDepth 100000 in
theorem t_1750 : Cond.code yX12_act cX12_act 6 (some .int) ∈ tb := tb_of 1750 (by decide +kernel) (by decide +kernel)
set_option maxRecDepth 100000 in
theorem t_1771 : Cond.methodLink RL 212 yX12_trace ∈ tb := tb_of 1771 (by decide +kernel) (by decide +kernel)
set_option maxRecDepth 100000 in
theorem t_1772 : Cond.instanceMethod yX12_trace ∈ tb := tb_of 1772 (by decide +kernel) (by decide +kernel)
set_option maxRecDepth 100000 in
theorem t_1773 : Cond.selects RX12 yX12_trace yX12_trace ∈ tb := tb_of 1773 (by decide +kernel) (by decide +kernel)
set_option maxRecDepth 100000 in
theorem t_1774 : Cond.code yX12_trace cX12_trace 2 (some .int) ∈ tb := tb_of 1774 (by decide +kernel) (by decide +kernel)
set_option maxRecDepth 100000 in
theorem t_1775 : Cond.methodLink RL 216 yX12_many ∈ tb := tb_of 1775 (by decide +kernel) (by decide +kernel)
set_option maxRecDepth 100000 in
theorem t_1776 : Cond.instanceMethod yX12_many ∈ tb := tb_of 1776 (by decide +kernel) (by decide +kernel)
set_option maxRecDepth 100000 in
theorem t_1777 : Cond.selects RX12 yX12_many yX12_many ∈ tb := tb_of 1777 (by decide +kernel) (by decide +kernel)
set_option maxRecDepth 100000 in
theorem t_1778 : Cond.code yX12_many cX12_many 2 (some .int) ∈ tb := tb_of 1778 (by decide +kernel) (by decide +kernel)
set_option maxRecDepth 100000 in
theorem t_1782 : Cond.methodLink RL 220 yX12_keep ∈ tb := tb_of 1782 (by decide +kernel) (by decide +kernel)
set_option maxRecDepth 100000 in
theorem t_1783 : Cond.instanceMethod yX12_keep ∈ tb := tb_of 1783 (by decide +kernel) (by decide +kernel)
set_option maxRecDepth 100000 in
theorem t_1784 : Cond.selects RX12 yX12_keep yX12_keep ∈ tb := tb_of 1784 (by decide +kernel) (by decide +kernel)
set_option maxRecDepth 100000 in
theorem t_1785 : Cond.code yX12_keep cX12_keep 2 (some .int) ∈ tb := tb_of 1785 (by decide +kernel) (by decide +kernel)
set_option maxRecDepth 100000 in
theorem t_1786 : Cond.methodLink RL 224 yX12_again ∈ tb := tb_of 1786 (by decide +kernel) (by decide +kernel)
set_option maxRecDepth 100000 in
theorem t_1787 : Cond.instanceMethod yX12_again ∈ tb := tb_of 1787 (by decide +kernel) (by decide +kernel)
set_option maxRecDepth 100000 in
theorem t_1788 : Cond.selects RX12 yX12_again yX12_again ∈ tb := tb_of 1788 (by decide +kernel) (by decide +kernel)
set_option maxRecDepth 100000 in
theorem t_1789 : Cond.code yX12_again cX12_again 2 (some .int) ∈ tb := tb_of 1789 (by decide +kernel) (by decide +kernel)
set_option maxRecDepth 100000 in
theorem t_1790 : Cond.constantLong RL 58 4294967295 ∈ tb := tb_of 1790 (by decide +kernel) (by decide +kernel)
set_option maxRecDepth 100000 in
theorem cv_L_13 : Cv RL 13 miX11_barrel 4 11 := ⟨t_450, t_451, t_452, t_89, t_453, ⟨by decide +kernel, by decide +kernel, by decide +kernel⟩, by decide, by decide, _, _, rfl⟩
set_option maxRecDepth 100000 in
theorem cv_L_17 : Cv RL 17 miX12_barrel 4 12 := ⟨t_1283, t_1284, t_1285, t_101, t_1286, ⟨by decide +kernel, by decide +kernel, by decide +kernel⟩, by decide, by decide, _, _, rfl⟩
set_option maxRecDepth 100000 in
theorem cv_L_18 : Cv RL 18 miX11_barrelOf 2 11 := ⟨t_461, t_462, t_463, t_89, t_464, ⟨by decide +kernel, by decide +kernel, by decide +kernel⟩, by decide, by decide, _, _, rfl⟩
set_option maxRecDepth 100000 in
theorem cv_L_22 : Cv RL 22 miX12_barrelOf 2 12 := ⟨t_1297, t_1298, t_1299, t_101, t_1300, ⟨by decide +kernel, by decide +kernel, by decide +kernel⟩, by decide, by decide, _, _, rfl⟩
set_option maxRecDepth 100000 in
theorem cv_L_23 : Cv RL 23 miX11_change 3 11 := ⟨t_582, t_583, t_584, t_89, t_585, ⟨by decide +kernel, by decide +kernel, by decide +kernel⟩, by decide, by decide, _, _, rfl⟩
set_option maxRecDepth 100000 in
theorem cv_L_27 : Cv RL 27 miX12_change 3 12 := ⟨t_1368, t_1369, t_1370, t_101, t_1371, ⟨by decide +kernel, by decide +kernel, by decide +kernel⟩, by decide, by decide, _, _, rfl⟩
set_option maxRecDepth 100000 in
theorem cv_L_28 : Cv RL 28 miX11_remake 2 11 := ⟨t_589, t_590, t_591, t_89, t_592, ⟨by decide +kernel, by decide +kernel, by decide +kernel⟩, by decide, by decide, _, _, rfl⟩
set_option maxRecDepth 100000 in
theorem cv_L_31 : Cv RL 31 miX12_remake 2 12 := ⟨t_1376, t_1377, t_1378, t_101, t_1379, ⟨by decide +kernel, by decide +kernel, by decide +kernel⟩, by decide, by decide, _, _, rfl⟩
set_option maxRecDepth 100000 in
theorem cv_L_32 : Cv RL 32 miX11_water 2 11 := ⟨t_593, t_594, t_595, t_89, t_596, ⟨by decide +kernel, by decide +kernel, by decide +kernel⟩, by decide, by decide, _, _, rfl⟩
set_option maxRecDepth 100000 in
theorem cv_L_35 : Cv RL 35 miX12_water 2 12 := ⟨t_1380, t_1381, t_1382, t_101, t_1383, ⟨by decide +kernel, by decide +kernel, by decide +kernel⟩, by decide, by decide, _, _, rfl⟩
set_option maxRecDepth 100000 in
theorem cv_L_36 : Cv RL 36 miX11_tier 3 11 := ⟨t_597, t_598, t_599, t_89, t_600, ⟨by decide +kernel, by decide +kernel, by decide +kernel⟩, by decide, by decide, _, _, rfl⟩
set_option maxRecDepth 100000 in
theorem cv_L_39 : Cv RL 39 miX12_tier 3 12 := ⟨t_1385, t_1386, t_1387, t_101, t_1388, ⟨by decide +kernel, by decide +kernel, by decide +kernel⟩, by decide, by decide, _, _, rfl⟩
set_option maxRecDepth 100000 in
theorem cv_L_40 : Cv RL 40 miX11_tierOf 2 11 := ⟨t_601, t_602, t_603, t_89, t_604, ⟨by decide +kernel, by decide +kernel, by decide +kernel⟩, by decide, by decide, _, _, rfl⟩
set_option maxRecDepth 100000 in
theorem cv_L_43 : Cv RL 43 miX12_tierOf 2 12 := ⟨t_1389, t_1390, t_1391, t_101, t_1392, ⟨by decide +kernel, by decide +kernel, by decide +kernel⟩, by decide, by decide, _, _, rfl⟩
set_option maxRecDepth 100000 in
theorem cv_L_44 : Cv RL 44 miX11_ends 1 11 := ⟨t_605, t_606, t_607, t_89, t_608, ⟨by decide +kernel, by decide +kernel, by decide +kernel⟩, by decide, by decide, _, _, rfl⟩
set_option maxRecDepth 100000 in
theorem cv_L_48 : Cv RL 48 miX12_ends 1 12 := ⟨t_1393, t_1394, t_1395, t_101, t_1396, ⟨by decide +kernel, by decide +kernel, by decide +kernel⟩, by decide, by decide, _, _, rfl⟩
set_option maxRecDepth 100000 in
theorem cv_L_49 : Cv RL 49 miX11_anew 0 11 := ⟨t_609, t_610, t_611, t_89, t_612, ⟨by decide +kernel, by decide +kernel, by decide +kernel⟩, by decide, by decide, _, _, rfl⟩
set_option maxRecDepth 100000 in
theorem cv_L_53 : Cv RL 53 miX12_anew 0 12 := ⟨t_1398, t_1399, t_1400, t_101, t_1401, ⟨by decide +kernel, by decide +kernel, by decide +kernel⟩, by decide, by decide, _, _, rfl⟩
set_option maxRecDepth 100000 in
theorem cv_L_54 : Cv RL 54 miX11_state 1 11 := ⟨t_613, t_614, t_615, t_89, t_616, ⟨by decide +kernel, by decide +kernel, by decide +kernel⟩, by decide, by decide, _, _, rfl⟩
set_option maxRecDepth 100000 in
theorem cv_L_57 : Cv RL 57 miX12_state 1 12 := ⟨t_1402, t_1403, t_1404, t_101, t_1405, ⟨by decide +kernel, by decide +kernel, by decide +kernel⟩, by decide, by decide, _, _, rfl⟩
set_option maxRecDepth 100000 in
theorem cv_L_60 : Cv RL 60 miX11_feed 2 11 := ⟨t_626, t_627, t_628, t_89, t_629, ⟨by decide +kernel, by decide +kernel, by decide +kernel⟩, by decide, by decide, _, _, rfl⟩
set_option maxRecDepth 100000 in
theorem cv_L_64 : Cv RL 64 miX12_feed 2 12 := ⟨t_1418, t_1419, t_1420, t_101, t_1421, ⟨by decide +kernel, by decide +kernel, by decide +kernel⟩, by decide, by decide, _, _, rfl⟩
set_option maxRecDepth 100000 in
theorem cv_L_65 : Cv RL 65 miX11_rules 0 11 := ⟨t_630, t_631, t_632, t_89, t_633, ⟨by decide +kernel, by decide +kernel, by decide +kernel⟩, by decide, by decide, _, _, rfl⟩
set_option maxRecDepth 100000 in
theorem cv_L_68 : Cv RL 68 miX12_rules 0 12 := ⟨t_1424, t_1425, t_1426, t_101, t_1427, ⟨by decide +kernel, by decide +kernel, by decide +kernel⟩, by decide, by decide, _, _, rfl⟩
set_option maxRecDepth 100000 in
theorem cv_L_69 : Cv RL 69 miX11_tide 0 11 := ⟨t_744, t_745, t_746, t_89, t_747, ⟨by decide +kernel, by decide +kernel, by decide +kernel⟩, by decide, by decide, _, _, rfl⟩
set_option maxRecDepth 100000 in
theorem cv_L_72 : Cv RL 72 miX12_tide 0 12 := ⟨t_1508, t_1509, t_1510, t_101, t_1511, ⟨by decide +kernel, by decide +kernel, by decide +kernel⟩, by decide, by decide, _, _, rfl⟩
set_option maxRecDepth 100000 in
theorem cv_L_73 : Cv RL 73 miX11_on 1 11 := ⟨t_769, t_770, t_771, t_89, t_772, ⟨by decide +kernel, by decide +kernel, by decide +kernel⟩, by decide, by decide, _, _, rfl⟩
set_option maxRecDepth 100000 in
theorem cv_L_76 : Cv RL 76 miX12_on 1 12 := ⟨t_1524, t_1525, t_1526, t_101, t_1527, ⟨by decide +kernel, by decide +kernel, by decide +kernel⟩, by decide, by decide, _, _, rfl⟩
set_option maxRecDepth 100000 in
theorem cv_L_77 : Cv RL 77 miX11_when 1 11 := ⟨t_784, t_785, t_786, t_89, t_787, ⟨by decide +kernel, by decide +kernel, by decide +kernel⟩, by decide, by decide, _, _, rfl⟩
set_option maxRecDepth 100000 in
theorem cv_L_80 : Cv RL 80 miX12_when 1 12 := ⟨t_1544, t_1545, t_1546, t_101, t_1547, ⟨by decide +kernel, by decide +kernel, by decide +kernel⟩, by decide, by decide, _, _, rfl⟩
set_option maxRecDepth 100000 in
theorem cv_L_81 : Cv RL 81 miX11_chalkFor 1 11 := ⟨t_789, t_790, t_791, t_89, t_792, ⟨by decide +kernel, by decide +kernel, by decide +kernel⟩, by decide, by decide, _, _, rfl⟩
set_option maxRecDepth 100000 in
theorem cv_L_84 : Cv RL 84 miX12_chalkFor 1 12 := ⟨t_1548, t_1549, t_1550, t_101, t_1551, ⟨by decide +kernel, by decide +kernel, by decide +kernel⟩, by decide, by decide, _, _, rfl⟩
set_option maxRecDepth 100000 in
theorem cv_L_85 : Cv RL 85 miX11_tierFor 1 11 := ⟨t_793, t_794, t_795, t_89, t_796, ⟨by decide +kernel, by decide +kernel, by decide +kernel⟩, by decide, by decide, _, _, rfl⟩
set_option maxRecDepth 100000 in
theorem cv_L_88 : Cv RL 88 miX12_tierFor 1 12 := ⟨t_1556, t_1557, t_1558, t_101, t_1559, ⟨by decide +kernel, by decide +kernel, by decide +kernel⟩, by decide, by decide, _, _, rfl⟩
set_option maxRecDepth 100000 in
theorem cv_L_89 : Cv RL 89 miX11_dry 1 11 := ⟨t_797, t_798, t_799, t_89, t_800, ⟨by decide +kernel, by decide +kernel, by decide +kernel⟩, by decide, by decide, _, _, rfl⟩
set_option maxRecDepth 100000 in
theorem cv_L_92 : Cv RL 92 miX12_dry 1 12 := ⟨t_1560, t_1561, t_1562, t_101, t_1563, ⟨by decide +kernel, by decide +kernel, by decide +kernel⟩, by decide, by decide, _, _, rfl⟩
set_option maxRecDepth 100000 in
theorem cv_L_93 : Cv RL 93 miX11_least 1 11 := ⟨t_801, t_802, t_803, t_89, t_804, ⟨by decide +kernel, by decide +kernel, by decide +kernel⟩, by decide, by decide, _, _, rfl⟩
set_option maxRecDepth 100000 in
theorem cv_L_96 : Cv RL 96 miX12_least 1 12 := ⟨t_1564, t_1565, t_1566, t_101, t_1567, ⟨by decide +kernel, by decide +kernel, by decide +kernel⟩, by decide, by decide, _, _, rfl⟩
set_option maxRecDepth 100000 in
theorem cv_L_97 : Cv RL 97 miX11_left 2 11 := ⟨t_805, t_806, t_807, t_89, t_808, ⟨by decide +kernel, by decide +kernel, by decide +kernel⟩, by decide, by decide, _, _, rfl⟩
set_option maxRecDepth 100000 in
theorem cv_L_100 : Cv RL 100 miX12_left 2 12 := ⟨t_1568, t_1569, t_1570, t_101, t_1571, ⟨by decide +kernel, by decide +kernel, by decide +kernel⟩, by decide, by decide, _, _, rfl⟩
set_option maxRecDepth 100000 in
theorem cv_L_101 : Cv RL 101 miX11_rafts 1 11 := ⟨t_809, t_810, t_811, t_89, t_812, ⟨by decide +kernel, by decide +kernel, by decide +kernel⟩, by decide, by decide, _, _, rfl⟩
set_option maxRecDepth 100000 in
theorem cv_L_104 : Cv RL 104 miX12_rafts 1 12 := ⟨t_1572, t_1573, t_1574, t_101, t_1575, ⟨by decide +kernel, by decide +kernel, by decide +kernel⟩, by decide, by decide, _, _, rfl⟩
set_option maxRecDepth 100000 in
theorem cv_L_105 : Cv RL 105 miX11_best 1 11 := ⟨t_826, t_827, t_828, t_89, t_829, ⟨by decide +kernel, by decide +kernel, by decide +kernel⟩, by decide, by decide, _, _, rfl⟩
set_option maxRecDepth 100000 in
theorem cv_L_108 : Cv RL 108 miX12_best 1 12 := ⟨t_1584, t_1585, t_1586, t_101, t_1587, ⟨by decide +kernel, by decide +kernel, by decide +kernel⟩, by decide, by decide, _, _, rfl⟩
set_option maxRecDepth 100000 in
theorem cv_L_109 : Cv RL 109 miX11_ith 2 11 := ⟨t_854, t_855, t_856, t_89, t_857, ⟨by decide +kernel, by decide +kernel, by decide +kernel⟩, by decide, by decide, _, _, rfl⟩
set_option maxRecDepth 100000 in
theorem cv_L_112 : Cv RL 112 miX12_ith 2 12 := ⟨t_1608, t_1609, t_1610, t_101, t_1611, ⟨by decide +kernel, by decide +kernel, by decide +kernel⟩, by decide, by decide, _, _, rfl⟩
set_option maxRecDepth 100000 in
theorem cv_L_113 : Cv RL 113 miX11_ways 1 11 := ⟨t_859, t_860, t_861, t_89, t_862, ⟨by decide +kernel, by decide +kernel, by decide +kernel⟩, by decide, by decide, _, _, rfl⟩
set_option maxRecDepth 100000 in
theorem cv_L_116 : Cv RL 116 miX12_ways 1 12 := ⟨t_1613, t_1614, t_1615, t_101, t_1616, ⟨by decide +kernel, by decide +kernel, by decide +kernel⟩, by decide, by decide, _, _, rfl⟩
set_option maxRecDepth 100000 in
theorem cv_L_117 : Cv RL 117 miX11_chart 2 11 := ⟨t_863, t_864, t_865, t_89, t_866, ⟨by decide +kernel, by decide +kernel, by decide +kernel⟩, by decide, by decide, _, _, rfl⟩
set_option maxRecDepth 100000 in
theorem cv_L_120 : Cv RL 120 miX12_chart 2 12 := ⟨t_1617, t_1618, t_1619, t_101, t_1620, ⟨by decide +kernel, by decide +kernel, by decide +kernel⟩, by decide, by decide, _, _, rfl⟩
set_option maxRecDepth 100000 in
theorem cv_L_121 : Cv RL 121 miX11_bars 2 11 := ⟨t_871, t_872, t_873, t_89, t_874, ⟨by decide +kernel, by decide +kernel, by decide +kernel⟩, by decide, by decide, _, _, rfl⟩
set_option maxRecDepth 100000 in
theorem cv_L_124 : Cv RL 124 miX12_bars 2 12 := ⟨t_1629, t_1630, t_1631, t_101, t_1632, ⟨by decide +kernel, by decide +kernel, by decide +kernel⟩, by decide, by decide, _, _, rfl⟩
set_option maxRecDepth 100000 in
theorem cv_L_125 : Cv RL 125 miX11_game 1 11 := ⟨t_879, t_880, t_881, t_89, t_882, ⟨by decide +kernel, by decide +kernel, by decide +kernel⟩, by decide, by decide, _, _, rfl⟩
set_option maxRecDepth 100000 in
theorem cv_L_128 : Cv RL 128 miX12_game 1 12 := ⟨t_1633, t_1634, t_1635, t_101, t_1636, ⟨by decide +kernel, by decide +kernel, by decide +kernel⟩, by decide, by decide, _, _, rfl⟩
set_option maxRecDepth 100000 in
theorem cv_L_129 : Cv RL 129 miX11_play 1 11 := ⟨t_891, t_892, t_893, t_89, t_894, ⟨by decide +kernel, by decide +kernel, by decide +kernel⟩, by decide, by decide, _, _, rfl⟩
set_option maxRecDepth 100000 in
theorem cv_L_132 : Cv RL 132 miX12_play 1 12 := ⟨t_1642, t_1643, t_1644, t_101, t_1645, ⟨by decide +kernel, by decide +kernel, by decide +kernel⟩, by decide, by decide, _, _, rfl⟩
set_option maxRecDepth 100000 in
theorem cv_L_133 : Cv RL 133 miX11_report 4 11 := ⟨t_895, t_896, t_897, t_89, t_898, ⟨by decide +kernel, by decide +kernel, by decide +kernel⟩, by decide, by decide, _, _, rfl⟩
set_option maxRecDepth 100000 in
theorem cv_L_136 : Cv RL 136 miX12_report 4 12 := ⟨t_1646, t_1647, t_1648, t_101, t_1649, ⟨by decide +kernel, by decide +kernel, by decide +kernel⟩, by decide, by decide, _, _, rfl⟩
set_option maxRecDepth 100000 in
theorem cv_L_137 : Cv RL 137 miX11_forget 0 11 := ⟨t_899, t_900, t_901, t_89, t_902, ⟨by decide +kernel, by decide +kernel, by decide +kernel⟩, by decide, by decide, _, _, rfl⟩
set_option maxRecDepth 100000 in
theorem cv_L_140 : Cv RL 140 miX12_forget 0 12 := ⟨t_1650, t_1651, t_1652, t_101, t_1653, ⟨by decide +kernel, by decide +kernel, by decide +kernel⟩, by decide, by decide, _, _, rfl⟩
set_option maxRecDepth 100000 in
theorem cv_L_141 : Cv RL 141 miX11_lone 1 11 := ⟨t_903, t_904, t_905, t_89, t_906, ⟨by decide +kernel, by decide +kernel, by decide +kernel⟩, by decide, by decide, _, _, rfl⟩
set_option maxRecDepth 100000 in
theorem cv_L_144 : Cv RL 144 miX12_lone 1 12 := ⟨t_1654, t_1655, t_1656, t_101, t_1657, ⟨by decide +kernel, by decide +kernel, by decide +kernel⟩, by decide, by decide, _, _, rfl⟩
set_option maxRecDepth 100000 in
theorem cv_L_145 : Cv RL 145 miX11_liar 0 11 := ⟨t_931, t_932, t_933, t_89, t_934, ⟨by decide +kernel, by decide +kernel, by decide +kernel⟩, by decide, by decide, _, _, rfl⟩
set_option maxRecDepth 100000 in
theorem cv_L_148 : Cv RL 148 miX12_liar 0 12 := ⟨t_1666, t_1667, t_1668, t_101, t_1669, ⟨by decide +kernel, by decide +kernel, by decide +kernel⟩, by decide, by decide, _, _, rfl⟩
set_option maxRecDepth 100000 in
theorem cv_L_149 : Cv RL 149 miX11_seed 1 11 := ⟨t_941, t_942, t_943, t_89, t_944, ⟨by decide +kernel, by decide +kernel, by decide +kernel⟩, by decide, by decide, _, _, rfl⟩
set_option maxRecDepth 100000 in
theorem cv_L_152 : Cv RL 152 miX12_seed 1 12 := ⟨t_1670, t_1671, t_1672, t_101, t_1673, ⟨by decide +kernel, by decide +kernel, by decide +kernel⟩, by decide, by decide, _, _, rfl⟩
set_option maxRecDepth 100000 in
theorem cv_L_153 : Cv RL 153 miX11_lot 0 11 := ⟨t_945, t_946, t_947, t_89, t_948, ⟨by decide +kernel, by decide +kernel, by decide +kernel⟩, by decide, by decide, _, _, rfl⟩
set_option maxRecDepth 100000 in
theorem cv_L_156 : Cv RL 156 miX12_lot 0 12 := ⟨t_1674, t_1675, t_1676, t_101, t_1677, ⟨by decide +kernel, by decide +kernel, by decide +kernel⟩, by decide, by decide, _, _, rfl⟩
set_option maxRecDepth 100000 in
theorem cv_L_157 : Cv RL 157 miX11_times 2 11 := ⟨t_957, t_958, t_959, t_89, t_960, ⟨by decide +kernel, by decide +kernel, by decide +kernel⟩, by decide, by decide, _, _, rfl⟩
set_option maxRecDepth 100000 in
theorem cv_L_160 : Cv RL 160 miX12_times 2 12 := ⟨t_1683, t_1684, t_1685, t_101, t_1686, ⟨by decide +kernel, by decide +kernel, by decide +kernel⟩, by decide, by decide, _, _, rfl⟩
set_option maxRecDepth 100000 in
theorem cv_L_161 : Cv RL 161 miX11_prove 1 11 := ⟨t_961, t_962, t_963, t_89, t_964, ⟨by decide +kernel, by decide +kernel, by decide +kernel⟩, by decide, by decide, _, _, rfl⟩
set_option maxRecDepth 100000 in
theorem cv_L_164 : Cv RL 164 miX12_prove 1 12 := ⟨t_1689, t_1690, t_1691, t_101, t_1692, ⟨by decide +kernel, by decide +kernel, by decide +kernel⟩, by decide, by decide, _, _, rfl⟩
set_option maxRecDepth 100000 in
theorem cv_L_165 : Cv RL 165 miX11_row 2 11 := ⟨t_965, t_966, t_967, t_89, t_968, ⟨by decide +kernel, by decide +kernel, by decide +kernel⟩, by decide, by decide, _, _, rfl⟩
set_option maxRecDepth 100000 in
theorem cv_L_168 : Cv RL 168 miX12_row 2 12 := ⟨t_1693, t_1694, t_1695, t_101, t_1696, ⟨by decide +kernel, by decide +kernel, by decide +kernel⟩, by decide, by decide, _, _, rfl⟩
set_option maxRecDepth 100000 in
theorem cv_L_169 : Cv RL 169 miX11_alterRow 3 11 := ⟨t_973, t_974, t_975, t_89, t_976, ⟨by decide +kernel, by decide +kernel, by decide +kernel⟩, by decide, by decide, _, _, rfl⟩
set_option maxRecDepth 100000 in
theorem cv_L_172 : Cv RL 172 miX12_alterRow 3 12 := ⟨t_1698, t_1699, t_1700, t_101, t_1701, ⟨by decide +kernel, by decide +kernel, by decide +kernel⟩, by decide, by decide, _, _, rfl⟩
set_option maxRecDepth 100000 in
theorem cv_L_173 : Cv RL 173 miX11_judge 0 11 := ⟨t_977, t_978, t_979, t_89, t_980, ⟨by decide +kernel, by decide +kernel, by decide +kernel⟩, by decide, by decide, _, _, rfl⟩
set_option maxRecDepth 100000 in
theorem cv_L_176 : Cv RL 176 miX12_judge 0 12 := ⟨t_1702, t_1703, t_1704, t_101, t_1705, ⟨by decide +kernel, by decide +kernel, by decide +kernel⟩, by decide, by decide, _, _, rfl⟩
set_option maxRecDepth 100000 in
theorem cv_L_177 : Cv RL 177 miX11_sheet 3 11 := ⟨t_985, t_986, t_987, t_89, t_988, ⟨by decide +kernel, by decide +kernel, by decide +kernel⟩, by decide, by decide, _, _, rfl⟩
set_option maxRecDepth 100000 in
theorem cv_L_180 : Cv RL 180 miX12_sheet 3 12 := ⟨t_1706, t_1707, t_1708, t_101, t_1709, ⟨by decide +kernel, by decide +kernel, by decide +kernel⟩, by decide, by decide, _, _, rfl⟩
set_option maxRecDepth 100000 in
theorem cv_L_181 : Cv RL 181 miX11_write 3 11 := ⟨t_992, t_993, t_994, t_89, t_995, ⟨by decide +kernel, by decide +kernel, by decide +kernel⟩, by decide, by decide, _, _, rfl⟩
set_option maxRecDepth 100000 in
theorem cv_L_184 : Cv RL 184 miX12_write 3 12 := ⟨t_1713, t_1714, t_1715, t_101, t_1716, ⟨by decide +kernel, by decide +kernel, by decide +kernel⟩, by decide, by decide, _, _, rfl⟩
set_option maxRecDepth 100000 in
theorem cv_L_185 : Cv RL 185 miX11_item 3 11 := ⟨t_999, t_1000, t_1001, t_89, t_1002, ⟨by decide +kernel, by decide +kernel, by decide +kernel⟩, by decide, by decide, _, _, rfl⟩
set_option maxRecDepth 100000 in
theorem cv_L_188 : Cv RL 188 miX12_item 3 12 := ⟨t_1717, t_1718, t_1719, t_101, t_1720, ⟨by decide +kernel, by decide +kernel, by decide +kernel⟩, by decide, by decide, _, _, rfl⟩
set_option maxRecDepth 100000 in
theorem cv_L_189 : Cv RL 189 miX11_goAll 3 11 := ⟨t_1007, t_1008, t_1009, t_89, t_1010, ⟨by decide +kernel, by decide +kernel, by decide +kernel⟩, by decide, by decide, _, _, rfl⟩
set_option maxRecDepth 100000 in
theorem cv_L_192 : Cv RL 192 miX12_goAll 3 12 := ⟨t_1721, t_1722, t_1723, t_101, t_1724, ⟨by decide +kernel, by decide +kernel, by decide +kernel⟩, by decide, by decide, _, _, rfl⟩
set_option maxRecDepth 100000 in
theorem cv_L_193 : Cv RL 193 miX11_wouldBe 3 11 := ⟨t_1011, t_1012, t_1013, t_89, t_1014, ⟨by decide +kernel, by decide +kernel, by decide +kernel⟩, by decide, by decide, _, _, rfl⟩
set_option maxRecDepth 100000 in
theorem cv_L_196 : Cv RL 196 miX12_wouldBe 3 12 := ⟨t_1730, t_1731, t_1732, t_101, t_1733, ⟨by decide +kernel, by decide +kernel, by decide +kernel⟩, by decide, by decide, _, _, rfl⟩
set_option maxRecDepth 100000 in
theorem cv_L_197 : Cv RL 197 miX11_shelf 3 11 := ⟨t_1015, t_1016, t_1017, t_89, t_1018, ⟨by decide +kernel, by decide +kernel, by decide +kernel⟩, by decide, by decide, _, _, rfl⟩
set_option maxRecDepth 100000 in
theorem cv_L_200 : Cv RL 200 miX12_shelf 3 12 := ⟨t_1734, t_1735, t_1736, t_101, t_1737, ⟨by decide +kernel, by decide +kernel, by decide +kernel⟩, by decide, by decide, _, _, rfl⟩
set_option maxRecDepth 100000 in
theorem cv_L_201 : Cv RL 201 miX11_taken 2 11 := ⟨t_1030, t_1031, t_1032, t_89, t_1033, ⟨by decide +kernel, by decide +kernel, by decide +kernel⟩, by decide, by decide, _, _, rfl⟩
set_option maxRecDepth 100000 in
theorem cv_L_204 : Cv RL 204 miX12_taken 2 12 := ⟨t_1738, t_1739, t_1740, t_101, t_1741, ⟨by decide +kernel, by decide +kernel, by decide +kernel⟩, by decide, by decide, _, _, rfl⟩
set_option maxRecDepth 100000 in
theorem cv_L_205 : Cv RL 205 miX11_act 3 11 := ⟨t_1039, t_1040, t_1041, t_89, t_1042, ⟨by decide +kernel, by decide +kernel, by decide +kernel⟩, by decide, by decide, _, _, rfl⟩
set_option maxRecDepth 100000 in
theorem cv_L_208 : Cv RL 208 miX12_act 3 12 := ⟨t_1747, t_1748, t_1749, t_101, t_1750, ⟨by decide +kernel, by decide +kernel, by decide +kernel⟩, by decide, by decide, _, _, rfl⟩
set_option maxRecDepth 100000 in
theorem cv_L_209 : Cv RL 209 miX11_trace 1 11 := ⟨t_1133, t_1134, t_1135, t_89, t_1136, ⟨by decide +kernel, by decide +kernel, by decide +kernel⟩, by decide, by decide, _, _, rfl⟩
set_option maxRecDepth 100000 in
theorem cv_L_212 : Cv RL 212 miX12_trace 1 12 := ⟨t_1771, t_1772, t_1773, t_101, t_1774, ⟨by decide +kernel, by decide +kernel, by decide +kernel⟩, by decide, by decide, _, _, rfl⟩
set_option maxRecDepth 100000 in
theorem cv_L_213 : Cv RL 213 miX11_many 1 11 := ⟨t_1137, t_1138, t_1139, t_89, t_1140, ⟨by decide +kernel, by decide +kernel, by decide +kernel⟩, by decide, by decide, _, _, rfl⟩
set_option maxRecDepth 100000 in
theorem cv_L_216 : Cv RL 216 miX12_many 1 12 := ⟨t_1775, t_1776, t_1777, t_101, t_1778, ⟨by decide +kernel, by decide +kernel, by decide +kernel⟩, by decide, by decide, _, _, rfl⟩
set_option maxRecDepth 100000 in
theorem cv_L_217 : Cv RL 217 miX11_keep 0 11 := ⟨t_1141, t_1142, t_1143, t_89, t_1144, ⟨by decide +kernel, by decide +kernel, by decide +kernel⟩, by decide, by decide, _, _, rfl⟩
set_option maxRecDepth 100000 in
theorem cv_L_220 : Cv RL 220 miX12_keep 0 12 := ⟨t_1782, t_1783, t_1784, t_101, t_1785, ⟨by decide +kernel, by decide +kernel, by decide +kernel⟩, by decide, by decide, _, _, rfl⟩
set_option maxRecDepth 100000 in
theorem cv_L_221 : Cv RL 221 miX11_again 0 11 := ⟨t_1155, t_1156, t_1157, t_89, t_1158, ⟨by decide +kernel, by decide +kernel, by decide +kernel⟩, by decide, by decide, _, _, rfl⟩
set_option maxRecDepth 100000 in
theorem cv_L_224 : Cv RL 224 miX12_again 0 12 := ⟨t_1786, t_1787, t_1788, t_101, t_1789, ⟨by decide +kernel, by decide +kernel, by decide +kernel⟩, by decide, by decide, _, _, rfl⟩
