theorem q_286 : Cond.methodLink RL 13 yX6_row ∈ oh_t := oh_of (i := 286) (by decide +kernel) rfl
theorem q_287 : Cond.instanceMethod yX6_row ∈ oh_t := oh_of (i := 287) (by decide +kernel) rfl
theorem q_288 : Cond.selects RX6 yX6_row yX6_row ∈ oh_t := oh_of (i := 288) (by decide +kernel) rfl
theorem q_289 : Cond.code yX6_row cX6_row 4 (some .int) ∈ oh_t := oh_of (i := 289) (by decide +kernel) rfl
theorem q_304 : Cond.methodLink RL 20 yX6_set ∈ oh_t := oh_of (i := 304) (by decide +kernel) rfl
theorem q_305 : Cond.instanceMethod yX6_set ∈ oh_t := oh_of (i := 305) (by decide +kernel) rfl
theorem q_306 : Cond.selects RX6 yX6_set yX6_set ∈ oh_t := oh_of (i := 306) (by decide +kernel) rfl
theorem q_307 : Cond.code yX6_set cX6_set 6 (some .int) ∈ oh_t := oh_of (i := 307) (by decide +kernel) rfl
theorem q_327 : Cond.methodLink RL 25 yX6_copy ∈ oh_t := oh_of (i := 327) (by decide +kernel) rfl
theorem q_328 : Cond.instanceMethod yX6_copy ∈ oh_t := oh_of (i := 328) (by decide +kernel) rfl
theorem q_329 : Cond.selects RX6 yX6_copy yX6_copy ∈ oh_t := oh_of (i := 329) (by decide +kernel) rfl
theorem q_330 : Cond.code yX6_copy cX6_copy 6 (some .int) ∈ oh_t := oh_of (i := 330) (by decide +kernel) rfl
theorem q_348 : Cond.methodLink RL 30 yX6_element ∈ oh_t := oh_of (i := 348) (by decide +kernel) rfl
theorem q_349 : Cond.instanceMethod yX6_element ∈ oh_t := oh_of (i := 349) (by decide +kernel) rfl
theorem q_350 : Cond.selects RX6 yX6_element yX6_element ∈ oh_t := oh_of (i := 350) (by decide +kernel) rfl
theorem q_351 : Cond.code yX6_element cX6_element 3 (some .long) ∈ oh_t := oh_of (i := 351) (by decide +kernel) rfl
theorem q_358 : Cond.methodLink RL 35 yX6_holds ∈ oh_t := oh_of (i := 358) (by decide +kernel) rfl
theorem q_359 : Cond.instanceMethod yX6_holds ∈ oh_t := oh_of (i := 359) (by decide +kernel) rfl
theorem q_360 : Cond.selects RX6 yX6_holds yX6_holds ∈ oh_t := oh_of (i := 360) (by decide +kernel) rfl
theorem q_361 : Cond.code yX6_holds cX6_holds 2 (some .int) ∈ oh_t := oh_of (i := 361) (by decide +kernel) rfl
theorem q_362 : Cond.methodLink RL 40 yX6_show ∈ oh_t := oh_of (i := 362) (by decide +kernel) rfl
theorem q_363 : Cond.instanceMethod yX6_show ∈ oh_t := oh_of (i := 363) (by decide +kernel) rfl
theorem q_364 : Cond.selects RX6 yX6_show yX6_show ∈ oh_t := oh_of (i := 364) (by decide +kernel) rfl
theorem q_365 : Cond.code yX6_show cX6_show 3 (some .int) ∈ oh_t := oh_of (i := 365) (by decide +kernel) rfl
theorem q_374 : Cond.methodLink RL 45 yX6_says ∈ oh_t := oh_of (i := 374) (by decide +kernel) rfl
theorem q_375 : Cond.instanceMethod yX6_says ∈ oh_t := oh_of (i := 375) (by decide +kernel) rfl
theorem q_376 : Cond.selects RX6 yX6_says yX6_says ∈ oh_t := oh_of (i := 376) (by decide +kernel) rfl
theorem q_377 : Cond.code yX6_says cX6_says 4 (some .int) ∈ oh_t := oh_of (i := 377) (by decide +kernel) rfl
theorem q_409 : Cond.methodLink RL 49 yX6_road ∈ oh_t := oh_of (i := 409) (by decide +kernel) rfl
theorem q_410 : Cond.instanceMethod yX6_road ∈ oh_t := oh_of (i := 410) (by decide +kernel) rfl
theorem q_411 : Cond.selects RX6 yX6_road yX6_road ∈ oh_t := oh_of (i := 411) (by decide +kernel) rfl
theorem q_412 : Cond.code yX6_road cX6_road 7 (some .int) ∈ oh_t := oh_of (i := 412) (by decide +kernel) rfl
theorem q_424 : Cond.methodLink RL 54 yX6_bridge ∈ oh_t := oh_of (i := 424) (by decide +kernel) rfl
theorem q_425 : Cond.instanceMethod yX6_bridge ∈ oh_t := oh_of (i := 425) (by decide +kernel) rfl
theorem q_426 : Cond.selects RX6 yX6_bridge yX6_bridge ∈ oh_t := oh_of (i := 426) (by decide +kernel) rfl
theorem q_427 : Cond.code yX6_bridge cX6_bridge 6 (some .int) ∈ oh_t := oh_of (i := 427) (by decide +kernel) rfl
theorem q_436 : Cond.methodLink RL 58 yX6_prop ∈ oh_t := oh_of (i := 436) (by decide +kernel) rfl
theorem q_437 : Cond.instanceMethod yX6_prop ∈ oh_t := oh_of (i := 437) (by decide +kernel) rfl
theorem q_438 : Cond.selects RX6 yX6_prop yX6_prop ∈ oh_t := oh_of (i := 438) (by decide +kernel) rfl
theorem q_439 : Cond.code yX6_prop cX6_prop 4 (some .int) ∈ oh_t := oh_of (i := 439) (by decide +kernel) rfl
theorem q_448 : Cond.methodLink RL 62 yX6_waggon ∈ oh_t := oh_of (i := 448) (by decide +kernel) rfl
theorem q_449 : Cond.instanceMethod yX6_waggon ∈ oh_t := oh_of (i := 449) (by decide +kernel) rfl
theorem q_450 : Cond.selects RX6 yX6_waggon yX6_waggon ∈ oh_t := oh_of (i := 450) (by decide +kernel) rfl
theorem q_451 : Cond.code yX6_waggon cX6_waggon 4 (some .int) ∈ oh_t := oh_of (i := 451) (by decide +kernel) rfl
theorem q_456 : Cond.methodLink RL 66 yX6_part ∈ oh_t := oh_of (i := 456) (by decide +kernel) rfl
theorem q_457 : Cond.instanceMethod yX6_part ∈ oh_t := oh_of (i := 457) (by decide +kernel) rfl
theorem q_458 : Cond.selects RX6 yX6_part yX6_part ∈ oh_t := oh_of (i := 458) (by decide +kernel) rfl
theorem q_459 : Cond.code yX6_part cX6_part 3 (some .int) ∈ oh_t := oh_of (i := 459) (by decide +kernel) rfl
theorem q_464 : Cond.methodLink RL 70 yX6_ask ∈ oh_t := oh_of (i := 464) (by decide +kernel) rfl
theorem q_465 : Cond.instanceMethod yX6_ask ∈ oh_t := oh_of (i := 465) (by decide +kernel) rfl
theorem q_466 : Cond.selects RX6 yX6_ask yX6_ask ∈ oh_t := oh_of (i := 466) (by decide +kernel) rfl
theorem q_467 : Cond.code yX6_ask cX6_ask 4 (some .int) ∈ oh_t := oh_of (i := 467) (by decide +kernel) rfl
theorem q_470 : Cond.methodLink RL 74 yX6_stand ∈ oh_t := oh_of (i := 470) (by decide +kernel) rfl
theorem q_471 : Cond.instanceMethod yX6_stand ∈ oh_t := oh_of (i := 471) (by decide +kernel) rfl
theorem q_472 : Cond.selects RX6 yX6_stand yX6_stand ∈ oh_t := oh_of (i := 472) (by decide +kernel) rfl
theorem q_473 : Cond.code yX6_stand cX6_stand 6 (some .int) ∈ oh_t := oh_of (i := 473) (by decide +kernel) rfl
theorem q_475 : Cond.methodLink RL 79 yX6_shut ∈ oh_t := oh_of (i := 475) (by decide +kernel) rfl
theorem q_476 : Cond.instanceMethod yX6_shut ∈ oh_t := oh_of (i := 476) (by decide +kernel) rfl
theorem q_477 : Cond.selects RX6 yX6_shut yX6_shut ∈ oh_t := oh_of (i := 477) (by decide +kernel) rfl
theorem q_478 : Cond.code yX6_shut cX6_shut 4 (some .int) ∈ oh_t := oh_of (i := 478) (by decide +kernel) rfl
theorem q_483 : Cond.methodLink RL 84 yX6_feed ∈ oh_t := oh_of (i := 483) (by decide +kernel) rfl
theorem q_484 : Cond.instanceMethod yX6_feed ∈ oh_t := oh_of (i := 484) (by decide +kernel) rfl
theorem q_485 : Cond.selects RX6 yX6_feed yX6_feed ∈ oh_t := oh_of (i := 485) (by decide +kernel) rfl
theorem q_486 : Cond.code yX6_feed cX6_feed 3 (some .int) ∈ oh_t := oh_of (i := 486) (by decide +kernel) rfl
theorem q_491 : Cond.methodLink RL 88 yX6_wipe ∈ oh_t := oh_of (i := 491) (by decide +kernel) rfl
theorem q_492 : Cond.instanceMethod yX6_wipe ∈ oh_t := oh_of (i := 492) (by decide +kernel) rfl
theorem q_493 : Cond.selects RX6 yX6_wipe yX6_wipe ∈ oh_t := oh_of (i := 493) (by decide +kernel) rfl
theorem q_494 : Cond.code yX6_wipe cX6_wipe 2 (some .int) ∈ oh_t := oh_of (i := 494) (by decide +kernel) rfl
theorem q_495 : Cond.methodLink RL 93 yX6_land ∈ oh_t := oh_of (i := 495) (by decide +kernel) rfl
theorem q_496 : Cond.instanceMethod yX6_land ∈ oh_t := oh_of (i := 496) (by decide +kernel) rfl
theorem q_497 : Cond.selects RX6 yX6_land yX6_land ∈ oh_t := oh_of (i := 497) (by decide +kernel) rfl
theorem q_498 : Cond.code yX6_land cX6_land 2 (some .int) ∈ oh_t := oh_of (i := 498) (by decide +kernel) rfl
theorem q_663 : Cond.methodLink RL 97 yX6_roadOf ∈ oh_t := oh_of (i := 663) (by decide +kernel) rfl
theorem q_664 : Cond.instanceMethod yX6_roadOf ∈ oh_t := oh_of (i := 664) (by decide +kernel) rfl
theorem q_665 : Cond.selects RX6 yX6_roadOf yX6_roadOf ∈ oh_t := oh_of (i := 665) (by decide +kernel) rfl
theorem q_666 : Cond.code yX6_roadOf cX6_roadOf 3 (some .int) ∈ oh_t := oh_of (i := 666) (by decide +kernel) rfl
theorem q_667 : Cond.methodLink RL 101 yX6_bridgeOf ∈ oh_t := oh_of (i := 667) (by decide +kernel) rfl
theorem q_668 : Cond.instanceMethod yX6_bridgeOf ∈ oh_t := oh_of (i := 668) (by decide +kernel) rfl
theorem q_669 : Cond.selects RX6 yX6_bridgeOf yX6_bridgeOf ∈ oh_t := oh_of (i := 669) (by decide +kernel) rfl
theorem q_670 : Cond.code yX6_bridgeOf cX6_bridgeOf 3 (some .int) ∈ oh_t := oh_of (i := 670) (by decide +kernel) rfl
theorem q_671 : Cond.methodLink RL 105 yX6_bears ∈ oh_t := oh_of (i := 671) (by decide +kernel) rfl
theorem q_672 : Cond.instanceMethod yX6_bears ∈ oh_t := oh_of (i := 672) (by decide +kernel) rfl
theorem q_673 : Cond.selects RX6 yX6_bears yX6_bears ∈ oh_t := oh_of (i := 673) (by decide +kernel) rfl
theorem q_674 : Cond.code yX6_bears cX6_bears 3 (some .int) ∈ oh_t := oh_of (i := 674) (by decide +kernel) rfl
theorem q_675 : Cond.methodLink RL 109 yX6_length ∈ oh_t := oh_of (i := 675) (by decide +kernel) rfl
theorem q_676 : Cond.instanceMethod yX6_length ∈ oh_t := oh_of (i := 676) (by decide +kernel) rfl
theorem q_677 : Cond.selects RX6 yX6_length yX6_length ∈ oh_t := oh_of (i := 677) (by decide +kernel) rfl
theorem q_678 : Cond.code yX6_length cX6_length 2 (some .int) ∈ oh_t := oh_of (i := 678) (by decide +kernel) rfl
theorem q_691 : Cond.methodLink RL 113 yX6_axle ∈ oh_t := oh_of (i := 691) (by decide +kernel) rfl
theorem q_692 : Cond.instanceMethod yX6_axle ∈ oh_t := oh_of (i := 692) (by decide +kernel) rfl
theorem q_693 : Cond.selects RX6 yX6_axle yX6_axle ∈ oh_t := oh_of (i := 693) (by decide +kernel) rfl
theorem q_694 : Cond.code yX6_axle cX6_axle 3 (some .int) ∈ oh_t := oh_of (i := 694) (by decide +kernel) rfl
theorem q_719 : Cond.methodLink RL 117 yX6_strain ∈ oh_t := oh_of (i := 719) (by decide +kernel) rfl
theorem q_720 : Cond.instanceMethod yX6_strain ∈ oh_t := oh_of (i := 720) (by decide +kernel) rfl
theorem q_721 : Cond.selects RX6 yX6_strain yX6_strain ∈ oh_t := oh_of (i := 721) (by decide +kernel) rfl
theorem q_722 : Cond.code yX6_strain cX6_strain 4 (some .int) ∈ oh_t := oh_of (i := 722) (by decide +kernel) rfl
theorem q_733 : Cond.methodLink RL 121 yX6_needs ∈ oh_t := oh_of (i := 733) (by decide +kernel) rfl
theorem q_734 : Cond.instanceMethod yX6_needs ∈ oh_t := oh_of (i := 734) (by decide +kernel) rfl
theorem q_735 : Cond.selects RX6 yX6_needs yX6_needs ∈ oh_t := oh_of (i := 735) (by decide +kernel) rfl
theorem q_736 : Cond.code yX6_needs cX6_needs 4 (some .int) ∈ oh_t := oh_of (i := 736) (by decide +kernel) rfl
theorem q_746 : Cond.methodLink RL 125 yX6_goes ∈ oh_t := oh_of (i := 746) (by decide +kernel) rfl
theorem q_747 : Cond.instanceMethod yX6_goes ∈ oh_t := oh_of (i := 747) (by decide +kernel) rfl
theorem q_748 : Cond.selects RX6 yX6_goes yX6_goes ∈ oh_t := oh_of (i := 748) (by decide +kernel) rfl
theorem q_749 : Cond.code yX6_goes cX6_goes 5 (some .int) ∈ oh_t := oh_of (i := 749) (by decide +kernel) rfl
theorem q_772 : Cond.methodLink RL 130 yX6_cheapest ∈ oh_t := oh_of (i := 772) (by decide +kernel) rfl
theorem q_773 : Cond.instanceMethod yX6_cheapest ∈ oh_t := oh_of (i := 773) (by decide +kernel) rfl
theorem q_774 : Cond.selects RX6 yX6_cheapest yX6_cheapest ∈ oh_t := oh_of (i := 774) (by decide +kernel) rfl
theorem q_775 : Cond.code yX6_cheapest cX6_cheapest 5 (some .int) ∈ oh_t := oh_of (i := 775) (by decide +kernel) rfl
theorem q_804 : Cond.methodLink RL 134 yX6_soonest ∈ oh_t := oh_of (i := 804) (by decide +kernel) rfl
theorem q_805 : Cond.instanceMethod yX6_soonest ∈ oh_t := oh_of (i := 805) (by decide +kernel) rfl
theorem q_806 : Cond.selects RX6 yX6_soonest yX6_soonest ∈ oh_t := oh_of (i := 806) (by decide +kernel) rfl
theorem q_807 : Cond.code yX6_soonest cX6_soonest 5 (some .int) ∈ oh_t := oh_of (i := 807) (by decide +kernel) rfl
theorem q_813 : Cond.methodLink RL 138 yX6_again ∈ oh_t := oh_of (i := 813) (by decide +kernel) rfl
theorem q_814 : Cond.instanceMethod yX6_again ∈ oh_t := oh_of (i := 814) (by decide +kernel) rfl
theorem q_815 : Cond.selects RX6 yX6_again yX6_again ∈ oh_t := oh_of (i := 815) (by decide +kernel) rfl
theorem q_816 : Cond.code yX6_again cX6_again 6 (some .int) ∈ oh_t := oh_of (i := 816) (by decide +kernel) rfl
theorem q_817 : Cond.methodLink RL 142 yX6_best ∈ oh_t := oh_of (i := 817) (by decide +kernel) rfl
theorem q_818 : Cond.instanceMethod yX6_best ∈ oh_t := oh_of (i := 818) (by decide +kernel) rfl
theorem q_819 : Cond.selects RX6 yX6_best yX6_best ∈ oh_t := oh_of (i := 819) (by decide +kernel) rfl
theorem q_820 : Cond.code yX6_best cX6_best 4 (some .int) ∈ oh_t := oh_of (i := 820) (by decide +kernel) rfl
theorem q_826 : Cond.methodLink RL 146 yX6_judge ∈ oh_t := oh_of (i := 826) (by decide +kernel) rfl
theorem q_827 : Cond.instanceMethod yX6_judge ∈ oh_t := oh_of (i := 827) (by decide +kernel) rfl
theorem q_828 : Cond.selects RX6 yX6_judge yX6_judge ∈ oh_t := oh_of (i := 828) (by decide +kernel) rfl
theorem q_829 : Cond.code yX6_judge cX6_judge 7 (some .int) ∈ oh_t := oh_of (i := 829) (by decide +kernel) rfl
theorem q_850 : Cond.methodLink RL 150 yX6_told ∈ oh_t := oh_of (i := 850) (by decide +kernel) rfl
theorem q_851 : Cond.instanceMethod yX6_told ∈ oh_t := oh_of (i := 851) (by decide +kernel) rfl
theorem q_852 : Cond.selects RX6 yX6_told yX6_told ∈ oh_t := oh_of (i := 852) (by decide +kernel) rfl
theorem q_853 : Cond.code yX6_told cX6_told 8 (some .int) ∈ oh_t := oh_of (i := 853) (by decide +kernel) rfl
theorem q_860 : Cond.methodLink RL 154 yX6_reach ∈ oh_t := oh_of (i := 860) (by decide +kernel) rfl
theorem q_861 : Cond.instanceMethod yX6_reach ∈ oh_t := oh_of (i := 861) (by decide +kernel) rfl
theorem q_862 : Cond.selects RX6 yX6_reach yX6_reach ∈ oh_t := oh_of (i := 862) (by decide +kernel) rfl
theorem q_863 : Cond.code yX6_reach cX6_reach 4 (some .int) ∈ oh_t := oh_of (i := 863) (by decide +kernel) rfl
theorem q_868 : Cond.methodLink RL 158 yX6_hang ∈ oh_t := oh_of (i := 868) (by decide +kernel) rfl
theorem q_869 : Cond.instanceMethod yX6_hang ∈ oh_t := oh_of (i := 869) (by decide +kernel) rfl
theorem q_870 : Cond.selects RX6 yX6_hang yX6_hang ∈ oh_t := oh_of (i := 870) (by decide +kernel) rfl
theorem q_871 : Cond.code yX6_hang cX6_hang 9 (some .int) ∈ oh_t := oh_of (i := 871) (by decide +kernel) rfl
theorem q_876 : Cond.methodLink RL 162 yX6_fewest ∈ oh_t := oh_of (i := 876) (by decide +kernel) rfl
theorem q_877 : Cond.instanceMethod yX6_fewest ∈ oh_t := oh_of (i := 877) (by decide +kernel) rfl
theorem q_878 : Cond.selects RX6 yX6_fewest yX6_fewest ∈ oh_t := oh_of (i := 878) (by decide +kernel) rfl
theorem q_879 : Cond.code yX6_fewest cX6_fewest 7 (some .int) ∈ oh_t := oh_of (i := 879) (by decide +kernel) rfl
theorem q_885 : Cond.methodLink RL 166 yX6_most ∈ oh_t := oh_of (i := 885) (by decide +kernel) rfl
theorem q_886 : Cond.instanceMethod yX6_most ∈ oh_t := oh_of (i := 886) (by decide +kernel) rfl
theorem q_887 : Cond.selects RX6 yX6_most yX6_most ∈ oh_t := oh_of (i := 887) (by decide +kernel) rfl
theorem q_888 : Cond.code yX6_most cX6_most 6 (some .int) ∈ oh_t := oh_of (i := 888) (by decide +kernel) rfl
theorem q_893 : Cond.methodLink RL 170 yX6_frost ∈ oh_t := oh_of (i := 893) (by decide +kernel) rfl
theorem q_894 : Cond.instanceMethod yX6_frost ∈ oh_t := oh_of (i := 894) (by decide +kernel) rfl
theorem q_895 : Cond.selects RX6 yX6_frost yX6_frost ∈ oh_t := oh_of (i := 895) (by decide +kernel) rfl
theorem q_896 : Cond.code yX6_frost cX6_frost 11 (some .long) ∈ oh_t := oh_of (i := 896) (by decide +kernel) rfl
theorem q_904 : Cond.methodLink RL 175 yX6_begin ∈ oh_t := oh_of (i := 904) (by decide +kernel) rfl
theorem q_905 : Cond.instanceMethod yX6_begin ∈ oh_t := oh_of (i := 905) (by decide +kernel) rfl
theorem q_906 : Cond.selects RX6 yX6_begin yX6_begin ∈ oh_t := oh_of (i := 906) (by decide +kernel) rfl
theorem q_907 : Cond.code yX6_begin cX6_begin 5 (some .int) ∈ oh_t := oh_of (i := 907) (by decide +kernel) rfl
theorem q_912 : Cond.methodLink RL 179 yX6_step ∈ oh_t := oh_of (i := 912) (by decide +kernel) rfl
theorem q_913 : Cond.instanceMethod yX6_step ∈ oh_t := oh_of (i := 913) (by decide +kernel) rfl
theorem q_914 : Cond.selects RX6 yX6_step yX6_step ∈ oh_t := oh_of (i := 914) (by decide +kernel) rfl
theorem q_915 : Cond.code yX6_step cX6_step 3 (some .int) ∈ oh_t := oh_of (i := 915) (by decide +kernel) rfl
theorem q_929 : Cond.methodLink RL 183 yX6_under ∈ oh_t := oh_of (i := 929) (by decide +kernel) rfl
theorem q_930 : Cond.instanceMethod yX6_under ∈ oh_t := oh_of (i := 930) (by decide +kernel) rfl
theorem q_931 : Cond.selects RX6 yX6_under yX6_under ∈ oh_t := oh_of (i := 931) (by decide +kernel) rfl
theorem q_932 : Cond.code yX6_under cX6_under 2 (some .int) ∈ oh_t := oh_of (i := 932) (by decide +kernel) rfl
theorem q_933 : Cond.methodLink RL 187 yX6_image ∈ oh_t := oh_of (i := 933) (by decide +kernel) rfl
theorem q_934 : Cond.instanceMethod yX6_image ∈ oh_t := oh_of (i := 934) (by decide +kernel) rfl
theorem q_935 : Cond.selects RX6 yX6_image yX6_image ∈ oh_t := oh_of (i := 935) (by decide +kernel) rfl
theorem q_936 : Cond.code yX6_image cX6_image 1 (some .int) ∈ oh_t := oh_of (i := 936) (by decide +kernel) rfl
theorem q_942 : Cond.methodLink RL 191 yX6_back ∈ oh_t := oh_of (i := 942) (by decide +kernel) rfl
theorem q_943 : Cond.instanceMethod yX6_back ∈ oh_t := oh_of (i := 943) (by decide +kernel) rfl
theorem q_944 : Cond.selects RX6 yX6_back yX6_back ∈ oh_t := oh_of (i := 944) (by decide +kernel) rfl
theorem q_945 : Cond.code yX6_back cX6_back 1 (some .int) ∈ oh_t := oh_of (i := 945) (by decide +kernel) rfl
theorem q_951 : Cond.methodLink RL 195 yX6_status ∈ oh_t := oh_of (i := 951) (by decide +kernel) rfl
theorem q_952 : Cond.instanceMethod yX6_status ∈ oh_t := oh_of (i := 952) (by decide +kernel) rfl
theorem q_953 : Cond.selects RX6 yX6_status yX6_status ∈ oh_t := oh_of (i := 953) (by decide +kernel) rfl
theorem q_954 : Cond.code yX6_status cX6_status 2 (some .int) ∈ oh_t := oh_of (i := 954) (by decide +kernel) rfl
theorem q_1061 : Cond.methodLink RL 17 yX7_row ∈ oh_t := oh_of (i := 1061) (by decide +kernel) rfl
theorem q_1062 : Cond.instanceMethod yX7_row ∈ oh_t := oh_of (i := 1062) (by decide +kernel) rfl
theorem q_1063 : Cond.selects RX7 yX7_row yX7_row ∈ oh_t := oh_of (i := 1063) (by decide +kernel) rfl
theorem q_1064 : Cond.code yX7_row cX7_row 5 (some .int) ∈ oh_t := oh_of (i := 1064) (by decide +kernel) rfl
theorem q_1075 : Cond.methodLink RL 24 yX7_set ∈ oh_t := oh_of (i := 1075) (by decide +kernel) rfl
theorem q_1076 : Cond.instanceMethod yX7_set ∈ oh_t := oh_of (i := 1076) (by decide +kernel) rfl
theorem q_1077 : Cond.selects RX7 yX7_set yX7_set ∈ oh_t := oh_of (i := 1077) (by decide +kernel) rfl
theorem q_1078 : Cond.code yX7_set cX7_set 5 (some .int) ∈ oh_t := oh_of (i := 1078) (by decide +kernel) rfl
theorem q_1082 : Cond.methodLink RL 29 yX7_copy ∈ oh_t := oh_of (i := 1082) (by decide +kernel) rfl
theorem q_1083 : Cond.instanceMethod yX7_copy ∈ oh_t := oh_of (i := 1083) (by decide +kernel) rfl
theorem q_1084 : Cond.selects RX7 yX7_copy yX7_copy ∈ oh_t := oh_of (i := 1084) (by decide +kernel) rfl
theorem q_1085 : Cond.code yX7_copy cX7_copy 7 (some .int) ∈ oh_t := oh_of (i := 1085) (by decide +kernel) rfl
theorem q_1086 : Cond.methodLink RL 34 yX7_element ∈ oh_t := oh_of (i := 1086) (by decide +kernel) rfl
theorem q_1087 : Cond.instanceMethod yX7_element ∈ oh_t := oh_of (i := 1087) (by decide +kernel) rfl
theorem q_1088 : Cond.selects RX7 yX7_element yX7_element ∈ oh_t := oh_of (i := 1088) (by decide +kernel) rfl
theorem q_1089 : Cond.code yX7_element cX7_element 3 (some .long) ∈ oh_t := oh_of (i := 1089) (by decide +kernel) rfl
theorem q_1090 : Cond.methodLink RL 39 yX7_holds ∈ oh_t := oh_of (i := 1090) (by decide +kernel) rfl
theorem q_1091 : Cond.instanceMethod yX7_holds ∈ oh_t := oh_of (i := 1091) (by decide +kernel) rfl
theorem q_1092 : Cond.selects RX7 yX7_holds yX7_holds ∈ oh_t := oh_of (i := 1092) (by decide +kernel) rfl
theorem q_1093 : Cond.code yX7_holds cX7_holds 2 (some .int) ∈ oh_t := oh_of (i := 1093) (by decide +kernel) rfl
theorem q_1094 : Cond.methodLink RL 44 yX7_show ∈ oh_t := oh_of (i := 1094) (by decide +kernel) rfl
theorem q_1095 : Cond.instanceMethod yX7_show ∈ oh_t := oh_of (i := 1095) (by decide +kernel) rfl
theorem q_1096 : Cond.selects RX7 yX7_show yX7_show ∈ oh_t := oh_of (i := 1096) (by decide +kernel) rfl
theorem q_1097 : Cond.code yX7_show cX7_show 3 (some .int) ∈ oh_t := oh_of (i := 1097) (by decide +kernel) rfl
theorem q_1102 : Cond.methodLink RL 48 yX7_says ∈ oh_t := oh_of (i := 1102) (by decide +kernel) rfl
theorem q_1103 : Cond.instanceMethod yX7_says ∈ oh_t := oh_of (i := 1103) (by decide +kernel) rfl
theorem q_1104 : Cond.selects RX7 yX7_says yX7_says ∈ oh_t := oh_of (i := 1104) (by decide +kernel) rfl
theorem q_1105 : Cond.code yX7_says cX7_says 4 (some .int) ∈ oh_t := oh_of (i := 1105) (by decide +kernel) rfl
theorem q_1126 : Cond.methodLink RL 53 yX7_road ∈ oh_t := oh_of (i := 1126) (by decide +kernel) rfl
theorem q_1127 : Cond.instanceMethod yX7_road ∈ oh_t := oh_of (i := 1127) (by decide +kernel) rfl
theorem q_1128 : Cond.selects RX7 yX7_road yX7_road ∈ oh_t := oh_of (i := 1128) (by decide +kernel) rfl
theorem q_1129 : Cond.code yX7_road cX7_road 8 (some .int) ∈ oh_t := oh_of (i := 1129) (by decide +kernel) rfl
theorem q_1141 : Cond.methodLink RL 57 yX7_bridge ∈ oh_t := oh_of (i := 1141) (by decide +kernel) rfl
theorem q_1142 : Cond.instanceMethod yX7_bridge ∈ oh_t := oh_of (i := 1142) (by decide +kernel) rfl
theorem q_1143 : Cond.selects RX7 yX7_bridge yX7_bridge ∈ oh_t := oh_of (i := 1143) (by decide +kernel) rfl
theorem q_1144 : Cond.code yX7_bridge cX7_bridge 6 (some .int) ∈ oh_t := oh_of (i := 1144) (by decide +kernel) rfl
theorem q_1154 : Cond.methodLink RL 61 yX7_prop ∈ oh_t := oh_of (i := 1154) (by decide +kernel) rfl
theorem q_1155 : Cond.instanceMethod yX7_prop ∈ oh_t := oh_of (i := 1155) (by decide +kernel) rfl
theorem q_1156 : Cond.selects RX7 yX7_prop yX7_prop ∈ oh_t := oh_of (i := 1156) (by decide +kernel) rfl
theorem q_1157 : Cond.code yX7_prop cX7_prop 4 (some .int) ∈ oh_t := oh_of (i := 1157) (by decide +kernel) rfl
theorem q_1158 : Cond.methodLink RL 65 yX7_waggon ∈ oh_t := oh_of (i := 1158) (by decide +kernel) rfl
theorem q_1159 : Cond.instanceMethod yX7_waggon ∈ oh_t := oh_of (i := 1159) (by decide +kernel) rfl
theorem q_1160 : Cond.selects RX7 yX7_waggon yX7_waggon ∈ oh_t := oh_of (i := 1160) (by decide +kernel) rfl
theorem q_1161 : Cond.code yX7_waggon cX7_waggon 4 (some .int) ∈ oh_t := oh_of (i := 1161) (by decide +kernel) rfl
theorem q_1164 : Cond.methodLink RL 69 yX7_part ∈ oh_t := oh_of (i := 1164) (by decide +kernel) rfl
theorem q_1165 : Cond.instanceMethod yX7_part ∈ oh_t := oh_of (i := 1165) (by decide +kernel) rfl
theorem q_1166 : Cond.selects RX7 yX7_part yX7_part ∈ oh_t := oh_of (i := 1166) (by decide +kernel) rfl
theorem q_1167 : Cond.code yX7_part cX7_part 3 (some .int) ∈ oh_t := oh_of (i := 1167) (by decide +kernel) rfl
theorem q_1168 : Cond.methodLink RL 73 yX7_ask ∈ oh_t := oh_of (i := 1168) (by decide +kernel) rfl
theorem q_1169 : Cond.instanceMethod yX7_ask ∈ oh_t := oh_of (i := 1169) (by decide +kernel) rfl
theorem q_1170 : Cond.selects RX7 yX7_ask yX7_ask ∈ oh_t := oh_of (i := 1170) (by decide +kernel) rfl
theorem q_1171 : Cond.code yX7_ask cX7_ask 4 (some .int) ∈ oh_t := oh_of (i := 1171) (by decide +kernel) rfl
theorem q_1173 : Cond.methodLink RL 78 yX7_stand ∈ oh_t := oh_of (i := 1173) (by decide +kernel) rfl
theorem q_1174 : Cond.instanceMethod yX7_stand ∈ oh_t := oh_of (i := 1174) (by decide +kernel) rfl
theorem q_1175 : Cond.selects RX7 yX7_stand yX7_stand ∈ oh_t := oh_of (i := 1175) (by decide +kernel) rfl
theorem q_1176 : Cond.code yX7_stand cX7_stand 5 (some .int) ∈ oh_t := oh_of (i := 1176) (by decide +kernel) rfl
theorem q_1177 : Cond.methodLink RL 83 yX7_shut ∈ oh_t := oh_of (i := 1177) (by decide +kernel) rfl
theorem q_1178 : Cond.instanceMethod yX7_shut ∈ oh_t := oh_of (i := 1178) (by decide +kernel) rfl
theorem q_1179 : Cond.selects RX7 yX7_shut yX7_shut ∈ oh_t := oh_of (i := 1179) (by decide +kernel) rfl
theorem q_1180 : Cond.code yX7_shut cX7_shut 4 (some .int) ∈ oh_t := oh_of (i := 1180) (by decide +kernel) rfl
theorem q_1181 : Cond.methodLink RL 87 yX7_feed ∈ oh_t := oh_of (i := 1181) (by decide +kernel) rfl
theorem q_1182 : Cond.instanceMethod yX7_feed ∈ oh_t := oh_of (i := 1182) (by decide +kernel) rfl
theorem q_1183 : Cond.selects RX7 yX7_feed yX7_feed ∈ oh_t := oh_of (i := 1183) (by decide +kernel) rfl
theorem q_1184 : Cond.code yX7_feed cX7_feed 4 (some .int) ∈ oh_t := oh_of (i := 1184) (by decide +kernel) rfl
theorem q_1185 : Cond.methodLink RL 92 yX7_wipe ∈ oh_t := oh_of (i := 1185) (by decide +kernel) rfl
theorem q_1186 : Cond.instanceMethod yX7_wipe ∈ oh_t := oh_of (i := 1186) (by decide +kernel) rfl
theorem q_1187 : Cond.selects RX7 yX7_wipe yX7_wipe ∈ oh_t := oh_of (i := 1187) (by decide +kernel) rfl
theorem q_1188 : Cond.code yX7_wipe cX7_wipe 2 (some .int) ∈ oh_t := oh_of (i := 1188) (by decide +kernel) rfl
theorem q_1189 : Cond.methodLink RL 96 yX7_land ∈ oh_t := oh_of (i := 1189) (by decide +kernel) rfl
theorem q_1190 : Cond.instanceMethod yX7_land ∈ oh_t := oh_of (i := 1190) (by decide +kernel) rfl
theorem q_1191 : Cond.selects RX7 yX7_land yX7_land ∈ oh_t := oh_of (i := 1191) (by decide +kernel) rfl
theorem q_1192 : Cond.code yX7_land cX7_land 8 (some .int) ∈ oh_t := oh_of (i := 1192) (by decide +kernel) rfl
theorem q_1261 : Cond.methodLink RL 100 yX7_roadOf ∈ oh_t := oh_of (i := 1261) (by decide +kernel) rfl
theorem q_1262 : Cond.instanceMethod yX7_roadOf ∈ oh_t := oh_of (i := 1262) (by decide +kernel) rfl
theorem q_1263 : Cond.selects RX7 yX7_roadOf yX7_roadOf ∈ oh_t := oh_of (i := 1263) (by decide +kernel) rfl
theorem q_1264 : Cond.code yX7_roadOf cX7_roadOf 3 (some .int) ∈ oh_t := oh_of (i := 1264) (by decide +kernel) rfl
theorem q_1266 : Cond.methodLink RL 104 yX7_bridgeOf ∈ oh_t := oh_of (i := 1266) (by decide +kernel) rfl
theorem q_1267 : Cond.instanceMethod yX7_bridgeOf ∈ oh_t := oh_of (i := 1267) (by decide +kernel) rfl
theorem q_1268 : Cond.selects RX7 yX7_bridgeOf yX7_bridgeOf ∈ oh_t := oh_of (i := 1268) (by decide +kernel) rfl
theorem q_1269 : Cond.code yX7_bridgeOf cX7_bridgeOf 3 (some .int) ∈ oh_t := oh_of (i := 1269) (by decide +kernel) rfl
theorem q_1270 : Cond.methodLink RL 108 yX7_bears ∈ oh_t := oh_of (i := 1270) (by decide +kernel) rfl
theorem q_1271 : Cond.instanceMethod yX7_bears ∈ oh_t := oh_of (i := 1271) (by decide +kernel) rfl
theorem q_1272 : Cond.selects RX7 yX7_bears yX7_bears ∈ oh_t := oh_of (i := 1272) (by decide +kernel) rfl
theorem q_1273 : Cond.code yX7_bears cX7_bears 3 (some .int) ∈ oh_t := oh_of (i := 1273) (by decide +kernel) rfl
theorem q_1274 : Cond.methodLink RL 112 yX7_length ∈ oh_t := oh_of (i := 1274) (by decide +kernel) rfl
theorem q_1275 : Cond.instanceMethod yX7_length ∈ oh_t := oh_of (i := 1275) (by decide +kernel) rfl
theorem q_1276 : Cond.selects RX7 yX7_length yX7_length ∈ oh_t := oh_of (i := 1276) (by decide +kernel) rfl
theorem q_1277 : Cond.code yX7_length cX7_length 2 (some .int) ∈ oh_t := oh_of (i := 1277) (by decide +kernel) rfl
theorem q_1286 : Cond.methodLink RL 116 yX7_axle ∈ oh_t := oh_of (i := 1286) (by decide +kernel) rfl
theorem q_1287 : Cond.instanceMethod yX7_axle ∈ oh_t := oh_of (i := 1287) (by decide +kernel) rfl
theorem q_1288 : Cond.selects RX7 yX7_axle yX7_axle ∈ oh_t := oh_of (i := 1288) (by decide +kernel) rfl
theorem q_1289 : Cond.code yX7_axle cX7_axle 3 (some .int) ∈ oh_t := oh_of (i := 1289) (by decide +kernel) rfl
theorem q_1298 : Cond.methodLink RL 120 yX7_strain ∈ oh_t := oh_of (i := 1298) (by decide +kernel) rfl
theorem q_1299 : Cond.instanceMethod yX7_strain ∈ oh_t := oh_of (i := 1299) (by decide +kernel) rfl
theorem q_1300 : Cond.selects RX7 yX7_strain yX7_strain ∈ oh_t := oh_of (i := 1300) (by decide +kernel) rfl
theorem q_1301 : Cond.code yX7_strain cX7_strain 4 (some .int) ∈ oh_t := oh_of (i := 1301) (by decide +kernel) rfl
theorem q_1306 : Cond.methodLink RL 124 yX7_needs ∈ oh_t := oh_of (i := 1306) (by decide +kernel) rfl
theorem q_1307 : Cond.instanceMethod yX7_needs ∈ oh_t := oh_of (i := 1307) (by decide +kernel) rfl
theorem q_1308 : Cond.selects RX7 yX7_needs yX7_needs ∈ oh_t := oh_of (i := 1308) (by decide +kernel) rfl
theorem q_1309 : Cond.code yX7_needs cX7_needs 4 (some .int) ∈ oh_t := oh_of (i := 1309) (by decide +kernel) rfl
theorem q_1314 : Cond.methodLink RL 129 yX7_goes ∈ oh_t := oh_of (i := 1314) (by decide +kernel) rfl
theorem q_1315 : Cond.instanceMethod yX7_goes ∈ oh_t := oh_of (i := 1315) (by decide +kernel) rfl
theorem q_1316 : Cond.selects RX7 yX7_goes yX7_goes ∈ oh_t := oh_of (i := 1316) (by decide +kernel) rfl
theorem q_1317 : Cond.code yX7_goes cX7_goes 6 (some .int) ∈ oh_t := oh_of (i := 1317) (by decide +kernel) rfl
theorem q_1338 : Cond.methodLink RL 133 yX7_cheapest ∈ oh_t := oh_of (i := 1338) (by decide +kernel) rfl
theorem q_1339 : Cond.instanceMethod yX7_cheapest ∈ oh_t := oh_of (i := 1339) (by decide +kernel) rfl
theorem q_1340 : Cond.selects RX7 yX7_cheapest yX7_cheapest ∈ oh_t := oh_of (i := 1340) (by decide +kernel) rfl
theorem q_1341 : Cond.code yX7_cheapest cX7_cheapest 5 (some .int) ∈ oh_t := oh_of (i := 1341) (by decide +kernel) rfl
theorem q_1360 : Cond.methodLink RL 137 yX7_soonest ∈ oh_t := oh_of (i := 1360) (by decide +kernel) rfl
theorem q_1361 : Cond.instanceMethod yX7_soonest ∈ oh_t := oh_of (i := 1361) (by decide +kernel) rfl
theorem q_1362 : Cond.selects RX7 yX7_soonest yX7_soonest ∈ oh_t := oh_of (i := 1362) (by decide +kernel) rfl
theorem q_1363 : Cond.code yX7_soonest cX7_soonest 5 (some .int) ∈ oh_t := oh_of (i := 1363) (by decide +kernel) rfl
theorem q_1364 : Cond.methodLink RL 141 yX7_again ∈ oh_t := oh_of (i := 1364) (by decide +kernel) rfl
theorem q_1365 : Cond.methodLink RL 145 yX7_best ∈ oh_t := oh_of (i := 1365) (by decide +kernel) rfl
theorem q_1366 : Cond.instanceMethod yX7_best ∈ oh_t := oh_of (i := 1366) (by decide +kernel) rfl
theorem q_1367 : Cond.selects RX7 yX7_best yX7_best ∈ oh_t := oh_of (i := 1367) (by decide +kernel) rfl
theorem q_1368 : Cond.code yX7_best cX7_best 9 (some .int) ∈ oh_t := oh_of (i := 1368) (by decide +kernel) rfl
theorem q_1369 : Cond.methodLink RL 149 yX7_judge ∈ oh_t := oh_of (i := 1369) (by decide +kernel) rfl
theorem q_1370 : Cond.instanceMethod yX7_judge ∈ oh_t := oh_of (i := 1370) (by decide +kernel) rfl
theorem q_1371 : Cond.selects RX7 yX7_judge yX7_judge ∈ oh_t := oh_of (i := 1371) (by decide +kernel) rfl
theorem q_1372 : Cond.code yX7_judge cX7_judge 7 (some .int) ∈ oh_t := oh_of (i := 1372) (by decide +kernel) rfl
theorem q_1381 : Cond.methodLink RL 153 yX7_told_ ∈ oh_t := oh_of (i := 1381) (by decide +kernel) rfl
theorem q_1382 : Cond.instanceMethod yX7_told_ ∈ oh_t := oh_of (i := 1382) (by decide +kernel) rfl
theorem q_1383 : Cond.selects RX7 yX7_told_ yX7_told_ ∈ oh_t := oh_of (i := 1383) (by decide +kernel) rfl
theorem q_1384 : Cond.code yX7_told_ cX7_told_ 12 (some .int) ∈ oh_t := oh_of (i := 1384) (by decide +kernel) rfl
theorem q_1389 : Cond.methodLink RL 157 yX7_reach ∈ oh_t := oh_of (i := 1389) (by decide +kernel) rfl
theorem q_1390 : Cond.instanceMethod yX7_reach ∈ oh_t := oh_of (i := 1390) (by decide +kernel) rfl
theorem q_1391 : Cond.selects RX7 yX7_reach yX7_reach ∈ oh_t := oh_of (i := 1391) (by decide +kernel) rfl
theorem q_1392 : Cond.code yX7_reach cX7_reach 6 (some .int) ∈ oh_t := oh_of (i := 1392) (by decide +kernel) rfl
theorem q_1393 : Cond.methodLink RL 161 yX7_hang ∈ oh_t := oh_of (i := 1393) (by decide +kernel) rfl
theorem q_1394 : Cond.instanceMethod yX7_hang ∈ oh_t := oh_of (i := 1394) (by decide +kernel) rfl
theorem q_1395 : Cond.selects RX7 yX7_hang yX7_hang ∈ oh_t := oh_of (i := 1395) (by decide +kernel) rfl
theorem q_1396 : Cond.code yX7_hang cX7_hang 13 (some .int) ∈ oh_t := oh_of (i := 1396) (by decide +kernel) rfl
theorem q_1397 : Cond.methodLink RL 165 yX7_fewest ∈ oh_t := oh_of (i := 1397) (by decide +kernel) rfl
theorem q_1398 : Cond.instanceMethod yX7_fewest ∈ oh_t := oh_of (i := 1398) (by decide +kernel) rfl
theorem q_1399 : Cond.selects RX7 yX7_fewest yX7_fewest ∈ oh_t := oh_of (i := 1399) (by decide +kernel) rfl
theorem q_1400 : Cond.code yX7_fewest cX7_fewest 6 (some .int) ∈ oh_t := oh_of (i := 1400) (by decide +kernel) rfl
theorem q_1401 : Cond.methodLink RL 169 yX7_most ∈ oh_t := oh_of (i := 1401) (by decide +kernel) rfl
theorem q_1402 : Cond.instanceMethod yX7_most ∈ oh_t := oh_of (i := 1402) (by decide +kernel) rfl
theorem q_1403 : Cond.selects RX7 yX7_most yX7_most ∈ oh_t := oh_of (i := 1403) (by decide +kernel) rfl
theorem q_1404 : Cond.code yX7_most cX7_most 8 (some .int) ∈ oh_t := oh_of (i := 1404) (by decide +kernel) rfl
theorem q_1405 : Cond.methodLink RL 174 yX7_frost ∈ oh_t := oh_of (i := 1405) (by decide +kernel) rfl
theorem q_1406 : Cond.instanceMethod yX7_frost ∈ oh_t := oh_of (i := 1406) (by decide +kernel) rfl
theorem q_1407 : Cond.selects RX7 yX7_frost yX7_frost ∈ oh_t := oh_of (i := 1407) (by decide +kernel) rfl
theorem q_1408 : Cond.code yX7_frost cX7_frost 19 (some .long) ∈ oh_t := oh_of (i := 1408) (by decide +kernel) rfl
theorem q_1409 : Cond.methodLink RL 178 yX7_begin ∈ oh_t := oh_of (i := 1409) (by decide +kernel) rfl
theorem q_1410 : Cond.instanceMethod yX7_begin ∈ oh_t := oh_of (i := 1410) (by decide +kernel) rfl
theorem q_1411 : Cond.selects RX7 yX7_begin yX7_begin ∈ oh_t := oh_of (i := 1411) (by decide +kernel) rfl
theorem q_1412 : Cond.code yX7_begin cX7_begin 5 (some .int) ∈ oh_t := oh_of (i := 1412) (by decide +kernel) rfl
theorem q_1413 : Cond.methodLink RL 182 yX7_step ∈ oh_t := oh_of (i := 1413) (by decide +kernel) rfl
theorem q_1414 : Cond.instanceMethod yX7_step ∈ oh_t := oh_of (i := 1414) (by decide +kernel) rfl
theorem q_1415 : Cond.selects RX7 yX7_step yX7_step ∈ oh_t := oh_of (i := 1415) (by decide +kernel) rfl
theorem q_1416 : Cond.code yX7_step cX7_step 7 (some .int) ∈ oh_t := oh_of (i := 1416) (by decide +kernel) rfl
theorem q_1417 : Cond.methodLink RL 186 yX7_under ∈ oh_t := oh_of (i := 1417) (by decide +kernel) rfl
theorem q_1418 : Cond.instanceMethod yX7_under ∈ oh_t := oh_of (i := 1418) (by decide +kernel) rfl
theorem q_1419 : Cond.selects RX7 yX7_under yX7_under ∈ oh_t := oh_of (i := 1419) (by decide +kernel) rfl
theorem q_1420 : Cond.code yX7_under cX7_under 2 (some .int) ∈ oh_t := oh_of (i := 1420) (by decide +kernel) rfl
theorem q_1421 : Cond.methodLink RL 190 yX7_image ∈ oh_t := oh_of (i := 1421) (by decide +kernel) rfl
theorem q_1422 : Cond.instanceMethod yX7_image ∈ oh_t := oh_of (i := 1422) (by decide +kernel) rfl
theorem q_1423 : Cond.selects RX7 yX7_image yX7_image ∈ oh_t := oh_of (i := 1423) (by decide +kernel) rfl
theorem q_1424 : Cond.code yX7_image cX7_image 1 (some .int) ∈ oh_t := oh_of (i := 1424) (by decide +kernel) rfl
theorem q_1437 : Cond.methodLink RL 194 yX7_back ∈ oh_t := oh_of (i := 1437) (by decide +kernel) rfl
theorem q_1438 : Cond.instanceMethod yX7_back ∈ oh_t := oh_of (i := 1438) (by decide +kernel) rfl
theorem q_1439 : Cond.selects RX7 yX7_back yX7_back ∈ oh_t := oh_of (i := 1439) (by decide +kernel) rfl
theorem q_1440 : Cond.code yX7_back cX7_back 2 (some .int) ∈ oh_t := oh_of (i := 1440) (by decide +kernel) rfl
theorem q_1441 : Cond.methodLink RL 198 yX7_status ∈ oh_t := oh_of (i := 1441) (by decide +kernel) rfl
theorem q_1442 : Cond.instanceMethod yX7_status ∈ oh_t := oh_of (i := 1442) (by decide +kernel) rfl
theorem q_1443 : Cond.selects RX7 yX7_status yX7_status ∈ oh_t := oh_of (i := 1443) (by decide +kernel) rfl
theorem q_1444 : Cond.code yX7_status cX7_status 4 (some .int) ∈ oh_t := oh_of (i := 1444) (by decide +kernel) rfl
theorem q_1446 : Cond.constantLong RL 18 4294967295 ∈ oh_t := oh_of (i := 1446) (by decide +kernel) rfl
theorem pdVX6_again : yX6_again.cls = RX6 ∧ yX6_again.cls ≠ "java/lang/invoke/MethodHandle" ∧ yX6_again.cls ≠ "java/lang/invoke/VarHandle" ∧ (parseMethodDescriptor yX6_again.desc).map (fun d => d.parameters.length) = some 5 := by decide +kernel
theorem pdVX6_ask : yX6_ask.cls = RX6 ∧ yX6_ask.cls ≠ "java/lang/invoke/MethodHandle" ∧ yX6_ask.cls ≠ "java/lang/invoke/VarHandle" ∧ (parseMethodDescriptor yX6_ask.desc).map (fun d => d.parameters.length) = some 2 := by decide +kernel
theorem pdVX6_axle : yX6_axle.cls = RX6 ∧ yX6_axle.cls ≠ "java/lang/invoke/MethodHandle" ∧ yX6_axle.cls ≠ "java/lang/invoke/VarHandle" ∧ (parseMethodDescriptor yX6_axle.desc).map (fun d => d.parameters.length) = some 2 := by decide +kernel
theorem pdVX6_back : yX6_back.cls = RX6 ∧ yX6_back.cls ≠ "java/lang/invoke/MethodHandle" ∧ yX6_back.cls ≠ "java/lang/invoke/VarHandle" ∧ (parseMethodDescriptor yX6_back.desc).map (fun d => d.parameters.length) = some 0 := by decide +kernel
theorem pdVX6_bears : yX6_bears.cls = RX6 ∧ yX6_bears.cls ≠ "java/lang/invoke/MethodHandle" ∧ yX6_bears.cls ≠ "java/lang/invoke/VarHandle" ∧ (parseMethodDescriptor yX6_bears.desc).map (fun d => d.parameters.length) = some 2 := by decide +kernel
theorem pdVX6_begin : yX6_begin.cls = RX6 ∧ yX6_begin.cls ≠ "java/lang/invoke/MethodHandle" ∧ yX6_begin.cls ≠ "java/lang/invoke/VarHandle" ∧ (parseMethodDescriptor yX6_begin.desc).map (fun d => d.parameters.length) = some 4 := by decide +kernel
theorem pdVX6_best : yX6_best.cls = RX6 ∧ yX6_best.cls ≠ "java/lang/invoke/MethodHandle" ∧ yX6_best.cls ≠ "java/lang/invoke/VarHandle" ∧ (parseMethodDescriptor yX6_best.desc).map (fun d => d.parameters.length) = some 3 := by decide +kernel
theorem pdVX6_bridge : yX6_bridge.cls = RX6 ∧ yX6_bridge.cls ≠ "java/lang/invoke/MethodHandle" ∧ yX6_bridge.cls ≠ "java/lang/invoke/VarHandle" ∧ (parseMethodDescriptor yX6_bridge.desc).map (fun d => d.parameters.length) = some 5 := by decide +kernel
theorem pdVX6_bridgeOf : yX6_bridgeOf.cls = RX6 ∧ yX6_bridgeOf.cls ≠ "java/lang/invoke/MethodHandle" ∧ yX6_bridgeOf.cls ≠ "java/lang/invoke/VarHandle" ∧ (parseMethodDescriptor yX6_bridgeOf.desc).map (fun d => d.parameters.length) = some 2 := by decide +kernel
theorem pdVX6_cheapest : yX6_cheapest.cls = RX6 ∧ yX6_cheapest.cls ≠ "java/lang/invoke/MethodHandle" ∧ yX6_cheapest.cls ≠ "java/lang/invoke/VarHandle" ∧ (parseMethodDescriptor yX6_cheapest.desc).map (fun d => d.parameters.length) = some 4 := by decide +kernel
theorem pdVX6_copy : yX6_copy.cls = RX6 ∧ yX6_copy.cls ≠ "java/lang/invoke/MethodHandle" ∧ yX6_copy.cls ≠ "java/lang/invoke/VarHandle" ∧ (parseMethodDescriptor yX6_copy.desc).map (fun d => d.parameters.length) = some 5 := by decide +kernel
theorem pdVX6_element : yX6_element.cls = RX6 ∧ yX6_element.cls ≠ "java/lang/invoke/MethodHandle" ∧ yX6_element.cls ≠ "java/lang/invoke/VarHandle" ∧ (parseMethodDescriptor yX6_element.desc).map (fun d => d.parameters.length) = some 2 := by decide +kernel
theorem pdVX6_feed : yX6_feed.cls = RX6 ∧ yX6_feed.cls ≠ "java/lang/invoke/MethodHandle" ∧ yX6_feed.cls ≠ "java/lang/invoke/VarHandle" ∧ (parseMethodDescriptor yX6_feed.desc).map (fun d => d.parameters.length) = some 2 := by decide +kernel
theorem pdVX6_fewest : yX6_fewest.cls = RX6 ∧ yX6_fewest.cls ≠ "java/lang/invoke/MethodHandle" ∧ yX6_fewest.cls ≠ "java/lang/invoke/VarHandle" ∧ (parseMethodDescriptor yX6_fewest.desc).map (fun d => d.parameters.length) = some 3 := by decide +kernel
theorem pdVX6_frost : yX6_frost.cls = RX6 ∧ yX6_frost.cls ≠ "java/lang/invoke/MethodHandle" ∧ yX6_frost.cls ≠ "java/lang/invoke/VarHandle" ∧ (parseMethodDescriptor yX6_frost.desc).map (fun d => d.parameters.length) = some 7 := by decide +kernel
theorem pdVX6_goes : yX6_goes.cls = RX6 ∧ yX6_goes.cls ≠ "java/lang/invoke/MethodHandle" ∧ yX6_goes.cls ≠ "java/lang/invoke/VarHandle" ∧ (parseMethodDescriptor yX6_goes.desc).map (fun d => d.parameters.length) = some 4 := by decide +kernel
theorem pdVX6_hang : yX6_hang.cls = RX6 ∧ yX6_hang.cls ≠ "java/lang/invoke/MethodHandle" ∧ yX6_hang.cls ≠ "java/lang/invoke/VarHandle" ∧ (parseMethodDescriptor yX6_hang.desc).map (fun d => d.parameters.length) = some 4 := by decide +kernel
theorem pdVX6_holds : yX6_holds.cls = RX6 ∧ yX6_holds.cls ≠ "java/lang/invoke/MethodHandle" ∧ yX6_holds.cls ≠ "java/lang/invoke/VarHandle" ∧ (parseMethodDescriptor yX6_holds.desc).map (fun d => d.parameters.length) = some 1 := by decide +kernel
theorem pdVX6_image : yX6_image.cls = RX6 ∧ yX6_image.cls ≠ "java/lang/invoke/MethodHandle" ∧ yX6_image.cls ≠ "java/lang/invoke/VarHandle" ∧ (parseMethodDescriptor yX6_image.desc).map (fun d => d.parameters.length) = some 0 := by decide +kernel
theorem pdVX6_judge : yX6_judge.cls = RX6 ∧ yX6_judge.cls ≠ "java/lang/invoke/MethodHandle" ∧ yX6_judge.cls ≠ "java/lang/invoke/VarHandle" ∧ (parseMethodDescriptor yX6_judge.desc).map (fun d => d.parameters.length) = some 5 := by decide +kernel
theorem pdVX6_land : yX6_land.cls = RX6 ∧ yX6_land.cls ≠ "java/lang/invoke/MethodHandle" ∧ yX6_land.cls ≠ "java/lang/invoke/VarHandle" ∧ (parseMethodDescriptor yX6_land.desc).map (fun d => d.parameters.length) = some 0 := by decide +kernel
theorem pdVX6_length : yX6_length.cls = RX6 ∧ yX6_length.cls ≠ "java/lang/invoke/MethodHandle" ∧ yX6_length.cls ≠ "java/lang/invoke/VarHandle" ∧ (parseMethodDescriptor yX6_length.desc).map (fun d => d.parameters.length) = some 1 := by decide +kernel
theorem pdVX6_most : yX6_most.cls = RX6 ∧ yX6_most.cls ≠ "java/lang/invoke/MethodHandle" ∧ yX6_most.cls ≠ "java/lang/invoke/VarHandle" ∧ (parseMethodDescriptor yX6_most.desc).map (fun d => d.parameters.length) = some 3 := by decide +kernel
theorem pdVX6_needs : yX6_needs.cls = RX6 ∧ yX6_needs.cls ≠ "java/lang/invoke/MethodHandle" ∧ yX6_needs.cls ≠ "java/lang/invoke/VarHandle" ∧ (parseMethodDescriptor yX6_needs.desc).map (fun d => d.parameters.length) = some 3 := by decide +kernel
theorem pdVX6_part : yX6_part.cls = RX6 ∧ yX6_part.cls ≠ "java/lang/invoke/MethodHandle" ∧ yX6_part.cls ≠ "java/lang/invoke/VarHandle" ∧ (parseMethodDescriptor yX6_part.desc).map (fun d => d.parameters.length) = some 2 := by decide +kernel
theorem pdVX6_prop : yX6_prop.cls = RX6 ∧ yX6_prop.cls ≠ "java/lang/invoke/MethodHandle" ∧ yX6_prop.cls ≠ "java/lang/invoke/VarHandle" ∧ (parseMethodDescriptor yX6_prop.desc).map (fun d => d.parameters.length) = some 3 := by decide +kernel
theorem pdVX6_reach : yX6_reach.cls = RX6 ∧ yX6_reach.cls ≠ "java/lang/invoke/MethodHandle" ∧ yX6_reach.cls ≠ "java/lang/invoke/VarHandle" ∧ (parseMethodDescriptor yX6_reach.desc).map (fun d => d.parameters.length) = some 3 := by decide +kernel
theorem pdVX6_road : yX6_road.cls = RX6 ∧ yX6_road.cls ≠ "java/lang/invoke/MethodHandle" ∧ yX6_road.cls ≠ "java/lang/invoke/VarHandle" ∧ (parseMethodDescriptor yX6_road.desc).map (fun d => d.parameters.length) = some 6 := by decide +kernel
theorem pdVX6_roadOf : yX6_roadOf.cls = RX6 ∧ yX6_roadOf.cls ≠ "java/lang/invoke/MethodHandle" ∧ yX6_roadOf.cls ≠ "java/lang/invoke/VarHandle" ∧ (parseMethodDescriptor yX6_roadOf.desc).map (fun d => d.parameters.length) = some 2 := by decide +kernel
theorem pdVX6_row : yX6_row.cls = RX6 ∧ yX6_row.cls ≠ "java/lang/invoke/MethodHandle" ∧ yX6_row.cls ≠ "java/lang/invoke/VarHandle" ∧ (parseMethodDescriptor yX6_row.desc).map (fun d => d.parameters.length) = some 3 := by decide +kernel
theorem pdVX6_says : yX6_says.cls = RX6 ∧ yX6_says.cls ≠ "java/lang/invoke/MethodHandle" ∧ yX6_says.cls ≠ "java/lang/invoke/VarHandle" ∧ (parseMethodDescriptor yX6_says.desc).map (fun d => d.parameters.length) = some 2 := by decide +kernel
theorem pdVX6_set : yX6_set.cls = RX6 ∧ yX6_set.cls ≠ "java/lang/invoke/MethodHandle" ∧ yX6_set.cls ≠ "java/lang/invoke/VarHandle" ∧ (parseMethodDescriptor yX6_set.desc).map (fun d => d.parameters.length) = some 3 := by decide +kernel
theorem pdVX6_show : yX6_show.cls = RX6 ∧ yX6_show.cls ≠ "java/lang/invoke/MethodHandle" ∧ yX6_show.cls ≠ "java/lang/invoke/VarHandle" ∧ (parseMethodDescriptor yX6_show.desc).map (fun d => d.parameters.length) = some 2 := by decide +kernel
theorem pdVX6_shut : yX6_shut.cls = RX6 ∧ yX6_shut.cls ≠ "java/lang/invoke/MethodHandle" ∧ yX6_shut.cls ≠ "java/lang/invoke/VarHandle" ∧ (parseMethodDescriptor yX6_shut.desc).map (fun d => d.parameters.length) = some 2 := by decide +kernel
theorem pdVX6_soonest : yX6_soonest.cls = RX6 ∧ yX6_soonest.cls ≠ "java/lang/invoke/MethodHandle" ∧ yX6_soonest.cls ≠ "java/lang/invoke/VarHandle" ∧ (parseMethodDescriptor yX6_soonest.desc).map (fun d => d.parameters.length) = some 4 := by decide +kernel
theorem pdVX6_stand : yX6_stand.cls = RX6 ∧ yX6_stand.cls ≠ "java/lang/invoke/MethodHandle" ∧ yX6_stand.cls ≠ "java/lang/invoke/VarHandle" ∧ (parseMethodDescriptor yX6_stand.desc).map (fun d => d.parameters.length) = some 3 := by decide +kernel
theorem pdVX6_status : yX6_status.cls = RX6 ∧ yX6_status.cls ≠ "java/lang/invoke/MethodHandle" ∧ yX6_status.cls ≠ "java/lang/invoke/VarHandle" ∧ (parseMethodDescriptor yX6_status.desc).map (fun d => d.parameters.length) = some 1 := by decide +kernel
theorem pdVX6_step : yX6_step.cls = RX6 ∧ yX6_step.cls ≠ "java/lang/invoke/MethodHandle" ∧ yX6_step.cls ≠ "java/lang/invoke/VarHandle" ∧ (parseMethodDescriptor yX6_step.desc).map (fun d => d.parameters.length) = some 0 := by decide +kernel
theorem pdVX6_strain : yX6_strain.cls = RX6 ∧ yX6_strain.cls ≠ "java/lang/invoke/MethodHandle" ∧ yX6_strain.cls ≠ "java/lang/invoke/VarHandle" ∧ (parseMethodDescriptor yX6_strain.desc).map (fun d => d.parameters.length) = some 3 := by decide +kernel
theorem pdVX6_told : yX6_told.cls = RX6 ∧ yX6_told.cls ≠ "java/lang/invoke/MethodHandle" ∧ yX6_told.cls ≠ "java/lang/invoke/VarHandle" ∧ (parseMethodDescriptor yX6_told.desc).map (fun d => d.parameters.length) = some 6 := by decide +kernel
theorem pdVX6_under : yX6_under.cls = RX6 ∧ yX6_under.cls ≠ "java/lang/invoke/MethodHandle" ∧ yX6_under.cls ≠ "java/lang/invoke/VarHandle" ∧ (parseMethodDescriptor yX6_under.desc).map (fun d => d.parameters.length) = some 1 := by decide +kernel
theorem pdVX6_waggon : yX6_waggon.cls = RX6 ∧ yX6_waggon.cls ≠ "java/lang/invoke/MethodHandle" ∧ yX6_waggon.cls ≠ "java/lang/invoke/VarHandle" ∧ (parseMethodDescriptor yX6_waggon.desc).map (fun d => d.parameters.length) = some 3 := by decide +kernel
theorem pdVX6_wipe : yX6_wipe.cls = RX6 ∧ yX6_wipe.cls ≠ "java/lang/invoke/MethodHandle" ∧ yX6_wipe.cls ≠ "java/lang/invoke/VarHandle" ∧ (parseMethodDescriptor yX6_wipe.desc).map (fun d => d.parameters.length) = some 0 := by decide +kernel
theorem pdVX7_ask : yX7_ask.cls = RX7 ∧ yX7_ask.cls ≠ "java/lang/invoke/MethodHandle" ∧ yX7_ask.cls ≠ "java/lang/invoke/VarHandle" ∧ (parseMethodDescriptor yX7_ask.desc).map (fun d => d.parameters.length) = some 2 := by decide +kernel
theorem pdVX7_axle : yX7_axle.cls = RX7 ∧ yX7_axle.cls ≠ "java/lang/invoke/MethodHandle" ∧ yX7_axle.cls ≠ "java/lang/invoke/VarHandle" ∧ (parseMethodDescriptor yX7_axle.desc).map (fun d => d.parameters.length) = some 2 := by decide +kernel
theorem pdVX7_back : yX7_back.cls = RX7 ∧ yX7_back.cls ≠ "java/lang/invoke/MethodHandle" ∧ yX7_back.cls ≠ "java/lang/invoke/VarHandle" ∧ (parseMethodDescriptor yX7_back.desc).map (fun d => d.parameters.length) = some 0 := by decide +kernel
theorem pdVX7_bears : yX7_bears.cls = RX7 ∧ yX7_bears.cls ≠ "java/lang/invoke/MethodHandle" ∧ yX7_bears.cls ≠ "java/lang/invoke/VarHandle" ∧ (parseMethodDescriptor yX7_bears.desc).map (fun d => d.parameters.length) = some 2 := by decide +kernel
theorem pdVX7_begin : yX7_begin.cls = RX7 ∧ yX7_begin.cls ≠ "java/lang/invoke/MethodHandle" ∧ yX7_begin.cls ≠ "java/lang/invoke/VarHandle" ∧ (parseMethodDescriptor yX7_begin.desc).map (fun d => d.parameters.length) = some 4 := by decide +kernel
theorem pdVX7_best : yX7_best.cls = RX7 ∧ yX7_best.cls ≠ "java/lang/invoke/MethodHandle" ∧ yX7_best.cls ≠ "java/lang/invoke/VarHandle" ∧ (parseMethodDescriptor yX7_best.desc).map (fun d => d.parameters.length) = some 3 := by decide +kernel
theorem pdVX7_bridge : yX7_bridge.cls = RX7 ∧ yX7_bridge.cls ≠ "java/lang/invoke/MethodHandle" ∧ yX7_bridge.cls ≠ "java/lang/invoke/VarHandle" ∧ (parseMethodDescriptor yX7_bridge.desc).map (fun d => d.parameters.length) = some 5 := by decide +kernel
theorem pdVX7_bridgeOf : yX7_bridgeOf.cls = RX7 ∧ yX7_bridgeOf.cls ≠ "java/lang/invoke/MethodHandle" ∧ yX7_bridgeOf.cls ≠ "java/lang/invoke/VarHandle" ∧ (parseMethodDescriptor yX7_bridgeOf.desc).map (fun d => d.parameters.length) = some 2 := by decide +kernel
theorem pdVX7_cheapest : yX7_cheapest.cls = RX7 ∧ yX7_cheapest.cls ≠ "java/lang/invoke/MethodHandle" ∧ yX7_cheapest.cls ≠ "java/lang/invoke/VarHandle" ∧ (parseMethodDescriptor yX7_cheapest.desc).map (fun d => d.parameters.length) = some 4 := by decide +kernel
theorem pdVX7_copy : yX7_copy.cls = RX7 ∧ yX7_copy.cls ≠ "java/lang/invoke/MethodHandle" ∧ yX7_copy.cls ≠ "java/lang/invoke/VarHandle" ∧ (parseMethodDescriptor yX7_copy.desc).map (fun d => d.parameters.length) = some 5 := by decide +kernel
theorem pdVX7_element : yX7_element.cls = RX7 ∧ yX7_element.cls ≠ "java/lang/invoke/MethodHandle" ∧ yX7_element.cls ≠ "java/lang/invoke/VarHandle" ∧ (parseMethodDescriptor yX7_element.desc).map (fun d => d.parameters.length) = some 2 := by decide +kernel
theorem pdVX7_feed : yX7_feed.cls = RX7 ∧ yX7_feed.cls ≠ "java/lang/invoke/MethodHandle" ∧ yX7_feed.cls ≠ "java/lang/invoke/VarHandle" ∧ (parseMethodDescriptor yX7_feed.desc).map (fun d => d.parameters.length) = some 2 := by decide +kernel
theorem pdVX7_fewest : yX7_fewest.cls = RX7 ∧ yX7_fewest.cls ≠ "java/lang/invoke/MethodHandle" ∧ yX7_fewest.cls ≠ "java/lang/invoke/VarHandle" ∧ (parseMethodDescriptor yX7_fewest.desc).map (fun d => d.parameters.length) = some 3 := by decide +kernel
theorem pdVX7_frost : yX7_frost.cls = RX7 ∧ yX7_frost.cls ≠ "java/lang/invoke/MethodHandle" ∧ yX7_frost.cls ≠ "java/lang/invoke/VarHandle" ∧ (parseMethodDescriptor yX7_frost.desc).map (fun d => d.parameters.length) = some 7 := by decide +kernel
theorem pdVX7_goes : yX7_goes.cls = RX7 ∧ yX7_goes.cls ≠ "java/lang/invoke/MethodHandle" ∧ yX7_goes.cls ≠ "java/lang/invoke/VarHandle" ∧ (parseMethodDescriptor yX7_goes.desc).map (fun d => d.parameters.length) = some 4 := by decide +kernel
theorem pdVX7_hang : yX7_hang.cls = RX7 ∧ yX7_hang.cls ≠ "java/lang/invoke/MethodHandle" ∧ yX7_hang.cls ≠ "java/lang/invoke/VarHandle" ∧ (parseMethodDescriptor yX7_hang.desc).map (fun d => d.parameters.length) = some 4 := by decide +kernel
theorem pdVX7_holds : yX7_holds.cls = RX7 ∧ yX7_holds.cls ≠ "java/lang/invoke/MethodHandle" ∧ yX7_holds.cls ≠ "java/lang/invoke/VarHandle" ∧ (parseMethodDescriptor yX7_holds.desc).map (fun d => d.parameters.length) = some 1 := by decide +kernel
theorem pdVX7_image : yX7_image.cls = RX7 ∧ yX7_image.cls ≠ "java/lang/invoke/MethodHandle" ∧ yX7_image.cls ≠ "java/lang/invoke/VarHandle" ∧ (parseMethodDescriptor yX7_image.desc).map (fun d => d.parameters.length) = some 0 := by decide +kernel
theorem pdVX7_judge : yX7_judge.cls = RX7 ∧ yX7_judge.cls ≠ "java/lang/invoke/MethodHandle" ∧ yX7_judge.cls ≠ "java/lang/invoke/VarHandle" ∧ (parseMethodDescriptor yX7_judge.desc).map (fun d => d.parameters.length) = some 5 := by decide +kernel
theorem pdVX7_land : yX7_land.cls = RX7 ∧ yX7_land.cls ≠ "java/lang/invoke/MethodHandle" ∧ yX7_land.cls ≠ "java/lang/invoke/VarHandle" ∧ (parseMethodDescriptor yX7_land.desc).map (fun d => d.parameters.length) = some 0 := by decide +kernel
theorem pdVX7_length : yX7_length.cls = RX7 ∧ yX7_length.cls ≠ "java/lang/invoke/MethodHandle" ∧ yX7_length.cls ≠ "java/lang/invoke/VarHandle" ∧ (parseMethodDescriptor yX7_length.desc).map (fun d => d.parameters.length) = some 1 := by decide +kernel
theorem pdVX7_most : yX7_most.cls = RX7 ∧ yX7_most.cls ≠ "java/lang/invoke/MethodHandle" ∧ yX7_most.cls ≠ "java/lang/invoke/VarHandle" ∧ (parseMethodDescriptor yX7_most.desc).map (fun d => d.parameters.length) = some 3 := by decide +kernel
theorem pdVX7_needs : yX7_needs.cls = RX7 ∧ yX7_needs.cls ≠ "java/lang/invoke/MethodHandle" ∧ yX7_needs.cls ≠ "java/lang/invoke/VarHandle" ∧ (parseMethodDescriptor yX7_needs.desc).map (fun d => d.parameters.length) = some 3 := by decide +kernel
theorem pdVX7_part : yX7_part.cls = RX7 ∧ yX7_part.cls ≠ "java/lang/invoke/MethodHandle" ∧ yX7_part.cls ≠ "java/lang/invoke/VarHandle" ∧ (parseMethodDescriptor yX7_part.desc).map (fun d => d.parameters.length) = some 2 := by decide +kernel
theorem pdVX7_prop : yX7_prop.cls = RX7 ∧ yX7_prop.cls ≠ "java/lang/invoke/MethodHandle" ∧ yX7_prop.cls ≠ "java/lang/invoke/VarHandle" ∧ (parseMethodDescriptor yX7_prop.desc).map (fun d => d.parameters.length) = some 3 := by decide +kernel
theorem pdVX7_reach : yX7_reach.cls = RX7 ∧ yX7_reach.cls ≠ "java/lang/invoke/MethodHandle" ∧ yX7_reach.cls ≠ "java/lang/invoke/VarHandle" ∧ (parseMethodDescriptor yX7_reach.desc).map (fun d => d.parameters.length) = some 3 := by decide +kernel
theorem pdVX7_road : yX7_road.cls = RX7 ∧ yX7_road.cls ≠ "java/lang/invoke/MethodHandle" ∧ yX7_road.cls ≠ "java/lang/invoke/VarHandle" ∧ (parseMethodDescriptor yX7_road.desc).map (fun d => d.parameters.length) = some 6 := by decide +kernel
theorem pdVX7_roadOf : yX7_roadOf.cls = RX7 ∧ yX7_roadOf.cls ≠ "java/lang/invoke/MethodHandle" ∧ yX7_roadOf.cls ≠ "java/lang/invoke/VarHandle" ∧ (parseMethodDescriptor yX7_roadOf.desc).map (fun d => d.parameters.length) = some 2 := by decide +kernel
theorem pdVX7_row : yX7_row.cls = RX7 ∧ yX7_row.cls ≠ "java/lang/invoke/MethodHandle" ∧ yX7_row.cls ≠ "java/lang/invoke/VarHandle" ∧ (parseMethodDescriptor yX7_row.desc).map (fun d => d.parameters.length) = some 3 := by decide +kernel
theorem pdVX7_says : yX7_says.cls = RX7 ∧ yX7_says.cls ≠ "java/lang/invoke/MethodHandle" ∧ yX7_says.cls ≠ "java/lang/invoke/VarHandle" ∧ (parseMethodDescriptor yX7_says.desc).map (fun d => d.parameters.length) = some 2 := by decide +kernel
theorem pdVX7_set : yX7_set.cls = RX7 ∧ yX7_set.cls ≠ "java/lang/invoke/MethodHandle" ∧ yX7_set.cls ≠ "java/lang/invoke/VarHandle" ∧ (parseMethodDescriptor yX7_set.desc).map (fun d => d.parameters.length) = some 3 := by decide +kernel
theorem pdVX7_show : yX7_show.cls = RX7 ∧ yX7_show.cls ≠ "java/lang/invoke/MethodHandle" ∧ yX7_show.cls ≠ "java/lang/invoke/VarHandle" ∧ (parseMethodDescriptor yX7_show.desc).map (fun d => d.parameters.length) = some 2 := by decide +kernel
theorem pdVX7_shut : yX7_shut.cls = RX7 ∧ yX7_shut.cls ≠ "java/lang/invoke/MethodHandle" ∧ yX7_shut.cls ≠ "java/lang/invoke/VarHandle" ∧ (parseMethodDescriptor yX7_shut.desc).map (fun d => d.parameters.length) = some 2 := by decide +kernel
theorem pdVX7_soonest : yX7_soonest.cls = RX7 ∧ yX7_soonest.cls ≠ "java/lang/invoke/MethodHandle" ∧ yX7_soonest.cls ≠ "java/lang/invoke/VarHandle" ∧ (parseMethodDescriptor yX7_soonest.desc).map (fun d => d.parameters.length) = some 4 := by decide +kernel
theorem pdVX7_stand : yX7_stand.cls = RX7 ∧ yX7_stand.cls ≠ "java/lang/invoke/MethodHandle" ∧ yX7_stand.cls ≠ "java/lang/invoke/VarHandle" ∧ (parseMethodDescriptor yX7_stand.desc).map (fun d => d.parameters.length) = some 3 := by decide +kernel
theorem pdVX7_status : yX7_status.cls = RX7 ∧ yX7_status.cls ≠ "java/lang/invoke/MethodHandle" ∧ yX7_status.cls ≠ "java/lang/invoke/VarHandle" ∧ (parseMethodDescriptor yX7_status.desc).map (fun d => d.parameters.length) = some 1 := by decide +kernel
theorem pdVX7_step : yX7_step.cls = RX7 ∧ yX7_step.cls ≠ "java/lang/invoke/MethodHandle" ∧ yX7_step.cls ≠ "java/lang/invoke/VarHandle" ∧ (parseMethodDescriptor yX7_step.desc).map (fun d => d.parameters.length) = some 0 := by decide +kernel
theorem pdVX7_strain : yX7_strain.cls = RX7 ∧ yX7_strain.cls ≠ "java/lang/invoke/MethodHandle" ∧ yX7_strain.cls ≠ "java/lang/invoke/VarHandle" ∧ (parseMethodDescriptor yX7_strain.desc).map (fun d => d.parameters.length) = some 3 := by decide +kernel
theorem pdVX7_told_ : yX7_told_.cls = RX7 ∧ yX7_told_.cls ≠ "java/lang/invoke/MethodHandle" ∧ yX7_told_.cls ≠ "java/lang/invoke/VarHandle" ∧ (parseMethodDescriptor yX7_told_.desc).map (fun d => d.parameters.length) = some 6 := by decide +kernel
theorem pdVX7_under : yX7_under.cls = RX7 ∧ yX7_under.cls ≠ "java/lang/invoke/MethodHandle" ∧ yX7_under.cls ≠ "java/lang/invoke/VarHandle" ∧ (parseMethodDescriptor yX7_under.desc).map (fun d => d.parameters.length) = some 1 := by decide +kernel
theorem pdVX7_waggon : yX7_waggon.cls = RX7 ∧ yX7_waggon.cls ≠ "java/lang/invoke/MethodHandle" ∧ yX7_waggon.cls ≠ "java/lang/invoke/VarHandle" ∧ (parseMethodDescriptor yX7_waggon.desc).map (fun d => d.parameters.length) = some 3 := by decide +kernel
theorem pdVX7_wipe : yX7_wipe.cls = RX7 ∧ yX7_wipe.cls ≠ "java/lang/invoke/MethodHandle" ∧ yX7_wipe.cls ≠ "java/lang/invoke/VarHandle" ∧ (parseMethodDescriptor yX7_wipe.desc).map (fun d => d.parameters.length) = some 0 := by decide +kernel
theorem dL_law_220 : decode cL_law 220 = .ok (.aload_n 1, 1) := by decide +kernel
theorem dL_law_221 : decode cL_law 221 = .ok (.aload_n 0, 1) := by decide +kernel
theorem dL_law_222 : decode cL_law 222 = .ok (.iload_n 3, 1) := by decide +kernel
theorem dL_law_223 : decode cL_law 223 = .ok (.iconst 1, 1) := by decide +kernel
theorem dL_law_224 : decode cL_law 224 = .ok (.iadd, 1) := by decide +kernel
theorem dL_law_225 : decode cL_law 225 = .ok (.iaload, 1) := by decide +kernel
theorem dL_law_226 : decode cL_law 226 = .ok (.aload_n 0, 1) := by decide +kernel
theorem dL_law_227 : decode cL_law 227 = .ok (.iload_n 3, 1) := by decide +kernel
theorem dL_law_228 : decode cL_law 228 = .ok (.iconst 2, 1) := by decide +kernel
theorem dL_law_229 : decode cL_law 229 = .ok (.iadd, 1) := by decide +kernel
theorem dL_law_230 : decode cL_law 230 = .ok (.iaload, 1) := by decide +kernel
theorem dL_law_231 : decode cL_law 231 = .ok (.aload_n 0, 1) := by decide +kernel
theorem dL_law_232 : decode cL_law 232 = .ok (.iload_n 3, 1) := by decide +kernel
theorem dL_law_233 : decode cL_law 233 = .ok (.iconst 3, 1) := by decide +kernel
theorem dL_law_234 : decode cL_law 234 = .ok (.iadd, 1) := by decide +kernel
theorem dL_law_235 : decode cL_law 235 = .ok (.iaload, 1) := by decide +kernel
theorem dL_law_236 : decode cL_law 236 = .ok (.invokevirtual 13, 3) := by decide +kernel
theorem dL_law_239 : decode cL_law 239 = .ok (.pop, 1) := by decide +kernel
theorem dL_law_240 : decode cL_law 240 = .ok (.aload_n 2, 1) := by decide +kernel
theorem dL_law_241 : decode cL_law 241 = .ok (.aload_n 0, 1) := by decide +kernel
theorem dL_law_242 : decode cL_law 242 = .ok (.iload_n 3, 1) := by decide +kernel
theorem dL_law_243 : decode cL_law 243 = .ok (.iconst 1, 1) := by decide +kernel
theorem dL_law_244 : decode cL_law 244 = .ok (.iadd, 1) := by decide +kernel
theorem dL_law_245 : decode cL_law 245 = .ok (.iaload, 1) := by decide +kernel
theorem dL_law_246 : decode cL_law 246 = .ok (.aload_n 0, 1) := by decide +kernel
theorem dL_law_247 : decode cL_law 247 = .ok (.iload_n 3, 1) := by decide +kernel
theorem dL_law_248 : decode cL_law 248 = .ok (.iconst 2, 1) := by decide +kernel
theorem dL_law_249 : decode cL_law 249 = .ok (.iadd, 1) := by decide +kernel
theorem dL_law_250 : decode cL_law 250 = .ok (.iaload, 1) := by decide +kernel
theorem dL_law_251 : decode cL_law 251 = .ok (.aload_n 0, 1) := by decide +kernel
theorem dL_law_252 : decode cL_law 252 = .ok (.iload_n 3, 1) := by decide +kernel
theorem dL_law_253 : decode cL_law 253 = .ok (.iconst 3, 1) := by decide +kernel
theorem dL_law_254 : decode cL_law 254 = .ok (.iadd, 1) := by decide +kernel
theorem dL_law_255 : decode cL_law 255 = .ok (.iaload, 1) := by decide +kernel
theorem dL_law_256 : decode cL_law 256 = .ok (.invokevirtual 17, 3) := by decide +kernel
theorem dL_law_259 : decode cL_law 259 = .ok (.pop, 1) := by decide +kernel
theorem dL_law_260 : decode cL_law 260 = .ok (.goto 1785, 3) := by decide +kernel
theorem dL_law_263 : decode cL_law 263 = .ok (.aload_n 1, 1) := by decide +kernel
theorem dL_law_264 : decode cL_law 264 = .ok (.aload_n 0, 1) := by decide +kernel
theorem dL_law_265 : decode cL_law 265 = .ok (.iload_n 3, 1) := by decide +kernel
theorem dL_law_266 : decode cL_law 266 = .ok (.iconst 1, 1) := by decide +kernel
theorem dL_law_267 : decode cL_law 267 = .ok (.iadd, 1) := by decide +kernel
theorem dL_law_268 : decode cL_law 268 = .ok (.iaload, 1) := by decide +kernel
theorem dL_law_269 : decode cL_law 269 = .ok (.aload_n 0, 1) := by decide +kernel
theorem dL_law_270 : decode cL_law 270 = .ok (.iload_n 3, 1) := by decide +kernel
theorem dL_law_271 : decode cL_law 271 = .ok (.iconst 2, 1) := by decide +kernel
theorem dL_law_272 : decode cL_law 272 = .ok (.iadd, 1) := by decide +kernel
theorem dL_law_273 : decode cL_law 273 = .ok (.iaload, 1) := by decide +kernel
theorem dL_law_274 : decode cL_law 274 = .ok (.aload_n 0, 1) := by decide +kernel
theorem dL_law_275 : decode cL_law 275 = .ok (.iload_n 3, 1) := by decide +kernel
theorem dL_law_276 : decode cL_law 276 = .ok (.iconst 3, 1) := by decide +kernel
theorem dL_law_277 : decode cL_law 277 = .ok (.iadd, 1) := by decide +kernel
theorem dL_law_278 : decode cL_law 278 = .ok (.iaload, 1) := by decide +kernel
theorem dL_law_279 : decode cL_law 279 = .ok (.i2l, 1) := by decide +kernel
theorem dL_law_280 : decode cL_law 280 = .ok (.bipush 32, 2) := by decide +kernel
theorem dL_law_282 : decode cL_law 282 = .ok (.lshl, 1) := by decide +kernel
theorem dL_law_283 : decode cL_law 283 = .ok (.aload_n 0, 1) := by decide +kernel
theorem dL_law_284 : decode cL_law 284 = .ok (.iload_n 3, 1) := by decide +kernel
theorem dL_law_285 : decode cL_law 285 = .ok (.iconst 4, 1) := by decide +kernel
theorem dL_law_286 : decode cL_law 286 = .ok (.iadd, 1) := by decide +kernel
theorem dL_law_287 : decode cL_law 287 = .ok (.iaload, 1) := by decide +kernel
theorem dL_law_288 : decode cL_law 288 = .ok (.i2l, 1) := by decide +kernel
theorem dL_law_289 : decode cL_law 289 = .ok (.ldc2_w 18, 3) := by decide +kernel
theorem dL_law_292 : decode cL_law 292 = .ok (.land, 1) := by decide +kernel
theorem dL_law_293 : decode cL_law 293 = .ok (.lor, 1) := by decide +kernel
theorem dL_law_294 : decode cL_law 294 = .ok (.invokevirtual 20, 3) := by decide +kernel
theorem dL_law_297 : decode cL_law 297 = .ok (.pop, 1) := by decide +kernel
theorem dL_law_298 : decode cL_law 298 = .ok (.aload_n 2, 1) := by decide +kernel
theorem dL_law_299 : decode cL_law 299 = .ok (.aload_n 0, 1) := by decide +kernel
theorem dL_law_300 : decode cL_law 300 = .ok (.iload_n 3, 1) := by decide +kernel
theorem dL_law_301 : decode cL_law 301 = .ok (.iconst 1, 1) := by decide +kernel
theorem dL_law_302 : decode cL_law 302 = .ok (.iadd, 1) := by decide +kernel
theorem dL_law_303 : decode cL_law 303 = .ok (.iaload, 1) := by decide +kernel
theorem dL_law_304 : decode cL_law 304 = .ok (.aload_n 0, 1) := by decide +kernel
theorem dL_law_305 : decode cL_law 305 = .ok (.iload_n 3, 1) := by decide +kernel
theorem dL_law_306 : decode cL_law 306 = .ok (.iconst 2, 1) := by decide +kernel
theorem dL_law_307 : decode cL_law 307 = .ok (.iadd, 1) := by decide +kernel
theorem dL_law_308 : decode cL_law 308 = .ok (.iaload, 1) := by decide +kernel
theorem dL_law_309 : decode cL_law 309 = .ok (.aload_n 0, 1) := by decide +kernel
theorem dL_law_310 : decode cL_law 310 = .ok (.iload_n 3, 1) := by decide +kernel
theorem dL_law_311 : decode cL_law 311 = .ok (.iconst 3, 1) := by decide +kernel
theorem dL_law_312 : decode cL_law 312 = .ok (.iadd, 1) := by decide +kernel
theorem dL_law_313 : decode cL_law 313 = .ok (.iaload, 1) := by decide +kernel
theorem dL_law_314 : decode cL_law 314 = .ok (.i2l, 1) := by decide +kernel
theorem dL_law_315 : decode cL_law 315 = .ok (.bipush 32, 2) := by decide +kernel
theorem dL_law_317 : decode cL_law 317 = .ok (.lshl, 1) := by decide +kernel
theorem dL_law_318 : decode cL_law 318 = .ok (.aload_n 0, 1) := by decide +kernel
theorem dL_law_319 : decode cL_law 319 = .ok (.iload_n 3, 1) := by decide +kernel
theorem dL_law_320 : decode cL_law 320 = .ok (.iconst 4, 1) := by decide +kernel
theorem dL_law_321 : decode cL_law 321 = .ok (.iadd, 1) := by decide +kernel
theorem dL_law_322 : decode cL_law 322 = .ok (.iaload, 1) := by decide +kernel
theorem dL_law_323 : decode cL_law 323 = .ok (.i2l, 1) := by decide +kernel
theorem dL_law_324 : decode cL_law 324 = .ok (.ldc2_w 18, 3) := by decide +kernel
theorem dL_law_327 : decode cL_law 327 = .ok (.land, 1) := by decide +kernel
theorem dL_law_328 : decode cL_law 328 = .ok (.lor, 1) := by decide +kernel
theorem dL_law_329 : decode cL_law 329 = .ok (.invokevirtual 24, 3) := by decide +kernel
theorem dL_law_332 : decode cL_law 332 = .ok (.pop, 1) := by decide +kernel
theorem dL_law_333 : decode cL_law 333 = .ok (.goto 1712, 3) := by decide +kernel
theorem dL_law_336 : decode cL_law 336 = .ok (.aload_n 1, 1) := by decide +kernel
theorem dL_law_337 : decode cL_law 337 = .ok (.aload_n 0, 1) := by decide +kernel
theorem dL_law_338 : decode cL_law 338 = .ok (.iload_n 3, 1) := by decide +kernel
theorem dL_law_339 : decode cL_law 339 = .ok (.iconst 1, 1) := by decide +kernel
theorem dL_law_340 : decode cL_law 340 = .ok (.iadd, 1) := by decide +kernel
theorem dL_law_341 : decode cL_law 341 = .ok (.iaload, 1) := by decide +kernel
theorem dL_law_342 : decode cL_law 342 = .ok (.aload_n 0, 1) := by decide +kernel
theorem dL_law_343 : decode cL_law 343 = .ok (.iload_n 3, 1) := by decide +kernel
theorem dL_law_344 : decode cL_law 344 = .ok (.iconst 2, 1) := by decide +kernel
theorem dL_law_345 : decode cL_law 345 = .ok (.iadd, 1) := by decide +kernel
theorem dL_law_346 : decode cL_law 346 = .ok (.iaload, 1) := by decide +kernel
theorem dL_law_347 : decode cL_law 347 = .ok (.aload_n 0, 1) := by decide +kernel
theorem dL_law_348 : decode cL_law 348 = .ok (.iload_n 3, 1) := by decide +kernel
theorem dL_law_349 : decode cL_law 349 = .ok (.iconst 3, 1) := by decide +kernel
theorem dL_law_350 : decode cL_law 350 = .ok (.iadd, 1) := by decide +kernel
theorem dL_law_351 : decode cL_law 351 = .ok (.iaload, 1) := by decide +kernel
theorem dL_law_352 : decode cL_law 352 = .ok (.aload_n 0, 1) := by decide +kernel
theorem dL_law_353 : decode cL_law 353 = .ok (.iload_n 3, 1) := by decide +kernel
theorem dL_law_354 : decode cL_law 354 = .ok (.iconst 4, 1) := by decide +kernel
theorem dL_law_355 : decode cL_law 355 = .ok (.iadd, 1) := by decide +kernel
theorem dL_law_356 : decode cL_law 356 = .ok (.iaload, 1) := by decide +kernel
theorem dL_law_357 : decode cL_law 357 = .ok (.aload_n 0, 1) := by decide +kernel
theorem dL_law_358 : decode cL_law 358 = .ok (.iload_n 3, 1) := by decide +kernel
theorem dL_law_359 : decode cL_law 359 = .ok (.iconst 5, 1) := by decide +kernel
theorem dL_law_360 : decode cL_law 360 = .ok (.iadd, 1) := by decide +kernel
theorem dL_law_361 : decode cL_law 361 = .ok (.iaload, 1) := by decide +kernel
theorem dL_law_362 : decode cL_law 362 = .ok (.invokevirtual 25, 3) := by decide +kernel
theorem dL_law_365 : decode cL_law 365 = .ok (.pop, 1) := by decide +kernel
theorem dL_law_366 : decode cL_law 366 = .ok (.aload_n 2, 1) := by decide +kernel
theorem dL_law_367 : decode cL_law 367 = .ok (.aload_n 0, 1) := by decide +kernel
theorem dL_law_368 : decode cL_law 368 = .ok (.iload_n 3, 1) := by decide +kernel
theorem dL_law_369 : decode cL_law 369 = .ok (.iconst 1, 1) := by decide +kernel
theorem dL_law_370 : decode cL_law 370 = .ok (.iadd, 1) := by decide +kernel
theorem dL_law_371 : decode cL_law 371 = .ok (.iaload, 1) := by decide +kernel
theorem dL_law_372 : decode cL_law 372 = .ok (.aload_n 0, 1) := by decide +kernel
theorem dL_law_373 : decode cL_law 373 = .ok (.iload_n 3, 1) := by decide +kernel
theorem dL_law_374 : decode cL_law 374 = .ok (.iconst 2, 1) := by decide +kernel
theorem dL_law_375 : decode cL_law 375 = .ok (.iadd, 1) := by decide +kernel
theorem dL_law_376 : decode cL_law 376 = .ok (.iaload, 1) := by decide +kernel
theorem dL_law_377 : decode cL_law 377 = .ok (.aload_n 0, 1) := by decide +kernel
theorem dL_law_378 : decode cL_law 378 = .ok (.iload_n 3, 1) := by decide +kernel
theorem dL_law_379 : decode cL_law 379 = .ok (.iconst 3, 1) := by decide +kernel
theorem dL_law_380 : decode cL_law 380 = .ok (.iadd, 1) := by decide +kernel
theorem dL_law_381 : decode cL_law 381 = .ok (.iaload, 1) := by decide +kernel
theorem dL_law_382 : decode cL_law 382 = .ok (.aload_n 0, 1) := by decide +kernel
theorem dL_law_383 : decode cL_law 383 = .ok (.iload_n 3, 1) := by decide +kernel
theorem dL_law_384 : decode cL_law 384 = .ok (.iconst 4, 1) := by decide +kernel
theorem dL_law_385 : decode cL_law 385 = .ok (.iadd, 1) := by decide +kernel
theorem dL_law_386 : decode cL_law 386 = .ok (.iaload, 1) := by decide +kernel
theorem dL_law_387 : decode cL_law 387 = .ok (.aload_n 0, 1) := by decide +kernel
theorem dL_law_388 : decode cL_law 388 = .ok (.iload_n 3, 1) := by decide +kernel
theorem dL_law_389 : decode cL_law 389 = .ok (.iconst 5, 1) := by decide +kernel
theorem dL_law_390 : decode cL_law 390 = .ok (.iadd, 1) := by decide +kernel
theorem dL_law_391 : decode cL_law 391 = .ok (.iaload, 1) := by decide +kernel
theorem dL_law_392 : decode cL_law 392 = .ok (.invokevirtual 29, 3) := by decide +kernel
theorem dL_law_395 : decode cL_law 395 = .ok (.pop, 1) := by decide +kernel
theorem dL_law_396 : decode cL_law 396 = .ok (.goto 1649, 3) := by decide +kernel
theorem dL_law_399 : decode cL_law 399 = .ok (.aload_n 1, 1) := by decide +kernel
theorem dL_law_400 : decode cL_law 400 = .ok (.aload_n 0, 1) := by decide +kernel
theorem dL_law_401 : decode cL_law 401 = .ok (.iload_n 3, 1) := by decide +kernel
theorem dL_law_402 : decode cL_law 402 = .ok (.iconst 1, 1) := by decide +kernel
theorem dL_law_403 : decode cL_law 403 = .ok (.iadd, 1) := by decide +kernel
theorem dL_law_404 : decode cL_law 404 = .ok (.iaload, 1) := by decide +kernel
theorem dL_law_405 : decode cL_law 405 = .ok (.aload_n 0, 1) := by decide +kernel
theorem dL_law_406 : decode cL_law 406 = .ok (.iload_n 3, 1) := by decide +kernel
theorem dL_law_407 : decode cL_law 407 = .ok (.iconst 2, 1) := by decide +kernel
theorem dL_law_408 : decode cL_law 408 = .ok (.iadd, 1) := by decide +kernel
theorem dL_law_409 : decode cL_law 409 = .ok (.iaload, 1) := by decide +kernel
theorem dL_law_410 : decode cL_law 410 = .ok (.invokevirtual 30, 3) := by decide +kernel
theorem dL_law_413 : decode cL_law 413 = .ok (.pop2, 1) := by decide +kernel
theorem dL_law_414 : decode cL_law 414 = .ok (.aload_n 2, 1) := by decide +kernel
theorem dL_law_415 : decode cL_law 415 = .ok (.aload_n 0, 1) := by decide +kernel
theorem dL_law_416 : decode cL_law 416 = .ok (.iload_n 3, 1) := by decide +kernel
theorem dL_law_417 : decode cL_law 417 = .ok (.iconst 1, 1) := by decide +kernel
theorem dL_law_418 : decode cL_law 418 = .ok (.iadd, 1) := by decide +kernel
theorem dL_law_419 : decode cL_law 419 = .ok (.iaload, 1) := by decide +kernel
theorem dL_law_420 : decode cL_law 420 = .ok (.aload_n 0, 1) := by decide +kernel
theorem dL_law_421 : decode cL_law 421 = .ok (.iload_n 3, 1) := by decide +kernel
theorem dL_law_422 : decode cL_law 422 = .ok (.iconst 2, 1) := by decide +kernel
theorem dL_law_423 : decode cL_law 423 = .ok (.iadd, 1) := by decide +kernel
theorem dL_law_424 : decode cL_law 424 = .ok (.iaload, 1) := by decide +kernel
theorem dL_law_425 : decode cL_law 425 = .ok (.invokevirtual 34, 3) := by decide +kernel
theorem dL_law_428 : decode cL_law 428 = .ok (.pop2, 1) := by decide +kernel
theorem dL_law_429 : decode cL_law 429 = .ok (.goto 1616, 3) := by decide +kernel
theorem dL_law_432 : decode cL_law 432 = .ok (.aload_n 1, 1) := by decide +kernel
theorem dL_law_433 : decode cL_law 433 = .ok (.aload_n 0, 1) := by decide +kernel
theorem dL_law_434 : decode cL_law 434 = .ok (.iload_n 3, 1) := by decide +kernel
theorem dL_law_435 : decode cL_law 435 = .ok (.iconst 1, 1) := by decide +kernel
theorem dL_law_436 : decode cL_law 436 = .ok (.iadd, 1) := by decide +kernel
theorem dL_law_437 : decode cL_law 437 = .ok (.iaload, 1) := by decide +kernel
theorem dL_law_438 : decode cL_law 438 = .ok (.invokevirtual 35, 3) := by decide +kernel
theorem dL_law_441 : decode cL_law 441 = .ok (.pop, 1) := by decide +kernel
theorem dL_law_442 : decode cL_law 442 = .ok (.aload_n 2, 1) := by decide +kernel
theorem dL_law_443 : decode cL_law 443 = .ok (.aload_n 0, 1) := by decide +kernel
theorem dL_law_444 : decode cL_law 444 = .ok (.iload_n 3, 1) := by decide +kernel
theorem dL_law_445 : decode cL_law 445 = .ok (.iconst 1, 1) := by decide +kernel
theorem dL_law_446 : decode cL_law 446 = .ok (.iadd, 1) := by decide +kernel
theorem dL_law_447 : decode cL_law 447 = .ok (.iaload, 1) := by decide +kernel
theorem dL_law_448 : decode cL_law 448 = .ok (.invokevirtual 39, 3) := by decide +kernel
theorem dL_law_451 : decode cL_law 451 = .ok (.pop, 1) := by decide +kernel
theorem dL_law_452 : decode cL_law 452 = .ok (.goto 1593, 3) := by decide +kernel
theorem dL_law_455 : decode cL_law 455 = .ok (.aload_n 1, 1) := by decide +kernel
theorem dL_law_456 : decode cL_law 456 = .ok (.aload_n 0, 1) := by decide +kernel
theorem dL_law_457 : decode cL_law 457 = .ok (.iload_n 3, 1) := by decide +kernel
theorem dL_law_458 : decode cL_law 458 = .ok (.iconst 1, 1) := by decide +kernel
theorem dL_law_459 : decode cL_law 459 = .ok (.iadd, 1) := by decide +kernel
theorem dL_law_460 : decode cL_law 460 = .ok (.iaload, 1) := by decide +kernel
theorem dL_law_461 : decode cL_law 461 = .ok (.aload_n 0, 1) := by decide +kernel
theorem dL_law_462 : decode cL_law 462 = .ok (.iload_n 3, 1) := by decide +kernel
theorem dL_law_463 : decode cL_law 463 = .ok (.iconst 2, 1) := by decide +kernel
theorem dL_law_464 : decode cL_law 464 = .ok (.iadd, 1) := by decide +kernel
theorem dL_law_465 : decode cL_law 465 = .ok (.iaload, 1) := by decide +kernel
theorem dL_law_466 : decode cL_law 466 = .ok (.invokevirtual 40, 3) := by decide +kernel
theorem dL_law_469 : decode cL_law 469 = .ok (.pop, 1) := by decide +kernel
theorem dL_law_470 : decode cL_law 470 = .ok (.aload_n 2, 1) := by decide +kernel
theorem dL_law_471 : decode cL_law 471 = .ok (.aload_n 0, 1) := by decide +kernel
theorem dL_law_472 : decode cL_law 472 = .ok (.iload_n 3, 1) := by decide +kernel
theorem dL_law_473 : decode cL_law 473 = .ok (.iconst 1, 1) := by decide +kernel
theorem dL_law_474 : decode cL_law 474 = .ok (.iadd, 1) := by decide +kernel
theorem dL_law_475 : decode cL_law 475 = .ok (.iaload, 1) := by decide +kernel
theorem dL_law_476 : decode cL_law 476 = .ok (.aload_n 0, 1) := by decide +kernel
theorem dL_law_477 : decode cL_law 477 = .ok (.iload_n 3, 1) := by decide +kernel
theorem dL_law_478 : decode cL_law 478 = .ok (.iconst 2, 1) := by decide +kernel
theorem dL_law_479 : decode cL_law 479 = .ok (.iadd, 1) := by decide +kernel
theorem dL_law_480 : decode cL_law 480 = .ok (.iaload, 1) := by decide +kernel
theorem dL_law_481 : decode cL_law 481 = .ok (.invokevirtual 44, 3) := by decide +kernel
theorem dL_law_484 : decode cL_law 484 = .ok (.pop, 1) := by decide +kernel
theorem dL_law_485 : decode cL_law 485 = .ok (.goto 1560, 3) := by decide +kernel
theorem dL_law_488 : decode cL_law 488 = .ok (.aload_n 1, 1) := by decide +kernel
theorem dL_law_489 : decode cL_law 489 = .ok (.aload_n 0, 1) := by decide +kernel
theorem dL_law_490 : decode cL_law 490 = .ok (.iload_n 3, 1) := by decide +kernel
theorem dL_law_491 : decode cL_law 491 = .ok (.iconst 1, 1) := by decide +kernel
theorem dL_law_492 : decode cL_law 492 = .ok (.iadd, 1) := by decide +kernel
theorem dL_law_493 : decode cL_law 493 = .ok (.iaload, 1) := by decide +kernel
theorem dL_law_494 : decode cL_law 494 = .ok (.aload_n 0, 1) := by decide +kernel
theorem dL_law_495 : decode cL_law 495 = .ok (.iload_n 3, 1) := by decide +kernel
theorem dL_law_496 : decode cL_law 496 = .ok (.iconst 2, 1) := by decide +kernel
theorem dL_law_497 : decode cL_law 497 = .ok (.iadd, 1) := by decide +kernel
theorem dL_law_498 : decode cL_law 498 = .ok (.iaload, 1) := by decide +kernel
theorem dL_law_499 : decode cL_law 499 = .ok (.invokevirtual 45, 3) := by decide +kernel
theorem dL_law_502 : decode cL_law 502 = .ok (.pop, 1) := by decide +kernel
theorem dL_law_503 : decode cL_law 503 = .ok (.aload_n 2, 1) := by decide +kernel
theorem dL_law_504 : decode cL_law 504 = .ok (.aload_n 0, 1) := by decide +kernel
theorem dL_law_505 : decode cL_law 505 = .ok (.iload_n 3, 1) := by decide +kernel
theorem dL_law_506 : decode cL_law 506 = .ok (.iconst 1, 1) := by decide +kernel
theorem dL_law_507 : decode cL_law 507 = .ok (.iadd, 1) := by decide +kernel
theorem dL_law_508 : decode cL_law 508 = .ok (.iaload, 1) := by decide +kernel
theorem dL_law_509 : decode cL_law 509 = .ok (.aload_n 0, 1) := by decide +kernel
theorem dL_law_510 : decode cL_law 510 = .ok (.iload_n 3, 1) := by decide +kernel
theorem dL_law_511 : decode cL_law 511 = .ok (.iconst 2, 1) := by decide +kernel
theorem dL_law_512 : decode cL_law 512 = .ok (.iadd, 1) := by decide +kernel
theorem dL_law_513 : decode cL_law 513 = .ok (.iaload, 1) := by decide +kernel
theorem dL_law_514 : decode cL_law 514 = .ok (.invokevirtual 48, 3) := by decide +kernel
theorem dL_law_517 : decode cL_law 517 = .ok (.pop, 1) := by decide +kernel
theorem dL_law_518 : decode cL_law 518 = .ok (.goto 1527, 3) := by decide +kernel
theorem dL_law_521 : decode cL_law 521 = .ok (.aload_n 1, 1) := by decide +kernel
theorem dL_law_522 : decode cL_law 522 = .ok (.aload_n 0, 1) := by decide +kernel
theorem dL_law_523 : decode cL_law 523 = .ok (.iload_n 3, 1) := by decide +kernel
theorem dL_law_524 : decode cL_law 524 = .ok (.iconst 1, 1) := by decide +kernel
theorem dL_law_525 : decode cL_law 525 = .ok (.iadd, 1) := by decide +kernel
theorem dL_law_526 : decode cL_law 526 = .ok (.iaload, 1) := by decide +kernel
theorem dL_law_527 : decode cL_law 527 = .ok (.aload_n 0, 1) := by decide +kernel
theorem dL_law_528 : decode cL_law 528 = .ok (.iload_n 3, 1) := by decide +kernel
theorem dL_law_529 : decode cL_law 529 = .ok (.iconst 2, 1) := by decide +kernel
theorem dL_law_530 : decode cL_law 530 = .ok (.iadd, 1) := by decide +kernel
theorem dL_law_531 : decode cL_law 531 = .ok (.iaload, 1) := by decide +kernel
theorem dL_law_532 : decode cL_law 532 = .ok (.aload_n 0, 1) := by decide +kernel
theorem dL_law_533 : decode cL_law 533 = .ok (.iload_n 3, 1) := by decide +kernel
theorem dL_law_534 : decode cL_law 534 = .ok (.iconst 3, 1) := by decide +kernel
theorem dL_law_535 : decode cL_law 535 = .ok (.iadd, 1) := by decide +kernel
theorem dL_law_536 : decode cL_law 536 = .ok (.iaload, 1) := by decide +kernel
theorem dL_law_537 : decode cL_law 537 = .ok (.aload_n 0, 1) := by decide +kernel
theorem dL_law_538 : decode cL_law 538 = .ok (.iload_n 3, 1) := by decide +kernel
theorem dL_law_539 : decode cL_law 539 = .ok (.iconst 4, 1) := by decide +kernel
theorem dL_law_540 : decode cL_law 540 = .ok (.iadd, 1) := by decide +kernel
theorem dL_law_541 : decode cL_law 541 = .ok (.iaload, 1) := by decide +kernel
theorem dL_law_542 : decode cL_law 542 = .ok (.aload_n 0, 1) := by decide +kernel
theorem dL_law_543 : decode cL_law 543 = .ok (.iload_n 3, 1) := by decide +kernel
theorem dL_law_544 : decode cL_law 544 = .ok (.iconst 5, 1) := by decide +kernel
theorem dL_law_545 : decode cL_law 545 = .ok (.iadd, 1) := by decide +kernel
theorem dL_law_546 : decode cL_law 546 = .ok (.iaload, 1) := by decide +kernel
theorem dL_law_547 : decode cL_law 547 = .ok (.aload_n 0, 1) := by decide +kernel
theorem dL_law_548 : decode cL_law 548 = .ok (.iload_n 3, 1) := by decide +kernel
theorem dL_law_549 : decode cL_law 549 = .ok (.bipush 6, 2) := by decide +kernel
theorem dL_law_551 : decode cL_law 551 = .ok (.iadd, 1) := by decide +kernel
theorem dL_law_552 : decode cL_law 552 = .ok (.iaload, 1) := by decide +kernel
theorem dL_law_553 : decode cL_law 553 = .ok (.invokevirtual 49, 3) := by decide +kernel
theorem dL_law_556 : decode cL_law 556 = .ok (.pop, 1) := by decide +kernel
theorem dL_law_557 : decode cL_law 557 = .ok (.aload_n 2, 1) := by decide +kernel
theorem dL_law_558 : decode cL_law 558 = .ok (.aload_n 0, 1) := by decide +kernel
theorem dL_law_559 : decode cL_law 559 = .ok (.iload_n 3, 1) := by decide +kernel
theorem dL_law_560 : decode cL_law 560 = .ok (.iconst 1, 1) := by decide +kernel
theorem dL_law_561 : decode cL_law 561 = .ok (.iadd, 1) := by decide +kernel
theorem dL_law_562 : decode cL_law 562 = .ok (.iaload, 1) := by decide +kernel
theorem dL_law_563 : decode cL_law 563 = .ok (.aload_n 0, 1) := by decide +kernel
theorem dL_law_564 : decode cL_law 564 = .ok (.iload_n 3, 1) := by decide +kernel
theorem dL_law_565 : decode cL_law 565 = .ok (.iconst 2, 1) := by decide +kernel
theorem dL_law_566 : decode cL_law 566 = .ok (.iadd, 1) := by decide +kernel
theorem dL_law_567 : decode cL_law 567 = .ok (.iaload, 1) := by decide +kernel
theorem dL_law_568 : decode cL_law 568 = .ok (.aload_n 0, 1) := by decide +kernel
theorem dL_law_569 : decode cL_law 569 = .ok (.iload_n 3, 1) := by decide +kernel
theorem dL_law_570 : decode cL_law 570 = .ok (.iconst 3, 1) := by decide +kernel
theorem dL_law_571 : decode cL_law 571 = .ok (.iadd, 1) := by decide +kernel
theorem dL_law_572 : decode cL_law 572 = .ok (.iaload, 1) := by decide +kernel
theorem dL_law_573 : decode cL_law 573 = .ok (.aload_n 0, 1) := by decide +kernel
theorem dL_law_574 : decode cL_law 574 = .ok (.iload_n 3, 1) := by decide +kernel
theorem dL_law_575 : decode cL_law 575 = .ok (.iconst 4, 1) := by decide +kernel
theorem dL_law_576 : decode cL_law 576 = .ok (.iadd, 1) := by decide +kernel
theorem dL_law_577 : decode cL_law 577 = .ok (.iaload, 1) := by decide +kernel
theorem dL_law_578 : decode cL_law 578 = .ok (.aload_n 0, 1) := by decide +kernel
theorem dL_law_579 : decode cL_law 579 = .ok (.iload_n 3, 1) := by decide +kernel
theorem dL_law_580 : decode cL_law 580 = .ok (.iconst 5, 1) := by decide +kernel
theorem dL_law_581 : decode cL_law 581 = .ok (.iadd, 1) := by decide +kernel
theorem dL_law_582 : decode cL_law 582 = .ok (.iaload, 1) := by decide +kernel
theorem dL_law_583 : decode cL_law 583 = .ok (.aload_n 0, 1) := by decide +kernel
theorem dL_law_584 : decode cL_law 584 = .ok (.iload_n 3, 1) := by decide +kernel
theorem dL_law_585 : decode cL_law 585 = .ok (.bipush 6, 2) := by decide +kernel
theorem dL_law_587 : decode cL_law 587 = .ok (.iadd, 1) := by decide +kernel
theorem dL_law_588 : decode cL_law 588 = .ok (.iaload, 1) := by decide +kernel
theorem dL_law_589 : decode cL_law 589 = .ok (.invokevirtual 53, 3) := by decide +kernel
theorem dL_law_592 : decode cL_law 592 = .ok (.pop, 1) := by decide +kernel
theorem dL_law_593 : decode cL_law 593 = .ok (.goto 1452, 3) := by decide +kernel
theorem dL_law_596 : decode cL_law 596 = .ok (.aload_n 1, 1) := by decide +kernel
theorem dL_law_597 : decode cL_law 597 = .ok (.aload_n 0, 1) := by decide +kernel
theorem dL_law_598 : decode cL_law 598 = .ok (.iload_n 3, 1) := by decide +kernel
theorem dL_law_599 : decode cL_law 599 = .ok (.iconst 1, 1) := by decide +kernel
theorem dL_law_600 : decode cL_law 600 = .ok (.iadd, 1) := by decide +kernel
theorem dL_law_601 : decode cL_law 601 = .ok (.iaload, 1) := by decide +kernel
theorem dL_law_602 : decode cL_law 602 = .ok (.aload_n 0, 1) := by decide +kernel
theorem dL_law_603 : decode cL_law 603 = .ok (.iload_n 3, 1) := by decide +kernel
theorem dL_law_604 : decode cL_law 604 = .ok (.iconst 2, 1) := by decide +kernel
theorem dL_law_605 : decode cL_law 605 = .ok (.iadd, 1) := by decide +kernel
theorem dL_law_606 : decode cL_law 606 = .ok (.iaload, 1) := by decide +kernel
theorem dL_law_607 : decode cL_law 607 = .ok (.aload_n 0, 1) := by decide +kernel
theorem dL_law_608 : decode cL_law 608 = .ok (.iload_n 3, 1) := by decide +kernel
theorem dL_law_609 : decode cL_law 609 = .ok (.iconst 3, 1) := by decide +kernel
theorem dL_law_610 : decode cL_law 610 = .ok (.iadd, 1) := by decide +kernel
theorem dL_law_611 : decode cL_law 611 = .ok (.iaload, 1) := by decide +kernel
theorem dL_law_612 : decode cL_law 612 = .ok (.aload_n 0, 1) := by decide +kernel
theorem dL_law_613 : decode cL_law 613 = .ok (.iload_n 3, 1) := by decide +kernel
theorem dL_law_614 : decode cL_law 614 = .ok (.iconst 4, 1) := by decide +kernel
theorem dL_law_615 : decode cL_law 615 = .ok (.iadd, 1) := by decide +kernel
theorem dL_law_616 : decode cL_law 616 = .ok (.iaload, 1) := by decide +kernel
theorem dL_law_617 : decode cL_law 617 = .ok (.aload_n 0, 1) := by decide +kernel
theorem dL_law_618 : decode cL_law 618 = .ok (.iload_n 3, 1) := by decide +kernel
theorem dL_law_619 : decode cL_law 619 = .ok (.iconst 5, 1) := by decide +kernel
theorem dL_law_620 : decode cL_law 620 = .ok (.iadd, 1) := by decide +kernel
theorem dL_law_621 : decode cL_law 621 = .ok (.iaload, 1) := by decide +kernel
theorem dL_law_622 : decode cL_law 622 = .ok (.invokevirtual 54, 3) := by decide +kernel
theorem dL_law_625 : decode cL_law 625 = .ok (.pop, 1) := by decide +kernel
theorem dL_law_626 : decode cL_law 626 = .ok (.aload_n 2, 1) := by decide +kernel
theorem dL_law_627 : decode cL_law 627 = .ok (.aload_n 0, 1) := by decide +kernel
theorem dL_law_628 : decode cL_law 628 = .ok (.iload_n 3, 1) := by decide +kernel
theorem dL_law_629 : decode cL_law 629 = .ok (.iconst 1, 1) := by decide +kernel
theorem dL_law_630 : decode cL_law 630 = .ok (.iadd, 1) := by decide +kernel
theorem dL_law_631 : decode cL_law 631 = .ok (.iaload, 1) := by decide +kernel
theorem dL_law_632 : decode cL_law 632 = .ok (.aload_n 0, 1) := by decide +kernel
theorem dL_law_633 : decode cL_law 633 = .ok (.iload_n 3, 1) := by decide +kernel
theorem dL_law_634 : decode cL_law 634 = .ok (.iconst 2, 1) := by decide +kernel
theorem dL_law_635 : decode cL_law 635 = .ok (.iadd, 1) := by decide +kernel
theorem dL_law_636 : decode cL_law 636 = .ok (.iaload, 1) := by decide +kernel
theorem dL_law_637 : decode cL_law 637 = .ok (.aload_n 0, 1) := by decide +kernel
theorem dL_law_638 : decode cL_law 638 = .ok (.iload_n 3, 1) := by decide +kernel
theorem dL_law_639 : decode cL_law 639 = .ok (.iconst 3, 1) := by decide +kernel
theorem dL_law_640 : decode cL_law 640 = .ok (.iadd, 1) := by decide +kernel
theorem dL_law_641 : decode cL_law 641 = .ok (.iaload, 1) := by decide +kernel
theorem dL_law_642 : decode cL_law 642 = .ok (.aload_n 0, 1) := by decide +kernel
theorem dL_law_643 : decode cL_law 643 = .ok (.iload_n 3, 1) := by decide +kernel
theorem dL_law_644 : decode cL_law 644 = .ok (.iconst 4, 1) := by decide +kernel
theorem dL_law_645 : decode cL_law 645 = .ok (.iadd, 1) := by decide +kernel
theorem dL_law_646 : decode cL_law 646 = .ok (.iaload, 1) := by decide +kernel
theorem dL_law_647 : decode cL_law 647 = .ok (.aload_n 0, 1) := by decide +kernel
theorem dL_law_648 : decode cL_law 648 = .ok (.iload_n 3, 1) := by decide +kernel
theorem dL_law_649 : decode cL_law 649 = .ok (.iconst 5, 1) := by decide +kernel
theorem dL_law_650 : decode cL_law 650 = .ok (.iadd, 1) := by decide +kernel
theorem dL_law_651 : decode cL_law 651 = .ok (.iaload, 1) := by decide +kernel
theorem dL_law_652 : decode cL_law 652 = .ok (.invokevirtual 57, 3) := by decide +kernel
theorem dL_law_655 : decode cL_law 655 = .ok (.pop, 1) := by decide +kernel
theorem dL_law_656 : decode cL_law 656 = .ok (.goto 1389, 3) := by decide +kernel
theorem dL_law_659 : decode cL_law 659 = .ok (.aload_n 1, 1) := by decide +kernel
theorem dL_law_660 : decode cL_law 660 = .ok (.aload_n 0, 1) := by decide +kernel
theorem dL_law_661 : decode cL_law 661 = .ok (.iload_n 3, 1) := by decide +kernel
theorem dL_law_662 : decode cL_law 662 = .ok (.iconst 1, 1) := by decide +kernel
theorem dL_law_663 : decode cL_law 663 = .ok (.iadd, 1) := by decide +kernel
theorem dL_law_664 : decode cL_law 664 = .ok (.iaload, 1) := by decide +kernel
theorem dL_law_665 : decode cL_law 665 = .ok (.aload_n 0, 1) := by decide +kernel
theorem dL_law_666 : decode cL_law 666 = .ok (.iload_n 3, 1) := by decide +kernel
theorem dL_law_667 : decode cL_law 667 = .ok (.iconst 2, 1) := by decide +kernel
theorem dL_law_668 : decode cL_law 668 = .ok (.iadd, 1) := by decide +kernel
theorem dL_law_669 : decode cL_law 669 = .ok (.iaload, 1) := by decide +kernel
theorem dL_law_670 : decode cL_law 670 = .ok (.aload_n 0, 1) := by decide +kernel
theorem dL_law_671 : decode cL_law 671 = .ok (.iload_n 3, 1) := by decide +kernel
theorem dL_law_672 : decode cL_law 672 = .ok (.iconst 3, 1) := by decide +kernel
theorem dL_law_673 : decode cL_law 673 = .ok (.iadd, 1) := by decide +kernel
theorem dL_law_674 : decode cL_law 674 = .ok (.iaload, 1) := by decide +kernel
theorem dL_law_675 : decode cL_law 675 = .ok (.invokevirtual 58, 3) := by decide +kernel
theorem dL_law_678 : decode cL_law 678 = .ok (.pop, 1) := by decide +kernel
theorem dL_law_679 : decode cL_law 679 = .ok (.aload_n 2, 1) := by decide +kernel
theorem dL_law_680 : decode cL_law 680 = .ok (.aload_n 0, 1) := by decide +kernel
theorem dL_law_681 : decode cL_law 681 = .ok (.iload_n 3, 1) := by decide +kernel
theorem dL_law_682 : decode cL_law 682 = .ok (.iconst 1, 1) := by decide +kernel
theorem dL_law_683 : decode cL_law 683 = .ok (.iadd, 1) := by decide +kernel
theorem dL_law_684 : decode cL_law 684 = .ok (.iaload, 1) := by decide +kernel
theorem dL_law_685 : decode cL_law 685 = .ok (.aload_n 0, 1) := by decide +kernel
theorem dL_law_686 : decode cL_law 686 = .ok (.iload_n 3, 1) := by decide +kernel
theorem dL_law_687 : decode cL_law 687 = .ok (.iconst 2, 1) := by decide +kernel
theorem dL_law_688 : decode cL_law 688 = .ok (.iadd, 1) := by decide +kernel
theorem dL_law_689 : decode cL_law 689 = .ok (.iaload, 1) := by decide +kernel
theorem dL_law_690 : decode cL_law 690 = .ok (.aload_n 0, 1) := by decide +kernel
theorem dL_law_691 : decode cL_law 691 = .ok (.iload_n 3, 1) := by decide +kernel
theorem dL_law_692 : decode cL_law 692 = .ok (.iconst 3, 1) := by decide +kernel
theorem dL_law_693 : decode cL_law 693 = .ok (.iadd, 1) := by decide +kernel
theorem dL_law_694 : decode cL_law 694 = .ok (.iaload, 1) := by decide +kernel
theorem dL_law_695 : decode cL_law 695 = .ok (.invokevirtual 61, 3) := by decide +kernel
theorem dL_law_698 : decode cL_law 698 = .ok (.pop, 1) := by decide +kernel
theorem dL_law_699 : decode cL_law 699 = .ok (.goto 1346, 3) := by decide +kernel
theorem dL_law_702 : decode cL_law 702 = .ok (.aload_n 1, 1) := by decide +kernel
theorem dL_law_703 : decode cL_law 703 = .ok (.aload_n 0, 1) := by decide +kernel
theorem dL_law_704 : decode cL_law 704 = .ok (.iload_n 3, 1) := by decide +kernel
theorem dL_law_705 : decode cL_law 705 = .ok (.iconst 1, 1) := by decide +kernel
theorem dL_law_706 : decode cL_law 706 = .ok (.iadd, 1) := by decide +kernel
theorem dL_law_707 : decode cL_law 707 = .ok (.iaload, 1) := by decide +kernel
theorem dL_law_708 : decode cL_law 708 = .ok (.aload_n 0, 1) := by decide +kernel
theorem dL_law_709 : decode cL_law 709 = .ok (.iload_n 3, 1) := by decide +kernel
theorem dL_law_710 : decode cL_law 710 = .ok (.iconst 2, 1) := by decide +kernel
theorem dL_law_711 : decode cL_law 711 = .ok (.iadd, 1) := by decide +kernel
theorem dL_law_712 : decode cL_law 712 = .ok (.iaload, 1) := by decide +kernel
theorem dL_law_713 : decode cL_law 713 = .ok (.aload_n 0, 1) := by decide +kernel
theorem dL_law_714 : decode cL_law 714 = .ok (.iload_n 3, 1) := by decide +kernel
theorem dL_law_715 : decode cL_law 715 = .ok (.iconst 3, 1) := by decide +kernel
theorem dL_law_716 : decode cL_law 716 = .ok (.iadd, 1) := by decide +kernel
theorem dL_law_717 : decode cL_law 717 = .ok (.iaload, 1) := by decide +kernel
theorem dL_law_718 : decode cL_law 718 = .ok (.invokevirtual 62, 3) := by decide +kernel
theorem dL_law_721 : decode cL_law 721 = .ok (.pop, 1) := by decide +kernel
theorem dL_law_722 : decode cL_law 722 = .ok (.aload_n 2, 1) := by decide +kernel
theorem dL_law_723 : decode cL_law 723 = .ok (.aload_n 0, 1) := by decide +kernel
theorem dL_law_724 : decode cL_law 724 = .ok (.iload_n 3, 1) := by decide +kernel
theorem dL_law_725 : decode cL_law 725 = .ok (.iconst 1, 1) := by decide +kernel
theorem dL_law_726 : decode cL_law 726 = .ok (.iadd, 1) := by decide +kernel
theorem dL_law_727 : decode cL_law 727 = .ok (.iaload, 1) := by decide +kernel
theorem dL_law_728 : decode cL_law 728 = .ok (.aload_n 0, 1) := by decide +kernel
theorem dL_law_729 : decode cL_law 729 = .ok (.iload_n 3, 1) := by decide +kernel
theorem dL_law_730 : decode cL_law 730 = .ok (.iconst 2, 1) := by decide +kernel
theorem dL_law_731 : decode cL_law 731 = .ok (.iadd, 1) := by decide +kernel
theorem dL_law_732 : decode cL_law 732 = .ok (.iaload, 1) := by decide +kernel
theorem dL_law_733 : decode cL_law 733 = .ok (.aload_n 0, 1) := by decide +kernel
theorem dL_law_734 : decode cL_law 734 = .ok (.iload_n 3, 1) := by decide +kernel
theorem dL_law_735 : decode cL_law 735 = .ok (.iconst 3, 1) := by decide +kernel
theorem dL_law_736 : decode cL_law 736 = .ok (.iadd, 1) := by decide +kernel
theorem dL_law_737 : decode cL_law 737 = .ok (.iaload, 1) := by decide +kernel
theorem dL_law_738 : decode cL_law 738 = .ok (.invokevirtual 65, 3) := by decide +kernel
theorem dL_law_741 : decode cL_law 741 = .ok (.pop, 1) := by decide +kernel
theorem dL_law_742 : decode cL_law 742 = .ok (.goto 1303, 3) := by decide +kernel
theorem dL_law_745 : decode cL_law 745 = .ok (.aload_n 1, 1) := by decide +kernel
theorem dL_law_746 : decode cL_law 746 = .ok (.aload_n 0, 1) := by decide +kernel
theorem dL_law_747 : decode cL_law 747 = .ok (.iload_n 3, 1) := by decide +kernel
theorem dL_law_748 : decode cL_law 748 = .ok (.iconst 1, 1) := by decide +kernel
theorem dL_law_749 : decode cL_law 749 = .ok (.iadd, 1) := by decide +kernel
theorem dL_law_750 : decode cL_law 750 = .ok (.iaload, 1) := by decide +kernel
theorem dL_law_751 : decode cL_law 751 = .ok (.aload_n 0, 1) := by decide +kernel
theorem dL_law_752 : decode cL_law 752 = .ok (.iload_n 3, 1) := by decide +kernel
theorem dL_law_753 : decode cL_law 753 = .ok (.iconst 2, 1) := by decide +kernel
theorem dL_law_754 : decode cL_law 754 = .ok (.iadd, 1) := by decide +kernel
theorem dL_law_755 : decode cL_law 755 = .ok (.iaload, 1) := by decide +kernel
theorem dL_law_756 : decode cL_law 756 = .ok (.invokevirtual 66, 3) := by decide +kernel
theorem dL_law_759 : decode cL_law 759 = .ok (.pop, 1) := by decide +kernel
theorem dL_law_760 : decode cL_law 760 = .ok (.aload_n 2, 1) := by decide +kernel
theorem dL_law_761 : decode cL_law 761 = .ok (.aload_n 0, 1) := by decide +kernel
theorem dL_law_762 : decode cL_law 762 = .ok (.iload_n 3, 1) := by decide +kernel
theorem dL_law_763 : decode cL_law 763 = .ok (.iconst 1, 1) := by decide +kernel
theorem dL_law_764 : decode cL_law 764 = .ok (.iadd, 1) := by decide +kernel
theorem dL_law_765 : decode cL_law 765 = .ok (.iaload, 1) := by decide +kernel
theorem dL_law_766 : decode cL_law 766 = .ok (.aload_n 0, 1) := by decide +kernel
theorem dL_law_767 : decode cL_law 767 = .ok (.iload_n 3, 1) := by decide +kernel
theorem dL_law_768 : decode cL_law 768 = .ok (.iconst 2, 1) := by decide +kernel
theorem dL_law_769 : decode cL_law 769 = .ok (.iadd, 1) := by decide +kernel
theorem dL_law_770 : decode cL_law 770 = .ok (.iaload, 1) := by decide +kernel
theorem dL_law_771 : decode cL_law 771 = .ok (.invokevirtual 69, 3) := by decide +kernel
theorem dL_law_774 : decode cL_law 774 = .ok (.pop, 1) := by decide +kernel
theorem dL_law_775 : decode cL_law 775 = .ok (.goto 1270, 3) := by decide +kernel
theorem dL_law_778 : decode cL_law 778 = .ok (.aload_n 1, 1) := by decide +kernel
theorem dL_law_779 : decode cL_law 779 = .ok (.aload_n 0, 1) := by decide +kernel
theorem dL_law_780 : decode cL_law 780 = .ok (.iload_n 3, 1) := by decide +kernel
theorem dL_law_781 : decode cL_law 781 = .ok (.iconst 1, 1) := by decide +kernel
theorem dL_law_782 : decode cL_law 782 = .ok (.iadd, 1) := by decide +kernel
theorem dL_law_783 : decode cL_law 783 = .ok (.iaload, 1) := by decide +kernel
theorem dL_law_784 : decode cL_law 784 = .ok (.aload_n 0, 1) := by decide +kernel
theorem dL_law_785 : decode cL_law 785 = .ok (.iload_n 3, 1) := by decide +kernel
theorem dL_law_786 : decode cL_law 786 = .ok (.iconst 2, 1) := by decide +kernel
theorem dL_law_787 : decode cL_law 787 = .ok (.iadd, 1) := by decide +kernel
theorem dL_law_788 : decode cL_law 788 = .ok (.iaload, 1) := by decide +kernel
theorem dL_law_789 : decode cL_law 789 = .ok (.invokevirtual 70, 3) := by decide +kernel
theorem dL_law_792 : decode cL_law 792 = .ok (.pop, 1) := by decide +kernel
theorem dL_law_793 : decode cL_law 793 = .ok (.aload_n 2, 1) := by decide +kernel
theorem dL_law_794 : decode cL_law 794 = .ok (.aload_n 0, 1) := by decide +kernel
theorem dL_law_795 : decode cL_law 795 = .ok (.iload_n 3, 1) := by decide +kernel
theorem dL_law_796 : decode cL_law 796 = .ok (.iconst 1, 1) := by decide +kernel
theorem dL_law_797 : decode cL_law 797 = .ok (.iadd, 1) := by decide +kernel
theorem dL_law_798 : decode cL_law 798 = .ok (.iaload, 1) := by decide +kernel
theorem dL_law_799 : decode cL_law 799 = .ok (.aload_n 0, 1) := by decide +kernel
theorem dL_law_800 : decode cL_law 800 = .ok (.iload_n 3, 1) := by decide +kernel
theorem dL_law_801 : decode cL_law 801 = .ok (.iconst 2, 1) := by decide +kernel
theorem dL_law_802 : decode cL_law 802 = .ok (.iadd, 1) := by decide +kernel
theorem dL_law_803 : decode cL_law 803 = .ok (.iaload, 1) := by decide +kernel
theorem dL_law_804 : decode cL_law 804 = .ok (.invokevirtual 73, 3) := by decide +kernel
theorem dL_law_807 : decode cL_law 807 = .ok (.pop, 1) := by decide +kernel
theorem dL_law_808 : decode cL_law 808 = .ok (.goto 1237, 3) := by decide +kernel
theorem dL_law_811 : decode cL_law 811 = .ok (.aload_n 1, 1) := by decide +kernel
theorem dL_law_812 : decode cL_law 812 = .ok (.aload_n 0, 1) := by decide +kernel
theorem dL_law_813 : decode cL_law 813 = .ok (.iload_n 3, 1) := by decide +kernel
theorem dL_law_814 : decode cL_law 814 = .ok (.iconst 1, 1) := by decide +kernel
theorem dL_law_815 : decode cL_law 815 = .ok (.iadd, 1) := by decide +kernel
theorem dL_law_816 : decode cL_law 816 = .ok (.iaload, 1) := by decide +kernel
theorem dL_law_817 : decode cL_law 817 = .ok (.aload_n 0, 1) := by decide +kernel
theorem dL_law_818 : decode cL_law 818 = .ok (.iload_n 3, 1) := by decide +kernel
theorem dL_law_819 : decode cL_law 819 = .ok (.iconst 2, 1) := by decide +kernel
theorem dL_law_820 : decode cL_law 820 = .ok (.iadd, 1) := by decide +kernel
theorem dL_law_821 : decode cL_law 821 = .ok (.iaload, 1) := by decide +kernel
theorem dL_law_822 : decode cL_law 822 = .ok (.aload_n 0, 1) := by decide +kernel
theorem dL_law_823 : decode cL_law 823 = .ok (.iload_n 3, 1) := by decide +kernel
theorem dL_law_824 : decode cL_law 824 = .ok (.iconst 3, 1) := by decide +kernel
theorem dL_law_825 : decode cL_law 825 = .ok (.iadd, 1) := by decide +kernel
theorem dL_law_826 : decode cL_law 826 = .ok (.iaload, 1) := by decide +kernel
theorem dL_law_827 : decode cL_law 827 = .ok (.ifCond .eq 7, 3) := by decide +kernel
theorem dL_law_830 : decode cL_law 830 = .ok (.iconst 1, 1) := by decide +kernel
theorem dL_law_831 : decode cL_law 831 = .ok (.goto 4, 3) := by decide +kernel
theorem dL_law_834 : decode cL_law 834 = .ok (.iconst 0, 1) := by decide +kernel
theorem dL_law_835 : decode cL_law 835 = .ok (.invokevirtual 74, 3) := by decide +kernel
theorem dL_law_838 : decode cL_law 838 = .ok (.pop, 1) := by decide +kernel
theorem dL_law_839 : decode cL_law 839 = .ok (.aload_n 2, 1) := by decide +kernel
theorem dL_law_840 : decode cL_law 840 = .ok (.aload_n 0, 1) := by decide +kernel
theorem dL_law_841 : decode cL_law 841 = .ok (.iload_n 3, 1) := by decide +kernel
theorem dL_law_842 : decode cL_law 842 = .ok (.iconst 1, 1) := by decide +kernel
theorem dL_law_843 : decode cL_law 843 = .ok (.iadd, 1) := by decide +kernel
theorem dL_law_844 : decode cL_law 844 = .ok (.iaload, 1) := by decide +kernel
theorem dL_law_845 : decode cL_law 845 = .ok (.aload_n 0, 1) := by decide +kernel
theorem dL_law_846 : decode cL_law 846 = .ok (.iload_n 3, 1) := by decide +kernel
theorem dL_law_847 : decode cL_law 847 = .ok (.iconst 2, 1) := by decide +kernel
theorem dL_law_848 : decode cL_law 848 = .ok (.iadd, 1) := by decide +kernel
theorem dL_law_849 : decode cL_law 849 = .ok (.iaload, 1) := by decide +kernel
theorem dL_law_850 : decode cL_law 850 = .ok (.aload_n 0, 1) := by decide +kernel
theorem dL_law_851 : decode cL_law 851 = .ok (.iload_n 3, 1) := by decide +kernel
theorem dL_law_852 : decode cL_law 852 = .ok (.iconst 3, 1) := by decide +kernel
theorem dL_law_853 : decode cL_law 853 = .ok (.iadd, 1) := by decide +kernel
theorem dL_law_854 : decode cL_law 854 = .ok (.iaload, 1) := by decide +kernel
theorem dL_law_855 : decode cL_law 855 = .ok (.ifCond .eq 7, 3) := by decide +kernel
theorem dL_law_858 : decode cL_law 858 = .ok (.iconst 1, 1) := by decide +kernel
theorem dL_law_859 : decode cL_law 859 = .ok (.goto 4, 3) := by decide +kernel
theorem dL_law_862 : decode cL_law 862 = .ok (.iconst 0, 1) := by decide +kernel
theorem dL_law_863 : decode cL_law 863 = .ok (.invokevirtual 78, 3) := by decide +kernel
theorem dL_law_866 : decode cL_law 866 = .ok (.pop, 1) := by decide +kernel
theorem dL_law_867 : decode cL_law 867 = .ok (.goto 1178, 3) := by decide +kernel
theorem dL_law_870 : decode cL_law 870 = .ok (.aload_n 1, 1) := by decide +kernel
theorem dL_law_871 : decode cL_law 871 = .ok (.aload_n 0, 1) := by decide +kernel
theorem dL_law_872 : decode cL_law 872 = .ok (.iload_n 3, 1) := by decide +kernel
theorem dL_law_873 : decode cL_law 873 = .ok (.iconst 1, 1) := by decide +kernel
theorem dL_law_874 : decode cL_law 874 = .ok (.iadd, 1) := by decide +kernel
theorem dL_law_875 : decode cL_law 875 = .ok (.iaload, 1) := by decide +kernel
theorem dL_law_876 : decode cL_law 876 = .ok (.aload_n 0, 1) := by decide +kernel
theorem dL_law_877 : decode cL_law 877 = .ok (.iload_n 3, 1) := by decide +kernel
theorem dL_law_878 : decode cL_law 878 = .ok (.iconst 2, 1) := by decide +kernel
theorem dL_law_879 : decode cL_law 879 = .ok (.iadd, 1) := by decide +kernel
theorem dL_law_880 : decode cL_law 880 = .ok (.iaload, 1) := by decide +kernel
theorem dL_law_881 : decode cL_law 881 = .ok (.ifCond .eq 7, 3) := by decide +kernel
theorem dL_law_884 : decode cL_law 884 = .ok (.iconst 1, 1) := by decide +kernel
theorem dL_law_885 : decode cL_law 885 = .ok (.goto 4, 3) := by decide +kernel
theorem dL_law_888 : decode cL_law 888 = .ok (.iconst 0, 1) := by decide +kernel
theorem dL_law_889 : decode cL_law 889 = .ok (.invokevirtual 79, 3) := by decide +kernel
theorem dL_law_892 : decode cL_law 892 = .ok (.pop, 1) := by decide +kernel
theorem dL_law_893 : decode cL_law 893 = .ok (.aload_n 2, 1) := by decide +kernel
theorem dL_law_894 : decode cL_law 894 = .ok (.aload_n 0, 1) := by decide +kernel
theorem dL_law_895 : decode cL_law 895 = .ok (.iload_n 3, 1) := by decide +kernel
theorem dL_law_896 : decode cL_law 896 = .ok (.iconst 1, 1) := by decide +kernel
theorem dL_law_897 : decode cL_law 897 = .ok (.iadd, 1) := by decide +kernel
theorem dL_law_898 : decode cL_law 898 = .ok (.iaload, 1) := by decide +kernel
theorem dL_law_899 : decode cL_law 899 = .ok (.aload_n 0, 1) := by decide +kernel
theorem dL_law_900 : decode cL_law 900 = .ok (.iload_n 3, 1) := by decide +kernel
theorem dL_law_901 : decode cL_law 901 = .ok (.iconst 2, 1) := by decide +kernel
theorem dL_law_902 : decode cL_law 902 = .ok (.iadd, 1) := by decide +kernel
theorem dL_law_903 : decode cL_law 903 = .ok (.iaload, 1) := by decide +kernel
theorem dL_law_904 : decode cL_law 904 = .ok (.ifCond .eq 7, 3) := by decide +kernel
theorem dL_law_907 : decode cL_law 907 = .ok (.iconst 1, 1) := by decide +kernel
theorem dL_law_908 : decode cL_law 908 = .ok (.goto 4, 3) := by decide +kernel
theorem dL_law_911 : decode cL_law 911 = .ok (.iconst 0, 1) := by decide +kernel
theorem dL_law_912 : decode cL_law 912 = .ok (.invokevirtual 83, 3) := by decide +kernel
theorem dL_law_915 : decode cL_law 915 = .ok (.pop, 1) := by decide +kernel
theorem dL_law_916 : decode cL_law 916 = .ok (.goto 1129, 3) := by decide +kernel
theorem dL_law_919 : decode cL_law 919 = .ok (.aload_n 1, 1) := by decide +kernel
theorem dL_law_920 : decode cL_law 920 = .ok (.aload_n 0, 1) := by decide +kernel
theorem dL_law_921 : decode cL_law 921 = .ok (.iload_n 3, 1) := by decide +kernel
theorem dL_law_922 : decode cL_law 922 = .ok (.iconst 1, 1) := by decide +kernel
theorem dL_law_923 : decode cL_law 923 = .ok (.iadd, 1) := by decide +kernel
theorem dL_law_924 : decode cL_law 924 = .ok (.iaload, 1) := by decide +kernel
theorem dL_law_925 : decode cL_law 925 = .ok (.aload_n 0, 1) := by decide +kernel
theorem dL_law_926 : decode cL_law 926 = .ok (.iload_n 3, 1) := by decide +kernel
theorem dL_law_927 : decode cL_law 927 = .ok (.iconst 2, 1) := by decide +kernel
theorem dL_law_928 : decode cL_law 928 = .ok (.iadd, 1) := by decide +kernel
theorem dL_law_929 : decode cL_law 929 = .ok (.iaload, 1) := by decide +kernel
theorem dL_law_930 : decode cL_law 930 = .ok (.invokevirtual 84, 3) := by decide +kernel
theorem dL_law_933 : decode cL_law 933 = .ok (.pop, 1) := by decide +kernel
theorem dL_law_934 : decode cL_law 934 = .ok (.aload_n 2, 1) := by decide +kernel
theorem dL_law_935 : decode cL_law 935 = .ok (.aload_n 0, 1) := by decide +kernel
theorem dL_law_936 : decode cL_law 936 = .ok (.iload_n 3, 1) := by decide +kernel
theorem dL_law_937 : decode cL_law 937 = .ok (.iconst 1, 1) := by decide +kernel
theorem dL_law_938 : decode cL_law 938 = .ok (.iadd, 1) := by decide +kernel
theorem dL_law_939 : decode cL_law 939 = .ok (.iaload, 1) := by decide +kernel
theorem dL_law_940 : decode cL_law 940 = .ok (.aload_n 0, 1) := by decide +kernel
theorem dL_law_941 : decode cL_law 941 = .ok (.iload_n 3, 1) := by decide +kernel
theorem dL_law_942 : decode cL_law 942 = .ok (.iconst 2, 1) := by decide +kernel
theorem dL_law_943 : decode cL_law 943 = .ok (.iadd, 1) := by decide +kernel
theorem dL_law_944 : decode cL_law 944 = .ok (.iaload, 1) := by decide +kernel
theorem dL_law_945 : decode cL_law 945 = .ok (.invokevirtual 87, 3) := by decide +kernel
theorem dL_law_948 : decode cL_law 948 = .ok (.pop, 1) := by decide +kernel
theorem dL_law_949 : decode cL_law 949 = .ok (.goto 1096, 3) := by decide +kernel
theorem dL_law_952 : decode cL_law 952 = .ok (.aload_n 1, 1) := by decide +kernel
theorem dL_law_953 : decode cL_law 953 = .ok (.invokevirtual 88, 3) := by decide +kernel
theorem dL_law_956 : decode cL_law 956 = .ok (.aload_n 2, 1) := by decide +kernel
theorem dL_law_957 : decode cL_law 957 = .ok (.invokevirtual 92, 3) := by decide +kernel
theorem dL_law_960 : decode cL_law 960 = .ok (.if_icmp .eq 1085, 3) := by decide +kernel
theorem dL_law_965 : decode cL_law 965 = .ok (.aload_n 1, 1) := by decide +kernel
theorem dL_law_966 : decode cL_law 966 = .ok (.invokevirtual 93, 3) := by decide +kernel
theorem dL_law_969 : decode cL_law 969 = .ok (.pop, 1) := by decide +kernel
theorem dL_law_970 : decode cL_law 970 = .ok (.aload_n 2, 1) := by decide +kernel
theorem dL_law_971 : decode cL_law 971 = .ok (.invokevirtual 96, 3) := by decide +kernel
theorem dL_law_974 : decode cL_law 974 = .ok (.pop, 1) := by decide +kernel
theorem dL_law_975 : decode cL_law 975 = .ok (.goto 1070, 3) := by decide +kernel
theorem dL_law_978 : decode cL_law 978 = .ok (.aload_n 1, 1) := by decide +kernel
theorem dL_law_979 : decode cL_law 979 = .ok (.aload_n 0, 1) := by decide +kernel
theorem dL_law_980 : decode cL_law 980 = .ok (.iload_n 3, 1) := by decide +kernel
theorem dL_law_981 : decode cL_law 981 = .ok (.iconst 1, 1) := by decide +kernel
theorem dL_law_982 : decode cL_law 982 = .ok (.iadd, 1) := by decide +kernel
theorem dL_law_983 : decode cL_law 983 = .ok (.iaload, 1) := by decide +kernel
theorem dL_law_984 : decode cL_law 984 = .ok (.aload_n 0, 1) := by decide +kernel
theorem dL_law_985 : decode cL_law 985 = .ok (.iload_n 3, 1) := by decide +kernel
theorem dL_law_986 : decode cL_law 986 = .ok (.iconst 2, 1) := by decide +kernel
theorem dL_law_987 : decode cL_law 987 = .ok (.iadd, 1) := by decide +kernel
theorem dL_law_988 : decode cL_law 988 = .ok (.iaload, 1) := by decide +kernel
theorem dL_law_989 : decode cL_law 989 = .ok (.invokevirtual 97, 3) := by decide +kernel
theorem dL_law_992 : decode cL_law 992 = .ok (.pop, 1) := by decide +kernel
theorem dL_law_993 : decode cL_law 993 = .ok (.aload_n 2, 1) := by decide +kernel
theorem dL_law_994 : decode cL_law 994 = .ok (.aload_n 0, 1) := by decide +kernel
theorem dL_law_995 : decode cL_law 995 = .ok (.iload_n 3, 1) := by decide +kernel
theorem dL_law_996 : decode cL_law 996 = .ok (.iconst 1, 1) := by decide +kernel
theorem dL_law_997 : decode cL_law 997 = .ok (.iadd, 1) := by decide +kernel
theorem dL_law_998 : decode cL_law 998 = .ok (.iaload, 1) := by decide +kernel
theorem dL_law_999 : decode cL_law 999 = .ok (.aload_n 0, 1) := by decide +kernel
theorem dL_law_1000 : decode cL_law 1000 = .ok (.iload_n 3, 1) := by decide +kernel
theorem dL_law_1001 : decode cL_law 1001 = .ok (.iconst 2, 1) := by decide +kernel
theorem dL_law_1002 : decode cL_law 1002 = .ok (.iadd, 1) := by decide +kernel
theorem dL_law_1003 : decode cL_law 1003 = .ok (.iaload, 1) := by decide +kernel
theorem dL_law_1004 : decode cL_law 1004 = .ok (.invokevirtual 100, 3) := by decide +kernel
theorem dL_law_1007 : decode cL_law 1007 = .ok (.pop, 1) := by decide +kernel
theorem dL_law_1008 : decode cL_law 1008 = .ok (.goto 1037, 3) := by decide +kernel
theorem dL_law_1011 : decode cL_law 1011 = .ok (.aload_n 1, 1) := by decide +kernel
theorem dL_law_1012 : decode cL_law 1012 = .ok (.aload_n 0, 1) := by decide +kernel
theorem dL_law_1013 : decode cL_law 1013 = .ok (.iload_n 3, 1) := by decide +kernel
theorem dL_law_1014 : decode cL_law 1014 = .ok (.iconst 1, 1) := by decide +kernel
theorem dL_law_1015 : decode cL_law 1015 = .ok (.iadd, 1) := by decide +kernel
theorem dL_law_1016 : decode cL_law 1016 = .ok (.iaload, 1) := by decide +kernel
theorem dL_law_1017 : decode cL_law 1017 = .ok (.aload_n 0, 1) := by decide +kernel
theorem dL_law_1018 : decode cL_law 1018 = .ok (.iload_n 3, 1) := by decide +kernel
theorem dL_law_1019 : decode cL_law 1019 = .ok (.iconst 2, 1) := by decide +kernel
theorem dL_law_1020 : decode cL_law 1020 = .ok (.iadd, 1) := by decide +kernel
theorem dL_law_1021 : decode cL_law 1021 = .ok (.iaload, 1) := by decide +kernel
theorem dL_law_1022 : decode cL_law 1022 = .ok (.invokevirtual 101, 3) := by decide +kernel
theorem dL_law_1025 : decode cL_law 1025 = .ok (.pop, 1) := by decide +kernel
theorem dL_law_1026 : decode cL_law 1026 = .ok (.aload_n 2, 1) := by decide +kernel
theorem dL_law_1027 : decode cL_law 1027 = .ok (.aload_n 0, 1) := by decide +kernel
theorem dL_law_1028 : decode cL_law 1028 = .ok (.iload_n 3, 1) := by decide +kernel
theorem dL_law_1029 : decode cL_law 1029 = .ok (.iconst 1, 1) := by decide +kernel
theorem dL_law_1030 : decode cL_law 1030 = .ok (.iadd, 1) := by decide +kernel
theorem dL_law_1031 : decode cL_law 1031 = .ok (.iaload, 1) := by decide +kernel
theorem dL_law_1032 : decode cL_law 1032 = .ok (.aload_n 0, 1) := by decide +kernel
theorem dL_law_1033 : decode cL_law 1033 = .ok (.iload_n 3, 1) := by decide +kernel
theorem dL_law_1034 : decode cL_law 1034 = .ok (.iconst 2, 1) := by decide +kernel
theorem dL_law_1035 : decode cL_law 1035 = .ok (.iadd, 1) := by decide +kernel
theorem dL_law_1036 : decode cL_law 1036 = .ok (.iaload, 1) := by decide +kernel
theorem dL_law_1037 : decode cL_law 1037 = .ok (.invokevirtual 104, 3) := by decide +kernel
theorem dL_law_1040 : decode cL_law 1040 = .ok (.pop, 1) := by decide +kernel
theorem dL_law_1041 : decode cL_law 1041 = .ok (.goto 1004, 3) := by decide +kernel
theorem dL_law_1044 : decode cL_law 1044 = .ok (.aload_n 1, 1) := by decide +kernel
theorem dL_law_1045 : decode cL_law 1045 = .ok (.aload_n 0, 1) := by decide +kernel
theorem dL_law_1046 : decode cL_law 1046 = .ok (.iload_n 3, 1) := by decide +kernel
theorem dL_law_1047 : decode cL_law 1047 = .ok (.iconst 1, 1) := by decide +kernel
theorem dL_law_1048 : decode cL_law 1048 = .ok (.iadd, 1) := by decide +kernel
theorem dL_law_1049 : decode cL_law 1049 = .ok (.iaload, 1) := by decide +kernel
theorem dL_law_1050 : decode cL_law 1050 = .ok (.aload_n 0, 1) := by decide +kernel
theorem dL_law_1051 : decode cL_law 1051 = .ok (.iload_n 3, 1) := by decide +kernel
theorem dL_law_1052 : decode cL_law 1052 = .ok (.iconst 2, 1) := by decide +kernel
theorem dL_law_1053 : decode cL_law 1053 = .ok (.iadd, 1) := by decide +kernel
theorem dL_law_1054 : decode cL_law 1054 = .ok (.iaload, 1) := by decide +kernel
theorem dL_law_1055 : decode cL_law 1055 = .ok (.ifCond .eq 7, 3) := by decide +kernel
theorem dL_law_1058 : decode cL_law 1058 = .ok (.iconst 1, 1) := by decide +kernel
theorem dL_law_1059 : decode cL_law 1059 = .ok (.goto 4, 3) := by decide +kernel
theorem dL_law_1062 : decode cL_law 1062 = .ok (.iconst 0, 1) := by decide +kernel
theorem dL_law_1063 : decode cL_law 1063 = .ok (.invokevirtual 105, 3) := by decide +kernel
theorem dL_law_1066 : decode cL_law 1066 = .ok (.pop, 1) := by decide +kernel
theorem dL_law_1067 : decode cL_law 1067 = .ok (.aload_n 2, 1) := by decide +kernel
theorem dL_law_1068 : decode cL_law 1068 = .ok (.aload_n 0, 1) := by decide +kernel
theorem dL_law_1069 : decode cL_law 1069 = .ok (.iload_n 3, 1) := by decide +kernel
theorem dL_law_1070 : decode cL_law 1070 = .ok (.iconst 1, 1) := by decide +kernel
theorem dL_law_1071 : decode cL_law 1071 = .ok (.iadd, 1) := by decide +kernel
theorem dL_law_1072 : decode cL_law 1072 = .ok (.iaload, 1) := by decide +kernel
theorem dL_law_1073 : decode cL_law 1073 = .ok (.aload_n 0, 1) := by decide +kernel
theorem dL_law_1074 : decode cL_law 1074 = .ok (.iload_n 3, 1) := by decide +kernel
theorem dL_law_1075 : decode cL_law 1075 = .ok (.iconst 2, 1) := by decide +kernel
theorem dL_law_1076 : decode cL_law 1076 = .ok (.iadd, 1) := by decide +kernel
theorem dL_law_1077 : decode cL_law 1077 = .ok (.iaload, 1) := by decide +kernel
theorem dL_law_1078 : decode cL_law 1078 = .ok (.ifCond .eq 7, 3) := by decide +kernel
theorem dL_law_1081 : decode cL_law 1081 = .ok (.iconst 1, 1) := by decide +kernel
theorem dL_law_1082 : decode cL_law 1082 = .ok (.goto 4, 3) := by decide +kernel
theorem dL_law_1085 : decode cL_law 1085 = .ok (.iconst 0, 1) := by decide +kernel
theorem dL_law_1086 : decode cL_law 1086 = .ok (.invokevirtual 108, 3) := by decide +kernel
theorem dL_law_1089 : decode cL_law 1089 = .ok (.pop, 1) := by decide +kernel
theorem dL_law_1090 : decode cL_law 1090 = .ok (.goto 955, 3) := by decide +kernel
theorem dL_law_1093 : decode cL_law 1093 = .ok (.aload_n 1, 1) := by decide +kernel
theorem dL_law_1094 : decode cL_law 1094 = .ok (.aload_n 0, 1) := by decide +kernel
theorem dL_law_1095 : decode cL_law 1095 = .ok (.iload_n 3, 1) := by decide +kernel
theorem dL_law_1096 : decode cL_law 1096 = .ok (.iconst 1, 1) := by decide +kernel
theorem dL_law_1097 : decode cL_law 1097 = .ok (.iadd, 1) := by decide +kernel
theorem dL_law_1098 : decode cL_law 1098 = .ok (.iaload, 1) := by decide +kernel
theorem dL_law_1099 : decode cL_law 1099 = .ok (.invokevirtual 109, 3) := by decide +kernel
theorem dL_law_1102 : decode cL_law 1102 = .ok (.pop, 1) := by decide +kernel
theorem dL_law_1103 : decode cL_law 1103 = .ok (.aload_n 2, 1) := by decide +kernel
theorem dL_law_1104 : decode cL_law 1104 = .ok (.aload_n 0, 1) := by decide +kernel
theorem dL_law_1105 : decode cL_law 1105 = .ok (.iload_n 3, 1) := by decide +kernel
theorem dL_law_1106 : decode cL_law 1106 = .ok (.iconst 1, 1) := by decide +kernel
theorem dL_law_1107 : decode cL_law 1107 = .ok (.iadd, 1) := by decide +kernel
theorem dL_law_1108 : decode cL_law 1108 = .ok (.iaload, 1) := by decide +kernel
theorem dL_law_1109 : decode cL_law 1109 = .ok (.invokevirtual 112, 3) := by decide +kernel
theorem dL_law_1112 : decode cL_law 1112 = .ok (.pop, 1) := by decide +kernel
theorem dL_law_1113 : decode cL_law 1113 = .ok (.goto 932, 3) := by decide +kernel
theorem dL_law_1116 : decode cL_law 1116 = .ok (.aload_n 1, 1) := by decide +kernel
theorem dL_law_1117 : decode cL_law 1117 = .ok (.aload_n 0, 1) := by decide +kernel
theorem dL_law_1118 : decode cL_law 1118 = .ok (.iload_n 3, 1) := by decide +kernel
theorem dL_law_1119 : decode cL_law 1119 = .ok (.iconst 1, 1) := by decide +kernel
theorem dL_law_1120 : decode cL_law 1120 = .ok (.iadd, 1) := by decide +kernel
theorem dL_law_1121 : decode cL_law 1121 = .ok (.iaload, 1) := by decide +kernel
theorem dL_law_1122 : decode cL_law 1122 = .ok (.aload_n 0, 1) := by decide +kernel
theorem dL_law_1123 : decode cL_law 1123 = .ok (.iload_n 3, 1) := by decide +kernel
theorem dL_law_1124 : decode cL_law 1124 = .ok (.iconst 2, 1) := by decide +kernel
theorem dL_law_1125 : decode cL_law 1125 = .ok (.iadd, 1) := by decide +kernel
theorem dL_law_1126 : decode cL_law 1126 = .ok (.iaload, 1) := by decide +kernel
theorem dL_law_1127 : decode cL_law 1127 = .ok (.invokevirtual 113, 3) := by decide +kernel
theorem dL_law_1130 : decode cL_law 1130 = .ok (.pop, 1) := by decide +kernel
theorem dL_law_1131 : decode cL_law 1131 = .ok (.aload_n 2, 1) := by decide +kernel
theorem dL_law_1132 : decode cL_law 1132 = .ok (.aload_n 0, 1) := by decide +kernel
theorem dL_law_1133 : decode cL_law 1133 = .ok (.iload_n 3, 1) := by decide +kernel
theorem dL_law_1134 : decode cL_law 1134 = .ok (.iconst 1, 1) := by decide +kernel
theorem dL_law_1135 : decode cL_law 1135 = .ok (.iadd, 1) := by decide +kernel
theorem dL_law_1136 : decode cL_law 1136 = .ok (.iaload, 1) := by decide +kernel
theorem dL_law_1137 : decode cL_law 1137 = .ok (.aload_n 0, 1) := by decide +kernel
theorem dL_law_1138 : decode cL_law 1138 = .ok (.iload_n 3, 1) := by decide +kernel
theorem dL_law_1139 : decode cL_law 1139 = .ok (.iconst 2, 1) := by decide +kernel
theorem dL_law_1140 : decode cL_law 1140 = .ok (.iadd, 1) := by decide +kernel
theorem dL_law_1141 : decode cL_law 1141 = .ok (.iaload, 1) := by decide +kernel
theorem dL_law_1142 : decode cL_law 1142 = .ok (.invokevirtual 116, 3) := by decide +kernel
theorem dL_law_1145 : decode cL_law 1145 = .ok (.pop, 1) := by decide +kernel
theorem dL_law_1146 : decode cL_law 1146 = .ok (.goto 899, 3) := by decide +kernel
theorem dL_law_1149 : decode cL_law 1149 = .ok (.aload_n 1, 1) := by decide +kernel
theorem dL_law_1150 : decode cL_law 1150 = .ok (.aload_n 0, 1) := by decide +kernel
theorem dL_law_1151 : decode cL_law 1151 = .ok (.iload_n 3, 1) := by decide +kernel
theorem dL_law_1152 : decode cL_law 1152 = .ok (.iconst 1, 1) := by decide +kernel
theorem dL_law_1153 : decode cL_law 1153 = .ok (.iadd, 1) := by decide +kernel
theorem dL_law_1154 : decode cL_law 1154 = .ok (.iaload, 1) := by decide +kernel
theorem dL_law_1155 : decode cL_law 1155 = .ok (.aload_n 0, 1) := by decide +kernel
theorem dL_law_1156 : decode cL_law 1156 = .ok (.iload_n 3, 1) := by decide +kernel
theorem dL_law_1157 : decode cL_law 1157 = .ok (.iconst 2, 1) := by decide +kernel
theorem dL_law_1158 : decode cL_law 1158 = .ok (.iadd, 1) := by decide +kernel
theorem dL_law_1159 : decode cL_law 1159 = .ok (.iaload, 1) := by decide +kernel
theorem dL_law_1160 : decode cL_law 1160 = .ok (.aload_n 0, 1) := by decide +kernel
theorem dL_law_1161 : decode cL_law 1161 = .ok (.iload_n 3, 1) := by decide +kernel
theorem dL_law_1162 : decode cL_law 1162 = .ok (.iconst 3, 1) := by decide +kernel
theorem dL_law_1163 : decode cL_law 1163 = .ok (.iadd, 1) := by decide +kernel
theorem dL_law_1164 : decode cL_law 1164 = .ok (.iaload, 1) := by decide +kernel
theorem dL_law_1165 : decode cL_law 1165 = .ok (.invokevirtual 117, 3) := by decide +kernel
theorem dL_law_1168 : decode cL_law 1168 = .ok (.pop, 1) := by decide +kernel
theorem dL_law_1169 : decode cL_law 1169 = .ok (.aload_n 2, 1) := by decide +kernel
theorem dL_law_1170 : decode cL_law 1170 = .ok (.aload_n 0, 1) := by decide +kernel
theorem dL_law_1171 : decode cL_law 1171 = .ok (.iload_n 3, 1) := by decide +kernel
theorem dL_law_1172 : decode cL_law 1172 = .ok (.iconst 1, 1) := by decide +kernel
theorem dL_law_1173 : decode cL_law 1173 = .ok (.iadd, 1) := by decide +kernel
theorem dL_law_1174 : decode cL_law 1174 = .ok (.iaload, 1) := by decide +kernel
theorem dL_law_1175 : decode cL_law 1175 = .ok (.aload_n 0, 1) := by decide +kernel
theorem dL_law_1176 : decode cL_law 1176 = .ok (.iload_n 3, 1) := by decide +kernel
theorem dL_law_1177 : decode cL_law 1177 = .ok (.iconst 2, 1) := by decide +kernel
theorem dL_law_1178 : decode cL_law 1178 = .ok (.iadd, 1) := by decide +kernel
theorem dL_law_1179 : decode cL_law 1179 = .ok (.iaload, 1) := by decide +kernel
theorem dL_law_1180 : decode cL_law 1180 = .ok (.aload_n 0, 1) := by decide +kernel
theorem dL_law_1181 : decode cL_law 1181 = .ok (.iload_n 3, 1) := by decide +kernel
theorem dL_law_1182 : decode cL_law 1182 = .ok (.iconst 3, 1) := by decide +kernel
theorem dL_law_1183 : decode cL_law 1183 = .ok (.iadd, 1) := by decide +kernel
theorem dL_law_1184 : decode cL_law 1184 = .ok (.iaload, 1) := by decide +kernel
theorem dL_law_1185 : decode cL_law 1185 = .ok (.invokevirtual 120, 3) := by decide +kernel
theorem dL_law_1188 : decode cL_law 1188 = .ok (.pop, 1) := by decide +kernel
theorem dL_law_1189 : decode cL_law 1189 = .ok (.goto 856, 3) := by decide +kernel
theorem dL_law_1192 : decode cL_law 1192 = .ok (.aload_n 1, 1) := by decide +kernel
theorem dL_law_1193 : decode cL_law 1193 = .ok (.aload_n 0, 1) := by decide +kernel
theorem dL_law_1194 : decode cL_law 1194 = .ok (.iload_n 3, 1) := by decide +kernel
theorem dL_law_1195 : decode cL_law 1195 = .ok (.iconst 1, 1) := by decide +kernel
theorem dL_law_1196 : decode cL_law 1196 = .ok (.iadd, 1) := by decide +kernel
theorem dL_law_1197 : decode cL_law 1197 = .ok (.iaload, 1) := by decide +kernel
theorem dL_law_1198 : decode cL_law 1198 = .ok (.aload_n 0, 1) := by decide +kernel
theorem dL_law_1199 : decode cL_law 1199 = .ok (.iload_n 3, 1) := by decide +kernel
theorem dL_law_1200 : decode cL_law 1200 = .ok (.iconst 2, 1) := by decide +kernel
theorem dL_law_1201 : decode cL_law 1201 = .ok (.iadd, 1) := by decide +kernel
theorem dL_law_1202 : decode cL_law 1202 = .ok (.iaload, 1) := by decide +kernel
theorem dL_law_1203 : decode cL_law 1203 = .ok (.aload_n 0, 1) := by decide +kernel
theorem dL_law_1204 : decode cL_law 1204 = .ok (.iload_n 3, 1) := by decide +kernel
theorem dL_law_1205 : decode cL_law 1205 = .ok (.iconst 3, 1) := by decide +kernel
theorem dL_law_1206 : decode cL_law 1206 = .ok (.iadd, 1) := by decide +kernel
theorem dL_law_1207 : decode cL_law 1207 = .ok (.iaload, 1) := by decide +kernel
theorem dL_law_1208 : decode cL_law 1208 = .ok (.invokevirtual 121, 3) := by decide +kernel
theorem dL_law_1211 : decode cL_law 1211 = .ok (.pop, 1) := by decide +kernel
theorem dL_law_1212 : decode cL_law 1212 = .ok (.aload_n 2, 1) := by decide +kernel
theorem dL_law_1213 : decode cL_law 1213 = .ok (.aload_n 0, 1) := by decide +kernel
theorem dL_law_1214 : decode cL_law 1214 = .ok (.iload_n 3, 1) := by decide +kernel
theorem dL_law_1215 : decode cL_law 1215 = .ok (.iconst 1, 1) := by decide +kernel
theorem dL_law_1216 : decode cL_law 1216 = .ok (.iadd, 1) := by decide +kernel
theorem dL_law_1217 : decode cL_law 1217 = .ok (.iaload, 1) := by decide +kernel
theorem dL_law_1218 : decode cL_law 1218 = .ok (.aload_n 0, 1) := by decide +kernel
theorem dL_law_1219 : decode cL_law 1219 = .ok (.iload_n 3, 1) := by decide +kernel
theorem dL_law_1220 : decode cL_law 1220 = .ok (.iconst 2, 1) := by decide +kernel
theorem dL_law_1221 : decode cL_law 1221 = .ok (.iadd, 1) := by decide +kernel
theorem dL_law_1222 : decode cL_law 1222 = .ok (.iaload, 1) := by decide +kernel
theorem dL_law_1223 : decode cL_law 1223 = .ok (.aload_n 0, 1) := by decide +kernel
theorem dL_law_1224 : decode cL_law 1224 = .ok (.iload_n 3, 1) := by decide +kernel
theorem dL_law_1225 : decode cL_law 1225 = .ok (.iconst 3, 1) := by decide +kernel
theorem dL_law_1226 : decode cL_law 1226 = .ok (.iadd, 1) := by decide +kernel
theorem dL_law_1227 : decode cL_law 1227 = .ok (.iaload, 1) := by decide +kernel
theorem dL_law_1228 : decode cL_law 1228 = .ok (.invokevirtual 124, 3) := by decide +kernel
theorem dL_law_1231 : decode cL_law 1231 = .ok (.pop, 1) := by decide +kernel
theorem dL_law_1232 : decode cL_law 1232 = .ok (.goto 813, 3) := by decide +kernel
theorem dL_law_1235 : decode cL_law 1235 = .ok (.aload_n 1, 1) := by decide +kernel
theorem dL_law_1236 : decode cL_law 1236 = .ok (.aload_n 0, 1) := by decide +kernel
theorem dL_law_1237 : decode cL_law 1237 = .ok (.iload_n 3, 1) := by decide +kernel
theorem dL_law_1238 : decode cL_law 1238 = .ok (.iconst 1, 1) := by decide +kernel
theorem dL_law_1239 : decode cL_law 1239 = .ok (.iadd, 1) := by decide +kernel
theorem dL_law_1240 : decode cL_law 1240 = .ok (.iaload, 1) := by decide +kernel
theorem dL_law_1241 : decode cL_law 1241 = .ok (.aload_n 0, 1) := by decide +kernel
theorem dL_law_1242 : decode cL_law 1242 = .ok (.iload_n 3, 1) := by decide +kernel
theorem dL_law_1243 : decode cL_law 1243 = .ok (.iconst 2, 1) := by decide +kernel
theorem dL_law_1244 : decode cL_law 1244 = .ok (.iadd, 1) := by decide +kernel
theorem dL_law_1245 : decode cL_law 1245 = .ok (.iaload, 1) := by decide +kernel
theorem dL_law_1246 : decode cL_law 1246 = .ok (.aload_n 0, 1) := by decide +kernel
theorem dL_law_1247 : decode cL_law 1247 = .ok (.iload_n 3, 1) := by decide +kernel
theorem dL_law_1248 : decode cL_law 1248 = .ok (.iconst 3, 1) := by decide +kernel
theorem dL_law_1249 : decode cL_law 1249 = .ok (.iadd, 1) := by decide +kernel
theorem dL_law_1250 : decode cL_law 1250 = .ok (.iaload, 1) := by decide +kernel
theorem dL_law_1251 : decode cL_law 1251 = .ok (.aload_n 0, 1) := by decide +kernel
theorem dL_law_1252 : decode cL_law 1252 = .ok (.iload_n 3, 1) := by decide +kernel
theorem dL_law_1253 : decode cL_law 1253 = .ok (.iconst 4, 1) := by decide +kernel
theorem dL_law_1254 : decode cL_law 1254 = .ok (.iadd, 1) := by decide +kernel
theorem dL_law_1255 : decode cL_law 1255 = .ok (.iaload, 1) := by decide +kernel
theorem dL_law_1256 : decode cL_law 1256 = .ok (.invokevirtual 125, 3) := by decide +kernel
theorem dL_law_1259 : decode cL_law 1259 = .ok (.pop, 1) := by decide +kernel
theorem dL_law_1260 : decode cL_law 1260 = .ok (.aload_n 2, 1) := by decide +kernel
theorem dL_law_1261 : decode cL_law 1261 = .ok (.aload_n 0, 1) := by decide +kernel
theorem dL_law_1262 : decode cL_law 1262 = .ok (.iload_n 3, 1) := by decide +kernel
theorem dL_law_1263 : decode cL_law 1263 = .ok (.iconst 1, 1) := by decide +kernel
theorem dL_law_1264 : decode cL_law 1264 = .ok (.iadd, 1) := by decide +kernel
theorem dL_law_1265 : decode cL_law 1265 = .ok (.iaload, 1) := by decide +kernel
theorem dL_law_1266 : decode cL_law 1266 = .ok (.aload_n 0, 1) := by decide +kernel
theorem dL_law_1267 : decode cL_law 1267 = .ok (.iload_n 3, 1) := by decide +kernel
theorem dL_law_1268 : decode cL_law 1268 = .ok (.iconst 2, 1) := by decide +kernel
theorem dL_law_1269 : decode cL_law 1269 = .ok (.iadd, 1) := by decide +kernel
theorem dL_law_1270 : decode cL_law 1270 = .ok (.iaload, 1) := by decide +kernel
theorem dL_law_1271 : decode cL_law 1271 = .ok (.aload_n 0, 1) := by decide +kernel
theorem dL_law_1272 : decode cL_law 1272 = .ok (.iload_n 3, 1) := by decide +kernel
theorem dL_law_1273 : decode cL_law 1273 = .ok (.iconst 3, 1) := by decide +kernel
theorem dL_law_1274 : decode cL_law 1274 = .ok (.iadd, 1) := by decide +kernel
theorem dL_law_1275 : decode cL_law 1275 = .ok (.iaload, 1) := by decide +kernel
theorem dL_law_1276 : decode cL_law 1276 = .ok (.aload_n 0, 1) := by decide +kernel
theorem dL_law_1277 : decode cL_law 1277 = .ok (.iload_n 3, 1) := by decide +kernel
theorem dL_law_1278 : decode cL_law 1278 = .ok (.iconst 4, 1) := by decide +kernel
theorem dL_law_1279 : decode cL_law 1279 = .ok (.iadd, 1) := by decide +kernel
theorem dL_law_1280 : decode cL_law 1280 = .ok (.iaload, 1) := by decide +kernel
theorem dL_law_1281 : decode cL_law 1281 = .ok (.invokevirtual 129, 3) := by decide +kernel
theorem dL_law_1284 : decode cL_law 1284 = .ok (.pop, 1) := by decide +kernel
theorem dL_law_1285 : decode cL_law 1285 = .ok (.goto 760, 3) := by decide +kernel
theorem dL_law_1288 : decode cL_law 1288 = .ok (.aload_n 1, 1) := by decide +kernel
theorem dL_law_1289 : decode cL_law 1289 = .ok (.aload_n 0, 1) := by decide +kernel
theorem dL_law_1290 : decode cL_law 1290 = .ok (.iload_n 3, 1) := by decide +kernel
theorem dL_law_1291 : decode cL_law 1291 = .ok (.iconst 1, 1) := by decide +kernel
theorem dL_law_1292 : decode cL_law 1292 = .ok (.iadd, 1) := by decide +kernel
theorem dL_law_1293 : decode cL_law 1293 = .ok (.iaload, 1) := by decide +kernel
theorem dL_law_1294 : decode cL_law 1294 = .ok (.aload_n 0, 1) := by decide +kernel
theorem dL_law_1295 : decode cL_law 1295 = .ok (.iload_n 3, 1) := by decide +kernel
theorem dL_law_1296 : decode cL_law 1296 = .ok (.iconst 2, 1) := by decide +kernel
theorem dL_law_1297 : decode cL_law 1297 = .ok (.iadd, 1) := by decide +kernel
theorem dL_law_1298 : decode cL_law 1298 = .ok (.iaload, 1) := by decide +kernel
theorem dL_law_1299 : decode cL_law 1299 = .ok (.aload_n 0, 1) := by decide +kernel
theorem dL_law_1300 : decode cL_law 1300 = .ok (.iload_n 3, 1) := by decide +kernel
theorem dL_law_1301 : decode cL_law 1301 = .ok (.iconst 3, 1) := by decide +kernel
theorem dL_law_1302 : decode cL_law 1302 = .ok (.iadd, 1) := by decide +kernel
theorem dL_law_1303 : decode cL_law 1303 = .ok (.iaload, 1) := by decide +kernel
theorem dL_law_1304 : decode cL_law 1304 = .ok (.aload_n 0, 1) := by decide +kernel
theorem dL_law_1305 : decode cL_law 1305 = .ok (.iload_n 3, 1) := by decide +kernel
theorem dL_law_1306 : decode cL_law 1306 = .ok (.iconst 4, 1) := by decide +kernel
theorem dL_law_1307 : decode cL_law 1307 = .ok (.iadd, 1) := by decide +kernel
theorem dL_law_1308 : decode cL_law 1308 = .ok (.iaload, 1) := by decide +kernel
theorem dL_law_1309 : decode cL_law 1309 = .ok (.invokevirtual 130, 3) := by decide +kernel
theorem dL_law_1312 : decode cL_law 1312 = .ok (.pop, 1) := by decide +kernel
theorem dL_law_1313 : decode cL_law 1313 = .ok (.aload_n 2, 1) := by decide +kernel
theorem dL_law_1314 : decode cL_law 1314 = .ok (.aload_n 0, 1) := by decide +kernel
theorem dL_law_1315 : decode cL_law 1315 = .ok (.iload_n 3, 1) := by decide +kernel
theorem dL_law_1316 : decode cL_law 1316 = .ok (.iconst 1, 1) := by decide +kernel
theorem dL_law_1317 : decode cL_law 1317 = .ok (.iadd, 1) := by decide +kernel
theorem dL_law_1318 : decode cL_law 1318 = .ok (.iaload, 1) := by decide +kernel
theorem dL_law_1319 : decode cL_law 1319 = .ok (.aload_n 0, 1) := by decide +kernel
theorem dL_law_1320 : decode cL_law 1320 = .ok (.iload_n 3, 1) := by decide +kernel
theorem dL_law_1321 : decode cL_law 1321 = .ok (.iconst 2, 1) := by decide +kernel
theorem dL_law_1322 : decode cL_law 1322 = .ok (.iadd, 1) := by decide +kernel
theorem dL_law_1323 : decode cL_law 1323 = .ok (.iaload, 1) := by decide +kernel
theorem dL_law_1324 : decode cL_law 1324 = .ok (.aload_n 0, 1) := by decide +kernel
theorem dL_law_1325 : decode cL_law 1325 = .ok (.iload_n 3, 1) := by decide +kernel
theorem dL_law_1326 : decode cL_law 1326 = .ok (.iconst 3, 1) := by decide +kernel
theorem dL_law_1327 : decode cL_law 1327 = .ok (.iadd, 1) := by decide +kernel
theorem dL_law_1328 : decode cL_law 1328 = .ok (.iaload, 1) := by decide +kernel
theorem dL_law_1329 : decode cL_law 1329 = .ok (.aload_n 0, 1) := by decide +kernel
theorem dL_law_1330 : decode cL_law 1330 = .ok (.iload_n 3, 1) := by decide +kernel
theorem dL_law_1331 : decode cL_law 1331 = .ok (.iconst 4, 1) := by decide +kernel
theorem dL_law_1332 : decode cL_law 1332 = .ok (.iadd, 1) := by decide +kernel
theorem dL_law_1333 : decode cL_law 1333 = .ok (.iaload, 1) := by decide +kernel
theorem dL_law_1334 : decode cL_law 1334 = .ok (.invokevirtual 133, 3) := by decide +kernel
theorem dL_law_1337 : decode cL_law 1337 = .ok (.pop, 1) := by decide +kernel
theorem dL_law_1338 : decode cL_law 1338 = .ok (.goto 707, 3) := by decide +kernel
theorem dL_law_1341 : decode cL_law 1341 = .ok (.aload_n 1, 1) := by decide +kernel
theorem dL_law_1342 : decode cL_law 1342 = .ok (.aload_n 0, 1) := by decide +kernel
theorem dL_law_1343 : decode cL_law 1343 = .ok (.iload_n 3, 1) := by decide +kernel
theorem dL_law_1344 : decode cL_law 1344 = .ok (.iconst 1, 1) := by decide +kernel
theorem dL_law_1345 : decode cL_law 1345 = .ok (.iadd, 1) := by decide +kernel
theorem dL_law_1346 : decode cL_law 1346 = .ok (.iaload, 1) := by decide +kernel
theorem dL_law_1347 : decode cL_law 1347 = .ok (.aload_n 0, 1) := by decide +kernel
theorem dL_law_1348 : decode cL_law 1348 = .ok (.iload_n 3, 1) := by decide +kernel
theorem dL_law_1349 : decode cL_law 1349 = .ok (.iconst 2, 1) := by decide +kernel
theorem dL_law_1350 : decode cL_law 1350 = .ok (.iadd, 1) := by decide +kernel
theorem dL_law_1351 : decode cL_law 1351 = .ok (.iaload, 1) := by decide +kernel
theorem dL_law_1352 : decode cL_law 1352 = .ok (.aload_n 0, 1) := by decide +kernel
theorem dL_law_1353 : decode cL_law 1353 = .ok (.iload_n 3, 1) := by decide +kernel
theorem dL_law_1354 : decode cL_law 1354 = .ok (.iconst 3, 1) := by decide +kernel
theorem dL_law_1355 : decode cL_law 1355 = .ok (.iadd, 1) := by decide +kernel
theorem dL_law_1356 : decode cL_law 1356 = .ok (.iaload, 1) := by decide +kernel
theorem dL_law_1357 : decode cL_law 1357 = .ok (.aload_n 0, 1) := by decide +kernel
theorem dL_law_1358 : decode cL_law 1358 = .ok (.iload_n 3, 1) := by decide +kernel
theorem dL_law_1359 : decode cL_law 1359 = .ok (.iconst 4, 1) := by decide +kernel
theorem dL_law_1360 : decode cL_law 1360 = .ok (.iadd, 1) := by decide +kernel
theorem dL_law_1361 : decode cL_law 1361 = .ok (.iaload, 1) := by decide +kernel
theorem dL_law_1362 : decode cL_law 1362 = .ok (.invokevirtual 134, 3) := by decide +kernel
theorem dL_law_1365 : decode cL_law 1365 = .ok (.pop, 1) := by decide +kernel
theorem dL_law_1366 : decode cL_law 1366 = .ok (.aload_n 2, 1) := by decide +kernel
theorem dL_law_1367 : decode cL_law 1367 = .ok (.aload_n 0, 1) := by decide +kernel
theorem dL_law_1368 : decode cL_law 1368 = .ok (.iload_n 3, 1) := by decide +kernel
theorem dL_law_1369 : decode cL_law 1369 = .ok (.iconst 1, 1) := by decide +kernel
theorem dL_law_1370 : decode cL_law 1370 = .ok (.iadd, 1) := by decide +kernel
theorem dL_law_1371 : decode cL_law 1371 = .ok (.iaload, 1) := by decide +kernel
theorem dL_law_1372 : decode cL_law 1372 = .ok (.aload_n 0, 1) := by decide +kernel
theorem dL_law_1373 : decode cL_law 1373 = .ok (.iload_n 3, 1) := by decide +kernel
theorem dL_law_1374 : decode cL_law 1374 = .ok (.iconst 2, 1) := by decide +kernel
theorem dL_law_1375 : decode cL_law 1375 = .ok (.iadd, 1) := by decide +kernel
theorem dL_law_1376 : decode cL_law 1376 = .ok (.iaload, 1) := by decide +kernel
theorem dL_law_1377 : decode cL_law 1377 = .ok (.aload_n 0, 1) := by decide +kernel
theorem dL_law_1378 : decode cL_law 1378 = .ok (.iload_n 3, 1) := by decide +kernel
theorem dL_law_1379 : decode cL_law 1379 = .ok (.iconst 3, 1) := by decide +kernel
theorem dL_law_1380 : decode cL_law 1380 = .ok (.iadd, 1) := by decide +kernel
theorem dL_law_1381 : decode cL_law 1381 = .ok (.iaload, 1) := by decide +kernel
theorem dL_law_1382 : decode cL_law 1382 = .ok (.aload_n 0, 1) := by decide +kernel
theorem dL_law_1383 : decode cL_law 1383 = .ok (.iload_n 3, 1) := by decide +kernel
theorem dL_law_1384 : decode cL_law 1384 = .ok (.iconst 4, 1) := by decide +kernel
theorem dL_law_1385 : decode cL_law 1385 = .ok (.iadd, 1) := by decide +kernel
theorem dL_law_1386 : decode cL_law 1386 = .ok (.iaload, 1) := by decide +kernel
theorem dL_law_1387 : decode cL_law 1387 = .ok (.invokevirtual 137, 3) := by decide +kernel
theorem dL_law_1390 : decode cL_law 1390 = .ok (.pop, 1) := by decide +kernel
theorem dL_law_1391 : decode cL_law 1391 = .ok (.goto 654, 3) := by decide +kernel
theorem dL_law_1394 : decode cL_law 1394 = .ok (.aload_n 1, 1) := by decide +kernel
theorem dL_law_1395 : decode cL_law 1395 = .ok (.aload_n 0, 1) := by decide +kernel
theorem dL_law_1396 : decode cL_law 1396 = .ok (.iload_n 3, 1) := by decide +kernel
theorem dL_law_1397 : decode cL_law 1397 = .ok (.iconst 1, 1) := by decide +kernel
theorem dL_law_1398 : decode cL_law 1398 = .ok (.iadd, 1) := by decide +kernel
theorem dL_law_1399 : decode cL_law 1399 = .ok (.iaload, 1) := by decide +kernel
theorem dL_law_1400 : decode cL_law 1400 = .ok (.aload_n 0, 1) := by decide +kernel
theorem dL_law_1401 : decode cL_law 1401 = .ok (.iload_n 3, 1) := by decide +kernel
theorem dL_law_1402 : decode cL_law 1402 = .ok (.iconst 2, 1) := by decide +kernel
theorem dL_law_1403 : decode cL_law 1403 = .ok (.iadd, 1) := by decide +kernel
theorem dL_law_1404 : decode cL_law 1404 = .ok (.iaload, 1) := by decide +kernel
theorem dL_law_1405 : decode cL_law 1405 = .ok (.aload_n 0, 1) := by decide +kernel
theorem dL_law_1406 : decode cL_law 1406 = .ok (.iload_n 3, 1) := by decide +kernel
theorem dL_law_1407 : decode cL_law 1407 = .ok (.iconst 3, 1) := by decide +kernel
theorem dL_law_1408 : decode cL_law 1408 = .ok (.iadd, 1) := by decide +kernel
theorem dL_law_1409 : decode cL_law 1409 = .ok (.iaload, 1) := by decide +kernel
theorem dL_law_1410 : decode cL_law 1410 = .ok (.aload_n 0, 1) := by decide +kernel
theorem dL_law_1411 : decode cL_law 1411 = .ok (.iload_n 3, 1) := by decide +kernel
theorem dL_law_1412 : decode cL_law 1412 = .ok (.iconst 4, 1) := by decide +kernel
theorem dL_law_1413 : decode cL_law 1413 = .ok (.iadd, 1) := by decide +kernel
theorem dL_law_1414 : decode cL_law 1414 = .ok (.iaload, 1) := by decide +kernel
theorem dL_law_1415 : decode cL_law 1415 = .ok (.aload_n 0, 1) := by decide +kernel
theorem dL_law_1416 : decode cL_law 1416 = .ok (.iload_n 3, 1) := by decide +kernel
theorem dL_law_1417 : decode cL_law 1417 = .ok (.iconst 5, 1) := by decide +kernel
theorem dL_law_1418 : decode cL_law 1418 = .ok (.iadd, 1) := by decide +kernel
theorem dL_law_1419 : decode cL_law 1419 = .ok (.iaload, 1) := by decide +kernel
theorem dL_law_1420 : decode cL_law 1420 = .ok (.invokevirtual 138, 3) := by decide +kernel
theorem dL_law_1423 : decode cL_law 1423 = .ok (.pop, 1) := by decide +kernel
theorem dL_law_1424 : decode cL_law 1424 = .ok (.aload_n 2, 1) := by decide +kernel
theorem dL_law_1425 : decode cL_law 1425 = .ok (.aload_n 0, 1) := by decide +kernel
theorem dL_law_1426 : decode cL_law 1426 = .ok (.iload_n 3, 1) := by decide +kernel
theorem dL_law_1427 : decode cL_law 1427 = .ok (.iconst 1, 1) := by decide +kernel
theorem dL_law_1428 : decode cL_law 1428 = .ok (.iadd, 1) := by decide +kernel
theorem dL_law_1429 : decode cL_law 1429 = .ok (.iaload, 1) := by decide +kernel
theorem dL_law_1430 : decode cL_law 1430 = .ok (.aload_n 0, 1) := by decide +kernel
theorem dL_law_1431 : decode cL_law 1431 = .ok (.iload_n 3, 1) := by decide +kernel
theorem dL_law_1432 : decode cL_law 1432 = .ok (.iconst 2, 1) := by decide +kernel
theorem dL_law_1433 : decode cL_law 1433 = .ok (.iadd, 1) := by decide +kernel
theorem dL_law_1434 : decode cL_law 1434 = .ok (.iaload, 1) := by decide +kernel
theorem dL_law_1435 : decode cL_law 1435 = .ok (.aload_n 0, 1) := by decide +kernel
theorem dL_law_1436 : decode cL_law 1436 = .ok (.iload_n 3, 1) := by decide +kernel
theorem dL_law_1437 : decode cL_law 1437 = .ok (.iconst 3, 1) := by decide +kernel
theorem dL_law_1438 : decode cL_law 1438 = .ok (.iadd, 1) := by decide +kernel
theorem dL_law_1439 : decode cL_law 1439 = .ok (.iaload, 1) := by decide +kernel
theorem dL_law_1440 : decode cL_law 1440 = .ok (.aload_n 0, 1) := by decide +kernel
theorem dL_law_1441 : decode cL_law 1441 = .ok (.iload_n 3, 1) := by decide +kernel
theorem dL_law_1442 : decode cL_law 1442 = .ok (.iconst 4, 1) := by decide +kernel
theorem dL_law_1443 : decode cL_law 1443 = .ok (.iadd, 1) := by decide +kernel
theorem dL_law_1444 : decode cL_law 1444 = .ok (.iaload, 1) := by decide +kernel
theorem dL_law_1445 : decode cL_law 1445 = .ok (.aload_n 0, 1) := by decide +kernel
theorem dL_law_1446 : decode cL_law 1446 = .ok (.iload_n 3, 1) := by decide +kernel
theorem dL_law_1447 : decode cL_law 1447 = .ok (.iconst 5, 1) := by decide +kernel
theorem dL_law_1448 : decode cL_law 1448 = .ok (.iadd, 1) := by decide +kernel
theorem dL_law_1449 : decode cL_law 1449 = .ok (.iaload, 1) := by decide +kernel
theorem dL_law_1450 : decode cL_law 1450 = .ok (.invokevirtual 141, 3) := by decide +kernel
theorem dL_law_1453 : decode cL_law 1453 = .ok (.pop, 1) := by decide +kernel
theorem dL_law_1454 : decode cL_law 1454 = .ok (.goto 591, 3) := by decide +kernel
theorem dL_law_1457 : decode cL_law 1457 = .ok (.aload_n 1, 1) := by decide +kernel
theorem dL_law_1458 : decode cL_law 1458 = .ok (.aload_n 0, 1) := by decide +kernel
theorem dL_law_1459 : decode cL_law 1459 = .ok (.iload_n 3, 1) := by decide +kernel
theorem dL_law_1460 : decode cL_law 1460 = .ok (.iconst 1, 1) := by decide +kernel
theorem dL_law_1461 : decode cL_law 1461 = .ok (.iadd, 1) := by decide +kernel
theorem dL_law_1462 : decode cL_law 1462 = .ok (.iaload, 1) := by decide +kernel
theorem dL_law_1463 : decode cL_law 1463 = .ok (.aload_n 0, 1) := by decide +kernel
theorem dL_law_1464 : decode cL_law 1464 = .ok (.iload_n 3, 1) := by decide +kernel
theorem dL_law_1465 : decode cL_law 1465 = .ok (.iconst 2, 1) := by decide +kernel
theorem dL_law_1466 : decode cL_law 1466 = .ok (.iadd, 1) := by decide +kernel
theorem dL_law_1467 : decode cL_law 1467 = .ok (.iaload, 1) := by decide +kernel
theorem dL_law_1468 : decode cL_law 1468 = .ok (.aload_n 0, 1) := by decide +kernel
theorem dL_law_1469 : decode cL_law 1469 = .ok (.iload_n 3, 1) := by decide +kernel
theorem dL_law_1470 : decode cL_law 1470 = .ok (.iconst 3, 1) := by decide +kernel
theorem dL_law_1471 : decode cL_law 1471 = .ok (.iadd, 1) := by decide +kernel
theorem dL_law_1472 : decode cL_law 1472 = .ok (.iaload, 1) := by decide +kernel
theorem dL_law_1473 : decode cL_law 1473 = .ok (.invokevirtual 142, 3) := by decide +kernel
theorem dL_law_1476 : decode cL_law 1476 = .ok (.pop, 1) := by decide +kernel
theorem dL_law_1477 : decode cL_law 1477 = .ok (.aload_n 2, 1) := by decide +kernel
theorem dL_law_1478 : decode cL_law 1478 = .ok (.aload_n 0, 1) := by decide +kernel
theorem dL_law_1479 : decode cL_law 1479 = .ok (.iload_n 3, 1) := by decide +kernel
theorem dL_law_1480 : decode cL_law 1480 = .ok (.iconst 1, 1) := by decide +kernel
theorem dL_law_1481 : decode cL_law 1481 = .ok (.iadd, 1) := by decide +kernel
theorem dL_law_1482 : decode cL_law 1482 = .ok (.iaload, 1) := by decide +kernel
theorem dL_law_1483 : decode cL_law 1483 = .ok (.aload_n 0, 1) := by decide +kernel
theorem dL_law_1484 : decode cL_law 1484 = .ok (.iload_n 3, 1) := by decide +kernel
theorem dL_law_1485 : decode cL_law 1485 = .ok (.iconst 2, 1) := by decide +kernel
theorem dL_law_1486 : decode cL_law 1486 = .ok (.iadd, 1) := by decide +kernel
theorem dL_law_1487 : decode cL_law 1487 = .ok (.iaload, 1) := by decide +kernel
theorem dL_law_1488 : decode cL_law 1488 = .ok (.aload_n 0, 1) := by decide +kernel
theorem dL_law_1489 : decode cL_law 1489 = .ok (.iload_n 3, 1) := by decide +kernel
theorem dL_law_1490 : decode cL_law 1490 = .ok (.iconst 3, 1) := by decide +kernel
theorem dL_law_1491 : decode cL_law 1491 = .ok (.iadd, 1) := by decide +kernel
theorem dL_law_1492 : decode cL_law 1492 = .ok (.iaload, 1) := by decide +kernel
theorem dL_law_1493 : decode cL_law 1493 = .ok (.invokevirtual 145, 3) := by decide +kernel
theorem dL_law_1496 : decode cL_law 1496 = .ok (.pop, 1) := by decide +kernel
theorem dL_law_1497 : decode cL_law 1497 = .ok (.goto 548, 3) := by decide +kernel
theorem dL_law_1500 : decode cL_law 1500 = .ok (.aload_n 1, 1) := by decide +kernel
theorem dL_law_1501 : decode cL_law 1501 = .ok (.aload_n 0, 1) := by decide +kernel
theorem dL_law_1502 : decode cL_law 1502 = .ok (.iload_n 3, 1) := by decide +kernel
theorem dL_law_1503 : decode cL_law 1503 = .ok (.iconst 1, 1) := by decide +kernel
theorem dL_law_1504 : decode cL_law 1504 = .ok (.iadd, 1) := by decide +kernel
theorem dL_law_1505 : decode cL_law 1505 = .ok (.iaload, 1) := by decide +kernel
theorem dL_law_1506 : decode cL_law 1506 = .ok (.aload_n 0, 1) := by decide +kernel
theorem dL_law_1507 : decode cL_law 1507 = .ok (.iload_n 3, 1) := by decide +kernel
theorem dL_law_1508 : decode cL_law 1508 = .ok (.iconst 2, 1) := by decide +kernel
theorem dL_law_1509 : decode cL_law 1509 = .ok (.iadd, 1) := by decide +kernel
theorem dL_law_1510 : decode cL_law 1510 = .ok (.iaload, 1) := by decide +kernel
theorem dL_law_1511 : decode cL_law 1511 = .ok (.aload_n 0, 1) := by decide +kernel
theorem dL_law_1512 : decode cL_law 1512 = .ok (.iload_n 3, 1) := by decide +kernel
theorem dL_law_1513 : decode cL_law 1513 = .ok (.iconst 3, 1) := by decide +kernel
theorem dL_law_1514 : decode cL_law 1514 = .ok (.iadd, 1) := by decide +kernel
theorem dL_law_1515 : decode cL_law 1515 = .ok (.iaload, 1) := by decide +kernel
theorem dL_law_1516 : decode cL_law 1516 = .ok (.aload_n 0, 1) := by decide +kernel
theorem dL_law_1517 : decode cL_law 1517 = .ok (.iload_n 3, 1) := by decide +kernel
theorem dL_law_1518 : decode cL_law 1518 = .ok (.iconst 4, 1) := by decide +kernel
theorem dL_law_1519 : decode cL_law 1519 = .ok (.iadd, 1) := by decide +kernel
theorem dL_law_1520 : decode cL_law 1520 = .ok (.iaload, 1) := by decide +kernel
theorem dL_law_1521 : decode cL_law 1521 = .ok (.aload_n 0, 1) := by decide +kernel
theorem dL_law_1522 : decode cL_law 1522 = .ok (.iload_n 3, 1) := by decide +kernel
theorem dL_law_1523 : decode cL_law 1523 = .ok (.iconst 5, 1) := by decide +kernel
theorem dL_law_1524 : decode cL_law 1524 = .ok (.iadd, 1) := by decide +kernel
theorem dL_law_1525 : decode cL_law 1525 = .ok (.iaload, 1) := by decide +kernel
theorem dL_law_1526 : decode cL_law 1526 = .ok (.invokevirtual 146, 3) := by decide +kernel
theorem dL_law_1529 : decode cL_law 1529 = .ok (.pop, 1) := by decide +kernel
theorem dL_law_1530 : decode cL_law 1530 = .ok (.aload_n 2, 1) := by decide +kernel
theorem dL_law_1531 : decode cL_law 1531 = .ok (.aload_n 0, 1) := by decide +kernel
theorem dL_law_1532 : decode cL_law 1532 = .ok (.iload_n 3, 1) := by decide +kernel
theorem dL_law_1533 : decode cL_law 1533 = .ok (.iconst 1, 1) := by decide +kernel
theorem dL_law_1534 : decode cL_law 1534 = .ok (.iadd, 1) := by decide +kernel
theorem dL_law_1535 : decode cL_law 1535 = .ok (.iaload, 1) := by decide +kernel
theorem dL_law_1536 : decode cL_law 1536 = .ok (.aload_n 0, 1) := by decide +kernel
theorem dL_law_1537 : decode cL_law 1537 = .ok (.iload_n 3, 1) := by decide +kernel
theorem dL_law_1538 : decode cL_law 1538 = .ok (.iconst 2, 1) := by decide +kernel
theorem dL_law_1539 : decode cL_law 1539 = .ok (.iadd, 1) := by decide +kernel
theorem dL_law_1540 : decode cL_law 1540 = .ok (.iaload, 1) := by decide +kernel
theorem dL_law_1541 : decode cL_law 1541 = .ok (.aload_n 0, 1) := by decide +kernel
theorem dL_law_1542 : decode cL_law 1542 = .ok (.iload_n 3, 1) := by decide +kernel
theorem dL_law_1543 : decode cL_law 1543 = .ok (.iconst 3, 1) := by decide +kernel
theorem dL_law_1544 : decode cL_law 1544 = .ok (.iadd, 1) := by decide +kernel
theorem dL_law_1545 : decode cL_law 1545 = .ok (.iaload, 1) := by decide +kernel
theorem dL_law_1546 : decode cL_law 1546 = .ok (.aload_n 0, 1) := by decide +kernel
theorem dL_law_1547 : decode cL_law 1547 = .ok (.iload_n 3, 1) := by decide +kernel
theorem dL_law_1548 : decode cL_law 1548 = .ok (.iconst 4, 1) := by decide +kernel
theorem dL_law_1549 : decode cL_law 1549 = .ok (.iadd, 1) := by decide +kernel
theorem dL_law_1550 : decode cL_law 1550 = .ok (.iaload, 1) := by decide +kernel
theorem dL_law_1551 : decode cL_law 1551 = .ok (.aload_n 0, 1) := by decide +kernel
theorem dL_law_1552 : decode cL_law 1552 = .ok (.iload_n 3, 1) := by decide +kernel
theorem dL_law_1553 : decode cL_law 1553 = .ok (.iconst 5, 1) := by decide +kernel
theorem dL_law_1554 : decode cL_law 1554 = .ok (.iadd, 1) := by decide +kernel
theorem dL_law_1555 : decode cL_law 1555 = .ok (.iaload, 1) := by decide +kernel
theorem dL_law_1556 : decode cL_law 1556 = .ok (.invokevirtual 149, 3) := by decide +kernel
theorem dL_law_1559 : decode cL_law 1559 = .ok (.pop, 1) := by decide +kernel
theorem dL_law_1560 : decode cL_law 1560 = .ok (.goto 485, 3) := by decide +kernel
theorem dL_law_1563 : decode cL_law 1563 = .ok (.aload_n 1, 1) := by decide +kernel
theorem dL_law_1564 : decode cL_law 1564 = .ok (.aload_n 0, 1) := by decide +kernel
theorem dL_law_1565 : decode cL_law 1565 = .ok (.iload_n 3, 1) := by decide +kernel
theorem dL_law_1566 : decode cL_law 1566 = .ok (.iconst 1, 1) := by decide +kernel
theorem dL_law_1567 : decode cL_law 1567 = .ok (.iadd, 1) := by decide +kernel
theorem dL_law_1568 : decode cL_law 1568 = .ok (.iaload, 1) := by decide +kernel
theorem dL_law_1569 : decode cL_law 1569 = .ok (.aload_n 0, 1) := by decide +kernel
theorem dL_law_1570 : decode cL_law 1570 = .ok (.iload_n 3, 1) := by decide +kernel
theorem dL_law_1571 : decode cL_law 1571 = .ok (.iconst 2, 1) := by decide +kernel
theorem dL_law_1572 : decode cL_law 1572 = .ok (.iadd, 1) := by decide +kernel
theorem dL_law_1573 : decode cL_law 1573 = .ok (.iaload, 1) := by decide +kernel
theorem dL_law_1574 : decode cL_law 1574 = .ok (.aload_n 0, 1) := by decide +kernel
theorem dL_law_1575 : decode cL_law 1575 = .ok (.iload_n 3, 1) := by decide +kernel
theorem dL_law_1576 : decode cL_law 1576 = .ok (.iconst 3, 1) := by decide +kernel
theorem dL_law_1577 : decode cL_law 1577 = .ok (.iadd, 1) := by decide +kernel
theorem dL_law_1578 : decode cL_law 1578 = .ok (.iaload, 1) := by decide +kernel
theorem dL_law_1579 : decode cL_law 1579 = .ok (.aload_n 0, 1) := by decide +kernel
theorem dL_law_1580 : decode cL_law 1580 = .ok (.iload_n 3, 1) := by decide +kernel
theorem dL_law_1581 : decode cL_law 1581 = .ok (.iconst 4, 1) := by decide +kernel
theorem dL_law_1582 : decode cL_law 1582 = .ok (.iadd, 1) := by decide +kernel
theorem dL_law_1583 : decode cL_law 1583 = .ok (.iaload, 1) := by decide +kernel
theorem dL_law_1584 : decode cL_law 1584 = .ok (.aload_n 0, 1) := by decide +kernel
theorem dL_law_1585 : decode cL_law 1585 = .ok (.iload_n 3, 1) := by decide +kernel
theorem dL_law_1586 : decode cL_law 1586 = .ok (.iconst 5, 1) := by decide +kernel
theorem dL_law_1587 : decode cL_law 1587 = .ok (.iadd, 1) := by decide +kernel
theorem dL_law_1588 : decode cL_law 1588 = .ok (.iaload, 1) := by decide +kernel
theorem dL_law_1589 : decode cL_law 1589 = .ok (.aload_n 0, 1) := by decide +kernel
theorem dL_law_1590 : decode cL_law 1590 = .ok (.iload_n 3, 1) := by decide +kernel
theorem dL_law_1591 : decode cL_law 1591 = .ok (.bipush 6, 2) := by decide +kernel
theorem dL_law_1593 : decode cL_law 1593 = .ok (.iadd, 1) := by decide +kernel
theorem dL_law_1594 : decode cL_law 1594 = .ok (.iaload, 1) := by decide +kernel
theorem dL_law_1595 : decode cL_law 1595 = .ok (.invokevirtual 150, 3) := by decide +kernel
theorem dL_law_1598 : decode cL_law 1598 = .ok (.pop, 1) := by decide +kernel
theorem dL_law_1599 : decode cL_law 1599 = .ok (.aload_n 2, 1) := by decide +kernel
theorem dL_law_1600 : decode cL_law 1600 = .ok (.aload_n 0, 1) := by decide +kernel
theorem dL_law_1601 : decode cL_law 1601 = .ok (.iload_n 3, 1) := by decide +kernel
theorem dL_law_1602 : decode cL_law 1602 = .ok (.iconst 1, 1) := by decide +kernel
theorem dL_law_1603 : decode cL_law 1603 = .ok (.iadd, 1) := by decide +kernel
theorem dL_law_1604 : decode cL_law 1604 = .ok (.iaload, 1) := by decide +kernel
theorem dL_law_1605 : decode cL_law 1605 = .ok (.aload_n 0, 1) := by decide +kernel
theorem dL_law_1606 : decode cL_law 1606 = .ok (.iload_n 3, 1) := by decide +kernel
theorem dL_law_1607 : decode cL_law 1607 = .ok (.iconst 2, 1) := by decide +kernel
theorem dL_law_1608 : decode cL_law 1608 = .ok (.iadd, 1) := by decide +kernel
theorem dL_law_1609 : decode cL_law 1609 = .ok (.iaload, 1) := by decide +kernel
theorem dL_law_1610 : decode cL_law 1610 = .ok (.aload_n 0, 1) := by decide +kernel
theorem dL_law_1611 : decode cL_law 1611 = .ok (.iload_n 3, 1) := by decide +kernel
theorem dL_law_1612 : decode cL_law 1612 = .ok (.iconst 3, 1) := by decide +kernel
theorem dL_law_1613 : decode cL_law 1613 = .ok (.iadd, 1) := by decide +kernel
theorem dL_law_1614 : decode cL_law 1614 = .ok (.iaload, 1) := by decide +kernel
theorem dL_law_1615 : decode cL_law 1615 = .ok (.aload_n 0, 1) := by decide +kernel
theorem dL_law_1616 : decode cL_law 1616 = .ok (.iload_n 3, 1) := by decide +kernel
theorem dL_law_1617 : decode cL_law 1617 = .ok (.iconst 4, 1) := by decide +kernel
theorem dL_law_1618 : decode cL_law 1618 = .ok (.iadd, 1) := by decide +kernel
theorem dL_law_1619 : decode cL_law 1619 = .ok (.iaload, 1) := by decide +kernel
theorem dL_law_1620 : decode cL_law 1620 = .ok (.aload_n 0, 1) := by decide +kernel
theorem dL_law_1621 : decode cL_law 1621 = .ok (.iload_n 3, 1) := by decide +kernel
theorem dL_law_1622 : decode cL_law 1622 = .ok (.iconst 5, 1) := by decide +kernel
theorem dL_law_1623 : decode cL_law 1623 = .ok (.iadd, 1) := by decide +kernel
theorem dL_law_1624 : decode cL_law 1624 = .ok (.iaload, 1) := by decide +kernel
theorem dL_law_1625 : decode cL_law 1625 = .ok (.aload_n 0, 1) := by decide +kernel
theorem dL_law_1626 : decode cL_law 1626 = .ok (.iload_n 3, 1) := by decide +kernel
theorem dL_law_1627 : decode cL_law 1627 = .ok (.bipush 6, 2) := by decide +kernel
theorem dL_law_1629 : decode cL_law 1629 = .ok (.iadd, 1) := by decide +kernel
theorem dL_law_1630 : decode cL_law 1630 = .ok (.iaload, 1) := by decide +kernel
theorem dL_law_1631 : decode cL_law 1631 = .ok (.invokevirtual 153, 3) := by decide +kernel
theorem dL_law_1634 : decode cL_law 1634 = .ok (.pop, 1) := by decide +kernel
theorem dL_law_1635 : decode cL_law 1635 = .ok (.goto 410, 3) := by decide +kernel
theorem dL_law_1638 : decode cL_law 1638 = .ok (.aload_n 1, 1) := by decide +kernel
theorem dL_law_1639 : decode cL_law 1639 = .ok (.aload_n 0, 1) := by decide +kernel
theorem dL_law_1640 : decode cL_law 1640 = .ok (.iload_n 3, 1) := by decide +kernel
theorem dL_law_1641 : decode cL_law 1641 = .ok (.iconst 1, 1) := by decide +kernel
theorem dL_law_1642 : decode cL_law 1642 = .ok (.iadd, 1) := by decide +kernel
theorem dL_law_1643 : decode cL_law 1643 = .ok (.iaload, 1) := by decide +kernel
theorem dL_law_1644 : decode cL_law 1644 = .ok (.aload_n 0, 1) := by decide +kernel
theorem dL_law_1645 : decode cL_law 1645 = .ok (.iload_n 3, 1) := by decide +kernel
theorem dL_law_1646 : decode cL_law 1646 = .ok (.iconst 2, 1) := by decide +kernel
theorem dL_law_1647 : decode cL_law 1647 = .ok (.iadd, 1) := by decide +kernel
theorem dL_law_1648 : decode cL_law 1648 = .ok (.iaload, 1) := by decide +kernel
theorem dL_law_1649 : decode cL_law 1649 = .ok (.aload_n 0, 1) := by decide +kernel
theorem dL_law_1650 : decode cL_law 1650 = .ok (.iload_n 3, 1) := by decide +kernel
theorem dL_law_1651 : decode cL_law 1651 = .ok (.iconst 3, 1) := by decide +kernel
theorem dL_law_1652 : decode cL_law 1652 = .ok (.iadd, 1) := by decide +kernel
theorem dL_law_1653 : decode cL_law 1653 = .ok (.iaload, 1) := by decide +kernel
theorem dL_law_1654 : decode cL_law 1654 = .ok (.invokevirtual 154, 3) := by decide +kernel
theorem dL_law_1657 : decode cL_law 1657 = .ok (.pop, 1) := by decide +kernel
theorem dL_law_1658 : decode cL_law 1658 = .ok (.aload_n 2, 1) := by decide +kernel
theorem dL_law_1659 : decode cL_law 1659 = .ok (.aload_n 0, 1) := by decide +kernel
theorem dL_law_1660 : decode cL_law 1660 = .ok (.iload_n 3, 1) := by decide +kernel
theorem dL_law_1661 : decode cL_law 1661 = .ok (.iconst 1, 1) := by decide +kernel
theorem dL_law_1662 : decode cL_law 1662 = .ok (.iadd, 1) := by decide +kernel
theorem dL_law_1663 : decode cL_law 1663 = .ok (.iaload, 1) := by decide +kernel
theorem dL_law_1664 : decode cL_law 1664 = .ok (.aload_n 0, 1) := by decide +kernel
theorem dL_law_1665 : decode cL_law 1665 = .ok (.iload_n 3, 1) := by decide +kernel
theorem dL_law_1666 : decode cL_law 1666 = .ok (.iconst 2, 1) := by decide +kernel
theorem dL_law_1667 : decode cL_law 1667 = .ok (.iadd, 1) := by decide +kernel
theorem dL_law_1668 : decode cL_law 1668 = .ok (.iaload, 1) := by decide +kernel
theorem dL_law_1669 : decode cL_law 1669 = .ok (.aload_n 0, 1) := by decide +kernel
theorem dL_law_1670 : decode cL_law 1670 = .ok (.iload_n 3, 1) := by decide +kernel
theorem dL_law_1671 : decode cL_law 1671 = .ok (.iconst 3, 1) := by decide +kernel
theorem dL_law_1672 : decode cL_law 1672 = .ok (.iadd, 1) := by decide +kernel
theorem dL_law_1673 : decode cL_law 1673 = .ok (.iaload, 1) := by decide +kernel
theorem dL_law_1674 : decode cL_law 1674 = .ok (.invokevirtual 157, 3) := by decide +kernel
theorem dL_law_1677 : decode cL_law 1677 = .ok (.pop, 1) := by decide +kernel
theorem dL_law_1678 : decode cL_law 1678 = .ok (.goto 367, 3) := by decide +kernel
theorem dL_law_1681 : decode cL_law 1681 = .ok (.aload_n 1, 1) := by decide +kernel
theorem dL_law_1682 : decode cL_law 1682 = .ok (.aload_n 0, 1) := by decide +kernel
theorem dL_law_1683 : decode cL_law 1683 = .ok (.iload_n 3, 1) := by decide +kernel
theorem dL_law_1684 : decode cL_law 1684 = .ok (.iconst 1, 1) := by decide +kernel
theorem dL_law_1685 : decode cL_law 1685 = .ok (.iadd, 1) := by decide +kernel
theorem dL_law_1686 : decode cL_law 1686 = .ok (.iaload, 1) := by decide +kernel
theorem dL_law_1687 : decode cL_law 1687 = .ok (.aload_n 0, 1) := by decide +kernel
theorem dL_law_1688 : decode cL_law 1688 = .ok (.iload_n 3, 1) := by decide +kernel
theorem dL_law_1689 : decode cL_law 1689 = .ok (.iconst 2, 1) := by decide +kernel
theorem dL_law_1690 : decode cL_law 1690 = .ok (.iadd, 1) := by decide +kernel
theorem dL_law_1691 : decode cL_law 1691 = .ok (.iaload, 1) := by decide +kernel
theorem dL_law_1692 : decode cL_law 1692 = .ok (.aload_n 0, 1) := by decide +kernel
theorem dL_law_1693 : decode cL_law 1693 = .ok (.iload_n 3, 1) := by decide +kernel
theorem dL_law_1694 : decode cL_law 1694 = .ok (.iconst 3, 1) := by decide +kernel
theorem dL_law_1695 : decode cL_law 1695 = .ok (.iadd, 1) := by decide +kernel
theorem dL_law_1696 : decode cL_law 1696 = .ok (.iaload, 1) := by decide +kernel
theorem dL_law_1697 : decode cL_law 1697 = .ok (.aload_n 0, 1) := by decide +kernel
theorem dL_law_1698 : decode cL_law 1698 = .ok (.iload_n 3, 1) := by decide +kernel
theorem dL_law_1699 : decode cL_law 1699 = .ok (.iconst 4, 1) := by decide +kernel
theorem dL_law_1700 : decode cL_law 1700 = .ok (.iadd, 1) := by decide +kernel
theorem dL_law_1701 : decode cL_law 1701 = .ok (.iaload, 1) := by decide +kernel
theorem dL_law_1702 : decode cL_law 1702 = .ok (.invokevirtual 158, 3) := by decide +kernel
theorem dL_law_1705 : decode cL_law 1705 = .ok (.pop, 1) := by decide +kernel
theorem dL_law_1706 : decode cL_law 1706 = .ok (.aload_n 2, 1) := by decide +kernel
theorem dL_law_1707 : decode cL_law 1707 = .ok (.aload_n 0, 1) := by decide +kernel
theorem dL_law_1708 : decode cL_law 1708 = .ok (.iload_n 3, 1) := by decide +kernel
theorem dL_law_1709 : decode cL_law 1709 = .ok (.iconst 1, 1) := by decide +kernel
theorem dL_law_1710 : decode cL_law 1710 = .ok (.iadd, 1) := by decide +kernel
theorem dL_law_1711 : decode cL_law 1711 = .ok (.iaload, 1) := by decide +kernel
theorem dL_law_1712 : decode cL_law 1712 = .ok (.aload_n 0, 1) := by decide +kernel
theorem dL_law_1713 : decode cL_law 1713 = .ok (.iload_n 3, 1) := by decide +kernel
theorem dL_law_1714 : decode cL_law 1714 = .ok (.iconst 2, 1) := by decide +kernel
theorem dL_law_1715 : decode cL_law 1715 = .ok (.iadd, 1) := by decide +kernel
theorem dL_law_1716 : decode cL_law 1716 = .ok (.iaload, 1) := by decide +kernel
theorem dL_law_1717 : decode cL_law 1717 = .ok (.aload_n 0, 1) := by decide +kernel
theorem dL_law_1718 : decode cL_law 1718 = .ok (.iload_n 3, 1) := by decide +kernel
theorem dL_law_1719 : decode cL_law 1719 = .ok (.iconst 3, 1) := by decide +kernel
theorem dL_law_1720 : decode cL_law 1720 = .ok (.iadd, 1) := by decide +kernel
theorem dL_law_1721 : decode cL_law 1721 = .ok (.iaload, 1) := by decide +kernel
theorem dL_law_1722 : decode cL_law 1722 = .ok (.aload_n 0, 1) := by decide +kernel
theorem dL_law_1723 : decode cL_law 1723 = .ok (.iload_n 3, 1) := by decide +kernel
theorem dL_law_1724 : decode cL_law 1724 = .ok (.iconst 4, 1) := by decide +kernel
theorem dL_law_1725 : decode cL_law 1725 = .ok (.iadd, 1) := by decide +kernel
theorem dL_law_1726 : decode cL_law 1726 = .ok (.iaload, 1) := by decide +kernel
theorem dL_law_1727 : decode cL_law 1727 = .ok (.invokevirtual 161, 3) := by decide +kernel
theorem dL_law_1730 : decode cL_law 1730 = .ok (.pop, 1) := by decide +kernel
theorem dL_law_1731 : decode cL_law 1731 = .ok (.goto 314, 3) := by decide +kernel
theorem dL_law_1734 : decode cL_law 1734 = .ok (.aload_n 1, 1) := by decide +kernel
theorem dL_law_1735 : decode cL_law 1735 = .ok (.aload_n 0, 1) := by decide +kernel
theorem dL_law_1736 : decode cL_law 1736 = .ok (.iload_n 3, 1) := by decide +kernel
theorem dL_law_1737 : decode cL_law 1737 = .ok (.iconst 1, 1) := by decide +kernel
theorem dL_law_1738 : decode cL_law 1738 = .ok (.iadd, 1) := by decide +kernel
theorem dL_law_1739 : decode cL_law 1739 = .ok (.iaload, 1) := by decide +kernel
theorem dL_law_1740 : decode cL_law 1740 = .ok (.aload_n 0, 1) := by decide +kernel
theorem dL_law_1741 : decode cL_law 1741 = .ok (.iload_n 3, 1) := by decide +kernel
theorem dL_law_1742 : decode cL_law 1742 = .ok (.iconst 2, 1) := by decide +kernel
theorem dL_law_1743 : decode cL_law 1743 = .ok (.iadd, 1) := by decide +kernel
theorem dL_law_1744 : decode cL_law 1744 = .ok (.iaload, 1) := by decide +kernel
theorem dL_law_1745 : decode cL_law 1745 = .ok (.aload_n 0, 1) := by decide +kernel
theorem dL_law_1746 : decode cL_law 1746 = .ok (.iload_n 3, 1) := by decide +kernel
theorem dL_law_1747 : decode cL_law 1747 = .ok (.iconst 3, 1) := by decide +kernel
theorem dL_law_1748 : decode cL_law 1748 = .ok (.iadd, 1) := by decide +kernel
theorem dL_law_1749 : decode cL_law 1749 = .ok (.iaload, 1) := by decide +kernel
theorem dL_law_1750 : decode cL_law 1750 = .ok (.invokevirtual 162, 3) := by decide +kernel
theorem dL_law_1753 : decode cL_law 1753 = .ok (.pop, 1) := by decide +kernel
theorem dL_law_1754 : decode cL_law 1754 = .ok (.aload_n 2, 1) := by decide +kernel
theorem dL_law_1755 : decode cL_law 1755 = .ok (.aload_n 0, 1) := by decide +kernel
theorem dL_law_1756 : decode cL_law 1756 = .ok (.iload_n 3, 1) := by decide +kernel
theorem dL_law_1757 : decode cL_law 1757 = .ok (.iconst 1, 1) := by decide +kernel
theorem dL_law_1758 : decode cL_law 1758 = .ok (.iadd, 1) := by decide +kernel
theorem dL_law_1759 : decode cL_law 1759 = .ok (.iaload, 1) := by decide +kernel
theorem dL_law_1760 : decode cL_law 1760 = .ok (.aload_n 0, 1) := by decide +kernel
theorem dL_law_1761 : decode cL_law 1761 = .ok (.iload_n 3, 1) := by decide +kernel
theorem dL_law_1762 : decode cL_law 1762 = .ok (.iconst 2, 1) := by decide +kernel
theorem dL_law_1763 : decode cL_law 1763 = .ok (.iadd, 1) := by decide +kernel
theorem dL_law_1764 : decode cL_law 1764 = .ok (.iaload, 1) := by decide +kernel
theorem dL_law_1765 : decode cL_law 1765 = .ok (.aload_n 0, 1) := by decide +kernel
theorem dL_law_1766 : decode cL_law 1766 = .ok (.iload_n 3, 1) := by decide +kernel
theorem dL_law_1767 : decode cL_law 1767 = .ok (.iconst 3, 1) := by decide +kernel
theorem dL_law_1768 : decode cL_law 1768 = .ok (.iadd, 1) := by decide +kernel
theorem dL_law_1769 : decode cL_law 1769 = .ok (.iaload, 1) := by decide +kernel
theorem dL_law_1770 : decode cL_law 1770 = .ok (.invokevirtual 165, 3) := by decide +kernel
theorem dL_law_1773 : decode cL_law 1773 = .ok (.pop, 1) := by decide +kernel
theorem dL_law_1774 : decode cL_law 1774 = .ok (.goto 271, 3) := by decide +kernel
theorem dL_law_1777 : decode cL_law 1777 = .ok (.aload_n 1, 1) := by decide +kernel
theorem dL_law_1778 : decode cL_law 1778 = .ok (.aload_n 0, 1) := by decide +kernel
theorem dL_law_1779 : decode cL_law 1779 = .ok (.iload_n 3, 1) := by decide +kernel
theorem dL_law_1780 : decode cL_law 1780 = .ok (.iconst 1, 1) := by decide +kernel
theorem dL_law_1781 : decode cL_law 1781 = .ok (.iadd, 1) := by decide +kernel
theorem dL_law_1782 : decode cL_law 1782 = .ok (.iaload, 1) := by decide +kernel
theorem dL_law_1783 : decode cL_law 1783 = .ok (.aload_n 0, 1) := by decide +kernel
theorem dL_law_1784 : decode cL_law 1784 = .ok (.iload_n 3, 1) := by decide +kernel
theorem dL_law_1785 : decode cL_law 1785 = .ok (.iconst 2, 1) := by decide +kernel
theorem dL_law_1786 : decode cL_law 1786 = .ok (.iadd, 1) := by decide +kernel
theorem dL_law_1787 : decode cL_law 1787 = .ok (.iaload, 1) := by decide +kernel
theorem dL_law_1788 : decode cL_law 1788 = .ok (.aload_n 0, 1) := by decide +kernel
theorem dL_law_1789 : decode cL_law 1789 = .ok (.iload_n 3, 1) := by decide +kernel
theorem dL_law_1790 : decode cL_law 1790 = .ok (.iconst 3, 1) := by decide +kernel
theorem dL_law_1791 : decode cL_law 1791 = .ok (.iadd, 1) := by decide +kernel
theorem dL_law_1792 : decode cL_law 1792 = .ok (.iaload, 1) := by decide +kernel
theorem dL_law_1793 : decode cL_law 1793 = .ok (.invokevirtual 166, 3) := by decide +kernel
theorem dL_law_1796 : decode cL_law 1796 = .ok (.pop, 1) := by decide +kernel
theorem dL_law_1797 : decode cL_law 1797 = .ok (.aload_n 2, 1) := by decide +kernel
theorem dL_law_1798 : decode cL_law 1798 = .ok (.aload_n 0, 1) := by decide +kernel
theorem dL_law_1799 : decode cL_law 1799 = .ok (.iload_n 3, 1) := by decide +kernel
theorem dL_law_1800 : decode cL_law 1800 = .ok (.iconst 1, 1) := by decide +kernel
theorem dL_law_1801 : decode cL_law 1801 = .ok (.iadd, 1) := by decide +kernel
theorem dL_law_1802 : decode cL_law 1802 = .ok (.iaload, 1) := by decide +kernel
theorem dL_law_1803 : decode cL_law 1803 = .ok (.aload_n 0, 1) := by decide +kernel
theorem dL_law_1804 : decode cL_law 1804 = .ok (.iload_n 3, 1) := by decide +kernel
theorem dL_law_1805 : decode cL_law 1805 = .ok (.iconst 2, 1) := by decide +kernel
theorem dL_law_1806 : decode cL_law 1806 = .ok (.iadd, 1) := by decide +kernel
theorem dL_law_1807 : decode cL_law 1807 = .ok (.iaload, 1) := by decide +kernel
theorem dL_law_1808 : decode cL_law 1808 = .ok (.aload_n 0, 1) := by decide +kernel
theorem dL_law_1809 : decode cL_law 1809 = .ok (.iload_n 3, 1) := by decide +kernel
theorem dL_law_1810 : decode cL_law 1810 = .ok (.iconst 3, 1) := by decide +kernel
theorem dL_law_1811 : decode cL_law 1811 = .ok (.iadd, 1) := by decide +kernel
theorem dL_law_1812 : decode cL_law 1812 = .ok (.iaload, 1) := by decide +kernel
theorem dL_law_1813 : decode cL_law 1813 = .ok (.invokevirtual 169, 3) := by decide +kernel
theorem dL_law_1816 : decode cL_law 1816 = .ok (.pop, 1) := by decide +kernel
theorem dL_law_1817 : decode cL_law 1817 = .ok (.goto 228, 3) := by decide +kernel
theorem dL_law_1820 : decode cL_law 1820 = .ok (.aload_n 1, 1) := by decide +kernel
theorem dL_law_1821 : decode cL_law 1821 = .ok (.aload_n 0, 1) := by decide +kernel
theorem dL_law_1822 : decode cL_law 1822 = .ok (.iload_n 3, 1) := by decide +kernel
theorem dL_law_1823 : decode cL_law 1823 = .ok (.iconst 1, 1) := by decide +kernel
theorem dL_law_1824 : decode cL_law 1824 = .ok (.iadd, 1) := by decide +kernel
theorem dL_law_1825 : decode cL_law 1825 = .ok (.iaload, 1) := by decide +kernel
theorem dL_law_1826 : decode cL_law 1826 = .ok (.aload_n 0, 1) := by decide +kernel
theorem dL_law_1827 : decode cL_law 1827 = .ok (.iload_n 3, 1) := by decide +kernel
theorem dL_law_1828 : decode cL_law 1828 = .ok (.iconst 2, 1) := by decide +kernel
theorem dL_law_1829 : decode cL_law 1829 = .ok (.iadd, 1) := by decide +kernel
theorem dL_law_1830 : decode cL_law 1830 = .ok (.iaload, 1) := by decide +kernel
theorem dL_law_1831 : decode cL_law 1831 = .ok (.aload_n 0, 1) := by decide +kernel
theorem dL_law_1832 : decode cL_law 1832 = .ok (.iload_n 3, 1) := by decide +kernel
theorem dL_law_1833 : decode cL_law 1833 = .ok (.iconst 3, 1) := by decide +kernel
theorem dL_law_1834 : decode cL_law 1834 = .ok (.iadd, 1) := by decide +kernel
theorem dL_law_1835 : decode cL_law 1835 = .ok (.iaload, 1) := by decide +kernel
theorem dL_law_1836 : decode cL_law 1836 = .ok (.aload_n 0, 1) := by decide +kernel
theorem dL_law_1837 : decode cL_law 1837 = .ok (.iload_n 3, 1) := by decide +kernel
theorem dL_law_1838 : decode cL_law 1838 = .ok (.iconst 4, 1) := by decide +kernel
theorem dL_law_1839 : decode cL_law 1839 = .ok (.iadd, 1) := by decide +kernel
theorem dL_law_1840 : decode cL_law 1840 = .ok (.iaload, 1) := by decide +kernel
theorem dL_law_1841 : decode cL_law 1841 = .ok (.aload_n 0, 1) := by decide +kernel
theorem dL_law_1842 : decode cL_law 1842 = .ok (.iload_n 3, 1) := by decide +kernel
theorem dL_law_1843 : decode cL_law 1843 = .ok (.iconst 5, 1) := by decide +kernel
theorem dL_law_1844 : decode cL_law 1844 = .ok (.iadd, 1) := by decide +kernel
theorem dL_law_1845 : decode cL_law 1845 = .ok (.iaload, 1) := by decide +kernel
theorem dL_law_1846 : decode cL_law 1846 = .ok (.aload_n 0, 1) := by decide +kernel
theorem dL_law_1847 : decode cL_law 1847 = .ok (.iload_n 3, 1) := by decide +kernel
theorem dL_law_1848 : decode cL_law 1848 = .ok (.bipush 6, 2) := by decide +kernel
theorem dL_law_1850 : decode cL_law 1850 = .ok (.iadd, 1) := by decide +kernel
theorem dL_law_1851 : decode cL_law 1851 = .ok (.iaload, 1) := by decide +kernel
theorem dL_law_1852 : decode cL_law 1852 = .ok (.aload_n 0, 1) := by decide +kernel
theorem dL_law_1853 : decode cL_law 1853 = .ok (.iload_n 3, 1) := by decide +kernel
theorem dL_law_1854 : decode cL_law 1854 = .ok (.bipush 7, 2) := by decide +kernel
theorem dL_law_1856 : decode cL_law 1856 = .ok (.iadd, 1) := by decide +kernel
theorem dL_law_1857 : decode cL_law 1857 = .ok (.iaload, 1) := by decide +kernel
theorem dL_law_1858 : decode cL_law 1858 = .ok (.invokevirtual 170, 3) := by decide +kernel
theorem dL_law_1861 : decode cL_law 1861 = .ok (.pop2, 1) := by decide +kernel
theorem dL_law_1862 : decode cL_law 1862 = .ok (.aload_n 2, 1) := by decide +kernel
theorem dL_law_1863 : decode cL_law 1863 = .ok (.aload_n 0, 1) := by decide +kernel
theorem dL_law_1864 : decode cL_law 1864 = .ok (.iload_n 3, 1) := by decide +kernel
theorem dL_law_1865 : decode cL_law 1865 = .ok (.iconst 1, 1) := by decide +kernel
theorem dL_law_1866 : decode cL_law 1866 = .ok (.iadd, 1) := by decide +kernel
theorem dL_law_1867 : decode cL_law 1867 = .ok (.iaload, 1) := by decide +kernel
theorem dL_law_1868 : decode cL_law 1868 = .ok (.aload_n 0, 1) := by decide +kernel
theorem dL_law_1869 : decode cL_law 1869 = .ok (.iload_n 3, 1) := by decide +kernel
theorem dL_law_1870 : decode cL_law 1870 = .ok (.iconst 2, 1) := by decide +kernel
theorem dL_law_1871 : decode cL_law 1871 = .ok (.iadd, 1) := by decide +kernel
theorem dL_law_1872 : decode cL_law 1872 = .ok (.iaload, 1) := by decide +kernel
theorem dL_law_1873 : decode cL_law 1873 = .ok (.aload_n 0, 1) := by decide +kernel
theorem dL_law_1874 : decode cL_law 1874 = .ok (.iload_n 3, 1) := by decide +kernel
theorem dL_law_1875 : decode cL_law 1875 = .ok (.iconst 3, 1) := by decide +kernel
theorem dL_law_1876 : decode cL_law 1876 = .ok (.iadd, 1) := by decide +kernel
theorem dL_law_1877 : decode cL_law 1877 = .ok (.iaload, 1) := by decide +kernel
theorem dL_law_1878 : decode cL_law 1878 = .ok (.aload_n 0, 1) := by decide +kernel
theorem dL_law_1879 : decode cL_law 1879 = .ok (.iload_n 3, 1) := by decide +kernel
theorem dL_law_1880 : decode cL_law 1880 = .ok (.iconst 4, 1) := by decide +kernel
theorem dL_law_1881 : decode cL_law 1881 = .ok (.iadd, 1) := by decide +kernel
theorem dL_law_1882 : decode cL_law 1882 = .ok (.iaload, 1) := by decide +kernel
theorem dL_law_1883 : decode cL_law 1883 = .ok (.aload_n 0, 1) := by decide +kernel
theorem dL_law_1884 : decode cL_law 1884 = .ok (.iload_n 3, 1) := by decide +kernel
theorem dL_law_1885 : decode cL_law 1885 = .ok (.iconst 5, 1) := by decide +kernel
theorem dL_law_1886 : decode cL_law 1886 = .ok (.iadd, 1) := by decide +kernel
theorem dL_law_1887 : decode cL_law 1887 = .ok (.iaload, 1) := by decide +kernel
theorem dL_law_1888 : decode cL_law 1888 = .ok (.aload_n 0, 1) := by decide +kernel
theorem dL_law_1889 : decode cL_law 1889 = .ok (.iload_n 3, 1) := by decide +kernel
theorem dL_law_1890 : decode cL_law 1890 = .ok (.bipush 6, 2) := by decide +kernel
theorem dL_law_1892 : decode cL_law 1892 = .ok (.iadd, 1) := by decide +kernel
theorem dL_law_1893 : decode cL_law 1893 = .ok (.iaload, 1) := by decide +kernel
theorem dL_law_1894 : decode cL_law 1894 = .ok (.aload_n 0, 1) := by decide +kernel
theorem dL_law_1895 : decode cL_law 1895 = .ok (.iload_n 3, 1) := by decide +kernel
theorem dL_law_1896 : decode cL_law 1896 = .ok (.bipush 7, 2) := by decide +kernel
theorem dL_law_1898 : decode cL_law 1898 = .ok (.iadd, 1) := by decide +kernel
theorem dL_law_1899 : decode cL_law 1899 = .ok (.iaload, 1) := by decide +kernel
theorem dL_law_1900 : decode cL_law 1900 = .ok (.invokevirtual 174, 3) := by decide +kernel
theorem dL_law_1903 : decode cL_law 1903 = .ok (.pop2, 1) := by decide +kernel
theorem dL_law_1904 : decode cL_law 1904 = .ok (.goto 141, 3) := by decide +kernel
theorem dL_law_1907 : decode cL_law 1907 = .ok (.aload_n 1, 1) := by decide +kernel
theorem dL_law_1908 : decode cL_law 1908 = .ok (.aload_n 0, 1) := by decide +kernel
theorem dL_law_1909 : decode cL_law 1909 = .ok (.iload_n 3, 1) := by decide +kernel
theorem dL_law_1910 : decode cL_law 1910 = .ok (.iconst 1, 1) := by decide +kernel
theorem dL_law_1911 : decode cL_law 1911 = .ok (.iadd, 1) := by decide +kernel
theorem dL_law_1912 : decode cL_law 1912 = .ok (.iaload, 1) := by decide +kernel
theorem dL_law_1913 : decode cL_law 1913 = .ok (.aload_n 0, 1) := by decide +kernel
theorem dL_law_1914 : decode cL_law 1914 = .ok (.iload_n 3, 1) := by decide +kernel
theorem dL_law_1915 : decode cL_law 1915 = .ok (.iconst 2, 1) := by decide +kernel
theorem dL_law_1916 : decode cL_law 1916 = .ok (.iadd, 1) := by decide +kernel
theorem dL_law_1917 : decode cL_law 1917 = .ok (.iaload, 1) := by decide +kernel
theorem dL_law_1918 : decode cL_law 1918 = .ok (.aload_n 0, 1) := by decide +kernel
theorem dL_law_1919 : decode cL_law 1919 = .ok (.iload_n 3, 1) := by decide +kernel
theorem dL_law_1920 : decode cL_law 1920 = .ok (.iconst 3, 1) := by decide +kernel
theorem dL_law_1921 : decode cL_law 1921 = .ok (.iadd, 1) := by decide +kernel
theorem dL_law_1922 : decode cL_law 1922 = .ok (.iaload, 1) := by decide +kernel
theorem dL_law_1923 : decode cL_law 1923 = .ok (.aload_n 0, 1) := by decide +kernel
theorem dL_law_1924 : decode cL_law 1924 = .ok (.iload_n 3, 1) := by decide +kernel
theorem dL_law_1925 : decode cL_law 1925 = .ok (.iconst 4, 1) := by decide +kernel
theorem dL_law_1926 : decode cL_law 1926 = .ok (.iadd, 1) := by decide +kernel
theorem dL_law_1927 : decode cL_law 1927 = .ok (.iaload, 1) := by decide +kernel
theorem dL_law_1928 : decode cL_law 1928 = .ok (.invokevirtual 175, 3) := by decide +kernel
theorem dL_law_1931 : decode cL_law 1931 = .ok (.pop, 1) := by decide +kernel
theorem dL_law_1932 : decode cL_law 1932 = .ok (.aload_n 2, 1) := by decide +kernel
theorem dL_law_1933 : decode cL_law 1933 = .ok (.aload_n 0, 1) := by decide +kernel
theorem dL_law_1934 : decode cL_law 1934 = .ok (.iload_n 3, 1) := by decide +kernel
theorem dL_law_1935 : decode cL_law 1935 = .ok (.iconst 1, 1) := by decide +kernel
theorem dL_law_1936 : decode cL_law 1936 = .ok (.iadd, 1) := by decide +kernel
theorem dL_law_1937 : decode cL_law 1937 = .ok (.iaload, 1) := by decide +kernel
theorem dL_law_1938 : decode cL_law 1938 = .ok (.aload_n 0, 1) := by decide +kernel
theorem dL_law_1939 : decode cL_law 1939 = .ok (.iload_n 3, 1) := by decide +kernel
theorem dL_law_1940 : decode cL_law 1940 = .ok (.iconst 2, 1) := by decide +kernel
theorem dL_law_1941 : decode cL_law 1941 = .ok (.iadd, 1) := by decide +kernel
theorem dL_law_1942 : decode cL_law 1942 = .ok (.iaload, 1) := by decide +kernel
theorem dL_law_1943 : decode cL_law 1943 = .ok (.aload_n 0, 1) := by decide +kernel
theorem dL_law_1944 : decode cL_law 1944 = .ok (.iload_n 3, 1) := by decide +kernel
theorem dL_law_1945 : decode cL_law 1945 = .ok (.iconst 3, 1) := by decide +kernel
theorem dL_law_1946 : decode cL_law 1946 = .ok (.iadd, 1) := by decide +kernel
theorem dL_law_1947 : decode cL_law 1947 = .ok (.iaload, 1) := by decide +kernel
theorem dL_law_1948 : decode cL_law 1948 = .ok (.aload_n 0, 1) := by decide +kernel
theorem dL_law_1949 : decode cL_law 1949 = .ok (.iload_n 3, 1) := by decide +kernel
theorem dL_law_1950 : decode cL_law 1950 = .ok (.iconst 4, 1) := by decide +kernel
theorem dL_law_1951 : decode cL_law 1951 = .ok (.iadd, 1) := by decide +kernel
theorem dL_law_1952 : decode cL_law 1952 = .ok (.iaload, 1) := by decide +kernel
theorem dL_law_1953 : decode cL_law 1953 = .ok (.invokevirtual 178, 3) := by decide +kernel
theorem dL_law_1956 : decode cL_law 1956 = .ok (.pop, 1) := by decide +kernel
theorem dL_law_1957 : decode cL_law 1957 = .ok (.goto 88, 3) := by decide +kernel
theorem dL_law_1960 : decode cL_law 1960 = .ok (.aload_n 1, 1) := by decide +kernel
theorem dL_law_1961 : decode cL_law 1961 = .ok (.invokevirtual 179, 3) := by decide +kernel
theorem dL_law_1964 : decode cL_law 1964 = .ok (.pop, 1) := by decide +kernel
theorem dL_law_1965 : decode cL_law 1965 = .ok (.aload_n 2, 1) := by decide +kernel
theorem dL_law_1966 : decode cL_law 1966 = .ok (.invokevirtual 182, 3) := by decide +kernel
theorem dL_law_1969 : decode cL_law 1969 = .ok (.pop, 1) := by decide +kernel
theorem dL_law_1970 : decode cL_law 1970 = .ok (.goto 75, 3) := by decide +kernel
theorem dL_law_1973 : decode cL_law 1973 = .ok (.aload_n 1, 1) := by decide +kernel
theorem dL_law_1974 : decode cL_law 1974 = .ok (.aload_n 0, 1) := by decide +kernel
theorem dL_law_1975 : decode cL_law 1975 = .ok (.iload_n 3, 1) := by decide +kernel
theorem dL_law_1976 : decode cL_law 1976 = .ok (.iconst 1, 1) := by decide +kernel
theorem dL_law_1977 : decode cL_law 1977 = .ok (.iadd, 1) := by decide +kernel
theorem dL_law_1978 : decode cL_law 1978 = .ok (.iaload, 1) := by decide +kernel
theorem dL_law_1979 : decode cL_law 1979 = .ok (.invokevirtual 183, 3) := by decide +kernel
theorem dL_law_1982 : decode cL_law 1982 = .ok (.pop, 1) := by decide +kernel
theorem dL_law_1983 : decode cL_law 1983 = .ok (.aload_n 2, 1) := by decide +kernel
theorem dL_law_1984 : decode cL_law 1984 = .ok (.aload_n 0, 1) := by decide +kernel
theorem dL_law_1985 : decode cL_law 1985 = .ok (.iload_n 3, 1) := by decide +kernel
theorem dL_law_1986 : decode cL_law 1986 = .ok (.iconst 1, 1) := by decide +kernel
theorem dL_law_1987 : decode cL_law 1987 = .ok (.iadd, 1) := by decide +kernel
theorem dL_law_1988 : decode cL_law 1988 = .ok (.iaload, 1) := by decide +kernel
theorem dL_law_1989 : decode cL_law 1989 = .ok (.invokevirtual 186, 3) := by decide +kernel
theorem dL_law_1992 : decode cL_law 1992 = .ok (.pop, 1) := by decide +kernel
theorem dL_law_1993 : decode cL_law 1993 = .ok (.goto 52, 3) := by decide +kernel
theorem dL_law_1996 : decode cL_law 1996 = .ok (.aload_n 1, 1) := by decide +kernel
theorem dL_law_1997 : decode cL_law 1997 = .ok (.invokevirtual 187, 3) := by decide +kernel
theorem dL_law_2000 : decode cL_law 2000 = .ok (.pop, 1) := by decide +kernel
theorem dL_law_2001 : decode cL_law 2001 = .ok (.aload_n 2, 1) := by decide +kernel
theorem dL_law_2002 : decode cL_law 2002 = .ok (.invokevirtual 190, 3) := by decide +kernel
theorem dL_law_2005 : decode cL_law 2005 = .ok (.pop, 1) := by decide +kernel
theorem dL_law_2006 : decode cL_law 2006 = .ok (.goto 39, 3) := by decide +kernel
theorem dL_law_2009 : decode cL_law 2009 = .ok (.aload_n 1, 1) := by decide +kernel
theorem dL_law_2010 : decode cL_law 2010 = .ok (.invokevirtual 191, 3) := by decide +kernel
theorem dL_law_2013 : decode cL_law 2013 = .ok (.pop, 1) := by decide +kernel
theorem dL_law_2014 : decode cL_law 2014 = .ok (.aload_n 2, 1) := by decide +kernel
theorem dL_law_2015 : decode cL_law 2015 = .ok (.invokevirtual 194, 3) := by decide +kernel
theorem dL_law_2018 : decode cL_law 2018 = .ok (.pop, 1) := by decide +kernel
theorem dL_law_2019 : decode cL_law 2019 = .ok (.goto 26, 3) := by decide +kernel
theorem dL_law_2022 : decode cL_law 2022 = .ok (.aload_n 1, 1) := by decide +kernel
theorem dL_law_2023 : decode cL_law 2023 = .ok (.aload_n 0, 1) := by decide +kernel
theorem dL_law_2024 : decode cL_law 2024 = .ok (.iload_n 3, 1) := by decide +kernel
theorem dL_law_2025 : decode cL_law 2025 = .ok (.iconst 1, 1) := by decide +kernel
theorem dL_law_2026 : decode cL_law 2026 = .ok (.iadd, 1) := by decide +kernel
theorem dL_law_2027 : decode cL_law 2027 = .ok (.iaload, 1) := by decide +kernel
theorem dL_law_2028 : decode cL_law 2028 = .ok (.invokevirtual 195, 3) := by decide +kernel
theorem dL_law_2031 : decode cL_law 2031 = .ok (.pop, 1) := by decide +kernel
theorem dL_law_2032 : decode cL_law 2032 = .ok (.aload_n 2, 1) := by decide +kernel
theorem dL_law_2033 : decode cL_law 2033 = .ok (.aload_n 0, 1) := by decide +kernel
theorem dL_law_2034 : decode cL_law 2034 = .ok (.iload_n 3, 1) := by decide +kernel
theorem dL_law_2035 : decode cL_law 2035 = .ok (.iconst 1, 1) := by decide +kernel
theorem dL_law_2036 : decode cL_law 2036 = .ok (.iadd, 1) := by decide +kernel
theorem dL_law_2037 : decode cL_law 2037 = .ok (.iaload, 1) := by decide +kernel
theorem dL_law_2038 : decode cL_law 2038 = .ok (.invokevirtual 198, 3) := by decide +kernel
theorem dL_law_2041 : decode cL_law 2041 = .ok (.pop, 1) := by decide +kernel
theorem dL_law_2042 : decode cL_law 2042 = .ok (.goto 3, 3) := by decide +kernel

