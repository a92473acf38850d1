theorem q332 : Cond.methodLink RL 13 yX10_sheet ∈ big := big_of (List.mem_of_getElem? (i := 332) (by decide +kernel)) rfl
theorem q333 : Cond.instanceMethod yX10_sheet ∈ big := big_of (List.mem_of_getElem? (i := 333) (by decide +kernel)) rfl
theorem q334 : Cond.selects RX10 yX10_sheet yX10_sheet ∈ big := big_of (List.mem_of_getElem? (i := 334) (by decide +kernel)) rfl
theorem q335 : Cond.code yX10_sheet cX10_sheet 4 (some .int) ∈ big := big_of (List.mem_of_getElem? (i := 335) (by decide +kernel)) rfl
theorem q348 : Cond.methodLink RL 18 yX10_lay ∈ big := big_of (List.mem_of_getElem? (i := 348) (by decide +kernel)) rfl
theorem q349 : Cond.instanceMethod yX10_lay ∈ big := big_of (List.mem_of_getElem? (i := 349) (by decide +kernel)) rfl
theorem q350 : Cond.selects RX10 yX10_lay yX10_lay ∈ big := big_of (List.mem_of_getElem? (i := 350) (by decide +kernel)) rfl
theorem q351 : Cond.code yX10_lay cX10_lay 6 (some .int) ∈ big := big_of (List.mem_of_getElem? (i := 351) (by decide +kernel)) rfl
theorem q368 : Cond.methodLink RL 23 yX10_tear ∈ big := big_of (List.mem_of_getElem? (i := 368) (by decide +kernel)) rfl
theorem q369 : Cond.instanceMethod yX10_tear ∈ big := big_of (List.mem_of_getElem? (i := 369) (by decide +kernel)) rfl
theorem q370 : Cond.selects RX10 yX10_tear yX10_tear ∈ big := big_of (List.mem_of_getElem? (i := 370) (by decide +kernel)) rfl
theorem q371 : Cond.code yX10_tear cX10_tear 3 (some .int) ∈ big := big_of (List.mem_of_getElem? (i := 371) (by decide +kernel)) rfl
theorem q376 : Cond.methodLink RL 28 yX10_copy ∈ big := big_of (List.mem_of_getElem? (i := 376) (by decide +kernel)) rfl
theorem q377 : Cond.instanceMethod yX10_copy ∈ big := big_of (List.mem_of_getElem? (i := 377) (by decide +kernel)) rfl
theorem q378 : Cond.selects RX10 yX10_copy yX10_copy ∈ big := big_of (List.mem_of_getElem? (i := 378) (by decide +kernel)) rfl
theorem q379 : Cond.code yX10_copy cX10_copy 8 (some .int) ∈ big := big_of (List.mem_of_getElem? (i := 379) (by decide +kernel)) rfl
theorem q388 : Cond.methodLink RL 33 yX10_text ∈ big := big_of (List.mem_of_getElem? (i := 388) (by decide +kernel)) rfl
theorem q389 : Cond.instanceMethod yX10_text ∈ big := big_of (List.mem_of_getElem? (i := 389) (by decide +kernel)) rfl
theorem q390 : Cond.selects RX10 yX10_text yX10_text ∈ big := big_of (List.mem_of_getElem? (i := 390) (by decide +kernel)) rfl
theorem q391 : Cond.code yX10_text cX10_text 8 (some .int) ∈ big := big_of (List.mem_of_getElem? (i := 391) (by decide +kernel)) rfl
theorem q509 : Cond.methodLink RL 38 yX10_told ∈ big := big_of (List.mem_of_getElem? (i := 509) (by decide +kernel)) rfl
theorem q510 : Cond.instanceMethod yX10_told ∈ big := big_of (List.mem_of_getElem? (i := 510) (by decide +kernel)) rfl
theorem q511 : Cond.selects RX10 yX10_told yX10_told ∈ big := big_of (List.mem_of_getElem? (i := 511) (by decide +kernel)) rfl
theorem q512 : Cond.code yX10_told cX10_told 4 (some .int) ∈ big := big_of (List.mem_of_getElem? (i := 512) (by decide +kernel)) rfl
theorem q521 : Cond.methodLink RL 42 yX10_mark ∈ big := big_of (List.mem_of_getElem? (i := 521) (by decide +kernel)) rfl
theorem q522 : Cond.instanceMethod yX10_mark ∈ big := big_of (List.mem_of_getElem? (i := 522) (by decide +kernel)) rfl
theorem q523 : Cond.selects RX10 yX10_mark yX10_mark ∈ big := big_of (List.mem_of_getElem? (i := 523) (by decide +kernel)) rfl
theorem q524 : Cond.code yX10_mark cX10_mark 4 (some .int) ∈ big := big_of (List.mem_of_getElem? (i := 524) (by decide +kernel)) rfl
theorem q529 : Cond.methodLink RL 46 yX10_withdraw ∈ big := big_of (List.mem_of_getElem? (i := 529) (by decide +kernel)) rfl
theorem q530 : Cond.instanceMethod yX10_withdraw ∈ big := big_of (List.mem_of_getElem? (i := 530) (by decide +kernel)) rfl
theorem q531 : Cond.selects RX10 yX10_withdraw yX10_withdraw ∈ big := big_of (List.mem_of_getElem? (i := 531) (by decide +kernel)) rfl
theorem q532 : Cond.code yX10_withdraw cX10_withdraw 3 (some .int) ∈ big := big_of (List.mem_of_getElem? (i := 532) (by decide +kernel)) rfl
theorem q533 : Cond.methodLink RL 50 yX10_feature ∈ big := big_of (List.mem_of_getElem? (i := 533) (by decide +kernel)) rfl
theorem q534 : Cond.instanceMethod yX10_feature ∈ big := big_of (List.mem_of_getElem? (i := 534) (by decide +kernel)) rfl
theorem q535 : Cond.selects RX10 yX10_feature yX10_feature ∈ big := big_of (List.mem_of_getElem? (i := 535) (by decide +kernel)) rfl
theorem q536 : Cond.code yX10_feature cX10_feature 4 (some .int) ∈ big := big_of (List.mem_of_getElem? (i := 536) (by decide +kernel)) rfl
theorem q575 : Cond.methodLink RL 54 yX10_counts ∈ big := big_of (List.mem_of_getElem? (i := 575) (by decide +kernel)) rfl
theorem q576 : Cond.instanceMethod yX10_counts ∈ big := big_of (List.mem_of_getElem? (i := 576) (by decide +kernel)) rfl
theorem q577 : Cond.selects RX10 yX10_counts yX10_counts ∈ big := big_of (List.mem_of_getElem? (i := 577) (by decide +kernel)) rfl
theorem q578 : Cond.code yX10_counts cX10_counts 4 (some .int) ∈ big := big_of (List.mem_of_getElem? (i := 578) (by decide +kernel)) rfl
theorem q587 : Cond.methodLink RL 58 yX10_rate ∈ big := big_of (List.mem_of_getElem? (i := 587) (by decide +kernel)) rfl
theorem q588 : Cond.instanceMethod yX10_rate ∈ big := big_of (List.mem_of_getElem? (i := 588) (by decide +kernel)) rfl
theorem q589 : Cond.selects RX10 yX10_rate yX10_rate ∈ big := big_of (List.mem_of_getElem? (i := 589) (by decide +kernel)) rfl
theorem q590 : Cond.code yX10_rate cX10_rate 4 (some .int) ∈ big := big_of (List.mem_of_getElem? (i := 590) (by decide +kernel)) rfl
theorem q603 : Cond.methodLink RL 62 yX10_hand ∈ big := big_of (List.mem_of_getElem? (i := 603) (by decide +kernel)) rfl
theorem q604 : Cond.instanceMethod yX10_hand ∈ big := big_of (List.mem_of_getElem? (i := 604) (by decide +kernel)) rfl
theorem q605 : Cond.selects RX10 yX10_hand yX10_hand ∈ big := big_of (List.mem_of_getElem? (i := 605) (by decide +kernel)) rfl
theorem q606 : Cond.code yX10_hand cX10_hand 3 (some .int) ∈ big := big_of (List.mem_of_getElem? (i := 606) (by decide +kernel)) rfl
theorem q642 : Cond.methodLink RL 66 yX10_mean ∈ big := big_of (List.mem_of_getElem? (i := 642) (by decide +kernel)) rfl
theorem q643 : Cond.instanceMethod yX10_mean ∈ big := big_of (List.mem_of_getElem? (i := 643) (by decide +kernel)) rfl
theorem q644 : Cond.selects RX10 yX10_mean yX10_mean ∈ big := big_of (List.mem_of_getElem? (i := 644) (by decide +kernel)) rfl
theorem q645 : Cond.code yX10_mean cX10_mean 3 (some .int) ∈ big := big_of (List.mem_of_getElem? (i := 645) (by decide +kernel)) rfl
theorem q646 : Cond.methodLink RL 70 yX10_sort ∈ big := big_of (List.mem_of_getElem? (i := 646) (by decide +kernel)) rfl
theorem q647 : Cond.instanceMethod yX10_sort ∈ big := big_of (List.mem_of_getElem? (i := 647) (by decide +kernel)) rfl
theorem q648 : Cond.selects RX10 yX10_sort yX10_sort ∈ big := big_of (List.mem_of_getElem? (i := 648) (by decide +kernel)) rfl
theorem q649 : Cond.code yX10_sort cX10_sort 3 (some .int) ∈ big := big_of (List.mem_of_getElem? (i := 649) (by decide +kernel)) rfl
theorem q650 : Cond.methodLink RL 74 yX10_far ∈ big := big_of (List.mem_of_getElem? (i := 650) (by decide +kernel)) rfl
theorem q651 : Cond.instanceMethod yX10_far ∈ big := big_of (List.mem_of_getElem? (i := 651) (by decide +kernel)) rfl
theorem q652 : Cond.selects RX10 yX10_far yX10_far ∈ big := big_of (List.mem_of_getElem? (i := 652) (by decide +kernel)) rfl
theorem q653 : Cond.code yX10_far cX10_far 5 (some .int) ∈ big := big_of (List.mem_of_getElem? (i := 653) (by decide +kernel)) rfl
theorem q662 : Cond.methodLink RL 78 yX10_from ∈ big := big_of (List.mem_of_getElem? (i := 662) (by decide +kernel)) rfl
theorem q663 : Cond.instanceMethod yX10_from ∈ big := big_of (List.mem_of_getElem? (i := 663) (by decide +kernel)) rfl
theorem q664 : Cond.selects RX10 yX10_from yX10_from ∈ big := big_of (List.mem_of_getElem? (i := 664) (by decide +kernel)) rfl
theorem q665 : Cond.code yX10_from cX10_from 4 (some .int) ∈ big := big_of (List.mem_of_getElem? (i := 665) (by decide +kernel)) rfl
theorem q675 : Cond.methodLink RL 82 yX10_nearest ∈ big := big_of (List.mem_of_getElem? (i := 675) (by decide +kernel)) rfl
theorem q676 : Cond.instanceMethod yX10_nearest ∈ big := big_of (List.mem_of_getElem? (i := 676) (by decide +kernel)) rfl
theorem q677 : Cond.selects RX10 yX10_nearest yX10_nearest ∈ big := big_of (List.mem_of_getElem? (i := 677) (by decide +kernel)) rfl
theorem q678 : Cond.code yX10_nearest cX10_nearest 3 (some .int) ∈ big := big_of (List.mem_of_getElem? (i := 678) (by decide +kernel)) rfl
theorem q688 : Cond.methodLink RL 86 yX10_place ∈ big := big_of (List.mem_of_getElem? (i := 688) (by decide +kernel)) rfl
theorem q689 : Cond.instanceMethod yX10_place ∈ big := big_of (List.mem_of_getElem? (i := 689) (by decide +kernel)) rfl
theorem q690 : Cond.selects RX10 yX10_place yX10_place ∈ big := big_of (List.mem_of_getElem? (i := 690) (by decide +kernel)) rfl
theorem q691 : Cond.code yX10_place cX10_place 4 (some .int) ∈ big := big_of (List.mem_of_getElem? (i := 691) (by decide +kernel)) rfl
theorem q696 : Cond.methodLink RL 90 yX10_trial ∈ big := big_of (List.mem_of_getElem? (i := 696) (by decide +kernel)) rfl
theorem q697 : Cond.instanceMethod yX10_trial ∈ big := big_of (List.mem_of_getElem? (i := 697) (by decide +kernel)) rfl
theorem q698 : Cond.selects RX10 yX10_trial yX10_trial ∈ big := big_of (List.mem_of_getElem? (i := 698) (by decide +kernel)) rfl
theorem q699 : Cond.code yX10_trial cX10_trial 5 (some .int) ∈ big := big_of (List.mem_of_getElem? (i := 699) (by decide +kernel)) rfl
theorem q704 : Cond.methodLink RL 94 yX10_taken ∈ big := big_of (List.mem_of_getElem? (i := 704) (by decide +kernel)) rfl
theorem q705 : Cond.instanceMethod yX10_taken ∈ big := big_of (List.mem_of_getElem? (i := 705) (by decide +kernel)) rfl
theorem q706 : Cond.selects RX10 yX10_taken yX10_taken ∈ big := big_of (List.mem_of_getElem? (i := 706) (by decide +kernel)) rfl
theorem q707 : Cond.code yX10_taken cX10_taken 6 (some .int) ∈ big := big_of (List.mem_of_getElem? (i := 707) (by decide +kernel)) rfl
theorem q709 : Cond.methodLink RL 100 yX10_impostors ∈ big := big_of (List.mem_of_getElem? (i := 709) (by decide +kernel)) rfl
theorem q710 : Cond.instanceMethod yX10_impostors ∈ big := big_of (List.mem_of_getElem? (i := 710) (by decide +kernel)) rfl
theorem q711 : Cond.selects RX10 yX10_impostors yX10_impostors ∈ big := big_of (List.mem_of_getElem? (i := 711) (by decide +kernel)) rfl
theorem q712 : Cond.code yX10_impostors cX10_impostors 12 (some .int) ∈ big := big_of (List.mem_of_getElem? (i := 712) (by decide +kernel)) rfl
theorem q719 : Cond.methodLink RL 105 yX10_part ∈ big := big_of (List.mem_of_getElem? (i := 719) (by decide +kernel)) rfl
theorem q720 : Cond.instanceMethod yX10_part ∈ big := big_of (List.mem_of_getElem? (i := 720) (by decide +kernel)) rfl
theorem q721 : Cond.selects RX10 yX10_part yX10_part ∈ big := big_of (List.mem_of_getElem? (i := 721) (by decide +kernel)) rfl
theorem q722 : Cond.code yX10_part cX10_part 8 (some .int) ∈ big := big_of (List.mem_of_getElem? (i := 722) (by decide +kernel)) rfl
theorem q756 : Cond.methodLink RL 109 yX10_window ∈ big := big_of (List.mem_of_getElem? (i := 756) (by decide +kernel)) rfl
theorem q757 : Cond.instanceMethod yX10_window ∈ big := big_of (List.mem_of_getElem? (i := 757) (by decide +kernel)) rfl
theorem q758 : Cond.selects RX10 yX10_window yX10_window ∈ big := big_of (List.mem_of_getElem? (i := 758) (by decide +kernel)) rfl
theorem q759 : Cond.code yX10_window cX10_window 2 (some .int) ∈ big := big_of (List.mem_of_getElem? (i := 759) (by decide +kernel)) rfl
theorem q764 : Cond.methodLink RL 113 yX10_tree ∈ big := big_of (List.mem_of_getElem? (i := 764) (by decide +kernel)) rfl
theorem q765 : Cond.instanceMethod yX10_tree ∈ big := big_of (List.mem_of_getElem? (i := 765) (by decide +kernel)) rfl
theorem q766 : Cond.selects RX10 yX10_tree yX10_tree ∈ big := big_of (List.mem_of_getElem? (i := 766) (by decide +kernel)) rfl
theorem q767 : Cond.code yX10_tree cX10_tree 1 (some .int) ∈ big := big_of (List.mem_of_getElem? (i := 767) (by decide +kernel)) rfl
theorem q788 : Cond.methodLink RL 118 yX10_join ∈ big := big_of (List.mem_of_getElem? (i := 788) (by decide +kernel)) rfl
theorem q789 : Cond.instanceMethod yX10_join ∈ big := big_of (List.mem_of_getElem? (i := 789) (by decide +kernel)) rfl
theorem q790 : Cond.selects RX10 yX10_join yX10_join ∈ big := big_of (List.mem_of_getElem? (i := 790) (by decide +kernel)) rfl
theorem q791 : Cond.code yX10_join cX10_join 3 (some .int) ∈ big := big_of (List.mem_of_getElem? (i := 791) (by decide +kernel)) rfl
theorem q796 : Cond.methodLink RL 122 yX10_shuffle ∈ big := big_of (List.mem_of_getElem? (i := 796) (by decide +kernel)) rfl
theorem q797 : Cond.instanceMethod yX10_shuffle ∈ big := big_of (List.mem_of_getElem? (i := 797) (by decide +kernel)) rfl
theorem q798 : Cond.selects RX10 yX10_shuffle yX10_shuffle ∈ big := big_of (List.mem_of_getElem? (i := 798) (by decide +kernel)) rfl
theorem q799 : Cond.code yX10_shuffle cX10_shuffle 7 (some .int) ∈ big := big_of (List.mem_of_getElem? (i := 799) (by decide +kernel)) rfl
theorem q835 : Cond.methodLink RL 126 yX10_asked ∈ big := big_of (List.mem_of_getElem? (i := 835) (by decide +kernel)) rfl
theorem q836 : Cond.instanceMethod yX10_asked ∈ big := big_of (List.mem_of_getElem? (i := 836) (by decide +kernel)) rfl
theorem q837 : Cond.selects RX10 yX10_asked yX10_asked ∈ big := big_of (List.mem_of_getElem? (i := 837) (by decide +kernel)) rfl
theorem q838 : Cond.code yX10_asked cX10_asked 1 (some .long) ∈ big := big_of (List.mem_of_getElem? (i := 838) (by decide +kernel)) rfl
theorem q839 : Cond.methodLink RL 131 yX10_count ∈ big := big_of (List.mem_of_getElem? (i := 839) (by decide +kernel)) rfl
theorem q840 : Cond.instanceMethod yX10_count ∈ big := big_of (List.mem_of_getElem? (i := 840) (by decide +kernel)) rfl
theorem q841 : Cond.selects RX10 yX10_count yX10_count ∈ big := big_of (List.mem_of_getElem? (i := 841) (by decide +kernel)) rfl
theorem q842 : Cond.code yX10_count cX10_count 2 (some .int) ∈ big := big_of (List.mem_of_getElem? (i := 842) (by decide +kernel)) rfl
theorem q851 : Cond.methodLink RL 135 yX10_finding ∈ big := big_of (List.mem_of_getElem? (i := 851) (by decide +kernel)) rfl
theorem q852 : Cond.instanceMethod yX10_finding ∈ big := big_of (List.mem_of_getElem? (i := 852) (by decide +kernel)) rfl
theorem q853 : Cond.selects RX10 yX10_finding yX10_finding ∈ big := big_of (List.mem_of_getElem? (i := 853) (by decide +kernel)) rfl
theorem q854 : Cond.code yX10_finding cX10_finding 1 (some .int) ∈ big := big_of (List.mem_of_getElem? (i := 854) (by decide +kernel)) rfl
theorem q855 : Cond.methodLink RL 139 yX10_findings ∈ big := big_of (List.mem_of_getElem? (i := 855) (by decide +kernel)) rfl
theorem q856 : Cond.instanceMethod yX10_findings ∈ big := big_of (List.mem_of_getElem? (i := 856) (by decide +kernel)) rfl
theorem q857 : Cond.selects RX10 yX10_findings yX10_findings ∈ big := big_of (List.mem_of_getElem? (i := 857) (by decide +kernel)) rfl
theorem q858 : Cond.code yX10_findings cX10_findings 2 (some .int) ∈ big := big_of (List.mem_of_getElem? (i := 858) (by decide +kernel)) rfl
theorem q859 : Cond.methodLink RL 143 yX10_digest ∈ big := big_of (List.mem_of_getElem? (i := 859) (by decide +kernel)) rfl
theorem q860 : Cond.instanceMethod yX10_digest ∈ big := big_of (List.mem_of_getElem? (i := 860) (by decide +kernel)) rfl
theorem q861 : Cond.selects RX10 yX10_digest yX10_digest ∈ big := big_of (List.mem_of_getElem? (i := 861) (by decide +kernel)) rfl
theorem q862 : Cond.code yX10_digest cX10_digest 4 (some .long) ∈ big := big_of (List.mem_of_getElem? (i := 862) (by decide +kernel)) rfl
theorem q977 : Cond.methodLink RL 17 yX11_sheet ∈ big := big_of (List.mem_of_getElem? (i := 977) (by decide +kernel)) rfl
theorem q978 : Cond.instanceMethod yX11_sheet ∈ big := big_of (List.mem_of_getElem? (i := 978) (by decide +kernel)) rfl
theorem q979 : Cond.selects RX11 yX11_sheet yX11_sheet ∈ big := big_of (List.mem_of_getElem? (i := 979) (by decide +kernel)) rfl
theorem q980 : Cond.code yX11_sheet cX11_sheet 4 (some .int) ∈ big := big_of (List.mem_of_getElem? (i := 980) (by decide +kernel)) rfl
theorem q991 : Cond.methodLink RL 22 yX11_lay ∈ big := big_of (List.mem_of_getElem? (i := 991) (by decide +kernel)) rfl
theorem q992 : Cond.instanceMethod yX11_lay ∈ big := big_of (List.mem_of_getElem? (i := 992) (by decide +kernel)) rfl
theorem q993 : Cond.selects RX11 yX11_lay yX11_lay ∈ big := big_of (List.mem_of_getElem? (i := 993) (by decide +kernel)) rfl
theorem q994 : Cond.code yX11_lay cX11_lay 6 (some .int) ∈ big := big_of (List.mem_of_getElem? (i := 994) (by decide +kernel)) rfl
theorem q999 : Cond.methodLink RL 27 yX11_tear ∈ big := big_of (List.mem_of_getElem? (i := 999) (by decide +kernel)) rfl
theorem q1000 : Cond.instanceMethod yX11_tear ∈ big := big_of (List.mem_of_getElem? (i := 1000) (by decide +kernel)) rfl
theorem q1001 : Cond.selects RX11 yX11_tear yX11_tear ∈ big := big_of (List.mem_of_getElem? (i := 1001) (by decide +kernel)) rfl
theorem q1002 : Cond.code yX11_tear cX11_tear 3 (some .int) ∈ big := big_of (List.mem_of_getElem? (i := 1002) (by decide +kernel)) rfl
theorem q1003 : Cond.methodLink RL 32 yX11_copy ∈ big := big_of (List.mem_of_getElem? (i := 1003) (by decide +kernel)) rfl
theorem q1004 : Cond.instanceMethod yX11_copy ∈ big := big_of (List.mem_of_getElem? (i := 1004) (by decide +kernel)) rfl
theorem q1005 : Cond.selects RX11 yX11_copy yX11_copy ∈ big := big_of (List.mem_of_getElem? (i := 1005) (by decide +kernel)) rfl
theorem q1006 : Cond.code yX11_copy cX11_copy 7 (some .int) ∈ big := big_of (List.mem_of_getElem? (i := 1006) (by decide +kernel)) rfl
theorem q1007 : Cond.methodLink RL 37 yX11_text ∈ big := big_of (List.mem_of_getElem? (i := 1007) (by decide +kernel)) rfl
theorem q1008 : Cond.instanceMethod yX11_text ∈ big := big_of (List.mem_of_getElem? (i := 1008) (by decide +kernel)) rfl
theorem q1009 : Cond.selects RX11 yX11_text yX11_text ∈ big := big_of (List.mem_of_getElem? (i := 1009) (by decide +kernel)) rfl
theorem q1010 : Cond.code yX11_text cX11_text 5 (some .int) ∈ big := big_of (List.mem_of_getElem? (i := 1010) (by decide +kernel)) rfl
theorem q1024 : Cond.methodLink RL 41 yX11_told ∈ big := big_of (List.mem_of_getElem? (i := 1024) (by decide +kernel)) rfl
theorem q1025 : Cond.instanceMethod yX11_told ∈ big := big_of (List.mem_of_getElem? (i := 1025) (by decide +kernel)) rfl
theorem q1026 : Cond.selects RX11 yX11_told yX11_told ∈ big := big_of (List.mem_of_getElem? (i := 1026) (by decide +kernel)) rfl
theorem q1027 : Cond.code yX11_told cX11_told 3 (some .int) ∈ big := big_of (List.mem_of_getElem? (i := 1027) (by decide +kernel)) rfl
theorem q1036 : Cond.methodLink RL 45 yX11_mark ∈ big := big_of (List.mem_of_getElem? (i := 1036) (by decide +kernel)) rfl
theorem q1037 : Cond.instanceMethod yX11_mark ∈ big := big_of (List.mem_of_getElem? (i := 1037) (by decide +kernel)) rfl
theorem q1038 : Cond.selects RX11 yX11_mark yX11_mark ∈ big := big_of (List.mem_of_getElem? (i := 1038) (by decide +kernel)) rfl
theorem q1039 : Cond.code yX11_mark cX11_mark 4 (some .int) ∈ big := big_of (List.mem_of_getElem? (i := 1039) (by decide +kernel)) rfl
theorem q1040 : Cond.methodLink RL 49 yX11_withdraw ∈ big := big_of (List.mem_of_getElem? (i := 1040) (by decide +kernel)) rfl
theorem q1041 : Cond.instanceMethod yX11_withdraw ∈ big := big_of (List.mem_of_getElem? (i := 1041) (by decide +kernel)) rfl
theorem q1042 : Cond.selects RX11 yX11_withdraw yX11_withdraw ∈ big := big_of (List.mem_of_getElem? (i := 1042) (by decide +kernel)) rfl
theorem q1043 : Cond.code yX11_withdraw cX11_withdraw 2 (some .int) ∈ big := big_of (List.mem_of_getElem? (i := 1043) (by decide +kernel)) rfl
theorem q1044 : Cond.methodLink RL 53 yX11_feature ∈ big := big_of (List.mem_of_getElem? (i := 1044) (by decide +kernel)) rfl
theorem q1045 : Cond.instanceMethod yX11_feature ∈ big := big_of (List.mem_of_getElem? (i := 1045) (by decide +kernel)) rfl
theorem q1046 : Cond.selects RX11 yX11_feature yX11_feature ∈ big := big_of (List.mem_of_getElem? (i := 1046) (by decide +kernel)) rfl
theorem q1047 : Cond.code yX11_feature cX11_feature 4 (some .int) ∈ big := big_of (List.mem_of_getElem? (i := 1047) (by decide +kernel)) rfl
theorem q1051 : Cond.methodLink RL 57 yX11_counts ∈ big := big_of (List.mem_of_getElem? (i := 1051) (by decide +kernel)) rfl
theorem q1052 : Cond.instanceMethod yX11_counts ∈ big := big_of (List.mem_of_getElem? (i := 1052) (by decide +kernel)) rfl
theorem q1053 : Cond.selects RX11 yX11_counts yX11_counts ∈ big := big_of (List.mem_of_getElem? (i := 1053) (by decide +kernel)) rfl
theorem q1054 : Cond.code yX11_counts cX11_counts 4 (some .int) ∈ big := big_of (List.mem_of_getElem? (i := 1054) (by decide +kernel)) rfl
theorem q1075 : Cond.methodLink RL 61 yX11_rate ∈ big := big_of (List.mem_of_getElem? (i := 1075) (by decide +kernel)) rfl
theorem q1076 : Cond.instanceMethod yX11_rate ∈ big := big_of (List.mem_of_getElem? (i := 1076) (by decide +kernel)) rfl
theorem q1077 : Cond.selects RX11 yX11_rate yX11_rate ∈ big := big_of (List.mem_of_getElem? (i := 1077) (by decide +kernel)) rfl
theorem q1078 : Cond.code yX11_rate cX11_rate 4 (some .int) ∈ big := big_of (List.mem_of_getElem? (i := 1078) (by decide +kernel)) rfl
theorem q1090 : Cond.methodLink RL 65 yX11_hand ∈ big := big_of (List.mem_of_getElem? (i := 1090) (by decide +kernel)) rfl
theorem q1091 : Cond.instanceMethod yX11_hand ∈ big := big_of (List.mem_of_getElem? (i := 1091) (by decide +kernel)) rfl
theorem q1092 : Cond.selects RX11 yX11_hand yX11_hand ∈ big := big_of (List.mem_of_getElem? (i := 1092) (by decide +kernel)) rfl
theorem q1093 : Cond.code yX11_hand cX11_hand 4 (some .int) ∈ big := big_of (List.mem_of_getElem? (i := 1093) (by decide +kernel)) rfl
theorem q1101 : Cond.methodLink RL 69 yX11_mean ∈ big := big_of (List.mem_of_getElem? (i := 1101) (by decide +kernel)) rfl
theorem q1102 : Cond.instanceMethod yX11_mean ∈ big := big_of (List.mem_of_getElem? (i := 1102) (by decide +kernel)) rfl
theorem q1103 : Cond.selects RX11 yX11_mean yX11_mean ∈ big := big_of (List.mem_of_getElem? (i := 1103) (by decide +kernel)) rfl
theorem q1104 : Cond.code yX11_mean cX11_mean 5 (some .int) ∈ big := big_of (List.mem_of_getElem? (i := 1104) (by decide +kernel)) rfl
theorem q1105 : Cond.methodLink RL 73 yX11_sort ∈ big := big_of (List.mem_of_getElem? (i := 1105) (by decide +kernel)) rfl
theorem q1106 : Cond.instanceMethod yX11_sort ∈ big := big_of (List.mem_of_getElem? (i := 1106) (by decide +kernel)) rfl
theorem q1107 : Cond.selects RX11 yX11_sort yX11_sort ∈ big := big_of (List.mem_of_getElem? (i := 1107) (by decide +kernel)) rfl
theorem q1108 : Cond.code yX11_sort cX11_sort 3 (some .int) ∈ big := big_of (List.mem_of_getElem? (i := 1108) (by decide +kernel)) rfl
theorem q1109 : Cond.methodLink RL 77 yX11_far ∈ big := big_of (List.mem_of_getElem? (i := 1109) (by decide +kernel)) rfl
theorem q1110 : Cond.instanceMethod yX11_far ∈ big := big_of (List.mem_of_getElem? (i := 1110) (by decide +kernel)) rfl
theorem q1111 : Cond.selects RX11 yX11_far yX11_far ∈ big := big_of (List.mem_of_getElem? (i := 1111) (by decide +kernel)) rfl
theorem q1112 : Cond.code yX11_far cX11_far 3 (some .int) ∈ big := big_of (List.mem_of_getElem? (i := 1112) (by decide +kernel)) rfl
theorem q1125 : Cond.methodLink RL 81 yX11_from ∈ big := big_of (List.mem_of_getElem? (i := 1125) (by decide +kernel)) rfl
theorem q1126 : Cond.instanceMethod yX11_from ∈ big := big_of (List.mem_of_getElem? (i := 1126) (by decide +kernel)) rfl
theorem q1127 : Cond.selects RX11 yX11_from yX11_from ∈ big := big_of (List.mem_of_getElem? (i := 1127) (by decide +kernel)) rfl
theorem q1128 : Cond.code yX11_from cX11_from 5 (some .int) ∈ big := big_of (List.mem_of_getElem? (i := 1128) (by decide +kernel)) rfl
theorem q1129 : Cond.methodLink RL 85 yX11_nearest ∈ big := big_of (List.mem_of_getElem? (i := 1129) (by decide +kernel)) rfl
theorem q1130 : Cond.instanceMethod yX11_nearest ∈ big := big_of (List.mem_of_getElem? (i := 1130) (by decide +kernel)) rfl
theorem q1131 : Cond.selects RX11 yX11_nearest yX11_nearest ∈ big := big_of (List.mem_of_getElem? (i := 1131) (by decide +kernel)) rfl
theorem q1132 : Cond.code yX11_nearest cX11_nearest 3 (some .int) ∈ big := big_of (List.mem_of_getElem? (i := 1132) (by decide +kernel)) rfl
theorem q1137 : Cond.methodLink RL 89 yX11_place ∈ big := big_of (List.mem_of_getElem? (i := 1137) (by decide +kernel)) rfl
theorem q1138 : Cond.instanceMethod yX11_place ∈ big := big_of (List.mem_of_getElem? (i := 1138) (by decide +kernel)) rfl
theorem q1139 : Cond.selects RX11 yX11_place yX11_place ∈ big := big_of (List.mem_of_getElem? (i := 1139) (by decide +kernel)) rfl
theorem q1140 : Cond.code yX11_place cX11_place 9 (some .int) ∈ big := big_of (List.mem_of_getElem? (i := 1140) (by decide +kernel)) rfl
theorem q1141 : Cond.methodLink RL 93 yX11_trial ∈ big := big_of (List.mem_of_getElem? (i := 1141) (by decide +kernel)) rfl
theorem q1142 : Cond.instanceMethod yX11_trial ∈ big := big_of (List.mem_of_getElem? (i := 1142) (by decide +kernel)) rfl
theorem q1143 : Cond.selects RX11 yX11_trial yX11_trial ∈ big := big_of (List.mem_of_getElem? (i := 1143) (by decide +kernel)) rfl
theorem q1144 : Cond.code yX11_trial cX11_trial 5 (some .int) ∈ big := big_of (List.mem_of_getElem? (i := 1144) (by decide +kernel)) rfl
theorem q1145 : Cond.methodLink RL 97 yX11_taken ∈ big := big_of (List.mem_of_getElem? (i := 1145) (by decide +kernel)) rfl
theorem q1146 : Cond.instanceMethod yX11_taken ∈ big := big_of (List.mem_of_getElem? (i := 1146) (by decide +kernel)) rfl
theorem q1147 : Cond.selects RX11 yX11_taken yX11_taken ∈ big := big_of (List.mem_of_getElem? (i := 1147) (by decide +kernel)) rfl
theorem q1148 : Cond.code yX11_taken cX11_taken 5 (some .int) ∈ big := big_of (List.mem_of_getElem? (i := 1148) (by decide +kernel)) rfl
theorem q1149 : Cond.methodLink RL 104 yX11_impostors ∈ big := big_of (List.mem_of_getElem? (i := 1149) (by decide +kernel)) rfl
theorem q1150 : Cond.instanceMethod yX11_impostors ∈ big := big_of (List.mem_of_getElem? (i := 1150) (by decide +kernel)) rfl
theorem q1151 : Cond.selects RX11 yX11_impostors yX11_impostors ∈ big := big_of (List.mem_of_getElem? (i := 1151) (by decide +kernel)) rfl
theorem q1152 : Cond.code yX11_impostors cX11_impostors 11 (some .int) ∈ big := big_of (List.mem_of_getElem? (i := 1152) (by decide +kernel)) rfl
theorem q1155 : Cond.methodLink RL 108 yX11_part ∈ big := big_of (List.mem_of_getElem? (i := 1155) (by decide +kernel)) rfl
theorem q1156 : Cond.instanceMethod yX11_part ∈ big := big_of (List.mem_of_getElem? (i := 1156) (by decide +kernel)) rfl
theorem q1157 : Cond.selects RX11 yX11_part yX11_part ∈ big := big_of (List.mem_of_getElem? (i := 1157) (by decide +kernel)) rfl
theorem q1158 : Cond.code yX11_part cX11_part 16 (some .int) ∈ big := big_of (List.mem_of_getElem? (i := 1158) (by decide +kernel)) rfl
theorem q1164 : Cond.methodLink RL 112 yX11_window ∈ big := big_of (List.mem_of_getElem? (i := 1164) (by decide +kernel)) rfl
theorem q1165 : Cond.instanceMethod yX11_window ∈ big := big_of (List.mem_of_getElem? (i := 1165) (by decide +kernel)) rfl
theorem q1166 : Cond.selects RX11 yX11_window yX11_window ∈ big := big_of (List.mem_of_getElem? (i := 1166) (by decide +kernel)) rfl
theorem q1167 : Cond.code yX11_window cX11_window 2 (some .int) ∈ big := big_of (List.mem_of_getElem? (i := 1167) (by decide +kernel)) rfl
theorem q1168 : Cond.methodLink RL 117 yX11_tree ∈ big := big_of (List.mem_of_getElem? (i := 1168) (by decide +kernel)) rfl
theorem q1169 : Cond.instanceMethod yX11_tree ∈ big := big_of (List.mem_of_getElem? (i := 1169) (by decide +kernel)) rfl
theorem q1170 : Cond.selects RX11 yX11_tree yX11_tree ∈ big := big_of (List.mem_of_getElem? (i := 1170) (by decide +kernel)) rfl
theorem q1171 : Cond.code yX11_tree cX11_tree 3 (some .int) ∈ big := big_of (List.mem_of_getElem? (i := 1171) (by decide +kernel)) rfl
theorem q1176 : Cond.methodLink RL 121 yX11_join ∈ big := big_of (List.mem_of_getElem? (i := 1176) (by decide +kernel)) rfl
theorem q1177 : Cond.instanceMethod yX11_join ∈ big := big_of (List.mem_of_getElem? (i := 1177) (by decide +kernel)) rfl
theorem q1178 : Cond.selects RX11 yX11_join yX11_join ∈ big := big_of (List.mem_of_getElem? (i := 1178) (by decide +kernel)) rfl
theorem q1179 : Cond.code yX11_join cX11_join 3 (some .int) ∈ big := big_of (List.mem_of_getElem? (i := 1179) (by decide +kernel)) rfl
theorem q1180 : Cond.methodLink RL 125 yX11_shuffle ∈ big := big_of (List.mem_of_getElem? (i := 1180) (by decide +kernel)) rfl
theorem q1181 : Cond.instanceMethod yX11_shuffle ∈ big := big_of (List.mem_of_getElem? (i := 1181) (by decide +kernel)) rfl
theorem q1182 : Cond.selects RX11 yX11_shuffle yX11_shuffle ∈ big := big_of (List.mem_of_getElem? (i := 1182) (by decide +kernel)) rfl
theorem q1183 : Cond.code yX11_shuffle cX11_shuffle 12 (some .int) ∈ big := big_of (List.mem_of_getElem? (i := 1183) (by decide +kernel)) rfl
theorem q1191 : Cond.methodLink RL 130 yX11_asked ∈ big := big_of (List.mem_of_getElem? (i := 1191) (by decide +kernel)) rfl
theorem q1192 : Cond.instanceMethod yX11_asked ∈ big := big_of (List.mem_of_getElem? (i := 1192) (by decide +kernel)) rfl
theorem q1193 : Cond.selects RX11 yX11_asked yX11_asked ∈ big := big_of (List.mem_of_getElem? (i := 1193) (by decide +kernel)) rfl
theorem q1194 : Cond.code yX11_asked cX11_asked 1 (some .long) ∈ big := big_of (List.mem_of_getElem? (i := 1194) (by decide +kernel)) rfl
theorem q1195 : Cond.methodLink RL 134 yX11_count ∈ big := big_of (List.mem_of_getElem? (i := 1195) (by decide +kernel)) rfl
theorem q1196 : Cond.instanceMethod yX11_count ∈ big := big_of (List.mem_of_getElem? (i := 1196) (by decide +kernel)) rfl
theorem q1197 : Cond.selects RX11 yX11_count yX11_count ∈ big := big_of (List.mem_of_getElem? (i := 1197) (by decide +kernel)) rfl
theorem q1198 : Cond.code yX11_count cX11_count 2 (some .int) ∈ big := big_of (List.mem_of_getElem? (i := 1198) (by decide +kernel)) rfl
theorem q1203 : Cond.methodLink RL 138 yX11_finding ∈ big := big_of (List.mem_of_getElem? (i := 1203) (by decide +kernel)) rfl
theorem q1204 : Cond.instanceMethod yX11_finding ∈ big := big_of (List.mem_of_getElem? (i := 1204) (by decide +kernel)) rfl
theorem q1205 : Cond.selects RX11 yX11_finding yX11_finding ∈ big := big_of (List.mem_of_getElem? (i := 1205) (by decide +kernel)) rfl
theorem q1206 : Cond.code yX11_finding cX11_finding 1 (some .int) ∈ big := big_of (List.mem_of_getElem? (i := 1206) (by decide +kernel)) rfl
theorem q1207 : Cond.methodLink RL 142 yX11_findings ∈ big := big_of (List.mem_of_getElem? (i := 1207) (by decide +kernel)) rfl
theorem q1208 : Cond.instanceMethod yX11_findings ∈ big := big_of (List.mem_of_getElem? (i := 1208) (by decide +kernel)) rfl
theorem q1209 : Cond.selects RX11 yX11_findings yX11_findings ∈ big := big_of (List.mem_of_getElem? (i := 1209) (by decide +kernel)) rfl
theorem q1210 : Cond.code yX11_findings cX11_findings 2 (some .int) ∈ big := big_of (List.mem_of_getElem? (i := 1210) (by decide +kernel)) rfl
theorem q1211 : Cond.methodLink RL 146 yX11_digest ∈ big := big_of (List.mem_of_getElem? (i := 1211) (by decide +kernel)) rfl
theorem q1212 : Cond.instanceMethod yX11_digest ∈ big := big_of (List.mem_of_getElem? (i := 1212) (by decide +kernel)) rfl
theorem q1213 : Cond.selects RX11 yX11_digest yX11_digest ∈ big := big_of (List.mem_of_getElem? (i := 1213) (by decide +kernel)) rfl
theorem q1214 : Cond.code yX11_digest cX11_digest 5 (some .long) ∈ big := big_of (List.mem_of_getElem? (i := 1214) (by decide +kernel)) rfl
theorem q1217 : Cond.constantLong RL 98 (4294967295) ∈ big := big_of (List.mem_of_getElem? (i := 1217) (by decide +kernel)) rfl
