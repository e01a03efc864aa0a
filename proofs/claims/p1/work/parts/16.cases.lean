theorem k_330 : Cond.methodLink RL 15 yX6_feed ∈ tb := mt 330 (by decide +kernel) rfl
theorem k_331 : Cond.instanceMethod yX6_feed ∈ tb := mt 331 (by decide +kernel) rfl
theorem k_332 : Cond.selects RX6 yX6_feed yX6_feed ∈ tb := mt 332 (by decide +kernel) rfl
set_option maxRecDepth 20000 in
theorem k_333 : Cond.code yX6_feed cX6_feed 4 (some .int) ∈ tb := mt 333 rfl rfl
theorem k_339 : Cond.methodLink RL 20 yX6_service ∈ tb := mt 339 (by decide +kernel) rfl
theorem k_340 : Cond.instanceMethod yX6_service ∈ tb := mt 340 (by decide +kernel) rfl
theorem k_341 : Cond.selects RX6 yX6_service yX6_service ∈ tb := mt 341 (by decide +kernel) rfl
set_option maxRecDepth 20000 in
theorem k_342 : Cond.code yX6_service cX6_service 2 (some .int) ∈ tb := mt 342 rfl rfl
theorem k_429 : Cond.methodLink RL 25 yX6_change ∈ tb := mt 429 (by decide +kernel) rfl
theorem k_430 : Cond.instanceMethod yX6_change ∈ tb := mt 430 (by decide +kernel) rfl
theorem k_431 : Cond.selects RX6 yX6_change yX6_change ∈ tb := mt 431 (by decide +kernel) rfl
set_option maxRecDepth 20000 in
theorem k_432 : Cond.code yX6_change cX6_change 3 (some .int) ∈ tb := mt 432 rfl rfl
theorem k_437 : Cond.methodLink RL 30 yX6_mend ∈ tb := mt 437 (by decide +kernel) rfl
theorem k_438 : Cond.instanceMethod yX6_mend ∈ tb := mt 438 (by decide +kernel) rfl
theorem k_439 : Cond.selects RX6 yX6_mend yX6_mend ∈ tb := mt 439 (by decide +kernel) rfl
set_option maxRecDepth 20000 in
theorem k_440 : Cond.code yX6_mend cX6_mend 6 (some .int) ∈ tb := mt 440 rfl rfl
theorem k_442 : Cond.methodLink RL 35 yX6_hold ∈ tb := mt 442 (by decide +kernel) rfl
theorem k_443 : Cond.instanceMethod yX6_hold ∈ tb := mt 443 (by decide +kernel) rfl
theorem k_444 : Cond.selects RX6 yX6_hold yX6_hold ∈ tb := mt 444 (by decide +kernel) rfl
set_option maxRecDepth 20000 in
theorem k_445 : Cond.code yX6_hold cX6_hold 4 (some .int) ∈ tb := mt 445 rfl rfl
theorem k_446 : Cond.methodLink RL 40 yX6_set ∈ tb := mt 446 (by decide +kernel) rfl
theorem k_447 : Cond.instanceMethod yX6_set ∈ tb := mt 447 (by decide +kernel) rfl
theorem k_448 : Cond.selects RX6 yX6_set yX6_set ∈ tb := mt 448 (by decide +kernel) rfl
set_option maxRecDepth 20000 in
theorem k_449 : Cond.code yX6_set cX6_set 5 (some .int) ∈ tb := mt 449 rfl rfl
theorem k_450 : Cond.methodLink RL 44 yX6_about ∈ tb := mt 450 (by decide +kernel) rfl
theorem k_451 : Cond.instanceMethod yX6_about ∈ tb := mt 451 (by decide +kernel) rfl
theorem k_452 : Cond.selects RX6 yX6_about yX6_about ∈ tb := mt 452 (by decide +kernel) rfl
set_option maxRecDepth 20000 in
theorem k_453 : Cond.code yX6_about cX6_about 4 (some .int) ∈ tb := mt 453 rfl rfl
theorem k_478 : Cond.methodLink RL 48 yX6_act ∈ tb := mt 478 (by decide +kernel) rfl
theorem k_479 : Cond.instanceMethod yX6_act ∈ tb := mt 479 (by decide +kernel) rfl
theorem k_480 : Cond.selects RX6 yX6_act yX6_act ∈ tb := mt 480 (by decide +kernel) rfl
set_option maxRecDepth 20000 in
theorem k_481 : Cond.code yX6_act cX6_act 5 (some .int) ∈ tb := mt 481 rfl rfl
theorem k_482 : Cond.methodLink RL 52 yX6_call ∈ tb := mt 482 (by decide +kernel) rfl
theorem k_483 : Cond.instanceMethod yX6_call ∈ tb := mt 483 (by decide +kernel) rfl
theorem k_484 : Cond.selects RX6 yX6_call yX6_call ∈ tb := mt 484 (by decide +kernel) rfl
set_option maxRecDepth 20000 in
theorem k_485 : Cond.code yX6_call cX6_call 5 (some .int) ∈ tb := mt 485 rfl rfl
theorem k_555 : Cond.methodLink RL 57 yX6_outside ∈ tb := mt 555 (by decide +kernel) rfl
theorem k_556 : Cond.instanceMethod yX6_outside ∈ tb := mt 556 (by decide +kernel) rfl
theorem k_557 : Cond.selects RX6 yX6_outside yX6_outside ∈ tb := mt 557 (by decide +kernel) rfl
set_option maxRecDepth 20000 in
theorem k_558 : Cond.code yX6_outside cX6_outside 2 (some .int) ∈ tb := mt 558 rfl rfl
theorem k_562 : Cond.methodLink RL 61 yX6_row ∈ tb := mt 562 (by decide +kernel) rfl
theorem k_563 : Cond.instanceMethod yX6_row ∈ tb := mt 563 (by decide +kernel) rfl
theorem k_564 : Cond.selects RX6 yX6_row yX6_row ∈ tb := mt 564 (by decide +kernel) rfl
set_option maxRecDepth 20000 in
theorem k_565 : Cond.code yX6_row cX6_row 4 (some .int) ∈ tb := mt 565 rfl rfl
theorem k_566 : Cond.methodLink RL 65 yX6_clear ∈ tb := mt 566 (by decide +kernel) rfl
theorem k_567 : Cond.instanceMethod yX6_clear ∈ tb := mt 567 (by decide +kernel) rfl
theorem k_568 : Cond.selects RX6 yX6_clear yX6_clear ∈ tb := mt 568 (by decide +kernel) rfl
set_option maxRecDepth 20000 in
theorem k_569 : Cond.code yX6_clear cX6_clear 2 (some .int) ∈ tb := mt 569 rfl rfl
theorem k_570 : Cond.methodLink RL 69 yX6_free ∈ tb := mt 570 (by decide +kernel) rfl
theorem k_571 : Cond.instanceMethod yX6_free ∈ tb := mt 571 (by decide +kernel) rfl
theorem k_572 : Cond.selects RX6 yX6_free yX6_free ∈ tb := mt 572 (by decide +kernel) rfl
set_option maxRecDepth 20000 in
theorem k_573 : Cond.code yX6_free cX6_free 3 (some .int) ∈ tb := mt 573 rfl rfl
theorem k_574 : Cond.methodLink RL 73 yX6_safe ∈ tb := mt 574 (by decide +kernel) rfl
theorem k_575 : Cond.instanceMethod yX6_safe ∈ tb := mt 575 (by decide +kernel) rfl
theorem k_576 : Cond.selects RX6 yX6_safe yX6_safe ∈ tb := mt 576 (by decide +kernel) rfl
set_option maxRecDepth 20000 in
theorem k_577 : Cond.code yX6_safe cX6_safe 4 (some .int) ∈ tb := mt 577 rfl rfl
theorem k_619 : Cond.methodLink RL 77 yX6_worst ∈ tb := mt 619 (by decide +kernel) rfl
theorem k_620 : Cond.instanceMethod yX6_worst ∈ tb := mt 620 (by decide +kernel) rfl
theorem k_621 : Cond.selects RX6 yX6_worst yX6_worst ∈ tb := mt 621 (by decide +kernel) rfl
set_option maxRecDepth 20000 in
theorem k_622 : Cond.code yX6_worst cX6_worst 1 (some .int) ∈ tb := mt 622 rfl rfl
theorem k_631 : Cond.methodLink RL 81 yX6_orders ∈ tb := mt 631 (by decide +kernel) rfl
theorem k_632 : Cond.instanceMethod yX6_orders ∈ tb := mt 632 (by decide +kernel) rfl
theorem k_633 : Cond.selects RX6 yX6_orders yX6_orders ∈ tb := mt 633 (by decide +kernel) rfl
set_option maxRecDepth 20000 in
theorem k_634 : Cond.code yX6_orders cX6_orders 3 (some .int) ∈ tb := mt 634 rfl rfl
theorem k_665 : Cond.methodLink RL 85 yX6_enough ∈ tb := mt 665 (by decide +kernel) rfl
theorem k_666 : Cond.instanceMethod yX6_enough ∈ tb := mt 666 (by decide +kernel) rfl
theorem k_667 : Cond.selects RX6 yX6_enough yX6_enough ∈ tb := mt 667 (by decide +kernel) rfl
set_option maxRecDepth 20000 in
theorem k_668 : Cond.code yX6_enough cX6_enough 2 (some .int) ∈ tb := mt 668 rfl rfl
theorem k_673 : Cond.methodLink RL 89 yX6_price ∈ tb := mt 673 (by decide +kernel) rfl
theorem k_674 : Cond.instanceMethod yX6_price ∈ tb := mt 674 (by decide +kernel) rfl
theorem k_675 : Cond.selects RX6 yX6_price yX6_price ∈ tb := mt 675 (by decide +kernel) rfl
set_option maxRecDepth 20000 in
theorem k_676 : Cond.code yX6_price cX6_price 4 (some .int) ∈ tb := mt 676 rfl rfl
theorem k_677 : Cond.methodLink RL 93 yX6_cheapest ∈ tb := mt 677 (by decide +kernel) rfl
theorem k_678 : Cond.instanceMethod yX6_cheapest ∈ tb := mt 678 (by decide +kernel) rfl
theorem k_679 : Cond.selects RX6 yX6_cheapest yX6_cheapest ∈ tb := mt 679 (by decide +kernel) rfl
set_option maxRecDepth 20000 in
theorem k_680 : Cond.code yX6_cheapest cX6_cheapest 4 (some .int) ∈ tb := mt 680 rfl rfl
theorem k_711 : Cond.methodLink RL 97 yX6_again ∈ tb := mt 711 (by decide +kernel) rfl
theorem k_712 : Cond.instanceMethod yX6_again ∈ tb := mt 712 (by decide +kernel) rfl
theorem k_713 : Cond.selects RX6 yX6_again yX6_again ∈ tb := mt 713 (by decide +kernel) rfl
set_option maxRecDepth 20000 in
theorem k_714 : Cond.code yX6_again cX6_again 1 (some .int) ∈ tb := mt 714 rfl rfl
theorem k_719 : Cond.methodLink RL 101 yX6_log ∈ tb := mt 719 (by decide +kernel) rfl
theorem k_720 : Cond.instanceMethod yX6_log ∈ tb := mt 720 (by decide +kernel) rfl
theorem k_721 : Cond.selects RX6 yX6_log yX6_log ∈ tb := mt 721 (by decide +kernel) rfl
set_option maxRecDepth 20000 in
theorem k_722 : Cond.code yX6_log cX6_log 3 (some .int) ∈ tb := mt 722 rfl rfl
theorem k_723 : Cond.methodLink RL 105 yX6_reset ∈ tb := mt 723 (by decide +kernel) rfl
theorem k_724 : Cond.instanceMethod yX6_reset ∈ tb := mt 724 (by decide +kernel) rfl
theorem k_725 : Cond.selects RX6 yX6_reset yX6_reset ∈ tb := mt 725 (by decide +kernel) rfl
set_option maxRecDepth 20000 in
theorem k_726 : Cond.code yX6_reset cX6_reset 2 (some .int) ∈ tb := mt 726 rfl rfl
theorem k_735 : Cond.methodLink RL 109 yX6_count ∈ tb := mt 735 (by decide +kernel) rfl
theorem k_736 : Cond.instanceMethod yX6_count ∈ tb := mt 736 (by decide +kernel) rfl
theorem k_737 : Cond.selects RX6 yX6_count yX6_count ∈ tb := mt 737 (by decide +kernel) rfl
set_option maxRecDepth 20000 in
theorem k_738 : Cond.code yX6_count cX6_count 2 (some .int) ∈ tb := mt 738 rfl rfl
theorem k_948 : Cond.methodLink RL 19 yX7_feed ∈ tb := mt 948 (by decide +kernel) rfl
theorem k_949 : Cond.instanceMethod yX7_feed ∈ tb := mt 949 (by decide +kernel) rfl
theorem k_950 : Cond.selects RX7 yX7_feed yX7_feed ∈ tb := mt 950 (by decide +kernel) rfl
set_option maxRecDepth 20000 in
theorem k_951 : Cond.code yX7_feed cX7_feed 5 (some .int) ∈ tb := mt 951 rfl rfl
theorem k_956 : Cond.methodLink RL 24 yX7_service ∈ tb := mt 956 (by decide +kernel) rfl
theorem k_957 : Cond.instanceMethod yX7_service ∈ tb := mt 957 (by decide +kernel) rfl
theorem k_958 : Cond.selects RX7 yX7_service yX7_service ∈ tb := mt 958 (by decide +kernel) rfl
set_option maxRecDepth 20000 in
theorem k_959 : Cond.code yX7_service cX7_service 1 (some .int) ∈ tb := mt 959 rfl rfl
theorem k_984 : Cond.methodLink RL 29 yX7_change ∈ tb := mt 984 (by decide +kernel) rfl
theorem k_985 : Cond.instanceMethod yX7_change ∈ tb := mt 985 (by decide +kernel) rfl
theorem k_986 : Cond.selects RX7 yX7_change yX7_change ∈ tb := mt 986 (by decide +kernel) rfl
set_option maxRecDepth 20000 in
theorem k_987 : Cond.code yX7_change cX7_change 2 (some .int) ∈ tb := mt 987 rfl rfl
theorem k_992 : Cond.methodLink RL 34 yX7_mend ∈ tb := mt 992 (by decide +kernel) rfl
theorem k_993 : Cond.instanceMethod yX7_mend ∈ tb := mt 993 (by decide +kernel) rfl
theorem k_994 : Cond.selects RX7 yX7_mend yX7_mend ∈ tb := mt 994 (by decide +kernel) rfl
set_option maxRecDepth 20000 in
theorem k_995 : Cond.code yX7_mend cX7_mend 5 (some .int) ∈ tb := mt 995 rfl rfl
theorem k_1000 : Cond.methodLink RL 39 yX7_hold ∈ tb := mt 1000 (by decide +kernel) rfl
theorem k_1001 : Cond.instanceMethod yX7_hold ∈ tb := mt 1001 (by decide +kernel) rfl
theorem k_1002 : Cond.selects RX7 yX7_hold yX7_hold ∈ tb := mt 1002 (by decide +kernel) rfl
set_option maxRecDepth 20000 in
theorem k_1003 : Cond.code yX7_hold cX7_hold 4 (some .int) ∈ tb := mt 1003 rfl rfl
theorem k_1004 : Cond.methodLink RL 43 yX7_set ∈ tb := mt 1004 (by decide +kernel) rfl
theorem k_1005 : Cond.instanceMethod yX7_set ∈ tb := mt 1005 (by decide +kernel) rfl
theorem k_1006 : Cond.selects RX7 yX7_set yX7_set ∈ tb := mt 1006 (by decide +kernel) rfl
set_option maxRecDepth 20000 in
theorem k_1007 : Cond.code yX7_set cX7_set 5 (some .int) ∈ tb := mt 1007 rfl rfl
theorem k_1008 : Cond.methodLink RL 47 yX7_about ∈ tb := mt 1008 (by decide +kernel) rfl
theorem k_1009 : Cond.instanceMethod yX7_about ∈ tb := mt 1009 (by decide +kernel) rfl
theorem k_1010 : Cond.selects RX7 yX7_about yX7_about ∈ tb := mt 1010 (by decide +kernel) rfl
set_option maxRecDepth 20000 in
theorem k_1011 : Cond.code yX7_about cX7_about 5 (some .int) ∈ tb := mt 1011 rfl rfl
theorem k_1024 : Cond.methodLink RL 51 yX7_act ∈ tb := mt 1024 (by decide +kernel) rfl
theorem k_1025 : Cond.instanceMethod yX7_act ∈ tb := mt 1025 (by decide +kernel) rfl
theorem k_1026 : Cond.selects RX7 yX7_act yX7_act ∈ tb := mt 1026 (by decide +kernel) rfl
set_option maxRecDepth 20000 in
theorem k_1027 : Cond.code yX7_act cX7_act 5 (some .int) ∈ tb := mt 1027 rfl rfl
theorem k_1028 : Cond.methodLink RL 56 yX7_call ∈ tb := mt 1028 (by decide +kernel) rfl
theorem k_1029 : Cond.instanceMethod yX7_call ∈ tb := mt 1029 (by decide +kernel) rfl
theorem k_1030 : Cond.selects RX7 yX7_call yX7_call ∈ tb := mt 1030 (by decide +kernel) rfl
set_option maxRecDepth 20000 in
theorem k_1031 : Cond.code yX7_call cX7_call 6 (some .int) ∈ tb := mt 1031 rfl rfl
theorem k_1080 : Cond.methodLink RL 60 yX7_outside ∈ tb := mt 1080 (by decide +kernel) rfl
theorem k_1081 : Cond.instanceMethod yX7_outside ∈ tb := mt 1081 (by decide +kernel) rfl
theorem k_1082 : Cond.selects RX7 yX7_outside yX7_outside ∈ tb := mt 1082 (by decide +kernel) rfl
set_option maxRecDepth 20000 in
theorem k_1083 : Cond.code yX7_outside cX7_outside 2 (some .int) ∈ tb := mt 1083 rfl rfl
theorem k_1084 : Cond.methodLink RL 64 yX7_row ∈ tb := mt 1084 (by decide +kernel) rfl
theorem k_1085 : Cond.instanceMethod yX7_row ∈ tb := mt 1085 (by decide +kernel) rfl
theorem k_1086 : Cond.selects RX7 yX7_row yX7_row ∈ tb := mt 1086 (by decide +kernel) rfl
set_option maxRecDepth 20000 in
theorem k_1087 : Cond.code yX7_row cX7_row 4 (some .int) ∈ tb := mt 1087 rfl rfl
theorem k_1088 : Cond.methodLink RL 68 yX7_clear ∈ tb := mt 1088 (by decide +kernel) rfl
theorem k_1089 : Cond.instanceMethod yX7_clear ∈ tb := mt 1089 (by decide +kernel) rfl
theorem k_1090 : Cond.selects RX7 yX7_clear yX7_clear ∈ tb := mt 1090 (by decide +kernel) rfl
set_option maxRecDepth 20000 in
theorem k_1091 : Cond.code yX7_clear cX7_clear 2 (some .int) ∈ tb := mt 1091 rfl rfl
theorem k_1092 : Cond.methodLink RL 72 yX7_free ∈ tb := mt 1092 (by decide +kernel) rfl
theorem k_1093 : Cond.instanceMethod yX7_free ∈ tb := mt 1093 (by decide +kernel) rfl
theorem k_1094 : Cond.selects RX7 yX7_free yX7_free ∈ tb := mt 1094 (by decide +kernel) rfl
set_option maxRecDepth 20000 in
theorem k_1095 : Cond.code yX7_free cX7_free 3 (some .int) ∈ tb := mt 1095 rfl rfl
theorem k_1096 : Cond.methodLink RL 76 yX7_safe ∈ tb := mt 1096 (by decide +kernel) rfl
theorem k_1097 : Cond.instanceMethod yX7_safe ∈ tb := mt 1097 (by decide +kernel) rfl
theorem k_1098 : Cond.selects RX7 yX7_safe yX7_safe ∈ tb := mt 1098 (by decide +kernel) rfl
set_option maxRecDepth 20000 in
theorem k_1099 : Cond.code yX7_safe cX7_safe 4 (some .int) ∈ tb := mt 1099 rfl rfl
theorem k_1116 : Cond.methodLink RL 80 yX7_worst ∈ tb := mt 1116 (by decide +kernel) rfl
theorem k_1117 : Cond.instanceMethod yX7_worst ∈ tb := mt 1117 (by decide +kernel) rfl
theorem k_1118 : Cond.selects RX7 yX7_worst yX7_worst ∈ tb := mt 1118 (by decide +kernel) rfl
set_option maxRecDepth 20000 in
theorem k_1119 : Cond.code yX7_worst cX7_worst 1 (some .int) ∈ tb := mt 1119 rfl rfl
theorem k_1124 : Cond.methodLink RL 84 yX7_orders ∈ tb := mt 1124 (by decide +kernel) rfl
theorem k_1125 : Cond.instanceMethod yX7_orders ∈ tb := mt 1125 (by decide +kernel) rfl
theorem k_1126 : Cond.selects RX7 yX7_orders yX7_orders ∈ tb := mt 1126 (by decide +kernel) rfl
set_option maxRecDepth 20000 in
theorem k_1127 : Cond.code yX7_orders cX7_orders 7 (some .int) ∈ tb := mt 1127 rfl rfl
theorem k_1151 : Cond.methodLink RL 88 yX7_enough ∈ tb := mt 1151 (by decide +kernel) rfl
theorem k_1152 : Cond.instanceMethod yX7_enough ∈ tb := mt 1152 (by decide +kernel) rfl
theorem k_1153 : Cond.selects RX7 yX7_enough yX7_enough ∈ tb := mt 1153 (by decide +kernel) rfl
set_option maxRecDepth 20000 in
theorem k_1154 : Cond.code yX7_enough cX7_enough 4 (some .int) ∈ tb := mt 1154 rfl rfl
theorem k_1155 : Cond.methodLink RL 92 yX7_price ∈ tb := mt 1155 (by decide +kernel) rfl
theorem k_1156 : Cond.instanceMethod yX7_price ∈ tb := mt 1156 (by decide +kernel) rfl
theorem k_1157 : Cond.selects RX7 yX7_price yX7_price ∈ tb := mt 1157 (by decide +kernel) rfl
set_option maxRecDepth 20000 in
theorem k_1158 : Cond.code yX7_price cX7_price 4 (some .int) ∈ tb := mt 1158 rfl rfl
theorem k_1159 : Cond.methodLink RL 96 yX7_cheapest ∈ tb := mt 1159 (by decide +kernel) rfl
theorem k_1160 : Cond.instanceMethod yX7_cheapest ∈ tb := mt 1160 (by decide +kernel) rfl
theorem k_1161 : Cond.selects RX7 yX7_cheapest yX7_cheapest ∈ tb := mt 1161 (by decide +kernel) rfl
set_option maxRecDepth 20000 in
theorem k_1162 : Cond.code yX7_cheapest cX7_cheapest 10 (some .int) ∈ tb := mt 1162 rfl rfl
theorem k_1174 : Cond.methodLink RL 100 yX7_again ∈ tb := mt 1174 (by decide +kernel) rfl
theorem k_1175 : Cond.instanceMethod yX7_again ∈ tb := mt 1175 (by decide +kernel) rfl
theorem k_1176 : Cond.selects RX7 yX7_again yX7_again ∈ tb := mt 1176 (by decide +kernel) rfl
set_option maxRecDepth 20000 in
theorem k_1177 : Cond.code yX7_again cX7_again 3 (some .int) ∈ tb := mt 1177 rfl rfl
theorem k_1178 : Cond.methodLink RL 104 yX7_log ∈ tb := mt 1178 (by decide +kernel) rfl
theorem k_1179 : Cond.instanceMethod yX7_log ∈ tb := mt 1179 (by decide +kernel) rfl
theorem k_1180 : Cond.selects RX7 yX7_log yX7_log ∈ tb := mt 1180 (by decide +kernel) rfl
set_option maxRecDepth 20000 in
theorem k_1181 : Cond.code yX7_log cX7_log 3 (some .int) ∈ tb := mt 1181 rfl rfl
theorem k_1182 : Cond.methodLink RL 108 yX7_reset ∈ tb := mt 1182 (by decide +kernel) rfl
theorem k_1183 : Cond.instanceMethod yX7_reset ∈ tb := mt 1183 (by decide +kernel) rfl
theorem k_1184 : Cond.selects RX7 yX7_reset yX7_reset ∈ tb := mt 1184 (by decide +kernel) rfl
set_option maxRecDepth 20000 in
theorem k_1185 : Cond.code yX7_reset cX7_reset 3 (some .int) ∈ tb := mt 1185 rfl rfl
theorem k_1186 : Cond.methodLink RL 112 yX7_count ∈ tb := mt 1186 (by decide +kernel) rfl
theorem k_1187 : Cond.instanceMethod yX7_count ∈ tb := mt 1187 (by decide +kernel) rfl
theorem k_1188 : Cond.selects RX7 yX7_count yX7_count ∈ tb := mt 1188 (by decide +kernel) rfl
set_option maxRecDepth 20000 in
theorem k_1189 : Cond.code yX7_count cX7_count 2 (some .int) ∈ tb := mt 1189 rfl rfl
theorem k_1190 : Cond.constantLong RL 13 4294967295 ∈ tb := mt 1190 (by decide +kernel) rfl
theorem dL_law_829 : decode cL_law 829 = .ok (.iinc 3 5, 3) := by decide +kernel
theorem dL_law_832 : decode cL_law 832 = .ok (.goto (-814), 3) := by decide +kernel
theorem dL_law_18 : decode cL_law 18 = .ok (.iload_n 3, 1) := by decide +kernel
theorem dL_law_19 : decode cL_law 19 = .ok (.aload_n 0, 1) := by decide +kernel
theorem dL_law_20 : decode cL_law 20 = .ok (.arraylength, 1) := by decide +kernel
theorem dL_law_21 : decode cL_law 21 = .ok (.iconst 5, 1) := by decide +kernel
theorem dL_law_22 : decode cL_law 22 = .ok (.isub, 1) := by decide +kernel
theorem dL_law_23 : decode cL_law 23 = .ok (.if_icmp .gt 812, 3) := by decide +kernel
theorem dL_law_835 : decode cL_law 835 = .ok (.iconst 1, 1) := by decide +kernel
theorem dL_law_836 : decode cL_law 836 = .ok (.ireturn, 1) := by decide +kernel
theorem dL_law_140 : decode cL_law 140 = .ok (.aload_n 1, 1) := by decide +kernel
theorem dL_law_141 : decode cL_law 141 = .ok (.aload_n 0, 1) := by decide +kernel
theorem dL_law_142 : decode cL_law 142 = .ok (.iload_n 3, 1) := by decide +kernel
theorem dL_law_143 : decode cL_law 143 = .ok (.iconst 1, 1) := by decide +kernel
theorem dL_law_144 : decode cL_law 144 = .ok (.iadd, 1) := by decide +kernel
theorem dL_law_145 : decode cL_law 145 = .ok (.iaload, 1) := by decide +kernel
theorem dL_law_146 : decode cL_law 146 = .ok (.i2l, 1) := by decide +kernel
theorem dL_law_147 : decode cL_law 147 = .ok (.bipush 32, 2) := by decide +kernel
theorem dL_law_149 : decode cL_law 149 = .ok (.lshl, 1) := by decide +kernel
theorem dL_law_150 : decode cL_law 150 = .ok (.aload_n 0, 1) := by decide +kernel
theorem dL_law_151 : decode cL_law 151 = .ok (.iload_n 3, 1) := by decide +kernel
theorem dL_law_152 : decode cL_law 152 = .ok (.iconst 2, 1) := by decide +kernel
theorem dL_law_153 : decode cL_law 153 = .ok (.iadd, 1) := by decide +kernel
theorem dL_law_154 : decode cL_law 154 = .ok (.iaload, 1) := by decide +kernel
theorem dL_law_155 : decode cL_law 155 = .ok (.i2l, 1) := by decide +kernel
theorem dL_law_156 : decode cL_law 156 = .ok (.ldc2_w 13, 3) := by decide +kernel
theorem dL_law_159 : decode cL_law 159 = .ok (.land, 1) := by decide +kernel
theorem dL_law_160 : decode cL_law 160 = .ok (.lor, 1) := by decide +kernel
theorem dL_law_161 : decode cL_law 161 = .ok (.aload_n 0, 1) := by decide +kernel
theorem dL_law_162 : decode cL_law 162 = .ok (.iload_n 3, 1) := by decide +kernel
theorem dL_law_163 : decode cL_law 163 = .ok (.iconst 3, 1) := by decide +kernel
theorem dL_law_164 : decode cL_law 164 = .ok (.iadd, 1) := by decide +kernel
theorem dL_law_165 : decode cL_law 165 = .ok (.iaload, 1) := by decide +kernel
theorem dL_law_166 : decode cL_law 166 = .ok (.invokevirtual 15, 3) := by decide +kernel
theorem dL_law_169 : decode cL_law 169 = .ok (.aload_n 2, 1) := by decide +kernel
theorem dL_law_170 : decode cL_law 170 = .ok (.aload_n 0, 1) := by decide +kernel
theorem dL_law_171 : decode cL_law 171 = .ok (.iload_n 3, 1) := by decide +kernel
theorem dL_law_172 : decode cL_law 172 = .ok (.iconst 1, 1) := by decide +kernel
theorem dL_law_173 : decode cL_law 173 = .ok (.iadd, 1) := by decide +kernel
theorem dL_law_174 : decode cL_law 174 = .ok (.iaload, 1) := by decide +kernel
theorem dL_law_175 : decode cL_law 175 = .ok (.i2l, 1) := by decide +kernel
theorem dL_law_176 : decode cL_law 176 = .ok (.bipush 32, 2) := by decide +kernel
theorem dL_law_178 : decode cL_law 178 = .ok (.lshl, 1) := by decide +kernel
theorem dL_law_179 : decode cL_law 179 = .ok (.aload_n 0, 1) := by decide +kernel
theorem dL_law_180 : decode cL_law 180 = .ok (.iload_n 3, 1) := by decide +kernel
theorem dL_law_181 : decode cL_law 181 = .ok (.iconst 2, 1) := by decide +kernel
theorem dL_law_182 : decode cL_law 182 = .ok (.iadd, 1) := by decide +kernel
theorem dL_law_183 : decode cL_law 183 = .ok (.iaload, 1) := by decide +kernel
theorem dL_law_184 : decode cL_law 184 = .ok (.i2l, 1) := by decide +kernel
theorem dL_law_185 : decode cL_law 185 = .ok (.ldc2_w 13, 3) := by decide +kernel
theorem dL_law_188 : decode cL_law 188 = .ok (.land, 1) := by decide +kernel
theorem dL_law_189 : decode cL_law 189 = .ok (.lor, 1) := by decide +kernel
theorem dL_law_190 : decode cL_law 190 = .ok (.aload_n 0, 1) := by decide +kernel
theorem dL_law_191 : decode cL_law 191 = .ok (.iload_n 3, 1) := by decide +kernel
theorem dL_law_192 : decode cL_law 192 = .ok (.iconst 3, 1) := by decide +kernel
theorem dL_law_193 : decode cL_law 193 = .ok (.iadd, 1) := by decide +kernel
theorem dL_law_194 : decode cL_law 194 = .ok (.iaload, 1) := by decide +kernel
theorem dL_law_195 : decode cL_law 195 = .ok (.invokevirtual 19, 3) := by decide +kernel
theorem dL_law_198 : decode cL_law 198 = .ok (.if_icmp .eq 631, 3) := by decide +kernel
theorem dL_law_203 : decode cL_law 203 = .ok (.aload_n 1, 1) := by decide +kernel
theorem dL_law_204 : decode cL_law 204 = .ok (.invokevirtual 20, 3) := by decide +kernel
theorem dL_law_207 : decode cL_law 207 = .ok (.aload_n 2, 1) := by decide +kernel
theorem dL_law_208 : decode cL_law 208 = .ok (.invokevirtual 24, 3) := by decide +kernel
theorem dL_law_211 : decode cL_law 211 = .ok (.if_icmp .eq 618, 3) := by decide +kernel
theorem dL_law_216 : decode cL_law 216 = .ok (.aload_n 1, 1) := by decide +kernel
theorem dL_law_217 : decode cL_law 217 = .ok (.aload_n 0, 1) := by decide +kernel
theorem dL_law_218 : decode cL_law 218 = .ok (.iload_n 3, 1) := by decide +kernel
theorem dL_law_219 : decode cL_law 219 = .ok (.iconst 1, 1) := by decide +kernel
theorem dL_law_220 : decode cL_law 220 = .ok (.iadd, 1) := by decide +kernel
theorem dL_law_221 : decode cL_law 221 = .ok (.iaload, 1) := by decide +kernel
theorem dL_law_222 : decode cL_law 222 = .ok (.invokevirtual 25, 3) := by decide +kernel
theorem dL_law_225 : decode cL_law 225 = .ok (.aload_n 2, 1) := by decide +kernel
theorem dL_law_226 : decode cL_law 226 = .ok (.aload_n 0, 1) := by decide +kernel
theorem dL_law_227 : decode cL_law 227 = .ok (.iload_n 3, 1) := by decide +kernel
theorem dL_law_228 : decode cL_law 228 = .ok (.iconst 1, 1) := by decide +kernel
theorem dL_law_229 : decode cL_law 229 = .ok (.iadd, 1) := by decide +kernel
theorem dL_law_230 : decode cL_law 230 = .ok (.iaload, 1) := by decide +kernel
theorem dL_law_231 : decode cL_law 231 = .ok (.invokevirtual 29, 3) := by decide +kernel
theorem dL_law_234 : decode cL_law 234 = .ok (.if_icmp .eq 595, 3) := by decide +kernel
theorem dL_law_239 : decode cL_law 239 = .ok (.aload_n 1, 1) := by decide +kernel
theorem dL_law_240 : decode cL_law 240 = .ok (.aload_n 0, 1) := by decide +kernel
theorem dL_law_241 : decode cL_law 241 = .ok (.iload_n 3, 1) := by decide +kernel
theorem dL_law_242 : decode cL_law 242 = .ok (.iconst 1, 1) := by decide +kernel
theorem dL_law_243 : decode cL_law 243 = .ok (.iadd, 1) := by decide +kernel
theorem dL_law_244 : decode cL_law 244 = .ok (.iaload, 1) := by decide +kernel
theorem dL_law_245 : decode cL_law 245 = .ok (.aload_n 0, 1) := by decide +kernel
theorem dL_law_246 : decode cL_law 246 = .ok (.iload_n 3, 1) := by decide +kernel
theorem dL_law_247 : decode cL_law 247 = .ok (.iconst 2, 1) := by decide +kernel
theorem dL_law_248 : decode cL_law 248 = .ok (.iadd, 1) := by decide +kernel
theorem dL_law_249 : decode cL_law 249 = .ok (.iaload, 1) := by decide +kernel
theorem dL_law_250 : decode cL_law 250 = .ok (.aload_n 0, 1) := by decide +kernel
theorem dL_law_251 : decode cL_law 251 = .ok (.iload_n 3, 1) := by decide +kernel
theorem dL_law_252 : decode cL_law 252 = .ok (.iconst 3, 1) := by decide +kernel
theorem dL_law_253 : decode cL_law 253 = .ok (.iadd, 1) := by decide +kernel
theorem dL_law_254 : decode cL_law 254 = .ok (.iaload, 1) := by decide +kernel
theorem dL_law_255 : decode cL_law 255 = .ok (.invokevirtual 30, 3) := by decide +kernel
theorem dL_law_258 : decode cL_law 258 = .ok (.aload_n 2, 1) := by decide +kernel
theorem dL_law_259 : decode cL_law 259 = .ok (.aload_n 0, 1) := by decide +kernel
theorem dL_law_260 : decode cL_law 260 = .ok (.iload_n 3, 1) := by decide +kernel
theorem dL_law_261 : decode cL_law 261 = .ok (.iconst 1, 1) := by decide +kernel
theorem dL_law_262 : decode cL_law 262 = .ok (.iadd, 1) := by decide +kernel
theorem dL_law_263 : decode cL_law 263 = .ok (.iaload, 1) := by decide +kernel
theorem dL_law_264 : decode cL_law 264 = .ok (.aload_n 0, 1) := by decide +kernel
theorem dL_law_265 : decode cL_law 265 = .ok (.iload_n 3, 1) := by decide +kernel
theorem dL_law_266 : decode cL_law 266 = .ok (.iconst 2, 1) := by decide +kernel
theorem dL_law_267 : decode cL_law 267 = .ok (.iadd, 1) := by decide +kernel
theorem dL_law_268 : decode cL_law 268 = .ok (.iaload, 1) := by decide +kernel
theorem dL_law_269 : decode cL_law 269 = .ok (.aload_n 0, 1) := by decide +kernel
theorem dL_law_270 : decode cL_law 270 = .ok (.iload_n 3, 1) := by decide +kernel
theorem dL_law_271 : decode cL_law 271 = .ok (.iconst 3, 1) := by decide +kernel
theorem dL_law_272 : decode cL_law 272 = .ok (.iadd, 1) := by decide +kernel
theorem dL_law_273 : decode cL_law 273 = .ok (.iaload, 1) := by decide +kernel
theorem dL_law_274 : decode cL_law 274 = .ok (.invokevirtual 34, 3) := by decide +kernel
theorem dL_law_277 : decode cL_law 277 = .ok (.if_icmp .eq 552, 3) := by decide +kernel
theorem dL_law_282 : decode cL_law 282 = .ok (.aload_n 1, 1) := by decide +kernel
theorem dL_law_283 : decode cL_law 283 = .ok (.aload_n 0, 1) := by decide +kernel
theorem dL_law_284 : decode cL_law 284 = .ok (.iload_n 3, 1) := by decide +kernel
theorem dL_law_285 : decode cL_law 285 = .ok (.iconst 1, 1) := by decide +kernel
theorem dL_law_286 : decode cL_law 286 = .ok (.iadd, 1) := by decide +kernel
theorem dL_law_287 : decode cL_law 287 = .ok (.iaload, 1) := by decide +kernel
theorem dL_law_288 : decode cL_law 288 = .ok (.aload_n 0, 1) := by decide +kernel
theorem dL_law_289 : decode cL_law 289 = .ok (.iload_n 3, 1) := by decide +kernel
theorem dL_law_290 : decode cL_law 290 = .ok (.iconst 2, 1) := by decide +kernel
theorem dL_law_291 : decode cL_law 291 = .ok (.iadd, 1) := by decide +kernel
theorem dL_law_292 : decode cL_law 292 = .ok (.iaload, 1) := by decide +kernel
theorem dL_law_293 : decode cL_law 293 = .ok (.invokevirtual 35, 3) := by decide +kernel
theorem dL_law_296 : decode cL_law 296 = .ok (.aload_n 2, 1) := by decide +kernel
theorem dL_law_297 : decode cL_law 297 = .ok (.aload_n 0, 1) := by decide +kernel
theorem dL_law_298 : decode cL_law 298 = .ok (.iload_n 3, 1) := by decide +kernel
theorem dL_law_299 : decode cL_law 299 = .ok (.iconst 1, 1) := by decide +kernel
theorem dL_law_300 : decode cL_law 300 = .ok (.iadd, 1) := by decide +kernel
theorem dL_law_301 : decode cL_law 301 = .ok (.iaload, 1) := by decide +kernel
theorem dL_law_302 : decode cL_law 302 = .ok (.aload_n 0, 1) := by decide +kernel
theorem dL_law_303 : decode cL_law 303 = .ok (.iload_n 3, 1) := by decide +kernel
theorem dL_law_304 : decode cL_law 304 = .ok (.iconst 2, 1) := by decide +kernel
theorem dL_law_305 : decode cL_law 305 = .ok (.iadd, 1) := by decide +kernel
theorem dL_law_306 : decode cL_law 306 = .ok (.iaload, 1) := by decide +kernel
theorem dL_law_307 : decode cL_law 307 = .ok (.invokevirtual 39, 3) := by decide +kernel
theorem dL_law_310 : decode cL_law 310 = .ok (.if_icmp .eq 519, 3) := by decide +kernel
theorem dL_law_315 : decode cL_law 315 = .ok (.aload_n 1, 1) := by decide +kernel
theorem dL_law_316 : decode cL_law 316 = .ok (.aload_n 0, 1) := by decide +kernel
theorem dL_law_317 : decode cL_law 317 = .ok (.iload_n 3, 1) := by decide +kernel
theorem dL_law_318 : decode cL_law 318 = .ok (.iconst 1, 1) := by decide +kernel
theorem dL_law_319 : decode cL_law 319 = .ok (.iadd, 1) := by decide +kernel
theorem dL_law_320 : decode cL_law 320 = .ok (.iaload, 1) := by decide +kernel
theorem dL_law_321 : decode cL_law 321 = .ok (.aload_n 0, 1) := by decide +kernel
theorem dL_law_322 : decode cL_law 322 = .ok (.iload_n 3, 1) := by decide +kernel
theorem dL_law_323 : decode cL_law 323 = .ok (.iconst 2, 1) := by decide +kernel
theorem dL_law_324 : decode cL_law 324 = .ok (.iadd, 1) := by decide +kernel
theorem dL_law_325 : decode cL_law 325 = .ok (.iaload, 1) := by decide +kernel
theorem dL_law_326 : decode cL_law 326 = .ok (.aload_n 0, 1) := by decide +kernel
theorem dL_law_327 : decode cL_law 327 = .ok (.iload_n 3, 1) := by decide +kernel
theorem dL_law_328 : decode cL_law 328 = .ok (.iconst 3, 1) := by decide +kernel
theorem dL_law_329 : decode cL_law 329 = .ok (.iadd, 1) := by decide +kernel
theorem dL_law_330 : decode cL_law 330 = .ok (.iaload, 1) := by decide +kernel
theorem dL_law_331 : decode cL_law 331 = .ok (.invokevirtual 40, 3) := by decide +kernel
theorem dL_law_334 : decode cL_law 334 = .ok (.aload_n 2, 1) := by decide +kernel
theorem dL_law_335 : decode cL_law 335 = .ok (.aload_n 0, 1) := by decide +kernel
theorem dL_law_336 : decode cL_law 336 = .ok (.iload_n 3, 1) := by decide +kernel
theorem dL_law_337 : decode cL_law 337 = .ok (.iconst 1, 1) := by decide +kernel
theorem dL_law_338 : decode cL_law 338 = .ok (.iadd, 1) := by decide +kernel
theorem dL_law_339 : decode cL_law 339 = .ok (.iaload, 1) := by decide +kernel
theorem dL_law_340 : decode cL_law 340 = .ok (.aload_n 0, 1) := by decide +kernel
theorem dL_law_341 : decode cL_law 341 = .ok (.iload_n 3, 1) := by decide +kernel
theorem dL_law_342 : decode cL_law 342 = .ok (.iconst 2, 1) := by decide +kernel
theorem dL_law_343 : decode cL_law 343 = .ok (.iadd, 1) := by decide +kernel
theorem dL_law_344 : decode cL_law 344 = .ok (.iaload, 1) := by decide +kernel
theorem dL_law_345 : decode cL_law 345 = .ok (.aload_n 0, 1) := by decide +kernel
theorem dL_law_346 : decode cL_law 346 = .ok (.iload_n 3, 1) := by decide +kernel
theorem dL_law_347 : decode cL_law 347 = .ok (.iconst 3, 1) := by decide +kernel
theorem dL_law_348 : decode cL_law 348 = .ok (.iadd, 1) := by decide +kernel
theorem dL_law_349 : decode cL_law 349 = .ok (.iaload, 1) := by decide +kernel
theorem dL_law_350 : decode cL_law 350 = .ok (.invokevirtual 43, 3) := by decide +kernel
theorem dL_law_353 : decode cL_law 353 = .ok (.if_icmp .eq 476, 3) := by decide +kernel
theorem dL_law_358 : decode cL_law 358 = .ok (.aload_n 1, 1) := by decide +kernel
theorem dL_law_359 : decode cL_law 359 = .ok (.aload_n 0, 1) := by decide +kernel
theorem dL_law_360 : decode cL_law 360 = .ok (.iload_n 3, 1) := by decide +kernel
theorem dL_law_361 : decode cL_law 361 = .ok (.iconst 1, 1) := by decide +kernel
theorem dL_law_362 : decode cL_law 362 = .ok (.iadd, 1) := by decide +kernel
theorem dL_law_363 : decode cL_law 363 = .ok (.iaload, 1) := by decide +kernel
theorem dL_law_364 : decode cL_law 364 = .ok (.aload_n 0, 1) := by decide +kernel
theorem dL_law_365 : decode cL_law 365 = .ok (.iload_n 3, 1) := by decide +kernel
theorem dL_law_366 : decode cL_law 366 = .ok (.iconst 2, 1) := by decide +kernel
theorem dL_law_367 : decode cL_law 367 = .ok (.iadd, 1) := by decide +kernel
theorem dL_law_368 : decode cL_law 368 = .ok (.iaload, 1) := by decide +kernel
theorem dL_law_369 : decode cL_law 369 = .ok (.invokevirtual 44, 3) := by decide +kernel
theorem dL_law_372 : decode cL_law 372 = .ok (.aload_n 2, 1) := by decide +kernel
theorem dL_law_373 : decode cL_law 373 = .ok (.aload_n 0, 1) := by decide +kernel
theorem dL_law_374 : decode cL_law 374 = .ok (.iload_n 3, 1) := by decide +kernel
theorem dL_law_375 : decode cL_law 375 = .ok (.iconst 1, 1) := by decide +kernel
theorem dL_law_376 : decode cL_law 376 = .ok (.iadd, 1) := by decide +kernel
theorem dL_law_377 : decode cL_law 377 = .ok (.iaload, 1) := by decide +kernel
theorem dL_law_378 : decode cL_law 378 = .ok (.aload_n 0, 1) := by decide +kernel
theorem dL_law_379 : decode cL_law 379 = .ok (.iload_n 3, 1) := by decide +kernel
theorem dL_law_380 : decode cL_law 380 = .ok (.iconst 2, 1) := by decide +kernel
theorem dL_law_381 : decode cL_law 381 = .ok (.iadd, 1) := by decide +kernel
theorem dL_law_382 : decode cL_law 382 = .ok (.iaload, 1) := by decide +kernel
theorem dL_law_383 : decode cL_law 383 = .ok (.invokevirtual 47, 3) := by decide +kernel
theorem dL_law_386 : decode cL_law 386 = .ok (.if_icmp .eq 443, 3) := by decide +kernel
theorem dL_law_391 : decode cL_law 391 = .ok (.aload_n 1, 1) := by decide +kernel
theorem dL_law_392 : decode cL_law 392 = .ok (.aload_n 0, 1) := by decide +kernel
theorem dL_law_393 : decode cL_law 393 = .ok (.iload_n 3, 1) := by decide +kernel
theorem dL_law_394 : decode cL_law 394 = .ok (.iconst 1, 1) := by decide +kernel
theorem dL_law_395 : decode cL_law 395 = .ok (.iadd, 1) := by decide +kernel
theorem dL_law_396 : decode cL_law 396 = .ok (.iaload, 1) := by decide +kernel
theorem dL_law_397 : decode cL_law 397 = .ok (.aload_n 0, 1) := by decide +kernel
theorem dL_law_398 : decode cL_law 398 = .ok (.iload_n 3, 1) := by decide +kernel
theorem dL_law_399 : decode cL_law 399 = .ok (.iconst 2, 1) := by decide +kernel
theorem dL_law_400 : decode cL_law 400 = .ok (.iadd, 1) := by decide +kernel
theorem dL_law_401 : decode cL_law 401 = .ok (.iaload, 1) := by decide +kernel
theorem dL_law_402 : decode cL_law 402 = .ok (.aload_n 0, 1) := by decide +kernel
theorem dL_law_403 : decode cL_law 403 = .ok (.iload_n 3, 1) := by decide +kernel
theorem dL_law_404 : decode cL_law 404 = .ok (.iconst 3, 1) := by decide +kernel
theorem dL_law_405 : decode cL_law 405 = .ok (.iadd, 1) := by decide +kernel
theorem dL_law_406 : decode cL_law 406 = .ok (.iaload, 1) := by decide +kernel
theorem dL_law_407 : decode cL_law 407 = .ok (.invokevirtual 48, 3) := by decide +kernel
theorem dL_law_410 : decode cL_law 410 = .ok (.aload_n 2, 1) := by decide +kernel
theorem dL_law_411 : decode cL_law 411 = .ok (.aload_n 0, 1) := by decide +kernel
theorem dL_law_412 : decode cL_law 412 = .ok (.iload_n 3, 1) := by decide +kernel
theorem dL_law_413 : decode cL_law 413 = .ok (.iconst 1, 1) := by decide +kernel
theorem dL_law_414 : decode cL_law 414 = .ok (.iadd, 1) := by decide +kernel
theorem dL_law_415 : decode cL_law 415 = .ok (.iaload, 1) := by decide +kernel
theorem dL_law_416 : decode cL_law 416 = .ok (.aload_n 0, 1) := by decide +kernel
theorem dL_law_417 : decode cL_law 417 = .ok (.iload_n 3, 1) := by decide +kernel
theorem dL_law_418 : decode cL_law 418 = .ok (.iconst 2, 1) := by decide +kernel
theorem dL_law_419 : decode cL_law 419 = .ok (.iadd, 1) := by decide +kernel
theorem dL_law_420 : decode cL_law 420 = .ok (.iaload, 1) := by decide +kernel
theorem dL_law_421 : decode cL_law 421 = .ok (.aload_n 0, 1) := by decide +kernel
theorem dL_law_422 : decode cL_law 422 = .ok (.iload_n 3, 1) := by decide +kernel
theorem dL_law_423 : decode cL_law 423 = .ok (.iconst 3, 1) := by decide +kernel
theorem dL_law_424 : decode cL_law 424 = .ok (.iadd, 1) := by decide +kernel
theorem dL_law_425 : decode cL_law 425 = .ok (.iaload, 1) := by decide +kernel
theorem dL_law_426 : decode cL_law 426 = .ok (.invokevirtual 51, 3) := by decide +kernel
theorem dL_law_429 : decode cL_law 429 = .ok (.if_icmp .eq 400, 3) := by decide +kernel
theorem dL_law_434 : decode cL_law 434 = .ok (.aload_n 1, 1) := by decide +kernel
theorem dL_law_435 : decode cL_law 435 = .ok (.aload_n 0, 1) := by decide +kernel
theorem dL_law_436 : decode cL_law 436 = .ok (.iload_n 3, 1) := by decide +kernel
theorem dL_law_437 : decode cL_law 437 = .ok (.iconst 1, 1) := by decide +kernel
theorem dL_law_438 : decode cL_law 438 = .ok (.iadd, 1) := by decide +kernel
theorem dL_law_439 : decode cL_law 439 = .ok (.iaload, 1) := by decide +kernel
theorem dL_law_440 : decode cL_law 440 = .ok (.aload_n 0, 1) := by decide +kernel
theorem dL_law_441 : decode cL_law 441 = .ok (.iload_n 3, 1) := by decide +kernel
theorem dL_law_442 : decode cL_law 442 = .ok (.iconst 2, 1) := by decide +kernel
theorem dL_law_443 : decode cL_law 443 = .ok (.iadd, 1) := by decide +kernel
theorem dL_law_444 : decode cL_law 444 = .ok (.iaload, 1) := by decide +kernel
theorem dL_law_445 : decode cL_law 445 = .ok (.aload_n 0, 1) := by decide +kernel
theorem dL_law_446 : decode cL_law 446 = .ok (.iload_n 3, 1) := by decide +kernel
theorem dL_law_447 : decode cL_law 447 = .ok (.iconst 3, 1) := by decide +kernel
theorem dL_law_448 : decode cL_law 448 = .ok (.iadd, 1) := by decide +kernel
theorem dL_law_449 : decode cL_law 449 = .ok (.iaload, 1) := by decide +kernel
theorem dL_law_450 : decode cL_law 450 = .ok (.aload_n 0, 1) := by decide +kernel
theorem dL_law_451 : decode cL_law 451 = .ok (.iload_n 3, 1) := by decide +kernel
theorem dL_law_452 : decode cL_law 452 = .ok (.iconst 4, 1) := by decide +kernel
theorem dL_law_453 : decode cL_law 453 = .ok (.iadd, 1) := by decide +kernel
theorem dL_law_454 : decode cL_law 454 = .ok (.iaload, 1) := by decide +kernel
theorem dL_law_455 : decode cL_law 455 = .ok (.invokevirtual 52, 3) := by decide +kernel
theorem dL_law_458 : decode cL_law 458 = .ok (.aload_n 2, 1) := by decide +kernel
theorem dL_law_459 : decode cL_law 459 = .ok (.aload_n 0, 1) := by decide +kernel
theorem dL_law_460 : decode cL_law 460 = .ok (.iload_n 3, 1) := by decide +kernel
theorem dL_law_461 : decode cL_law 461 = .ok (.iconst 1, 1) := by decide +kernel
theorem dL_law_462 : decode cL_law 462 = .ok (.iadd, 1) := by decide +kernel
theorem dL_law_463 : decode cL_law 463 = .ok (.iaload, 1) := by decide +kernel
theorem dL_law_464 : decode cL_law 464 = .ok (.aload_n 0, 1) := by decide +kernel
theorem dL_law_465 : decode cL_law 465 = .ok (.iload_n 3, 1) := by decide +kernel
theorem dL_law_466 : decode cL_law 466 = .ok (.iconst 2, 1) := by decide +kernel
theorem dL_law_467 : decode cL_law 467 = .ok (.iadd, 1) := by decide +kernel
theorem dL_law_468 : decode cL_law 468 = .ok (.iaload, 1) := by decide +kernel
theorem dL_law_469 : decode cL_law 469 = .ok (.aload_n 0, 1) := by decide +kernel
theorem dL_law_470 : decode cL_law 470 = .ok (.iload_n 3, 1) := by decide +kernel
theorem dL_law_471 : decode cL_law 471 = .ok (.iconst 3, 1) := by decide +kernel
theorem dL_law_472 : decode cL_law 472 = .ok (.iadd, 1) := by decide +kernel
theorem dL_law_473 : decode cL_law 473 = .ok (.iaload, 1) := by decide +kernel
theorem dL_law_474 : decode cL_law 474 = .ok (.aload_n 0, 1) := by decide +kernel
theorem dL_law_475 : decode cL_law 475 = .ok (.iload_n 3, 1) := by decide +kernel
theorem dL_law_476 : decode cL_law 476 = .ok (.iconst 4, 1) := by decide +kernel
theorem dL_law_477 : decode cL_law 477 = .ok (.iadd, 1) := by decide +kernel
theorem dL_law_478 : decode cL_law 478 = .ok (.iaload, 1) := by decide +kernel
theorem dL_law_479 : decode cL_law 479 = .ok (.invokevirtual 56, 3) := by decide +kernel
theorem dL_law_482 : decode cL_law 482 = .ok (.if_icmp .eq 347, 3) := by decide +kernel
theorem dL_law_487 : decode cL_law 487 = .ok (.aload_n 1, 1) := by decide +kernel
theorem dL_law_488 : decode cL_law 488 = .ok (.aload_n 0, 1) := by decide +kernel
theorem dL_law_489 : decode cL_law 489 = .ok (.iload_n 3, 1) := by decide +kernel
theorem dL_law_490 : decode cL_law 490 = .ok (.iconst 1, 1) := by decide +kernel
theorem dL_law_491 : decode cL_law 491 = .ok (.iadd, 1) := by decide +kernel
theorem dL_law_492 : decode cL_law 492 = .ok (.iaload, 1) := by decide +kernel
theorem dL_law_493 : decode cL_law 493 = .ok (.invokevirtual 57, 3) := by decide +kernel
theorem dL_law_496 : decode cL_law 496 = .ok (.aload_n 2, 1) := by decide +kernel
theorem dL_law_497 : decode cL_law 497 = .ok (.aload_n 0, 1) := by decide +kernel
theorem dL_law_498 : decode cL_law 498 = .ok (.iload_n 3, 1) := by decide +kernel
theorem dL_law_499 : decode cL_law 499 = .ok (.iconst 1, 1) := by decide +kernel
theorem dL_law_500 : decode cL_law 500 = .ok (.iadd, 1) := by decide +kernel
theorem dL_law_501 : decode cL_law 501 = .ok (.iaload, 1) := by decide +kernel
theorem dL_law_502 : decode cL_law 502 = .ok (.invokevirtual 60, 3) := by decide +kernel
theorem dL_law_505 : decode cL_law 505 = .ok (.if_icmp .eq 324, 3) := by decide +kernel
theorem dL_law_510 : decode cL_law 510 = .ok (.aload_n 1, 1) := by decide +kernel
theorem dL_law_511 : decode cL_law 511 = .ok (.aload_n 0, 1) := by decide +kernel
theorem dL_law_512 : decode cL_law 512 = .ok (.iload_n 3, 1) := by decide +kernel
theorem dL_law_513 : decode cL_law 513 = .ok (.iconst 1, 1) := by decide +kernel
theorem dL_law_514 : decode cL_law 514 = .ok (.iadd, 1) := by decide +kernel
theorem dL_law_515 : decode cL_law 515 = .ok (.iaload, 1) := by decide +kernel
theorem dL_law_516 : decode cL_law 516 = .ok (.aload_n 0, 1) := by decide +kernel
theorem dL_law_517 : decode cL_law 517 = .ok (.iload_n 3, 1) := by decide +kernel
theorem dL_law_518 : decode cL_law 518 = .ok (.iconst 2, 1) := by decide +kernel
theorem dL_law_519 : decode cL_law 519 = .ok (.iadd, 1) := by decide +kernel
theorem dL_law_520 : decode cL_law 520 = .ok (.iaload, 1) := by decide +kernel
theorem dL_law_521 : decode cL_law 521 = .ok (.aload_n 0, 1) := by decide +kernel
theorem dL_law_522 : decode cL_law 522 = .ok (.iload_n 3, 1) := by decide +kernel
theorem dL_law_523 : decode cL_law 523 = .ok (.iconst 3, 1) := by decide +kernel
theorem dL_law_524 : decode cL_law 524 = .ok (.iadd, 1) := by decide +kernel
theorem dL_law_525 : decode cL_law 525 = .ok (.iaload, 1) := by decide +kernel
theorem dL_law_526 : decode cL_law 526 = .ok (.invokevirtual 61, 3) := by decide +kernel
theorem dL_law_529 : decode cL_law 529 = .ok (.aload_n 2, 1) := by decide +kernel
theorem dL_law_530 : decode cL_law 530 = .ok (.aload_n 0, 1) := by decide +kernel
theorem dL_law_531 : decode cL_law 531 = .ok (.iload_n 3, 1) := by decide +kernel
theorem dL_law_532 : decode cL_law 532 = .ok (.iconst 1, 1) := by decide +kernel
theorem dL_law_533 : decode cL_law 533 = .ok (.iadd, 1) := by decide +kernel
theorem dL_law_534 : decode cL_law 534 = .ok (.iaload, 1) := by decide +kernel
theorem dL_law_535 : decode cL_law 535 = .ok (.aload_n 0, 1) := by decide +kernel
theorem dL_law_536 : decode cL_law 536 = .ok (.iload_n 3, 1) := by decide +kernel
theorem dL_law_537 : decode cL_law 537 = .ok (.iconst 2, 1) := by decide +kernel
theorem dL_law_538 : decode cL_law 538 = .ok (.iadd, 1) := by decide +kernel
theorem dL_law_539 : decode cL_law 539 = .ok (.iaload, 1) := by decide +kernel
theorem dL_law_540 : decode cL_law 540 = .ok (.aload_n 0, 1) := by decide +kernel
theorem dL_law_541 : decode cL_law 541 = .ok (.iload_n 3, 1) := by decide +kernel
theorem dL_law_542 : decode cL_law 542 = .ok (.iconst 3, 1) := by decide +kernel
theorem dL_law_543 : decode cL_law 543 = .ok (.iadd, 1) := by decide +kernel
theorem dL_law_544 : decode cL_law 544 = .ok (.iaload, 1) := by decide +kernel
theorem dL_law_545 : decode cL_law 545 = .ok (.invokevirtual 64, 3) := by decide +kernel
theorem dL_law_548 : decode cL_law 548 = .ok (.if_icmp .eq 281, 3) := by decide +kernel
theorem dL_law_553 : decode cL_law 553 = .ok (.aload_n 1, 1) := by decide +kernel
theorem dL_law_554 : decode cL_law 554 = .ok (.invokevirtual 65, 3) := by decide +kernel
theorem dL_law_557 : decode cL_law 557 = .ok (.aload_n 2, 1) := by decide +kernel
theorem dL_law_558 : decode cL_law 558 = .ok (.invokevirtual 68, 3) := by decide +kernel
theorem dL_law_561 : decode cL_law 561 = .ok (.if_icmp .eq 268, 3) := by decide +kernel
theorem dL_law_566 : decode cL_law 566 = .ok (.aload_n 1, 1) := by decide +kernel
theorem dL_law_567 : decode cL_law 567 = .ok (.aload_n 0, 1) := by decide +kernel
theorem dL_law_568 : decode cL_law 568 = .ok (.iload_n 3, 1) := by decide +kernel
theorem dL_law_569 : decode cL_law 569 = .ok (.iconst 1, 1) := by decide +kernel
theorem dL_law_570 : decode cL_law 570 = .ok (.iadd, 1) := by decide +kernel
theorem dL_law_571 : decode cL_law 571 = .ok (.iaload, 1) := by decide +kernel
theorem dL_law_572 : decode cL_law 572 = .ok (.invokevirtual 69, 3) := by decide +kernel
theorem dL_law_575 : decode cL_law 575 = .ok (.aload_n 2, 1) := by decide +kernel
theorem dL_law_576 : decode cL_law 576 = .ok (.aload_n 0, 1) := by decide +kernel
theorem dL_law_577 : decode cL_law 577 = .ok (.iload_n 3, 1) := by decide +kernel
theorem dL_law_578 : decode cL_law 578 = .ok (.iconst 1, 1) := by decide +kernel
theorem dL_law_579 : decode cL_law 579 = .ok (.iadd, 1) := by decide +kernel
theorem dL_law_580 : decode cL_law 580 = .ok (.iaload, 1) := by decide +kernel
theorem dL_law_581 : decode cL_law 581 = .ok (.invokevirtual 72, 3) := by decide +kernel
theorem dL_law_584 : decode cL_law 584 = .ok (.if_icmp .eq 245, 3) := by decide +kernel
theorem dL_law_589 : decode cL_law 589 = .ok (.aload_n 1, 1) := by decide +kernel
theorem dL_law_590 : decode cL_law 590 = .ok (.aload_n 0, 1) := by decide +kernel
theorem dL_law_591 : decode cL_law 591 = .ok (.iload_n 3, 1) := by decide +kernel
theorem dL_law_592 : decode cL_law 592 = .ok (.iconst 1, 1) := by decide +kernel
theorem dL_law_593 : decode cL_law 593 = .ok (.iadd, 1) := by decide +kernel
theorem dL_law_594 : decode cL_law 594 = .ok (.iaload, 1) := by decide +kernel
theorem dL_law_595 : decode cL_law 595 = .ok (.aload_n 0, 1) := by decide +kernel
theorem dL_law_596 : decode cL_law 596 = .ok (.iload_n 3, 1) := by decide +kernel
theorem dL_law_597 : decode cL_law 597 = .ok (.iconst 2, 1) := by decide +kernel
theorem dL_law_598 : decode cL_law 598 = .ok (.iadd, 1) := by decide +kernel
theorem dL_law_599 : decode cL_law 599 = .ok (.iaload, 1) := by decide +kernel
theorem dL_law_600 : decode cL_law 600 = .ok (.aload_n 0, 1) := by decide +kernel
theorem dL_law_601 : decode cL_law 601 = .ok (.iload_n 3, 1) := by decide +kernel
theorem dL_law_602 : decode cL_law 602 = .ok (.iconst 3, 1) := by decide +kernel
theorem dL_law_603 : decode cL_law 603 = .ok (.iadd, 1) := by decide +kernel
theorem dL_law_604 : decode cL_law 604 = .ok (.iaload, 1) := by decide +kernel
theorem dL_law_605 : decode cL_law 605 = .ok (.invokevirtual 73, 3) := by decide +kernel
theorem dL_law_608 : decode cL_law 608 = .ok (.aload_n 2, 1) := by decide +kernel
theorem dL_law_609 : decode cL_law 609 = .ok (.aload_n 0, 1) := by decide +kernel
theorem dL_law_610 : decode cL_law 610 = .ok (.iload_n 3, 1) := by decide +kernel
theorem dL_law_611 : decode cL_law 611 = .ok (.iconst 1, 1) := by decide +kernel
theorem dL_law_612 : decode cL_law 612 = .ok (.iadd, 1) := by decide +kernel
theorem dL_law_613 : decode cL_law 613 = .ok (.iaload, 1) := by decide +kernel
theorem dL_law_614 : decode cL_law 614 = .ok (.aload_n 0, 1) := by decide +kernel
theorem dL_law_615 : decode cL_law 615 = .ok (.iload_n 3, 1) := by decide +kernel
theorem dL_law_616 : decode cL_law 616 = .ok (.iconst 2, 1) := by decide +kernel
theorem dL_law_617 : decode cL_law 617 = .ok (.iadd, 1) := by decide +kernel
theorem dL_law_618 : decode cL_law 618 = .ok (.iaload, 1) := by decide +kernel
theorem dL_law_619 : decode cL_law 619 = .ok (.aload_n 0, 1) := by decide +kernel
theorem dL_law_620 : decode cL_law 620 = .ok (.iload_n 3, 1) := by decide +kernel
theorem dL_law_621 : decode cL_law 621 = .ok (.iconst 3, 1) := by decide +kernel
theorem dL_law_622 : decode cL_law 622 = .ok (.iadd, 1) := by decide +kernel
theorem dL_law_623 : decode cL_law 623 = .ok (.iaload, 1) := by decide +kernel
theorem dL_law_624 : decode cL_law 624 = .ok (.invokevirtual 76, 3) := by decide +kernel
theorem dL_law_627 : decode cL_law 627 = .ok (.if_icmp .eq 202, 3) := by decide +kernel
theorem dL_law_632 : decode cL_law 632 = .ok (.aload_n 1, 1) := by decide +kernel
theorem dL_law_633 : decode cL_law 633 = .ok (.invokevirtual 77, 3) := by decide +kernel
theorem dL_law_636 : decode cL_law 636 = .ok (.aload_n 2, 1) := by decide +kernel
theorem dL_law_637 : decode cL_law 637 = .ok (.invokevirtual 80, 3) := by decide +kernel
theorem dL_law_640 : decode cL_law 640 = .ok (.if_icmp .eq 189, 3) := by decide +kernel
theorem dL_law_645 : decode cL_law 645 = .ok (.aload_n 1, 1) := by decide +kernel
theorem dL_law_646 : decode cL_law 646 = .ok (.aload_n 0, 1) := by decide +kernel
theorem dL_law_647 : decode cL_law 647 = .ok (.iload_n 3, 1) := by decide +kernel
theorem dL_law_648 : decode cL_law 648 = .ok (.iconst 1, 1) := by decide +kernel
theorem dL_law_649 : decode cL_law 649 = .ok (.iadd, 1) := by decide +kernel
theorem dL_law_650 : decode cL_law 650 = .ok (.iaload, 1) := by decide +kernel
theorem dL_law_651 : decode cL_law 651 = .ok (.aload_n 0, 1) := by decide +kernel
theorem dL_law_652 : decode cL_law 652 = .ok (.iload_n 3, 1) := by decide +kernel
theorem dL_law_653 : decode cL_law 653 = .ok (.iconst 2, 1) := by decide +kernel
theorem dL_law_654 : decode cL_law 654 = .ok (.iadd, 1) := by decide +kernel
theorem dL_law_655 : decode cL_law 655 = .ok (.iaload, 1) := by decide +kernel
theorem dL_law_656 : decode cL_law 656 = .ok (.invokevirtual 81, 3) := by decide +kernel
theorem dL_law_659 : decode cL_law 659 = .ok (.aload_n 2, 1) := by decide +kernel
theorem dL_law_660 : decode cL_law 660 = .ok (.aload_n 0, 1) := by decide +kernel
theorem dL_law_661 : decode cL_law 661 = .ok (.iload_n 3, 1) := by decide +kernel
theorem dL_law_662 : decode cL_law 662 = .ok (.iconst 1, 1) := by decide +kernel
theorem dL_law_663 : decode cL_law 663 = .ok (.iadd, 1) := by decide +kernel
theorem dL_law_664 : decode cL_law 664 = .ok (.iaload, 1) := by decide +kernel
theorem dL_law_665 : decode cL_law 665 = .ok (.aload_n 0, 1) := by decide +kernel
theorem dL_law_666 : decode cL_law 666 = .ok (.iload_n 3, 1) := by decide +kernel
theorem dL_law_667 : decode cL_law 667 = .ok (.iconst 2, 1) := by decide +kernel
theorem dL_law_668 : decode cL_law 668 = .ok (.iadd, 1) := by decide +kernel
theorem dL_law_669 : decode cL_law 669 = .ok (.iaload, 1) := by decide +kernel
theorem dL_law_670 : decode cL_law 670 = .ok (.invokevirtual 84, 3) := by decide +kernel
theorem dL_law_673 : decode cL_law 673 = .ok (.if_icmp .eq 156, 3) := by decide +kernel
theorem dL_law_678 : decode cL_law 678 = .ok (.aload_n 1, 1) := by decide +kernel
theorem dL_law_679 : decode cL_law 679 = .ok (.invokevirtual 85, 3) := by decide +kernel
theorem dL_law_682 : decode cL_law 682 = .ok (.aload_n 2, 1) := by decide +kernel
theorem dL_law_683 : decode cL_law 683 = .ok (.invokevirtual 88, 3) := by decide +kernel
theorem dL_law_686 : decode cL_law 686 = .ok (.if_icmp .eq 143, 3) := by decide +kernel
theorem dL_law_691 : decode cL_law 691 = .ok (.aload_n 1, 1) := by decide +kernel
theorem dL_law_692 : decode cL_law 692 = .ok (.aload_n 0, 1) := by decide +kernel
theorem dL_law_693 : decode cL_law 693 = .ok (.iload_n 3, 1) := by decide +kernel
theorem dL_law_694 : decode cL_law 694 = .ok (.iconst 1, 1) := by decide +kernel
theorem dL_law_695 : decode cL_law 695 = .ok (.iadd, 1) := by decide +kernel
theorem dL_law_696 : decode cL_law 696 = .ok (.iaload, 1) := by decide +kernel
theorem dL_law_697 : decode cL_law 697 = .ok (.aload_n 0, 1) := by decide +kernel
theorem dL_law_698 : decode cL_law 698 = .ok (.iload_n 3, 1) := by decide +kernel
theorem dL_law_699 : decode cL_law 699 = .ok (.iconst 2, 1) := by decide +kernel
theorem dL_law_700 : decode cL_law 700 = .ok (.iadd, 1) := by decide +kernel
theorem dL_law_701 : decode cL_law 701 = .ok (.iaload, 1) := by decide +kernel
theorem dL_law_702 : decode cL_law 702 = .ok (.invokevirtual 89, 3) := by decide +kernel
theorem dL_law_705 : decode cL_law 705 = .ok (.aload_n 2, 1) := by decide +kernel
theorem dL_law_706 : decode cL_law 706 = .ok (.aload_n 0, 1) := by decide +kernel
theorem dL_law_707 : decode cL_law 707 = .ok (.iload_n 3, 1) := by decide +kernel
theorem dL_law_708 : decode cL_law 708 = .ok (.iconst 1, 1) := by decide +kernel
theorem dL_law_709 : decode cL_law 709 = .ok (.iadd, 1) := by decide +kernel
theorem dL_law_710 : decode cL_law 710 = .ok (.iaload, 1) := by decide +kernel
theorem dL_law_711 : decode cL_law 711 = .ok (.aload_n 0, 1) := by decide +kernel
theorem dL_law_712 : decode cL_law 712 = .ok (.iload_n 3, 1) := by decide +kernel
theorem dL_law_713 : decode cL_law 713 = .ok (.iconst 2, 1) := by decide +kernel
theorem dL_law_714 : decode cL_law 714 = .ok (.iadd, 1) := by decide +kernel
theorem dL_law_715 : decode cL_law 715 = .ok (.iaload, 1) := by decide +kernel
theorem dL_law_716 : decode cL_law 716 = .ok (.invokevirtual 92, 3) := by decide +kernel
theorem dL_law_719 : decode cL_law 719 = .ok (.if_icmp .eq 110, 3) := by decide +kernel
theorem dL_law_724 : decode cL_law 724 = .ok (.aload_n 1, 1) := by decide +kernel
theorem dL_law_725 : decode cL_law 725 = .ok (.aload_n 0, 1) := by decide +kernel
theorem dL_law_726 : decode cL_law 726 = .ok (.iload_n 3, 1) := by decide +kernel
theorem dL_law_727 : decode cL_law 727 = .ok (.iconst 1, 1) := by decide +kernel
theorem dL_law_728 : decode cL_law 728 = .ok (.iadd, 1) := by decide +kernel
theorem dL_law_729 : decode cL_law 729 = .ok (.iaload, 1) := by decide +kernel
theorem dL_law_730 : decode cL_law 730 = .ok (.invokevirtual 93, 3) := by decide +kernel
theorem dL_law_733 : decode cL_law 733 = .ok (.aload_n 2, 1) := by decide +kernel
theorem dL_law_734 : decode cL_law 734 = .ok (.aload_n 0, 1) := by decide +kernel
theorem dL_law_735 : decode cL_law 735 = .ok (.iload_n 3, 1) := by decide +kernel
theorem dL_law_736 : decode cL_law 736 = .ok (.iconst 1, 1) := by decide +kernel
theorem dL_law_737 : decode cL_law 737 = .ok (.iadd, 1) := by decide +kernel
theorem dL_law_738 : decode cL_law 738 = .ok (.iaload, 1) := by decide +kernel
theorem dL_law_739 : decode cL_law 739 = .ok (.invokevirtual 96, 3) := by decide +kernel
theorem dL_law_742 : decode cL_law 742 = .ok (.if_icmp .eq 87, 3) := by decide +kernel
theorem dL_law_747 : decode cL_law 747 = .ok (.aload_n 1, 1) := by decide +kernel
theorem dL_law_748 : decode cL_law 748 = .ok (.invokevirtual 97, 3) := by decide +kernel
theorem dL_law_751 : decode cL_law 751 = .ok (.aload_n 2, 1) := by decide +kernel
theorem dL_law_752 : decode cL_law 752 = .ok (.invokevirtual 100, 3) := by decide +kernel
theorem dL_law_755 : decode cL_law 755 = .ok (.if_icmp .eq 74, 3) := by decide +kernel
theorem dL_law_760 : decode cL_law 760 = .ok (.aload_n 1, 1) := by decide +kernel
theorem dL_law_761 : decode cL_law 761 = .ok (.aload_n 0, 1) := by decide +kernel
theorem dL_law_762 : decode cL_law 762 = .ok (.iload_n 3, 1) := by decide +kernel
theorem dL_law_763 : decode cL_law 763 = .ok (.iconst 1, 1) := by decide +kernel
theorem dL_law_764 : decode cL_law 764 = .ok (.iadd, 1) := by decide +kernel
theorem dL_law_765 : decode cL_law 765 = .ok (.iaload, 1) := by decide +kernel
theorem dL_law_766 : decode cL_law 766 = .ok (.aload_n 0, 1) := by decide +kernel
theorem dL_law_767 : decode cL_law 767 = .ok (.iload_n 3, 1) := by decide +kernel
theorem dL_law_768 : decode cL_law 768 = .ok (.iconst 2, 1) := by decide +kernel
theorem dL_law_769 : decode cL_law 769 = .ok (.iadd, 1) := by decide +kernel
theorem dL_law_770 : decode cL_law 770 = .ok (.iaload, 1) := by decide +kernel
theorem dL_law_771 : decode cL_law 771 = .ok (.invokevirtual 101, 3) := by decide +kernel
theorem dL_law_774 : decode cL_law 774 = .ok (.aload_n 2, 1) := by decide +kernel
theorem dL_law_775 : decode cL_law 775 = .ok (.aload_n 0, 1) := by decide +kernel
theorem dL_law_776 : decode cL_law 776 = .ok (.iload_n 3, 1) := by decide +kernel
theorem dL_law_777 : decode cL_law 777 = .ok (.iconst 1, 1) := by decide +kernel
theorem dL_law_778 : decode cL_law 778 = .ok (.iadd, 1) := by decide +kernel
theorem dL_law_779 : decode cL_law 779 = .ok (.iaload, 1) := by decide +kernel
theorem dL_law_780 : decode cL_law 780 = .ok (.aload_n 0, 1) := by decide +kernel
theorem dL_law_781 : decode cL_law 781 = .ok (.iload_n 3, 1) := by decide +kernel
theorem dL_law_782 : decode cL_law 782 = .ok (.iconst 2, 1) := by decide +kernel
theorem dL_law_783 : decode cL_law 783 = .ok (.iadd, 1) := by decide +kernel
theorem dL_law_784 : decode cL_law 784 = .ok (.iaload, 1) := by decide +kernel
theorem dL_law_785 : decode cL_law 785 = .ok (.invokevirtual 104, 3) := by decide +kernel
theorem dL_law_788 : decode cL_law 788 = .ok (.if_icmp .eq 41, 3) := by decide +kernel
theorem dL_law_793 : decode cL_law 793 = .ok (.aload_n 1, 1) := by decide +kernel
theorem dL_law_794 : decode cL_law 794 = .ok (.invokevirtual 105, 3) := by decide +kernel
theorem dL_law_797 : decode cL_law 797 = .ok (.aload_n 2, 1) := by decide +kernel
theorem dL_law_798 : decode cL_law 798 = .ok (.invokevirtual 108, 3) := by decide +kernel
theorem dL_law_801 : decode cL_law 801 = .ok (.if_icmp .eq 28, 3) := by decide +kernel
theorem dL_law_806 : decode cL_law 806 = .ok (.aload_n 1, 1) := by decide +kernel
theorem dL_law_807 : decode cL_law 807 = .ok (.aload_n 0, 1) := by decide +kernel
theorem dL_law_808 : decode cL_law 808 = .ok (.iload_n 3, 1) := by decide +kernel
theorem dL_law_809 : decode cL_law 809 = .ok (.iconst 1, 1) := by decide +kernel
theorem dL_law_810 : decode cL_law 810 = .ok (.iadd, 1) := by decide +kernel
theorem dL_law_811 : decode cL_law 811 = .ok (.iaload, 1) := by decide +kernel
theorem dL_law_812 : decode cL_law 812 = .ok (.invokevirtual 109, 3) := by decide +kernel
theorem dL_law_815 : decode cL_law 815 = .ok (.aload_n 2, 1) := by decide +kernel
theorem dL_law_816 : decode cL_law 816 = .ok (.aload_n 0, 1) := by decide +kernel
theorem dL_law_817 : decode cL_law 817 = .ok (.iload_n 3, 1) := by decide +kernel
theorem dL_law_818 : decode cL_law 818 = .ok (.iconst 1, 1) := by decide +kernel
theorem dL_law_819 : decode cL_law 819 = .ok (.iadd, 1) := by decide +kernel
theorem dL_law_820 : decode cL_law 820 = .ok (.iaload, 1) := by decide +kernel
theorem dL_law_821 : decode cL_law 821 = .ok (.invokevirtual 112, 3) := by decide +kernel
theorem dL_law_824 : decode cL_law 824 = .ok (.if_icmp .eq 5, 3) := by decide +kernel
set_option maxHeartbeats 4000000 in
set_option maxRecDepth 100000 in
theorem law_tail {p : Program} {l : Launch} {e : Env} {s : State} {m : MethodId} {below : List Frame} {meth : Method} {c : Code} {D : va_G} {cI cZ cS : ClassId} {A : Nat → Prop} {N0 : NT} {b : Nat} {xs : Nat → Int32} {H : Heap} {locs : List Loc} {ls : Array Slot} {ws : va_W} {cells slots : Nat} (hB : Bx p s m meth c #[Value.ref b] code 4 RL D cI cZ cS A N0) (hAs : ∀ q, A q → s.heap.size ≤ q) (hX : va_X b 5 xs s s.heap) (hbl : b < s.heap.size) (hr : meth.sig.returnType = ret) (hc : cells ≤ 600000) (hs : slots ≤ 7302249) (hV : Vx D A s.heap H locs ws) (hl : lv_has ls 4 [(3, .int 0), (0, .ref b)]) : W p l e room_1 s m #[Value.ref b] below meth c H locs cells slots (lw_Z below #[Value.ref b] s) (F0 m 829 ls []) := by
  have hx := hB.1
  have hb := hB.2.1
  refine lv_iinc (v := 5) (lv' := [(3, .int 5), (0, .ref b)]) hx hb dL_law_829 hl (k := 0) rfl (by decide) (by decide) rfl (fun ls hl => ?_)
  refine lv_goto (tgt := 18) hx hb dL_law_832 (by decide) ?_
  refine lv_iload_n hx hb dL_law_18 rfl (lv_at hl 0 rfl) ?_
  refine lv_aload_n hx hb dL_law_19 rfl (lv_at hl 1 rfl) ?_
  refine va_slen hx hb hX hbl (fun q => Nat.not_le.mpr hbl (hAs _ q)) hV.2.2 dL_law_20 ?_
  refine x_ev (y := 5) rfl ?_
  refine lv_iconst (v := 5) hx hb dL_law_21 (by decide) ?_
  refine lv_isub hx hb dL_law_22 ?_
  refine x_ev (y := 0) (by decide) ?_
  refine lv_icmp_gt (tgt := 835) hx hb dL_law_23 (by decide) (fun c_ => ?_) (fun c_ => absurd (by decide) c_)
  refine lv_iconst (v := 1) hx hb dL_law_835 (by decide) ?_
  refine va_forget (fun q hq => hAs _ (hV.2.2.2.2 q hq)) ?_
  refine W.widen (k := 600000) (n := 7302249) hc hs ?_
  exact lw_ret hx hb hr hB.2.2.2.2.2.2.2.2.2 dL_law_836
set_option maxHeartbeats 4000000 in
set_option maxRecDepth 100000 in
/-- feed -/
theorem law_0 {p : Program} {l : Launch} {e : Env} {s : State} {m : MethodId} {below : List Frame} {meth : Method} {c : Code} {D : va_G} {cI cZ cS : ClassId} {A : Nat → Prop} {N0 : NT} {b : Nat} {xs : Nat → Int32} {H : Heap} {locs : List Loc} {ls : Array Slot} (hB : Bx p s m meth c #[Value.ref b] code 4 RL D cI cZ cS A N0) (hAs : ∀ q, A q → s.heap.size ≤ q) (hX : va_X b 5 xs s s.heap) (hbl : b < s.heap.size) (hr : meth.sig.returnType = ret) (ox : Nat) (tp : Nat) (nw : Nat) (rw : Nat) (lg : Nat) (jd : Nat) (pr : Nat) (byt : Nat) (om : Nat) (fs : List Value) (q_tape : Nat) (h29 : fs[29]? = some (.int 0)) (h28 : fs[28]? = some (.ref q_tape)) (hV : Vx D A s.heap H locs [(ox, .inr (6, [.ref tp, .ref nw, .ref rw, .ref lg, .ref jd, .ref pr, .int 0])), (tp, .inr (4, [.ref byt, .int 0, .int 0, .int 0])), (byt, .inl (cI, 100, .inl (fun _ => 0))), (om, .inr (7, fs)), (q_tape, .inl (cI, 100, .inl (fun _ => 0)))]) (hl : lv_has ls 4 [(3, .int 0), (2, .ref om), (1, .ref ox), (0, .ref b)]) : W p l e room_1 s m #[Value.ref b] below meth c H locs 397 43468 (lw_Z below #[Value.ref b] s) (F0 m 140 ls []) := by
  have hx := hB.1
  have hb := hB.2.1
  refine lv_aload_n hx hb dL_law_140 rfl (lv_at hl 2 rfl) ?_
  refine lv_aload_n hx hb dL_law_141 rfl (lv_at hl 3 rfl) ?_
  refine lv_iload_n hx hb dL_law_142 rfl (lv_at hl 0 rfl) ?_
  refine lv_iconst (v := 1) hx hb dL_law_143 (by decide) ?_
  refine lv_iadd hx hb dL_law_144 ?_
  refine x_ev (y := 1) (by decide) ?_
  refine va_sld hx hb hX hbl (fun q => Nat.not_le.mpr hbl (hAs _ q)) hV.2.2 (by unfold vp_in; decide) dL_law_145 ?_
  refine x_ev (y := xs 1) rfl ?_
  refine lv_i2l hx hb dL_law_146 rfl ?_
  refine lv_topl (fun z_1 ez_1 => ?_)
  refine lv_bipush (v := 32) hx hb dL_law_147 (by decide) ?_
  refine lv_lshl hx hb dL_law_149 rfl ?_
  refine lv_topl (fun z_2 ez_2 => ?_)
  refine lv_aload_n hx hb dL_law_150 rfl (lv_at hl 3 rfl) ?_
  refine lv_iload_n hx hb dL_law_151 rfl (lv_at hl 0 rfl) ?_
  refine lv_iconst (v := 2) hx hb dL_law_152 (by decide) ?_
  refine lv_iadd hx hb dL_law_153 ?_
  refine x_ev (y := 2) (by decide) ?_
  refine va_sld hx hb hX hbl (fun q => Nat.not_le.mpr hbl (hAs _ q)) hV.2.2 (by unfold vp_in; decide) dL_law_154 ?_
  refine x_ev (y := xs 2) rfl ?_
  refine lv_i2l hx hb dL_law_155 rfl ?_
  refine lv_topl (fun z_3 ez_3 => ?_)
  refine lv_ldc2 (v := 4294967295) hx hb hB.2.2.2.1 (hB.2.2.2.2.1 _ k_1190) dL_law_156 ?_
  refine lv_land hx hb dL_law_159 ?_
  refine lv_topl (fun z_4 ez_4 => ?_)
  refine lv_lor hx hb dL_law_160 ?_
  refine lv_topl (fun z_5 ez_5 => ?_)
  refine lv_aload_n hx hb dL_law_161 rfl (lv_at hl 3 rfl) ?_
  refine lv_iload_n hx hb dL_law_162 rfl (lv_at hl 0 rfl) ?_
  refine lv_iconst (v := 3) hx hb dL_law_163 (by decide) ?_
  refine lv_iadd hx hb dL_law_164 ?_
  refine x_ev (y := 3) (by decide) ?_
  refine va_sld hx hb hX hbl (fun q => Nat.not_le.mpr hbl (hAs _ q)) hV.2.2 (by unfold vp_in; decide) dL_law_165 ?_
  refine x_ev (y := xs 3) rfl ?_
  refine x_callV (n := 2) (wr := [(om, .inr (7, fs)), (q_tape, .inl (cI, 100, .inl (fun _ => 0)))]) (q0 := 0) (As := [.long z_5, .int (xs 3)]) (rest := []) hB hV (x_N hB) hl.1 (p_feed l D cI cZ cS N0 ox tp nw rw lg jd pr byt z_5 (xs 3) ) rfl rfl k_333 k_57 k_330 k_331 k_332 (by decide +kernel) ⟨(Nat.le_of_ble_eq_true rfl), (Nat.le_of_ble_eq_true rfl)⟩ rfl (Nat.le_of_ble_eq_true rfl) ⟨(Nat.le_of_ble_eq_true rfl), (Nat.le_of_ble_eq_true rfl)⟩ [0, 1, 2] [3, 4] rfl rfl rfl ⟨by decide, by decide, by decide⟩ dL_law_166 (fun v w H locs hp hV => ?_)
  obtain ⟨r_6, rfl, rfl, f_7⟩ := hp
  have hV : Vx D A s.heap H locs [(om, .inr (7, fs)), (q_tape, .inl (cI, 100, .inl (fun _ => 0)))] := hV
  refine W.eq (g2 := F0 m 169 ls [.int r_6]) rfl ?_
  refine lv_aload_n hx hb dL_law_169 rfl (lv_at hl 1 rfl) ?_
  refine lv_aload_n hx hb dL_law_170 rfl (lv_at hl 3 rfl) ?_
  refine lv_iload_n hx hb dL_law_171 rfl (lv_at hl 0 rfl) ?_
  refine lv_iconst (v := 1) hx hb dL_law_172 (by decide) ?_
  refine lv_iadd hx hb dL_law_173 ?_
  refine x_ev (y := 1) (by decide) ?_
  refine va_sld hx hb hX hbl (fun q => Nat.not_le.mpr hbl (hAs _ q)) hV.2.2 (by unfold vp_in; decide) dL_law_174 ?_
  refine x_ev (y := xs 1) rfl ?_
  refine lv_i2l hx hb dL_law_175 rfl ?_
  refine lv_topl (fun z_8 ez_8 => ?_)
  refine lv_bipush (v := 32) hx hb dL_law_176 (by decide) ?_
  refine lv_lshl hx hb dL_law_178 rfl ?_
  refine lv_topl (fun z_9 ez_9 => ?_)
  refine lv_aload_n hx hb dL_law_179 rfl (lv_at hl 3 rfl) ?_
  refine lv_iload_n hx hb dL_law_180 rfl (lv_at hl 0 rfl) ?_
  refine lv_iconst (v := 2) hx hb dL_law_181 (by decide) ?_
  refine lv_iadd hx hb dL_law_182 ?_
  refine x_ev (y := 2) (by decide) ?_
  refine va_sld hx hb hX hbl (fun q => Nat.not_le.mpr hbl (hAs _ q)) hV.2.2 (by unfold vp_in; decide) dL_law_183 ?_
  refine x_ev (y := xs 2) rfl ?_
  refine lv_i2l hx hb dL_law_184 rfl ?_
  refine lv_topl (fun z_10 ez_10 => ?_)
  refine lv_ldc2 (v := 4294967295) hx hb hB.2.2.2.1 (hB.2.2.2.2.1 _ k_1190) dL_law_185 ?_
  refine lv_land hx hb dL_law_188 ?_
  refine lv_topl (fun z_11 ez_11 => ?_)
  refine lv_lor hx hb dL_law_189 ?_
  refine lv_topl (fun z_12 ez_12 => ?_)
  refine lv_aload_n hx hb dL_law_190 rfl (lv_at hl 3 rfl) ?_
  refine lv_iload_n hx hb dL_law_191 rfl (lv_at hl 0 rfl) ?_
  refine lv_iconst (v := 3) hx hb dL_law_192 (by decide) ?_
  refine lv_iadd hx hb dL_law_193 ?_
  refine x_ev (y := 3) (by decide) ?_
  refine va_sld hx hb hX hbl (fun q => Nat.not_le.mpr hbl (hAs _ q)) hV.2.2 (by unfold vp_in; decide) dL_law_194 ?_
  refine x_ev (y := xs 3) rfl ?_
  refine x_callV (n := 2) (wr := []) (q0 := 0) (As := [.long z_12, .int (xs 3)]) (rest := [.int r_6]) hB hV (x_N hB) hl.1 (m_feed l D cI cZ cS N0 om fs q_tape z_12 (xs 3) h29 h28) rfl rfl k_951 k_65 k_948 k_949 k_950 (by decide +kernel) ⟨(Nat.le_of_ble_eq_true rfl), (Nat.le_of_ble_eq_true rfl)⟩ rfl (Nat.le_of_ble_eq_true rfl) ⟨(Nat.le_of_ble_eq_true rfl), (Nat.le_of_ble_eq_true rfl)⟩ [0, 1] [] rfl rfl rfl ⟨by decide, by decide, by decide⟩ dL_law_195 (fun v w H locs hp hV => ?_)
  obtain ⟨r_13, rfl, rfl, f_14⟩ := hp
  have hV : Vx D A s.heap H locs [] := hV
  refine W.eq (g2 := F0 m 198 ls [.int r_13, .int r_6]) rfl ?_
  refine lv_icmp_eq (tgt := 829) hx hb dL_law_198 (by decide) (fun c_ => ?_) (fun c_ => absurd (f_7.trans f_14.symm) c_)
  exact law_tail hB hAs hX hbl hr (Nat.le_of_ble_eq_true rfl) (Nat.le_of_ble_eq_true rfl) hV (lv_sub hl [0, 3] rfl)
set_option maxHeartbeats 4000000 in
set_option maxRecDepth 100000 in
/-- service -/
theorem law_1 {p : Program} {l : Launch} {e : Env} {s : State} {m : MethodId} {below : List Frame} {meth : Method} {c : Code} {D : va_G} {cI cZ cS : ClassId} {A : Nat → Prop} {N0 : NT} {b : Nat} {xs : Nat → Int32} {H : Heap} {locs : List Loc} {ls : Array Slot} (hB : Bx p s m meth c #[Value.ref b] code 4 RL D cI cZ cS A N0) (hAs : ∀ q, A q → s.heap.size ≤ q) (hX : va_X b 5 xs s s.heap) (hbl : b < s.heap.size) (hr : meth.sig.returnType = ret) (ox : Nat) (tp : Nat) (nw : Nat) (rw : Nat) (lg : Nat) (jd : Nat) (pr : Nat) (n1 : Nat) (n2 : Nat) (byt : Nat) (om : Nat) (fs : List Value) (q_words : Nat) (q_newWord : Nat) (q_newPlace : Nat) (q_newWorth : Nat) (h37 : fs[37]? = some (.int 0)) (h36 : fs[36]? = some (.int 0)) (h29 : fs[29]? = some (.int 0)) (h38 : fs[38]? = some (.int 0)) (h0 : fs[0]? = some (.int 0)) (h42 : fs[42]? = some (.ref q_words)) (h39 : fs[39]? = some (.ref q_newWord)) (h40 : fs[40]? = some (.ref q_newPlace)) (h41 : fs[41]? = some (.ref q_newWorth)) (hV : Vx D A s.heap H locs [(ox, .inr (6, [.ref tp, .ref nw, .ref rw, .ref lg, .ref jd, .ref pr, .int 0])), (nw, .inr (5, [.ref n1, .int 0, .int 0, .ref n2, .int 0, .int 0, .int 0, .int 0])), (tp, .inr (4, [.ref byt, .int 0, .int 0, .int 0])), (om, .inr (7, fs)), (q_words, .inl (cI, 24, .inl (upd (upd (upd (upd (upd (upd (upd (upd (upd (upd (upd (upd (upd (upd (upd (upd (upd (upd (upd (upd (upd (upd (upd (upd (fun _ => 0) 0 115) 1 101) 2 116) 3 97) 4 100) 5 100) 6 109) 7 97) 8 120) 9 110) 10 101) 11 119) 12 103) 13 101) 14 116) 15 97) 16 115) 17 107) 18 100) 19 111) 20 0) 21 105) 22 102) 23 0))), (q_newWord, .inl (cI, 8, .inl (fun _ => 0))), (q_newPlace, .inl (cI, 8, .inl (fun _ => 0))), (q_newWorth, .inl (cI, 8, .inl (fun _ => 0)))]) (hl : lv_has ls 4 [(3, .int 0), (2, .ref om), (1, .ref ox), (0, .ref b)]) : W p l e room_1 s m #[Value.ref b] below meth c H locs 397 43468 (lw_Z below #[Value.ref b] s) (F0 m 203 ls []) := by
  have hx := hB.1
  have hb := hB.2.1
  refine lv_aload_n hx hb dL_law_203 rfl (lv_at hl 2 rfl) ?_
  refine x_callV (n := 0) (wr := [(om, .inr (7, fs)), (q_words, .inl (cI, 24, .inl (upd (upd (upd (upd (upd (upd (upd (upd (upd (upd (upd (upd (upd (upd (upd (upd (upd (upd (upd (upd (upd (upd (upd (upd (fun _ => 0) 0 115) 1 101) 2 116) 3 97) 4 100) 5 100) 6 109) 7 97) 8 120) 9 110) 10 101) 11 119) 12 103) 13 101) 14 116) 15 97) 16 115) 17 107) 18 100) 19 111) 20 0) 21 105) 22 102) 23 0))), (q_newWord, .inl (cI, 8, .inl (fun _ => 0))), (q_newPlace, .inl (cI, 8, .inl (fun _ => 0))), (q_newWorth, .inl (cI, 8, .inl (fun _ => 0)))]) (q0 := 0) (As := []) (rest := []) hB hV (x_N hB) hl.1 (p_service l D cI cZ cS N0 ox tp nw rw lg jd pr n1 n2 byt ) rfl rfl k_342 k_57 k_339 k_340 k_341 (by decide +kernel) ⟨(Nat.le_of_ble_eq_true rfl), (Nat.le_of_ble_eq_true rfl)⟩ rfl (Nat.le_of_ble_eq_true rfl) ⟨(Nat.le_of_ble_eq_true rfl), (Nat.le_of_ble_eq_true rfl)⟩ [0, 1, 2] [3, 4, 5, 6, 7] rfl rfl rfl ⟨by decide, by decide, by decide⟩ dL_law_204 (fun v w H locs hp hV => ?_)
  obtain ⟨rfl, rfl⟩ := hp
  have hV : Vx D A s.heap H locs [(om, .inr (7, fs)), (q_words, .inl (cI, 24, .inl (upd (upd (upd (upd (upd (upd (upd (upd (upd (upd (upd (upd (upd (upd (upd (upd (upd (upd (upd (upd (upd (upd (upd (upd (fun _ => 0) 0 115) 1 101) 2 116) 3 97) 4 100) 5 100) 6 109) 7 97) 8 120) 9 110) 10 101) 11 119) 12 103) 13 101) 14 116) 15 97) 16 115) 17 107) 18 100) 19 111) 20 0) 21 105) 22 102) 23 0))), (q_newWord, .inl (cI, 8, .inl (fun _ => 0))), (q_newPlace, .inl (cI, 8, .inl (fun _ => 0))), (q_newWorth, .inl (cI, 8, .inl (fun _ => 0)))] := hV
  refine W.eq (g2 := F0 m 207 ls [.int (-10)]) rfl ?_
  refine lv_aload_n hx hb dL_law_207 rfl (lv_at hl 1 rfl) ?_
  refine x_callV (n := 0) (wr := []) (q0 := 0) (As := []) (rest := [.int (-10)]) hB hV (x_N hB) hl.1 (m_service l D cI cZ cS N0 om fs q_words q_newWord q_newPlace q_newWorth h37 h36 h29 h38 h0 h42 h39 h40 h41) rfl rfl k_959 k_65 k_956 k_957 k_958 (by decide +kernel) ⟨(Nat.le_of_ble_eq_true rfl), (Nat.le_of_ble_eq_true rfl)⟩ rfl (Nat.le_of_ble_eq_true rfl) ⟨(Nat.le_of_ble_eq_true rfl), (Nat.le_of_ble_eq_true rfl)⟩ [0, 1, 2, 3, 4] [] rfl rfl rfl ⟨by decide, by decide, by decide⟩ dL_law_208 (fun v w H locs hp hV => ?_)
  obtain ⟨rfl, rfl⟩ := hp
  have hV : Vx D A s.heap H locs [] := hV
  refine W.eq (g2 := F0 m 211 ls [.int (-10), .int (-10)]) rfl ?_
  refine lv_icmp_eq (tgt := 829) hx hb dL_law_211 (by decide) (fun c_ => ?_) (fun c_ => absurd (by decide) c_)
  exact law_tail hB hAs hX hbl hr (Nat.le_of_ble_eq_true rfl) (Nat.le_of_ble_eq_true rfl) hV (lv_sub hl [0, 3] rfl)
set_option maxHeartbeats 4000000 in
set_option maxRecDepth 100000 in
/-- change -/
theorem law_2 {p : Program} {l : Launch} {e : Env} {s : State} {m : MethodId} {below : List Frame} {meth : Method} {c : Code} {D : va_G} {cI cZ cS : ClassId} {A : Nat → Prop} {N0 : NT} {b : Nat} {xs : Nat → Int32} {H : Heap} {locs : List Loc} {ls : Array Slot} (hB : Bx p s m meth c #[Value.ref b] code 4 RL D cI cZ cS A N0) (hAs : ∀ q, A q → s.heap.size ≤ q) (hX : va_X b 5 xs s s.heap) (hbl : b < s.heap.size) (hr : meth.sig.returnType = ret) (ox : Nat) (tp : Nat) (nw : Nat) (rw : Nat) (lg : Nat) (jd : Nat) (pr : Nat) (n1 : Nat) (n2 : Nat) (om : Nat) (fs : List Value) (h0 : fs[0]? = some (.int 0)) (hV : Vx D A s.heap H locs [(ox, .inr (6, [.ref tp, .ref nw, .ref rw, .ref lg, .ref jd, .ref pr, .int 0])), (nw, .inr (5, [.ref n1, .int 0, .int 0, .ref n2, .int 0, .int 0, .int 0, .int 0])), (om, .inr (7, fs))]) (hl : lv_has ls 4 [(3, .int 0), (2, .ref om), (1, .ref ox), (0, .ref b)]) : W p l e room_1 s m #[Value.ref b] below meth c H locs 397 43468 (lw_Z below #[Value.ref b] s) (F0 m 216 ls []) := by
  have hx := hB.1
  have hb := hB.2.1
  refine lv_aload_n hx hb dL_law_216 rfl (lv_at hl 2 rfl) ?_
  refine lv_aload_n hx hb dL_law_217 rfl (lv_at hl 3 rfl) ?_
  refine lv_iload_n hx hb dL_law_218 rfl (lv_at hl 0 rfl) ?_
  refine lv_iconst (v := 1) hx hb dL_law_219 (by decide) ?_
  refine lv_iadd hx hb dL_law_220 ?_
  refine x_ev (y := 1) (by decide) ?_
  refine va_sld hx hb hX hbl (fun q => Nat.not_le.mpr hbl (hAs _ q)) hV.2.2 (by unfold vp_in; decide) dL_law_221 ?_
  refine x_ev (y := xs 1) rfl ?_
  refine x_callV (n := 1) (wr := [(om, .inr (7, fs))]) (q0 := 0) (As := [.int (xs 1)]) (rest := []) hB hV (x_N hB) hl.1 (p_change l D cI cZ cS N0 ox tp nw rw lg jd pr n1 n2 (xs 1) ) rfl rfl k_432 k_57 k_429 k_430 k_431 (by decide +kernel) ⟨(Nat.le_of_ble_eq_true rfl), (Nat.le_of_ble_eq_true rfl)⟩ rfl (Nat.le_of_ble_eq_true rfl) ⟨(Nat.le_of_ble_eq_true rfl), (Nat.le_of_ble_eq_true rfl)⟩ [0, 1] [2] rfl rfl rfl ⟨by decide, by decide, by decide⟩ dL_law_222 (fun v w H locs hp hV => ?_)
  obtain ⟨rfl, rfl⟩ := hp
  have hV : Vx D A s.heap H locs [(om, .inr (7, fs))] := hV
  refine W.eq (g2 := F0 m 225 ls [.int (-1)]) rfl ?_
  refine lv_aload_n hx hb dL_law_225 rfl (lv_at hl 1 rfl) ?_
  refine lv_aload_n hx hb dL_law_226 rfl (lv_at hl 3 rfl) ?_
  refine lv_iload_n hx hb dL_law_227 rfl (lv_at hl 0 rfl) ?_
  refine lv_iconst (v := 1) hx hb dL_law_228 (by decide) ?_
  refine lv_iadd hx hb dL_law_229 ?_
  refine x_ev (y := 1) (by decide) ?_
  refine va_sld hx hb hX hbl (fun q => Nat.not_le.mpr hbl (hAs _ q)) hV.2.2 (by unfold vp_in; decide) dL_law_230 ?_
  refine x_ev (y := xs 1) rfl ?_
  refine x_callV (n := 1) (wr := []) (q0 := 0) (As := [.int (xs 1)]) (rest := [.int (-1)]) hB hV (x_N hB) hl.1 (m_change l D cI cZ cS N0 om fs (xs 1) h0) rfl rfl k_987 k_65 k_984 k_985 k_986 (by decide +kernel) ⟨(Nat.le_of_ble_eq_true rfl), (Nat.le_of_ble_eq_true rfl)⟩ rfl (Nat.le_of_ble_eq_true rfl) ⟨(Nat.le_of_ble_eq_true rfl), (Nat.le_of_ble_eq_true rfl)⟩ [0] [] rfl rfl rfl ⟨by decide, by decide, by decide⟩ dL_law_231 (fun v w H locs hp hV => ?_)
  obtain ⟨rfl, rfl⟩ := hp
  have hV : Vx D A s.heap H locs [] := hV
  refine W.eq (g2 := F0 m 234 ls [.int (-1), .int (-1)]) rfl ?_
  refine lv_icmp_eq (tgt := 829) hx hb dL_law_234 (by decide) (fun c_ => ?_) (fun c_ => absurd (by decide) c_)
  exact law_tail hB hAs hX hbl hr (Nat.le_of_ble_eq_true rfl) (Nat.le_of_ble_eq_true rfl) hV (lv_sub hl [0, 3] rfl)
set_option maxHeartbeats 4000000 in
set_option maxRecDepth 100000 in
/-- mend -/
theorem law_3 {p : Program} {l : Launch} {e : Env} {s : State} {m : MethodId} {below : List Frame} {meth : Method} {c : Code} {D : va_G} {cI cZ cS : ClassId} {A : Nat → Prop} {N0 : NT} {b : Nat} {xs : Nat → Int32} {H : Heap} {locs : List Loc} {ls : Array Slot} (hB : Bx p s m meth c #[Value.ref b] code 4 RL D cI cZ cS A N0) (hAs : ∀ q, A q → s.heap.size ≤ q) (hX : va_X b 5 xs s s.heap) (hbl : b < s.heap.size) (hr : meth.sig.returnType = ret) (ox : Nat) (tp : Nat) (nw : Nat) (rw : Nat) (lg : Nat) (jd : Nat) (pr : Nat) (n1 : Nat) (n2 : Nat) (om : Nat) (fs : List Value) (h0 : fs[0]? = some (.int 0)) (hV : Vx D A s.heap H locs [(ox, .inr (6, [.ref tp, .ref nw, .ref rw, .ref lg, .ref jd, .ref pr, .int 0])), (nw, .inr (5, [.ref n1, .int 0, .int 0, .ref n2, .int 0, .int 0, .int 0, .int 0])), (om, .inr (7, fs))]) (hl : lv_has ls 4 [(3, .int 0), (2, .ref om), (1, .ref ox), (0, .ref b)]) : W p l e room_1 s m #[Value.ref b] below meth c H locs 397 43468 (lw_Z below #[Value.ref b] s) (F0 m 239 ls []) := by
  have hx := hB.1
  have hb := hB.2.1
  refine lv_aload_n hx hb dL_law_239 rfl (lv_at hl 2 rfl) ?_
  refine lv_aload_n hx hb dL_law_240 rfl (lv_at hl 3 rfl) ?_
  refine lv_iload_n hx hb dL_law_241 rfl (lv_at hl 0 rfl) ?_
  refine lv_iconst (v := 1) hx hb dL_law_242 (by decide) ?_
  refine lv_iadd hx hb dL_law_243 ?_
  refine x_ev (y := 1) (by decide) ?_
  refine va_sld hx hb hX hbl (fun q => Nat.not_le.mpr hbl (hAs _ q)) hV.2.2 (by unfold vp_in; decide) dL_law_244 ?_
  refine x_ev (y := xs 1) rfl ?_
  refine lv_aload_n hx hb dL_law_245 rfl (lv_at hl 3 rfl) ?_
  refine lv_iload_n hx hb dL_law_246 rfl (lv_at hl 0 rfl) ?_
  refine lv_iconst (v := 2) hx hb dL_law_247 (by decide) ?_
  refine lv_iadd hx hb dL_law_248 ?_
  refine x_ev (y := 2) (by decide) ?_
  refine va_sld hx hb hX hbl (fun q => Nat.not_le.mpr hbl (hAs _ q)) hV.2.2 (by unfold vp_in; decide) dL_law_249 ?_
  refine x_ev (y := xs 2) rfl ?_
  refine lv_aload_n hx hb dL_law_250 rfl (lv_at hl 3 rfl) ?_
  refine lv_iload_n hx hb dL_law_251 rfl (lv_at hl 0 rfl) ?_
  refine lv_iconst (v := 3) hx hb dL_law_252 (by decide) ?_
  refine lv_iadd hx hb dL_law_253 ?_
  refine x_ev (y := 3) (by decide) ?_
  refine va_sld hx hb hX hbl (fun q => Nat.not_le.mpr hbl (hAs _ q)) hV.2.2 (by unfold vp_in; decide) dL_law_254 ?_
  refine x_ev (y := xs 3) rfl ?_
  refine x_callV (n := 3) (wr := [(om, .inr (7, fs))]) (q0 := 0) (As := [.int (xs 1), .int (xs 2), .int (xs 3)]) (rest := []) hB hV (x_N hB) hl.1 (p_mend l D cI cZ cS N0 ox tp nw rw lg jd pr n1 n2 (xs 1) (xs 2) (xs 3) ) rfl rfl k_440 k_57 k_437 k_438 k_439 (by decide +kernel) ⟨(Nat.le_of_ble_eq_true rfl), (Nat.le_of_ble_eq_true rfl)⟩ rfl (Nat.le_of_ble_eq_true rfl) ⟨(Nat.le_of_ble_eq_true rfl), (Nat.le_of_ble_eq_true rfl)⟩ [0, 1] [2] rfl rfl rfl ⟨by decide, by decide, by decide⟩ dL_law_255 (fun v w H locs hp hV => ?_)
  obtain ⟨rfl, rfl⟩ := hp
  have hV : Vx D A s.heap H locs [(om, .inr (7, fs))] := hV
  refine W.eq (g2 := F0 m 258 ls [.int (-1)]) rfl ?_
  refine lv_aload_n hx hb dL_law_258 rfl (lv_at hl 1 rfl) ?_
  refine lv_aload_n hx hb dL_law_259 rfl (lv_at hl 3 rfl) ?_
  refine lv_iload_n hx hb dL_law_260 rfl (lv_at hl 0 rfl) ?_
  refine lv_iconst (v := 1) hx hb dL_law_261 (by decide) ?_
  refine lv_iadd hx hb dL_law_262 ?_
  refine x_ev (y := 1) (by decide) ?_
  refine va_sld hx hb hX hbl (fun q => Nat.not_le.mpr hbl (hAs _ q)) hV.2.2 (by unfold vp_in; decide) dL_law_263 ?_
  refine x_ev (y := xs 1) rfl ?_
  refine lv_aload_n hx hb dL_law_264 rfl (lv_at hl 3 rfl) ?_
  refine lv_iload_n hx hb dL_law_265 rfl (lv_at hl 0 rfl) ?_
  refine lv_iconst (v := 2) hx hb dL_law_266 (by decide) ?_
  refine lv_iadd hx hb dL_law_267 ?_
  refine x_ev (y := 2) (by decide) ?_
  refine va_sld hx hb hX hbl (fun q => Nat.not_le.mpr hbl (hAs _ q)) hV.2.2 (by unfold vp_in; decide) dL_law_268 ?_
  refine x_ev (y := xs 2) rfl ?_
  refine lv_aload_n hx hb dL_law_269 rfl (lv_at hl 3 rfl) ?_
  refine lv_iload_n hx hb dL_law_270 rfl (lv_at hl 0 rfl) ?_
  refine lv_iconst (v := 3) hx hb dL_law_271 (by decide) ?_
  refine lv_iadd hx hb dL_law_272 ?_
  refine x_ev (y := 3) (by decide) ?_
  refine va_sld hx hb hX hbl (fun q => Nat.not_le.mpr hbl (hAs _ q)) hV.2.2 (by unfold vp_in; decide) dL_law_273 ?_
  refine x_ev (y := xs 3) rfl ?_
  refine x_callV (n := 3) (wr := []) (q0 := 0) (As := [.int (xs 1), .int (xs 2), .int (xs 3)]) (rest := [.int (-1)]) hB hV (x_N hB) hl.1 (m_mend l D cI cZ cS N0 om fs (xs 1) (xs 2) (xs 3) h0) rfl rfl k_995 k_65 k_992 k_993 k_994 (by decide +kernel) ⟨(Nat.le_of_ble_eq_true rfl), (Nat.le_of_ble_eq_true rfl)⟩ rfl (Nat.le_of_ble_eq_true rfl) ⟨(Nat.le_of_ble_eq_true rfl), (Nat.le_of_ble_eq_true rfl)⟩ [0] [] rfl rfl rfl ⟨by decide, by decide, by decide⟩ dL_law_274 (fun v w H locs hp hV => ?_)
  obtain ⟨rfl, rfl⟩ := hp
  have hV : Vx D A s.heap H locs [] := hV
  refine W.eq (g2 := F0 m 277 ls [.int (-1), .int (-1)]) rfl ?_
  refine lv_icmp_eq (tgt := 829) hx hb dL_law_277 (by decide) (fun c_ => ?_) (fun c_ => absurd (by decide) c_)
  exact law_tail hB hAs hX hbl hr (Nat.le_of_ble_eq_true rfl) (Nat.le_of_ble_eq_true rfl) hV (lv_sub hl [0, 3] rfl)
set_option maxHeartbeats 4000000 in
set_option maxRecDepth 100000 in
/-- hold -/
theorem law_4 {p : Program} {l : Launch} {e : Env} {s : State} {m : MethodId} {below : List Frame} {meth : Method} {c : Code} {D : va_G} {cI cZ cS : ClassId} {A : Nat → Prop} {N0 : NT} {b : Nat} {xs : Nat → Int32} {H : Heap} {locs : List Loc} {ls : Array Slot} (hB : Bx p s m meth c #[Value.ref b] code 4 RL D cI cZ cS A N0) (hAs : ∀ q, A q → s.heap.size ≤ q) (hX : va_X b 5 xs s s.heap) (hbl : b < s.heap.size) (hr : meth.sig.returnType = ret) (ox : Nat) (tp : Nat) (nw : Nat) (rw : Nat) (lg : Nat) (jd : Nat) (pr : Nat) (n1 : Nat) (n2 : Nat) (om : Nat) (fs : List Value) (h0 : fs[0]? = some (.int 0)) (hV : Vx D A s.heap H locs [(ox, .inr (6, [.ref tp, .ref nw, .ref rw, .ref lg, .ref jd, .ref pr, .int 0])), (nw, .inr (5, [.ref n1, .int 0, .int 0, .ref n2, .int 0, .int 0, .int 0, .int 0])), (om, .inr (7, fs))]) (hl : lv_has ls 4 [(3, .int 0), (2, .ref om), (1, .ref ox), (0, .ref b)]) : W p l e room_1 s m #[Value.ref b] below meth c H locs 397 43468 (lw_Z below #[Value.ref b] s) (F0 m 282 ls []) := by
  have hx := hB.1
  have hb := hB.2.1
  refine lv_aload_n hx hb dL_law_282 rfl (lv_at hl 2 rfl) ?_
  refine lv_aload_n hx hb dL_law_283 rfl (lv_at hl 3 rfl) ?_
  refine lv_iload_n hx hb dL_law_284 rfl (lv_at hl 0 rfl) ?_
  refine lv_iconst (v := 1) hx hb dL_law_285 (by decide) ?_
  refine lv_iadd hx hb dL_law_286 ?_
  refine x_ev (y := 1) (by decide) ?_
  refine va_sld hx hb hX hbl (fun q => Nat.not_le.mpr hbl (hAs _ q)) hV.2.2 (by unfold vp_in; decide) dL_law_287 ?_
  refine x_ev (y := xs 1) rfl ?_
  refine lv_aload_n hx hb dL_law_288 rfl (lv_at hl 3 rfl) ?_
  refine lv_iload_n hx hb dL_law_289 rfl (lv_at hl 0 rfl) ?_
  refine lv_iconst (v := 2) hx hb dL_law_290 (by decide) ?_
  refine lv_iadd hx hb dL_law_291 ?_
  refine x_ev (y := 2) (by decide) ?_
  refine va_sld hx hb hX hbl (fun q => Nat.not_le.mpr hbl (hAs _ q)) hV.2.2 (by unfold vp_in; decide) dL_law_292 ?_
  refine x_ev (y := xs 2) rfl ?_
  refine x_callV (n := 2) (wr := [(om, .inr (7, fs))]) (q0 := 0) (As := [.int (xs 1), .int (xs 2)]) (rest := []) hB hV (x_N hB) hl.1 (p_hold l D cI cZ cS N0 ox tp nw rw lg jd pr n1 n2 (xs 1) (xs 2) ) rfl rfl k_445 k_57 k_442 k_443 k_444 (by decide +kernel) ⟨(Nat.le_of_ble_eq_true rfl), (Nat.le_of_ble_eq_true rfl)⟩ rfl (Nat.le_of_ble_eq_true rfl) ⟨(Nat.le_of_ble_eq_true rfl), (Nat.le_of_ble_eq_true rfl)⟩ [0, 1] [2] rfl rfl rfl ⟨by decide, by decide, by decide⟩ dL_law_293 (fun v w H locs hp hV => ?_)
  obtain ⟨rfl, rfl⟩ := hp
  have hV : Vx D A s.heap H locs [(om, .inr (7, fs))] := hV
  refine W.eq (g2 := F0 m 296 ls [.int (-1)]) rfl ?_
  refine lv_aload_n hx hb dL_law_296 rfl (lv_at hl 1 rfl) ?_
  refine lv_aload_n hx hb dL_law_297 rfl (lv_at hl 3 rfl) ?_
  refine lv_iload_n hx hb dL_law_298 rfl (lv_at hl 0 rfl) ?_
  refine lv_iconst (v := 1) hx hb dL_law_299 (by decide) ?_
  refine lv_iadd hx hb dL_law_300 ?_
  refine x_ev (y := 1) (by decide) ?_
  refine va_sld hx hb hX hbl (fun q => Nat.not_le.mpr hbl (hAs _ q)) hV.2.2 (by unfold vp_in; decide) dL_law_301 ?_
  refine x_ev (y := xs 1) rfl ?_
  refine lv_aload_n hx hb dL_law_302 rfl (lv_at hl 3 rfl) ?_
  refine lv_iload_n hx hb dL_law_303 rfl (lv_at hl 0 rfl) ?_
  refine lv_iconst (v := 2) hx hb dL_law_304 (by decide) ?_
  refine lv_iadd hx hb dL_law_305 ?_
  refine x_ev (y := 2) (by decide) ?_
  refine va_sld hx hb hX hbl (fun q => Nat.not_le.mpr hbl (hAs _ q)) hV.2.2 (by unfold vp_in; decide) dL_law_306 ?_
  refine x_ev (y := xs 2) rfl ?_
  refine x_callV (n := 2) (wr := []) (q0 := 0) (As := [.int (xs 1), .int (xs 2)]) (rest := [.int (-1)]) hB hV (x_N hB) hl.1 (m_hold l D cI cZ cS N0 om fs (xs 1) (xs 2) h0) rfl rfl k_1003 k_65 k_1000 k_1001 k_1002 (by decide +kernel) ⟨(Nat.le_of_ble_eq_true rfl), (Nat.le_of_ble_eq_true rfl)⟩ rfl (Nat.le_of_ble_eq_true rfl) ⟨(Nat.le_of_ble_eq_true rfl), (Nat.le_of_ble_eq_true rfl)⟩ [0] [] rfl rfl rfl ⟨by decide, by decide, by decide⟩ dL_law_307 (fun v w H locs hp hV => ?_)
  obtain ⟨rfl, rfl⟩ := hp
  have hV : Vx D A s.heap H locs [] := hV
  refine W.eq (g2 := F0 m 310 ls [.int (-1), .int (-1)]) rfl ?_
  refine lv_icmp_eq (tgt := 829) hx hb dL_law_310 (by decide) (fun c_ => ?_) (fun c_ => absurd (by decide) c_)
  exact law_tail hB hAs hX hbl hr (Nat.le_of_ble_eq_true rfl) (Nat.le_of_ble_eq_true rfl) hV (lv_sub hl [0, 3] rfl)
set_option maxHeartbeats 4000000 in
set_option maxRecDepth 100000 in
/-- set -/
theorem law_5 {p : Program} {l : Launch} {e : Env} {s : State} {m : MethodId} {below : List Frame} {meth : Method} {c : Code} {D : va_G} {cI cZ cS : ClassId} {A : Nat → Prop} {N0 : NT} {b : Nat} {xs : Nat → Int32} {H : Heap} {locs : List Loc} {ls : Array Slot} (hB : Bx p s m meth c #[Value.ref b] code 4 RL D cI cZ cS A N0) (hAs : ∀ q, A q → s.heap.size ≤ q) (hX : va_X b 5 xs s s.heap) (hbl : b < s.heap.size) (hr : meth.sig.returnType = ret) (ox : Nat) (tp : Nat) (nw : Nat) (rw : Nat) (lg : Nat) (jd : Nat) (pr : Nat) (n1 : Nat) (n2 : Nat) (om : Nat) (fs : List Value) (h0 : fs[0]? = some (.int 0)) (hV : Vx D A s.heap H locs [(ox, .inr (6, [.ref tp, .ref nw, .ref rw, .ref lg, .ref jd, .ref pr, .int 0])), (nw, .inr (5, [.ref n1, .int 0, .int 0, .ref n2, .int 0, .int 0, .int 0, .int 0])), (om, .inr (7, fs))]) (hl : lv_has ls 4 [(3, .int 0), (2, .ref om), (1, .ref ox), (0, .ref b)]) : W p l e room_1 s m #[Value.ref b] below meth c H locs 397 43468 (lw_Z below #[Value.ref b] s) (F0 m 315 ls []) := by
  have hx := hB.1
  have hb := hB.2.1
  refine lv_aload_n hx hb dL_law_315 rfl (lv_at hl 2 rfl) ?_
  refine lv_aload_n hx hb dL_law_316 rfl (lv_at hl 3 rfl) ?_
  refine lv_iload_n hx hb dL_law_317 rfl (lv_at hl 0 rfl) ?_
  refine lv_iconst (v := 1) hx hb dL_law_318 (by decide) ?_
  refine lv_iadd hx hb dL_law_319 ?_
  refine x_ev (y := 1) (by decide) ?_
  refine va_sld hx hb hX hbl (fun q => Nat.not_le.mpr hbl (hAs _ q)) hV.2.2 (by unfold vp_in; decide) dL_law_320 ?_
  refine x_ev (y := xs 1) rfl ?_
  refine lv_aload_n hx hb dL_law_321 rfl (lv_at hl 3 rfl) ?_
  refine lv_iload_n hx hb dL_law_322 rfl (lv_at hl 0 rfl) ?_
  refine lv_iconst (v := 2) hx hb dL_law_323 (by decide) ?_
  refine lv_iadd hx hb dL_law_324 ?_
  refine x_ev (y := 2) (by decide) ?_
  refine va_sld hx hb hX hbl (fun q => Nat.not_le.mpr hbl (hAs _ q)) hV.2.2 (by unfold vp_in; decide) dL_law_325 ?_
  refine x_ev (y := xs 2) rfl ?_
  refine lv_aload_n hx hb dL_law_326 rfl (lv_at hl 3 rfl) ?_
  refine lv_iload_n hx hb dL_law_327 rfl (lv_at hl 0 rfl) ?_
  refine lv_iconst (v := 3) hx hb dL_law_328 (by decide) ?_
  refine lv_iadd hx hb dL_law_329 ?_
  refine x_ev (y := 3) (by decide) ?_
  refine va_sld hx hb hX hbl (fun q => Nat.not_le.mpr hbl (hAs _ q)) hV.2.2 (by unfold vp_in; decide) dL_law_330 ?_
  refine x_ev (y := xs 3) rfl ?_
  refine x_callV (n := 3) (wr := [(om, .inr (7, fs))]) (q0 := 0) (As := [.int (xs 1), .int (xs 2), .int (xs 3)]) (rest := []) hB hV (x_N hB) hl.1 (p_set l D cI cZ cS N0 ox tp nw rw lg jd pr n1 n2 (xs 1) (xs 2) (xs 3) ) rfl rfl k_449 k_57 k_446 k_447 k_448 (by decide +kernel) ⟨(Nat.le_of_ble_eq_true rfl), (Nat.le_of_ble_eq_true rfl)⟩ rfl (Nat.le_of_ble_eq_true rfl) ⟨(Nat.le_of_ble_eq_true rfl), (Nat.le_of_ble_eq_true rfl)⟩ [0, 1] [2] rfl rfl rfl ⟨by decide, by decide, by decide⟩ dL_law_331 (fun v w H locs hp hV => ?_)
  obtain ⟨rfl, rfl⟩ := hp
  have hV : Vx D A s.heap H locs [(om, .inr (7, fs))] := hV
  refine W.eq (g2 := F0 m 334 ls [.int (-1)]) rfl ?_
  refine lv_aload_n hx hb dL_law_334 rfl (lv_at hl 1 rfl) ?_
  refine lv_aload_n hx hb dL_law_335 rfl (lv_at hl 3 rfl) ?_
  refine lv_iload_n hx hb dL_law_336 rfl (lv_at hl 0 rfl) ?_
  refine lv_iconst (v := 1) hx hb dL_law_337 (by decide) ?_
  refine lv_iadd hx hb dL_law_338 ?_
  refine x_ev (y := 1) (by decide) ?_
  refine va_sld hx hb hX hbl (fun q => Nat.not_le.mpr hbl (hAs _ q)) hV.2.2 (by unfold vp_in; decide) dL_law_339 ?_
  refine x_ev (y := xs 1) rfl ?_
  refine lv_aload_n hx hb dL_law_340 rfl (lv_at hl 3 rfl) ?_
  refine lv_iload_n hx hb dL_law_341 rfl (lv_at hl 0 rfl) ?_
  refine lv_iconst (v := 2) hx hb dL_law_342 (by decide) ?_
  refine lv_iadd hx hb dL_law_343 ?_
  refine x_ev (y := 2) (by decide) ?_
  refine va_sld hx hb hX hbl (fun q => Nat.not_le.mpr hbl (hAs _ q)) hV.2.2 (by unfold vp_in; decide) dL_law_344 ?_
  refine x_ev (y := xs 2) rfl ?_
  refine lv_aload_n hx hb dL_law_345 rfl (lv_at hl 3 rfl) ?_
  refine lv_iload_n hx hb dL_law_346 rfl (lv_at hl 0 rfl) ?_
  refine lv_iconst (v := 3) hx hb dL_law_347 (by decide) ?_
  refine lv_iadd hx hb dL_law_348 ?_
  refine x_ev (y := 3) (by decide) ?_
  refine va_sld hx hb hX hbl (fun q => Nat.not_le.mpr hbl (hAs _ q)) hV.2.2 (by unfold vp_in; decide) dL_law_349 ?_
  refine x_ev (y := xs 3) rfl ?_
  refine x_callV (n := 3) (wr := []) (q0 := 0) (As := [.int (xs 1), .int (xs 2), .int (xs 3)]) (rest := [.int (-1)]) hB hV (x_N hB) hl.1 (m_set l D cI cZ cS N0 om fs (xs 1) (xs 2) (xs 3) h0) rfl rfl k_1007 k_65 k_1004 k_1005 k_1006 (by decide +kernel) ⟨(Nat.le_of_ble_eq_true rfl), (Nat.le_of_ble_eq_true rfl)⟩ rfl (Nat.le_of_ble_eq_true rfl) ⟨(Nat.le_of_ble_eq_true rfl), (Nat.le_of_ble_eq_true rfl)⟩ [0] [] rfl rfl rfl ⟨by decide, by decide, by decide⟩ dL_law_350 (fun v w H locs hp hV => ?_)
  obtain ⟨rfl, rfl⟩ := hp
  have hV : Vx D A s.heap H locs [] := hV
  refine W.eq (g2 := F0 m 353 ls [.int (-1), .int (-1)]) rfl ?_
  refine lv_icmp_eq (tgt := 829) hx hb dL_law_353 (by decide) (fun c_ => ?_) (fun c_ => absurd (by decide) c_)
  exact law_tail hB hAs hX hbl hr (Nat.le_of_ble_eq_true rfl) (Nat.le_of_ble_eq_true rfl) hV (lv_sub hl [0, 3] rfl)
set_option maxHeartbeats 4000000 in
set_option maxRecDepth 100000 in
/-- about -/
theorem law_6 {p : Program} {l : Launch} {e : Env} {s : State} {m : MethodId} {below : List Frame} {meth : Method} {c : Code} {D : va_G} {cI cZ cS : ClassId} {A : Nat → Prop} {N0 : NT} {b : Nat} {xs : Nat → Int32} {H : Heap} {locs : List Loc} {ls : Array Slot} (hB : Bx p s m meth c #[Value.ref b] code 4 RL D cI cZ cS A N0) (hAs : ∀ q, A q → s.heap.size ≤ q) (hX : va_X b 5 xs s s.heap) (hbl : b < s.heap.size) (hr : meth.sig.returnType = ret) (ox : Nat) (tp : Nat) (nw : Nat) (rw : Nat) (lg : Nat) (jd : Nat) (pr : Nat) (n1 : Nat) (n2 : Nat) (om : Nat) (fs : List Value) (h0 : fs[0]? = some (.int 0)) (hV : Vx D A s.heap H locs [(ox, .inr (6, [.ref tp, .ref nw, .ref rw, .ref lg, .ref jd, .ref pr, .int 0])), (nw, .inr (5, [.ref n1, .int 0, .int 0, .ref n2, .int 0, .int 0, .int 0, .int 0])), (om, .inr (7, fs))]) (hl : lv_has ls 4 [(3, .int 0), (2, .ref om), (1, .ref ox), (0, .ref b)]) : W p l e room_1 s m #[Value.ref b] below meth c H locs 397 43468 (lw_Z below #[Value.ref b] s) (F0 m 358 ls []) := by
  have hx := hB.1
  have hb := hB.2.1
  refine lv_aload_n hx hb dL_law_358 rfl (lv_at hl 2 rfl) ?_
  refine lv_aload_n hx hb dL_law_359 rfl (lv_at hl 3 rfl) ?_
  refine lv_iload_n hx hb dL_law_360 rfl (lv_at hl 0 rfl) ?_
  refine lv_iconst (v := 1) hx hb dL_law_361 (by decide) ?_
  refine lv_iadd hx hb dL_law_362 ?_
  refine x_ev (y := 1) (by decide) ?_
  refine va_sld hx hb hX hbl (fun q => Nat.not_le.mpr hbl (hAs _ q)) hV.2.2 (by unfold vp_in; decide) dL_law_363 ?_
  refine x_ev (y := xs 1) rfl ?_
  refine lv_aload_n hx hb dL_law_364 rfl (lv_at hl 3 rfl) ?_
  refine lv_iload_n hx hb dL_law_365 rfl (lv_at hl 0 rfl) ?_
  refine lv_iconst (v := 2) hx hb dL_law_366 (by decide) ?_
  refine lv_iadd hx hb dL_law_367 ?_
  refine x_ev (y := 2) (by decide) ?_
  refine va_sld hx hb hX hbl (fun q => Nat.not_le.mpr hbl (hAs _ q)) hV.2.2 (by unfold vp_in; decide) dL_law_368 ?_
  refine x_ev (y := xs 2) rfl ?_
  refine x_callV (n := 2) (wr := [(om, .inr (7, fs))]) (q0 := 0) (As := [.int (xs 1), .int (xs 2)]) (rest := []) hB hV (x_N hB) hl.1 (p_about l D cI cZ cS N0 ox tp nw rw lg jd pr n1 n2 (xs 1) (xs 2) ) rfl rfl k_453 k_57 k_450 k_451 k_452 (by decide +kernel) ⟨(Nat.le_of_ble_eq_true rfl), (Nat.le_of_ble_eq_true rfl)⟩ rfl (Nat.le_of_ble_eq_true rfl) ⟨(Nat.le_of_ble_eq_true rfl), (Nat.le_of_ble_eq_true rfl)⟩ [0, 1] [2] rfl rfl rfl ⟨by decide, by decide, by decide⟩ dL_law_369 (fun v w H locs hp hV => ?_)
  obtain ⟨rfl, rfl⟩ := hp
  have hV : Vx D A s.heap H locs [(om, .inr (7, fs))] := hV
  refine W.eq (g2 := F0 m 372 ls [.int (-1)]) rfl ?_
  refine lv_aload_n hx hb dL_law_372 rfl (lv_at hl 1 rfl) ?_
  refine lv_aload_n hx hb dL_law_373 rfl (lv_at hl 3 rfl) ?_
  refine lv_iload_n hx hb dL_law_374 rfl (lv_at hl 0 rfl) ?_
  refine lv_iconst (v := 1) hx hb dL_law_375 (by decide) ?_
  refine lv_iadd hx hb dL_law_376 ?_
  refine x_ev (y := 1) (by decide) ?_
  refine va_sld hx hb hX hbl (fun q => Nat.not_le.mpr hbl (hAs _ q)) hV.2.2 (by unfold vp_in; decide) dL_law_377 ?_
  refine x_ev (y := xs 1) rfl ?_
  refine lv_aload_n hx hb dL_law_378 rfl (lv_at hl 3 rfl) ?_
  refine lv_iload_n hx hb dL_law_379 rfl (lv_at hl 0 rfl) ?_
  refine lv_iconst (v := 2) hx hb dL_law_380 (by decide) ?_
  refine lv_iadd hx hb dL_law_381 ?_
  refine x_ev (y := 2) (by decide) ?_
  refine va_sld hx hb hX hbl (fun q => Nat.not_le.mpr hbl (hAs _ q)) hV.2.2 (by unfold vp_in; decide) dL_law_382 ?_
  refine x_ev (y := xs 2) rfl ?_
  refine x_callV (n := 2) (wr := []) (q0 := 0) (As := [.int (xs 1), .int (xs 2)]) (rest := [.int (-1)]) hB hV (x_N hB) hl.1 (m_about l D cI cZ cS N0 om fs (xs 1) (xs 2) h0) rfl rfl k_1011 k_65 k_1008 k_1009 k_1010 (by decide +kernel) ⟨(Nat.le_of_ble_eq_true rfl), (Nat.le_of_ble_eq_true rfl)⟩ rfl (Nat.le_of_ble_eq_true rfl) ⟨(Nat.le_of_ble_eq_true rfl), (Nat.le_of_ble_eq_true rfl)⟩ [0] [] rfl rfl rfl ⟨by decide, by decide, by decide⟩ dL_law_383 (fun v w H locs hp hV => ?_)
  obtain ⟨rfl, rfl⟩ := hp
  have hV : Vx D A s.heap H locs [] := hV
  refine W.eq (g2 := F0 m 386 ls [.int (-1), .int (-1)]) rfl ?_
  refine lv_icmp_eq (tgt := 829) hx hb dL_law_386 (by decide) (fun c_ => ?_) (fun c_ => absurd (by decide) c_)
  exact law_tail hB hAs hX hbl hr (Nat.le_of_ble_eq_true rfl) (Nat.le_of_ble_eq_true rfl) hV (lv_sub hl [0, 3] rfl)
set_option maxHeartbeats 4000000 in
set_option maxRecDepth 100000 in
/-- act -/
theorem law_7 {p : Program} {l : Launch} {e : Env} {s : State} {m : MethodId} {below : List Frame} {meth : Method} {c : Code} {D : va_G} {cI cZ cS : ClassId} {A : Nat → Prop} {N0 : NT} {b : Nat} {xs : Nat → Int32} {H : Heap} {locs : List Loc} {ls : Array Slot} (hB : Bx p s m meth c #[Value.ref b] code 4 RL D cI cZ cS A N0) (hAs : ∀ q, A q → s.heap.size ≤ q) (hX : va_X b 5 xs s s.heap) (hbl : b < s.heap.size) (hr : meth.sig.returnType = ret) (ox : Nat) (tp : Nat) (nw : Nat) (rw : Nat) (lg : Nat) (jd : Nat) (pr : Nat) (n1 : Nat) (n2 : Nat) (om : Nat) (fs : List Value) (h0 : fs[0]? = some (.int 0)) (hV : Vx D A s.heap H locs [(ox, .inr (6, [.ref tp, .ref nw, .ref rw, .ref lg, .ref jd, .ref pr, .int 0])), (nw, .inr (5, [.ref n1, .int 0, .int 0, .ref n2, .int 0, .int 0, .int 0, .int 0])), (om, .inr (7, fs))]) (hl : lv_has ls 4 [(3, .int 0), (2, .ref om), (1, .ref ox), (0, .ref b)]) : W p l e room_1 s m #[Value.ref b] below meth c H locs 397 43468 (lw_Z below #[Value.ref b] s) (F0 m 391 ls []) := by
  have hx := hB.1
  have hb := hB.2.1
  refine lv_aload_n hx hb dL_law_391 rfl (lv_at hl 2 rfl) ?_
  refine lv_aload_n hx hb dL_law_392 rfl (lv_at hl 3 rfl) ?_
  refine lv_iload_n hx hb dL_law_393 rfl (lv_at hl 0 rfl) ?_
  refine lv_iconst (v := 1) hx hb dL_law_394 (by decide) ?_
  refine lv_iadd hx hb dL_law_395 ?_
  refine x_ev (y := 1) (by decide) ?_
  refine va_sld hx hb hX hbl (fun q => Nat.not_le.mpr hbl (hAs _ q)) hV.2.2 (by unfold vp_in; decide) dL_law_396 ?_
  refine x_ev (y := xs 1) rfl ?_
  refine lv_aload_n hx hb dL_law_397 rfl (lv_at hl 3 rfl) ?_
  refine lv_iload_n hx hb dL_law_398 rfl (lv_at hl 0 rfl) ?_
  refine lv_iconst (v := 2) hx hb dL_law_399 (by decide) ?_
  refine lv_iadd hx hb dL_law_400 ?_
  refine x_ev (y := 2) (by decide) ?_
  refine va_sld hx hb hX hbl (fun q => Nat.not_le.mpr hbl (hAs _ q)) hV.2.2 (by unfold vp_in; decide) dL_law_401 ?_
  refine x_ev (y := xs 2) rfl ?_
  refine lv_aload_n hx hb dL_law_402 rfl (lv_at hl 3 rfl) ?_
  refine lv_iload_n hx hb dL_law_403 rfl (lv_at hl 0 rfl) ?_
  refine lv_iconst (v := 3) hx hb dL_law_404 (by decide) ?_
  refine lv_iadd hx hb dL_law_405 ?_
  refine x_ev (y := 3) (by decide) ?_
  refine va_sld hx hb hX hbl (fun q => Nat.not_le.mpr hbl (hAs _ q)) hV.2.2 (by unfold vp_in; decide) dL_law_406 ?_
  refine x_ev (y := xs 3) rfl ?_
  refine x_callV (n := 3) (wr := [(om, .inr (7, fs))]) (q0 := 0) (As := [.int (xs 1), .int (xs 2), .int (xs 3)]) (rest := []) hB hV (x_N hB) hl.1 (p_act l D cI cZ cS N0 ox tp nw rw lg jd pr n1 n2 (xs 1) (xs 2) (xs 3) ) rfl rfl k_481 k_57 k_478 k_479 k_480 (by decide +kernel) ⟨(Nat.le_of_ble_eq_true rfl), (Nat.le_of_ble_eq_true rfl)⟩ rfl (Nat.le_of_ble_eq_true rfl) ⟨(Nat.le_of_ble_eq_true rfl), (Nat.le_of_ble_eq_true rfl)⟩ [0, 1] [2] rfl rfl rfl ⟨by decide, by decide, by decide⟩ dL_law_407 (fun v w H locs hp hV => ?_)
  obtain ⟨rfl, rfl⟩ := hp
  have hV : Vx D A s.heap H locs [(om, .inr (7, fs))] := hV
  refine W.eq (g2 := F0 m 410 ls [.int (-1)]) rfl ?_
  refine lv_aload_n hx hb dL_law_410 rfl (lv_at hl 1 rfl) ?_
  refine lv_aload_n hx hb dL_law_411 rfl (lv_at hl 3 rfl) ?_
  refine lv_iload_n hx hb dL_law_412 rfl (lv_at hl 0 rfl) ?_
  refine lv_iconst (v := 1) hx hb dL_law_413 (by decide) ?_
  refine lv_iadd hx hb dL_law_414 ?_
  refine x_ev (y := 1) (by decide) ?_
  refine va_sld hx hb hX hbl (fun q => Nat.not_le.mpr hbl (hAs _ q)) hV.2.2 (by unfold vp_in; decide) dL_law_415 ?_
  refine x_ev (y := xs 1) rfl ?_
  refine lv_aload_n hx hb dL_law_416 rfl (lv_at hl 3 rfl) ?_
  refine lv_iload_n hx hb dL_law_417 rfl (lv_at hl 0 rfl) ?_
  refine lv_iconst (v := 2) hx hb dL_law_418 (by decide) ?_
  refine lv_iadd hx hb dL_law_419 ?_
  refine x_ev (y := 2) (by decide) ?_
  refine va_sld hx hb hX hbl (fun q => Nat.not_le.mpr hbl (hAs _ q)) hV.2.2 (by unfold vp_in; decide) dL_law_420 ?_
  refine x_ev (y := xs 2) rfl ?_
  refine lv_aload_n hx hb dL_law_421 rfl (lv_at hl 3 rfl) ?_
  refine lv_iload_n hx hb dL_law_422 rfl (lv_at hl 0 rfl) ?_
  refine lv_iconst (v := 3) hx hb dL_law_423 (by decide) ?_
  refine lv_iadd hx hb dL_law_424 ?_
  refine x_ev (y := 3) (by decide) ?_
  refine va_sld hx hb hX hbl (fun q => Nat.not_le.mpr hbl (hAs _ q)) hV.2.2 (by unfold vp_in; decide) dL_law_425 ?_
  refine x_ev (y := xs 3) rfl ?_
  refine x_callV (n := 3) (wr := []) (q0 := 0) (As := [.int (xs 1), .int (xs 2), .int (xs 3)]) (rest := [.int (-1)]) hB hV (x_N hB) hl.1 (m_act l D cI cZ cS N0 om fs (xs 1) (xs 2) (xs 3) h0) rfl rfl k_1027 k_65 k_1024 k_1025 k_1026 (by decide +kernel) ⟨(Nat.le_of_ble_eq_true rfl), (Nat.le_of_ble_eq_true rfl)⟩ rfl (Nat.le_of_ble_eq_true rfl) ⟨(Nat.le_of_ble_eq_true rfl), (Nat.le_of_ble_eq_true rfl)⟩ [0] [] rfl rfl rfl ⟨by decide, by decide, by decide⟩ dL_law_426 (fun v w H locs hp hV => ?_)
  obtain ⟨rfl, rfl⟩ := hp
  have hV : Vx D A s.heap H locs [] := hV
  refine W.eq (g2 := F0 m 429 ls [.int (-1), .int (-1)]) rfl ?_
  refine lv_icmp_eq (tgt := 829) hx hb dL_law_429 (by decide) (fun c_ => ?_) (fun c_ => absurd (by decide) c_)
  exact law_tail hB hAs hX hbl hr (Nat.le_of_ble_eq_true rfl) (Nat.le_of_ble_eq_true rfl) hV (lv_sub hl [0, 3] rfl)
set_option maxHeartbeats 4000000 in
set_option maxRecDepth 100000 in
/-- call -/
theorem law_8 {p : Program} {l : Launch} {e : Env} {s : State} {m : MethodId} {below : List Frame} {meth : Method} {c : Code} {D : va_G} {cI cZ cS : ClassId} {A : Nat → Prop} {N0 : NT} {b : Nat} {xs : Nat → Int32} {H : Heap} {locs : List Loc} {ls : Array Slot} (hB : Bx p s m meth c #[Value.ref b] code 4 RL D cI cZ cS A N0) (hAs : ∀ q, A q → s.heap.size ≤ q) (hX : va_X b 5 xs s s.heap) (hbl : b < s.heap.size) (hr : meth.sig.returnType = ret) (ox : Nat) (tp : Nat) (nw : Nat) (rw : Nat) (lg : Nat) (jd : Nat) (pr : Nat) (n1 : Nat) (n2 : Nat) (om : Nat) (fs : List Value) (h0 : fs[0]? = some (.int 0)) (hV : Vx D A s.heap H locs [(ox, .inr (6, [.ref tp, .ref nw, .ref rw, .ref lg, .ref jd, .ref pr, .int 0])), (nw, .inr (5, [.ref n1, .int 0, .int 0, .ref n2, .int 0, .int 0, .int 0, .int 0])), (om, .inr (7, fs))]) (hl : lv_has ls 4 [(3, .int 0), (2, .ref om), (1, .ref ox), (0, .ref b)]) : W p l e room_1 s m #[Value.ref b] below meth c H locs 397 43468 (lw_Z below #[Value.ref b] s) (F0 m 434 ls []) := by
  have hx := hB.1
  have hb := hB.2.1
  refine lv_aload_n hx hb dL_law_434 rfl (lv_at hl 2 rfl) ?_
  refine lv_aload_n hx hb dL_law_435 rfl (lv_at hl 3 rfl) ?_
  refine lv_iload_n hx hb dL_law_436 rfl (lv_at hl 0 rfl) ?_
  refine lv_iconst (v := 1) hx hb dL_law_437 (by decide) ?_
  refine lv_iadd hx hb dL_law_438 ?_
  refine x_ev (y := 1) (by decide) ?_
  refine va_sld hx hb hX hbl (fun q => Nat.not_le.mpr hbl (hAs _ q)) hV.2.2 (by unfold vp_in; decide) dL_law_439 ?_
  refine x_ev (y := xs 1) rfl ?_
  refine lv_aload_n hx hb dL_law_440 rfl (lv_at hl 3 rfl) ?_
  refine lv_iload_n hx hb dL_law_441 rfl (lv_at hl 0 rfl) ?_
  refine lv_iconst (v := 2) hx hb dL_law_442 (by decide) ?_
  refine lv_iadd hx hb dL_law_443 ?_
  refine x_ev (y := 2) (by decide) ?_
  refine va_sld hx hb hX hbl (fun q => Nat.not_le.mpr hbl (hAs _ q)) hV.2.2 (by unfold vp_in; decide) dL_law_444 ?_
  refine x_ev (y := xs 2) rfl ?_
  refine lv_aload_n hx hb dL_law_445 rfl (lv_at hl 3 rfl) ?_
  refine lv_iload_n hx hb dL_law_446 rfl (lv_at hl 0 rfl) ?_
  refine lv_iconst (v := 3) hx hb dL_law_447 (by decide) ?_
  refine lv_iadd hx hb dL_law_448 ?_
  refine x_ev (y := 3) (by decide) ?_
  refine va_sld hx hb hX hbl (fun q => Nat.not_le.mpr hbl (hAs _ q)) hV.2.2 (by unfold vp_in; decide) dL_law_449 ?_
  refine x_ev (y := xs 3) rfl ?_
  refine lv_aload_n hx hb dL_law_450 rfl (lv_at hl 3 rfl) ?_
  refine lv_iload_n hx hb dL_law_451 rfl (lv_at hl 0 rfl) ?_
  refine lv_iconst (v := 4) hx hb dL_law_452 (by decide) ?_
  refine lv_iadd hx hb dL_law_453 ?_
  refine x_ev (y := 4) (by decide) ?_
  refine va_sld hx hb hX hbl (fun q => Nat.not_le.mpr hbl (hAs _ q)) hV.2.2 (by unfold vp_in; decide) dL_law_454 ?_
  refine x_ev (y := xs 4) rfl ?_
  refine x_callV (n := 4) (wr := [(om, .inr (7, fs))]) (q0 := 0) (As := [.int (xs 1), .int (xs 2), .int (xs 3), .int (xs 4)]) (rest := []) hB hV (x_N hB) hl.1 (p_call l D cI cZ cS N0 ox tp nw rw lg jd pr n1 n2 (xs 1) (xs 2) (xs 3) (xs 4) ) rfl rfl k_485 k_57 k_482 k_483 k_484 (by decide +kernel) ⟨(Nat.le_of_ble_eq_true rfl), (Nat.le_of_ble_eq_true rfl)⟩ rfl (Nat.le_of_ble_eq_true rfl) ⟨(Nat.le_of_ble_eq_true rfl), (Nat.le_of_ble_eq_true rfl)⟩ [0, 1] [2] rfl rfl rfl ⟨by decide, by decide, by decide⟩ dL_law_455 (fun v w H locs hp hV => ?_)
  obtain ⟨rfl, rfl⟩ := hp
  have hV : Vx D A s.heap H locs [(om, .inr (7, fs))] := hV
  refine W.eq (g2 := F0 m 458 ls [.int (-3)]) rfl ?_
  refine lv_aload_n hx hb dL_law_458 rfl (lv_at hl 1 rfl) ?_
  refine lv_aload_n hx hb dL_law_459 rfl (lv_at hl 3 rfl) ?_
  refine lv_iload_n hx hb dL_law_460 rfl (lv_at hl 0 rfl) ?_
  refine lv_iconst (v := 1) hx hb dL_law_461 (by decide) ?_
  refine lv_iadd hx hb dL_law_462 ?_
  refine x_ev (y := 1) (by decide) ?_
  refine va_sld hx hb hX hbl (fun q => Nat.not_le.mpr hbl (hAs _ q)) hV.2.2 (by unfold vp_in; decide) dL_law_463 ?_
  refine x_ev (y := xs 1) rfl ?_
  refine lv_aload_n hx hb dL_law_464 rfl (lv_at hl 3 rfl) ?_
  refine lv_iload_n hx hb dL_law_465 rfl (lv_at hl 0 rfl) ?_
  refine lv_iconst (v := 2) hx hb dL_law_466 (by decide) ?_
  refine lv_iadd hx hb dL_law_467 ?_
  refine x_ev (y := 2) (by decide) ?_
  refine va_sld hx hb hX hbl (fun q => Nat.not_le.mpr hbl (hAs _ q)) hV.2.2 (by unfold vp_in; decide) dL_law_468 ?_
  refine x_ev (y := xs 2) rfl ?_
  refine lv_aload_n hx hb dL_law_469 rfl (lv_at hl 3 rfl) ?_
  refine lv_iload_n hx hb dL_law_470 rfl (lv_at hl 0 rfl) ?_
  refine lv_iconst (v := 3) hx hb dL_law_471 (by decide) ?_
  refine lv_iadd hx hb dL_law_472 ?_
  refine x_ev (y := 3) (by decide) ?_
  refine va_sld hx hb hX hbl (fun q => Nat.not_le.mpr hbl (hAs _ q)) hV.2.2 (by unfold vp_in; decide) dL_law_473 ?_
  refine x_ev (y := xs 3) rfl ?_
  refine lv_aload_n hx hb dL_law_474 rfl (lv_at hl 3 rfl) ?_
  refine lv_iload_n hx hb dL_law_475 rfl (lv_at hl 0 rfl) ?_
  refine lv_iconst (v := 4) hx hb dL_law_476 (by decide) ?_
  refine lv_iadd hx hb dL_law_477 ?_
  refine x_ev (y := 4) (by decide) ?_
  refine va_sld hx hb hX hbl (fun q => Nat.not_le.mpr hbl (hAs _ q)) hV.2.2 (by unfold vp_in; decide) dL_law_478 ?_
  refine x_ev (y := xs 4) rfl ?_
  refine x_callV (n := 4) (wr := []) (q0 := 0) (As := [.int (xs 1), .int (xs 2), .int (xs 3), .int (xs 4)]) (rest := [.int (-3)]) hB hV (x_N hB) hl.1 (m_call l D cI cZ cS N0 om fs (xs 1) (xs 2) (xs 3) (xs 4) h0) rfl rfl k_1031 k_65 k_1028 k_1029 k_1030 (by decide +kernel) ⟨(Nat.le_of_ble_eq_true rfl), (Nat.le_of_ble_eq_true rfl)⟩ rfl (Nat.le_of_ble_eq_true rfl) ⟨(Nat.le_of_ble_eq_true rfl), (Nat.le_of_ble_eq_true rfl)⟩ [0] [] rfl rfl rfl ⟨by decide, by decide, by decide⟩ dL_law_479 (fun v w H locs hp hV => ?_)
  obtain ⟨rfl, rfl⟩ := hp
  have hV : Vx D A s.heap H locs [] := hV
  refine W.eq (g2 := F0 m 482 ls [.int (-3), .int (-3)]) rfl ?_
  refine lv_icmp_eq (tgt := 829) hx hb dL_law_482 (by decide) (fun c_ => ?_) (fun c_ => absurd (by decide) c_)
  exact law_tail hB hAs hX hbl hr (Nat.le_of_ble_eq_true rfl) (Nat.le_of_ble_eq_true rfl) hV (lv_sub hl [0, 3] rfl)
set_option maxHeartbeats 4000000 in
set_option maxRecDepth 100000 in
/-- outside -/
theorem law_9 {p : Program} {l : Launch} {e : Env} {s : State} {m : MethodId} {below : List Frame} {meth : Method} {c : Code} {D : va_G} {cI cZ cS : ClassId} {A : Nat → Prop} {N0 : NT} {b : Nat} {xs : Nat → Int32} {H : Heap} {locs : List Loc} {ls : Array Slot} (hB : Bx p s m meth c #[Value.ref b] code 4 RL D cI cZ cS A N0) (hAs : ∀ q, A q → s.heap.size ≤ q) (hX : va_X b 5 xs s s.heap) (hbl : b < s.heap.size) (hr : meth.sig.returnType = ret) (ox : Nat) (tp : Nat) (nw : Nat) (rw : Nat) (lg : Nat) (jd : Nat) (pr : Nat) (n1 : Nat) (n2 : Nat) (om : Nat) (fs : List Value) (h22 : fs[22]? = some (.int 0)) (hV : Vx D A s.heap H locs [(ox, .inr (6, [.ref tp, .ref nw, .ref rw, .ref lg, .ref jd, .ref pr, .int 0])), (nw, .inr (5, [.ref n1, .int 0, .int 0, .ref n2, .int 0, .int 0, .int 0, .int 0])), (om, .inr (7, fs))]) (hl : lv_has ls 4 [(3, .int 0), (2, .ref om), (1, .ref ox), (0, .ref b)]) : W p l e room_1 s m #[Value.ref b] below meth c H locs 397 43468 (lw_Z below #[Value.ref b] s) (F0 m 487 ls []) := by
  have hx := hB.1
  have hb := hB.2.1
  refine lv_aload_n hx hb dL_law_487 rfl (lv_at hl 2 rfl) ?_
  refine lv_aload_n hx hb dL_law_488 rfl (lv_at hl 3 rfl) ?_
  refine lv_iload_n hx hb dL_law_489 rfl (lv_at hl 0 rfl) ?_
  refine lv_iconst (v := 1) hx hb dL_law_490 (by decide) ?_
  refine lv_iadd hx hb dL_law_491 ?_
  refine x_ev (y := 1) (by decide) ?_
  refine va_sld hx hb hX hbl (fun q => Nat.not_le.mpr hbl (hAs _ q)) hV.2.2 (by unfold vp_in; decide) dL_law_492 ?_
  refine x_ev (y := xs 1) rfl ?_
  refine x_callV (n := 1) (wr := [(om, .inr (7, fs))]) (q0 := 0) (As := [.int (xs 1)]) (rest := []) hB hV (x_N hB) hl.1 (p_outside l D cI cZ cS N0 ox tp nw rw lg jd pr n1 n2 (xs 1) ) rfl rfl k_558 k_57 k_555 k_556 k_557 (by decide +kernel) ⟨(Nat.le_of_ble_eq_true rfl), (Nat.le_of_ble_eq_true rfl)⟩ rfl (Nat.le_of_ble_eq_true rfl) ⟨(Nat.le_of_ble_eq_true rfl), (Nat.le_of_ble_eq_true rfl)⟩ [0, 1] [2] rfl rfl rfl ⟨by decide, by decide, by decide⟩ dL_law_493 (fun v w H locs hp hV => ?_)
  obtain ⟨rfl, rfl⟩ := hp
  have hV : Vx D A s.heap H locs [(om, .inr (7, fs))] := hV
  refine W.eq (g2 := F0 m 496 ls [.int (-1)]) rfl ?_
  refine lv_aload_n hx hb dL_law_496 rfl (lv_at hl 1 rfl) ?_
  refine lv_aload_n hx hb dL_law_497 rfl (lv_at hl 3 rfl) ?_
  refine lv_iload_n hx hb dL_law_498 rfl (lv_at hl 0 rfl) ?_
  refine lv_iconst (v := 1) hx hb dL_law_499 (by decide) ?_
  refine lv_iadd hx hb dL_law_500 ?_
  refine x_ev (y := 1) (by decide) ?_
  refine va_sld hx hb hX hbl (fun q => Nat.not_le.mpr hbl (hAs _ q)) hV.2.2 (by unfold vp_in; decide) dL_law_501 ?_
  refine x_ev (y := xs 1) rfl ?_
  refine x_callV (n := 1) (wr := []) (q0 := 0) (As := [.int (xs 1)]) (rest := [.int (-1)]) hB hV (x_N hB) hl.1 (m_outside l D cI cZ cS N0 om fs (xs 1) h22) rfl rfl k_1083 k_65 k_1080 k_1081 k_1082 (by decide +kernel) ⟨(Nat.le_of_ble_eq_true rfl), (Nat.le_of_ble_eq_true rfl)⟩ rfl (Nat.le_of_ble_eq_true rfl) ⟨(Nat.le_of_ble_eq_true rfl), (Nat.le_of_ble_eq_true rfl)⟩ [0] [] rfl rfl rfl ⟨by decide, by decide, by decide⟩ dL_law_502 (fun v w H locs hp hV => ?_)
  obtain ⟨rfl, rfl⟩ := hp
  have hV : Vx D A s.heap H locs [] := hV
  refine W.eq (g2 := F0 m 505 ls [.int (-1), .int (-1)]) rfl ?_
  refine lv_icmp_eq (tgt := 829) hx hb dL_law_505 (by decide) (fun c_ => ?_) (fun c_ => absurd (by decide) c_)
  exact law_tail hB hAs hX hbl hr (Nat.le_of_ble_eq_true rfl) (Nat.le_of_ble_eq_true rfl) hV (lv_sub hl [0, 3] rfl)
set_option maxHeartbeats 4000000 in
set_option maxRecDepth 100000 in
/-- row -/
theorem law_10 {p : Program} {l : Launch} {e : Env} {s : State} {m : MethodId} {below : List Frame} {meth : Method} {c : Code} {D : va_G} {cI cZ cS : ClassId} {A : Nat → Prop} {N0 : NT} {b : Nat} {xs : Nat → Int32} {H : Heap} {locs : List Loc} {ls : Array Slot} (hB : Bx p s m meth c #[Value.ref b] code 4 RL D cI cZ cS A N0) (hAs : ∀ q, A q → s.heap.size ≤ q) (hX : va_X b 5 xs s s.heap) (hbl : b < s.heap.size) (hr : meth.sig.returnType = ret) (ox : Nat) (tp : Nat) (nw : Nat) (rw : Nat) (lg : Nat) (jd : Nat) (pr : Nat) (n1 : Nat) (n2 : Nat) (om : Nat) (fs : List Value) (h0 : fs[0]? = some (.int 0)) (hV : Vx D A s.heap H locs [(ox, .inr (6, [.ref tp, .ref nw, .ref rw, .ref lg, .ref jd, .ref pr, .int 0])), (nw, .inr (5, [.ref n1, .int 0, .int 0, .ref n2, .int 0, .int 0, .int 0, .int 0])), (om, .inr (7, fs))]) (hl : lv_has ls 4 [(3, .int 0), (2, .ref om), (1, .ref ox), (0, .ref b)]) : W p l e room_1 s m #[Value.ref b] below meth c H locs 397 43468 (lw_Z below #[Value.ref b] s) (F0 m 510 ls []) := by
  have hx := hB.1
  have hb := hB.2.1
  refine lv_aload_n hx hb dL_law_510 rfl (lv_at hl 2 rfl) ?_
  refine lv_aload_n hx hb dL_law_511 rfl (lv_at hl 3 rfl) ?_
  refine lv_iload_n hx hb dL_law_512 rfl (lv_at hl 0 rfl) ?_
  refine lv_iconst (v := 1) hx hb dL_law_513 (by decide) ?_
  refine lv_iadd hx hb dL_law_514 ?_
  refine x_ev (y := 1) (by decide) ?_
  refine va_sld hx hb hX hbl (fun q => Nat.not_le.mpr hbl (hAs _ q)) hV.2.2 (by unfold vp_in; decide) dL_law_515 ?_
  refine x_ev (y := xs 1) rfl ?_
  refine lv_aload_n hx hb dL_law_516 rfl (lv_at hl 3 rfl) ?_
  refine lv_iload_n hx hb dL_law_517 rfl (lv_at hl 0 rfl) ?_
  refine lv_iconst (v := 2) hx hb dL_law_518 (by decide) ?_
  refine lv_iadd hx hb dL_law_519 ?_
  refine x_ev (y := 2) (by decide) ?_
  refine va_sld hx hb hX hbl (fun q => Nat.not_le.mpr hbl (hAs _ q)) hV.2.2 (by unfold vp_in; decide) dL_law_520 ?_
  refine x_ev (y := xs 2) rfl ?_
  refine lv_aload_n hx hb dL_law_521 rfl (lv_at hl 3 rfl) ?_
  refine lv_iload_n hx hb dL_law_522 rfl (lv_at hl 0 rfl) ?_
  refine lv_iconst (v := 3) hx hb dL_law_523 (by decide) ?_
  refine lv_iadd hx hb dL_law_524 ?_
  refine x_ev (y := 3) (by decide) ?_
  refine va_sld hx hb hX hbl (fun q => Nat.not_le.mpr hbl (hAs _ q)) hV.2.2 (by unfold vp_in; decide) dL_law_525 ?_
  refine x_ev (y := xs 3) rfl ?_
  refine x_callV (n := 3) (wr := [(om, .inr (7, fs))]) (q0 := 0) (As := [.int (xs 1), .int (xs 2), .int (xs 3)]) (rest := []) hB hV (x_N hB) hl.1 (p_row l D cI cZ cS N0 ox tp nw rw lg jd pr n1 n2 (xs 1) (xs 2) (xs 3) ) rfl rfl k_565 k_57 k_562 k_563 k_564 (by decide +kernel) ⟨(Nat.le_of_ble_eq_true rfl), (Nat.le_of_ble_eq_true rfl)⟩ rfl (Nat.le_of_ble_eq_true rfl) ⟨(Nat.le_of_ble_eq_true rfl), (Nat.le_of_ble_eq_true rfl)⟩ [0, 1] [2] rfl rfl rfl ⟨by decide, by decide, by decide⟩ dL_law_526 (fun v w H locs hp hV => ?_)
  obtain ⟨rfl, rfl⟩ := hp
  have hV : Vx D A s.heap H locs [(om, .inr (7, fs))] := hV
  refine W.eq (g2 := F0 m 529 ls [.int (-1)]) rfl ?_
  refine lv_aload_n hx hb dL_law_529 rfl (lv_at hl 1 rfl) ?_
  refine lv_aload_n hx hb dL_law_530 rfl (lv_at hl 3 rfl) ?_
  refine lv_iload_n hx hb dL_law_531 rfl (lv_at hl 0 rfl) ?_
  refine lv_iconst (v := 1) hx hb dL_law_532 (by decide) ?_
  refine lv_iadd hx hb dL_law_533 ?_
  refine x_ev (y := 1) (by decide) ?_
  refine va_sld hx hb hX hbl (fun q => Nat.not_le.mpr hbl (hAs _ q)) hV.2.2 (by unfold vp_in; decide) dL_law_534 ?_
  refine x_ev (y := xs 1) rfl ?_
  refine lv_aload_n hx hb dL_law_535 rfl (lv_at hl 3 rfl) ?_
  refine lv_iload_n hx hb dL_law_536 rfl (lv_at hl 0 rfl) ?_
  refine lv_iconst (v := 2) hx hb dL_law_537 (by decide) ?_
  refine lv_iadd hx hb dL_law_538 ?_
  refine x_ev (y := 2) (by decide) ?_
  refine va_sld hx hb hX hbl (fun q => Nat.not_le.mpr hbl (hAs _ q)) hV.2.2 (by unfold vp_in; decide) dL_law_539 ?_
  refine x_ev (y := xs 2) rfl ?_
  refine lv_aload_n hx hb dL_law_540 rfl (lv_at hl 3 rfl) ?_
  refine lv_iload_n hx hb dL_law_541 rfl (lv_at hl 0 rfl) ?_
  refine lv_iconst (v := 3) hx hb dL_law_542 (by decide) ?_
  refine lv_iadd hx hb dL_law_543 ?_
  refine x_ev (y := 3) (by decide) ?_
  refine va_sld hx hb hX hbl (fun q => Nat.not_le.mpr hbl (hAs _ q)) hV.2.2 (by unfold vp_in; decide) dL_law_544 ?_
  refine x_ev (y := xs 3) rfl ?_
  refine x_callV (n := 3) (wr := []) (q0 := 0) (As := [.int (xs 1), .int (xs 2), .int (xs 3)]) (rest := [.int (-1)]) hB hV (x_N hB) hl.1 (m_row l D cI cZ cS N0 om fs (xs 1) (xs 2) (xs 3) h0) rfl rfl k_1087 k_65 k_1084 k_1085 k_1086 (by decide +kernel) ⟨(Nat.le_of_ble_eq_true rfl), (Nat.le_of_ble_eq_true rfl)⟩ rfl (Nat.le_of_ble_eq_true rfl) ⟨(Nat.le_of_ble_eq_true rfl), (Nat.le_of_ble_eq_true rfl)⟩ [0] [] rfl rfl rfl ⟨by decide, by decide, by decide⟩ dL_law_545 (fun v w H locs hp hV => ?_)
  obtain ⟨rfl, rfl⟩ := hp
  have hV : Vx D A s.heap H locs [] := hV
  refine W.eq (g2 := F0 m 548 ls [.int (-1), .int (-1)]) rfl ?_
  refine lv_icmp_eq (tgt := 829) hx hb dL_law_548 (by decide) (fun c_ => ?_) (fun c_ => absurd (by decide) c_)
  exact law_tail hB hAs hX hbl hr (Nat.le_of_ble_eq_true rfl) (Nat.le_of_ble_eq_true rfl) hV (lv_sub hl [0, 3] rfl)
set_option maxHeartbeats 4000000 in
set_option maxRecDepth 100000 in
/-- clear -/
theorem law_11 {p : Program} {l : Launch} {e : Env} {s : State} {m : MethodId} {below : List Frame} {meth : Method} {c : Code} {D : va_G} {cI cZ cS : ClassId} {A : Nat → Prop} {N0 : NT} {b : Nat} {xs : Nat → Int32} {H : Heap} {locs : List Loc} {ls : Array Slot} (hB : Bx p s m meth c #[Value.ref b] code 4 RL D cI cZ cS A N0) (hAs : ∀ q, A q → s.heap.size ≤ q) (hX : va_X b 5 xs s s.heap) (hbl : b < s.heap.size) (hr : meth.sig.returnType = ret) (ox : Nat) (tp : Nat) (nw : Nat) (rw : Nat) (lg : Nat) (jd : Nat) (pr : Nat) (r1 : Nat) (r2 : Nat) (r3 : Nat) (om : Nat) (fs : List Value) (h30 : fs[30]? = some (.int 0)) (hV : Vx D A s.heap H locs [(ox, .inr (6, [.ref tp, .ref nw, .ref rw, .ref lg, .ref jd, .ref pr, .int 0])), (rw, .inr (0, [.ref r1, .ref r2, .ref r3, .int 0])), (om, .inr (7, fs))]) (hl : lv_has ls 4 [(3, .int 0), (2, .ref om), (1, .ref ox), (0, .ref b)]) : W p l e room_1 s m #[Value.ref b] below meth c H locs 397 43468 (lw_Z below #[Value.ref b] s) (F0 m 553 ls []) := by
  have hx := hB.1
  have hb := hB.2.1
  refine lv_aload_n hx hb dL_law_553 rfl (lv_at hl 2 rfl) ?_
  refine x_callV (n := 0) (wr := [(om, .inr (7, fs))]) (q0 := 0) (As := []) (rest := []) hB hV (x_N hB) hl.1 (p_clear l D cI cZ cS N0 ox tp nw rw lg jd pr r1 r2 r3 ) rfl rfl k_569 k_57 k_566 k_567 k_568 (by decide +kernel) ⟨(Nat.le_of_ble_eq_true rfl), (Nat.le_of_ble_eq_true rfl)⟩ rfl (Nat.le_of_ble_eq_true rfl) ⟨(Nat.le_of_ble_eq_true rfl), (Nat.le_of_ble_eq_true rfl)⟩ [0, 1] [2] rfl rfl rfl ⟨by decide, by decide, by decide⟩ dL_law_554 (fun v w H locs hp hV => ?_)
  obtain ⟨rfl, rfl⟩ := hp
  have hV : Vx D A s.heap H locs [(om, .inr (7, fs))] := hV
  refine W.eq (g2 := F0 m 557 ls [.int 0]) rfl ?_
  refine lv_aload_n hx hb dL_law_557 rfl (lv_at hl 1 rfl) ?_
  refine x_callV (n := 0) (wr := []) (q0 := 0) (As := []) (rest := [.int 0]) hB hV (x_N hB) hl.1 (m_clear l D cI cZ cS N0 om fs h30) rfl rfl k_1091 k_65 k_1088 k_1089 k_1090 (by decide +kernel) ⟨(Nat.le_of_ble_eq_true rfl), (Nat.le_of_ble_eq_true rfl)⟩ rfl (Nat.le_of_ble_eq_true rfl) ⟨(Nat.le_of_ble_eq_true rfl), (Nat.le_of_ble_eq_true rfl)⟩ [0] [] rfl rfl rfl ⟨by decide, by decide, by decide⟩ dL_law_558 (fun v w H locs hp hV => ?_)
  obtain ⟨rfl, rfl⟩ := hp
  have hV : Vx D A s.heap H locs [] := hV
  refine W.eq (g2 := F0 m 561 ls [.int 0, .int 0]) rfl ?_
  refine lv_icmp_eq (tgt := 829) hx hb dL_law_561 (by decide) (fun c_ => ?_) (fun c_ => absurd (by decide) c_)
  exact law_tail hB hAs hX hbl hr (Nat.le_of_ble_eq_true rfl) (Nat.le_of_ble_eq_true rfl) hV (lv_sub hl [0, 3] rfl)
set_option maxHeartbeats 4000000 in
set_option maxRecDepth 100000 in
/-- free -/
theorem law_12 {p : Program} {l : Launch} {e : Env} {s : State} {m : MethodId} {below : List Frame} {meth : Method} {c : Code} {D : va_G} {cI cZ cS : ClassId} {A : Nat → Prop} {N0 : NT} {b : Nat} {xs : Nat → Int32} {H : Heap} {locs : List Loc} {ls : Array Slot} (hB : Bx p s m meth c #[Value.ref b] code 4 RL D cI cZ cS A N0) (hAs : ∀ q, A q → s.heap.size ≤ q) (hX : va_X b 5 xs s s.heap) (hbl : b < s.heap.size) (hr : meth.sig.returnType = ret) (ox : Nat) (tp : Nat) (nw : Nat) (rw : Nat) (lg : Nat) (jd : Nat) (pr : Nat) (om : Nat) (fs : List Value) (h34 : fs[34]? = some (.int 0)) (hV : Vx D A s.heap H locs [(ox, .inr (6, [.ref tp, .ref nw, .ref rw, .ref lg, .ref jd, .ref pr, .int 0])), (om, .inr (7, fs))]) (hl : lv_has ls 4 [(3, .int 0), (2, .ref om), (1, .ref ox), (0, .ref b)]) : W p l e room_1 s m #[Value.ref b] below meth c H locs 397 43468 (lw_Z below #[Value.ref b] s) (F0 m 566 ls []) := by
  have hx := hB.1
  have hb := hB.2.1
  refine lv_aload_n hx hb dL_law_566 rfl (lv_at hl 2 rfl) ?_
  refine lv_aload_n hx hb dL_law_567 rfl (lv_at hl 3 rfl) ?_
  refine lv_iload_n hx hb dL_law_568 rfl (lv_at hl 0 rfl) ?_
  refine lv_iconst (v := 1) hx hb dL_law_569 (by decide) ?_
  refine lv_iadd hx hb dL_law_570 ?_
  refine x_ev (y := 1) (by decide) ?_
  refine va_sld hx hb hX hbl (fun q => Nat.not_le.mpr hbl (hAs _ q)) hV.2.2 (by unfold vp_in; decide) dL_law_571 ?_
  refine x_ev (y := xs 1) rfl ?_
  refine x_callV (n := 1) (wr := [(om, .inr (7, fs))]) (q0 := 0) (As := [.int (xs 1)]) (rest := []) hB hV (x_N hB) hl.1 (p_free l D cI cZ cS N0 ox tp nw rw lg jd pr (xs 1) ) rfl rfl k_573 k_57 k_570 k_571 k_572 (by decide +kernel) ⟨(Nat.le_of_ble_eq_true rfl), (Nat.le_of_ble_eq_true rfl)⟩ rfl (Nat.le_of_ble_eq_true rfl) ⟨(Nat.le_of_ble_eq_true rfl), (Nat.le_of_ble_eq_true rfl)⟩ [0] [1] rfl rfl rfl ⟨by decide, by decide, by decide⟩ dL_law_572 (fun v w H locs hp hV => ?_)
  obtain ⟨r_1, rfl, rfl, f_2⟩ := hp
  have hV : Vx D A s.heap H locs [(om, .inr (7, fs))] := hV
  refine W.eq (g2 := F0 m 575 ls [.int r_1]) rfl ?_
  refine lv_aload_n hx hb dL_law_575 rfl (lv_at hl 1 rfl) ?_
  refine lv_aload_n hx hb dL_law_576 rfl (lv_at hl 3 rfl) ?_
  refine lv_iload_n hx hb dL_law_577 rfl (lv_at hl 0 rfl) ?_
  refine lv_iconst (v := 1) hx hb dL_law_578 (by decide) ?_
  refine lv_iadd hx hb dL_law_579 ?_
  refine x_ev (y := 1) (by decide) ?_
  refine va_sld hx hb hX hbl (fun q => Nat.not_le.mpr hbl (hAs _ q)) hV.2.2 (by unfold vp_in; decide) dL_law_580 ?_
  refine x_ev (y := xs 1) rfl ?_
  refine x_callV (n := 1) (wr := []) (q0 := 0) (As := [.int (xs 1)]) (rest := [.int r_1]) hB hV (x_N hB) hl.1 (m_free l D cI cZ cS N0 om fs (xs 1) h34) rfl rfl k_1095 k_65 k_1092 k_1093 k_1094 (by decide +kernel) ⟨(Nat.le_of_ble_eq_true rfl), (Nat.le_of_ble_eq_true rfl)⟩ rfl (Nat.le_of_ble_eq_true rfl) ⟨(Nat.le_of_ble_eq_true rfl), (Nat.le_of_ble_eq_true rfl)⟩ [0] [] rfl rfl rfl ⟨by decide, by decide, by decide⟩ dL_law_581 (fun v w H locs hp hV => ?_)
  obtain ⟨r_3, rfl, rfl, f_4⟩ := hp
  have hV : Vx D A s.heap H locs [] := hV
  refine W.eq (g2 := F0 m 584 ls [.int r_3, .int r_1]) rfl ?_
  refine lv_icmp_eq (tgt := 829) hx hb dL_law_584 (by decide) (fun c_ => ?_) (fun c_ => absurd (f_2.trans f_4.symm) c_)
  exact law_tail hB hAs hX hbl hr (Nat.le_of_ble_eq_true rfl) (Nat.le_of_ble_eq_true rfl) hV (lv_sub hl [0, 3] rfl)
set_option maxHeartbeats 4000000 in
set_option maxRecDepth 100000 in
/-- safe -/
theorem law_13 {p : Program} {l : Launch} {e : Env} {s : State} {m : MethodId} {below : List Frame} {meth : Method} {c : Code} {D : va_G} {cI cZ cS : ClassId} {A : Nat → Prop} {N0 : NT} {b : Nat} {xs : Nat → Int32} {H : Heap} {locs : List Loc} {ls : Array Slot} (hB : Bx p s m meth c #[Value.ref b] code 4 RL D cI cZ cS A N0) (hAs : ∀ q, A q → s.heap.size ≤ q) (hX : va_X b 5 xs s s.heap) (hbl : b < s.heap.size) (hr : meth.sig.returnType = ret) (ox : Nat) (tp : Nat) (nw : Nat) (rw : Nat) (lg : Nat) (jd : Nat) (pr : Nat) (r1 : Nat) (r2 : Nat) (r3 : Nat) (om : Nat) (fs : List Value) (h30 : fs[30]? = some (.int 0)) (hV : Vx D A s.heap H locs [(ox, .inr (6, [.ref tp, .ref nw, .ref rw, .ref lg, .ref jd, .ref pr, .int 0])), (rw, .inr (0, [.ref r1, .ref r2, .ref r3, .int 0])), (om, .inr (7, fs))]) (hl : lv_has ls 4 [(3, .int 0), (2, .ref om), (1, .ref ox), (0, .ref b)]) : W p l e room_1 s m #[Value.ref b] below meth c H locs 397 43468 (lw_Z below #[Value.ref b] s) (F0 m 589 ls []) := by
  have hx := hB.1
  have hb := hB.2.1
  refine lv_aload_n hx hb dL_law_589 rfl (lv_at hl 2 rfl) ?_
  refine lv_aload_n hx hb dL_law_590 rfl (lv_at hl 3 rfl) ?_
  refine lv_iload_n hx hb dL_law_591 rfl (lv_at hl 0 rfl) ?_
  refine lv_iconst (v := 1) hx hb dL_law_592 (by decide) ?_
  refine lv_iadd hx hb dL_law_593 ?_
  refine x_ev (y := 1) (by decide) ?_
  refine va_sld hx hb hX hbl (fun q => Nat.not_le.mpr hbl (hAs _ q)) hV.2.2 (by unfold vp_in; decide) dL_law_594 ?_
  refine x_ev (y := xs 1) rfl ?_
  refine lv_aload_n hx hb dL_law_595 rfl (lv_at hl 3 rfl) ?_
  refine lv_iload_n hx hb dL_law_596 rfl (lv_at hl 0 rfl) ?_
  refine lv_iconst (v := 2) hx hb dL_law_597 (by decide) ?_
  refine lv_iadd hx hb dL_law_598 ?_
  refine x_ev (y := 2) (by decide) ?_
  refine va_sld hx hb hX hbl (fun q => Nat.not_le.mpr hbl (hAs _ q)) hV.2.2 (by unfold vp_in; decide) dL_law_599 ?_
  refine x_ev (y := xs 2) rfl ?_
  refine lv_aload_n hx hb dL_law_600 rfl (lv_at hl 3 rfl) ?_
  refine lv_iload_n hx hb dL_law_601 rfl (lv_at hl 0 rfl) ?_
  refine lv_iconst (v := 3) hx hb dL_law_602 (by decide) ?_
  refine lv_iadd hx hb dL_law_603 ?_
  refine x_ev (y := 3) (by decide) ?_
  refine va_sld hx hb hX hbl (fun q => Nat.not_le.mpr hbl (hAs _ q)) hV.2.2 (by unfold vp_in; decide) dL_law_604 ?_
  refine x_ev (y := xs 3) rfl ?_
  refine x_callV (n := 3) (wr := [(om, .inr (7, fs))]) (q0 := 0) (As := [.int (xs 1), .int (xs 2), .int (xs 3)]) (rest := []) hB hV (x_N hB) hl.1 (p_safe l D cI cZ cS N0 ox tp nw rw lg jd pr r1 r2 r3 (xs 1) (xs 2) (xs 3) ) rfl rfl k_577 k_57 k_574 k_575 k_576 (by decide +kernel) ⟨(Nat.le_of_ble_eq_true rfl), (Nat.le_of_ble_eq_true rfl)⟩ rfl (Nat.le_of_ble_eq_true rfl) ⟨(Nat.le_of_ble_eq_true rfl), (Nat.le_of_ble_eq_true rfl)⟩ [0, 1] [2] rfl rfl rfl ⟨by decide, by decide, by decide⟩ dL_law_605 (fun v w H locs hp hV => ?_)
  obtain ⟨rfl, rfl⟩ := hp
  have hV : Vx D A s.heap H locs [(om, .inr (7, fs))] := hV
  refine W.eq (g2 := F0 m 608 ls [.int (-1)]) rfl ?_
  refine lv_aload_n hx hb dL_law_608 rfl (lv_at hl 1 rfl) ?_
  refine lv_aload_n hx hb dL_law_609 rfl (lv_at hl 3 rfl) ?_
  refine lv_iload_n hx hb dL_law_610 rfl (lv_at hl 0 rfl) ?_
  refine lv_iconst (v := 1) hx hb dL_law_611 (by decide) ?_
  refine lv_iadd hx hb dL_law_612 ?_
  refine x_ev (y := 1) (by decide) ?_
  refine va_sld hx hb hX hbl (fun q => Nat.not_le.mpr hbl (hAs _ q)) hV.2.2 (by unfold vp_in; decide) dL_law_613 ?_
  refine x_ev (y := xs 1) rfl ?_
  refine lv_aload_n hx hb dL_law_614 rfl (lv_at hl 3 rfl) ?_
  refine lv_iload_n hx hb dL_law_615 rfl (lv_at hl 0 rfl) ?_
  refine lv_iconst (v := 2) hx hb dL_law_616 (by decide) ?_
  refine lv_iadd hx hb dL_law_617 ?_
  refine x_ev (y := 2) (by decide) ?_
  refine va_sld hx hb hX hbl (fun q => Nat.not_le.mpr hbl (hAs _ q)) hV.2.2 (by unfold vp_in; decide) dL_law_618 ?_
  refine x_ev (y := xs 2) rfl ?_
  refine lv_aload_n hx hb dL_law_619 rfl (lv_at hl 3 rfl) ?_
  refine lv_iload_n hx hb dL_law_620 rfl (lv_at hl 0 rfl) ?_
  refine lv_iconst (v := 3) hx hb dL_law_621 (by decide) ?_
  refine lv_iadd hx hb dL_law_622 ?_
  refine x_ev (y := 3) (by decide) ?_
  refine va_sld hx hb hX hbl (fun q => Nat.not_le.mpr hbl (hAs _ q)) hV.2.2 (by unfold vp_in; decide) dL_law_623 ?_
  refine x_ev (y := xs 3) rfl ?_
  refine x_callV (n := 3) (wr := []) (q0 := 0) (As := [.int (xs 1), .int (xs 2), .int (xs 3)]) (rest := [.int (-1)]) hB hV (x_N hB) hl.1 (m_safe l D cI cZ cS N0 om fs (xs 1) (xs 2) (xs 3) h30) rfl rfl k_1099 k_65 k_1096 k_1097 k_1098 (by decide +kernel) ⟨(Nat.le_of_ble_eq_true rfl), (Nat.le_of_ble_eq_true rfl)⟩ rfl (Nat.le_of_ble_eq_true rfl) ⟨(Nat.le_of_ble_eq_true rfl), (Nat.le_of_ble_eq_true rfl)⟩ [0] [] rfl rfl rfl ⟨by decide, by decide, by decide⟩ dL_law_624 (fun v w H locs hp hV => ?_)
  obtain ⟨rfl, rfl⟩ := hp
  have hV : Vx D A s.heap H locs [] := hV
  refine W.eq (g2 := F0 m 627 ls [.int (-1), .int (-1)]) rfl ?_
  refine lv_icmp_eq (tgt := 829) hx hb dL_law_627 (by decide) (fun c_ => ?_) (fun c_ => absurd (by decide) c_)
  exact law_tail hB hAs hX hbl hr (Nat.le_of_ble_eq_true rfl) (Nat.le_of_ble_eq_true rfl) hV (lv_sub hl [0, 3] rfl)
set_option maxHeartbeats 4000000 in
set_option maxRecDepth 100000 in
/-- worst -/
theorem law_14 {p : Program} {l : Launch} {e : Env} {s : State} {m : MethodId} {below : List Frame} {meth : Method} {c : Code} {D : va_G} {cI cZ cS : ClassId} {A : Nat → Prop} {N0 : NT} {b : Nat} {xs : Nat → Int32} {H : Heap} {locs : List Loc} {ls : Array Slot} (hB : Bx p s m meth c #[Value.ref b] code 4 RL D cI cZ cS A N0) (hAs : ∀ q, A q → s.heap.size ≤ q) (hX : va_X b 5 xs s s.heap) (hbl : b < s.heap.size) (hr : meth.sig.returnType = ret) (ox : Nat) (tp : Nat) (nw : Nat) (rw : Nat) (lg : Nat) (jd : Nat) (pr : Nat) (n1 : Nat) (n2 : Nat) (r1 : Nat) (r2 : Nat) (r3 : Nat) (s1 : Nat) (s2 : Nat) (s3 : Nat) (s4 : Nat) (s5 : Nat) (s6 : Nat) (s7 : Nat) (s8 : Nat) (s9 : Nat) (b1 : Nat) (b2 : Nat) (b3 : Nat) (b4 : Nat) (b5 : Nat) (b6 : Nat) (om : Nat) (fs : List Value) (q_tick : Nat) (q_count : Nat) (q_kept : Nat) (q_isKnown : Nat) (q_knownX : Nat) (q_knownKey : Nat) (q_store : Nat) (q_key : Nat) (q_keyX : Nat) (q_keyAnswer : Nat) (q_keyTick : Nat) (q_knownWord : Nat) (q_knownPlace : Nat) (q_knownWorth : Nat) (q_onceStore : Nat) (h21 : fs[21]? = some (.int 0)) (h52 : fs[52]? = some (.int 0)) (h30 : fs[30]? = some (.int 0)) (h60 : fs[60]? = some (.int 0)) (h14 : fs[14]? = some (.ref q_tick)) (h8 : fs[8]? = some (.ref q_count)) (h9 : fs[9]? = some (.ref q_kept)) (h20 : fs[20]? = some (.ref q_isKnown)) (h15 : fs[15]? = some (.ref q_knownX)) (h16 : fs[16]? = some (.ref q_knownKey)) (h7 : fs[7]? = some (.ref q_store)) (h10 : fs[10]? = some (.ref q_key)) (h11 : fs[11]? = some (.ref q_keyX)) (h12 : fs[12]? = some (.ref q_keyAnswer)) (h13 : fs[13]? = some (.ref q_keyTick)) (h17 : fs[17]? = some (.ref q_knownWord)) (h18 : fs[18]? = some (.ref q_knownPlace)) (h19 : fs[19]? = some (.ref q_knownWorth)) (h57 : fs[57]? = some (.ref q_onceStore)) (hV : Vx D A s.heap H locs [(ox, .inr (6, [.ref tp, .ref nw, .ref rw, .ref lg, .ref jd, .ref pr, .int 0])), (nw, .inr (5, [.ref n1, .int 0, .int 0, .ref n2, .int 0, .int 0, .int 0, .int 0])), (rw, .inr (0, [.ref r1, .ref r2, .ref r3, .int 0])), (jd, .inr (1, [.ref s1, .ref s2, .ref s3, .ref b1, .ref b2, .ref b3, .int 0, .ref b4, .ref b5, .ref b6])), (s1, .inr (5, [.ref s4, .int 0, .int 0, .ref s5, .int 0, .int 0, .int 0, .int 0])), (s2, .inr (5, [.ref s6, .int 0, .int 0, .ref s7, .int 0, .int 0, .int 0, .int 0])), (s3, .inr (5, [.ref s8, .int 0, .int 0, .ref s9, .int 0, .int 0, .int 0, .int 0])), (om, .inr (7, fs)), (q_tick, .inl (cI, 2, .inl (fun _ => 0))), (q_count, .inl (cI, 12, .inl (fun _ => 0))), (q_kept, .inl (cI, 12, .inl (fun _ => 0))), (q_isKnown, .inl (cZ, 12, .inl (fun _ => 0))), (q_knownX, .inl (cI, 12, .inl (fun _ => 0))), (q_knownKey, .inl (cI, 12, .inl (fun _ => 0))), (q_store, .inl (cI, 48, .inl (fun _ => 0))), (q_key, .inl (cI, 192, .inl (fun _ => 0))), (q_keyX, .inl (cI, 192, .inl (fun _ => 0))), (q_keyAnswer, .inl (cI, 192, .inl (fun _ => 0))), (q_keyTick, .inl (cI, 192, .inl (fun _ => 0))), (q_knownWord, .inl (cI, 96, .inl (fun _ => 0))), (q_knownPlace, .inl (cI, 96, .inl (fun _ => 0))), (q_knownWorth, .inl (cI, 96, .inl (fun _ => 0))), (q_onceStore, .inl (cI, 30, .inl (fun _ => 0)))]) (hl : lv_has ls 4 [(3, .int 0), (2, .ref om), (1, .ref ox), (0, .ref b)]) : W p l e room_1 s m #[Value.ref b] below meth c H locs 397 43468 (lw_Z below #[Value.ref b] s) (F0 m 632 ls []) := by
  have hx := hB.1
  have hb := hB.2.1
  refine lv_aload_n hx hb dL_law_632 rfl (lv_at hl 2 rfl) ?_
  refine x_callV (n := 0) (wr := [(om, .inr (7, fs)), (q_tick, .inl (cI, 2, .inl (fun _ => 0))), (q_count, .inl (cI, 12, .inl (fun _ => 0))), (q_kept, .inl (cI, 12, .inl (fun _ => 0))), (q_isKnown, .inl (cZ, 12, .inl (fun _ => 0))), (q_knownX, .inl (cI, 12, .inl (fun _ => 0))), (q_knownKey, .inl (cI, 12, .inl (fun _ => 0))), (q_store, .inl (cI, 48, .inl (fun _ => 0))), (q_key, .inl (cI, 192, .inl (fun _ => 0))), (q_keyX, .inl (cI, 192, .inl (fun _ => 0))), (q_keyAnswer, .inl (cI, 192, .inl (fun _ => 0))), (q_keyTick, .inl (cI, 192, .inl (fun _ => 0))), (q_knownWord, .inl (cI, 96, .inl (fun _ => 0))), (q_knownPlace, .inl (cI, 96, .inl (fun _ => 0))), (q_knownWorth, .inl (cI, 96, .inl (fun _ => 0))), (q_onceStore, .inl (cI, 30, .inl (fun _ => 0)))]) (q0 := 0) (As := []) (rest := []) hB hV (x_N hB) hl.1 (p_worst l D cI cZ cS N0 ox tp nw rw lg jd pr n1 n2 r1 r2 r3 s1 s2 s3 s4 s5 s6 s7 s8 s9 b1 b2 b3 b4 b5 b6 ) rfl rfl k_622 k_57 k_619 k_620 k_621 (by decide +kernel) ⟨(Nat.le_of_ble_eq_true rfl), (Nat.le_of_ble_eq_true rfl)⟩ rfl (Nat.le_of_ble_eq_true rfl) ⟨(Nat.le_of_ble_eq_true rfl), (Nat.le_of_ble_eq_true rfl)⟩ [0, 1, 2, 3, 4, 5, 6] [7, 8, 9, 10, 11, 12, 13, 14, 15, 16, 17, 18, 19, 20, 21, 22] rfl rfl rfl ⟨by decide, by decide, by decide⟩ dL_law_633 (fun v w H locs hp hV => ?_)
  obtain ⟨rfl, rfl⟩ := hp
  have hV : Vx D A s.heap H locs [(om, .inr (7, fs)), (q_tick, .inl (cI, 2, .inl (fun _ => 0))), (q_count, .inl (cI, 12, .inl (fun _ => 0))), (q_kept, .inl (cI, 12, .inl (fun _ => 0))), (q_isKnown, .inl (cZ, 12, .inl (fun _ => 0))), (q_knownX, .inl (cI, 12, .inl (fun _ => 0))), (q_knownKey, .inl (cI, 12, .inl (fun _ => 0))), (q_store, .inl (cI, 48, .inl (fun _ => 0))), (q_key, .inl (cI, 192, .inl (fun _ => 0))), (q_keyX, .inl (cI, 192, .inl (fun _ => 0))), (q_keyAnswer, .inl (cI, 192, .inl (fun _ => 0))), (q_keyTick, .inl (cI, 192, .inl (fun _ => 0))), (q_knownWord, .inl (cI, 96, .inl (fun _ => 0))), (q_knownPlace, .inl (cI, 96, .inl (fun _ => 0))), (q_knownWorth, .inl (cI, 96, .inl (fun _ => 0))), (q_onceStore, .inl (cI, 30, .inl (fun _ => 0)))] := hV
  refine W.eq (g2 := F0 m 636 ls [.int (-1)]) rfl ?_
  refine lv_aload_n hx hb dL_law_636 rfl (lv_at hl 1 rfl) ?_
  refine x_callV (n := 0) (wr := []) (q0 := 0) (As := []) (rest := [.int (-1)]) hB hV (x_N hB) hl.1 (m_worst l D cI cZ cS N0 om fs q_tick q_count q_kept q_isKnown q_knownX q_knownKey q_store q_key q_keyX q_keyAnswer q_keyTick q_knownWord q_knownPlace q_knownWorth q_onceStore h21 h52 h30 h60 h14 h8 h9 h20 h15 h16 h7 h10 h11 h12 h13 h17 h18 h19 h57) rfl rfl k_1119 k_65 k_1116 k_1117 k_1118 (by decide +kernel) ⟨(Nat.le_of_ble_eq_true rfl), (Nat.le_of_ble_eq_true rfl)⟩ rfl (Nat.le_of_ble_eq_true rfl) ⟨(Nat.le_of_ble_eq_true rfl), (Nat.le_of_ble_eq_true rfl)⟩ [0, 1, 2, 3, 4, 5, 6, 7, 8, 9, 10, 11, 12, 13, 14, 15] [] rfl rfl rfl ⟨by decide, by decide, by decide⟩ dL_law_637 (fun v w H locs hp hV => ?_)
  obtain ⟨rfl, rfl⟩ := hp
  have hV : Vx D A s.heap H locs [] := hV
  refine W.eq (g2 := F0 m 640 ls [.int (-1), .int (-1)]) rfl ?_
  refine lv_icmp_eq (tgt := 829) hx hb dL_law_640 (by decide) (fun c_ => ?_) (fun c_ => absurd (by decide) c_)
  exact law_tail hB hAs hX hbl hr (Nat.le_of_ble_eq_true rfl) (Nat.le_of_ble_eq_true rfl) hV (lv_sub hl [0, 3] rfl)
set_option maxHeartbeats 4000000 in
set_option maxRecDepth 100000 in
/-- orders -/
theorem law_15 {p : Program} {l : Launch} {e : Env} {s : State} {m : MethodId} {below : List Frame} {meth : Method} {c : Code} {D : va_G} {cI cZ cS : ClassId} {A : Nat → Prop} {N0 : NT} {b : Nat} {xs : Nat → Int32} {H : Heap} {locs : List Loc} {ls : Array Slot} (hB : Bx p s m meth c #[Value.ref b] code 4 RL D cI cZ cS A N0) (hAs : ∀ q, A q → s.heap.size ≤ q) (hX : va_X b 5 xs s s.heap) (hbl : b < s.heap.size) (hr : meth.sig.returnType = ret) (ox : Nat) (tp : Nat) (nw : Nat) (rw : Nat) (lg : Nat) (jd : Nat) (pr : Nat) (r1 : Nat) (r2 : Nat) (r3 : Nat) (om : Nat) (fs : List Value) (h30 : fs[30]? = some (.int 0)) (hV : Vx D A s.heap H locs [(ox, .inr (6, [.ref tp, .ref nw, .ref rw, .ref lg, .ref jd, .ref pr, .int 0])), (rw, .inr (0, [.ref r1, .ref r2, .ref r3, .int 0])), (om, .inr (7, fs))]) (hl : lv_has ls 4 [(3, .int 0), (2, .ref om), (1, .ref ox), (0, .ref b)]) : W p l e room_1 s m #[Value.ref b] below meth c H locs 397 43468 (lw_Z below #[Value.ref b] s) (F0 m 645 ls []) := by
  have hx := hB.1
  have hb := hB.2.1
  refine lv_aload_n hx hb dL_law_645 rfl (lv_at hl 2 rfl) ?_
  refine lv_aload_n hx hb dL_law_646 rfl (lv_at hl 3 rfl) ?_
  refine lv_iload_n hx hb dL_law_647 rfl (lv_at hl 0 rfl) ?_
  refine lv_iconst (v := 1) hx hb dL_law_648 (by decide) ?_
  refine lv_iadd hx hb dL_law_649 ?_
  refine x_ev (y := 1) (by decide) ?_
  refine va_sld hx hb hX hbl (fun q => Nat.not_le.mpr hbl (hAs _ q)) hV.2.2 (by unfold vp_in; decide) dL_law_650 ?_
  refine x_ev (y := xs 1) rfl ?_
  refine lv_aload_n hx hb dL_law_651 rfl (lv_at hl 3 rfl) ?_
  refine lv_iload_n hx hb dL_law_652 rfl (lv_at hl 0 rfl) ?_
  refine lv_iconst (v := 2) hx hb dL_law_653 (by decide) ?_
  refine lv_iadd hx hb dL_law_654 ?_
  refine x_ev (y := 2) (by decide) ?_
  refine va_sld hx hb hX hbl (fun q => Nat.not_le.mpr hbl (hAs _ q)) hV.2.2 (by unfold vp_in; decide) dL_law_655 ?_
  refine x_ev (y := xs 2) rfl ?_
  refine x_callV (n := 2) (wr := [(om, .inr (7, fs))]) (q0 := 0) (As := [.int (xs 1), .int (xs 2)]) (rest := []) hB hV (x_N hB) hl.1 (p_orders l D cI cZ cS N0 ox tp nw rw lg jd pr r1 r2 r3 (xs 1) (xs 2) ) rfl rfl k_634 k_57 k_631 k_632 k_633 (by decide +kernel) ⟨(Nat.le_of_ble_eq_true rfl), (Nat.le_of_ble_eq_true rfl)⟩ rfl (Nat.le_of_ble_eq_true rfl) ⟨(Nat.le_of_ble_eq_true rfl), (Nat.le_of_ble_eq_true rfl)⟩ [0, 1] [2] rfl rfl rfl ⟨by decide, by decide, by decide⟩ dL_law_656 (fun v w H locs hp hV => ?_)
  obtain ⟨rfl, rfl⟩ := hp
  have hV : Vx D A s.heap H locs [(om, .inr (7, fs))] := hV
  refine W.eq (g2 := F0 m 659 ls [.int (-1)]) rfl ?_
  refine lv_aload_n hx hb dL_law_659 rfl (lv_at hl 1 rfl) ?_
  refine lv_aload_n hx hb dL_law_660 rfl (lv_at hl 3 rfl) ?_
  refine lv_iload_n hx hb dL_law_661 rfl (lv_at hl 0 rfl) ?_
  refine lv_iconst (v := 1) hx hb dL_law_662 (by decide) ?_
  refine lv_iadd hx hb dL_law_663 ?_
  refine x_ev (y := 1) (by decide) ?_
  refine va_sld hx hb hX hbl (fun q => Nat.not_le.mpr hbl (hAs _ q)) hV.2.2 (by unfold vp_in; decide) dL_law_664 ?_
  refine x_ev (y := xs 1) rfl ?_
  refine lv_aload_n hx hb dL_law_665 rfl (lv_at hl 3 rfl) ?_
  refine lv_iload_n hx hb dL_law_666 rfl (lv_at hl 0 rfl) ?_
  refine lv_iconst (v := 2) hx hb dL_law_667 (by decide) ?_
  refine lv_iadd hx hb dL_law_668 ?_
  refine x_ev (y := 2) (by decide) ?_
  refine va_sld hx hb hX hbl (fun q => Nat.not_le.mpr hbl (hAs _ q)) hV.2.2 (by unfold vp_in; decide) dL_law_669 ?_
  refine x_ev (y := xs 2) rfl ?_
  refine x_callV (n := 2) (wr := []) (q0 := 0) (As := [.int (xs 1), .int (xs 2)]) (rest := [.int (-1)]) hB hV (x_N hB) hl.1 (m_orders l D cI cZ cS N0 om fs (xs 1) (xs 2) h30) rfl rfl k_1127 k_65 k_1124 k_1125 k_1126 (by decide +kernel) ⟨(Nat.le_of_ble_eq_true rfl), (Nat.le_of_ble_eq_true rfl)⟩ rfl (Nat.le_of_ble_eq_true rfl) ⟨(Nat.le_of_ble_eq_true rfl), (Nat.le_of_ble_eq_true rfl)⟩ [0] [] rfl rfl rfl ⟨by decide, by decide, by decide⟩ dL_law_670 (fun v w H locs hp hV => ?_)
  obtain ⟨rfl, rfl⟩ := hp
  have hV : Vx D A s.heap H locs [] := hV
  refine W.eq (g2 := F0 m 673 ls [.int (-1), .int (-1)]) rfl ?_
  refine lv_icmp_eq (tgt := 829) hx hb dL_law_673 (by decide) (fun c_ => ?_) (fun c_ => absurd (by decide) c_)
  exact law_tail hB hAs hX hbl hr (Nat.le_of_ble_eq_true rfl) (Nat.le_of_ble_eq_true rfl) hV (lv_sub hl [0, 3] rfl)
set_option maxHeartbeats 4000000 in
set_option maxRecDepth 100000 in
/-- enough -/
theorem law_16 {p : Program} {l : Launch} {e : Env} {s : State} {m : MethodId} {below : List Frame} {meth : Method} {c : Code} {D : va_G} {cI cZ cS : ClassId} {A : Nat → Prop} {N0 : NT} {b : Nat} {xs : Nat → Int32} {H : Heap} {locs : List Loc} {ls : Array Slot} (hB : Bx p s m meth c #[Value.ref b] code 4 RL D cI cZ cS A N0) (hAs : ∀ q, A q → s.heap.size ≤ q) (hX : va_X b 5 xs s s.heap) (hbl : b < s.heap.size) (hr : meth.sig.returnType = ret) (ox : Nat) (tp : Nat) (nw : Nat) (rw : Nat) (lg : Nat) (jd : Nat) (pr : Nat) (n1 : Nat) (n2 : Nat) (r1 : Nat) (r2 : Nat) (r3 : Nat) (s1 : Nat) (s2 : Nat) (s3 : Nat) (s4 : Nat) (s5 : Nat) (s6 : Nat) (s7 : Nat) (s8 : Nat) (s9 : Nat) (b1 : Nat) (b2 : Nat) (b3 : Nat) (b4 : Nat) (b5 : Nat) (b6 : Nat) (om : Nat) (fs : List Value) (q_tick : Nat) (q_count : Nat) (q_kept : Nat) (q_isKnown : Nat) (q_knownX : Nat) (q_knownKey : Nat) (q_store : Nat) (q_key : Nat) (q_keyX : Nat) (q_keyAnswer : Nat) (q_keyTick : Nat) (q_knownWord : Nat) (q_knownPlace : Nat) (q_knownWorth : Nat) (q_onceStore : Nat) (q_hold : Nat) (q_keptHold : Nat) (h21 : fs[21]? = some (.int 0)) (h52 : fs[52]? = some (.int 0)) (h30 : fs[30]? = some (.int 0)) (h60 : fs[60]? = some (.int 0)) (h14 : fs[14]? = some (.ref q_tick)) (h8 : fs[8]? = some (.ref q_count)) (h9 : fs[9]? = some (.ref q_kept)) (h20 : fs[20]? = some (.ref q_isKnown)) (h15 : fs[15]? = some (.ref q_knownX)) (h16 : fs[16]? = some (.ref q_knownKey)) (h7 : fs[7]? = some (.ref q_store)) (h10 : fs[10]? = some (.ref q_key)) (h11 : fs[11]? = some (.ref q_keyX)) (h12 : fs[12]? = some (.ref q_keyAnswer)) (h13 : fs[13]? = some (.ref q_keyTick)) (h17 : fs[17]? = some (.ref q_knownWord)) (h18 : fs[18]? = some (.ref q_knownPlace)) (h19 : fs[19]? = some (.ref q_knownWorth)) (h57 : fs[57]? = some (.ref q_onceStore)) (h6 : fs[6]? = some (.ref q_hold)) (h65 : fs[65]? = some (.ref q_keptHold)) (hV : Vx D A s.heap H locs [(ox, .inr (6, [.ref tp, .ref nw, .ref rw, .ref lg, .ref jd, .ref pr, .int 0])), (nw, .inr (5, [.ref n1, .int 0, .int 0, .ref n2, .int 0, .int 0, .int 0, .int 0])), (rw, .inr (0, [.ref r1, .ref r2, .ref r3, .int 0])), (jd, .inr (1, [.ref s1, .ref s2, .ref s3, .ref b1, .ref b2, .ref b3, .int 0, .ref b4, .ref b5, .ref b6])), (s1, .inr (5, [.ref s4, .int 0, .int 0, .ref s5, .int 0, .int 0, .int 0, .int 0])), (s2, .inr (5, [.ref s6, .int 0, .int 0, .ref s7, .int 0, .int 0, .int 0, .int 0])), (s3, .inr (5, [.ref s8, .int 0, .int 0, .ref s9, .int 0, .int 0, .int 0, .int 0])), (om, .inr (7, fs)), (q_tick, .inl (cI, 2, .inl (fun _ => 0))), (q_count, .inl (cI, 12, .inl (fun _ => 0))), (q_kept, .inl (cI, 12, .inl (fun _ => 0))), (q_isKnown, .inl (cZ, 12, .inl (fun _ => 0))), (q_knownX, .inl (cI, 12, .inl (fun _ => 0))), (q_knownKey, .inl (cI, 12, .inl (fun _ => 0))), (q_store, .inl (cI, 48, .inl (fun _ => 0))), (q_key, .inl (cI, 192, .inl (fun _ => 0))), (q_keyX, .inl (cI, 192, .inl (fun _ => 0))), (q_keyAnswer, .inl (cI, 192, .inl (fun _ => 0))), (q_keyTick, .inl (cI, 192, .inl (fun _ => 0))), (q_knownWord, .inl (cI, 96, .inl (fun _ => 0))), (q_knownPlace, .inl (cI, 96, .inl (fun _ => 0))), (q_knownWorth, .inl (cI, 96, .inl (fun _ => 0))), (q_onceStore, .inl (cI, 30, .inl (fun _ => 0))), (q_hold, .inl (cI, 6, .inl (fun _ => 0))), (q_keptHold, .inl (cI, 6, .inl (fun _ => 0)))]) (hl : lv_has ls 4 [(3, .int 0), (2, .ref om), (1, .ref ox), (0, .ref b)]) : W p l e room_1 s m #[Value.ref b] below meth c H locs 397 43468 (lw_Z below #[Value.ref b] s) (F0 m 678 ls []) := by
  have hx := hB.1
  have hb := hB.2.1
  refine lv_aload_n hx hb dL_law_678 rfl (lv_at hl 2 rfl) ?_
  refine x_callV (n := 0) (wr := [(om, .inr (7, fs)), (q_tick, .inl (cI, 2, .inl (fun _ => 0))), (q_count, .inl (cI, 12, .inl (fun _ => 0))), (q_kept, .inl (cI, 12, .inl (fun _ => 0))), (q_isKnown, .inl (cZ, 12, .inl (fun _ => 0))), (q_knownX, .inl (cI, 12, .inl (fun _ => 0))), (q_knownKey, .inl (cI, 12, .inl (fun _ => 0))), (q_store, .inl (cI, 48, .inl (fun _ => 0))), (q_key, .inl (cI, 192, .inl (fun _ => 0))), (q_keyX, .inl (cI, 192, .inl (fun _ => 0))), (q_keyAnswer, .inl (cI, 192, .inl (fun _ => 0))), (q_keyTick, .inl (cI, 192, .inl (fun _ => 0))), (q_knownWord, .inl (cI, 96, .inl (fun _ => 0))), (q_knownPlace, .inl (cI, 96, .inl (fun _ => 0))), (q_knownWorth, .inl (cI, 96, .inl (fun _ => 0))), (q_onceStore, .inl (cI, 30, .inl (fun _ => 0))), (q_hold, .inl (cI, 6, .inl (fun _ => 0))), (q_keptHold, .inl (cI, 6, .inl (fun _ => 0)))]) (q0 := 0) (As := []) (rest := []) hB hV (x_N hB) hl.1 (p_enough l D cI cZ cS N0 ox tp nw rw lg jd pr n1 n2 r1 r2 r3 s1 s2 s3 s4 s5 s6 s7 s8 s9 b1 b2 b3 b4 b5 b6 ) rfl rfl k_668 k_57 k_665 k_666 k_667 (by decide +kernel) ⟨(Nat.le_of_ble_eq_true rfl), (Nat.le_of_ble_eq_true rfl)⟩ rfl (Nat.le_of_ble_eq_true rfl) ⟨(Nat.le_of_ble_eq_true rfl), (Nat.le_of_ble_eq_true rfl)⟩ [0, 1, 2, 3, 4, 5, 6] [7, 8, 9, 10, 11, 12, 13, 14, 15, 16, 17, 18, 19, 20, 21, 22, 23, 24] rfl rfl rfl ⟨by decide, by decide, by decide⟩ dL_law_679 (fun v w H locs hp hV => ?_)
  obtain ⟨rfl, rfl⟩ := hp
  have hV : Vx D A s.heap H locs [(om, .inr (7, fs)), (q_tick, .inl (cI, 2, .inl (fun _ => 0))), (q_count, .inl (cI, 12, .inl (fun _ => 0))), (q_kept, .inl (cI, 12, .inl (fun _ => 0))), (q_isKnown, .inl (cZ, 12, .inl (fun _ => 0))), (q_knownX, .inl (cI, 12, .inl (fun _ => 0))), (q_knownKey, .inl (cI, 12, .inl (fun _ => 0))), (q_store, .inl (cI, 48, .inl (fun _ => 0))), (q_key, .inl (cI, 192, .inl (fun _ => 0))), (q_keyX, .inl (cI, 192, .inl (fun _ => 0))), (q_keyAnswer, .inl (cI, 192, .inl (fun _ => 0))), (q_keyTick, .inl (cI, 192, .inl (fun _ => 0))), (q_knownWord, .inl (cI, 96, .inl (fun _ => 0))), (q_knownPlace, .inl (cI, 96, .inl (fun _ => 0))), (q_knownWorth, .inl (cI, 96, .inl (fun _ => 0))), (q_onceStore, .inl (cI, 30, .inl (fun _ => 0))), (q_hold, .inl (cI, 6, .inl (fun _ => 0))), (q_keptHold, .inl (cI, 6, .inl (fun _ => 0)))] := hV
  refine W.eq (g2 := F0 m 682 ls [.int 0]) rfl ?_
  refine lv_aload_n hx hb dL_law_682 rfl (lv_at hl 1 rfl) ?_
  refine x_callV (n := 0) (wr := []) (q0 := 0) (As := []) (rest := [.int 0]) hB hV (x_N hB) hl.1 (m_enough l D cI cZ cS N0 om fs q_tick q_count q_kept q_isKnown q_knownX q_knownKey q_store q_key q_keyX q_keyAnswer q_keyTick q_knownWord q_knownPlace q_knownWorth q_onceStore q_hold q_keptHold h21 h52 h30 h60 h14 h8 h9 h20 h15 h16 h7 h10 h11 h12 h13 h17 h18 h19 h57 h6 h65) rfl rfl k_1154 k_65 k_1151 k_1152 k_1153 (by decide +kernel) ⟨(Nat.le_of_ble_eq_true rfl), (Nat.le_of_ble_eq_true rfl)⟩ rfl (Nat.le_of_ble_eq_true rfl) ⟨(Nat.le_of_ble_eq_true rfl), (Nat.le_of_ble_eq_true rfl)⟩ [0, 1, 2, 3, 4, 5, 6, 7, 8, 9, 10, 11, 12, 13, 14, 15, 16, 17] [] rfl rfl rfl ⟨by decide, by decide, by decide⟩ dL_law_683 (fun v w H locs hp hV => ?_)
  obtain ⟨rfl, rfl⟩ := hp
  have hV : Vx D A s.heap H locs [] := hV
  refine W.eq (g2 := F0 m 686 ls [.int 0, .int 0]) rfl ?_
  refine lv_icmp_eq (tgt := 829) hx hb dL_law_686 (by decide) (fun c_ => ?_) (fun c_ => absurd (by decide) c_)
  exact law_tail hB hAs hX hbl hr (Nat.le_of_ble_eq_true rfl) (Nat.le_of_ble_eq_true rfl) hV (lv_sub hl [0, 3] rfl)
set_option maxHeartbeats 4000000 in
set_option maxRecDepth 100000 in
/-- price -/
theorem law_17 {p : Program} {l : Launch} {e : Env} {s : State} {m : MethodId} {below : List Frame} {meth : Method} {c : Code} {D : va_G} {cI cZ cS : ClassId} {A : Nat → Prop} {N0 : NT} {b : Nat} {xs : Nat → Int32} {H : Heap} {locs : List Loc} {ls : Array Slot} (hB : Bx p s m meth c #[Value.ref b] code 4 RL D cI cZ cS A N0) (hAs : ∀ q, A q → s.heap.size ≤ q) (hX : va_X b 5 xs s s.heap) (hbl : b < s.heap.size) (hr : meth.sig.returnType = ret) (ox : Nat) (tp : Nat) (nw : Nat) (rw : Nat) (lg : Nat) (jd : Nat) (pr : Nat) (om : Nat) (fs : List Value) (q_price : Nat) (h35 : fs[35]? = some (.ref q_price)) (hV : Vx D A s.heap H locs [(ox, .inr (6, [.ref tp, .ref nw, .ref rw, .ref lg, .ref jd, .ref pr, .int 0])), (pr, .inl (cI, 4, .inl (upd (upd (upd (upd (fun _ => 0) 0 1) 1 1) 2 1) 3 1))), (om, .inr (7, fs)), (q_price, .inl (cI, 4, .inl (upd (upd (upd (upd (fun _ => 0) 0 1) 1 1) 2 1) 3 1)))]) (hl : lv_has ls 4 [(3, .int 0), (2, .ref om), (1, .ref ox), (0, .ref b)]) : W p l e room_1 s m #[Value.ref b] below meth c H locs 397 43468 (lw_Z below #[Value.ref b] s) (F0 m 691 ls []) := by
  have hx := hB.1
  have hb := hB.2.1
  refine lv_aload_n hx hb dL_law_691 rfl (lv_at hl 2 rfl) ?_
  refine lv_aload_n hx hb dL_law_692 rfl (lv_at hl 3 rfl) ?_
  refine lv_iload_n hx hb dL_law_693 rfl (lv_at hl 0 rfl) ?_
  refine lv_iconst (v := 1) hx hb dL_law_694 (by decide) ?_
  refine lv_iadd hx hb dL_law_695 ?_
  refine x_ev (y := 1) (by decide) ?_
  refine va_sld hx hb hX hbl (fun q => Nat.not_le.mpr hbl (hAs _ q)) hV.2.2 (by unfold vp_in; decide) dL_law_696 ?_
  refine x_ev (y := xs 1) rfl ?_
  refine lv_aload_n hx hb dL_law_697 rfl (lv_at hl 3 rfl) ?_
  refine lv_iload_n hx hb dL_law_698 rfl (lv_at hl 0 rfl) ?_
  refine lv_iconst (v := 2) hx hb dL_law_699 (by decide) ?_
  refine lv_iadd hx hb dL_law_700 ?_
  refine x_ev (y := 2) (by decide) ?_
  refine va_sld hx hb hX hbl (fun q => Nat.not_le.mpr hbl (hAs _ q)) hV.2.2 (by unfold vp_in; decide) dL_law_701 ?_
  refine x_ev (y := xs 2) rfl ?_
  refine x_callV (n := 2) (wr := [(om, .inr (7, fs)), (q_price, .inl (cI, 4, .inl (upd (upd (upd (upd (fun _ => 0) 0 1) 1 1) 2 1) 3 1)))]) (q0 := 0) (As := [.int (xs 1), .int (xs 2)]) (rest := []) hB hV (x_N hB) hl.1 (p_price l D cI cZ cS N0 ox tp nw rw lg jd pr (xs 1) (xs 2) ) rfl rfl k_676 k_57 k_673 k_674 k_675 (by decide +kernel) ⟨(Nat.le_of_ble_eq_true rfl), (Nat.le_of_ble_eq_true rfl)⟩ rfl (Nat.le_of_ble_eq_true rfl) ⟨(Nat.le_of_ble_eq_true rfl), (Nat.le_of_ble_eq_true rfl)⟩ [0, 1] [2, 3] rfl rfl rfl ⟨by decide, by decide, by decide⟩ dL_law_702 (fun v w H locs hp hV => ?_)
  obtain ⟨r_1, rfl, rfl, f_2⟩ := hp
  have hV : Vx D A s.heap H locs [(om, .inr (7, fs)), (q_price, .inl (cI, 4, .inl (upd (upd (upd (upd (fun _ => 0) 0 1) 1 1) 2 1) 3 1)))] := hV
  refine W.eq (g2 := F0 m 705 ls [.int r_1]) rfl ?_
  refine lv_aload_n hx hb dL_law_705 rfl (lv_at hl 1 rfl) ?_
  refine lv_aload_n hx hb dL_law_706 rfl (lv_at hl 3 rfl) ?_
  refine lv_iload_n hx hb dL_law_707 rfl (lv_at hl 0 rfl) ?_
  refine lv_iconst (v := 1) hx hb dL_law_708 (by decide) ?_
  refine lv_iadd hx hb dL_law_709 ?_
  refine x_ev (y := 1) (by decide) ?_
  refine va_sld hx hb hX hbl (fun q => Nat.not_le.mpr hbl (hAs _ q)) hV.2.2 (by unfold vp_in; decide) dL_law_710 ?_
  refine x_ev (y := xs 1) rfl ?_
  refine lv_aload_n hx hb dL_law_711 rfl (lv_at hl 3 rfl) ?_
  refine lv_iload_n hx hb dL_law_712 rfl (lv_at hl 0 rfl) ?_
  refine lv_iconst (v := 2) hx hb dL_law_713 (by decide) ?_
  refine lv_iadd hx hb dL_law_714 ?_
  refine x_ev (y := 2) (by decide) ?_
  refine va_sld hx hb hX hbl (fun q => Nat.not_le.mpr hbl (hAs _ q)) hV.2.2 (by unfold vp_in; decide) dL_law_715 ?_
  refine x_ev (y := xs 2) rfl ?_
  refine x_callV (n := 2) (wr := []) (q0 := 0) (As := [.int (xs 1), .int (xs 2)]) (rest := [.int r_1]) hB hV (x_N hB) hl.1 (m_price l D cI cZ cS N0 om fs q_price (xs 1) (xs 2) h35) rfl rfl k_1158 k_65 k_1155 k_1156 k_1157 (by decide +kernel) ⟨(Nat.le_of_ble_eq_true rfl), (Nat.le_of_ble_eq_true rfl)⟩ rfl (Nat.le_of_ble_eq_true rfl) ⟨(Nat.le_of_ble_eq_true rfl), (Nat.le_of_ble_eq_true rfl)⟩ [0, 1] [] rfl rfl rfl ⟨by decide, by decide, by decide⟩ dL_law_716 (fun v w H locs hp hV => ?_)
  obtain ⟨r_3, rfl, rfl, f_4⟩ := hp
  have hV : Vx D A s.heap H locs [] := hV
  refine W.eq (g2 := F0 m 719 ls [.int r_3, .int r_1]) rfl ?_
  refine lv_icmp_eq (tgt := 829) hx hb dL_law_719 (by decide) (fun c_ => ?_) (fun c_ => absurd (f_2.trans f_4.symm) c_)
  exact law_tail hB hAs hX hbl hr (Nat.le_of_ble_eq_true rfl) (Nat.le_of_ble_eq_true rfl) hV (lv_sub hl [0, 3] rfl)
set_option maxHeartbeats 4000000 in
set_option maxRecDepth 100000 in
/-- cheapest -/
theorem law_18 {p : Program} {l : Launch} {e : Env} {s : State} {m : MethodId} {below : List Frame} {meth : Method} {c : Code} {D : va_G} {cI cZ cS : ClassId} {A : Nat → Prop} {N0 : NT} {b : Nat} {xs : Nat → Int32} {H : Heap} {locs : List Loc} {ls : Array Slot} (hB : Bx p s m meth c #[Value.ref b] code 4 RL D cI cZ cS A N0) (hAs : ∀ q, A q → s.heap.size ≤ q) (hX : va_X b 5 xs s s.heap) (hbl : b < s.heap.size) (hr : meth.sig.returnType = ret) (ox : Nat) (tp : Nat) (nw : Nat) (rw : Nat) (lg : Nat) (jd : Nat) (pr : Nat) (n1 : Nat) (n2 : Nat) (r1 : Nat) (r2 : Nat) (r3 : Nat) (s1 : Nat) (s2 : Nat) (s3 : Nat) (s4 : Nat) (s5 : Nat) (s6 : Nat) (s7 : Nat) (s8 : Nat) (s9 : Nat) (b1 : Nat) (b2 : Nat) (b3 : Nat) (b4 : Nat) (b5 : Nat) (b6 : Nat) (om : Nat) (fs : List Value) (q_tick : Nat) (q_count : Nat) (q_kept : Nat) (q_isKnown : Nat) (q_knownX : Nat) (q_knownKey : Nat) (q_store : Nat) (q_key : Nat) (q_keyX : Nat) (q_keyAnswer : Nat) (q_keyTick : Nat) (q_knownWord : Nat) (q_knownPlace : Nat) (q_knownWorth : Nat) (q_onceStore : Nat) (q_mends : Nat) (q_keptMends : Nat) (h21 : fs[21]? = some (.int 0)) (h52 : fs[52]? = some (.int 0)) (h30 : fs[30]? = some (.int 0)) (h60 : fs[60]? = some (.int 0)) (h0 : fs[0]? = some (.int 0)) (h14 : fs[14]? = some (.ref q_tick)) (h8 : fs[8]? = some (.ref q_count)) (h9 : fs[9]? = some (.ref q_kept)) (h20 : fs[20]? = some (.ref q_isKnown)) (h15 : fs[15]? = some (.ref q_knownX)) (h16 : fs[16]? = some (.ref q_knownKey)) (h7 : fs[7]? = some (.ref q_store)) (h10 : fs[10]? = some (.ref q_key)) (h11 : fs[11]? = some (.ref q_keyX)) (h12 : fs[12]? = some (.ref q_keyAnswer)) (h13 : fs[13]? = some (.ref q_keyTick)) (h17 : fs[17]? = some (.ref q_knownWord)) (h18 : fs[18]? = some (.ref q_knownPlace)) (h19 : fs[19]? = some (.ref q_knownWorth)) (h57 : fs[57]? = some (.ref q_onceStore)) (h5 : fs[5]? = some (.ref q_mends)) (h66 : fs[66]? = some (.ref q_keptMends)) (hV : Vx D A s.heap H locs [(ox, .inr (6, [.ref tp, .ref nw, .ref rw, .ref lg, .ref jd, .ref pr, .int 0])), (nw, .inr (5, [.ref n1, .int 0, .int 0, .ref n2, .int 0, .int 0, .int 0, .int 0])), (rw, .inr (0, [.ref r1, .ref r2, .ref r3, .int 0])), (jd, .inr (1, [.ref s1, .ref s2, .ref s3, .ref b1, .ref b2, .ref b3, .int 0, .ref b4, .ref b5, .ref b6])), (s1, .inr (5, [.ref s4, .int 0, .int 0, .ref s5, .int 0, .int 0, .int 0, .int 0])), (s2, .inr (5, [.ref s6, .int 0, .int 0, .ref s7, .int 0, .int 0, .int 0, .int 0])), (s3, .inr (5, [.ref s8, .int 0, .int 0, .ref s9, .int 0, .int 0, .int 0, .int 0])), (om, .inr (7, fs)), (q_tick, .inl (cI, 2, .inl (fun _ => 0))), (q_count, .inl (cI, 12, .inl (fun _ => 0))), (q_kept, .inl (cI, 12, .inl (fun _ => 0))), (q_isKnown, .inl (cZ, 12, .inl (fun _ => 0))), (q_knownX, .inl (cI, 12, .inl (fun _ => 0))), (q_knownKey, .inl (cI, 12, .inl (fun _ => 0))), (q_store, .inl (cI, 48, .inl (fun _ => 0))), (q_key, .inl (cI, 192, .inl (fun _ => 0))), (q_keyX, .inl (cI, 192, .inl (fun _ => 0))), (q_keyAnswer, .inl (cI, 192, .inl (fun _ => 0))), (q_keyTick, .inl (cI, 192, .inl (fun _ => 0))), (q_knownWord, .inl (cI, 96, .inl (fun _ => 0))), (q_knownPlace, .inl (cI, 96, .inl (fun _ => 0))), (q_knownWorth, .inl (cI, 96, .inl (fun _ => 0))), (q_onceStore, .inl (cI, 30, .inl (fun _ => 0))), (q_mends, .inl (cI, 6, .inl (fun _ => 0))), (q_keptMends, .inl (cI, 6, .inl (fun _ => 0)))]) (hl : lv_has ls 4 [(3, .int 0), (2, .ref om), (1, .ref ox), (0, .ref b)]) : W p l e room_1 s m #[Value.ref b] below meth c H locs 397 43468 (lw_Z below #[Value.ref b] s) (F0 m 724 ls []) := by
  have hx := hB.1
  have hb := hB.2.1
  refine lv_aload_n hx hb dL_law_724 rfl (lv_at hl 2 rfl) ?_
  refine lv_aload_n hx hb dL_law_725 rfl (lv_at hl 3 rfl) ?_
  refine lv_iload_n hx hb dL_law_726 rfl (lv_at hl 0 rfl) ?_
  refine lv_iconst (v := 1) hx hb dL_law_727 (by decide) ?_
  refine lv_iadd hx hb dL_law_728 ?_
  refine x_ev (y := 1) (by decide) ?_
  refine va_sld hx hb hX hbl (fun q => Nat.not_le.mpr hbl (hAs _ q)) hV.2.2 (by unfold vp_in; decide) dL_law_729 ?_
  refine x_ev (y := xs 1) rfl ?_
  refine x_callV (n := 1) (wr := [(om, .inr (7, fs)), (q_tick, .inl (cI, 2, .inl (fun _ => 0))), (q_count, .inl (cI, 12, .inl (fun _ => 0))), (q_kept, .inl (cI, 12, .inl (fun _ => 0))), (q_isKnown, .inl (cZ, 12, .inl (fun _ => 0))), (q_knownX, .inl (cI, 12, .inl (fun _ => 0))), (q_knownKey, .inl (cI, 12, .inl (fun _ => 0))), (q_store, .inl (cI, 48, .inl (fun _ => 0))), (q_key, .inl (cI, 192, .inl (fun _ => 0))), (q_keyX, .inl (cI, 192, .inl (fun _ => 0))), (q_keyAnswer, .inl (cI, 192, .inl (fun _ => 0))), (q_keyTick, .inl (cI, 192, .inl (fun _ => 0))), (q_knownWord, .inl (cI, 96, .inl (fun _ => 0))), (q_knownPlace, .inl (cI, 96, .inl (fun _ => 0))), (q_knownWorth, .inl (cI, 96, .inl (fun _ => 0))), (q_onceStore, .inl (cI, 30, .inl (fun _ => 0))), (q_mends, .inl (cI, 6, .inl (fun _ => 0))), (q_keptMends, .inl (cI, 6, .inl (fun _ => 0)))]) (q0 := 0) (As := [.int (xs 1)]) (rest := []) hB hV (x_N hB) hl.1 (p_cheapest l D cI cZ cS N0 ox tp nw rw lg jd pr n1 n2 r1 r2 r3 s1 s2 s3 s4 s5 s6 s7 s8 s9 b1 b2 b3 b4 b5 b6 (xs 1) ) rfl rfl k_680 k_57 k_677 k_678 k_679 (by decide +kernel) ⟨(Nat.le_of_ble_eq_true rfl), (Nat.le_of_ble_eq_true rfl)⟩ rfl (Nat.le_of_ble_eq_true rfl) ⟨(Nat.le_of_ble_eq_true rfl), (Nat.le_of_ble_eq_true rfl)⟩ [0, 1, 2, 3, 4, 5, 6] [7, 8, 9, 10, 11, 12, 13, 14, 15, 16, 17, 18, 19, 20, 21, 22, 23, 24] rfl rfl rfl ⟨by decide, by decide, by decide⟩ dL_law_730 (fun v w H locs hp hV => ?_)
  obtain ⟨r_1, rfl, rfl, f_2⟩ := hp
  have hV : Vx D A s.heap H locs [(om, .inr (7, fs)), (q_tick, .inl (cI, 2, .inl (fun _ => 0))), (q_count, .inl (cI, 12, .inl (fun _ => 0))), (q_kept, .inl (cI, 12, .inl (fun _ => 0))), (q_isKnown, .inl (cZ, 12, .inl (fun _ => 0))), (q_knownX, .inl (cI, 12, .inl (fun _ => 0))), (q_knownKey, .inl (cI, 12, .inl (fun _ => 0))), (q_store, .inl (cI, 48, .inl (fun _ => 0))), (q_key, .inl (cI, 192, .inl (fun _ => 0))), (q_keyX, .inl (cI, 192, .inl (fun _ => 0))), (q_keyAnswer, .inl (cI, 192, .inl (fun _ => 0))), (q_keyTick, .inl (cI, 192, .inl (fun _ => 0))), (q_knownWord, .inl (cI, 96, .inl (fun _ => 0))), (q_knownPlace, .inl (cI, 96, .inl (fun _ => 0))), (q_knownWorth, .inl (cI, 96, .inl (fun _ => 0))), (q_onceStore, .inl (cI, 30, .inl (fun _ => 0))), (q_mends, .inl (cI, 6, .inl (fun _ => 0))), (q_keptMends, .inl (cI, 6, .inl (fun _ => 0)))] := hV
  refine W.eq (g2 := F0 m 733 ls [.int r_1]) rfl ?_
  refine lv_aload_n hx hb dL_law_733 rfl (lv_at hl 1 rfl) ?_
  refine lv_aload_n hx hb dL_law_734 rfl (lv_at hl 3 rfl) ?_
  refine lv_iload_n hx hb dL_law_735 rfl (lv_at hl 0 rfl) ?_
  refine lv_iconst (v := 1) hx hb dL_law_736 (by decide) ?_
  refine lv_iadd hx hb dL_law_737 ?_
  refine x_ev (y := 1) (by decide) ?_
  refine va_sld hx hb hX hbl (fun q => Nat.not_le.mpr hbl (hAs _ q)) hV.2.2 (by unfold vp_in; decide) dL_law_738 ?_
  refine x_ev (y := xs 1) rfl ?_
  refine x_callV (n := 1) (wr := []) (q0 := 0) (As := [.int (xs 1)]) (rest := [.int r_1]) hB hV (x_N hB) hl.1 (m_cheapest l D cI cZ cS N0 om fs q_tick q_count q_kept q_isKnown q_knownX q_knownKey q_store q_key q_keyX q_keyAnswer q_keyTick q_knownWord q_knownPlace q_knownWorth q_onceStore q_mends q_keptMends (xs 1) h21 h52 h30 h60 h0 h14 h8 h9 h20 h15 h16 h7 h10 h11 h12 h13 h17 h18 h19 h57 h5 h66) rfl rfl k_1162 k_65 k_1159 k_1160 k_1161 (by decide +kernel) ⟨(Nat.le_of_ble_eq_true rfl), (Nat.le_of_ble_eq_true rfl)⟩ rfl (Nat.le_of_ble_eq_true rfl) ⟨(Nat.le_of_ble_eq_true rfl), (Nat.le_of_ble_eq_true rfl)⟩ [0, 1, 2, 3, 4, 5, 6, 7, 8, 9, 10, 11, 12, 13, 14, 15, 16, 17] [] rfl rfl rfl ⟨by decide, by decide, by decide⟩ dL_law_739 (fun v w H locs hp hV => ?_)
  obtain ⟨r_3, rfl, rfl, f_4⟩ := hp
  have hV : Vx D A s.heap H locs [] := hV
  refine W.eq (g2 := F0 m 742 ls [.int r_3, .int r_1]) rfl ?_
  refine lv_icmp_eq (tgt := 829) hx hb dL_law_742 (by decide) (fun c_ => ?_) (fun c_ => absurd (f_2.trans f_4.symm) c_)
  exact law_tail hB hAs hX hbl hr (Nat.le_of_ble_eq_true rfl) (Nat.le_of_ble_eq_true rfl) hV (lv_sub hl [0, 3] rfl)
set_option maxHeartbeats 4000000 in
set_option maxRecDepth 100000 in
/-- again -/
theorem law_19 {p : Program} {l : Launch} {e : Env} {s : State} {m : MethodId} {below : List Frame} {meth : Method} {c : Code} {D : va_G} {cI cZ cS : ClassId} {A : Nat → Prop} {N0 : NT} {b : Nat} {xs : Nat → Int32} {H : Heap} {locs : List Loc} {ls : Array Slot} (hB : Bx p s m meth c #[Value.ref b] code 4 RL D cI cZ cS A N0) (hAs : ∀ q, A q → s.heap.size ≤ q) (hX : va_X b 5 xs s s.heap) (hbl : b < s.heap.size) (hr : meth.sig.returnType = ret) (ox : Nat) (tp : Nat) (nw : Nat) (rw : Nat) (lg : Nat) (jd : Nat) (pr : Nat) (n1 : Nat) (n2 : Nat) (l1 : Nat) (l2 : Nat) (l3 : Nat) (s1 : Nat) (s2 : Nat) (s3 : Nat) (s4 : Nat) (s5 : Nat) (s6 : Nat) (s7 : Nat) (s8 : Nat) (s9 : Nat) (b1 : Nat) (b2 : Nat) (b3 : Nat) (b4 : Nat) (b5 : Nat) (b6 : Nat) (om : Nat) (fs : List Value) (q_tick : Nat) (q_count : Nat) (q_kept : Nat) (q_isKnown : Nat) (q_knownX : Nat) (q_knownKey : Nat) (q_store : Nat) (q_key : Nat) (q_keyX : Nat) (q_keyAnswer : Nat) (q_keyTick : Nat) (q_knownWord : Nat) (q_knownPlace : Nat) (q_knownWorth : Nat) (h21 : fs[21]? = some (.int 0)) (h52 : fs[52]? = some (.int 0)) (h24 : fs[24]? = some (.int 0)) (h14 : fs[14]? = some (.ref q_tick)) (h8 : fs[8]? = some (.ref q_count)) (h9 : fs[9]? = some (.ref q_kept)) (h20 : fs[20]? = some (.ref q_isKnown)) (h15 : fs[15]? = some (.ref q_knownX)) (h16 : fs[16]? = some (.ref q_knownKey)) (h7 : fs[7]? = some (.ref q_store)) (h10 : fs[10]? = some (.ref q_key)) (h11 : fs[11]? = some (.ref q_keyX)) (h12 : fs[12]? = some (.ref q_keyAnswer)) (h13 : fs[13]? = some (.ref q_keyTick)) (h17 : fs[17]? = some (.ref q_knownWord)) (h18 : fs[18]? = some (.ref q_knownPlace)) (h19 : fs[19]? = some (.ref q_knownWorth)) (hV : Vx D A s.heap H locs [(ox, .inr (6, [.ref tp, .ref nw, .ref rw, .ref lg, .ref jd, .ref pr, .int 0])), (nw, .inr (5, [.ref n1, .int 0, .int 0, .ref n2, .int 0, .int 0, .int 0, .int 0])), (lg, .inr (0, [.ref l1, .ref l2, .ref l3, .int 0])), (jd, .inr (1, [.ref s1, .ref s2, .ref s3, .ref b1, .ref b2, .ref b3, .int 0, .ref b4, .ref b5, .ref b6])), (s1, .inr (5, [.ref s4, .int 0, .int 0, .ref s5, .int 0, .int 0, .int 0, .int 0])), (s2, .inr (5, [.ref s6, .int 0, .int 0, .ref s7, .int 0, .int 0, .int 0, .int 0])), (s3, .inr (5, [.ref s8, .int 0, .int 0, .ref s9, .int 0, .int 0, .int 0, .int 0])), (om, .inr (7, fs)), (q_tick, .inl (cI, 2, .inl (fun _ => 0))), (q_count, .inl (cI, 12, .inl (fun _ => 0))), (q_kept, .inl (cI, 12, .inl (fun _ => 0))), (q_isKnown, .inl (cZ, 12, .inl (fun _ => 0))), (q_knownX, .inl (cI, 12, .inl (fun _ => 0))), (q_knownKey, .inl (cI, 12, .inl (fun _ => 0))), (q_store, .inl (cI, 48, .inl (fun _ => 0))), (q_key, .inl (cI, 192, .inl (fun _ => 0))), (q_keyX, .inl (cI, 192, .inl (fun _ => 0))), (q_keyAnswer, .inl (cI, 192, .inl (fun _ => 0))), (q_keyTick, .inl (cI, 192, .inl (fun _ => 0))), (q_knownWord, .inl (cI, 96, .inl (fun _ => 0))), (q_knownPlace, .inl (cI, 96, .inl (fun _ => 0))), (q_knownWorth, .inl (cI, 96, .inl (fun _ => 0)))]) (hl : lv_has ls 4 [(3, .int 0), (2, .ref om), (1, .ref ox), (0, .ref b)]) : W p l e room_1 s m #[Value.ref b] below meth c H locs 397 43468 (lw_Z below #[Value.ref b] s) (F0 m 747 ls []) := by
  have hx := hB.1
  have hb := hB.2.1
  refine lv_aload_n hx hb dL_law_747 rfl (lv_at hl 2 rfl) ?_
  refine x_callV (n := 0) (wr := [(om, .inr (7, fs)), (q_tick, .inl (cI, 2, .inl (fun _ => 0))), (q_count, .inl (cI, 12, .inl (fun _ => 0))), (q_kept, .inl (cI, 12, .inl (fun _ => 0))), (q_isKnown, .inl (cZ, 12, .inl (fun _ => 0))), (q_knownX, .inl (cI, 12, .inl (fun _ => 0))), (q_knownKey, .inl (cI, 12, .inl (fun _ => 0))), (q_store, .inl (cI, 48, .inl (fun _ => 0))), (q_key, .inl (cI, 192, .inl (fun _ => 0))), (q_keyX, .inl (cI, 192, .inl (fun _ => 0))), (q_keyAnswer, .inl (cI, 192, .inl (fun _ => 0))), (q_keyTick, .inl (cI, 192, .inl (fun _ => 0))), (q_knownWord, .inl (cI, 96, .inl (fun _ => 0))), (q_knownPlace, .inl (cI, 96, .inl (fun _ => 0))), (q_knownWorth, .inl (cI, 96, .inl (fun _ => 0)))]) (q0 := 0) (As := []) (rest := []) hB hV (x_N hB) hl.1 (p_again l D cI cZ cS N0 ox tp nw rw lg jd pr n1 n2 l1 l2 l3 s1 s2 s3 s4 s5 s6 s7 s8 s9 b1 b2 b3 b4 b5 b6 ) rfl rfl k_714 k_57 k_711 k_712 k_713 (by decide +kernel) ⟨(Nat.le_of_ble_eq_true rfl), (Nat.le_of_ble_eq_true rfl)⟩ rfl (Nat.le_of_ble_eq_true rfl) ⟨(Nat.le_of_ble_eq_true rfl), (Nat.le_of_ble_eq_true rfl)⟩ [0, 1, 2, 3, 4, 5, 6] [7, 8, 9, 10, 11, 12, 13, 14, 15, 16, 17, 18, 19, 20, 21] rfl rfl rfl ⟨by decide, by decide, by decide⟩ dL_law_748 (fun v w H locs hp hV => ?_)
  obtain ⟨rfl, rfl⟩ := hp
  have hV : Vx D A s.heap H locs [(om, .inr (7, fs)), (q_tick, .inl (cI, 2, .inl (fun _ => 0))), (q_count, .inl (cI, 12, .inl (fun _ => 0))), (q_kept, .inl (cI, 12, .inl (fun _ => 0))), (q_isKnown, .inl (cZ, 12, .inl (fun _ => 0))), (q_knownX, .inl (cI, 12, .inl (fun _ => 0))), (q_knownKey, .inl (cI, 12, .inl (fun _ => 0))), (q_store, .inl (cI, 48, .inl (fun _ => 0))), (q_key, .inl (cI, 192, .inl (fun _ => 0))), (q_keyX, .inl (cI, 192, .inl (fun _ => 0))), (q_keyAnswer, .inl (cI, 192, .inl (fun _ => 0))), (q_keyTick, .inl (cI, 192, .inl (fun _ => 0))), (q_knownWord, .inl (cI, 96, .inl (fun _ => 0))), (q_knownPlace, .inl (cI, 96, .inl (fun _ => 0))), (q_knownWorth, .inl (cI, 96, .inl (fun _ => 0)))] := hV
  refine W.eq (g2 := F0 m 751 ls [.int 1]) rfl ?_
  refine lv_aload_n hx hb dL_law_751 rfl (lv_at hl 1 rfl) ?_
  refine x_callV (n := 0) (wr := []) (q0 := 0) (As := []) (rest := [.int 1]) hB hV (x_N hB) hl.1 (m_again l D cI cZ cS N0 om fs q_tick q_count q_kept q_isKnown q_knownX q_knownKey q_store q_key q_keyX q_keyAnswer q_keyTick q_knownWord q_knownPlace q_knownWorth h21 h52 h24 h14 h8 h9 h20 h15 h16 h7 h10 h11 h12 h13 h17 h18 h19) rfl rfl k_1177 k_65 k_1174 k_1175 k_1176 (by decide +kernel) ⟨(Nat.le_of_ble_eq_true rfl), (Nat.le_of_ble_eq_true rfl)⟩ rfl (Nat.le_of_ble_eq_true rfl) ⟨(Nat.le_of_ble_eq_true rfl), (Nat.le_of_ble_eq_true rfl)⟩ [0, 1, 2, 3, 4, 5, 6, 7, 8, 9, 10, 11, 12, 13, 14] [] rfl rfl rfl ⟨by decide, by decide, by decide⟩ dL_law_752 (fun v w H locs hp hV => ?_)
  obtain ⟨rfl, rfl⟩ := hp
  have hV : Vx D A s.heap H locs [] := hV
  refine W.eq (g2 := F0 m 755 ls [.int 1, .int 1]) rfl ?_
  refine lv_icmp_eq (tgt := 829) hx hb dL_law_755 (by decide) (fun c_ => ?_) (fun c_ => absurd (by decide) c_)
  exact law_tail hB hAs hX hbl hr (Nat.le_of_ble_eq_true rfl) (Nat.le_of_ble_eq_true rfl) hV (lv_sub hl [0, 3] rfl)
set_option maxHeartbeats 4000000 in
set_option maxRecDepth 100000 in
/-- log -/
theorem law_20 {p : Program} {l : Launch} {e : Env} {s : State} {m : MethodId} {below : List Frame} {meth : Method} {c : Code} {D : va_G} {cI cZ cS : ClassId} {A : Nat → Prop} {N0 : NT} {b : Nat} {xs : Nat → Int32} {H : Heap} {locs : List Loc} {ls : Array Slot} (hB : Bx p s m meth c #[Value.ref b] code 4 RL D cI cZ cS A N0) (hAs : ∀ q, A q → s.heap.size ≤ q) (hX : va_X b 5 xs s s.heap) (hbl : b < s.heap.size) (hr : meth.sig.returnType = ret) (ox : Nat) (tp : Nat) (nw : Nat) (rw : Nat) (lg : Nat) (jd : Nat) (pr : Nat) (l1 : Nat) (l2 : Nat) (l3 : Nat) (om : Nat) (fs : List Value) (h24 : fs[24]? = some (.int 0)) (hV : Vx D A s.heap H locs [(ox, .inr (6, [.ref tp, .ref nw, .ref rw, .ref lg, .ref jd, .ref pr, .int 0])), (lg, .inr (0, [.ref l1, .ref l2, .ref l3, .int 0])), (om, .inr (7, fs))]) (hl : lv_has ls 4 [(3, .int 0), (2, .ref om), (1, .ref ox), (0, .ref b)]) : W p l e room_1 s m #[Value.ref b] below meth c H locs 397 43468 (lw_Z below #[Value.ref b] s) (F0 m 760 ls []) := by
  have hx := hB.1
  have hb := hB.2.1
  refine lv_aload_n hx hb dL_law_760 rfl (lv_at hl 2 rfl) ?_
  refine lv_aload_n hx hb dL_law_761 rfl (lv_at hl 3 rfl) ?_
  refine lv_iload_n hx hb dL_law_762 rfl (lv_at hl 0 rfl) ?_
  refine lv_iconst (v := 1) hx hb dL_law_763 (by decide) ?_
  refine lv_iadd hx hb dL_law_764 ?_
  refine x_ev (y := 1) (by decide) ?_
  refine va_sld hx hb hX hbl (fun q => Nat.not_le.mpr hbl (hAs _ q)) hV.2.2 (by unfold vp_in; decide) dL_law_765 ?_
  refine x_ev (y := xs 1) rfl ?_
  refine lv_aload_n hx hb dL_law_766 rfl (lv_at hl 3 rfl) ?_
  refine lv_iload_n hx hb dL_law_767 rfl (lv_at hl 0 rfl) ?_
  refine lv_iconst (v := 2) hx hb dL_law_768 (by decide) ?_
  refine lv_iadd hx hb dL_law_769 ?_
  refine x_ev (y := 2) (by decide) ?_
  refine va_sld hx hb hX hbl (fun q => Nat.not_le.mpr hbl (hAs _ q)) hV.2.2 (by unfold vp_in; decide) dL_law_770 ?_
  refine x_ev (y := xs 2) rfl ?_
  refine x_callV (n := 2) (wr := [(om, .inr (7, fs))]) (q0 := 0) (As := [.int (xs 1), .int (xs 2)]) (rest := []) hB hV (x_N hB) hl.1 (p_log l D cI cZ cS N0 ox tp nw rw lg jd pr l1 l2 l3 (xs 1) (xs 2) ) rfl rfl k_722 k_57 k_719 k_720 k_721 (by decide +kernel) ⟨(Nat.le_of_ble_eq_true rfl), (Nat.le_of_ble_eq_true rfl)⟩ rfl (Nat.le_of_ble_eq_true rfl) ⟨(Nat.le_of_ble_eq_true rfl), (Nat.le_of_ble_eq_true rfl)⟩ [0, 1] [2] rfl rfl rfl ⟨by decide, by decide, by decide⟩ dL_law_771 (fun v w H locs hp hV => ?_)
  obtain ⟨rfl, rfl⟩ := hp
  have hV : Vx D A s.heap H locs [(om, .inr (7, fs))] := hV
  refine W.eq (g2 := F0 m 774 ls [.int (-1)]) rfl ?_
  refine lv_aload_n hx hb dL_law_774 rfl (lv_at hl 1 rfl) ?_
  refine lv_aload_n hx hb dL_law_775 rfl (lv_at hl 3 rfl) ?_
  refine lv_iload_n hx hb dL_law_776 rfl (lv_at hl 0 rfl) ?_
  refine lv_iconst (v := 1) hx hb dL_law_777 (by decide) ?_
  refine lv_iadd hx hb dL_law_778 ?_
  refine x_ev (y := 1) (by decide) ?_
  refine va_sld hx hb hX hbl (fun q => Nat.not_le.mpr hbl (hAs _ q)) hV.2.2 (by unfold vp_in; decide) dL_law_779 ?_
  refine x_ev (y := xs 1) rfl ?_
  refine lv_aload_n hx hb dL_law_780 rfl (lv_at hl 3 rfl) ?_
  refine lv_iload_n hx hb dL_law_781 rfl (lv_at hl 0 rfl) ?_
  refine lv_iconst (v := 2) hx hb dL_law_782 (by decide) ?_
  refine lv_iadd hx hb dL_law_783 ?_
  refine x_ev (y := 2) (by decide) ?_
  refine va_sld hx hb hX hbl (fun q => Nat.not_le.mpr hbl (hAs _ q)) hV.2.2 (by unfold vp_in; decide) dL_law_784 ?_
  refine x_ev (y := xs 2) rfl ?_
  refine x_callV (n := 2) (wr := []) (q0 := 0) (As := [.int (xs 1), .int (xs 2)]) (rest := [.int (-1)]) hB hV (x_N hB) hl.1 (m_log l D cI cZ cS N0 om fs (xs 1) (xs 2) h24) rfl rfl k_1181 k_65 k_1178 k_1179 k_1180 (by decide +kernel) ⟨(Nat.le_of_ble_eq_true rfl), (Nat.le_of_ble_eq_true rfl)⟩ rfl (Nat.le_of_ble_eq_true rfl) ⟨(Nat.le_of_ble_eq_true rfl), (Nat.le_of_ble_eq_true rfl)⟩ [0] [] rfl rfl rfl ⟨by decide, by decide, by decide⟩ dL_law_785 (fun v w H locs hp hV => ?_)
  obtain ⟨rfl, rfl⟩ := hp
  have hV : Vx D A s.heap H locs [] := hV
  refine W.eq (g2 := F0 m 788 ls [.int (-1), .int (-1)]) rfl ?_
  refine lv_icmp_eq (tgt := 829) hx hb dL_law_788 (by decide) (fun c_ => ?_) (fun c_ => absurd (by decide) c_)
  exact law_tail hB hAs hX hbl hr (Nat.le_of_ble_eq_true rfl) (Nat.le_of_ble_eq_true rfl) hV (lv_sub hl [0, 3] rfl)
set_option maxHeartbeats 4000000 in
set_option maxRecDepth 100000 in
/-- reset -/
theorem law_21 {p : Program} {l : Launch} {e : Env} {s : State} {m : MethodId} {below : List Frame} {meth : Method} {c : Code} {D : va_G} {cI cZ cS : ClassId} {A : Nat → Prop} {N0 : NT} {b : Nat} {xs : Nat → Int32} {H : Heap} {locs : List Loc} {ls : Array Slot} (hB : Bx p s m meth c #[Value.ref b] code 4 RL D cI cZ cS A N0) (hAs : ∀ q, A q → s.heap.size ≤ q) (hX : va_X b 5 xs s s.heap) (hbl : b < s.heap.size) (hr : meth.sig.returnType = ret) (ox : Nat) (tp : Nat) (nw : Nat) (rw : Nat) (lg : Nat) (jd : Nat) (pr : Nat) (n1 : Nat) (n2 : Nat) (l1 : Nat) (l2 : Nat) (l3 : Nat) (om : Nat) (fs : List Value) (q_tick : Nat) (q_count : Nat) (q_kept : Nat) (q_isKnown : Nat) (q_store : Nat) (h24 : fs[24]? = some (.int 0)) (h22 : fs[22]? = some (.int 0)) (h14 : fs[14]? = some (.ref q_tick)) (h8 : fs[8]? = some (.ref q_count)) (h9 : fs[9]? = some (.ref q_kept)) (h20 : fs[20]? = some (.ref q_isKnown)) (h7 : fs[7]? = some (.ref q_store)) (hV : Vx D A s.heap H locs [(ox, .inr (6, [.ref tp, .ref nw, .ref rw, .ref lg, .ref jd, .ref pr, .int 0])), (nw, .inr (5, [.ref n1, .int 0, .int 0, .ref n2, .int 0, .int 0, .int 0, .int 0])), (lg, .inr (0, [.ref l1, .ref l2, .ref l3, .int 0])), (om, .inr (7, fs)), (q_tick, .inl (cI, 2, .inl (fun _ => 0))), (q_count, .inl (cI, 12, .inl (fun _ => 0))), (q_kept, .inl (cI, 12, .inl (fun _ => 0))), (q_isKnown, .inl (cZ, 12, .inl (fun _ => 0))), (q_store, .inl (cI, 48, .inl (fun _ => 0)))]) (hl : lv_has ls 4 [(3, .int 0), (2, .ref om), (1, .ref ox), (0, .ref b)]) : W p l e room_1 s m #[Value.ref b] below meth c H locs 397 43468 (lw_Z below #[Value.ref b] s) (F0 m 793 ls []) := by
  have hx := hB.1
  have hb := hB.2.1
  refine lv_aload_n hx hb dL_law_793 rfl (lv_at hl 2 rfl) ?_
  refine x_callV (n := 0) (wr := [(om, .inr (7, fs)), (q_tick, .inl (cI, 2, .inl (fun _ => 0))), (q_count, .inl (cI, 12, .inl (fun _ => 0))), (q_kept, .inl (cI, 12, .inl (fun _ => 0))), (q_isKnown, .inl (cZ, 12, .inl (fun _ => 0))), (q_store, .inl (cI, 48, .inl (fun _ => 0)))]) (q0 := 0) (As := []) (rest := []) hB hV (x_N hB) hl.1 (p_reset l D cI cZ cS N0 ox tp nw rw lg jd pr n1 n2 l1 l2 l3 ) rfl rfl k_726 k_57 k_723 k_724 k_725 (by decide +kernel) ⟨(Nat.le_of_ble_eq_true rfl), (Nat.le_of_ble_eq_true rfl)⟩ rfl (Nat.le_of_ble_eq_true rfl) ⟨(Nat.le_of_ble_eq_true rfl), (Nat.le_of_ble_eq_true rfl)⟩ [0, 1, 2] [3, 4, 5, 6, 7, 8] rfl rfl rfl ⟨by decide, by decide, by decide⟩ dL_law_794 (fun v w H locs hp hV => ?_)
  obtain ⟨rfl, rfl⟩ := hp
  have hV : Vx D A s.heap H locs [(om, .inr (7, fs)), (q_tick, .inl (cI, 2, .inl (fun _ => 0))), (q_count, .inl (cI, 12, .inl (fun _ => 0))), (q_kept, .inl (cI, 12, .inl (fun _ => 0))), (q_isKnown, .inl (cZ, 12, .inl (fun _ => 0))), (q_store, .inl (cI, 48, .inl (fun _ => 0)))] := hV
  refine W.eq (g2 := F0 m 797 ls [.int 0]) rfl ?_
  refine lv_aload_n hx hb dL_law_797 rfl (lv_at hl 1 rfl) ?_
  refine x_callV (n := 0) (wr := []) (q0 := 0) (As := []) (rest := [.int 0]) hB hV (x_N hB) hl.1 (m_reset l D cI cZ cS N0 om fs q_tick q_count q_kept q_isKnown q_store h24 h22 h14 h8 h9 h20 h7) rfl rfl k_1185 k_65 k_1182 k_1183 k_1184 (by decide +kernel) ⟨(Nat.le_of_ble_eq_true rfl), (Nat.le_of_ble_eq_true rfl)⟩ rfl (Nat.le_of_ble_eq_true rfl) ⟨(Nat.le_of_ble_eq_true rfl), (Nat.le_of_ble_eq_true rfl)⟩ [0, 1, 2, 3, 4, 5] [] rfl rfl rfl ⟨by decide, by decide, by decide⟩ dL_law_798 (fun v w H locs hp hV => ?_)
  obtain ⟨rfl, rfl⟩ := hp
  have hV : Vx D A s.heap H locs [] := hV
  refine W.eq (g2 := F0 m 801 ls [.int 0, .int 0]) rfl ?_
  refine lv_icmp_eq (tgt := 829) hx hb dL_law_801 (by decide) (fun c_ => ?_) (fun c_ => absurd (by decide) c_)
  exact law_tail hB hAs hX hbl hr (Nat.le_of_ble_eq_true rfl) (Nat.le_of_ble_eq_true rfl) hV (lv_sub hl [0, 3] rfl)
set_option maxHeartbeats 4000000 in
set_option maxRecDepth 100000 in
/-- count -/
theorem law_22 {p : Program} {l : Launch} {e : Env} {s : State} {m : MethodId} {below : List Frame} {meth : Method} {c : Code} {D : va_G} {cI cZ cS : ClassId} {A : Nat → Prop} {N0 : NT} {b : Nat} {xs : Nat → Int32} {H : Heap} {locs : List Loc} {ls : Array Slot} (hB : Bx p s m meth c #[Value.ref b] code 4 RL D cI cZ cS A N0) (hAs : ∀ q, A q → s.heap.size ≤ q) (hX : va_X b 5 xs s s.heap) (hbl : b < s.heap.size) (hr : meth.sig.returnType = ret) (ox : Nat) (tp : Nat) (nw : Nat) (rw : Nat) (lg : Nat) (jd : Nat) (pr : Nat) (n1 : Nat) (n2 : Nat) (r1 : Nat) (r2 : Nat) (r3 : Nat) (l1 : Nat) (l2 : Nat) (l3 : Nat) (byt : Nat) (om : Nat) (fs : List Value) (q_tick : Nat) (h0 : fs[0]? = some (.int 0)) (h30 : fs[30]? = some (.int 0)) (h22 : fs[22]? = some (.int 0)) (h24 : fs[24]? = some (.int 0)) (h29 : fs[29]? = some (.int 0)) (h14 : fs[14]? = some (.ref q_tick)) (hV : Vx D A s.heap H locs [(ox, .inr (6, [.ref tp, .ref nw, .ref rw, .ref lg, .ref jd, .ref pr, .int 0])), (nw, .inr (5, [.ref n1, .int 0, .int 0, .ref n2, .int 0, .int 0, .int 0, .int 0])), (rw, .inr (0, [.ref r1, .ref r2, .ref r3, .int 0])), (lg, .inr (0, [.ref l1, .ref l2, .ref l3, .int 0])), (tp, .inr (4, [.ref byt, .int 0, .int 0, .int 0])), (om, .inr (7, fs)), (q_tick, .inl (cI, 2, .inl (fun _ => 0)))]) (hl : lv_has ls 4 [(3, .int 0), (2, .ref om), (1, .ref ox), (0, .ref b)]) : W p l e room_1 s m #[Value.ref b] below meth c H locs 397 43468 (lw_Z below #[Value.ref b] s) (F0 m 806 ls []) := by
  have hx := hB.1
  have hb := hB.2.1
  refine lv_aload_n hx hb dL_law_806 rfl (lv_at hl 2 rfl) ?_
  refine lv_aload_n hx hb dL_law_807 rfl (lv_at hl 3 rfl) ?_
  refine lv_iload_n hx hb dL_law_808 rfl (lv_at hl 0 rfl) ?_
  refine lv_iconst (v := 1) hx hb dL_law_809 (by decide) ?_
  refine lv_iadd hx hb dL_law_810 ?_
  refine x_ev (y := 1) (by decide) ?_
  refine va_sld hx hb hX hbl (fun q => Nat.not_le.mpr hbl (hAs _ q)) hV.2.2 (by unfold vp_in; decide) dL_law_811 ?_
  refine x_ev (y := xs 1) rfl ?_
  refine x_callV (n := 1) (wr := [(om, .inr (7, fs)), (q_tick, .inl (cI, 2, .inl (fun _ => 0)))]) (q0 := 0) (As := [.int (xs 1)]) (rest := []) hB hV (x_N hB) hl.1 (p_count l D cI cZ cS N0 ox tp nw rw lg jd pr n1 n2 r1 r2 r3 l1 l2 l3 byt (xs 1) ) rfl rfl k_738 k_57 k_735 k_736 k_737 (by decide +kernel) ⟨(Nat.le_of_ble_eq_true rfl), (Nat.le_of_ble_eq_true rfl)⟩ rfl (Nat.le_of_ble_eq_true rfl) ⟨(Nat.le_of_ble_eq_true rfl), (Nat.le_of_ble_eq_true rfl)⟩ [0, 1, 2, 3, 4] [5, 6] rfl rfl rfl ⟨by decide, by decide, by decide⟩ dL_law_812 (fun v w H locs hp hV => ?_)
  obtain ⟨r_1, rfl, rfl, f_2⟩ := hp
  have hV : Vx D A s.heap H locs [(om, .inr (7, fs)), (q_tick, .inl (cI, 2, .inl (fun _ => 0)))] := hV
  refine W.eq (g2 := F0 m 815 ls [.int r_1]) rfl ?_
  refine lv_aload_n hx hb dL_law_815 rfl (lv_at hl 1 rfl) ?_
  refine lv_aload_n hx hb dL_law_816 rfl (lv_at hl 3 rfl) ?_
  refine lv_iload_n hx hb dL_law_817 rfl (lv_at hl 0 rfl) ?_
  refine lv_iconst (v := 1) hx hb dL_law_818 (by decide) ?_
  refine lv_iadd hx hb dL_law_819 ?_
  refine x_ev (y := 1) (by decide) ?_
  refine va_sld hx hb hX hbl (fun q => Nat.not_le.mpr hbl (hAs _ q)) hV.2.2 (by unfold vp_in; decide) dL_law_820 ?_
  refine x_ev (y := xs 1) rfl ?_
  refine x_callV (n := 1) (wr := []) (q0 := 0) (As := [.int (xs 1)]) (rest := [.int r_1]) hB hV (x_N hB) hl.1 (m_count l D cI cZ cS N0 om fs q_tick (xs 1) h0 h30 h22 h24 h29 h14) rfl rfl k_1189 k_65 k_1186 k_1187 k_1188 (by decide +kernel) ⟨(Nat.le_of_ble_eq_true rfl), (Nat.le_of_ble_eq_true rfl)⟩ rfl (Nat.le_of_ble_eq_true rfl) ⟨(Nat.le_of_ble_eq_true rfl), (Nat.le_of_ble_eq_true rfl)⟩ [0, 1] [] rfl rfl rfl ⟨by decide, by decide, by decide⟩ dL_law_821 (fun v w H locs hp hV => ?_)
  obtain ⟨r_3, rfl, rfl, f_4⟩ := hp
  have hV : Vx D A s.heap H locs [] := hV
  refine W.eq (g2 := F0 m 824 ls [.int r_3, .int r_1]) rfl ?_
  refine lv_icmp_eq (tgt := 829) hx hb dL_law_824 (by decide) (fun c_ => ?_) (fun c_ => absurd (f_2.trans f_4.symm) c_)
  exact law_tail hB hAs hX hbl hr (Nat.le_of_ble_eq_true rfl) (Nat.le_of_ble_eq_true rfl) hV (lv_sub hl [0, 3] rfl)
