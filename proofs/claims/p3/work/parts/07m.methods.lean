/-! methods: their words -/
set_option maxRecDepth 100000 in
theorem zmc_1 : lw_tbl[197]? = some (.code (zy 1) (zby 1) (zml 1) (zrt 1)) := rfl
set_option maxRecDepth 100000 in
theorem zmc_2 : lw_tbl[293]? = some (.code (zy 2) (zby 2) (zml 2) (zrt 2)) := rfl
set_option maxRecDepth 100000 in
theorem zmc_3 : lw_tbl[175]? = some (.code (zy 3) (zby 3) (zml 3) (zrt 3)) := rfl
set_option maxRecDepth 100000 in
theorem zmc_4 : lw_tbl[220]? = some (.code (zy 4) (zby 4) (zml 4) (zrt 4)) := rfl
set_option maxRecDepth 100000 in
theorem zmc_5 : lw_tbl[233]? = some (.code (zy 5) (zby 5) (zml 5) (zrt 5)) := rfl
set_option maxRecDepth 100000 in
theorem zmc_6 : lw_tbl[314]? = some (.code (zy 6) (zby 6) (zml 6) (zrt 6)) := rfl
set_option maxRecDepth 100000 in
theorem zmc_7 : lw_tbl[104]? = some (.code (zy 7) (zby 7) (zml 7) (zrt 7)) := rfl
set_option maxRecDepth 100000 in
theorem zmc_8 : lw_tbl[149]? = some (.code (zy 8) (zby 8) (zml 8) (zrt 8)) := rfl
set_option maxRecDepth 100000 in
theorem zmc_9 : lw_tbl[280]? = some (.code (zy 9) (zby 9) (zml 9) (zrt 9)) := rfl
set_option maxRecDepth 100000 in
theorem zmc_10 : lw_tbl[258]? = some (.code (zy 10) (zby 10) (zml 10) (zrt 10)) := rfl
set_option maxRecDepth 100000 in
theorem zmc_11 : lw_tbl[96]? = some (.code (zy 11) (zby 11) (zml 11) (zrt 11)) := rfl
set_option maxRecDepth 100000 in
theorem zmc_12 : lw_tbl[1027]? = some (.code (zy 12) (zby 12) (zml 12) (zrt 12)) := rfl
set_option maxRecDepth 100000 in
theorem zmc_13 : lw_tbl[440]? = some (.code (zy 13) (zby 13) (zml 13) (zrt 13)) := rfl
set_option maxRecDepth 100000 in
theorem zmc_14 : lw_tbl[444]? = some (.code (zy 14) (zby 14) (zml 14) (zrt 14)) := rfl
set_option maxRecDepth 100000 in
theorem zmc_15 : lw_tbl[888]? = some (.code (zy 15) (zby 15) (zml 15) (zrt 15)) := rfl
set_option maxRecDepth 100000 in
theorem zmc_16 : lw_tbl[896]? = some (.code (zy 16) (zby 16) (zml 16) (zrt 16)) := rfl
set_option maxRecDepth 100000 in
theorem zmc_17 : lw_tbl[908]? = some (.code (zy 17) (zby 17) (zml 17) (zrt 17)) := rfl
set_option maxRecDepth 100000 in
theorem zmc_18 : lw_tbl[920]? = some (.code (zy 18) (zby 18) (zml 18) (zrt 18)) := rfl
set_option maxRecDepth 100000 in
theorem zmc_19 : lw_tbl[904]? = some (.code (zy 19) (zby 19) (zml 19) (zrt 19)) := rfl
set_option maxRecDepth 100000 in
theorem zmc_20 : lw_tbl[1014]? = some (.code (zy 20) (zby 20) (zml 20) (zrt 20)) := rfl
set_option maxRecDepth 100000 in
theorem zmc_21 : lw_tbl[1018]? = some (.code (zy 21) (zby 21) (zml 21) (zrt 21)) := rfl
set_option maxRecDepth 100000 in
theorem zmc_22 : lw_tbl[943]? = some (.code (zy 22) (zby 22) (zml 22) (zrt 22)) := rfl
set_option maxRecDepth 100000 in
theorem zmc_23 : lw_tbl[916]? = some (.code (zy 23) (zby 23) (zml 23) (zrt 23)) := rfl
set_option maxRecDepth 100000 in
theorem zmc_24 : lw_tbl[927]? = some (.code (zy 24) (zby 24) (zml 24) (zrt 24)) := rfl
set_option maxRecDepth 100000 in
theorem zmc_25 : lw_tbl[935]? = some (.code (zy 25) (zby 25) (zml 25) (zrt 25)) := rfl
set_option maxRecDepth 100000 in
theorem zmc_26 : lw_tbl[924]? = some (.code (zy 26) (zby 26) (zml 26) (zrt 26)) := rfl
set_option maxRecDepth 100000 in
theorem zmc_27 : lw_tbl[507]? = some (.code (zy 27) (zby 27) (zml 27) (zrt 27)) := rfl
set_option maxRecDepth 100000 in
theorem zmc_28 : lw_tbl[522]? = some (.code (zy 28) (zby 28) (zml 28) (zrt 28)) := rfl
set_option maxRecDepth 100000 in
theorem zmc_29 : lw_tbl[576]? = some (.code (zy 29) (zby 29) (zml 29) (zrt 29)) := rfl
set_option maxRecDepth 100000 in
theorem zmc_30 : lw_tbl[587]? = some (.code (zy 30) (zby 30) (zml 30) (zrt 30)) := rfl
set_option maxRecDepth 100000 in
theorem zmc_31 : lw_tbl[580]? = some (.code (zy 31) (zby 31) (zml 31) (zrt 31)) := rfl
set_option maxRecDepth 100000 in
theorem zmc_32 : lw_tbl[584]? = some (.code (zy 32) (zby 32) (zml 32) (zrt 32)) := rfl
set_option maxRecDepth 100000 in
theorem zmc_33 : lw_tbl[639]? = some (.code (zy 33) (zby 33) (zml 33) (zrt 33)) := rfl
set_option maxRecDepth 100000 in
theorem zmc_34 : lw_tbl[642]? = some (.code (zy 34) (zby 34) (zml 34) (zrt 34)) := rfl
set_option maxRecDepth 100000 in
theorem zmc_35 : lw_tbl[647]? = some (.code (zy 35) (zby 35) (zml 35) (zrt 35)) := rfl
set_option maxRecDepth 100000 in
theorem zmc_36 : lw_tbl[657]? = some (.code (zy 36) (zby 36) (zml 36) (zrt 36)) := rfl
set_option maxRecDepth 100000 in
theorem zmc_37 : lw_tbl[661]? = some (.code (zy 37) (zby 37) (zml 37) (zrt 37)) := rfl
set_option maxRecDepth 100000 in
theorem zmc_38 : lw_tbl[665]? = some (.code (zy 38) (zby 38) (zml 38) (zrt 38)) := rfl
set_option maxRecDepth 100000 in
theorem zmc_39 : lw_tbl[669]? = some (.code (zy 39) (zby 39) (zml 39) (zrt 39)) := rfl
set_option maxRecDepth 100000 in
theorem zmc_40 : lw_tbl[674]? = some (.code (zy 40) (zby 40) (zml 40) (zrt 40)) := rfl
set_option maxRecDepth 100000 in
theorem zmc_41 : lw_tbl[678]? = some (.code (zy 41) (zby 41) (zml 41) (zrt 41)) := rfl
set_option maxRecDepth 100000 in
theorem zmc_42 : lw_tbl[718]? = some (.code (zy 42) (zby 42) (zml 42) (zrt 42)) := rfl
set_option maxRecDepth 100000 in
theorem zmc_43 : lw_tbl[721]? = some (.code (zy 43) (zby 43) (zml 43) (zrt 43)) := rfl
set_option maxRecDepth 100000 in
theorem zmc_44 : lw_tbl[724]? = some (.code (zy 44) (zby 44) (zml 44) (zrt 44)) := rfl
set_option maxRecDepth 100000 in
theorem zmc_45 : lw_tbl[729]? = some (.code (zy 45) (zby 45) (zml 45) (zrt 45)) := rfl
set_option maxRecDepth 100000 in
theorem zmc_46 : lw_tbl[737]? = some (.code (zy 46) (zby 46) (zml 46) (zrt 46)) := rfl
set_option maxRecDepth 100000 in
theorem zmc_47 : lw_tbl[748]? = some (.code (zy 47) (zby 47) (zml 47) (zrt 47)) := rfl
set_option maxRecDepth 100000 in
theorem zmc_48 : lw_tbl[757]? = some (.code (zy 48) (zby 48) (zml 48) (zrt 48)) := rfl
set_option maxRecDepth 100000 in
theorem zmc_49 : lw_tbl[752]? = some (.code (zy 49) (zby 49) (zml 49) (zrt 49)) := rfl
set_option maxRecDepth 100000 in
theorem zmc_50 : lw_tbl[393]? = some (.code (zy 50) (zby 50) (zml 50) (zrt 50)) := rfl
set_option maxRecDepth 100000 in
theorem zmc_51 : lw_tbl[960]? = some (.code (zy 51) (zby 51) (zml 51) (zrt 51)) := rfl
set_option maxRecDepth 100000 in
theorem zmc_52 : lw_tbl[397]? = some (.code (zy 52) (zby 52) (zml 52) (zrt 52)) := rfl
set_option maxRecDepth 100000 in
theorem zmc_53 : lw_tbl[765]? = some (.code (zy 53) (zby 53) (zml 53) (zrt 53)) := rfl
set_option maxRecDepth 100000 in
theorem zmc_54 : lw_tbl[401]? = some (.code (zy 54) (zby 54) (zml 54) (zrt 54)) := rfl
set_option maxRecDepth 100000 in
theorem zmc_55 : lw_tbl[992]? = some (.code (zy 55) (zby 55) (zml 55) (zrt 55)) := rfl
set_option maxRecDepth 100000 in
theorem zmc_56 : lw_tbl[769]? = some (.code (zy 56) (zby 56) (zml 56) (zrt 56)) := rfl
set_option maxRecDepth 100000 in
theorem zmc_57 : lw_tbl[405]? = some (.code (zy 57) (zby 57) (zml 57) (zrt 57)) := rfl
set_option maxRecDepth 100000 in
theorem zmc_58 : lw_tbl[996]? = some (.code (zy 58) (zby 58) (zml 58) (zrt 58)) := rfl
set_option maxRecDepth 100000 in
theorem zmc_59 : lw_tbl[1010]? = some (.code (zy 59) (zby 59) (zml 59) (zrt 59)) := rfl
set_option maxRecDepth 100000 in
theorem zmc_60 : lw_tbl[952]? = some (.code (zy 60) (zby 60) (zml 60) (zrt 60)) := rfl
set_option maxRecDepth 100000 in
theorem zmc_61 : lw_tbl[964]? = some (.code (zy 61) (zby 61) (zml 61) (zrt 61)) := rfl
set_option maxRecDepth 100000 in
theorem zmc_62 : lw_tbl[409]? = some (.code (zy 62) (zby 62) (zml 62) (zrt 62)) := rfl
set_option maxRecDepth 100000 in
theorem zmc_63 : lw_tbl[976]? = some (.code (zy 63) (zby 63) (zml 63) (zrt 63)) := rfl
set_option maxRecDepth 100000 in
theorem zmc_64 : lw_tbl[979]? = some (.code (zy 64) (zby 64) (zml 64) (zrt 64)) := rfl
set_option maxRecDepth 100000 in
theorem zmc_65 : lw_tbl[1000]? = some (.code (zy 65) (zby 65) (zml 65) (zrt 65)) := rfl
set_option maxRecDepth 100000 in
theorem zmc_66 : lw_tbl[558]? = some (.code (zy 66) (zby 66) (zml 66) (zrt 66)) := rfl
set_option maxRecDepth 100000 in
theorem zmc_67 : lw_tbl[880]? = some (.code (zy 67) (zby 67) (zml 67) (zrt 67)) := rfl
set_option maxRecDepth 100000 in
theorem zmc_68 : lw_tbl[377]? = some (.code (zy 68) (zby 68) (zml 68) (zrt 68)) := rfl
set_option maxRecDepth 100000 in
theorem zmc_69 : lw_tbl[385]? = some (.code (zy 69) (zby 69) (zml 69) (zrt 69)) := rfl
set_option maxRecDepth 100000 in
theorem zmc_70 : lw_tbl[550]? = some (.code (zy 70) (zby 70) (zml 70) (zrt 70)) := rfl
set_option maxRecDepth 100000 in
theorem zmc_71 : lw_tbl[455]? = some (.code (zy 71) (zby 71) (zml 71) (zrt 71)) := rfl
set_option maxRecDepth 100000 in
theorem zmc_72 : lw_tbl[714]? = some (.code (zy 72) (zby 72) (zml 72) (zrt 72)) := rfl
set_option maxRecDepth 100000 in
theorem zmc_73 : lw_tbl[423]? = some (.code (zy 73) (zby 73) (zml 73) (zrt 73)) := rfl
set_option maxRecDepth 100000 in
theorem zmc_74 : lw_tbl[417]? = some (.code (zy 74) (zby 74) (zml 74) (zrt 74)) := rfl
set_option maxRecDepth 100000 in
theorem zmc_75 : lw_tbl[427]? = some (.code (zy 75) (zby 75) (zml 75) (zrt 75)) := rfl
set_option maxRecDepth 100000 in
theorem zmc_76 : lw_tbl[431]? = some (.code (zy 76) (zby 76) (zml 76) (zrt 76)) := rfl
set_option maxRecDepth 100000 in
theorem zmc_77 : lw_tbl[690]? = some (.code (zy 77) (zby 77) (zml 77) (zrt 77)) := rfl
set_option maxRecDepth 100000 in
theorem zmc_78 : lw_tbl[698]? = some (.code (zy 78) (zby 78) (zml 78) (zrt 78)) := rfl
set_option maxRecDepth 100000 in
theorem zmc_79 : lw_tbl[464]? = some (.code (zy 79) (zby 79) (zml 79) (zrt 79)) := rfl
set_option maxRecDepth 100000 in
theorem zmc_80 : lw_tbl[799]? = some (.code (zy 80) (zby 80) (zml 80) (zrt 80)) := rfl
set_option maxRecDepth 100000 in
theorem zmc_81 : lw_tbl[795]? = some (.code (zy 81) (zby 81) (zml 81) (zrt 81)) := rfl
set_option maxRecDepth 100000 in
theorem zmc_82 : lw_tbl[631]? = some (.code (zy 82) (zby 82) (zml 82) (zrt 82)) := rfl
set_option maxRecDepth 100000 in
theorem zmc_83 : lw_tbl[702]? = some (.code (zy 83) (zby 83) (zml 83) (zrt 83)) := rfl
set_option maxRecDepth 100000 in
theorem zmc_84 : lw_tbl[844]? = some (.code (zy 84) (zby 84) (zml 84) (zrt 84)) := rfl
set_option maxRecDepth 100000 in
theorem zmc_85 : lw_tbl[545]? = some (.code (zy 85) (zby 85) (zml 85) (zrt 85)) := rfl
set_option maxRecDepth 100000 in
theorem zmc_86 : lw_tbl[610]? = some (.code (zy 86) (zby 86) (zml 86) (zrt 86)) := rfl
set_option maxRecDepth 100000 in
theorem zmc_87 : lw_tbl[622]? = some (.code (zy 87) (zby 87) (zml 87) (zrt 87)) := rfl
set_option maxRecDepth 100000 in
theorem zmc_88 : lw_tbl[563]? = some (.code (zy 88) (zby 88) (zml 88) (zrt 88)) := rfl
set_option maxRecDepth 100000 in
theorem zmc_89 : lw_tbl[839]? = some (.code (zy 89) (zby 89) (zml 89) (zrt 89)) := rfl
set_option maxRecDepth 100000 in
theorem zmc_90 : lw_tbl[567]? = some (.code (zy 90) (zby 90) (zml 90) (zrt 90)) := rfl
set_option maxRecDepth 100000 in
theorem zmc_91 : lw_tbl[571]? = some (.code (zy 91) (zby 91) (zml 91) (zrt 91)) := rfl
set_option maxRecDepth 100000 in
theorem zmc_92 : lw_tbl[594]? = some (.code (zy 92) (zby 92) (zml 92) (zrt 92)) := rfl
set_option maxRecDepth 100000 in
theorem zmc_93 : lw_tbl[598]? = some (.code (zy 93) (zby 93) (zml 93) (zrt 93)) := rfl
set_option maxRecDepth 100000 in
theorem zmc_94 : lw_tbl[602]? = some (.code (zy 94) (zby 94) (zml 94) (zrt 94)) := rfl
set_option maxRecDepth 100000 in
theorem zmc_95 : lw_tbl[606]? = some (.code (zy 95) (zby 95) (zml 95) (zrt 95)) := rfl
set_option maxRecDepth 100000 in
theorem zmc_96 : lw_tbl[864]? = some (.code (zy 96) (zby 96) (zml 96) (zrt 96)) := rfl
set_option maxRecDepth 100000 in
theorem zmc_97 : lw_tbl[472]? = some (.code (zy 97) (zby 97) (zml 97) (zrt 97)) := rfl
set_option maxRecDepth 100000 in
theorem zmc_98 : lw_tbl[534]? = some (.code (zy 98) (zby 98) (zml 98) (zrt 98)) := rfl
set_option maxRecDepth 100000 in
theorem zmc_99 : lw_tbl[526]? = some (.code (zy 99) (zby 99) (zml 99) (zrt 99)) := rfl
set_option maxRecDepth 100000 in
theorem zmc_100 : lw_tbl[480]? = some (.code (zy 100) (zby 100) (zml 100) (zrt 100)) := rfl
set_option maxRecDepth 100000 in
theorem zmc_101 : lw_tbl[484]? = some (.code (zy 101) (zby 101) (zml 101) (zrt 101)) := rfl
set_option maxRecDepth 100000 in
theorem zmc_102 : lw_tbl[488]? = some (.code (zy 102) (zby 102) (zml 102) (zrt 102)) := rfl
set_option maxRecDepth 100000 in
theorem zmc_103 : lw_tbl[518]? = some (.code (zy 103) (zby 103) (zml 103) (zrt 103)) := rfl
set_option maxRecDepth 100000 in
theorem zmc_104 : lw_tbl[492]? = some (.code (zy 104) (zby 104) (zml 104) (zrt 104)) := rfl
set_option maxRecDepth 100000 in
theorem zmc_105 : lw_tbl[511]? = some (.code (zy 105) (zby 105) (zml 105) (zrt 105)) := rfl
set_option maxRecDepth 100000 in
theorem zmc_106 : lw_tbl[500]? = some (.code (zy 106) (zby 106) (zml 106) (zrt 106)) := rfl
set_option maxRecDepth 100000 in
theorem zmc_107 : lw_tbl[515]? = some (.code (zy 107) (zby 107) (zml 107) (zrt 107)) := rfl
set_option maxRecDepth 100000 in
theorem zmc_108 : lw_tbl[496]? = some (.code (zy 108) (zby 108) (zml 108) (zrt 108)) := rfl
set_option maxRecDepth 100000 in
theorem zmc_109 : lw_tbl[504]? = some (.code (zy 109) (zby 109) (zml 109) (zrt 109)) := rfl
set_option maxRecDepth 100000 in
theorem zmc_110 : lw_tbl[812]? = some (.code (zy 110) (zby 110) (zml 110) (zrt 110)) := rfl
set_option maxRecDepth 100000 in
theorem zmc_111 : lw_tbl[818]? = some (.code (zy 111) (zby 111) (zml 111) (zrt 111)) := rfl
set_option maxRecDepth 100000 in
theorem zmc_112 : lw_tbl[831]? = some (.code (zy 112) (zby 112) (zml 112) (zrt 112)) := rfl
set_option maxRecDepth 100000 in
theorem zmc_113 : lw_tbl[822]? = some (.code (zy 113) (zby 113) (zml 113) (zrt 113)) := rfl
set_option maxRecDepth 100000 in
theorem zmc_114 : lw_tbl[826]? = some (.code (zy 114) (zby 114) (zml 114) (zrt 114)) := rfl
set_option maxRecDepth 100000 in
theorem zmc_115 : lw_tbl[773]? = some (.code (zy 115) (zby 115) (zml 115) (zrt 115)) := rfl
set_option maxRecDepth 100000 in
theorem zmc_116 : lw_tbl[777]? = some (.code (zy 116) (zby 116) (zml 116) (zrt 116)) := rfl
set_option maxRecDepth 100000 in
theorem zmc_117 : lw_tbl[782]? = some (.code (zy 117) (zby 117) (zml 117) (zrt 117)) := rfl
set_option maxRecDepth 100000 in
theorem zmc_118 : lw_tbl[373]? = some (.code (zy 118) (zby 118) (zml 118) (zrt 118)) := rfl
set_option maxRecDepth 100000 in
theorem zmc_119 : lw_tbl[381]? = some (.code (zy 119) (zby 119) (zml 119) (zrt 119)) := rfl
set_option maxRecDepth 100000 in
theorem zmc_120 : lw_tbl[389]? = some (.code (zy 120) (zby 120) (zml 120) (zrt 120)) := rfl
set_option maxRecDepth 100000 in
theorem zmc_121 : lw_tbl[413]? = some (.code (zy 121) (zby 121) (zml 121) (zrt 121)) := rfl
set_option maxRecDepth 100000 in
theorem zmc_122 : lw_tbl[451]? = some (.code (zy 122) (zby 122) (zml 122) (zrt 122)) := rfl
set_option maxRecDepth 100000 in
theorem zmc_123 : lw_tbl[459]? = some (.code (zy 123) (zby 123) (zml 123) (zrt 123)) := rfl
set_option maxRecDepth 100000 in
theorem zmc_124 : lw_tbl[468]? = some (.code (zy 124) (zby 124) (zml 124) (zrt 124)) := rfl
set_option maxRecDepth 100000 in
theorem zmc_125 : lw_tbl[476]? = some (.code (zy 125) (zby 125) (zml 125) (zrt 125)) := rfl
set_option maxRecDepth 100000 in
theorem zmc_126 : lw_tbl[538]? = some (.code (zy 126) (zby 126) (zml 126) (zrt 126)) := rfl
set_option maxRecDepth 100000 in
theorem zmc_127 : lw_tbl[614]? = some (.code (zy 127) (zby 127) (zml 127) (zrt 127)) := rfl
set_option maxRecDepth 100000 in
theorem zmc_128 : lw_tbl[618]? = some (.code (zy 128) (zby 128) (zml 128) (zrt 128)) := rfl
set_option maxRecDepth 100000 in
theorem zmc_129 : lw_tbl[626]? = some (.code (zy 129) (zby 129) (zml 129) (zrt 129)) := rfl
set_option maxRecDepth 100000 in
theorem zmc_130 : lw_tbl[635]? = some (.code (zy 130) (zby 130) (zml 130) (zrt 130)) := rfl
set_option maxRecDepth 100000 in
theorem zmc_131 : lw_tbl[682]? = some (.code (zy 131) (zby 131) (zml 131) (zrt 131)) := rfl
set_option maxRecDepth 100000 in
theorem zmc_132 : lw_tbl[686]? = some (.code (zy 132) (zby 132) (zml 132) (zrt 132)) := rfl
set_option maxRecDepth 100000 in
theorem zmc_133 : lw_tbl[706]? = some (.code (zy 133) (zby 133) (zml 133) (zrt 133)) := rfl
set_option maxRecDepth 100000 in
theorem zmc_134 : lw_tbl[710]? = some (.code (zy 134) (zby 134) (zml 134) (zrt 134)) := rfl
set_option maxRecDepth 100000 in
theorem zmc_135 : lw_tbl[733]? = some (.code (zy 135) (zby 135) (zml 135) (zrt 135)) := rfl
set_option maxRecDepth 100000 in
theorem zmc_136 : lw_tbl[744]? = some (.code (zy 136) (zby 136) (zml 136) (zrt 136)) := rfl
set_option maxRecDepth 100000 in
theorem zmc_137 : lw_tbl[761]? = some (.code (zy 137) (zby 137) (zml 137) (zrt 137)) := rfl
set_option maxRecDepth 100000 in
theorem zmc_138 : lw_tbl[787]? = some (.code (zy 138) (zby 138) (zml 138) (zrt 138)) := rfl
set_option maxRecDepth 100000 in
theorem zmc_139 : lw_tbl[791]? = some (.code (zy 139) (zby 139) (zml 139) (zrt 139)) := rfl
set_option maxRecDepth 100000 in
theorem zmc_140 : lw_tbl[804]? = some (.code (zy 140) (zby 140) (zml 140) (zrt 140)) := rfl
set_option maxRecDepth 100000 in
theorem zmc_141 : lw_tbl[808]? = some (.code (zy 141) (zby 141) (zml 141) (zrt 141)) := rfl
set_option maxRecDepth 100000 in
theorem zmc_142 : lw_tbl[835]? = some (.code (zy 142) (zby 142) (zml 142) (zrt 142)) := rfl
set_option maxRecDepth 100000 in
theorem zmc_143 : lw_tbl[848]? = some (.code (zy 143) (zby 143) (zml 143) (zrt 143)) := rfl
set_option maxRecDepth 100000 in
theorem zmc_144 : lw_tbl[852]? = some (.code (zy 144) (zby 144) (zml 144) (zrt 144)) := rfl
set_option maxRecDepth 100000 in
theorem zmc_145 : lw_tbl[856]? = some (.code (zy 145) (zby 145) (zml 145) (zrt 145)) := rfl
set_option maxRecDepth 100000 in
theorem zmc_146 : lw_tbl[860]? = some (.code (zy 146) (zby 146) (zml 146) (zrt 146)) := rfl
set_option maxRecDepth 100000 in
theorem zmc_147 : lw_tbl[868]? = some (.code (zy 147) (zby 147) (zml 147) (zrt 147)) := rfl
set_option maxRecDepth 100000 in
theorem zmc_148 : lw_tbl[872]? = some (.code (zy 148) (zby 148) (zml 148) (zrt 148)) := rfl
set_option maxRecDepth 100000 in
theorem zmc_149 : lw_tbl[876]? = some (.code (zy 149) (zby 149) (zml 149) (zrt 149)) := rfl
set_option maxRecDepth 100000 in
theorem zmc_150 : lw_tbl[884]? = some (.code (zy 150) (zby 150) (zml 150) (zrt 150)) := rfl
set_option maxRecDepth 100000 in
theorem zmc_151 : lw_tbl[892]? = some (.code (zy 151) (zby 151) (zml 151) (zrt 151)) := rfl
set_option maxRecDepth 100000 in
theorem zmc_152 : lw_tbl[900]? = some (.code (zy 152) (zby 152) (zml 152) (zrt 152)) := rfl
set_option maxRecDepth 100000 in
theorem zmc_153 : lw_tbl[912]? = some (.code (zy 153) (zby 153) (zml 153) (zrt 153)) := rfl
set_option maxRecDepth 100000 in
theorem zmc_154 : lw_tbl[939]? = some (.code (zy 154) (zby 154) (zml 154) (zrt 154)) := rfl
set_option maxRecDepth 100000 in
theorem zmc_155 : lw_tbl[947]? = some (.code (zy 155) (zby 155) (zml 155) (zrt 155)) := rfl
set_option maxRecDepth 100000 in
theorem zmc_156 : lw_tbl[956]? = some (.code (zy 156) (zby 156) (zml 156) (zrt 156)) := rfl
set_option maxRecDepth 100000 in
theorem zmc_157 : lw_tbl[968]? = some (.code (zy 157) (zby 157) (zml 157) (zrt 157)) := rfl
set_option maxRecDepth 100000 in
theorem zmc_158 : lw_tbl[983]? = some (.code (zy 158) (zby 158) (zml 158) (zrt 158)) := rfl
set_option maxRecDepth 100000 in
theorem zmc_159 : lw_tbl[988]? = some (.code (zy 159) (zby 159) (zml 159) (zrt 159)) := rfl
set_option maxRecDepth 100000 in
theorem zmc_160 : lw_tbl[1005]? = some (.code (zy 160) (zby 160) (zml 160) (zrt 160)) := rfl
set_option maxRecDepth 100000 in
theorem zmc_161 : lw_tbl[1022]? = some (.code (zy 161) (zby 161) (zml 161) (zrt 161)) := rfl
set_option maxRecDepth 100000 in
theorem zmc_162 : lw_tbl[541]? = some (.code (zy 162) (zby 162) (zml 162) (zrt 162)) := rfl
set_option maxRecDepth 100000 in
theorem zmc_163 : lw_tbl[554]? = some (.code (zy 163) (zby 163) (zml 163) (zrt 163)) := rfl
set_option maxRecDepth 100000 in
theorem zmc_164 : lw_tbl[694]? = some (.code (zy 164) (zby 164) (zml 164) (zrt 164)) := rfl
set_option maxRecDepth 100000 in
theorem zmc_165 : lw_tbl[972]? = some (.code (zy 165) (zby 165) (zml 165) (zrt 165)) := rfl
set_option maxRecDepth 100000 in
theorem zmc_166 : lw_tbl[1202]? = some (.code (zy 166) (zby 166) (zml 166) (zrt 166)) := rfl
set_option maxRecDepth 100000 in
theorem zmc_167 : lw_tbl[1374]? = some (.code (zy 167) (zby 167) (zml 167) (zrt 167)) := rfl
set_option maxRecDepth 100000 in
theorem zmc_168 : lw_tbl[1377]? = some (.code (zy 168) (zby 168) (zml 168) (zrt 168)) := rfl
set_option maxRecDepth 100000 in
theorem zmc_169 : lw_tbl[1248]? = some (.code (zy 169) (zby 169) (zml 169) (zrt 169)) := rfl
set_option maxRecDepth 100000 in
theorem zmc_170 : lw_tbl[1183]? = some (.code (zy 170) (zby 170) (zml 170) (zrt 170)) := rfl
set_option maxRecDepth 100000 in
theorem zmc_171 : lw_tbl[1187]? = some (.code (zy 171) (zby 171) (zml 171) (zrt 171)) := rfl
set_option maxRecDepth 100000 in
theorem zmc_172 : lw_tbl[1232]? = some (.code (zy 172) (zby 172) (zml 172) (zrt 172)) := rfl
set_option maxRecDepth 100000 in
theorem zmc_173 : lw_tbl[1236]? = some (.code (zy 173) (zby 173) (zml 173) (zrt 173)) := rfl
set_option maxRecDepth 100000 in
theorem zmc_174 : lw_tbl[1228]? = some (.code (zy 174) (zby 174) (zml 174) (zrt 174)) := rfl
set_option maxRecDepth 100000 in
theorem zmc_175 : lw_tbl[1191]? = some (.code (zy 175) (zby 175) (zml 175) (zrt 175)) := rfl
set_option maxRecDepth 100000 in
theorem zmc_176 : lw_tbl[1198]? = some (.code (zy 176) (zby 176) (zml 176) (zrt 176)) := rfl
set_option maxRecDepth 100000 in
theorem zmc_177 : lw_tbl[1207]? = some (.code (zy 177) (zby 177) (zml 177) (zrt 177)) := rfl
set_option maxRecDepth 100000 in
theorem zmc_178 : lw_tbl[1195]? = some (.code (zy 178) (zby 178) (zml 178) (zrt 178)) := rfl
set_option maxRecDepth 100000 in
theorem zmc_179 : lw_tbl[1211]? = some (.code (zy 179) (zby 179) (zml 179) (zrt 179)) := rfl
set_option maxRecDepth 100000 in
theorem zmc_180 : lw_tbl[1224]? = some (.code (zy 180) (zby 180) (zml 180) (zrt 180)) := rfl
set_option maxRecDepth 100000 in
theorem zmc_181 : lw_tbl[1240]? = some (.code (zy 181) (zby 181) (zml 181) (zrt 181)) := rfl
set_option maxRecDepth 100000 in
theorem zmc_182 : lw_tbl[1220]? = some (.code (zy 182) (zby 182) (zml 182) (zrt 182)) := rfl
set_option maxRecDepth 100000 in
theorem zmc_183 : lw_tbl[1253]? = some (.code (zy 183) (zby 183) (zml 183) (zrt 183)) := rfl
set_option maxRecDepth 100000 in
theorem zmc_184 : lw_tbl[1265]? = some (.code (zy 184) (zby 184) (zml 184) (zrt 184)) := rfl
set_option maxRecDepth 100000 in
theorem zmc_185 : lw_tbl[1269]? = some (.code (zy 185) (zby 185) (zml 185) (zrt 185)) := rfl
set_option maxRecDepth 100000 in
theorem zmc_186 : lw_tbl[1306]? = some (.code (zy 186) (zby 186) (zml 186) (zrt 186)) := rfl
set_option maxRecDepth 100000 in
theorem zmc_187 : lw_tbl[1310]? = some (.code (zy 187) (zby 187) (zml 187) (zrt 187)) := rfl
set_option maxRecDepth 100000 in
theorem zmc_188 : lw_tbl[1314]? = some (.code (zy 188) (zby 188) (zml 188) (zrt 188)) := rfl
set_option maxRecDepth 100000 in
theorem zmc_189 : lw_tbl[1282]? = some (.code (zy 189) (zby 189) (zml 189) (zrt 189)) := rfl
set_option maxRecDepth 100000 in
theorem zmc_190 : lw_tbl[1286]? = some (.code (zy 190) (zby 190) (zml 190) (zrt 190)) := rfl
set_option maxRecDepth 100000 in
theorem zmc_191 : lw_tbl[1290]? = some (.code (zy 191) (zby 191) (zml 191) (zrt 191)) := rfl
set_option maxRecDepth 100000 in
theorem zmc_192 : lw_tbl[1294]? = some (.code (zy 192) (zby 192) (zml 192) (zrt 192)) := rfl
set_option maxRecDepth 100000 in
theorem zmc_193 : lw_tbl[1298]? = some (.code (zy 193) (zby 193) (zml 193) (zrt 193)) := rfl
set_option maxRecDepth 100000 in
theorem zmc_194 : lw_tbl[1317]? = some (.code (zy 194) (zby 194) (zml 194) (zrt 194)) := rfl
set_option maxRecDepth 100000 in
theorem zmc_195 : lw_tbl[1302]? = some (.code (zy 195) (zby 195) (zml 195) (zrt 195)) := rfl
set_option maxRecDepth 100000 in
theorem zmc_196 : lw_tbl[1278]? = some (.code (zy 196) (zby 196) (zml 196) (zrt 196)) := rfl
set_option maxRecDepth 100000 in
theorem zmc_197 : lw_tbl[1274]? = some (.code (zy 197) (zby 197) (zml 197) (zrt 197)) := rfl
set_option maxRecDepth 100000 in
theorem zmc_198 : lw_tbl[1257]? = some (.code (zy 198) (zby 198) (zml 198) (zrt 198)) := rfl
set_option maxRecDepth 100000 in
theorem zmc_199 : lw_tbl[1261]? = some (.code (zy 199) (zby 199) (zml 199) (zrt 199)) := rfl
set_option maxRecDepth 100000 in
theorem zmc_200 : lw_tbl[1337]? = some (.code (zy 200) (zby 200) (zml 200) (zrt 200)) := rfl
set_option maxRecDepth 100000 in
theorem zmc_201 : lw_tbl[1341]? = some (.code (zy 201) (zby 201) (zml 201) (zrt 201)) := rfl
set_option maxRecDepth 100000 in
theorem zmc_202 : lw_tbl[1333]? = some (.code (zy 202) (zby 202) (zml 202) (zrt 202)) := rfl
set_option maxRecDepth 100000 in
theorem zmc_203 : lw_tbl[1329]? = some (.code (zy 203) (zby 203) (zml 203) (zrt 203)) := rfl
set_option maxRecDepth 100000 in
theorem zmc_204 : lw_tbl[1324]? = some (.code (zy 204) (zby 204) (zml 204) (zrt 204)) := rfl
set_option maxRecDepth 100000 in
theorem zmc_205 : lw_tbl[1321]? = some (.code (zy 205) (zby 205) (zml 205) (zrt 205)) := rfl
set_option maxRecDepth 100000 in
theorem zmc_206 : lw_tbl[1345]? = some (.code (zy 206) (zby 206) (zml 206) (zrt 206)) := rfl
set_option maxRecDepth 100000 in
theorem zmc_207 : lw_tbl[1349]? = some (.code (zy 207) (zby 207) (zml 207) (zrt 207)) := rfl
set_option maxRecDepth 100000 in
theorem zmc_208 : lw_tbl[1357]? = some (.code (zy 208) (zby 208) (zml 208) (zrt 208)) := rfl
set_option maxRecDepth 100000 in
theorem zmc_209 : lw_tbl[1353]? = some (.code (zy 209) (zby 209) (zml 209) (zrt 209)) := rfl
set_option maxRecDepth 100000 in
theorem zmc_210 : lw_tbl[1371]? = some (.code (zy 210) (zby 210) (zml 210) (zrt 210)) := rfl
set_option maxRecDepth 100000 in
theorem zmc_211 : lw_tbl[1366]? = some (.code (zy 211) (zby 211) (zml 211) (zrt 211)) := rfl
set_option maxRecDepth 100000 in
theorem zmc_212 : lw_tbl[1361]? = some (.code (zy 212) (zby 212) (zml 212) (zrt 212)) := rfl
set_option maxRecDepth 100000 in
theorem zmc_213 : lw_tbl[1381]? = some (.code (zy 213) (zby 213) (zml 213) (zrt 213)) := rfl
set_option maxRecDepth 100000 in
theorem zmc_214 : lw_tbl[1393]? = some (.code (zy 214) (zby 214) (zml 214) (zrt 214)) := rfl
set_option maxRecDepth 100000 in
theorem zmc_215 : lw_tbl[1389]? = some (.code (zy 215) (zby 215) (zml 215) (zrt 215)) := rfl
set_option maxRecDepth 100000 in
theorem zmc_216 : lw_tbl[1385]? = some (.code (zy 216) (zby 216) (zml 216) (zrt 216)) := rfl
set_option maxRecDepth 100000 in
theorem zmc_217 : lw_tbl[1397]? = some (.code (zy 217) (zby 217) (zml 217) (zrt 217)) := rfl
set_option maxRecDepth 100000 in
theorem zmc_218 : lw_tbl[1409]? = some (.code (zy 218) (zby 218) (zml 218) (zrt 218)) := rfl
set_option maxRecDepth 100000 in
theorem zmc_219 : lw_tbl[1405]? = some (.code (zy 219) (zby 219) (zml 219) (zrt 219)) := rfl
set_option maxRecDepth 100000 in
theorem zmc_220 : lw_tbl[1401]? = some (.code (zy 220) (zby 220) (zml 220) (zrt 220)) := rfl
set_option maxRecDepth 100000 in
theorem zmc_221 : lw_tbl[1413]? = some (.code (zy 221) (zby 221) (zml 221) (zrt 221)) := rfl
set_option maxRecDepth 100000 in
theorem zmc_222 : lw_tbl[1421]? = some (.code (zy 222) (zby 222) (zml 222) (zrt 222)) := rfl
set_option maxRecDepth 100000 in
theorem zmc_223 : lw_tbl[1417]? = some (.code (zy 223) (zby 223) (zml 223) (zrt 223)) := rfl
set_option maxRecDepth 100000 in
theorem zmc_224 : lw_tbl[1429]? = some (.code (zy 224) (zby 224) (zml 224) (zrt 224)) := rfl
set_option maxRecDepth 100000 in
theorem zmc_225 : lw_tbl[1438]? = some (.code (zy 225) (zby 225) (zml 225) (zrt 225)) := rfl
set_option maxRecDepth 100000 in
theorem zmc_226 : lw_tbl[1434]? = some (.code (zy 226) (zby 226) (zml 226) (zrt 226)) := rfl
set_option maxRecDepth 100000 in
theorem zmc_227 : lw_tbl[1425]? = some (.code (zy 227) (zby 227) (zml 227) (zrt 227)) := rfl
set_option maxRecDepth 100000 in
theorem zmc_228 : lw_tbl[1442]? = some (.code (zy 228) (zby 228) (zml 228) (zrt 228)) := rfl
set_option maxRecDepth 100000 in
theorem zmc_229 : lw_tbl[1450]? = some (.code (zy 229) (zby 229) (zml 229) (zrt 229)) := rfl
set_option maxRecDepth 100000 in
theorem zmc_230 : lw_tbl[1446]? = some (.code (zy 230) (zby 230) (zml 230) (zrt 230)) := rfl
set_option maxRecDepth 100000 in
theorem zmc_231 : lw_tbl[1454]? = some (.code (zy 231) (zby 231) (zml 231) (zrt 231)) := rfl
set_option maxRecDepth 100000 in
theorem zmc_232 : lw_tbl[1467]? = some (.code (zy 232) (zby 232) (zml 232) (zrt 232)) := rfl
set_option maxRecDepth 100000 in
theorem zmc_233 : lw_tbl[1463]? = some (.code (zy 233) (zby 233) (zml 233) (zrt 233)) := rfl
set_option maxRecDepth 100000 in
theorem zmc_234 : lw_tbl[1458]? = some (.code (zy 234) (zby 234) (zml 234) (zrt 234)) := rfl
set_option maxRecDepth 100000 in
theorem zmc_235 : lw_tbl[1471]? = some (.code (zy 235) (zby 235) (zml 235) (zrt 235)) := rfl
set_option maxRecDepth 100000 in
theorem zmc_236 : lw_tbl[1478]? = some (.code (zy 236) (zby 236) (zml 236) (zrt 236)) := rfl
set_option maxRecDepth 100000 in
theorem zmc_237 : lw_tbl[1482]? = some (.code (zy 237) (zby 237) (zml 237) (zrt 237)) := rfl
set_option maxRecDepth 100000 in
theorem zmc_238 : lw_tbl[1486]? = some (.code (zy 238) (zby 238) (zml 238) (zrt 238)) := rfl
set_option maxRecDepth 100000 in
theorem zmc_239 : lw_tbl[1490]? = some (.code (zy 239) (zby 239) (zml 239) (zrt 239)) := rfl
set_option maxRecDepth 100000 in
theorem zmc_240 : lw_tbl[1494]? = some (.code (zy 240) (zby 240) (zml 240) (zrt 240)) := rfl
set_option maxRecDepth 100000 in
theorem zmc_241 : lw_tbl[1498]? = some (.code (zy 241) (zby 241) (zml 241) (zrt 241)) := rfl
set_option maxRecDepth 100000 in
theorem zmc_242 : lw_tbl[1502]? = some (.code (zy 242) (zby 242) (zml 242) (zrt 242)) := rfl
set_option maxRecDepth 100000 in
theorem zmc_243 : lw_tbl[1514]? = some (.code (zy 243) (zby 243) (zml 243) (zrt 243)) := rfl
set_option maxRecDepth 100000 in
theorem zmc_244 : lw_tbl[1574]? = some (.code (zy 244) (zby 244) (zml 244) (zrt 244)) := rfl
set_option maxRecDepth 100000 in
theorem zmc_245 : lw_tbl[1506]? = some (.code (zy 245) (zby 245) (zml 245) (zrt 245)) := rfl
set_option maxRecDepth 100000 in
theorem zmc_246 : lw_tbl[1577]? = some (.code (zy 246) (zby 246) (zml 246) (zrt 246)) := rfl
set_option maxRecDepth 100000 in
theorem zmc_247 : lw_tbl[1522]? = some (.code (zy 247) (zby 247) (zml 247) (zrt 247)) := rfl
set_option maxRecDepth 100000 in
theorem zmc_248 : lw_tbl[1518]? = some (.code (zy 248) (zby 248) (zml 248) (zrt 248)) := rfl
set_option maxRecDepth 100000 in
theorem zmc_249 : lw_tbl[1526]? = some (.code (zy 249) (zby 249) (zml 249) (zrt 249)) := rfl
set_option maxRecDepth 100000 in
theorem zmc_250 : lw_tbl[1530]? = some (.code (zy 250) (zby 250) (zml 250) (zrt 250)) := rfl
set_option maxRecDepth 100000 in
theorem zmc_251 : lw_tbl[1534]? = some (.code (zy 251) (zby 251) (zml 251) (zrt 251)) := rfl
set_option maxRecDepth 100000 in
theorem zmc_252 : lw_tbl[1510]? = some (.code (zy 252) (zby 252) (zml 252) (zrt 252)) := rfl
set_option maxRecDepth 100000 in
theorem zmc_253 : lw_tbl[1538]? = some (.code (zy 253) (zby 253) (zml 253) (zrt 253)) := rfl
set_option maxRecDepth 100000 in
theorem zmc_254 : lw_tbl[1214]? = some (.code (zy 254) (zby 254) (zml 254) (zrt 254)) := rfl
set_option maxRecDepth 100000 in
theorem zmc_255 : lw_tbl[1542]? = some (.code (zy 255) (zby 255) (zml 255) (zrt 255)) := rfl
set_option maxRecDepth 100000 in
theorem zmc_256 : lw_tbl[1546]? = some (.code (zy 256) (zby 256) (zml 256) (zrt 256)) := rfl
set_option maxRecDepth 100000 in
theorem zmc_257 : lw_tbl[1554]? = some (.code (zy 257) (zby 257) (zml 257) (zrt 257)) := rfl
set_option maxRecDepth 100000 in
theorem zmc_258 : lw_tbl[1557]? = some (.code (zy 258) (zby 258) (zml 258) (zrt 258)) := rfl
set_option maxRecDepth 100000 in
theorem zmc_259 : lw_tbl[1550]? = some (.code (zy 259) (zby 259) (zml 259) (zrt 259)) := rfl
set_option maxRecDepth 100000 in
theorem zmc_260 : lw_tbl[1561]? = some (.code (zy 260) (zby 260) (zml 260) (zrt 260)) := rfl
set_option maxRecDepth 100000 in
theorem zmc_261 : lw_tbl[1566]? = some (.code (zy 261) (zby 261) (zml 261) (zrt 261)) := rfl
set_option maxRecDepth 100000 in
theorem zmc_262 : lw_tbl[1570]? = some (.code (zy 262) (zby 262) (zml 262) (zrt 262)) := rfl
set_option maxRecDepth 100000 in
theorem zmc_263 : lw_tbl[1581]? = some (.code (zy 263) (zby 263) (zml 263) (zrt 263)) := rfl
set_option maxRecDepth 100000 in
theorem zmc_264 : lw_tbl[650]? = some (.code (zy 264) (zby 264) (zml 264) (zrt 264)) := rfl
theorem zm_0 : (List.range' 1 30).all zokM = true := by decide +kernel
theorem zm_1 : (List.range' 31 30).all zokM = true := by decide +kernel
theorem zm_2 : (List.range' 61 30).all zokM = true := by decide +kernel
theorem zm_3 : (List.range' 91 30).all zokM = true := by decide +kernel
theorem zm_4 : (List.range' 121 30).all zokM = true := by decide +kernel
theorem zm_5 : (List.range' 151 30).all zokM = true := by decide +kernel
theorem zm_6 : (List.range' 181 30).all zokM = true := by decide +kernel
theorem zm_7 : (List.range' 211 30).all zokM = true := by decide +kernel
theorem zm_8 : (List.range' 241 24).all zokM = true := by decide +kernel
theorem zm_all : ∀ mi, 0 < mi → mi < zNM → zokM mi = true := by
  intro mi h0 hm
  have hm2 : mi < 265 := hm
  have key : ∀ (a n : Nat), (List.range' a n).all zokM = true → a ≤ mi → mi < a + n → zokM mi = true := fun a n hl h1 h2 => List.all_eq_true.mp hl mi (by rw [List.mem_range'_1]; omega)
  rcases (show (1 ≤ mi ∧ mi < 31) ∨ (31 ≤ mi ∧ mi < 61) ∨ (61 ≤ mi ∧ mi < 91) ∨ (91 ≤ mi ∧ mi < 121) ∨ (121 ≤ mi ∧ mi < 151) ∨ (151 ≤ mi ∧ mi < 181) ∨ (181 ≤ mi ∧ mi < 211) ∨ (211 ≤ mi ∧ mi < 241) ∨ (241 ≤ mi ∧ mi < 265) by omega) with h | h | h | h | h | h | h | h | h
  · exact key _ _ zm_0 h.1 h.2
  · exact key _ _ zm_1 h.1 h.2
  · exact key _ _ zm_2 h.1 h.2
  · exact key _ _ zm_3 h.1 h.2
  · exact key _ _ zm_4 h.1 h.2
  · exact key _ _ zm_5 h.1 h.2
  · exact key _ _ zm_6 h.1 h.2
  · exact key _ _ zm_7 h.1 h.2
  · exact key _ _ zm_8 h.1 h.2
theorem zmc_r1 (mi : Nat) (h0 : 1 ≤ mi) (hm : mi < 25) : ∃ i : Nat, lw_tbl[i]? = some (Cond.code (zy mi) (zby mi) (zml mi) (zrt mi)) := by
  rcases Nat.lt_or_ge mi 13 with h1 | h1
  · rcases Nat.lt_or_ge mi 7 with h1 | h1
    · rcases Nat.lt_or_ge mi 4 with h1 | h1
      · rcases Nat.lt_or_ge mi 2 with h1 | h1
        · have e : mi = 1 := by omega
          subst e
          exact ⟨_, zmc_1⟩
        · rcases Nat.lt_or_ge mi 3 with h1 | h1
          · have e : mi = 2 := by omega
            subst e
            exact ⟨_, zmc_2⟩
          · have e : mi = 3 := by omega
            subst e
            exact ⟨_, zmc_3⟩
      · rcases Nat.lt_or_ge mi 5 with h1 | h1
        · have e : mi = 4 := by omega
          subst e
          exact ⟨_, zmc_4⟩
        · rcases Nat.lt_or_ge mi 6 with h1 | h1
          · have e : mi = 5 := by omega
            subst e
            exact ⟨_, zmc_5⟩
          · have e : mi = 6 := by omega
            subst e
            exact ⟨_, zmc_6⟩
    · rcases Nat.lt_or_ge mi 10 with h1 | h1
      · rcases Nat.lt_or_ge mi 8 with h1 | h1
        · have e : mi = 7 := by omega
          subst e
          exact ⟨_, zmc_7⟩
        · rcases Nat.lt_or_ge mi 9 with h1 | h1
          · have e : mi = 8 := by omega
            subst e
            exact ⟨_, zmc_8⟩
          · have e : mi = 9 := by omega
            subst e
            exact ⟨_, zmc_9⟩
      · rcases Nat.lt_or_ge mi 11 with h1 | h1
        · have e : mi = 10 := by omega
          subst e
          exact ⟨_, zmc_10⟩
        · rcases Nat.lt_or_ge mi 12 with h1 | h1
          · have e : mi = 11 := by omega
            subst e
            exact ⟨_, zmc_11⟩
          · have e : mi = 12 := by omega
            subst e
            exact ⟨_, zmc_12⟩
  · rcases Nat.lt_or_ge mi 19 with h1 | h1
    · rcases Nat.lt_or_ge mi 16 with h1 | h1
      · rcases Nat.lt_or_ge mi 14 with h1 | h1
        · have e : mi = 13 := by omega
          subst e
          exact ⟨_, zmc_13⟩
        · rcases Nat.lt_or_ge mi 15 with h1 | h1
          · have e : mi = 14 := by omega
            subst e
            exact ⟨_, zmc_14⟩
          · have e : mi = 15 := by omega
            subst e
            exact ⟨_, zmc_15⟩
      · rcases Nat.lt_or_ge mi 17 with h1 | h1
        · have e : mi = 16 := by omega
          subst e
          exact ⟨_, zmc_16⟩
        · rcases Nat.lt_or_ge mi 18 with h1 | h1
          · have e : mi = 17 := by omega
            subst e
            exact ⟨_, zmc_17⟩
          · have e : mi = 18 := by omega
            subst e
            exact ⟨_, zmc_18⟩
    · rcases Nat.lt_or_ge mi 22 with h1 | h1
      · rcases Nat.lt_or_ge mi 20 with h1 | h1
        · have e : mi = 19 := by omega
          subst e
          exact ⟨_, zmc_19⟩
        · rcases Nat.lt_or_ge mi 21 with h1 | h1
          · have e : mi = 20 := by omega
            subst e
            exact ⟨_, zmc_20⟩
          · have e : mi = 21 := by omega
            subst e
            exact ⟨_, zmc_21⟩
      · rcases Nat.lt_or_ge mi 23 with h1 | h1
        · have e : mi = 22 := by omega
          subst e
          exact ⟨_, zmc_22⟩
        · rcases Nat.lt_or_ge mi 24 with h1 | h1
          · have e : mi = 23 := by omega
            subst e
            exact ⟨_, zmc_23⟩
          · have e : mi = 24 := by omega
            subst e
            exact ⟨_, zmc_24⟩
theorem zmc_r25 (mi : Nat) (h0 : 25 ≤ mi) (hm : mi < 49) : ∃ i : Nat, lw_tbl[i]? = some (Cond.code (zy mi) (zby mi) (zml mi) (zrt mi)) := by
  rcases Nat.lt_or_ge mi 37 with h1 | h1
  · rcases Nat.lt_or_ge mi 31 with h1 | h1
    · rcases Nat.lt_or_ge mi 28 with h1 | h1
      · rcases Nat.lt_or_ge mi 26 with h1 | h1
        · have e : mi = 25 := by omega
          subst e
          exact ⟨_, zmc_25⟩
        · rcases Nat.lt_or_ge mi 27 with h1 | h1
          · have e : mi = 26 := by omega
            subst e
            exact ⟨_, zmc_26⟩
          · have e : mi = 27 := by omega
            subst e
            exact ⟨_, zmc_27⟩
      · rcases Nat.lt_or_ge mi 29 with h1 | h1
        · have e : mi = 28 := by omega
          subst e
          exact ⟨_, zmc_28⟩
        · rcases Nat.lt_or_ge mi 30 with h1 | h1
          · have e : mi = 29 := by omega
            subst e
            exact ⟨_, zmc_29⟩
          · have e : mi = 30 := by omega
            subst e
            exact ⟨_, zmc_30⟩
    · rcases Nat.lt_or_ge mi 34 with h1 | h1
      · rcases Nat.lt_or_ge mi 32 with h1 | h1
        · have e : mi = 31 := by omega
          subst e
          exact ⟨_, zmc_31⟩
        · rcases Nat.lt_or_ge mi 33 with h1 | h1
          · have e : mi = 32 := by omega
            subst e
            exact ⟨_, zmc_32⟩
          · have e : mi = 33 := by omega
            subst e
            exact ⟨_, zmc_33⟩
      · rcases Nat.lt_or_ge mi 35 with h1 | h1
        · have e : mi = 34 := by omega
          subst e
          exact ⟨_, zmc_34⟩
        · rcases Nat.lt_or_ge mi 36 with h1 | h1
          · have e : mi = 35 := by omega
            subst e
            exact ⟨_, zmc_35⟩
          · have e : mi = 36 := by omega
            subst e
            exact ⟨_, zmc_36⟩
  · rcases Nat.lt_or_ge mi 43 with h1 | h1
    · rcases Nat.lt_or_ge mi 40 with h1 | h1
      · rcases Nat.lt_or_ge mi 38 with h1 | h1
        · have e : mi = 37 := by omega
          subst e
          exact ⟨_, zmc_37⟩
        · rcases Nat.lt_or_ge mi 39 with h1 | h1
          · have e : mi = 38 := by omega
            subst e
            exact ⟨_, zmc_38⟩
          · have e : mi = 39 := by omega
            subst e
            exact ⟨_, zmc_39⟩
      · rcases Nat.lt_or_ge mi 41 with h1 | h1
        · have e : mi = 40 := by omega
          subst e
          exact ⟨_, zmc_40⟩
        · rcases Nat.lt_or_ge mi 42 with h1 | h1
          · have e : mi = 41 := by omega
            subst e
            exact ⟨_, zmc_41⟩
          · have e : mi = 42 := by omega
            subst e
            exact ⟨_, zmc_42⟩
    · rcases Nat.lt_or_ge mi 46 with h1 | h1
      · rcases Nat.lt_or_ge mi 44 with h1 | h1
        · have e : mi = 43 := by omega
          subst e
          exact ⟨_, zmc_43⟩
        · rcases Nat.lt_or_ge mi 45 with h1 | h1
          · have e : mi = 44 := by omega
            subst e
            exact ⟨_, zmc_44⟩
          · have e : mi = 45 := by omega
            subst e
            exact ⟨_, zmc_45⟩
      · rcases Nat.lt_or_ge mi 47 with h1 | h1
        · have e : mi = 46 := by omega
          subst e
          exact ⟨_, zmc_46⟩
        · rcases Nat.lt_or_ge mi 48 with h1 | h1
          · have e : mi = 47 := by omega
            subst e
            exact ⟨_, zmc_47⟩
          · have e : mi = 48 := by omega
            subst e
            exact ⟨_, zmc_48⟩
theorem zmc_r49 (mi : Nat) (h0 : 49 ≤ mi) (hm : mi < 73) : ∃ i : Nat, lw_tbl[i]? = some (Cond.code (zy mi) (zby mi) (zml mi) (zrt mi)) := by
  rcases Nat.lt_or_ge mi 61 with h1 | h1
  · rcases Nat.lt_or_ge mi 55 with h1 | h1
    · rcases Nat.lt_or_ge mi 52 with h1 | h1
      · rcases Nat.lt_or_ge mi 50 with h1 | h1
        · have e : mi = 49 := by omega
          subst e
          exact ⟨_, zmc_49⟩
        · rcases Nat.lt_or_ge mi 51 with h1 | h1
          · have e : mi = 50 := by omega
            subst e
            exact ⟨_, zmc_50⟩
          · have e : mi = 51 := by omega
            subst e
            exact ⟨_, zmc_51⟩
      · rcases Nat.lt_or_ge mi 53 with h1 | h1
        · have e : mi = 52 := by omega
          subst e
          exact ⟨_, zmc_52⟩
        · rcases Nat.lt_or_ge mi 54 with h1 | h1
          · have e : mi = 53 := by omega
            subst e
            exact ⟨_, zmc_53⟩
          · have e : mi = 54 := by omega
            subst e
            exact ⟨_, zmc_54⟩
    · rcases Nat.lt_or_ge mi 58 with h1 | h1
      · rcases Nat.lt_or_ge mi 56 with h1 | h1
        · have e : mi = 55 := by omega
          subst e
          exact ⟨_, zmc_55⟩
        · rcases Nat.lt_or_ge mi 57 with h1 | h1
          · have e : mi = 56 := by omega
            subst e
            exact ⟨_, zmc_56⟩
          · have e : mi = 57 := by omega
            subst e
            exact ⟨_, zmc_57⟩
      · rcases Nat.lt_or_ge mi 59 with h1 | h1
        · have e : mi = 58 := by omega
          subst e
          exact ⟨_, zmc_58⟩
        · rcases Nat.lt_or_ge mi 60 with h1 | h1
          · have e : mi = 59 := by omega
            subst e
            exact ⟨_, zmc_59⟩
          · have e : mi = 60 := by omega
            subst e
            exact ⟨_, zmc_60⟩
  · rcases Nat.lt_or_ge mi 67 with h1 | h1
    · rcases Nat.lt_or_ge mi 64 with h1 | h1
      · rcases Nat.lt_or_ge mi 62 with h1 | h1
        · have e : mi = 61 := by omega
          subst e
          exact ⟨_, zmc_61⟩
        · rcases Nat.lt_or_ge mi 63 with h1 | h1
          · have e : mi = 62 := by omega
            subst e
            exact ⟨_, zmc_62⟩
          · have e : mi = 63 := by omega
            subst e
            exact ⟨_, zmc_63⟩
      · rcases Nat.lt_or_ge mi 65 with h1 | h1
        · have e : mi = 64 := by omega
          subst e
          exact ⟨_, zmc_64⟩
        · rcases Nat.lt_or_ge mi 66 with h1 | h1
          · have e : mi = 65 := by omega
            subst e
            exact ⟨_, zmc_65⟩
          · have e : mi = 66 := by omega
            subst e
            exact ⟨_, zmc_66⟩
    · rcases Nat.lt_or_ge mi 70 with h1 | h1
      · rcases Nat.lt_or_ge mi 68 with h1 | h1
        · have e : mi = 67 := by omega
          subst e
          exact ⟨_, zmc_67⟩
        · rcases Nat.lt_or_ge mi 69 with h1 | h1
          · have e : mi = 68 := by omega
            subst e
            exact ⟨_, zmc_68⟩
          · have e : mi = 69 := by omega
            subst e
            exact ⟨_, zmc_69⟩
      · rcases Nat.lt_or_ge mi 71 with h1 | h1
        · have e : mi = 70 := by omega
          subst e
          exact ⟨_, zmc_70⟩
        · rcases Nat.lt_or_ge mi 72 with h1 | h1
          · have e : mi = 71 := by omega
            subst e
            exact ⟨_, zmc_71⟩
          · have e : mi = 72 := by omega
            subst e
            exact ⟨_, zmc_72⟩
theorem zmc_r73 (mi : Nat) (h0 : 73 ≤ mi) (hm : mi < 97) : ∃ i : Nat, lw_tbl[i]? = some (Cond.code (zy mi) (zby mi) (zml mi) (zrt mi)) := by
  rcases Nat.lt_or_ge mi 85 with h1 | h1
  · rcases Nat.lt_or_ge mi 79 with h1 | h1
    · rcases Nat.lt_or_ge mi 76 with h1 | h1
      · rcases Nat.lt_or_ge mi 74 with h1 | h1
        · have e : mi = 73 := by omega
          subst e
          exact ⟨_, zmc_73⟩
        · rcases Nat.lt_or_ge mi 75 with h1 | h1
          · have e : mi = 74 := by omega
            subst e
            exact ⟨_, zmc_74⟩
          · have e : mi = 75 := by omega
            subst e
            exact ⟨_, zmc_75⟩
      · rcases Nat.lt_or_ge mi 77 with h1 | h1
        · have e : mi = 76 := by omega
          subst e
          exact ⟨_, zmc_76⟩
        · rcases Nat.lt_or_ge mi 78 with h1 | h1
          · have e : mi = 77 := by omega
            subst e
            exact ⟨_, zmc_77⟩
          · have e : mi = 78 := by omega
            subst e
            exact ⟨_, zmc_78⟩
    · rcases Nat.lt_or_ge mi 82 with h1 | h1
      · rcases Nat.lt_or_ge mi 80 with h1 | h1
        · have e : mi = 79 := by omega
          subst e
          exact ⟨_, zmc_79⟩
        · rcases Nat.lt_or_ge mi 81 with h1 | h1
          · have e : mi = 80 := by omega
            subst e
            exact ⟨_, zmc_80⟩
          · have e : mi = 81 := by omega
            subst e
            exact ⟨_, zmc_81⟩
      · rcases Nat.lt_or_ge mi 83 with h1 | h1
        · have e : mi = 82 := by omega
          subst e
          exact ⟨_, zmc_82⟩
        · rcases Nat.lt_or_ge mi 84 with h1 | h1
          · have e : mi = 83 := by omega
            subst e
            exact ⟨_, zmc_83⟩
          · have e : mi = 84 := by omega
            subst e
            exact ⟨_, zmc_84⟩
  · rcases Nat.lt_or_ge mi 91 with h1 | h1
    · rcases Nat.lt_or_ge mi 88 with h1 | h1
      · rcases Nat.lt_or_ge mi 86 with h1 | h1
        · have e : mi = 85 := by omega
          subst e
          exact ⟨_, zmc_85⟩
        · rcases Nat.lt_or_ge mi 87 with h1 | h1
          · have e : mi = 86 := by omega
            subst e
            exact ⟨_, zmc_86⟩
          · have e : mi = 87 := by omega
            subst e
            exact ⟨_, zmc_87⟩
      · rcases Nat.lt_or_ge mi 89 with h1 | h1
        · have e : mi = 88 := by omega
          subst e
          exact ⟨_, zmc_88⟩
        · rcases Nat.lt_or_ge mi 90 with h1 | h1
          · have e : mi = 89 := by omega
            subst e
            exact ⟨_, zmc_89⟩
          · have e : mi = 90 := by omega
            subst e
            exact ⟨_, zmc_90⟩
    · rcases Nat.lt_or_ge mi 94 with h1 | h1
      · rcases Nat.lt_or_ge mi 92 with h1 | h1
        · have e : mi = 91 := by omega
          subst e
          exact ⟨_, zmc_91⟩
        · rcases Nat.lt_or_ge mi 93 with h1 | h1
          · have e : mi = 92 := by omega
            subst e
            exact ⟨_, zmc_92⟩
          · have e : mi = 93 := by omega
            subst e
            exact ⟨_, zmc_93⟩
      · rcases Nat.lt_or_ge mi 95 with h1 | h1
        · have e : mi = 94 := by omega
          subst e
          exact ⟨_, zmc_94⟩
        · rcases Nat.lt_or_ge mi 96 with h1 | h1
          · have e : mi = 95 := by omega
            subst e
            exact ⟨_, zmc_95⟩
          · have e : mi = 96 := by omega
            subst e
            exact ⟨_, zmc_96⟩
theorem zmc_r97 (mi : Nat) (h0 : 97 ≤ mi) (hm : mi < 121) : ∃ i : Nat, lw_tbl[i]? = some (Cond.code (zy mi) (zby mi) (zml mi) (zrt mi)) := by
  rcases Nat.lt_or_ge mi 109 with h1 | h1
  · rcases Nat.lt_or_ge mi 103 with h1 | h1
    · rcases Nat.lt_or_ge mi 100 with h1 | h1
      · rcases Nat.lt_or_ge mi 98 with h1 | h1
        · have e : mi = 97 := by omega
          subst e
          exact ⟨_, zmc_97⟩
        · rcases Nat.lt_or_ge mi 99 with h1 | h1
          · have e : mi = 98 := by omega
            subst e
            exact ⟨_, zmc_98⟩
          · have e : mi = 99 := by omega
            subst e
            exact ⟨_, zmc_99⟩
      · rcases Nat.lt_or_ge mi 101 with h1 | h1
        · have e : mi = 100 := by omega
          subst e
          exact ⟨_, zmc_100⟩
        · rcases Nat.lt_or_ge mi 102 with h1 | h1
          · have e : mi = 101 := by omega
            subst e
            exact ⟨_, zmc_101⟩
          · have e : mi = 102 := by omega
            subst e
            exact ⟨_, zmc_102⟩
    · rcases Nat.lt_or_ge mi 106 with h1 | h1
      · rcases Nat.lt_or_ge mi 104 with h1 | h1
        · have e : mi = 103 := by omega
          subst e
          exact ⟨_, zmc_103⟩
        · rcases Nat.lt_or_ge mi 105 with h1 | h1
          · have e : mi = 104 := by omega
            subst e
            exact ⟨_, zmc_104⟩
          · have e : mi = 105 := by omega
            subst e
            exact ⟨_, zmc_105⟩
      · rcases Nat.lt_or_ge mi 107 with h1 | h1
        · have e : mi = 106 := by omega
          subst e
          exact ⟨_, zmc_106⟩
        · rcases Nat.lt_or_ge mi 108 with h1 | h1
          · have e : mi = 107 := by omega
            subst e
            exact ⟨_, zmc_107⟩
          · have e : mi = 108 := by omega
            subst e
            exact ⟨_, zmc_108⟩
  · rcases Nat.lt_or_ge mi 115 with h1 | h1
    · rcases Nat.lt_or_ge mi 112 with h1 | h1
      · rcases Nat.lt_or_ge mi 110 with h1 | h1
        · have e : mi = 109 := by omega
          subst e
          exact ⟨_, zmc_109⟩
        · rcases Nat.lt_or_ge mi 111 with h1 | h1
          · have e : mi = 110 := by omega
            subst e
            exact ⟨_, zmc_110⟩
          · have e : mi = 111 := by omega
            subst e
            exact ⟨_, zmc_111⟩
      · rcases Nat.lt_or_ge mi 113 with h1 | h1
        · have e : mi = 112 := by omega
          subst e
          exact ⟨_, zmc_112⟩
        · rcases Nat.lt_or_ge mi 114 with h1 | h1
          · have e : mi = 113 := by omega
            subst e
            exact ⟨_, zmc_113⟩
          · have e : mi = 114 := by omega
            subst e
            exact ⟨_, zmc_114⟩
    · rcases Nat.lt_or_ge mi 118 with h1 | h1
      · rcases Nat.lt_or_ge mi 116 with h1 | h1
        · have e : mi = 115 := by omega
          subst e
          exact ⟨_, zmc_115⟩
        · rcases Nat.lt_or_ge mi 117 with h1 | h1
          · have e : mi = 116 := by omega
            subst e
            exact ⟨_, zmc_116⟩
          · have e : mi = 117 := by omega
            subst e
            exact ⟨_, zmc_117⟩
      · rcases Nat.lt_or_ge mi 119 with h1 | h1
        · have e : mi = 118 := by omega
          subst e
          exact ⟨_, zmc_118⟩
        · rcases Nat.lt_or_ge mi 120 with h1 | h1
          · have e : mi = 119 := by omega
            subst e
            exact ⟨_, zmc_119⟩
          · have e : mi = 120 := by omega
            subst e
            exact ⟨_, zmc_120⟩
theorem zmc_r121 (mi : Nat) (h0 : 121 ≤ mi) (hm : mi < 145) : ∃ i : Nat, lw_tbl[i]? = some (Cond.code (zy mi) (zby mi) (zml mi) (zrt mi)) := by
  rcases Nat.lt_or_ge mi 133 with h1 | h1
  · rcases Nat.lt_or_ge mi 127 with h1 | h1
    · rcases Nat.lt_or_ge mi 124 with h1 | h1
      · rcases Nat.lt_or_ge mi 122 with h1 | h1
        · have e : mi = 121 := by omega
          subst e
          exact ⟨_, zmc_121⟩
        · rcases Nat.lt_or_ge mi 123 with h1 | h1
          · have e : mi = 122 := by omega
            subst e
            exact ⟨_, zmc_122⟩
          · have e : mi = 123 := by omega
            subst e
            exact ⟨_, zmc_123⟩
      · rcases Nat.lt_or_ge mi 125 with h1 | h1
        · have e : mi = 124 := by omega
          subst e
          exact ⟨_, zmc_124⟩
        · rcases Nat.lt_or_ge mi 126 with h1 | h1
          · have e : mi = 125 := by omega
            subst e
            exact ⟨_, zmc_125⟩
          · have e : mi = 126 := by omega
            subst e
            exact ⟨_, zmc_126⟩
    · rcases Nat.lt_or_ge mi 130 with h1 | h1
      · rcases Nat.lt_or_ge mi 128 with h1 | h1
        · have e : mi = 127 := by omega
          subst e
          exact ⟨_, zmc_127⟩
        · rcases Nat.lt_or_ge mi 129 with h1 | h1
          · have e : mi = 128 := by omega
            subst e
            exact ⟨_, zmc_128⟩
          · have e : mi = 129 := by omega
            subst e
            exact ⟨_, zmc_129⟩
      · rcases Nat.lt_or_ge mi 131 with h1 | h1
        · have e : mi = 130 := by omega
          subst e
          exact ⟨_, zmc_130⟩
        · rcases Nat.lt_or_ge mi 132 with h1 | h1
          · have e : mi = 131 := by omega
            subst e
            exact ⟨_, zmc_131⟩
          · have e : mi = 132 := by omega
            subst e
            exact ⟨_, zmc_132⟩
  · rcases Nat.lt_or_ge mi 139 with h1 | h1
    · rcases Nat.lt_or_ge mi 136 with h1 | h1
      · rcases Nat.lt_or_ge mi 134 with h1 | h1
        · have e : mi = 133 := by omega
          subst e
          exact ⟨_, zmc_133⟩
        · rcases Nat.lt_or_ge mi 135 with h1 | h1
          · have e : mi = 134 := by omega
            subst e
            exact ⟨_, zmc_134⟩
          · have e : mi = 135 := by omega
            subst e
            exact ⟨_, zmc_135⟩
      · rcases Nat.lt_or_ge mi 137 with h1 | h1
        · have e : mi = 136 := by omega
          subst e
          exact ⟨_, zmc_136⟩
        · rcases Nat.lt_or_ge mi 138 with h1 | h1
          · have e : mi = 137 := by omega
            subst e
            exact ⟨_, zmc_137⟩
          · have e : mi = 138 := by omega
            subst e
            exact ⟨_, zmc_138⟩
    · rcases Nat.lt_or_ge mi 142 with h1 | h1
      · rcases Nat.lt_or_ge mi 140 with h1 | h1
        · have e : mi = 139 := by omega
          subst e
          exact ⟨_, zmc_139⟩
        · rcases Nat.lt_or_ge mi 141 with h1 | h1
          · have e : mi = 140 := by omega
            subst e
            exact ⟨_, zmc_140⟩
          · have e : mi = 141 := by omega
            subst e
            exact ⟨_, zmc_141⟩
      · rcases Nat.lt_or_ge mi 143 with h1 | h1
        · have e : mi = 142 := by omega
          subst e
          exact ⟨_, zmc_142⟩
        · rcases Nat.lt_or_ge mi 144 with h1 | h1
          · have e : mi = 143 := by omega
            subst e
            exact ⟨_, zmc_143⟩
          · have e : mi = 144 := by omega
            subst e
            exact ⟨_, zmc_144⟩
theorem zmc_r145 (mi : Nat) (h0 : 145 ≤ mi) (hm : mi < 169) : ∃ i : Nat, lw_tbl[i]? = some (Cond.code (zy mi) (zby mi) (zml mi) (zrt mi)) := by
  rcases Nat.lt_or_ge mi 157 with h1 | h1
  · rcases Nat.lt_or_ge mi 151 with h1 | h1
    · rcases Nat.lt_or_ge mi 148 with h1 | h1
      · rcases Nat.lt_or_ge mi 146 with h1 | h1
        · have e : mi = 145 := by omega
          subst e
          exact ⟨_, zmc_145⟩
        · rcases Nat.lt_or_ge mi 147 with h1 | h1
          · have e : mi = 146 := by omega
            subst e
            exact ⟨_, zmc_146⟩
          · have e : mi = 147 := by omega
            subst e
            exact ⟨_, zmc_147⟩
      · rcases Nat.lt_or_ge mi 149 with h1 | h1
        · have e : mi = 148 := by omega
          subst e
          exact ⟨_, zmc_148⟩
        · rcases Nat.lt_or_ge mi 150 with h1 | h1
          · have e : mi = 149 := by omega
            subst e
            exact ⟨_, zmc_149⟩
          · have e : mi = 150 := by omega
            subst e
            exact ⟨_, zmc_150⟩
    · rcases Nat.lt_or_ge mi 154 with h1 | h1
      · rcases Nat.lt_or_ge mi 152 with h1 | h1
        · have e : mi = 151 := by omega
          subst e
          exact ⟨_, zmc_151⟩
        · rcases Nat.lt_or_ge mi 153 with h1 | h1
          · have e : mi = 152 := by omega
            subst e
            exact ⟨_, zmc_152⟩
          · have e : mi = 153 := by omega
            subst e
            exact ⟨_, zmc_153⟩
      · rcases Nat.lt_or_ge mi 155 with h1 | h1
        · have e : mi = 154 := by omega
          subst e
          exact ⟨_, zmc_154⟩
        · rcases Nat.lt_or_ge mi 156 with h1 | h1
          · have e : mi = 155 := by omega
            subst e
            exact ⟨_, zmc_155⟩
          · have e : mi = 156 := by omega
            subst e
            exact ⟨_, zmc_156⟩
  · rcases Nat.lt_or_ge mi 163 with h1 | h1
    · rcases Nat.lt_or_ge mi 160 with h1 | h1
      · rcases Nat.lt_or_ge mi 158 with h1 | h1
        · have e : mi = 157 := by omega
          subst e
          exact ⟨_, zmc_157⟩
        · rcases Nat.lt_or_ge mi 159 with h1 | h1
          · have e : mi = 158 := by omega
            subst e
            exact ⟨_, zmc_158⟩
          · have e : mi = 159 := by omega
            subst e
            exact ⟨_, zmc_159⟩
      · rcases Nat.lt_or_ge mi 161 with h1 | h1
        · have e : mi = 160 := by omega
          subst e
          exact ⟨_, zmc_160⟩
        · rcases Nat.lt_or_ge mi 162 with h1 | h1
          · have e : mi = 161 := by omega
            subst e
            exact ⟨_, zmc_161⟩
          · have e : mi = 162 := by omega
            subst e
            exact ⟨_, zmc_162⟩
    · rcases Nat.lt_or_ge mi 166 with h1 | h1
      · rcases Nat.lt_or_ge mi 164 with h1 | h1
        · have e : mi = 163 := by omega
          subst e
          exact ⟨_, zmc_163⟩
        · rcases Nat.lt_or_ge mi 165 with h1 | h1
          · have e : mi = 164 := by omega
            subst e
            exact ⟨_, zmc_164⟩
          · have e : mi = 165 := by omega
            subst e
            exact ⟨_, zmc_165⟩
      · rcases Nat.lt_or_ge mi 167 with h1 | h1
        · have e : mi = 166 := by omega
          subst e
          exact ⟨_, zmc_166⟩
        · rcases Nat.lt_or_ge mi 168 with h1 | h1
          · have e : mi = 167 := by omega
            subst e
            exact ⟨_, zmc_167⟩
          · have e : mi = 168 := by omega
            subst e
            exact ⟨_, zmc_168⟩
theorem zmc_r169 (mi : Nat) (h0 : 169 ≤ mi) (hm : mi < 193) : ∃ i : Nat, lw_tbl[i]? = some (Cond.code (zy mi) (zby mi) (zml mi) (zrt mi)) := by
  rcases Nat.lt_or_ge mi 181 with h1 | h1
  · rcases Nat.lt_or_ge mi 175 with h1 | h1
    · rcases Nat.lt_or_ge mi 172 with h1 | h1
      · rcases Nat.lt_or_ge mi 170 with h1 | h1
        · have e : mi = 169 := by omega
          subst e
          exact ⟨_, zmc_169⟩
        · rcases Nat.lt_or_ge mi 171 with h1 | h1
          · have e : mi = 170 := by omega
            subst e
            exact ⟨_, zmc_170⟩
          · have e : mi = 171 := by omega
            subst e
            exact ⟨_, zmc_171⟩
      · rcases Nat.lt_or_ge mi 173 with h1 | h1
        · have e : mi = 172 := by omega
          subst e
          exact ⟨_, zmc_172⟩
        · rcases Nat.lt_or_ge mi 174 with h1 | h1
          · have e : mi = 173 := by omega
            subst e
            exact ⟨_, zmc_173⟩
          · have e : mi = 174 := by omega
            subst e
            exact ⟨_, zmc_174⟩
    · rcases Nat.lt_or_ge mi 178 with h1 | h1
      · rcases Nat.lt_or_ge mi 176 with h1 | h1
        · have e : mi = 175 := by omega
          subst e
          exact ⟨_, zmc_175⟩
        · rcases Nat.lt_or_ge mi 177 with h1 | h1
          · have e : mi = 176 := by omega
            subst e
            exact ⟨_, zmc_176⟩
          · have e : mi = 177 := by omega
            subst e
            exact ⟨_, zmc_177⟩
      · rcases Nat.lt_or_ge mi 179 with h1 | h1
        · have e : mi = 178 := by omega
          subst e
          exact ⟨_, zmc_178⟩
        · rcases Nat.lt_or_ge mi 180 with h1 | h1
          · have e : mi = 179 := by omega
            subst e
            exact ⟨_, zmc_179⟩
          · have e : mi = 180 := by omega
            subst e
            exact ⟨_, zmc_180⟩
  · rcases Nat.lt_or_ge mi 187 with h1 | h1
    · rcases Nat.lt_or_ge mi 184 with h1 | h1
      · rcases Nat.lt_or_ge mi 182 with h1 | h1
        · have e : mi = 181 := by omega
          subst e
          exact ⟨_, zmc_181⟩
        · rcases Nat.lt_or_ge mi 183 with h1 | h1
          · have e : mi = 182 := by omega
            subst e
            exact ⟨_, zmc_182⟩
          · have e : mi = 183 := by omega
            subst e
            exact ⟨_, zmc_183⟩
      · rcases Nat.lt_or_ge mi 185 with h1 | h1
        · have e : mi = 184 := by omega
          subst e
          exact ⟨_, zmc_184⟩
        · rcases Nat.lt_or_ge mi 186 with h1 | h1
          · have e : mi = 185 := by omega
            subst e
            exact ⟨_, zmc_185⟩
          · have e : mi = 186 := by omega
            subst e
            exact ⟨_, zmc_186⟩
    · rcases Nat.lt_or_ge mi 190 with h1 | h1
      · rcases Nat.lt_or_ge mi 188 with h1 | h1
        · have e : mi = 187 := by omega
          subst e
          exact ⟨_, zmc_187⟩
        · rcases Nat.lt_or_ge mi 189 with h1 | h1
          · have e : mi = 188 := by omega
            subst e
            exact ⟨_, zmc_188⟩
          · have e : mi = 189 := by omega
            subst e
            exact ⟨_, zmc_189⟩
      · rcases Nat.lt_or_ge mi 191 with h1 | h1
        · have e : mi = 190 := by omega
          subst e
          exact ⟨_, zmc_190⟩
        · rcases Nat.lt_or_ge mi 192 with h1 | h1
          · have e : mi = 191 := by omega
            subst e
            exact ⟨_, zmc_191⟩
          · have e : mi = 192 := by omega
            subst e
            exact ⟨_, zmc_192⟩
theorem zmc_r193 (mi : Nat) (h0 : 193 ≤ mi) (hm : mi < 217) : ∃ i : Nat, lw_tbl[i]? = some (Cond.code (zy mi) (zby mi) (zml mi) (zrt mi)) := by
  rcases Nat.lt_or_ge mi 205 with h1 | h1
  · rcases Nat.lt_or_ge mi 199 with h1 | h1
    · rcases Nat.lt_or_ge mi 196 with h1 | h1
      · rcases Nat.lt_or_ge mi 194 with h1 | h1
        · have e : mi = 193 := by omega
          subst e
          exact ⟨_, zmc_193⟩
        · rcases Nat.lt_or_ge mi 195 with h1 | h1
          · have e : mi = 194 := by omega
            subst e
            exact ⟨_, zmc_194⟩
          · have e : mi = 195 := by omega
            subst e
            exact ⟨_, zmc_195⟩
      · rcases Nat.lt_or_ge mi 197 with h1 | h1
        · have e : mi = 196 := by omega
          subst e
          exact ⟨_, zmc_196⟩
        · rcases Nat.lt_or_ge mi 198 with h1 | h1
          · have e : mi = 197 := by omega
            subst e
            exact ⟨_, zmc_197⟩
          · have e : mi = 198 := by omega
            subst e
            exact ⟨_, zmc_198⟩
    · rcases Nat.lt_or_ge mi 202 with h1 | h1
      · rcases Nat.lt_or_ge mi 200 with h1 | h1
        · have e : mi = 199 := by omega
          subst e
          exact ⟨_, zmc_199⟩
        · rcases Nat.lt_or_ge mi 201 with h1 | h1
          · have e : mi = 200 := by omega
            subst e
            exact ⟨_, zmc_200⟩
          · have e : mi = 201 := by omega
            subst e
            exact ⟨_, zmc_201⟩
      · rcases Nat.lt_or_ge mi 203 with h1 | h1
        · have e : mi = 202 := by omega
          subst e
          exact ⟨_, zmc_202⟩
        · rcases Nat.lt_or_ge mi 204 with h1 | h1
          · have e : mi = 203 := by omega
            subst e
            exact ⟨_, zmc_203⟩
          · have e : mi = 204 := by omega
            subst e
            exact ⟨_, zmc_204⟩
  · rcases Nat.lt_or_ge mi 211 with h1 | h1
    · rcases Nat.lt_or_ge mi 208 with h1 | h1
      · rcases Nat.lt_or_ge mi 206 with h1 | h1
        · have e : mi = 205 := by omega
          subst e
          exact ⟨_, zmc_205⟩
        · rcases Nat.lt_or_ge mi 207 with h1 | h1
          · have e : mi = 206 := by omega
            subst e
            exact ⟨_, zmc_206⟩
          · have e : mi = 207 := by omega
            subst e
            exact ⟨_, zmc_207⟩
      · rcases Nat.lt_or_ge mi 209 with h1 | h1
        · have e : mi = 208 := by omega
          subst e
          exact ⟨_, zmc_208⟩
        · rcases Nat.lt_or_ge mi 210 with h1 | h1
          · have e : mi = 209 := by omega
            subst e
            exact ⟨_, zmc_209⟩
          · have e : mi = 210 := by omega
            subst e
            exact ⟨_, zmc_210⟩
    · rcases Nat.lt_or_ge mi 214 with h1 | h1
      · rcases Nat.lt_or_ge mi 212 with h1 | h1
        · have e : mi = 211 := by omega
          subst e
          exact ⟨_, zmc_211⟩
        · rcases Nat.lt_or_ge mi 213 with h1 | h1
          · have e : mi = 212 := by omega
            subst e
            exact ⟨_, zmc_212⟩
          · have e : mi = 213 := by omega
            subst e
            exact ⟨_, zmc_213⟩
      · rcases Nat.lt_or_ge mi 215 with h1 | h1
        · have e : mi = 214 := by omega
          subst e
          exact ⟨_, zmc_214⟩
        · rcases Nat.lt_or_ge mi 216 with h1 | h1
          · have e : mi = 215 := by omega
            subst e
            exact ⟨_, zmc_215⟩
          · have e : mi = 216 := by omega
            subst e
            exact ⟨_, zmc_216⟩
theorem zmc_r217 (mi : Nat) (h0 : 217 ≤ mi) (hm : mi < 241) : ∃ i : Nat, lw_tbl[i]? = some (Cond.code (zy mi) (zby mi) (zml mi) (zrt mi)) := by
  rcases Nat.lt_or_ge mi 229 with h1 | h1
  · rcases Nat.lt_or_ge mi 223 with h1 | h1
    · rcases Nat.lt_or_ge mi 220 with h1 | h1
      · rcases Nat.lt_or_ge mi 218 with h1 | h1
        · have e : mi = 217 := by omega
          subst e
          exact ⟨_, zmc_217⟩
        · rcases Nat.lt_or_ge mi 219 with h1 | h1
          · have e : mi = 218 := by omega
            subst e
            exact ⟨_, zmc_218⟩
          · have e : mi = 219 := by omega
            subst e
            exact ⟨_, zmc_219⟩
      · rcases Nat.lt_or_ge mi 221 with h1 | h1
        · have e : mi = 220 := by omega
          subst e
          exact ⟨_, zmc_220⟩
        · rcases Nat.lt_or_ge mi 222 with h1 | h1
          · have e : mi = 221 := by omega
            subst e
            exact ⟨_, zmc_221⟩
          · have e : mi = 222 := by omega
            subst e
            exact ⟨_, zmc_222⟩
    · rcases Nat.lt_or_ge mi 226 with h1 | h1
      · rcases Nat.lt_or_ge mi 224 with h1 | h1
        · have e : mi = 223 := by omega
          subst e
          exact ⟨_, zmc_223⟩
        · rcases Nat.lt_or_ge mi 225 with h1 | h1
          · have e : mi = 224 := by omega
            subst e
            exact ⟨_, zmc_224⟩
          · have e : mi = 225 := by omega
            subst e
            exact ⟨_, zmc_225⟩
      · rcases Nat.lt_or_ge mi 227 with h1 | h1
        · have e : mi = 226 := by omega
          subst e
          exact ⟨_, zmc_226⟩
        · rcases Nat.lt_or_ge mi 228 with h1 | h1
          · have e : mi = 227 := by omega
            subst e
            exact ⟨_, zmc_227⟩
          · have e : mi = 228 := by omega
            subst e
            exact ⟨_, zmc_228⟩
  · rcases Nat.lt_or_ge mi 235 with h1 | h1
    · rcases Nat.lt_or_ge mi 232 with h1 | h1
      · rcases Nat.lt_or_ge mi 230 with h1 | h1
        · have e : mi = 229 := by omega
          subst e
          exact ⟨_, zmc_229⟩
        · rcases Nat.lt_or_ge mi 231 with h1 | h1
          · have e : mi = 230 := by omega
            subst e
            exact ⟨_, zmc_230⟩
          · have e : mi = 231 := by omega
            subst e
            exact ⟨_, zmc_231⟩
      · rcases Nat.lt_or_ge mi 233 with h1 | h1
        · have e : mi = 232 := by omega
          subst e
          exact ⟨_, zmc_232⟩
        · rcases Nat.lt_or_ge mi 234 with h1 | h1
          · have e : mi = 233 := by omega
            subst e
            exact ⟨_, zmc_233⟩
          · have e : mi = 234 := by omega
            subst e
            exact ⟨_, zmc_234⟩
    · rcases Nat.lt_or_ge mi 238 with h1 | h1
      · rcases Nat.lt_or_ge mi 236 with h1 | h1
        · have e : mi = 235 := by omega
          subst e
          exact ⟨_, zmc_235⟩
        · rcases Nat.lt_or_ge mi 237 with h1 | h1
          · have e : mi = 236 := by omega
            subst e
            exact ⟨_, zmc_236⟩
          · have e : mi = 237 := by omega
            subst e
            exact ⟨_, zmc_237⟩
      · rcases Nat.lt_or_ge mi 239 with h1 | h1
        · have e : mi = 238 := by omega
          subst e
          exact ⟨_, zmc_238⟩
        · rcases Nat.lt_or_ge mi 240 with h1 | h1
          · have e : mi = 239 := by omega
            subst e
            exact ⟨_, zmc_239⟩
          · have e : mi = 240 := by omega
            subst e
            exact ⟨_, zmc_240⟩
theorem zmc_r241 (mi : Nat) (h0 : 241 ≤ mi) (hm : mi < 265) : ∃ i : Nat, lw_tbl[i]? = some (Cond.code (zy mi) (zby mi) (zml mi) (zrt mi)) := by
  rcases Nat.lt_or_ge mi 253 with h1 | h1
  · rcases Nat.lt_or_ge mi 247 with h1 | h1
    · rcases Nat.lt_or_ge mi 244 with h1 | h1
      · rcases Nat.lt_or_ge mi 242 with h1 | h1
        · have e : mi = 241 := by omega
          subst e
          exact ⟨_, zmc_241⟩
        · rcases Nat.lt_or_ge mi 243 with h1 | h1
          · have e : mi = 242 := by omega
            subst e
            exact ⟨_, zmc_242⟩
          · have e : mi = 243 := by omega
            subst e
            exact ⟨_, zmc_243⟩
      · rcases Nat.lt_or_ge mi 245 with h1 | h1
        · have e : mi = 244 := by omega
          subst e
          exact ⟨_, zmc_244⟩
        · rcases Nat.lt_or_ge mi 246 with h1 | h1
          · have e : mi = 245 := by omega
            subst e
            exact ⟨_, zmc_245⟩
          · have e : mi = 246 := by omega
            subst e
            exact ⟨_, zmc_246⟩
    · rcases Nat.lt_or_ge mi 250 with h1 | h1
      · rcases Nat.lt_or_ge mi 248 with h1 | h1
        · have e : mi = 247 := by omega
          subst e
          exact ⟨_, zmc_247⟩
        · rcases Nat.lt_or_ge mi 249 with h1 | h1
          · have e : mi = 248 := by omega
            subst e
            exact ⟨_, zmc_248⟩
          · have e : mi = 249 := by omega
            subst e
            exact ⟨_, zmc_249⟩
      · rcases Nat.lt_or_ge mi 251 with h1 | h1
        · have e : mi = 250 := by omega
          subst e
          exact ⟨_, zmc_250⟩
        · rcases Nat.lt_or_ge mi 252 with h1 | h1
          · have e : mi = 251 := by omega
            subst e
            exact ⟨_, zmc_251⟩
          · have e : mi = 252 := by omega
            subst e
            exact ⟨_, zmc_252⟩
  · rcases Nat.lt_or_ge mi 259 with h1 | h1
    · rcases Nat.lt_or_ge mi 256 with h1 | h1
      · rcases Nat.lt_or_ge mi 254 with h1 | h1
        · have e : mi = 253 := by omega
          subst e
          exact ⟨_, zmc_253⟩
        · rcases Nat.lt_or_ge mi 255 with h1 | h1
          · have e : mi = 254 := by omega
            subst e
            exact ⟨_, zmc_254⟩
          · have e : mi = 255 := by omega
            subst e
            exact ⟨_, zmc_255⟩
      · rcases Nat.lt_or_ge mi 257 with h1 | h1
        · have e : mi = 256 := by omega
          subst e
          exact ⟨_, zmc_256⟩
        · rcases Nat.lt_or_ge mi 258 with h1 | h1
          · have e : mi = 257 := by omega
            subst e
            exact ⟨_, zmc_257⟩
          · have e : mi = 258 := by omega
            subst e
            exact ⟨_, zmc_258⟩
    · rcases Nat.lt_or_ge mi 262 with h1 | h1
      · rcases Nat.lt_or_ge mi 260 with h1 | h1
        · have e : mi = 259 := by omega
          subst e
          exact ⟨_, zmc_259⟩
        · rcases Nat.lt_or_ge mi 261 with h1 | h1
          · have e : mi = 260 := by omega
            subst e
            exact ⟨_, zmc_260⟩
          · have e : mi = 261 := by omega
            subst e
            exact ⟨_, zmc_261⟩
      · rcases Nat.lt_or_ge mi 263 with h1 | h1
        · have e : mi = 262 := by omega
          subst e
          exact ⟨_, zmc_262⟩
        · rcases Nat.lt_or_ge mi 264 with h1 | h1
          · have e : mi = 263 := by omega
            subst e
            exact ⟨_, zmc_263⟩
          · have e : mi = 264 := by omega
            subst e
            exact ⟨_, zmc_264⟩
theorem zmc_all (mi : Nat) (h0 : 0 < mi) (hm : mi < zNM) : ∃ i : Nat, lw_tbl[i]? = some (Cond.code (zy mi) (zby mi) (zml mi) (zrt mi)) := by
  have hm2 : mi < 265 := hm
  rcases (show (1 ≤ mi ∧ mi < 25) ∨ (25 ≤ mi ∧ mi < 49) ∨ (49 ≤ mi ∧ mi < 73) ∨ (73 ≤ mi ∧ mi < 97) ∨ (97 ≤ mi ∧ mi < 121) ∨ (121 ≤ mi ∧ mi < 145) ∨ (145 ≤ mi ∧ mi < 169) ∨ (169 ≤ mi ∧ mi < 193) ∨ (193 ≤ mi ∧ mi < 217) ∨ (217 ≤ mi ∧ mi < 241) ∨ (241 ≤ mi ∧ mi < 265) by omega) with h | h | h | h | h | h | h | h | h | h | h
  · exact zmc_r1 mi h.1 h.2
  · exact zmc_r25 mi h.1 h.2
  · exact zmc_r49 mi h.1 h.2
  · exact zmc_r73 mi h.1 h.2
  · exact zmc_r97 mi h.1 h.2
  · exact zmc_r121 mi h.1 h.2
  · exact zmc_r145 mi h.1 h.2
  · exact zmc_r169 mi h.1 h.2
  · exact zmc_r193 mi h.1 h.2
  · exact zmc_r217 mi h.1 h.2
  · exact zmc_r241 mi h.1 h.2
