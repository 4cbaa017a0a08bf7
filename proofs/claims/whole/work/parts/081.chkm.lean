set_option maxRecDepth 100000 in
theorem mo_cd0 : lw_tbl[422]? = some (Cond.code (mo_Y 0) (mo_B 0) (mo_ml 0) (mo_rt 0)) := rfl
set_option maxRecDepth 100000 in
theorem mo_cd1 : lw_tbl[411]? = some (Cond.code (mo_Y 1) (mo_B 1) (mo_ml 1) (mo_rt 1)) := rfl
set_option maxRecDepth 100000 in
theorem mo_cd2 : lw_tbl[414]? = some (Cond.code (mo_Y 2) (mo_B 2) (mo_ml 2) (mo_rt 2)) := rfl
set_option maxRecDepth 100000 in
theorem mo_cd3 : lw_tbl[308]? = some (Cond.code (mo_Y 3) (mo_B 3) (mo_ml 3) (mo_rt 3)) := rfl
set_option maxRecDepth 100000 in
theorem mo_cd4 : lw_tbl[418]? = some (Cond.code (mo_Y 4) (mo_B 4) (mo_ml 4) (mo_rt 4)) := rfl
set_option maxRecDepth 100000 in
theorem mo_cd5 : lw_tbl[271]? = some (Cond.code (mo_Y 5) (mo_B 5) (mo_ml 5) (mo_rt 5)) := rfl
set_option maxRecDepth 100000 in
theorem mo_cd6 : lw_tbl[240]? = some (Cond.code (mo_Y 6) (mo_B 6) (mo_ml 6) (mo_rt 6)) := rfl
set_option maxRecDepth 100000 in
theorem mo_cd7 : lw_tbl[247]? = some (Cond.code (mo_Y 7) (mo_B 7) (mo_ml 7) (mo_rt 7)) := rfl
set_option maxRecDepth 100000 in
theorem mo_cd8 : lw_tbl[254]? = some (Cond.code (mo_Y 8) (mo_B 8) (mo_ml 8) (mo_rt 8)) := rfl
set_option maxRecDepth 100000 in
theorem mo_cd9 : lw_tbl[261]? = some (Cond.code (mo_Y 9) (mo_B 9) (mo_ml 9) (mo_rt 9)) := rfl
set_option maxRecDepth 100000 in
theorem mo_cd10 : lw_tbl[183]? = some (Cond.code (mo_Y 10) (mo_B 10) (mo_ml 10) (mo_rt 10)) := rfl
set_option maxRecDepth 100000 in
theorem mo_cd11 : lw_tbl[97]? = some (Cond.code (mo_Y 11) (mo_B 11) (mo_ml 11) (mo_rt 11)) := rfl
set_option maxRecDepth 100000 in
theorem mo_cd12 : lw_tbl[666]? = some (Cond.code (mo_Y 12) (mo_B 12) (mo_ml 12) (mo_rt 12)) := rfl
set_option maxRecDepth 100000 in
theorem mo_cd13 : lw_tbl[604]? = some (Cond.code (mo_Y 13) (mo_B 13) (mo_ml 13) (mo_rt 13)) := rfl
set_option maxRecDepth 100000 in
theorem mo_cd14 : lw_tbl[66]? = some (Cond.code (mo_Y 14) (mo_B 14) (mo_ml 14) (mo_rt 14)) := rfl
set_option maxRecDepth 100000 in
theorem mo_cd15 : lw_tbl[382]? = some (Cond.code (mo_Y 15) (mo_B 15) (mo_ml 15) (mo_rt 15)) := rfl
set_option maxRecDepth 100000 in
theorem mo_cd16 : lw_tbl[444]? = some (Cond.code (mo_Y 16) (mo_B 16) (mo_ml 16) (mo_rt 16)) := rfl
set_option maxRecDepth 100000 in
theorem mo_cd17 : lw_tbl[628]? = some (Cond.code (mo_Y 17) (mo_B 17) (mo_ml 17) (mo_rt 17)) := rfl
set_option maxRecDepth 100000 in
theorem mo_cd18 : lw_tbl[452]? = some (Cond.code (mo_Y 18) (mo_B 18) (mo_ml 18) (mo_rt 18)) := rfl
set_option maxRecDepth 100000 in
theorem mo_cd19 : lw_tbl[487]? = some (Cond.code (mo_Y 19) (mo_B 19) (mo_ml 19) (mo_rt 19)) := rfl
set_option maxRecDepth 100000 in
theorem mo_cd20 : lw_tbl[507]? = some (Cond.code (mo_Y 20) (mo_B 20) (mo_ml 20) (mo_rt 20)) := rfl
set_option maxRecDepth 100000 in
theorem mo_cd21 : lw_tbl[619]? = some (Cond.code (mo_Y 21) (mo_B 21) (mo_ml 21) (mo_rt 21)) := rfl
set_option maxRecDepth 100000 in
theorem mo_cd22 : lw_tbl[587]? = some (Cond.code (mo_Y 22) (mo_B 22) (mo_ml 22) (mo_rt 22)) := rfl
set_option maxRecDepth 100000 in
theorem mo_cd23 : lw_tbl[592]? = some (Cond.code (mo_Y 23) (mo_B 23) (mo_ml 23) (mo_rt 23)) := rfl
set_option maxRecDepth 100000 in
theorem mo_cd24 : lw_tbl[596]? = some (Cond.code (mo_Y 24) (mo_B 24) (mo_ml 24) (mo_rt 24)) := rfl
set_option maxRecDepth 100000 in
theorem mo_cd25 : lw_tbl[491]? = some (Cond.code (mo_Y 25) (mo_B 25) (mo_ml 25) (mo_rt 25)) := rfl
set_option maxRecDepth 100000 in
theorem mo_cd26 : lw_tbl[608]? = some (Cond.code (mo_Y 26) (mo_B 26) (mo_ml 26) (mo_rt 26)) := rfl
set_option maxRecDepth 100000 in
theorem mo_cd27 : lw_tbl[511]? = some (Cond.code (mo_Y 27) (mo_B 27) (mo_ml 27) (mo_rt 27)) := rfl
set_option maxRecDepth 100000 in
theorem mo_cd28 : lw_tbl[515]? = some (Cond.code (mo_Y 28) (mo_B 28) (mo_ml 28) (mo_rt 28)) := rfl
set_option maxRecDepth 100000 in
theorem mo_cd29 : lw_tbl[536]? = some (Cond.code (mo_Y 29) (mo_B 29) (mo_ml 29) (mo_rt 29)) := rfl
set_option maxRecDepth 100000 in
theorem mo_cd30 : lw_tbl[544]? = some (Cond.code (mo_Y 30) (mo_B 30) (mo_ml 30) (mo_rt 30)) := rfl
set_option maxRecDepth 100000 in
theorem mo_cd31 : lw_tbl[550]? = some (Cond.code (mo_Y 31) (mo_B 31) (mo_ml 31) (mo_rt 31)) := rfl
set_option maxRecDepth 100000 in
theorem mo_cd32 : lw_tbl[554]? = some (Cond.code (mo_Y 32) (mo_B 32) (mo_ml 32) (mo_rt 32)) := rfl
set_option maxRecDepth 100000 in
theorem mo_cd33 : lw_tbl[563]? = some (Cond.code (mo_Y 33) (mo_B 33) (mo_ml 33) (mo_rt 33)) := rfl
set_option maxRecDepth 100000 in
theorem mo_cd34 : lw_tbl[576]? = some (Cond.code (mo_Y 34) (mo_B 34) (mo_ml 34) (mo_rt 34)) := rfl
set_option maxRecDepth 100000 in
theorem mo_cd35 : lw_tbl[614]? = some (Cond.code (mo_Y 35) (mo_B 35) (mo_ml 35) (mo_rt 35)) := rfl
set_option maxRecDepth 100000 in
theorem mo_cd36 : lw_tbl[158]? = some (Cond.code (mo_Y 36) (mo_B 36) (mo_ml 36) (mo_rt 36)) := rfl
set_option maxRecDepth 100000 in
theorem mo_cd37 : lw_tbl[523]? = some (Cond.code (mo_Y 37) (mo_B 37) (mo_ml 37) (mo_rt 37)) := rfl
set_option maxRecDepth 100000 in
theorem mo_cd38 : lw_tbl[527]? = some (Cond.code (mo_Y 38) (mo_B 38) (mo_ml 38) (mo_rt 38)) := rfl
set_option maxRecDepth 100000 in
theorem mo_cd39 : lw_tbl[72]? = some (Cond.code (mo_Y 39) (mo_B 39) (mo_ml 39) (mo_rt 39)) := rfl
set_option maxRecDepth 100000 in
theorem mo_cd40 : lw_tbl[251]? = some (Cond.code (mo_Y 40) (mo_B 40) (mo_ml 40) (mo_rt 40)) := rfl
set_option maxRecDepth 100000 in
theorem mo_cd41 : lw_tbl[390]? = some (Cond.code (mo_Y 41) (mo_B 41) (mo_ml 41) (mo_rt 41)) := rfl
set_option maxRecDepth 100000 in
theorem mo_cd42 : lw_tbl[244]? = some (Cond.code (mo_Y 42) (mo_B 42) (mo_ml 42) (mo_rt 42)) := rfl
set_option maxRecDepth 100000 in
theorem mo_cd43 : lw_tbl[519]? = some (Cond.code (mo_Y 43) (mo_B 43) (mo_ml 43) (mo_rt 43)) := rfl
set_option maxRecDepth 100000 in
theorem mo_cd44 : lw_tbl[258]? = some (Cond.code (mo_Y 44) (mo_B 44) (mo_ml 44) (mo_rt 44)) := rfl
set_option maxRecDepth 100000 in
theorem mo_cd45 : lw_tbl[267]? = some (Cond.code (mo_Y 45) (mo_B 45) (mo_ml 45) (mo_rt 45)) := rfl
set_option maxRecDepth 100000 in
theorem mo_cd46 : lw_tbl[298]? = some (Cond.code (mo_Y 46) (mo_B 46) (mo_ml 46) (mo_rt 46)) := rfl
set_option maxRecDepth 100000 in
theorem mo_cd47 : lw_tbl[122]? = some (Cond.code (mo_Y 47) (mo_B 47) (mo_ml 47) (mo_rt 47)) := rfl
set_option maxRecDepth 100000 in
theorem mo_cd48 : lw_tbl[448]? = some (Cond.code (mo_Y 48) (mo_B 48) (mo_ml 48) (mo_rt 48)) := rfl
set_option maxRecDepth 100000 in
theorem mo_cd49 : lw_tbl[532]? = some (Cond.code (mo_Y 49) (mo_B 49) (mo_ml 49) (mo_rt 49)) := rfl
set_option maxRecDepth 100000 in
theorem mo_cd50 : lw_tbl[457]? = some (Cond.code (mo_Y 50) (mo_B 50) (mo_ml 50) (mo_rt 50)) := rfl
set_option maxRecDepth 100000 in
theorem mo_cd51 : lw_tbl[540]? = some (Cond.code (mo_Y 51) (mo_B 51) (mo_ml 51) (mo_rt 51)) := rfl
set_option maxRecDepth 100000 in
theorem mo_cd52 : lw_tbl[461]? = some (Cond.code (mo_Y 52) (mo_B 52) (mo_ml 52) (mo_rt 52)) := rfl
set_option maxRecDepth 100000 in
theorem mo_cd53 : lw_tbl[499]? = some (Cond.code (mo_Y 53) (mo_B 53) (mo_ml 53) (mo_rt 53)) := rfl
set_option maxRecDepth 100000 in
theorem mo_cd54 : lw_tbl[567]? = some (Cond.code (mo_Y 54) (mo_B 54) (mo_ml 54) (mo_rt 54)) := rfl
set_option maxRecDepth 100000 in
theorem mo_cd55 : lw_tbl[559]? = some (Cond.code (mo_Y 55) (mo_B 55) (mo_ml 55) (mo_rt 55)) := rfl
set_option maxRecDepth 100000 in
theorem mo_cd56 : lw_tbl[571]? = some (Cond.code (mo_Y 56) (mo_B 56) (mo_ml 56) (mo_rt 56)) := rfl
set_option maxRecDepth 100000 in
theorem mo_cd57 : lw_tbl[495]? = some (Cond.code (mo_Y 57) (mo_B 57) (mo_ml 57) (mo_rt 57)) := rfl
set_option maxRecDepth 100000 in
theorem mo_cd58 : lw_tbl[600]? = some (Cond.code (mo_Y 58) (mo_B 58) (mo_ml 58) (mo_rt 58)) := rfl
set_option maxRecDepth 100000 in
theorem mo_cd59 : lw_tbl[302]? = some (Cond.code (mo_Y 59) (mo_B 59) (mo_ml 59) (mo_rt 59)) := rfl
set_option maxRecDepth 100000 in
theorem mo_cd60 : lw_tbl[407]? = some (Cond.code (mo_Y 60) (mo_B 60) (mo_ml 60) (mo_rt 60)) := rfl
set_option maxRecDepth 100000 in
theorem mo_cd61 : lw_tbl[503]? = some (Cond.code (mo_Y 61) (mo_B 61) (mo_ml 61) (mo_rt 61)) := rfl
set_option maxRecDepth 100000 in
theorem mo_cd62 : lw_tbl[583]? = some (Cond.code (mo_Y 62) (mo_B 62) (mo_ml 62) (mo_rt 62)) := rfl
set_option maxRecDepth 100000 in
theorem mo_cd63 : lw_tbl[579]? = some (Cond.code (mo_Y 63) (mo_B 63) (mo_ml 63) (mo_rt 63)) := rfl
set_option maxRecDepth 100000 in
theorem mo_cd64 : lw_tbl[58]? = some (Cond.code (mo_Y 64) (mo_B 64) (mo_ml 64) (mo_rt 64)) := rfl
set_option maxRecDepth 100000 in
theorem mo_cd65 : lw_tbl[237]? = some (Cond.code (mo_Y 65) (mo_B 65) (mo_ml 65) (mo_rt 65)) := rfl
set_option maxRecDepth 100000 in
theorem mo_cd66 : lw_tbl[293]? = some (Cond.code (mo_Y 66) (mo_B 66) (mo_ml 66) (mo_rt 66)) := rfl
set_option maxRecDepth 100000 in
theorem mo_cd67 : lw_tbl[377]? = some (Cond.code (mo_Y 67) (mo_B 67) (mo_ml 67) (mo_rt 67)) := rfl
set_option maxRecDepth 100000 in
theorem mo_cd68 : lw_tbl[386]? = some (Cond.code (mo_Y 68) (mo_B 68) (mo_ml 68) (mo_rt 68)) := rfl
set_option maxRecDepth 100000 in
theorem mo_cd69 : lw_tbl[394]? = some (Cond.code (mo_Y 69) (mo_B 69) (mo_ml 69) (mo_rt 69)) := rfl
set_option maxRecDepth 100000 in
theorem mo_cd70 : lw_tbl[403]? = some (Cond.code (mo_Y 70) (mo_B 70) (mo_ml 70) (mo_rt 70)) := rfl
set_option maxRecDepth 100000 in
theorem mo_cd71 : lw_tbl[440]? = some (Cond.code (mo_Y 71) (mo_B 71) (mo_ml 71) (mo_rt 71)) := rfl
set_option maxRecDepth 100000 in
theorem mo_cd72 : lw_tbl[624]? = some (Cond.code (mo_Y 72) (mo_B 72) (mo_ml 72) (mo_rt 72)) := rfl
set_option maxRecDepth 100000 in
theorem mo_cd73 : lw_tbl[634]? = some (Cond.code (mo_Y 73) (mo_B 73) (mo_ml 73) (mo_rt 73)) := rfl
set_option maxRecDepth 100000 in
theorem mo_cd74 : lw_tbl[638]? = some (Cond.code (mo_Y 74) (mo_B 74) (mo_ml 74) (mo_rt 74)) := rfl
set_option maxRecDepth 100000 in
theorem mo_cd75 : lw_tbl[642]? = some (Cond.code (mo_Y 75) (mo_B 75) (mo_ml 75) (mo_rt 75)) := rfl
set_option maxRecDepth 100000 in
theorem mo_cd76 : lw_tbl[647]? = some (Cond.code (mo_Y 76) (mo_B 76) (mo_ml 76) (mo_rt 76)) := rfl
set_option maxRecDepth 100000 in
theorem mo_cd77 : lw_tbl[652]? = some (Cond.code (mo_Y 77) (mo_B 77) (mo_ml 77) (mo_rt 77)) := rfl
set_option maxRecDepth 100000 in
theorem mo_cd78 : lw_tbl[657]? = some (Cond.code (mo_Y 78) (mo_B 78) (mo_ml 78) (mo_rt 78)) := rfl
set_option maxRecDepth 100000 in
theorem mo_cd79 : lw_tbl[662]? = some (Cond.code (mo_Y 79) (mo_B 79) (mo_ml 79) (mo_rt 79)) := rfl
set_option maxRecDepth 100000 in
theorem mo_cd80 : lw_tbl[670]? = some (Cond.code (mo_Y 80) (mo_B 80) (mo_ml 80) (mo_rt 80)) := rfl
set_option maxRecDepth 100000 in
theorem mo_cd81 : lw_tbl[674]? = some (Cond.code (mo_Y 81) (mo_B 81) (mo_ml 81) (mo_rt 81)) := rfl
set_option maxRecDepth 100000 in
theorem mo_cd82 : lw_tbl[678]? = some (Cond.code (mo_Y 82) (mo_B 82) (mo_ml 82) (mo_rt 82)) := rfl
set_option maxRecDepth 100000 in
theorem mo_cd83 : lw_tbl[397]? = some (Cond.code (mo_Y 83) (mo_B 83) (mo_ml 83) (mo_rt 83)) := rfl
set_option maxRecDepth 100000 in
theorem mo_cd84 : lw_tbl[683]? = some (Cond.code (mo_Y 84) (mo_B 84) (mo_ml 84) (mo_rt 84)) := rfl
set_option maxRecDepth 100000 in
theorem mo_cd85 : lw_tbl[829]? = some (Cond.code (mo_Y 85) (mo_B 85) (mo_ml 85) (mo_rt 85)) := rfl
set_option maxRecDepth 100000 in
theorem mo_cd86 : lw_tbl[833]? = some (Cond.code (mo_Y 86) (mo_B 86) (mo_ml 86) (mo_rt 86)) := rfl
set_option maxRecDepth 100000 in
theorem mo_cd87 : lw_tbl[837]? = some (Cond.code (mo_Y 87) (mo_B 87) (mo_ml 87) (mo_rt 87)) := rfl
set_option maxRecDepth 100000 in
theorem mo_cd88 : lw_tbl[825]? = some (Cond.code (mo_Y 88) (mo_B 88) (mo_ml 88) (mo_rt 88)) := rfl
set_option maxRecDepth 100000 in
theorem mo_cd89 : lw_tbl[842]? = some (Cond.code (mo_Y 89) (mo_B 89) (mo_ml 89) (mo_rt 89)) := rfl
set_option maxRecDepth 100000 in
theorem mo_cd90 : lw_tbl[846]? = some (Cond.code (mo_Y 90) (mo_B 90) (mo_ml 90) (mo_rt 90)) := rfl
set_option maxRecDepth 100000 in
theorem mo_cd91 : lw_tbl[850]? = some (Cond.code (mo_Y 91) (mo_B 91) (mo_ml 91) (mo_rt 91)) := rfl
set_option maxRecDepth 100000 in
theorem mo_cd92 : lw_tbl[854]? = some (Cond.code (mo_Y 92) (mo_B 92) (mo_ml 92) (mo_rt 92)) := rfl
set_option maxRecDepth 100000 in
theorem mo_cd93 : lw_tbl[858]? = some (Cond.code (mo_Y 93) (mo_B 93) (mo_ml 93) (mo_rt 93)) := rfl
set_option maxRecDepth 100000 in
theorem mo_cd94 : lw_tbl[878]? = some (Cond.code (mo_Y 94) (mo_B 94) (mo_ml 94) (mo_rt 94)) := rfl
set_option maxRecDepth 100000 in
theorem mo_cd95 : lw_tbl[890]? = some (Cond.code (mo_Y 95) (mo_B 95) (mo_ml 95) (mo_rt 95)) := rfl
set_option maxRecDepth 100000 in
theorem mo_cd96 : lw_tbl[874]? = some (Cond.code (mo_Y 96) (mo_B 96) (mo_ml 96) (mo_rt 96)) := rfl
set_option maxRecDepth 100000 in
theorem mo_cd97 : lw_tbl[906]? = some (Cond.code (mo_Y 97) (mo_B 97) (mo_ml 97) (mo_rt 97)) := rfl
set_option maxRecDepth 100000 in
theorem mo_cd98 : lw_tbl[870]? = some (Cond.code (mo_Y 98) (mo_B 98) (mo_ml 98) (mo_rt 98)) := rfl
set_option maxRecDepth 100000 in
theorem mo_cd99 : lw_tbl[882]? = some (Cond.code (mo_Y 99) (mo_B 99) (mo_ml 99) (mo_rt 99)) := rfl
set_option maxRecDepth 100000 in
theorem mo_cd100 : lw_tbl[886]? = some (Cond.code (mo_Y 100) (mo_B 100) (mo_ml 100) (mo_rt 100)) := rfl
set_option maxRecDepth 100000 in
theorem mo_cd101 : lw_tbl[894]? = some (Cond.code (mo_Y 101) (mo_B 101) (mo_ml 101) (mo_rt 101)) := rfl
set_option maxRecDepth 100000 in
theorem mo_cd102 : lw_tbl[902]? = some (Cond.code (mo_Y 102) (mo_B 102) (mo_ml 102) (mo_rt 102)) := rfl
set_option maxRecDepth 100000 in
theorem mo_cd103 : lw_tbl[898]? = some (Cond.code (mo_Y 103) (mo_B 103) (mo_ml 103) (mo_rt 103)) := rfl
set_option maxRecDepth 100000 in
theorem mo_cd104 : lw_tbl[922]? = some (Cond.code (mo_Y 104) (mo_B 104) (mo_ml 104) (mo_rt 104)) := rfl
set_option maxRecDepth 100000 in
theorem mo_cd105 : lw_tbl[914]? = some (Cond.code (mo_Y 105) (mo_B 105) (mo_ml 105) (mo_rt 105)) := rfl
set_option maxRecDepth 100000 in
theorem mo_cd106 : lw_tbl[910]? = some (Cond.code (mo_Y 106) (mo_B 106) (mo_ml 106) (mo_rt 106)) := rfl
set_option maxRecDepth 100000 in
theorem mo_cd107 : lw_tbl[918]? = some (Cond.code (mo_Y 107) (mo_B 107) (mo_ml 107) (mo_rt 107)) := rfl
set_option maxRecDepth 100000 in
theorem mo_cd108 : lw_tbl[926]? = some (Cond.code (mo_Y 108) (mo_B 108) (mo_ml 108) (mo_rt 108)) := rfl
set_option maxRecDepth 100000 in
theorem mo_cd109 : lw_tbl[930]? = some (Cond.code (mo_Y 109) (mo_B 109) (mo_ml 109) (mo_rt 109)) := rfl
set_option maxRecDepth 100000 in
theorem mo_cd110 : lw_tbl[934]? = some (Cond.code (mo_Y 110) (mo_B 110) (mo_ml 110) (mo_rt 110)) := rfl
set_option maxRecDepth 100000 in
theorem mo_cd111 : lw_tbl[866]? = some (Cond.code (mo_Y 111) (mo_B 111) (mo_ml 111) (mo_rt 111)) := rfl
set_option maxRecDepth 100000 in
theorem mo_cd112 : lw_tbl[862]? = some (Cond.code (mo_Y 112) (mo_B 112) (mo_ml 112) (mo_rt 112)) := rfl
set_option maxRecDepth 100000 in
theorem mo_cd113 : lw_tbl[938]? = some (Cond.code (mo_Y 113) (mo_B 113) (mo_ml 113) (mo_rt 113)) := rfl
set_option maxRecDepth 100000 in
theorem mo_cd114 : lw_tbl[942]? = some (Cond.code (mo_Y 114) (mo_B 114) (mo_ml 114) (mo_rt 114)) := rfl
set_option maxRecDepth 100000 in
theorem mo_cd115 : lw_tbl[946]? = some (Cond.code (mo_Y 115) (mo_B 115) (mo_ml 115) (mo_rt 115)) := rfl
set_option maxRecDepth 100000 in
theorem mo_cd116 : lw_tbl[958]? = some (Cond.code (mo_Y 116) (mo_B 116) (mo_ml 116) (mo_rt 116)) := rfl
set_option maxRecDepth 100000 in
theorem mo_cd117 : lw_tbl[954]? = some (Cond.code (mo_Y 117) (mo_B 117) (mo_ml 117) (mo_rt 117)) := rfl
set_option maxRecDepth 100000 in
theorem mo_cd118 : lw_tbl[950]? = some (Cond.code (mo_Y 118) (mo_B 118) (mo_ml 118) (mo_rt 118)) := rfl
set_option maxRecDepth 100000 in
theorem mo_cd119 : lw_tbl[962]? = some (Cond.code (mo_Y 119) (mo_B 119) (mo_ml 119) (mo_rt 119)) := rfl
set_option maxRecDepth 100000 in
theorem mo_cd120 : lw_tbl[966]? = some (Cond.code (mo_Y 120) (mo_B 120) (mo_ml 120) (mo_rt 120)) := rfl
set_option maxRecDepth 100000 in
theorem mo_cd121 : lw_tbl[970]? = some (Cond.code (mo_Y 121) (mo_B 121) (mo_ml 121) (mo_rt 121)) := rfl
set_option maxRecDepth 100000 in
theorem mo_cd122 : lw_tbl[974]? = some (Cond.code (mo_Y 122) (mo_B 122) (mo_ml 122) (mo_rt 122)) := rfl
set_option maxRecDepth 100000 in
theorem mo_cd123 : lw_tbl[978]? = some (Cond.code (mo_Y 123) (mo_B 123) (mo_ml 123) (mo_rt 123)) := rfl
set_option maxRecDepth 100000 in
theorem mo_cd124 : lw_tbl[982]? = some (Cond.code (mo_Y 124) (mo_B 124) (mo_ml 124) (mo_rt 124)) := rfl
set_option maxRecDepth 100000 in
theorem mo_cd125 : lw_tbl[986]? = some (Cond.code (mo_Y 125) (mo_B 125) (mo_ml 125) (mo_rt 125)) := rfl
set_option maxRecDepth 100000 in
theorem mo_codes (mj : Nat) (h : mj < 126) : Cond.code (mo_Y mj) (mo_B mj) (mo_ml mj) (mo_rt mj) ∈ lw_tbl := by
  match mj, h with
  | 0, _ => exact List.mem_of_getElem? mo_cd0
  | 1, _ => exact List.mem_of_getElem? mo_cd1
  | 2, _ => exact List.mem_of_getElem? mo_cd2
  | 3, _ => exact List.mem_of_getElem? mo_cd3
  | 4, _ => exact List.mem_of_getElem? mo_cd4
  | 5, _ => exact List.mem_of_getElem? mo_cd5
  | 6, _ => exact List.mem_of_getElem? mo_cd6
  | 7, _ => exact List.mem_of_getElem? mo_cd7
  | 8, _ => exact List.mem_of_getElem? mo_cd8
  | 9, _ => exact List.mem_of_getElem? mo_cd9
  | 10, _ => exact List.mem_of_getElem? mo_cd10
  | 11, _ => exact List.mem_of_getElem? mo_cd11
  | 12, _ => exact List.mem_of_getElem? mo_cd12
  | 13, _ => exact List.mem_of_getElem? mo_cd13
  | 14, _ => exact List.mem_of_getElem? mo_cd14
  | 15, _ => exact List.mem_of_getElem? mo_cd15
  | 16, _ => exact List.mem_of_getElem? mo_cd16
  | 17, _ => exact List.mem_of_getElem? mo_cd17
  | 18, _ => exact List.mem_of_getElem? mo_cd18
  | 19, _ => exact List.mem_of_getElem? mo_cd19
  | 20, _ => exact List.mem_of_getElem? mo_cd20
  | 21, _ => exact List.mem_of_getElem? mo_cd21
  | 22, _ => exact List.mem_of_getElem? mo_cd22
  | 23, _ => exact List.mem_of_getElem? mo_cd23
  | 24, _ => exact List.mem_of_getElem? mo_cd24
  | 25, _ => exact List.mem_of_getElem? mo_cd25
  | 26, _ => exact List.mem_of_getElem? mo_cd26
  | 27, _ => exact List.mem_of_getElem? mo_cd27
  | 28, _ => exact List.mem_of_getElem? mo_cd28
  | 29, _ => exact List.mem_of_getElem? mo_cd29
  | 30, _ => exact List.mem_of_getElem? mo_cd30
  | 31, _ => exact List.mem_of_getElem? mo_cd31
  | 32, _ => exact List.mem_of_getElem? mo_cd32
  | 33, _ => exact List.mem_of_getElem? mo_cd33
  | 34, _ => exact List.mem_of_getElem? mo_cd34
  | 35, _ => exact List.mem_of_getElem? mo_cd35
  | 36, _ => exact List.mem_of_getElem? mo_cd36
  | 37, _ => exact List.mem_of_getElem? mo_cd37
  | 38, _ => exact List.mem_of_getElem? mo_cd38
  | 39, _ => exact List.mem_of_getElem? mo_cd39
  | 40, _ => exact List.mem_of_getElem? mo_cd40
  | 41, _ => exact List.mem_of_getElem? mo_cd41
  | 42, _ => exact List.mem_of_getElem? mo_cd42
  | 43, _ => exact List.mem_of_getElem? mo_cd43
  | 44, _ => exact List.mem_of_getElem? mo_cd44
  | 45, _ => exact List.mem_of_getElem? mo_cd45
  | 46, _ => exact List.mem_of_getElem? mo_cd46
  | 47, _ => exact List.mem_of_getElem? mo_cd47
  | 48, _ => exact List.mem_of_getElem? mo_cd48
  | 49, _ => exact List.mem_of_getElem? mo_cd49
  | 50, _ => exact List.mem_of_getElem? mo_cd50
  | 51, _ => exact List.mem_of_getElem? mo_cd51
  | 52, _ => exact List.mem_of_getElem? mo_cd52
  | 53, _ => exact List.mem_of_getElem? mo_cd53
  | 54, _ => exact List.mem_of_getElem? mo_cd54
  | 55, _ => exact List.mem_of_getElem? mo_cd55
  | 56, _ => exact List.mem_of_getElem? mo_cd56
  | 57, _ => exact List.mem_of_getElem? mo_cd57
  | 58, _ => exact List.mem_of_getElem? mo_cd58
  | 59, _ => exact List.mem_of_getElem? mo_cd59
  | 60, _ => exact List.mem_of_getElem? mo_cd60
  | 61, _ => exact List.mem_of_getElem? mo_cd61
  | 62, _ => exact List.mem_of_getElem? mo_cd62
  | 63, _ => exact List.mem_of_getElem? mo_cd63
  | 64, _ => exact List.mem_of_getElem? mo_cd64
  | 65, _ => exact List.mem_of_getElem? mo_cd65
  | 66, _ => exact List.mem_of_getElem? mo_cd66
  | 67, _ => exact List.mem_of_getElem? mo_cd67
  | 68, _ => exact List.mem_of_getElem? mo_cd68
  | 69, _ => exact List.mem_of_getElem? mo_cd69
  | 70, _ => exact List.mem_of_getElem? mo_cd70
  | 71, _ => exact List.mem_of_getElem? mo_cd71
  | 72, _ => exact List.mem_of_getElem? mo_cd72
  | 73, _ => exact List.mem_of_getElem? mo_cd73
  | 74, _ => exact List.mem_of_getElem? mo_cd74
  | 75, _ => exact List.mem_of_getElem? mo_cd75
  | 76, _ => exact List.mem_of_getElem? mo_cd76
  | 77, _ => exact List.mem_of_getElem? mo_cd77
  | 78, _ => exact List.mem_of_getElem? mo_cd78
  | 79, _ => exact List.mem_of_getElem? mo_cd79
  | 80, _ => exact List.mem_of_getElem? mo_cd80
  | 81, _ => exact List.mem_of_getElem? mo_cd81
  | 82, _ => exact List.mem_of_getElem? mo_cd82
  | 83, _ => exact List.mem_of_getElem? mo_cd83
  | 84, _ => exact List.mem_of_getElem? mo_cd84
  | 85, _ => exact List.mem_of_getElem? mo_cd85
  | 86, _ => exact List.mem_of_getElem? mo_cd86
  | 87, _ => exact List.mem_of_getElem? mo_cd87
  | 88, _ => exact List.mem_of_getElem? mo_cd88
  | 89, _ => exact List.mem_of_getElem? mo_cd89
  | 90, _ => exact List.mem_of_getElem? mo_cd90
  | 91, _ => exact List.mem_of_getElem? mo_cd91
  | 92, _ => exact List.mem_of_getElem? mo_cd92
  | 93, _ => exact List.mem_of_getElem? mo_cd93
  | 94, _ => exact List.mem_of_getElem? mo_cd94
  | 95, _ => exact List.mem_of_getElem? mo_cd95
  | 96, _ => exact List.mem_of_getElem? mo_cd96
  | 97, _ => exact List.mem_of_getElem? mo_cd97
  | 98, _ => exact List.mem_of_getElem? mo_cd98
  | 99, _ => exact List.mem_of_getElem? mo_cd99
  | 100, _ => exact List.mem_of_getElem? mo_cd100
  | 101, _ => exact List.mem_of_getElem? mo_cd101
  | 102, _ => exact List.mem_of_getElem? mo_cd102
  | 103, _ => exact List.mem_of_getElem? mo_cd103
  | 104, _ => exact List.mem_of_getElem? mo_cd104
  | 105, _ => exact List.mem_of_getElem? mo_cd105
  | 106, _ => exact List.mem_of_getElem? mo_cd106
  | 107, _ => exact List.mem_of_getElem? mo_cd107
  | 108, _ => exact List.mem_of_getElem? mo_cd108
  | 109, _ => exact List.mem_of_getElem? mo_cd109
  | 110, _ => exact List.mem_of_getElem? mo_cd110
  | 111, _ => exact List.mem_of_getElem? mo_cd111
  | 112, _ => exact List.mem_of_getElem? mo_cd112
  | 113, _ => exact List.mem_of_getElem? mo_cd113
  | 114, _ => exact List.mem_of_getElem? mo_cd114
  | 115, _ => exact List.mem_of_getElem? mo_cd115
  | 116, _ => exact List.mem_of_getElem? mo_cd116
  | 117, _ => exact List.mem_of_getElem? mo_cd117
  | 118, _ => exact List.mem_of_getElem? mo_cd118
  | 119, _ => exact List.mem_of_getElem? mo_cd119
  | 120, _ => exact List.mem_of_getElem? mo_cd120
  | 121, _ => exact List.mem_of_getElem? mo_cd121
  | 122, _ => exact List.mem_of_getElem? mo_cd122
  | 123, _ => exact List.mem_of_getElem? mo_cd123
  | 124, _ => exact List.mem_of_getElem? mo_cd124
  | 125, _ => exact List.mem_of_getElem? mo_cd125
  | k + 126, h => omega
