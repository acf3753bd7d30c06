/-! the walk runs: 0 -/
set_option maxRecDepth 100000 in
theorem w_g0 : w_g (nat_lit 0) = true := by decide +kernel
theorem w_r1 : w_rg 1 := w_rg_s (n := 0) w_rg_0 w_g0
set_option maxRecDepth 100000 in
theorem w_g1 : w_g (nat_lit 1) = true := by decide +kernel
theorem w_r2 : w_rg 2 := w_rg_s (n := 1) w_r1 w_g1
set_option maxRecDepth 100000 in
theorem w_g2 : w_g (nat_lit 2) = true := by decide +kernel
theorem w_r3 : w_rg 3 := w_rg_s (n := 2) w_r2 w_g2
set_option maxRecDepth 100000 in
theorem w_g3 : w_g (nat_lit 3) = true := by decide +kernel
theorem w_r4 : w_rg 4 := w_rg_s (n := 3) w_r3 w_g3
set_option maxRecDepth 100000 in
theorem w_g4 : w_g (nat_lit 4) = true := by decide +kernel
theorem w_r5 : w_rg 5 := w_rg_s (n := 4) w_r4 w_g4
set_option maxRecDepth 100000 in
theorem w_g5 : w_g (nat_lit 5) = true := by decide +kernel
theorem w_r6 : w_rg 6 := w_rg_s (n := 5) w_r5 w_g5
set_option maxRecDepth 100000 in
theorem w_g6 : w_g (nat_lit 6) = true := by decide +kernel
theorem w_r7 : w_rg 7 := w_rg_s (n := 6) w_r6 w_g6
set_option maxRecDepth 100000 in
theorem w_g7 : w_g (nat_lit 7) = true := by decide +kernel
theorem w_r8 : w_rg 8 := w_rg_s (n := 7) w_r7 w_g7
set_option maxRecDepth 100000 in
theorem w_g8 : w_g (nat_lit 8) = true := by decide +kernel
theorem w_r9 : w_rg 9 := w_rg_s (n := 8) w_r8 w_g8
set_option maxRecDepth 100000 in
theorem w_g9 : w_g (nat_lit 9) = true := by decide +kernel
theorem w_r10 : w_rg 10 := w_rg_s (n := 9) w_r9 w_g9
set_option maxRecDepth 100000 in
theorem w_g10 : w_g (nat_lit 10) = true := by decide +kernel
theorem w_r11 : w_rg 11 := w_rg_s (n := 10) w_r10 w_g10
set_option maxRecDepth 100000 in
theorem w_g11 : w_g (nat_lit 11) = true := by decide +kernel
theorem w_r12 : w_rg 12 := w_rg_s (n := 11) w_r11 w_g11
set_option maxRecDepth 100000 in
theorem w_g12 : w_g (nat_lit 12) = true := by decide +kernel
theorem w_r13 : w_rg 13 := w_rg_s (n := 12) w_r12 w_g12
set_option maxRecDepth 100000 in
theorem w_g13 : w_g (nat_lit 13) = true := by decide +kernel
theorem w_r14 : w_rg 14 := w_rg_s (n := 13) w_r13 w_g13
set_option maxRecDepth 100000 in
theorem w_g14 : w_g (nat_lit 14) = true := by decide +kernel
theorem w_r15 : w_rg 15 := w_rg_s (n := 14) w_r14 w_g14
set_option maxRecDepth 100000 in
theorem w_g15 : w_g (nat_lit 15) = true := by decide +kernel
theorem w_r16 : w_rg 16 := w_rg_s (n := 15) w_r15 w_g15
set_option maxRecDepth 100000 in
theorem w_g16 : w_g (nat_lit 16) = true := by decide +kernel
theorem w_r17 : w_rg 17 := w_rg_s (n := 16) w_r16 w_g16
set_option maxRecDepth 100000 in
theorem w_g17 : w_g (nat_lit 17) = true := by decide +kernel
theorem w_r18 : w_rg 18 := w_rg_s (n := 17) w_r17 w_g17
set_option maxRecDepth 100000 in
theorem w_g18 : w_g (nat_lit 18) = true := by decide +kernel
theorem w_r19 : w_rg 19 := w_rg_s (n := 18) w_r18 w_g18
set_option maxRecDepth 100000 in
theorem w_g19 : w_g (nat_lit 19) = true := by decide +kernel
theorem w_r20 : w_rg 20 := w_rg_s (n := 19) w_r19 w_g19
set_option maxRecDepth 100000 in
theorem w_g20 : w_g (nat_lit 20) = true := by decide +kernel
theorem w_r21 : w_rg 21 := w_rg_s (n := 20) w_r20 w_g20
set_option maxRecDepth 100000 in
theorem w_g21 : w_g (nat_lit 21) = true := by decide +kernel
theorem w_r22 : w_rg 22 := w_rg_s (n := 21) w_r21 w_g21
set_option maxRecDepth 100000 in
theorem w_g22 : w_g (nat_lit 22) = true := by decide +kernel
theorem w_r23 : w_rg 23 := w_rg_s (n := 22) w_r22 w_g22
set_option maxRecDepth 100000 in
theorem w_g23 : w_g (nat_lit 23) = true := by decide +kernel
theorem w_r24 : w_rg 24 := w_rg_s (n := 23) w_r23 w_g23
set_option maxRecDepth 100000 in
theorem w_g24 : w_g (nat_lit 24) = true := by decide +kernel
theorem w_r25 : w_rg 25 := w_rg_s (n := 24) w_r24 w_g24
set_option maxRecDepth 100000 in
theorem w_g25 : w_g (nat_lit 25) = true := by decide +kernel
theorem w_r26 : w_rg 26 := w_rg_s (n := 25) w_r25 w_g25
set_option maxRecDepth 100000 in
theorem w_g26 : w_g (nat_lit 26) = true := by decide +kernel
theorem w_r27 : w_rg 27 := w_rg_s (n := 26) w_r26 w_g26
set_option maxRecDepth 100000 in
theorem w_g27 : w_g (nat_lit 27) = true := by decide +kernel
theorem w_r28 : w_rg 28 := w_rg_s (n := 27) w_r27 w_g27
set_option maxRecDepth 100000 in
theorem w_g28 : w_g (nat_lit 28) = true := by decide +kernel
theorem w_r29 : w_rg 29 := w_rg_s (n := 28) w_r28 w_g28
set_option maxRecDepth 100000 in
theorem w_g29 : w_g (nat_lit 29) = true := by decide +kernel
theorem w_r30 : w_rg 30 := w_rg_s (n := 29) w_r29 w_g29
set_option maxRecDepth 100000 in
theorem w_g30 : w_g (nat_lit 30) = true := by decide +kernel
theorem w_r31 : w_rg 31 := w_rg_s (n := 30) w_r30 w_g30
set_option maxRecDepth 100000 in
theorem w_g31 : w_g (nat_lit 31) = true := by decide +kernel
theorem w_r32 : w_rg 32 := w_rg_s (n := 31) w_r31 w_g31
set_option maxRecDepth 100000 in
theorem w_g32 : w_g (nat_lit 32) = true := by decide +kernel
theorem w_r33 : w_rg 33 := w_rg_s (n := 32) w_r32 w_g32
set_option maxRecDepth 100000 in
theorem w_g33 : w_g (nat_lit 33) = true := by decide +kernel
theorem w_r34 : w_rg 34 := w_rg_s (n := 33) w_r33 w_g33
set_option maxRecDepth 100000 in
theorem w_g34 : w_g (nat_lit 34) = true := by decide +kernel
theorem w_r35 : w_rg 35 := w_rg_s (n := 34) w_r34 w_g34
set_option maxRecDepth 100000 in
theorem w_g35 : w_g (nat_lit 35) = true := by decide +kernel
theorem w_r36 : w_rg 36 := w_rg_s (n := 35) w_r35 w_g35
set_option maxRecDepth 100000 in
theorem w_g36 : w_g (nat_lit 36) = true := by decide +kernel
theorem w_r37 : w_rg 37 := w_rg_s (n := 36) w_r36 w_g36
set_option maxRecDepth 100000 in
theorem w_g37 : w_g (nat_lit 37) = true := by decide +kernel
theorem w_r38 : w_rg 38 := w_rg_s (n := 37) w_r37 w_g37
set_option maxRecDepth 100000 in
theorem w_g38 : w_g (nat_lit 38) = true := by decide +kernel
theorem w_r39 : w_rg 39 := w_rg_s (n := 38) w_r38 w_g38
set_option maxRecDepth 100000 in
theorem w_g39 : w_g (nat_lit 39) = true := by decide +kernel
theorem w_r40 : w_rg 40 := w_rg_s (n := 39) w_r39 w_g39
set_option maxRecDepth 100000 in
theorem w_g40 : w_g (nat_lit 40) = true := by decide +kernel
theorem w_r41 : w_rg 41 := w_rg_s (n := 40) w_r40 w_g40
set_option maxRecDepth 100000 in
theorem w_g41 : w_g (nat_lit 41) = true := by decide +kernel
theorem w_r42 : w_rg 42 := w_rg_s (n := 41) w_r41 w_g41
set_option maxRecDepth 100000 in
theorem w_g42 : w_g (nat_lit 42) = true := by decide +kernel
theorem w_r43 : w_rg 43 := w_rg_s (n := 42) w_r42 w_g42
set_option maxRecDepth 100000 in
theorem w_g43 : w_g (nat_lit 43) = true := by decide +kernel
theorem w_r44 : w_rg 44 := w_rg_s (n := 43) w_r43 w_g43
set_option maxRecDepth 100000 in
theorem w_g44 : w_g (nat_lit 44) = true := by decide +kernel
theorem w_r45 : w_rg 45 := w_rg_s (n := 44) w_r44 w_g44
set_option maxRecDepth 100000 in
theorem w_g45 : w_g (nat_lit 45) = true := by decide +kernel
theorem w_r46 : w_rg 46 := w_rg_s (n := 45) w_r45 w_g45
set_option maxRecDepth 100000 in
theorem w_g46 : w_g (nat_lit 46) = true := by decide +kernel
theorem w_r47 : w_rg 47 := w_rg_s (n := 46) w_r46 w_g46
set_option maxRecDepth 100000 in
theorem w_g47 : w_g (nat_lit 47) = true := by decide +kernel
theorem w_r48 : w_rg 48 := w_rg_s (n := 47) w_r47 w_g47
set_option maxRecDepth 100000 in
theorem w_g48 : w_g (nat_lit 48) = true := by decide +kernel
theorem w_r49 : w_rg 49 := w_rg_s (n := 48) w_r48 w_g48
set_option maxRecDepth 100000 in
theorem w_g49 : w_g (nat_lit 49) = true := by decide +kernel
theorem w_r50 : w_rg 50 := w_rg_s (n := 49) w_r49 w_g49
set_option maxRecDepth 100000 in
theorem w_g50 : w_g (nat_lit 50) = true := by decide +kernel
theorem w_r51 : w_rg 51 := w_rg_s (n := 50) w_r50 w_g50
set_option maxRecDepth 100000 in
theorem w_g51 : w_g (nat_lit 51) = true := by decide +kernel
theorem w_r52 : w_rg 52 := w_rg_s (n := 51) w_r51 w_g51
set_option maxRecDepth 100000 in
theorem w_g52 : w_g (nat_lit 52) = true := by decide +kernel
theorem w_r53 : w_rg 53 := w_rg_s (n := 52) w_r52 w_g52
set_option maxRecDepth 100000 in
theorem w_g53 : w_g (nat_lit 53) = true := by decide +kernel
theorem w_r54 : w_rg 54 := w_rg_s (n := 53) w_r53 w_g53
set_option maxRecDepth 100000 in
theorem w_g54 : w_g (nat_lit 54) = true := by decide +kernel
theorem w_r55 : w_rg 55 := w_rg_s (n := 54) w_r54 w_g54
set_option maxRecDepth 100000 in
theorem w_g55 : w_g (nat_lit 55) = true := by decide +kernel
theorem w_r56 : w_rg 56 := w_rg_s (n := 55) w_r55 w_g55
set_option maxRecDepth 100000 in
theorem w_g56 : w_g (nat_lit 56) = true := by decide +kernel
theorem w_r57 : w_rg 57 := w_rg_s (n := 56) w_r56 w_g56
set_option maxRecDepth 100000 in
theorem w_g57 : w_g (nat_lit 57) = true := by decide +kernel
theorem w_r58 : w_rg 58 := w_rg_s (n := 57) w_r57 w_g57
set_option maxRecDepth 100000 in
theorem w_g58 : w_g (nat_lit 58) = true := by decide +kernel
theorem w_r59 : w_rg 59 := w_rg_s (n := 58) w_r58 w_g58
set_option maxRecDepth 100000 in
theorem w_g59 : w_g (nat_lit 59) = true := by decide +kernel
theorem w_r60 : w_rg 60 := w_rg_s (n := 59) w_r59 w_g59
set_option maxRecDepth 100000 in
theorem w_g60 : w_g (nat_lit 60) = true := by decide +kernel
theorem w_r61 : w_rg 61 := w_rg_s (n := 60) w_r60 w_g60
set_option maxRecDepth 100000 in
theorem w_g61 : w_g (nat_lit 61) = true := by decide +kernel
theorem w_r62 : w_rg 62 := w_rg_s (n := 61) w_r61 w_g61
set_option maxRecDepth 100000 in
theorem w_g62 : w_g (nat_lit 62) = true := by decide +kernel
theorem w_r63 : w_rg 63 := w_rg_s (n := 62) w_r62 w_g62
set_option maxRecDepth 100000 in
theorem w_g63 : w_g (nat_lit 63) = true := by decide +kernel
theorem w_r64 : w_rg 64 := w_rg_s (n := 63) w_r63 w_g63
set_option maxRecDepth 100000 in
theorem w_g64 : w_g (nat_lit 64) = true := by decide +kernel
theorem w_r65 : w_rg 65 := w_rg_s (n := 64) w_r64 w_g64
set_option maxRecDepth 100000 in
theorem w_g65 : w_g (nat_lit 65) = true := by decide +kernel
theorem w_r66 : w_rg 66 := w_rg_s (n := 65) w_r65 w_g65
set_option maxRecDepth 100000 in
theorem w_g66 : w_g (nat_lit 66) = true := by decide +kernel
theorem w_r67 : w_rg 67 := w_rg_s (n := 66) w_r66 w_g66
set_option maxRecDepth 100000 in
theorem w_g67 : w_g (nat_lit 67) = true := by decide +kernel
theorem w_r68 : w_rg 68 := w_rg_s (n := 67) w_r67 w_g67
set_option maxRecDepth 100000 in
theorem w_g68 : w_g (nat_lit 68) = true := by decide +kernel
theorem w_r69 : w_rg 69 := w_rg_s (n := 68) w_r68 w_g68
set_option maxRecDepth 100000 in
theorem w_g69 : w_g (nat_lit 69) = true := by decide +kernel
theorem w_r70 : w_rg 70 := w_rg_s (n := 69) w_r69 w_g69
set_option maxRecDepth 100000 in
theorem w_g70 : w_g (nat_lit 70) = true := by decide +kernel
theorem w_r71 : w_rg 71 := w_rg_s (n := 70) w_r70 w_g70
set_option maxRecDepth 100000 in
theorem w_g71 : w_g (nat_lit 71) = true := by decide +kernel
theorem w_r72 : w_rg 72 := w_rg_s (n := 71) w_r71 w_g71
set_option maxRecDepth 100000 in
theorem w_g72 : w_g (nat_lit 72) = true := by decide +kernel
theorem w_r73 : w_rg 73 := w_rg_s (n := 72) w_r72 w_g72
set_option maxRecDepth 100000 in
theorem w_g73 : w_g (nat_lit 73) = true := by decide +kernel
theorem w_r74 : w_rg 74 := w_rg_s (n := 73) w_r73 w_g73
set_option maxRecDepth 100000 in
theorem w_g74 : w_g (nat_lit 74) = true := by decide +kernel
theorem w_r75 : w_rg 75 := w_rg_s (n := 74) w_r74 w_g74
set_option maxRecDepth 100000 in
theorem w_g75 : w_g (nat_lit 75) = true := by decide +kernel
theorem w_r76 : w_rg 76 := w_rg_s (n := 75) w_r75 w_g75
set_option maxRecDepth 100000 in
theorem w_g76 : w_g (nat_lit 76) = true := by decide +kernel
theorem w_r77 : w_rg 77 := w_rg_s (n := 76) w_r76 w_g76
set_option maxRecDepth 100000 in
theorem w_g77 : w_g (nat_lit 77) = true := by decide +kernel
theorem w_r78 : w_rg 78 := w_rg_s (n := 77) w_r77 w_g77
set_option maxRecDepth 100000 in
theorem w_g78 : w_g (nat_lit 78) = true := by decide +kernel
theorem w_r79 : w_rg 79 := w_rg_s (n := 78) w_r78 w_g78
set_option maxRecDepth 100000 in
theorem w_g79 : w_g (nat_lit 79) = true := by decide +kernel
theorem w_r80 : w_rg 80 := w_rg_s (n := 79) w_r79 w_g79
set_option maxRecDepth 100000 in
theorem w_g80 : w_g (nat_lit 80) = true := by decide +kernel
theorem w_r81 : w_rg 81 := w_rg_s (n := 80) w_r80 w_g80
set_option maxRecDepth 100000 in
theorem w_g81 : w_g (nat_lit 81) = true := by decide +kernel
theorem w_r82 : w_rg 82 := w_rg_s (n := 81) w_r81 w_g81
set_option maxRecDepth 100000 in
theorem w_g82 : w_g (nat_lit 82) = true := by decide +kernel
theorem w_r83 : w_rg 83 := w_rg_s (n := 82) w_r82 w_g82
set_option maxRecDepth 100000 in
theorem w_g83 : w_g (nat_lit 83) = true := by decide +kernel
theorem w_r84 : w_rg 84 := w_rg_s (n := 83) w_r83 w_g83
set_option maxRecDepth 100000 in
theorem w_g84 : w_g (nat_lit 84) = true := by decide +kernel
theorem w_r85 : w_rg 85 := w_rg_s (n := 84) w_r84 w_g84
set_option maxRecDepth 100000 in
theorem w_g85 : w_g (nat_lit 85) = true := by decide +kernel
theorem w_r86 : w_rg 86 := w_rg_s (n := 85) w_r85 w_g85
set_option maxRecDepth 100000 in
theorem w_g86 : w_g (nat_lit 86) = true := by decide +kernel
theorem w_r87 : w_rg 87 := w_rg_s (n := 86) w_r86 w_g86
set_option maxRecDepth 100000 in
theorem w_g87 : w_g (nat_lit 87) = true := by decide +kernel
theorem w_r88 : w_rg 88 := w_rg_s (n := 87) w_r87 w_g87
set_option maxRecDepth 100000 in
theorem w_g88 : w_g (nat_lit 88) = true := by decide +kernel
theorem w_r89 : w_rg 89 := w_rg_s (n := 88) w_r88 w_g88
set_option maxRecDepth 100000 in
theorem w_g89 : w_g (nat_lit 89) = true := by decide +kernel
theorem w_r90 : w_rg 90 := w_rg_s (n := 89) w_r89 w_g89
set_option maxRecDepth 100000 in
theorem w_g90 : w_g (nat_lit 90) = true := by decide +kernel
theorem w_r91 : w_rg 91 := w_rg_s (n := 90) w_r90 w_g90
set_option maxRecDepth 100000 in
theorem w_g91 : w_g (nat_lit 91) = true := by decide +kernel
theorem w_r92 : w_rg 92 := w_rg_s (n := 91) w_r91 w_g91
set_option maxRecDepth 100000 in
theorem w_g92 : w_g (nat_lit 92) = true := by decide +kernel
theorem w_r93 : w_rg 93 := w_rg_s (n := 92) w_r92 w_g92
set_option maxRecDepth 100000 in
theorem w_g93 : w_g (nat_lit 93) = true := by decide +kernel
theorem w_r94 : w_rg 94 := w_rg_s (n := 93) w_r93 w_g93
set_option maxRecDepth 100000 in
theorem w_g94 : w_g (nat_lit 94) = true := by decide +kernel
theorem w_r95 : w_rg 95 := w_rg_s (n := 94) w_r94 w_g94
set_option maxRecDepth 100000 in
theorem w_g95 : w_g (nat_lit 95) = true := by decide +kernel
theorem w_r96 : w_rg 96 := w_rg_s (n := 95) w_r95 w_g95
set_option maxRecDepth 100000 in
theorem w_g96 : w_g (nat_lit 96) = true := by decide +kernel
theorem w_r97 : w_rg 97 := w_rg_s (n := 96) w_r96 w_g96
set_option maxRecDepth 100000 in
theorem w_g97 : w_g (nat_lit 97) = true := by decide +kernel
theorem w_r98 : w_rg 98 := w_rg_s (n := 97) w_r97 w_g97
set_option maxRecDepth 100000 in
theorem w_g98 : w_g (nat_lit 98) = true := by decide +kernel
theorem w_r99 : w_rg 99 := w_rg_s (n := 98) w_r98 w_g98
set_option maxRecDepth 100000 in
theorem w_g99 : w_g (nat_lit 99) = true := by decide +kernel
theorem w_r100 : w_rg 100 := w_rg_s (n := 99) w_r99 w_g99
set_option maxRecDepth 100000 in
theorem w_g100 : w_g (nat_lit 100) = true := by decide +kernel
theorem w_r101 : w_rg 101 := w_rg_s (n := 100) w_r100 w_g100
set_option maxRecDepth 100000 in
theorem w_g101 : w_g (nat_lit 101) = true := by decide +kernel
theorem w_r102 : w_rg 102 := w_rg_s (n := 101) w_r101 w_g101
set_option maxRecDepth 100000 in
theorem w_g102 : w_g (nat_lit 102) = true := by decide +kernel
theorem w_r103 : w_rg 103 := w_rg_s (n := 102) w_r102 w_g102
set_option maxRecDepth 100000 in
theorem w_g103 : w_g (nat_lit 103) = true := by decide +kernel
theorem w_r104 : w_rg 104 := w_rg_s (n := 103) w_r103 w_g103
set_option maxRecDepth 100000 in
theorem w_g104 : w_g (nat_lit 104) = true := by decide +kernel
theorem w_r105 : w_rg 105 := w_rg_s (n := 104) w_r104 w_g104
set_option maxRecDepth 100000 in
theorem w_g105 : w_g (nat_lit 105) = true := by decide +kernel
theorem w_r106 : w_rg 106 := w_rg_s (n := 105) w_r105 w_g105
set_option maxRecDepth 100000 in
theorem w_g106 : w_g (nat_lit 106) = true := by decide +kernel
theorem w_r107 : w_rg 107 := w_rg_s (n := 106) w_r106 w_g106
set_option maxRecDepth 100000 in
theorem w_g107 : w_g (nat_lit 107) = true := by decide +kernel
theorem w_r108 : w_rg 108 := w_rg_s (n := 107) w_r107 w_g107
set_option maxRecDepth 100000 in
theorem w_g108 : w_g (nat_lit 108) = true := by decide +kernel
theorem w_r109 : w_rg 109 := w_rg_s (n := 108) w_r108 w_g108
set_option maxRecDepth 100000 in
theorem w_g109 : w_g (nat_lit 109) = true := by decide +kernel
theorem w_r110 : w_rg 110 := w_rg_s (n := 109) w_r109 w_g109
set_option maxRecDepth 100000 in
theorem w_g110 : w_g (nat_lit 110) = true := by decide +kernel
theorem w_r111 : w_rg 111 := w_rg_s (n := 110) w_r110 w_g110
set_option maxRecDepth 100000 in
theorem w_g111 : w_g (nat_lit 111) = true := by decide +kernel
theorem w_r112 : w_rg 112 := w_rg_s (n := 111) w_r111 w_g111
set_option maxRecDepth 100000 in
theorem w_g112 : w_g (nat_lit 112) = true := by decide +kernel
theorem w_r113 : w_rg 113 := w_rg_s (n := 112) w_r112 w_g112
set_option maxRecDepth 100000 in
theorem w_g113 : w_g (nat_lit 113) = true := by decide +kernel
theorem w_r114 : w_rg 114 := w_rg_s (n := 113) w_r113 w_g113
set_option maxRecDepth 100000 in
theorem w_g114 : w_g (nat_lit 114) = true := by decide +kernel
theorem w_r115 : w_rg 115 := w_rg_s (n := 114) w_r114 w_g114
set_option maxRecDepth 100000 in
theorem w_g115 : w_g (nat_lit 115) = true := by decide +kernel
theorem w_r116 : w_rg 116 := w_rg_s (n := 115) w_r115 w_g115
set_option maxRecDepth 100000 in
theorem w_g116 : w_g (nat_lit 116) = true := by decide +kernel
theorem w_r117 : w_rg 117 := w_rg_s (n := 116) w_r116 w_g116
set_option maxRecDepth 100000 in
theorem w_g117 : w_g (nat_lit 117) = true := by decide +kernel
theorem w_r118 : w_rg 118 := w_rg_s (n := 117) w_r117 w_g117
set_option maxRecDepth 100000 in
theorem w_g118 : w_g (nat_lit 118) = true := by decide +kernel
theorem w_r119 : w_rg 119 := w_rg_s (n := 118) w_r118 w_g118
set_option maxRecDepth 100000 in
theorem w_g119 : w_g (nat_lit 119) = true := by decide +kernel
theorem w_r120 : w_rg 120 := w_rg_s (n := 119) w_r119 w_g119
set_option maxRecDepth 100000 in
theorem w_g120 : w_g (nat_lit 120) = true := by decide +kernel
theorem w_r121 : w_rg 121 := w_rg_s (n := 120) w_r120 w_g120
set_option maxRecDepth 100000 in
theorem w_g121 : w_g (nat_lit 121) = true := by decide +kernel
theorem w_r122 : w_rg 122 := w_rg_s (n := 121) w_r121 w_g121
set_option maxRecDepth 100000 in
theorem w_g122 : w_g (nat_lit 122) = true := by decide +kernel
theorem w_r123 : w_rg 123 := w_rg_s (n := 122) w_r122 w_g122
set_option maxRecDepth 100000 in
theorem w_g123 : w_g (nat_lit 123) = true := by decide +kernel
theorem w_r124 : w_rg 124 := w_rg_s (n := 123) w_r123 w_g123
set_option maxRecDepth 100000 in
theorem w_g124 : w_g (nat_lit 124) = true := by decide +kernel
theorem w_r125 : w_rg 125 := w_rg_s (n := 124) w_r124 w_g124
set_option maxRecDepth 100000 in
theorem w_g125 : w_g (nat_lit 125) = true := by decide +kernel
theorem w_r126 : w_rg 126 := w_rg_s (n := 125) w_r125 w_g125
set_option maxRecDepth 100000 in
theorem w_g126 : w_g (nat_lit 126) = true := by decide +kernel
theorem w_r127 : w_rg 127 := w_rg_s (n := 126) w_r126 w_g126
set_option maxRecDepth 100000 in
theorem w_g127 : w_g (nat_lit 127) = true := by decide +kernel
theorem w_r128 : w_rg 128 := w_rg_s (n := 127) w_r127 w_g127
set_option maxRecDepth 100000 in
theorem w_g128 : w_g (nat_lit 128) = true := by decide +kernel
theorem w_r129 : w_rg 129 := w_rg_s (n := 128) w_r128 w_g128
set_option maxRecDepth 100000 in
theorem w_g129 : w_g (nat_lit 129) = true := by decide +kernel
theorem w_r130 : w_rg 130 := w_rg_s (n := 129) w_r129 w_g129
set_option maxRecDepth 100000 in
theorem w_g130 : w_g (nat_lit 130) = true := by decide +kernel
theorem w_r131 : w_rg 131 := w_rg_s (n := 130) w_r130 w_g130
set_option maxRecDepth 100000 in
theorem w_g131 : w_g (nat_lit 131) = true := by decide +kernel
theorem w_r132 : w_rg 132 := w_rg_s (n := 131) w_r131 w_g131
set_option maxRecDepth 100000 in
theorem w_g132 : w_g (nat_lit 132) = true := by decide +kernel
theorem w_r133 : w_rg 133 := w_rg_s (n := 132) w_r132 w_g132
set_option maxRecDepth 100000 in
theorem w_g133 : w_g (nat_lit 133) = true := by decide +kernel
theorem w_r134 : w_rg 134 := w_rg_s (n := 133) w_r133 w_g133
set_option maxRecDepth 100000 in
theorem w_g134 : w_g (nat_lit 134) = true := by decide +kernel
theorem w_r135 : w_rg 135 := w_rg_s (n := 134) w_r134 w_g134
set_option maxRecDepth 100000 in
theorem w_g135 : w_g (nat_lit 135) = true := by decide +kernel
theorem w_r136 : w_rg 136 := w_rg_s (n := 135) w_r135 w_g135
set_option maxRecDepth 100000 in
theorem w_g136 : w_g (nat_lit 136) = true := by decide +kernel
theorem w_r137 : w_rg 137 := w_rg_s (n := 136) w_r136 w_g136
set_option maxRecDepth 100000 in
theorem w_g137 : w_g (nat_lit 137) = true := by decide +kernel
theorem w_r138 : w_rg 138 := w_rg_s (n := 137) w_r137 w_g137
set_option maxRecDepth 100000 in
theorem w_g138 : w_g (nat_lit 138) = true := by decide +kernel
theorem w_r139 : w_rg 139 := w_rg_s (n := 138) w_r138 w_g138
set_option maxRecDepth 100000 in
theorem w_g139 : w_g (nat_lit 139) = true := by decide +kernel
theorem w_r140 : w_rg 140 := w_rg_s (n := 139) w_r139 w_g139
set_option maxRecDepth 100000 in
theorem w_g140 : w_g (nat_lit 140) = true := by decide +kernel
theorem w_r141 : w_rg 141 := w_rg_s (n := 140) w_r140 w_g140
set_option maxRecDepth 100000 in
theorem w_g141 : w_g (nat_lit 141) = true := by decide +kernel
theorem w_r142 : w_rg 142 := w_rg_s (n := 141) w_r141 w_g141
set_option maxRecDepth 100000 in
theorem w_g142 : w_g (nat_lit 142) = true := by decide +kernel
theorem w_r143 : w_rg 143 := w_rg_s (n := 142) w_r142 w_g142
set_option maxRecDepth 100000 in
theorem w_g143 : w_g (nat_lit 143) = true := by decide +kernel
theorem w_r144 : w_rg 144 := w_rg_s (n := 143) w_r143 w_g143
set_option maxRecDepth 100000 in
theorem w_g144 : w_g (nat_lit 144) = true := by decide +kernel
theorem w_r145 : w_rg 145 := w_rg_s (n := 144) w_r144 w_g144
set_option maxRecDepth 100000 in
theorem w_g145 : w_g (nat_lit 145) = true := by decide +kernel
theorem w_r146 : w_rg 146 := w_rg_s (n := 145) w_r145 w_g145
set_option maxRecDepth 100000 in
theorem w_g146 : w_g (nat_lit 146) = true := by decide +kernel
theorem w_r147 : w_rg 147 := w_rg_s (n := 146) w_r146 w_g146
set_option maxRecDepth 100000 in
theorem w_g147 : w_g (nat_lit 147) = true := by decide +kernel
theorem w_r148 : w_rg 148 := w_rg_s (n := 147) w_r147 w_g147
set_option maxRecDepth 100000 in
theorem w_g148 : w_g (nat_lit 148) = true := by decide +kernel
theorem w_r149 : w_rg 149 := w_rg_s (n := 148) w_r148 w_g148
set_option maxRecDepth 100000 in
theorem w_g149 : w_g (nat_lit 149) = true := by decide +kernel
theorem w_r150 : w_rg 150 := w_rg_s (n := 149) w_r149 w_g149
set_option maxRecDepth 100000 in
theorem w_g150 : w_g (nat_lit 150) = true := by decide +kernel
theorem w_r151 : w_rg 151 := w_rg_s (n := 150) w_r150 w_g150
set_option maxRecDepth 100000 in
theorem w_g151 : w_g (nat_lit 151) = true := by decide +kernel
theorem w_r152 : w_rg 152 := w_rg_s (n := 151) w_r151 w_g151
set_option maxRecDepth 100000 in
theorem w_g152 : w_g (nat_lit 152) = true := by decide +kernel
theorem w_r153 : w_rg 153 := w_rg_s (n := 152) w_r152 w_g152
set_option maxRecDepth 100000 in
theorem w_g153 : w_g (nat_lit 153) = true := by decide +kernel
theorem w_r154 : w_rg 154 := w_rg_s (n := 153) w_r153 w_g153
set_option maxRecDepth 100000 in
theorem w_g154 : w_g (nat_lit 154) = true := by decide +kernel
theorem w_r155 : w_rg 155 := w_rg_s (n := 154) w_r154 w_g154
set_option maxRecDepth 100000 in
theorem w_g155 : w_g (nat_lit 155) = true := by decide +kernel
theorem w_r156 : w_rg 156 := w_rg_s (n := 155) w_r155 w_g155
set_option maxRecDepth 100000 in
theorem w_g156 : w_g (nat_lit 156) = true := by decide +kernel
theorem w_r157 : w_rg 157 := w_rg_s (n := 156) w_r156 w_g156
set_option maxRecDepth 100000 in
theorem w_g157 : w_g (nat_lit 157) = true := by decide +kernel
theorem w_r158 : w_rg 158 := w_rg_s (n := 157) w_r157 w_g157
set_option maxRecDepth 100000 in
theorem w_g158 : w_g (nat_lit 158) = true := by decide +kernel
theorem w_r159 : w_rg 159 := w_rg_s (n := 158) w_r158 w_g158
set_option maxRecDepth 100000 in
theorem w_g159 : w_g (nat_lit 159) = true := by decide +kernel
theorem w_r160 : w_rg 160 := w_rg_s (n := 159) w_r159 w_g159
set_option maxRecDepth 100000 in
theorem w_g160 : w_g (nat_lit 160) = true := by decide +kernel
theorem w_r161 : w_rg 161 := w_rg_s (n := 160) w_r160 w_g160
set_option maxRecDepth 100000 in
theorem w_g161 : w_g (nat_lit 161) = true := by decide +kernel
theorem w_r162 : w_rg 162 := w_rg_s (n := 161) w_r161 w_g161
set_option maxRecDepth 100000 in
theorem w_g162 : w_g (nat_lit 162) = true := by decide +kernel
theorem w_r163 : w_rg 163 := w_rg_s (n := 162) w_r162 w_g162
set_option maxRecDepth 100000 in
theorem w_g163 : w_g (nat_lit 163) = true := by decide +kernel
theorem w_r164 : w_rg 164 := w_rg_s (n := 163) w_r163 w_g163
set_option maxRecDepth 100000 in
theorem w_g164 : w_g (nat_lit 164) = true := by decide +kernel
theorem w_r165 : w_rg 165 := w_rg_s (n := 164) w_r164 w_g164
set_option maxRecDepth 100000 in
theorem w_g165 : w_g (nat_lit 165) = true := by decide +kernel
theorem w_r166 : w_rg 166 := w_rg_s (n := 165) w_r165 w_g165
set_option maxRecDepth 100000 in
theorem w_g166 : w_g (nat_lit 166) = true := by decide +kernel
theorem w_r167 : w_rg 167 := w_rg_s (n := 166) w_r166 w_g166
set_option maxRecDepth 100000 in
theorem w_g167 : w_g (nat_lit 167) = true := by decide +kernel
theorem w_r168 : w_rg 168 := w_rg_s (n := 167) w_r167 w_g167
set_option maxRecDepth 100000 in
theorem w_g168 : w_g (nat_lit 168) = true := by decide +kernel
theorem w_r169 : w_rg 169 := w_rg_s (n := 168) w_r168 w_g168
set_option maxRecDepth 100000 in
theorem w_g169 : w_g (nat_lit 169) = true := by decide +kernel
theorem w_r170 : w_rg 170 := w_rg_s (n := 169) w_r169 w_g169
set_option maxRecDepth 100000 in
theorem w_g170 : w_g (nat_lit 170) = true := by decide +kernel
theorem w_r171 : w_rg 171 := w_rg_s (n := 170) w_r170 w_g170
set_option maxRecDepth 100000 in
theorem w_g171 : w_g (nat_lit 171) = true := by decide +kernel
theorem w_r172 : w_rg 172 := w_rg_s (n := 171) w_r171 w_g171
set_option maxRecDepth 100000 in
theorem w_g172 : w_g (nat_lit 172) = true := by decide +kernel
theorem w_r173 : w_rg 173 := w_rg_s (n := 172) w_r172 w_g172
set_option maxRecDepth 100000 in
theorem w_g173 : w_g (nat_lit 173) = true := by decide +kernel
theorem w_r174 : w_rg 174 := w_rg_s (n := 173) w_r173 w_g173
set_option maxRecDepth 100000 in
theorem w_g174 : w_g (nat_lit 174) = true := by decide +kernel
theorem w_r175 : w_rg 175 := w_rg_s (n := 174) w_r174 w_g174
set_option maxRecDepth 100000 in
theorem w_g175 : w_g (nat_lit 175) = true := by decide +kernel
theorem w_r176 : w_rg 176 := w_rg_s (n := 175) w_r175 w_g175
set_option maxRecDepth 100000 in
theorem w_g176 : w_g (nat_lit 176) = true := by decide +kernel
theorem w_r177 : w_rg 177 := w_rg_s (n := 176) w_r176 w_g176
set_option maxRecDepth 100000 in
theorem w_g177 : w_g (nat_lit 177) = true := by decide +kernel
theorem w_r178 : w_rg 178 := w_rg_s (n := 177) w_r177 w_g177
set_option maxRecDepth 100000 in
theorem w_g178 : w_g (nat_lit 178) = true := by decide +kernel
theorem w_r179 : w_rg 179 := w_rg_s (n := 178) w_r178 w_g178
set_option maxRecDepth 100000 in
theorem w_g179 : w_g (nat_lit 179) = true := by decide +kernel
theorem w_r180 : w_rg 180 := w_rg_s (n := 179) w_r179 w_g179
set_option maxRecDepth 100000 in
theorem w_g180 : w_g (nat_lit 180) = true := by decide +kernel
theorem w_r181 : w_rg 181 := w_rg_s (n := 180) w_r180 w_g180
set_option maxRecDepth 100000 in
theorem w_g181 : w_g (nat_lit 181) = true := by decide +kernel
theorem w_r182 : w_rg 182 := w_rg_s (n := 181) w_r181 w_g181
set_option maxRecDepth 100000 in
theorem w_g182 : w_g (nat_lit 182) = true := by decide +kernel
theorem w_r183 : w_rg 183 := w_rg_s (n := 182) w_r182 w_g182
set_option maxRecDepth 100000 in
theorem w_g183 : w_g (nat_lit 183) = true := by decide +kernel
theorem w_r184 : w_rg 184 := w_rg_s (n := 183) w_r183 w_g183
set_option maxRecDepth 100000 in
theorem w_g184 : w_g (nat_lit 184) = true := by decide +kernel
theorem w_r185 : w_rg 185 := w_rg_s (n := 184) w_r184 w_g184
set_option maxRecDepth 100000 in
theorem w_g185 : w_g (nat_lit 185) = true := by decide +kernel
theorem w_r186 : w_rg 186 := w_rg_s (n := 185) w_r185 w_g185
set_option maxRecDepth 100000 in
theorem w_g186 : w_g (nat_lit 186) = true := by decide +kernel
theorem w_r187 : w_rg 187 := w_rg_s (n := 186) w_r186 w_g186
set_option maxRecDepth 100000 in
theorem w_g187 : w_g (nat_lit 187) = true := by decide +kernel
theorem w_r188 : w_rg 188 := w_rg_s (n := 187) w_r187 w_g187
set_option maxRecDepth 100000 in
theorem w_g188 : w_g (nat_lit 188) = true := by decide +kernel
theorem w_r189 : w_rg 189 := w_rg_s (n := 188) w_r188 w_g188
set_option maxRecDepth 100000 in
theorem w_g189 : w_g (nat_lit 189) = true := by decide +kernel
theorem w_r190 : w_rg 190 := w_rg_s (n := 189) w_r189 w_g189
set_option maxRecDepth 100000 in
theorem w_g190 : w_g (nat_lit 190) = true := by decide +kernel
theorem w_r191 : w_rg 191 := w_rg_s (n := 190) w_r190 w_g190
set_option maxRecDepth 100000 in
theorem w_g191 : w_g (nat_lit 191) = true := by decide +kernel
theorem w_r192 : w_rg 192 := w_rg_s (n := 191) w_r191 w_g191
set_option maxRecDepth 100000 in
theorem w_g192 : w_g (nat_lit 192) = true := by decide +kernel
theorem w_r193 : w_rg 193 := w_rg_s (n := 192) w_r192 w_g192
set_option maxRecDepth 100000 in
theorem w_g193 : w_g (nat_lit 193) = true := by decide +kernel
theorem w_r194 : w_rg 194 := w_rg_s (n := 193) w_r193 w_g193
set_option maxRecDepth 100000 in
theorem w_g194 : w_g (nat_lit 194) = true := by decide +kernel
theorem w_r195 : w_rg 195 := w_rg_s (n := 194) w_r194 w_g194
set_option maxRecDepth 100000 in
theorem w_g195 : w_g (nat_lit 195) = true := by decide +kernel
theorem w_r196 : w_rg 196 := w_rg_s (n := 195) w_r195 w_g195
set_option maxRecDepth 100000 in
theorem w_g196 : w_g (nat_lit 196) = true := by decide +kernel
theorem w_r197 : w_rg 197 := w_rg_s (n := 196) w_r196 w_g196
set_option maxRecDepth 100000 in
theorem w_g197 : w_g (nat_lit 197) = true := by decide +kernel
theorem w_r198 : w_rg 198 := w_rg_s (n := 197) w_r197 w_g197
set_option maxRecDepth 100000 in
theorem w_g198 : w_g (nat_lit 198) = true := by decide +kernel
theorem w_r199 : w_rg 199 := w_rg_s (n := 198) w_r198 w_g198
