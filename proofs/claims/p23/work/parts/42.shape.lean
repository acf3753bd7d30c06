/-! the reference: its arrays stand behind it, in the order of their making: 1 seeds, 2 tSort, 3 tA, 4 tB, 5 tC, 6 tD, 7 isGot, 8 isKnown, 9 openNumber, 10 openTerm, 11 isUser, 12 draws, 13 identity, 14 identityOpen, 15 identityTerm, 16 lents, 17 lent, 18 lentOpen, 19 lentTerm, 20 directoryLent, 21 sealR, 22 sealT, 23 onces, 24 once, 25 onceOpen, 26 onceTerm, 27 onceThere, 28 onceKept, 29 order, 30 rowMany, 31 sRoot, 32 sSend, 33 hasSend, 34 sRecv, 35 hasRecv, 36 sOwn, 37 sOwnOpen, 38 sOther, 39 hasOther, 40 sNs, 41 sNr, 42 sPn, 43 goesWith, 44 isBegun, 45 sE, 46 sLent, 47 sOnce, 48 tRoot, 49 tFirst, 50 tSend, 51 tRecv, 52 tOwn, 53 keptMany, 54 keptOpen, 55 keptPlace, 56 keptKey, 57 keptTerm, 58 heard, 59 heardLent, 60 heardE, 61 tape, 62 letterByte, 63 letterSize, 64 letterTerm, 65 reading; its own fields: 0 n, 2 terms, 10 opens, 31 drawn, 32 drawnOpen, 33 drawnTerm, 63 begun, 68 taped, 72 letters, 73 copies, 75 readingSize, 76 writeAt, 77 lAt, 78 lSize, 79 headOpen, 80 headPn, 81 headN, 82 textAt, 83 textSize, 84 opened, 85 madeByLetters, 86 looks -/
def rf_l : List Int := [0, 1, 3, 4, 5, 6, 7, 8, 9, 11, 12, 13, 14, 15, 16, 17, 18, 19, 20, 21, 22, 23, 24, 25, 26, 27, 28, 29, 30, 34, 35, 36, 37, 38, 39, 40, 41, 42, 43, 44, 45, 46, 47, 48, 49, 50, 51, 52, 53, 54, 55, 56, 57, 58, 59, 60, 61, 62, 64, 65, 66, 67, 69, 70, 71, 74]
def rz_l : List Int := [0, 6, 17000, 17000, 17000, 17000, 17000, 17000, 17000, 2000, 2000, 6, 6, 6, 6, 6, 6, 126, 126, 126, 6, 6, 6, 6, 366, 366, 366, 366, 366, 144, 36, 144, 144, 144, 144, 144, 144, 144, 144, 144, 144, 144, 144, 144, 144, 144, 144, 144, 144, 144, 144, 144, 144, 144, 2880, 2880, 2880, 2880, 6, 600, 600, 60, 8000, 80, 80, 40]
def rf (o : Nat) : Int := (ev_nth rf_l o).getD 0
def rz (o : Nat) : Int := (ev_nth rz_l o).getD 0
def rS (h : cx_Q) (x : Nat) : Prop := cq_s h x = 10 ∧ ∀ o, 1 ≤ o → o ≤ 65 → cq_A h x (rf o) = some (x + o) ∧ cq_s h (x + o) = 105 + o ∧ cq_z h (x + o) = rz o
theorem rA_seeds {h : cx_Q} {x : Nat} (H : rS h x) : cq_A h x 1 = some (x + 1) := (H.2 1 (by decide) (by decide)).1
theorem rs_seeds {h : cx_Q} {x : Nat} (H : rS h x) : cq_s h (x + 1) = 106 := (H.2 1 (by decide) (by decide)).2.1
theorem rz_seeds {h : cx_Q} {x : Nat} (H : rS h x) : cq_z h (x + 1) = 6 := (H.2 1 (by decide) (by decide)).2.2
theorem rA_tSort {h : cx_Q} {x : Nat} (H : rS h x) : cq_A h x 3 = some (x + 2) := (H.2 2 (by decide) (by decide)).1
theorem rs_tSort {h : cx_Q} {x : Nat} (H : rS h x) : cq_s h (x + 2) = 107 := (H.2 2 (by decide) (by decide)).2.1
theorem rz_tSort {h : cx_Q} {x : Nat} (H : rS h x) : cq_z h (x + 2) = 17000 := (H.2 2 (by decide) (by decide)).2.2
theorem rA_tA {h : cx_Q} {x : Nat} (H : rS h x) : cq_A h x 4 = some (x + 3) := (H.2 3 (by decide) (by decide)).1
theorem rs_tA {h : cx_Q} {x : Nat} (H : rS h x) : cq_s h (x + 3) = 108 := (H.2 3 (by decide) (by decide)).2.1
theorem rz_tA {h : cx_Q} {x : Nat} (H : rS h x) : cq_z h (x + 3) = 17000 := (H.2 3 (by decide) (by decide)).2.2
theorem rA_tB {h : cx_Q} {x : Nat} (H : rS h x) : cq_A h x 5 = some (x + 4) := (H.2 4 (by decide) (by decide)).1
theorem rs_tB {h : cx_Q} {x : Nat} (H : rS h x) : cq_s h (x + 4) = 109 := (H.2 4 (by decide) (by decide)).2.1
theorem rz_tB {h : cx_Q} {x : Nat} (H : rS h x) : cq_z h (x + 4) = 17000 := (H.2 4 (by decide) (by decide)).2.2
theorem rA_tC {h : cx_Q} {x : Nat} (H : rS h x) : cq_A h x 6 = some (x + 5) := (H.2 5 (by decide) (by decide)).1
theorem rs_tC {h : cx_Q} {x : Nat} (H : rS h x) : cq_s h (x + 5) = 110 := (H.2 5 (by decide) (by decide)).2.1
theorem rz_tC {h : cx_Q} {x : Nat} (H : rS h x) : cq_z h (x + 5) = 17000 := (H.2 5 (by decide) (by decide)).2.2
theorem rA_tD {h : cx_Q} {x : Nat} (H : rS h x) : cq_A h x 7 = some (x + 6) := (H.2 6 (by decide) (by decide)).1
theorem rs_tD {h : cx_Q} {x : Nat} (H : rS h x) : cq_s h (x + 6) = 111 := (H.2 6 (by decide) (by decide)).2.1
theorem rz_tD {h : cx_Q} {x : Nat} (H : rS h x) : cq_z h (x + 6) = 17000 := (H.2 6 (by decide) (by decide)).2.2
theorem rA_isGot {h : cx_Q} {x : Nat} (H : rS h x) : cq_A h x 8 = some (x + 7) := (H.2 7 (by decide) (by decide)).1
theorem rs_isGot {h : cx_Q} {x : Nat} (H : rS h x) : cq_s h (x + 7) = 112 := (H.2 7 (by decide) (by decide)).2.1
theorem rz_isGot {h : cx_Q} {x : Nat} (H : rS h x) : cq_z h (x + 7) = 17000 := (H.2 7 (by decide) (by decide)).2.2
theorem rA_isKnown {h : cx_Q} {x : Nat} (H : rS h x) : cq_A h x 9 = some (x + 8) := (H.2 8 (by decide) (by decide)).1
theorem rs_isKnown {h : cx_Q} {x : Nat} (H : rS h x) : cq_s h (x + 8) = 113 := (H.2 8 (by decide) (by decide)).2.1
theorem rz_isKnown {h : cx_Q} {x : Nat} (H : rS h x) : cq_z h (x + 8) = 17000 := (H.2 8 (by decide) (by decide)).2.2
theorem rA_openNumber {h : cx_Q} {x : Nat} (H : rS h x) : cq_A h x 11 = some (x + 9) := (H.2 9 (by decide) (by decide)).1
theorem rs_openNumber {h : cx_Q} {x : Nat} (H : rS h x) : cq_s h (x + 9) = 114 := (H.2 9 (by decide) (by decide)).2.1
theorem rz_openNumber {h : cx_Q} {x : Nat} (H : rS h x) : cq_z h (x + 9) = 2000 := (H.2 9 (by decide) (by decide)).2.2
theorem rA_openTerm {h : cx_Q} {x : Nat} (H : rS h x) : cq_A h x 12 = some (x + 10) := (H.2 10 (by decide) (by decide)).1
theorem rs_openTerm {h : cx_Q} {x : Nat} (H : rS h x) : cq_s h (x + 10) = 115 := (H.2 10 (by decide) (by decide)).2.1
theorem rz_openTerm {h : cx_Q} {x : Nat} (H : rS h x) : cq_z h (x + 10) = 2000 := (H.2 10 (by decide) (by decide)).2.2
theorem rA_isUser {h : cx_Q} {x : Nat} (H : rS h x) : cq_A h x 13 = some (x + 11) := (H.2 11 (by decide) (by decide)).1
theorem rs_isUser {h : cx_Q} {x : Nat} (H : rS h x) : cq_s h (x + 11) = 116 := (H.2 11 (by decide) (by decide)).2.1
theorem rz_isUser {h : cx_Q} {x : Nat} (H : rS h x) : cq_z h (x + 11) = 6 := (H.2 11 (by decide) (by decide)).2.2
theorem rA_draws {h : cx_Q} {x : Nat} (H : rS h x) : cq_A h x 14 = some (x + 12) := (H.2 12 (by decide) (by decide)).1
theorem rs_draws {h : cx_Q} {x : Nat} (H : rS h x) : cq_s h (x + 12) = 117 := (H.2 12 (by decide) (by decide)).2.1
theorem rz_draws {h : cx_Q} {x : Nat} (H : rS h x) : cq_z h (x + 12) = 6 := (H.2 12 (by decide) (by decide)).2.2
theorem rA_identity {h : cx_Q} {x : Nat} (H : rS h x) : cq_A h x 15 = some (x + 13) := (H.2 13 (by decide) (by decide)).1
theorem rs_identity {h : cx_Q} {x : Nat} (H : rS h x) : cq_s h (x + 13) = 118 := (H.2 13 (by decide) (by decide)).2.1
theorem rz_identity {h : cx_Q} {x : Nat} (H : rS h x) : cq_z h (x + 13) = 6 := (H.2 13 (by decide) (by decide)).2.2
theorem rA_identityOpen {h : cx_Q} {x : Nat} (H : rS h x) : cq_A h x 16 = some (x + 14) := (H.2 14 (by decide) (by decide)).1
theorem rs_identityOpen {h : cx_Q} {x : Nat} (H : rS h x) : cq_s h (x + 14) = 119 := (H.2 14 (by decide) (by decide)).2.1
theorem rz_identityOpen {h : cx_Q} {x : Nat} (H : rS h x) : cq_z h (x + 14) = 6 := (H.2 14 (by decide) (by decide)).2.2
theorem rA_identityTerm {h : cx_Q} {x : Nat} (H : rS h x) : cq_A h x 17 = some (x + 15) := (H.2 15 (by decide) (by decide)).1
theorem rs_identityTerm {h : cx_Q} {x : Nat} (H : rS h x) : cq_s h (x + 15) = 120 := (H.2 15 (by decide) (by decide)).2.1
theorem rz_identityTerm {h : cx_Q} {x : Nat} (H : rS h x) : cq_z h (x + 15) = 6 := (H.2 15 (by decide) (by decide)).2.2
theorem rA_lents {h : cx_Q} {x : Nat} (H : rS h x) : cq_A h x 18 = some (x + 16) := (H.2 16 (by decide) (by decide)).1
theorem rs_lents {h : cx_Q} {x : Nat} (H : rS h x) : cq_s h (x + 16) = 121 := (H.2 16 (by decide) (by decide)).2.1
theorem rz_lents {h : cx_Q} {x : Nat} (H : rS h x) : cq_z h (x + 16) = 6 := (H.2 16 (by decide) (by decide)).2.2
theorem rA_lent {h : cx_Q} {x : Nat} (H : rS h x) : cq_A h x 19 = some (x + 17) := (H.2 17 (by decide) (by decide)).1
theorem rs_lent {h : cx_Q} {x : Nat} (H : rS h x) : cq_s h (x + 17) = 122 := (H.2 17 (by decide) (by decide)).2.1
theorem rz_lent {h : cx_Q} {x : Nat} (H : rS h x) : cq_z h (x + 17) = 126 := (H.2 17 (by decide) (by decide)).2.2
theorem rA_lentOpen {h : cx_Q} {x : Nat} (H : rS h x) : cq_A h x 20 = some (x + 18) := (H.2 18 (by decide) (by decide)).1
theorem rs_lentOpen {h : cx_Q} {x : Nat} (H : rS h x) : cq_s h (x + 18) = 123 := (H.2 18 (by decide) (by decide)).2.1
theorem rz_lentOpen {h : cx_Q} {x : Nat} (H : rS h x) : cq_z h (x + 18) = 126 := (H.2 18 (by decide) (by decide)).2.2
theorem rA_lentTerm {h : cx_Q} {x : Nat} (H : rS h x) : cq_A h x 21 = some (x + 19) := (H.2 19 (by decide) (by decide)).1
theorem rs_lentTerm {h : cx_Q} {x : Nat} (H : rS h x) : cq_s h (x + 19) = 124 := (H.2 19 (by decide) (by decide)).2.1
theorem rz_lentTerm {h : cx_Q} {x : Nat} (H : rS h x) : cq_z h (x + 19) = 126 := (H.2 19 (by decide) (by decide)).2.2
theorem rA_directoryLent {h : cx_Q} {x : Nat} (H : rS h x) : cq_A h x 22 = some (x + 20) := (H.2 20 (by decide) (by decide)).1
theorem rs_directoryLent {h : cx_Q} {x : Nat} (H : rS h x) : cq_s h (x + 20) = 125 := (H.2 20 (by decide) (by decide)).2.1
theorem rz_directoryLent {h : cx_Q} {x : Nat} (H : rS h x) : cq_z h (x + 20) = 6 := (H.2 20 (by decide) (by decide)).2.2
theorem rA_sealR {h : cx_Q} {x : Nat} (H : rS h x) : cq_A h x 23 = some (x + 21) := (H.2 21 (by decide) (by decide)).1
theorem rs_sealR {h : cx_Q} {x : Nat} (H : rS h x) : cq_s h (x + 21) = 126 := (H.2 21 (by decide) (by decide)).2.1
theorem rz_sealR {h : cx_Q} {x : Nat} (H : rS h x) : cq_z h (x + 21) = 6 := (H.2 21 (by decide) (by decide)).2.2
theorem rA_sealT {h : cx_Q} {x : Nat} (H : rS h x) : cq_A h x 24 = some (x + 22) := (H.2 22 (by decide) (by decide)).1
theorem rs_sealT {h : cx_Q} {x : Nat} (H : rS h x) : cq_s h (x + 22) = 127 := (H.2 22 (by decide) (by decide)).2.1
theorem rz_sealT {h : cx_Q} {x : Nat} (H : rS h x) : cq_z h (x + 22) = 6 := (H.2 22 (by decide) (by decide)).2.2
theorem rA_onces {h : cx_Q} {x : Nat} (H : rS h x) : cq_A h x 25 = some (x + 23) := (H.2 23 (by decide) (by decide)).1
theorem rs_onces {h : cx_Q} {x : Nat} (H : rS h x) : cq_s h (x + 23) = 128 := (H.2 23 (by decide) (by decide)).2.1
theorem rz_onces {h : cx_Q} {x : Nat} (H : rS h x) : cq_z h (x + 23) = 6 := (H.2 23 (by decide) (by decide)).2.2
theorem rA_once {h : cx_Q} {x : Nat} (H : rS h x) : cq_A h x 26 = some (x + 24) := (H.2 24 (by decide) (by decide)).1
theorem rs_once {h : cx_Q} {x : Nat} (H : rS h x) : cq_s h (x + 24) = 129 := (H.2 24 (by decide) (by decide)).2.1
theorem rz_once {h : cx_Q} {x : Nat} (H : rS h x) : cq_z h (x + 24) = 366 := (H.2 24 (by decide) (by decide)).2.2
theorem rA_onceOpen {h : cx_Q} {x : Nat} (H : rS h x) : cq_A h x 27 = some (x + 25) := (H.2 25 (by decide) (by decide)).1
theorem rs_onceOpen {h : cx_Q} {x : Nat} (H : rS h x) : cq_s h (x + 25) = 130 := (H.2 25 (by decide) (by decide)).2.1
theorem rz_onceOpen {h : cx_Q} {x : Nat} (H : rS h x) : cq_z h (x + 25) = 366 := (H.2 25 (by decide) (by decide)).2.2
theorem rA_onceTerm {h : cx_Q} {x : Nat} (H : rS h x) : cq_A h x 28 = some (x + 26) := (H.2 26 (by decide) (by decide)).1
theorem rs_onceTerm {h : cx_Q} {x : Nat} (H : rS h x) : cq_s h (x + 26) = 131 := (H.2 26 (by decide) (by decide)).2.1
theorem rz_onceTerm {h : cx_Q} {x : Nat} (H : rS h x) : cq_z h (x + 26) = 366 := (H.2 26 (by decide) (by decide)).2.2
theorem rA_onceThere {h : cx_Q} {x : Nat} (H : rS h x) : cq_A h x 29 = some (x + 27) := (H.2 27 (by decide) (by decide)).1
theorem rs_onceThere {h : cx_Q} {x : Nat} (H : rS h x) : cq_s h (x + 27) = 132 := (H.2 27 (by decide) (by decide)).2.1
theorem rz_onceThere {h : cx_Q} {x : Nat} (H : rS h x) : cq_z h (x + 27) = 366 := (H.2 27 (by decide) (by decide)).2.2
theorem rA_onceKept {h : cx_Q} {x : Nat} (H : rS h x) : cq_A h x 30 = some (x + 28) := (H.2 28 (by decide) (by decide)).1
theorem rs_onceKept {h : cx_Q} {x : Nat} (H : rS h x) : cq_s h (x + 28) = 133 := (H.2 28 (by decide) (by decide)).2.1
theorem rz_onceKept {h : cx_Q} {x : Nat} (H : rS h x) : cq_z h (x + 28) = 366 := (H.2 28 (by decide) (by decide)).2.2
theorem rA_order {h : cx_Q} {x : Nat} (H : rS h x) : cq_A h x 34 = some (x + 29) := (H.2 29 (by decide) (by decide)).1
theorem rs_order {h : cx_Q} {x : Nat} (H : rS h x) : cq_s h (x + 29) = 134 := (H.2 29 (by decide) (by decide)).2.1
theorem rz_order {h : cx_Q} {x : Nat} (H : rS h x) : cq_z h (x + 29) = 144 := (H.2 29 (by decide) (by decide)).2.2
theorem rA_rowMany {h : cx_Q} {x : Nat} (H : rS h x) : cq_A h x 35 = some (x + 30) := (H.2 30 (by decide) (by decide)).1
theorem rs_rowMany {h : cx_Q} {x : Nat} (H : rS h x) : cq_s h (x + 30) = 135 := (H.2 30 (by decide) (by decide)).2.1
theorem rz_rowMany {h : cx_Q} {x : Nat} (H : rS h x) : cq_z h (x + 30) = 36 := (H.2 30 (by decide) (by decide)).2.2
theorem rA_sRoot {h : cx_Q} {x : Nat} (H : rS h x) : cq_A h x 36 = some (x + 31) := (H.2 31 (by decide) (by decide)).1
theorem rs_sRoot {h : cx_Q} {x : Nat} (H : rS h x) : cq_s h (x + 31) = 136 := (H.2 31 (by decide) (by decide)).2.1
theorem rz_sRoot {h : cx_Q} {x : Nat} (H : rS h x) : cq_z h (x + 31) = 144 := (H.2 31 (by decide) (by decide)).2.2
theorem rA_sSend {h : cx_Q} {x : Nat} (H : rS h x) : cq_A h x 37 = some (x + 32) := (H.2 32 (by decide) (by decide)).1
theorem rs_sSend {h : cx_Q} {x : Nat} (H : rS h x) : cq_s h (x + 32) = 137 := (H.2 32 (by decide) (by decide)).2.1
theorem rz_sSend {h : cx_Q} {x : Nat} (H : rS h x) : cq_z h (x + 32) = 144 := (H.2 32 (by decide) (by decide)).2.2
theorem rA_hasSend {h : cx_Q} {x : Nat} (H : rS h x) : cq_A h x 38 = some (x + 33) := (H.2 33 (by decide) (by decide)).1
theorem rs_hasSend {h : cx_Q} {x : Nat} (H : rS h x) : cq_s h (x + 33) = 138 := (H.2 33 (by decide) (by decide)).2.1
theorem rz_hasSend {h : cx_Q} {x : Nat} (H : rS h x) : cq_z h (x + 33) = 144 := (H.2 33 (by decide) (by decide)).2.2
theorem rA_sRecv {h : cx_Q} {x : Nat} (H : rS h x) : cq_A h x 39 = some (x + 34) := (H.2 34 (by decide) (by decide)).1
theorem rs_sRecv {h : cx_Q} {x : Nat} (H : rS h x) : cq_s h (x + 34) = 139 := (H.2 34 (by decide) (by decide)).2.1
theorem rz_sRecv {h : cx_Q} {x : Nat} (H : rS h x) : cq_z h (x + 34) = 144 := (H.2 34 (by decide) (by decide)).2.2
theorem rA_hasRecv {h : cx_Q} {x : Nat} (H : rS h x) : cq_A h x 40 = some (x + 35) := (H.2 35 (by decide) (by decide)).1
theorem rs_hasRecv {h : cx_Q} {x : Nat} (H : rS h x) : cq_s h (x + 35) = 140 := (H.2 35 (by decide) (by decide)).2.1
theorem rz_hasRecv {h : cx_Q} {x : Nat} (H : rS h x) : cq_z h (x + 35) = 144 := (H.2 35 (by decide) (by decide)).2.2
theorem rA_sOwn {h : cx_Q} {x : Nat} (H : rS h x) : cq_A h x 41 = some (x + 36) := (H.2 36 (by decide) (by decide)).1
theorem rs_sOwn {h : cx_Q} {x : Nat} (H : rS h x) : cq_s h (x + 36) = 141 := (H.2 36 (by decide) (by decide)).2.1
theorem rz_sOwn {h : cx_Q} {x : Nat} (H : rS h x) : cq_z h (x + 36) = 144 := (H.2 36 (by decide) (by decide)).2.2
theorem rA_sOwnOpen {h : cx_Q} {x : Nat} (H : rS h x) : cq_A h x 42 = some (x + 37) := (H.2 37 (by decide) (by decide)).1
theorem rs_sOwnOpen {h : cx_Q} {x : Nat} (H : rS h x) : cq_s h (x + 37) = 142 := (H.2 37 (by decide) (by decide)).2.1
theorem rz_sOwnOpen {h : cx_Q} {x : Nat} (H : rS h x) : cq_z h (x + 37) = 144 := (H.2 37 (by decide) (by decide)).2.2
theorem rA_sOther {h : cx_Q} {x : Nat} (H : rS h x) : cq_A h x 43 = some (x + 38) := (H.2 38 (by decide) (by decide)).1
theorem rs_sOther {h : cx_Q} {x : Nat} (H : rS h x) : cq_s h (x + 38) = 143 := (H.2 38 (by decide) (by decide)).2.1
theorem rz_sOther {h : cx_Q} {x : Nat} (H : rS h x) : cq_z h (x + 38) = 144 := (H.2 38 (by decide) (by decide)).2.2
theorem rA_hasOther {h : cx_Q} {x : Nat} (H : rS h x) : cq_A h x 44 = some (x + 39) := (H.2 39 (by decide) (by decide)).1
theorem rs_hasOther {h : cx_Q} {x : Nat} (H : rS h x) : cq_s h (x + 39) = 144 := (H.2 39 (by decide) (by decide)).2.1
theorem rz_hasOther {h : cx_Q} {x : Nat} (H : rS h x) : cq_z h (x + 39) = 144 := (H.2 39 (by decide) (by decide)).2.2
theorem rA_sNs {h : cx_Q} {x : Nat} (H : rS h x) : cq_A h x 45 = some (x + 40) := (H.2 40 (by decide) (by decide)).1
theorem rs_sNs {h : cx_Q} {x : Nat} (H : rS h x) : cq_s h (x + 40) = 145 := (H.2 40 (by decide) (by decide)).2.1
theorem rz_sNs {h : cx_Q} {x : Nat} (H : rS h x) : cq_z h (x + 40) = 144 := (H.2 40 (by decide) (by decide)).2.2
theorem rA_sNr {h : cx_Q} {x : Nat} (H : rS h x) : cq_A h x 46 = some (x + 41) := (H.2 41 (by decide) (by decide)).1
theorem rs_sNr {h : cx_Q} {x : Nat} (H : rS h x) : cq_s h (x + 41) = 146 := (H.2 41 (by decide) (by decide)).2.1
theorem rz_sNr {h : cx_Q} {x : Nat} (H : rS h x) : cq_z h (x + 41) = 144 := (H.2 41 (by decide) (by decide)).2.2
theorem rA_sPn {h : cx_Q} {x : Nat} (H : rS h x) : cq_A h x 47 = some (x + 42) := (H.2 42 (by decide) (by decide)).1
theorem rs_sPn {h : cx_Q} {x : Nat} (H : rS h x) : cq_s h (x + 42) = 147 := (H.2 42 (by decide) (by decide)).2.1
theorem rz_sPn {h : cx_Q} {x : Nat} (H : rS h x) : cq_z h (x + 42) = 144 := (H.2 42 (by decide) (by decide)).2.2
theorem rA_goesWith {h : cx_Q} {x : Nat} (H : rS h x) : cq_A h x 48 = some (x + 43) := (H.2 43 (by decide) (by decide)).1
theorem rs_goesWith {h : cx_Q} {x : Nat} (H : rS h x) : cq_s h (x + 43) = 148 := (H.2 43 (by decide) (by decide)).2.1
theorem rz_goesWith {h : cx_Q} {x : Nat} (H : rS h x) : cq_z h (x + 43) = 144 := (H.2 43 (by decide) (by decide)).2.2
theorem rA_isBegun {h : cx_Q} {x : Nat} (H : rS h x) : cq_A h x 49 = some (x + 44) := (H.2 44 (by decide) (by decide)).1
theorem rs_isBegun {h : cx_Q} {x : Nat} (H : rS h x) : cq_s h (x + 44) = 149 := (H.2 44 (by decide) (by decide)).2.1
theorem rz_isBegun {h : cx_Q} {x : Nat} (H : rS h x) : cq_z h (x + 44) = 144 := (H.2 44 (by decide) (by decide)).2.2
theorem rA_sE {h : cx_Q} {x : Nat} (H : rS h x) : cq_A h x 50 = some (x + 45) := (H.2 45 (by decide) (by decide)).1
theorem rs_sE {h : cx_Q} {x : Nat} (H : rS h x) : cq_s h (x + 45) = 150 := (H.2 45 (by decide) (by decide)).2.1
theorem rz_sE {h : cx_Q} {x : Nat} (H : rS h x) : cq_z h (x + 45) = 144 := (H.2 45 (by decide) (by decide)).2.2
theorem rA_sLent {h : cx_Q} {x : Nat} (H : rS h x) : cq_A h x 51 = some (x + 46) := (H.2 46 (by decide) (by decide)).1
theorem rs_sLent {h : cx_Q} {x : Nat} (H : rS h x) : cq_s h (x + 46) = 151 := (H.2 46 (by decide) (by decide)).2.1
theorem rz_sLent {h : cx_Q} {x : Nat} (H : rS h x) : cq_z h (x + 46) = 144 := (H.2 46 (by decide) (by decide)).2.2
theorem rA_sOnce {h : cx_Q} {x : Nat} (H : rS h x) : cq_A h x 52 = some (x + 47) := (H.2 47 (by decide) (by decide)).1
theorem rs_sOnce {h : cx_Q} {x : Nat} (H : rS h x) : cq_s h (x + 47) = 152 := (H.2 47 (by decide) (by decide)).2.1
theorem rz_sOnce {h : cx_Q} {x : Nat} (H : rS h x) : cq_z h (x + 47) = 144 := (H.2 47 (by decide) (by decide)).2.2
theorem rA_tRoot {h : cx_Q} {x : Nat} (H : rS h x) : cq_A h x 53 = some (x + 48) := (H.2 48 (by decide) (by decide)).1
theorem rs_tRoot {h : cx_Q} {x : Nat} (H : rS h x) : cq_s h (x + 48) = 153 := (H.2 48 (by decide) (by decide)).2.1
theorem rz_tRoot {h : cx_Q} {x : Nat} (H : rS h x) : cq_z h (x + 48) = 144 := (H.2 48 (by decide) (by decide)).2.2
theorem rA_tFirst {h : cx_Q} {x : Nat} (H : rS h x) : cq_A h x 54 = some (x + 49) := (H.2 49 (by decide) (by decide)).1
theorem rs_tFirst {h : cx_Q} {x : Nat} (H : rS h x) : cq_s h (x + 49) = 154 := (H.2 49 (by decide) (by decide)).2.1
theorem rz_tFirst {h : cx_Q} {x : Nat} (H : rS h x) : cq_z h (x + 49) = 144 := (H.2 49 (by decide) (by decide)).2.2
theorem rA_tSend {h : cx_Q} {x : Nat} (H : rS h x) : cq_A h x 55 = some (x + 50) := (H.2 50 (by decide) (by decide)).1
theorem rs_tSend {h : cx_Q} {x : Nat} (H : rS h x) : cq_s h (x + 50) = 155 := (H.2 50 (by decide) (by decide)).2.1
theorem rz_tSend {h : cx_Q} {x : Nat} (H : rS h x) : cq_z h (x + 50) = 144 := (H.2 50 (by decide) (by decide)).2.2
theorem rA_tRecv {h : cx_Q} {x : Nat} (H : rS h x) : cq_A h x 56 = some (x + 51) := (H.2 51 (by decide) (by decide)).1
theorem rs_tRecv {h : cx_Q} {x : Nat} (H : rS h x) : cq_s h (x + 51) = 156 := (H.2 51 (by decide) (by decide)).2.1
theorem rz_tRecv {h : cx_Q} {x : Nat} (H : rS h x) : cq_z h (x + 51) = 144 := (H.2 51 (by decide) (by decide)).2.2
theorem rA_tOwn {h : cx_Q} {x : Nat} (H : rS h x) : cq_A h x 57 = some (x + 52) := (H.2 52 (by decide) (by decide)).1
theorem rs_tOwn {h : cx_Q} {x : Nat} (H : rS h x) : cq_s h (x + 52) = 157 := (H.2 52 (by decide) (by decide)).2.1
theorem rz_tOwn {h : cx_Q} {x : Nat} (H : rS h x) : cq_z h (x + 52) = 144 := (H.2 52 (by decide) (by decide)).2.2
theorem rA_keptMany {h : cx_Q} {x : Nat} (H : rS h x) : cq_A h x 58 = some (x + 53) := (H.2 53 (by decide) (by decide)).1
theorem rs_keptMany {h : cx_Q} {x : Nat} (H : rS h x) : cq_s h (x + 53) = 158 := (H.2 53 (by decide) (by decide)).2.1
theorem rz_keptMany {h : cx_Q} {x : Nat} (H : rS h x) : cq_z h (x + 53) = 144 := (H.2 53 (by decide) (by decide)).2.2
theorem rA_keptOpen {h : cx_Q} {x : Nat} (H : rS h x) : cq_A h x 59 = some (x + 54) := (H.2 54 (by decide) (by decide)).1
theorem rs_keptOpen {h : cx_Q} {x : Nat} (H : rS h x) : cq_s h (x + 54) = 159 := (H.2 54 (by decide) (by decide)).2.1
theorem rz_keptOpen {h : cx_Q} {x : Nat} (H : rS h x) : cq_z h (x + 54) = 2880 := (H.2 54 (by decide) (by decide)).2.2
theorem rA_keptPlace {h : cx_Q} {x : Nat} (H : rS h x) : cq_A h x 60 = some (x + 55) := (H.2 55 (by decide) (by decide)).1
theorem rs_keptPlace {h : cx_Q} {x : Nat} (H : rS h x) : cq_s h (x + 55) = 160 := (H.2 55 (by decide) (by decide)).2.1
theorem rz_keptPlace {h : cx_Q} {x : Nat} (H : rS h x) : cq_z h (x + 55) = 2880 := (H.2 55 (by decide) (by decide)).2.2
theorem rA_keptKey {h : cx_Q} {x : Nat} (H : rS h x) : cq_A h x 61 = some (x + 56) := (H.2 56 (by decide) (by decide)).1
theorem rs_keptKey {h : cx_Q} {x : Nat} (H : rS h x) : cq_s h (x + 56) = 161 := (H.2 56 (by decide) (by decide)).2.1
theorem rz_keptKey {h : cx_Q} {x : Nat} (H : rS h x) : cq_z h (x + 56) = 2880 := (H.2 56 (by decide) (by decide)).2.2
theorem rA_keptTerm {h : cx_Q} {x : Nat} (H : rS h x) : cq_A h x 62 = some (x + 57) := (H.2 57 (by decide) (by decide)).1
theorem rs_keptTerm {h : cx_Q} {x : Nat} (H : rS h x) : cq_s h (x + 57) = 162 := (H.2 57 (by decide) (by decide)).2.1
theorem rz_keptTerm {h : cx_Q} {x : Nat} (H : rS h x) : cq_z h (x + 57) = 2880 := (H.2 57 (by decide) (by decide)).2.2
theorem rA_heard {h : cx_Q} {x : Nat} (H : rS h x) : cq_A h x 64 = some (x + 58) := (H.2 58 (by decide) (by decide)).1
theorem rs_heard {h : cx_Q} {x : Nat} (H : rS h x) : cq_s h (x + 58) = 163 := (H.2 58 (by decide) (by decide)).2.1
theorem rz_heard {h : cx_Q} {x : Nat} (H : rS h x) : cq_z h (x + 58) = 6 := (H.2 58 (by decide) (by decide)).2.2
theorem rA_heardLent {h : cx_Q} {x : Nat} (H : rS h x) : cq_A h x 65 = some (x + 59) := (H.2 59 (by decide) (by decide)).1
theorem rs_heardLent {h : cx_Q} {x : Nat} (H : rS h x) : cq_s h (x + 59) = 164 := (H.2 59 (by decide) (by decide)).2.1
theorem rz_heardLent {h : cx_Q} {x : Nat} (H : rS h x) : cq_z h (x + 59) = 600 := (H.2 59 (by decide) (by decide)).2.2
theorem rA_heardE {h : cx_Q} {x : Nat} (H : rS h x) : cq_A h x 66 = some (x + 60) := (H.2 60 (by decide) (by decide)).1
theorem rs_heardE {h : cx_Q} {x : Nat} (H : rS h x) : cq_s h (x + 60) = 165 := (H.2 60 (by decide) (by decide)).2.1
theorem rz_heardE {h : cx_Q} {x : Nat} (H : rS h x) : cq_z h (x + 60) = 600 := (H.2 60 (by decide) (by decide)).2.2
theorem rA_tape {h : cx_Q} {x : Nat} (H : rS h x) : cq_A h x 67 = some (x + 61) := (H.2 61 (by decide) (by decide)).1
theorem rs_tape {h : cx_Q} {x : Nat} (H : rS h x) : cq_s h (x + 61) = 166 := (H.2 61 (by decide) (by decide)).2.1
theorem rz_tape {h : cx_Q} {x : Nat} (H : rS h x) : cq_z h (x + 61) = 60 := (H.2 61 (by decide) (by decide)).2.2
theorem rA_letterByte {h : cx_Q} {x : Nat} (H : rS h x) : cq_A h x 69 = some (x + 62) := (H.2 62 (by decide) (by decide)).1
theorem rs_letterByte {h : cx_Q} {x : Nat} (H : rS h x) : cq_s h (x + 62) = 167 := (H.2 62 (by decide) (by decide)).2.1
theorem rz_letterByte {h : cx_Q} {x : Nat} (H : rS h x) : cq_z h (x + 62) = 8000 := (H.2 62 (by decide) (by decide)).2.2
theorem rA_letterSize {h : cx_Q} {x : Nat} (H : rS h x) : cq_A h x 70 = some (x + 63) := (H.2 63 (by decide) (by decide)).1
theorem rs_letterSize {h : cx_Q} {x : Nat} (H : rS h x) : cq_s h (x + 63) = 168 := (H.2 63 (by decide) (by decide)).2.1
theorem rz_letterSize {h : cx_Q} {x : Nat} (H : rS h x) : cq_z h (x + 63) = 80 := (H.2 63 (by decide) (by decide)).2.2
theorem rA_letterTerm {h : cx_Q} {x : Nat} (H : rS h x) : cq_A h x 71 = some (x + 64) := (H.2 64 (by decide) (by decide)).1
theorem rs_letterTerm {h : cx_Q} {x : Nat} (H : rS h x) : cq_s h (x + 64) = 169 := (H.2 64 (by decide) (by decide)).2.1
theorem rz_letterTerm {h : cx_Q} {x : Nat} (H : rS h x) : cq_z h (x + 64) = 80 := (H.2 64 (by decide) (by decide)).2.2
theorem rA_reading {h : cx_Q} {x : Nat} (H : rS h x) : cq_A h x 74 = some (x + 65) := (H.2 65 (by decide) (by decide)).1
theorem rs_reading {h : cx_Q} {x : Nat} (H : rS h x) : cq_s h (x + 65) = 170 := (H.2 65 (by decide) (by decide)).2.1
theorem rz_reading {h : cx_Q} {x : Nat} (H : rS h x) : cq_z h (x + 65) = 40 := (H.2 65 (by decide) (by decide)).2.2
/-! terms: what only readable rests on. Of them no more is held than their bounds -/
def tL : List Nat := [2, 3, 4, 5, 6, 7, 8, 9, 10, 15, 19, 26, 48, 49, 50, 51, 52, 57, 64]
def tV : List Nat := [3, 4, 5, 6, 10, 15, 19, 26, 48, 49, 50, 51, 52, 57, 64]
def isT (x i : Nat) (j : Int) : Prop := (i = x ∧ (j = 2 ∨ j = 10 ∨ j = 33)) ∨ ∃ o ∈ tL, i = x + o
/-- alike but for terms -/
def eT (x : Nat) (h h' : cx_Q) : Prop := h'.1 = h.1 ∧ cq_s h' = cq_s h ∧ cq_z h' = cq_z h ∧ cq_A h' = cq_A h ∧ ∀ i j, ¬ isT x i j → cq_I h' i j = cq_I h i j ∧ cq_J h' i j = cq_J h i j
theorem eT.refl (x : Nat) (h : cx_Q) : eT x h h := ⟨rfl, rfl, rfl, rfl, fun _ _ _ => ⟨rfl, rfl⟩⟩
theorem eT.trans {x : Nat} {h h1 h2 : cx_Q} (a : eT x h h1) (b : eT x h1 h2) : eT x h h2 := ⟨b.1.trans a.1, b.2.1.trans a.2.1, b.2.2.1.trans a.2.2.1, b.2.2.2.1.trans a.2.2.2.1, fun i j q => ⟨(b.2.2.2.2 i j q).1.trans (a.2.2.2.2 i j q).1, (b.2.2.2.2 i j q).2.trans (a.2.2.2.2 i j q).2⟩⟩
theorem eT.tI {x : Nat} {h h' : cx_Q} {i : Nat} {j v : Int} (a : eT x h h') (q : isT x i j) : eT x h (cq_sI h' i j v) := by
  refine ⟨a.1, a.2.1, a.2.2.1, a.2.2.2.1, fun i' j' q' => ⟨?_, (a.2.2.2.2 i' j' q').2⟩⟩
  rw [mm_sI, if_neg (fun e => q' (by rw [e.1, e.2]; exact q))]
  exact (a.2.2.2.2 i' j' q').1
theorem eT.tJ {x : Nat} {h h' : cx_Q} {i : Nat} {j : Int} {v : Int64} (a : eT x h h') (q : isT x i j) : eT x h (cq_sJ h' i j v) := by
  refine ⟨a.1, a.2.1, a.2.2.1, a.2.2.2.1, fun i' j' q' => ⟨(a.2.2.2.2 i' j' q').1, ?_⟩⟩
  rw [mm_sJ, if_neg (fun e => q' (by rw [e.1, e.2]; exact q))]
  exact (a.2.2.2.2 i' j' q').2
theorem eT.sI {x : Nat} {h h' : cx_Q} {i : Nat} {j v : Int} (a : eT x h h') : eT x (cq_sI h i j v) (cq_sI h' i j v) := by
  refine ⟨a.1, a.2.1, a.2.2.1, a.2.2.2.1, fun i' j' q' => ⟨?_, (a.2.2.2.2 i' j' q').2⟩⟩
  rw [mm_sI, mm_sI, (a.2.2.2.2 i' j' q').1]
theorem eT.sJ {x : Nat} {h h' : cx_Q} {i : Nat} {j : Int} {v : Int64} (a : eT x h h') : eT x (cq_sJ h i j v) (cq_sJ h' i j v) := by
  refine ⟨a.1, a.2.1, a.2.2.1, a.2.2.2.1, fun i' j' q' => ⟨(a.2.2.2.2 i' j' q').1, ?_⟩⟩
  rw [mm_sJ, mm_sJ, (a.2.2.2.2 i' j' q').2]
theorem eT.rS {x : Nat} {h h' : cx_Q} (a : eT x h h') (H : rS h x) : rS h' x := by
  refine ⟨by rw [a.2.1]; exact H.1, fun o h1 h2 => ?_⟩
  rw [a.2.1, a.2.2.1, a.2.2.2.1]
  exact H.2 o h1 h2
def TI (x : Nat) (h : cx_Q) (N O : Int) : Prop := (1 ≤ cq_I h x 2 ∧ cq_I h x 2 ≤ N) ∧ (0 ≤ cq_I h x 10 ∧ cq_I h x 10 ≤ O) ∧ (0 ≤ cq_I h x 33 ∧ cq_I h x 33 ≤ 16999) ∧ ∀ o ∈ tV, ∀ j, 0 ≤ cq_I h (x + o) j ∧ cq_I h (x + o) j ≤ 16999
theorem TI.le {x : Nat} {h : cx_Q} {N O N' O' : Int} (a : TI x h N O) (h1 : N ≤ N') (h2 : O ≤ O') : TI x h N' O' := ⟨⟨a.1.1, by have := a.1.2; omega⟩, ⟨a.2.1.1, by have := a.2.1.2; omega⟩, a.2.2.1, a.2.2.2⟩
theorem tV_pos : ∀ o ∈ tV, 1 ≤ o := by decide
theorem TI.sT {x : Nat} {h : cx_Q} {N O : Int} {o : Nat} {j v : Int} (a : TI x h N O) (h0 : 1 ≤ o) (hv : o ∈ tV → 0 ≤ v ∧ v ≤ 16999) : TI x (cq_sI h (x + o) j v) N O := by
  have hx : ∀ k : Int, cq_I (cq_sI h (x + o) j v) x k = cq_I h x k := fun k => by rw [mm_sI, if_neg (fun e => by omega)]
  refine ⟨by rw [hx]; exact a.1, by rw [hx]; exact a.2.1, by rw [hx]; exact a.2.2.1, fun q hq k => ?_⟩
  rw [mm_sI]
  split
  · rename_i e
    have : q = o := by omega
    subst this
    exact hv hq
  · exact a.2.2.2 q hq k
theorem TI.sF {x : Nat} {h : cx_Q} {N O : Int} {k v : Int} (a : TI x h N O) (h1 : k ≠ 2) (h2 : k ≠ 10) (h3 : k ≠ 33) : TI x (cq_sI h x k v) N O := by
  refine ⟨?_, ?_, ?_, fun q hq j => ?_⟩
  · rw [mm_sI, if_neg (fun e => h1 e.2.symm)]; exact a.1
  · rw [mm_sI, if_neg (fun e => h2 e.2.symm)]; exact a.2.1
  · rw [mm_sI, if_neg (fun e => h3 e.2.symm)]; exact a.2.2.1
  · have := tV_pos q hq
    rw [mm_sI, if_neg (fun e => by omega)]
    exact a.2.2.2 q hq j
theorem TI.sJ {x : Nat} {h : cx_Q} {N O : Int} {i : Nat} {k : Int} {v : Int64} (a : TI x h N O) : TI x (cq_sJ h i k v) N O := a
theorem TI.s2 {x : Nat} {h : cx_Q} {N O v : Int} (a : TI x h N O) (h1 : 1 ≤ v) (h2 : v ≤ N) : TI x (cq_sI h x 2 v) N O := by
  refine ⟨by rw [mm_sI, if_pos ⟨rfl, rfl⟩]; exact ⟨h1, h2⟩, ?_, ?_, fun q hq j => ?_⟩
  · rw [mm_sI, if_neg (fun e => absurd e.2 (by decide))]; exact a.2.1
  · rw [mm_sI, if_neg (fun e => absurd e.2 (by decide))]; exact a.2.2.1
  · have := tV_pos q hq
    rw [mm_sI, if_neg (fun e => by omega)]
    exact a.2.2.2 q hq j
theorem TI.s10 {x : Nat} {h : cx_Q} {N O v : Int} (a : TI x h N O) (h1 : 0 ≤ v) (h2 : v ≤ O) : TI x (cq_sI h x 10 v) N O := by
  refine ⟨?_, by rw [mm_sI, if_pos ⟨rfl, rfl⟩]; exact ⟨h1, h2⟩, ?_, fun q hq j => ?_⟩
  · rw [mm_sI, if_neg (fun e => absurd e.2 (by decide))]; exact a.1
  · rw [mm_sI, if_neg (fun e => absurd e.2 (by decide))]; exact a.2.2.1
  · have := tV_pos q hq
    rw [mm_sI, if_neg (fun e => by omega)]
    exact a.2.2.2 q hq j
theorem TI.s33 {x : Nat} {h : cx_Q} {N O v : Int} (a : TI x h N O) (h1 : 0 ≤ v) (h2 : v ≤ 16999) : TI x (cq_sI h x 33 v) N O := by
  refine ⟨?_, ?_, by rw [mm_sI, if_pos ⟨rfl, rfl⟩]; exact ⟨h1, h2⟩, fun q hq j => ?_⟩
  · rw [mm_sI, if_neg (fun e => absurd e.2 (by decide))]; exact a.1
  · rw [mm_sI, if_neg (fun e => absurd e.2 (by decide))]; exact a.2.1
  · have := tV_pos q hq
    rw [mm_sI, if_neg (fun e => by omega)]
    exact a.2.2.2 q hq j
theorem isT_f {x : Nat} {j : Int} (q : j = 2 ∨ j = 10 ∨ j = 33) : isT x x j := Or.inl ⟨rfl, q⟩
theorem isT_a {x o : Nat} {j : Int} (q : o ∈ tL) : isT x (x + o) j := Or.inr ⟨o, q, rfl⟩
theorem tL_pos : ∀ o ∈ tL, 1 ≤ o := by decide
theorem isT_nf {x : Nat} {j : Int} (h1 : j ≠ 2) (h2 : j ≠ 10) (h3 : j ≠ 33) : ¬ isT x x j := by
  rintro (⟨-, q | q | q⟩ | ⟨o, q, e⟩)
  · exact h1 q
  · exact h2 q
  · exact h3 q
  · have := tL_pos o q
    omega
theorem isT_na {x o : Nat} {j : Int} (h0 : 1 ≤ o) (h1 : o ∉ tL) : ¬ isT x (x + o) j := by
  rintro (⟨e, -⟩ | ⟨q, hq, e⟩)
  · omega
  · have : q = o := by omega
    subst this
    exact h1 hq
theorem eT.fI {x : Nat} {h h' : cx_Q} (a : eT x h h') {o : Nat} (h0 : 1 ≤ o) (h1 : o ∉ tL) : cq_I h' (x + o) = cq_I h (x + o) := funext fun j => (a.2.2.2.2 _ j (isT_na h0 h1)).1
theorem eT.fJ {x : Nat} {h h' : cx_Q} (a : eT x h h') {o : Nat} (h0 : 1 ≤ o) (h1 : o ∉ tL) : cq_J h' (x + o) = cq_J h (x + o) := funext fun j => (a.2.2.2.2 _ j (isT_na h0 h1)).2
theorem eT.xI {x : Nat} {h h' : cx_Q} (a : eT x h h') {j : Int} (h1 : j ≠ 2) (h2 : j ≠ 10) (h3 : j ≠ 33) : cq_I h' x j = cq_I h x j := (a.2.2.2.2 _ j (isT_nf h1 h2 h3)).1
theorem eT.xJ {x : Nat} {h h' : cx_Q} (a : eT x h h') {j : Int} (h1 : j ≠ 2) (h2 : j ≠ 10) (h3 : j ≠ 33) : cq_J h' x j = cq_J h x j := (a.2.2.2.2 _ j (isT_nf h1 h2 h3)).2
theorem eT_symmS {x : Nat} {h h' : cx_Q} (a : eT x h h') (H : rS h' x) : rS h x := by
  refine ⟨by rw [← a.2.1]; exact H.1, fun o h1 h2 => ?_⟩
  rw [← a.2.1, ← a.2.2.1, ← a.2.2.2.1]
  exact H.2 o h1 h2
theorem rS.sI {x : Nat} {h : cx_Q} (H : rS h x) {i : Nat} {j v : Int} : rS (cq_sI h i j v) x := H
theorem rS.sJ {x : Nat} {h : cx_Q} (H : rS h x) {i : Nat} {j : Int} {v : Int64} : rS (cq_sJ h i j v) x := H
