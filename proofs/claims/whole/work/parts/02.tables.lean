def zT : List Cond := lw_tbl.filter goodWord
theorem zin {w : Cond} (i : Nat) (h : lw_tbl[i]? = some w) (g : goodWord w = true) : w ∈ zT := List.mem_filter.mpr ⟨List.mem_of_getElem? h, g⟩
/-! ===== my machine: its tables (written by gen.py out of the names) ===== -/
def kX3_init : Nat := 0
def kX2_init : Nat := 1
def kX0_init : Nat := 2
def kX1_init : Nat := 3
def kX4_init : Nat := 4
def kX3_sheet : Nat := 5
def kX3_isSheet : Nat := 6
def kX3_isLane : Nat := 7
def kX3_blame : Nat := 8
def kX1_renew : Nat := 9
def kJ7_fill_53178 : Nat := 10
def kX4_sheet : Nat := 11
def kX4_isSheet : Nat := 12
def kX4_in : Nat := 13
def kX4_meets : Nat := 14
def kX3_put : Nat := 15
def kX1_isMissing : Nat := 16
def kX1_has : Nat := 17
def kX3_castTo : Nat := 18
def kX4_put : Nat := 19
def kX3_copy : Nat := 20
def kX4_copy : Nat := 21
def kX3_lose : Nat := 22
def kX4_lose : Nat := 23
def kX3_square : Nat := 24
def kX2_clear : Nat := 25
def kX3_keepDraft : Nat := 26
def kX2_isGreat : Nat := 27
def kX2_become : Nat := 28
def kX4_square : Nat := 29
def kX4_lay : Nat := 30
def kX4_comes : Nat := 31
def kX3_order : Nat := 32
def kX3_known : Nat := 33
def kX4_order : Nat := 34
def kX4_isSquare : Nat := 35
def kX3_at : Nat := 36
def kX2_isRow : Nat := 37
def kX2_number : Nat := 38
def kX4_at : Nat := 39
def kX4_of : Nat := 40
def kX3_drop : Nat := 41
def kX4_drop : Nat := 42
def kX3_sum : Nat := 43
def kX2_isLine : Nat := 44
def kX3_isPower : Nat := 45
def kX2_lineSum : Nat := 46
def kX2_cellOf : Nat := 47
def kX4_sum : Nat := 48
def kX4_lineOf : Nat := 49
def kX4_raised : Nat := 50
def kX3_kinds : Nat := 51
def kX2_kindBits : Nat := 52
def kX2_isPlain : Nat := 53
def kX2_isAll : Nat := 54
def kX2_oddLine : Nat := 55
def kX2_asks : Nat := 56
def kX2_isPaired : Nat := 57
def kX4_kinds : Nat := 58
def kX4_isPlain : Nat := 59
def kX4_oddOf : Nat := 60
def kX4_isPaired : Nat := 61
def kX3_odd : Nat := 62
def kX4_odd : Nat := 63
def kX3_turn : Nat := 64
def kX2_becomeTurn : Nat := 65
def kX2_afterTurn : Nat := 66
def kX4_turn : Nat := 67
def kX4_layTurn : Nat := 68
def kX4_source : Nat := 69
def kX3_form : Nat := 70
def kX2_leastTurn : Nat := 71
def kX2_compareTurns : Nat := 72
def kX4_form : Nat := 73
def kX4_formOf : Nat := 74
def kX4_compared : Nat := 75
def kX3_same : Nat := 76
def kX4_same : Nat := 77
def kX3_unlike : Nat := 78
def kX2_unlikeTurns : Nat := 79
def kX2_comesEarlier : Nat := 80
def kX4_unlike : Nat := 81
def kX3_make : Nat := 82
def kX2_becomeOdd : Nat := 83
def kX2_becomeFourfold : Nat := 84
def kX2_becomeLettered : Nat := 85
def kX2_letterAt : Nat := 86
def kX2_layLetter : Nat := 87
def kX4_make : Nat := 88
def kX4_odds : Nat := 89
def kX4_fours : Nat := 90
def kX4_ofLetter : Nat := 91
def kX3_product : Nat := 92
def kX2_becomeProduct : Nat := 93
def kX2_layBlock : Nat := 94
def kX4_product : Nat := 95
def kX3_swap : Nat := 96
def kX2_becomeSwapped : Nat := 97
def kX4_swap : Nat := 98
def kX3_turned : Nat := 99
def kX2_leastAndGreatest : Nat := 100
def kX2_becomeScaled : Nat := 101
def kX4_turned : Nat := 102
def kX3_scale : Nat := 103
def kX3_isFactor : Nat := 104
def kX4_scale : Nat := 105
def kX3_plus : Nat := 106
def kX2_becomeTogether : Nat := 107
def kX4_plus : Nat := 108
def kX3_seek : Nat := 109
def kX1_heldOf : Nat := 110
def kX0_search : Nat := 111
def kX0_planOf : Nat := 112
def kX0_hold : Nat := 113
def kX0_isFree : Nat := 114
def kX0_layFrom : Nat := 115
def kX0_keepTrial : Nat := 116
def kX0_hasRoom : Nat := 117
def kJ7_copyOf_c38d5 : Nat := 118
def kX0_packed : Nat := 119
def kX0_rest : Nat := 120
def kX0_fits : Nat := 121
def kX4_seek : Nat := 122
def kX4_seekAll : Nat := 123
def kX4_forced : Nat := 124
def kX4_sumOf : Nat := 125
def kX4_isRight : Nat := 126
def kX3_found : Nat := 127
def kX4_found : Nat := 128
def kX3_forms : Nat := 129
def kX0_isFresh : Nat := 130
def kX4_forms : Nat := 131
def kX4_isForm : Nat := 132
def kX3_take : Nat := 133
def kX0_unpack : Nat := 134
def kX4_take : Nat := 135
def kX3_place : Nat := 136
def kX0_indexOf : Nat := 137
def kX0_isPackable : Nat := 138
def kX4_place : Nat := 139
def kX3_cause : Nat := 140
def kX4_cause : Nat := 141
def kX3_causes : Nat := 142
def kX4_causes : Nat := 143
def kX3_count : Nat := 144
def kX3_squaresThere : Nat := 145
def kX3_sheetsThere : Nat := 146
def kX4_count : Nat := 147
def kX3_digest : Nat := 148
def kX3_mix : Nat := 149
def kX3_mixAll : Nat := 150
def kX4_digest : Nat := 151
def kL_law : Nat := 152
def zmt_0 : List (MethodName × ByteArray × Nat × Option FieldType × Nat × Nat) := [(yX3_init, cX3_init, 2, none, 3, 0), (yX2_init, cX2_init, 1, none, 2, 0), (yX0_init, cX0_init, 1, none, 0, 0), (yX1_init, cX1_init, 1, none, 1, 0), (yX4_init, cX4_init, 2, none, 4, 0), (yX3_sheet, cX3_sheet, 4, (some .int), 3, 3), (yX3_isSheet, cX3_isSheet, 1, (some .boolean), 3, 1), (yX3_isLane, cX3_isLane, 1, (some .boolean), 3, 1), (yX3_blame, cX3_blame, 2, (some .int), 3, 1), (yX1_renew, cX1_renew, 3, none, 1, 2), (yJ7_fill_53178, cJ7_fill_53178, 4, none, 6, 2), (yX4_sheet, cX4_sheet, 5, (some .int), 4, 3), (yX4_isSheet, cX4_isSheet, 1, (some .boolean), 4, 1), (yX4_in, cX4_in, 6, (some .boolean), 4, 3), (yX4_meets, cX4_meets, 2, (some .int), 4, 1), (yX3_put, cX3_put, 6, (some .int), 3, 4), (yX1_isMissing, cX1_isMissing, 1, (some .boolean), 1, 0), (yX1_has, cX1_has, 3, (some .boolean), 1, 2), (yX3_castTo, cX3_castTo, 2, (some .int), 3, 2), (yX4_put, cX4_put, 5, (some .int), 4, 4), (yX3_copy, cX3_copy, 8, (some .int), 3, 5), (yX4_copy, cX4_copy, 7, (some .int), 4, 5), (yX3_lose, cX3_lose, 4, (some .int), 3, 1), (yX4_lose, cX4_lose, 2, (some .int), 4, 1), (yX3_square, cX3_square, 5, (some .int), 3, 3), (yX2_clear, cX2_clear, 2, none, 2, 1), (yX3_keepDraft, cX3_keepDraft, 2, (some .int), 3, 0), (yX2_isGreat, cX2_isGreat, 3, (some .boolean), 2, 0), (yX2_become, cX2_become, 2, none, 2, 1), (yX4_square, cX4_square, 5, (some .int), 4, 3)]
def zmt_1 : List (MethodName × ByteArray × Nat × Option FieldType × Nat × Nat) := [(yX4_lay, cX4_lay, 2, none, 4, 1), (yX4_comes, cX4_comes, 3, (some .int), 4, 0), (yX3_order, cX3_order, 3, (some .int), 3, 1), (yX3_known, cX3_known, 2, (some (.object "OneSumSquares$Square")), 3, 1), (yX4_order, cX4_order, 2, (some .int), 4, 1), (yX4_isSquare, cX4_isSquare, 2, (some .boolean), 4, 1), (yX3_at, cX3_at, 5, (some .int), 3, 3), (yX2_isRow, cX2_isRow, 2, (some .boolean), 2, 1), (yX2_number, cX2_number, 3, (some .int), 2, 2), (yX4_at, cX4_at, 4, (some .int), 4, 3), (yX4_of, cX4_of, 4, (some .int), 4, 3), (yX3_drop, cX3_drop, 4, (some .int), 3, 1), (yX4_drop, cX4_drop, 3, (some .int), 4, 1), (yX3_sum, cX3_sum, 5, (some .long), 3, 3), (yX2_isLine, cX2_isLine, 2, (some .boolean), 2, 1), (yX3_isPower, cX3_isPower, 1, (some .boolean), 3, 1), (yX2_lineSum, cX2_lineSum, 11, (some .long), 2, 2), (yX2_cellOf, cX2_cellOf, 5, (some .int), 2, 2), (yX4_sum, cX4_sum, 4, (some .long), 4, 3), (yX4_lineOf, cX4_lineOf, 11, (some .long), 4, 3), (yX4_raised, cX4_raised, 3, (some .long), 4, 2), (yX3_kinds, cX3_kinds, 3, (some .int), 3, 1), (yX2_kindBits, cX2_kindBits, 3, (some .int), 2, 1), (yX2_isPlain, cX2_isPlain, 5, (some .boolean), 2, 1), (yX2_isAll, cX2_isAll, 3, (some .boolean), 2, 2), (yX2_oddLine, cX2_oddLine, 7, (some .int), 2, 2), (yX2_asks, cX2_asks, 3, (some .boolean), 2, 2), (yX2_isPaired, cX2_isPaired, 4, (some .boolean), 2, 0), (yX4_kinds, cX4_kinds, 4, (some .int), 4, 1), (yX4_isPlain, cX4_isPlain, 5, (some .boolean), 4, 1)]
def zmt_2 : List (MethodName × ByteArray × Nat × Option FieldType × Nat × Nat) := [(yX4_oddOf, cX4_oddOf, 9, (some .int), 4, 3), (yX4_isPaired, cX4_isPaired, 6, (some .boolean), 4, 1), (yX3_odd, cX3_odd, 5, (some .int), 3, 3), (yX4_odd, cX4_odd, 4, (some .int), 4, 3), (yX3_turn, cX3_turn, 4, (some .int), 3, 2), (yX2_becomeTurn, cX2_becomeTurn, 6, none, 2, 2), (yX2_afterTurn, cX2_afterTurn, 7, (some .int), 2, 3), (yX4_turn, cX4_turn, 3, (some .int), 4, 2), (yX4_layTurn, cX4_layTurn, 5, none, 4, 2), (yX4_source, cX4_source, 6, (some .int), 4, 4), (yX3_form, cX3_form, 3, (some .int), 3, 1), (yX2_leastTurn, cX2_leastTurn, 3, (some .int), 2, 0), (yX2_compareTurns, cX2_compareTurns, 8, (some .int), 2, 3), (yX4_form, cX4_form, 2, (some .int), 4, 1), (yX4_formOf, cX4_formOf, 4, (some .int), 4, 1), (yX4_compared, cX4_compared, 7, (some .int), 4, 3), (yX3_same, cX3_same, 6, (some .int), 3, 2), (yX4_same, cX4_same, 7, (some .int), 4, 2), (yX3_unlike, cX3_unlike, 3, (some .int), 3, 1), (yX2_unlikeTurns, cX2_unlikeTurns, 3, (some .int), 2, 0), (yX2_comesEarlier, cX2_comesEarlier, 3, (some .boolean), 2, 1), (yX4_unlike, cX4_unlike, 6, (some .int), 4, 1), (yX3_make, cX3_make, 2, (some .int), 3, 1), (yX2_becomeOdd, cX2_becomeOdd, 8, none, 2, 1), (yX2_becomeFourfold, cX2_becomeFourfold, 6, none, 2, 1), (yX2_becomeLettered, cX2_becomeLettered, 5, none, 2, 1), (yX2_letterAt, cX2_letterAt, 5, (some (.array .int)), 2, 3), (yX2_layLetter, cX2_layLetter, 7, none, 2, 4), (yX4_make, cX4_make, 5, (some .int), 4, 1), (yX4_odds, cX4_odds, 7, none, 4, 1)]
def zmt_3 : List (MethodName × ByteArray × Nat × Option FieldType × Nat × Nat) := [(yX4_fours, cX4_fours, 9, none, 4, 1), (yX4_ofLetter, cX4_ofLetter, 4, (some .int), 4, 2), (yX3_product, cX3_product, 5, (some .int), 3, 2), (yX2_becomeProduct, cX2_becomeProduct, 6, none, 2, 2), (yX2_layBlock, cX2_layBlock, 7, none, 2, 4), (yX4_product, cX4_product, 7, (some .int), 4, 2), (yX3_swap, cX3_swap, 4, (some .int), 3, 2), (yX2_becomeSwapped, cX2_becomeSwapped, 9, none, 2, 2), (yX4_swap, cX4_swap, 7, (some .int), 4, 2), (yX3_turned, cX3_turned, 3, (some .int), 3, 1), (yX2_leastAndGreatest, cX2_leastAndGreatest, 5, (some .int), 2, 0), (yX2_becomeScaled, cX2_becomeScaled, 6, none, 2, 3), (yX4_turned, cX4_turned, 9, (some .int), 4, 1), (yX3_scale, cX3_scale, 5, (some .int), 3, 3), (yX3_isFactor, cX3_isFactor, 1, (some .boolean), 3, 1), (yX4_scale, cX4_scale, 5, (some .int), 4, 3), (yX3_plus, cX3_plus, 5, (some .int), 3, 2), (yX2_becomeTogether, cX2_becomeTogether, 5, none, 2, 2), (yX4_plus, cX4_plus, 4, (some .int), 4, 2), (yX3_seek, cX3_seek, 6, (some .int), 3, 3), (yX1_heldOf, cX1_heldOf, 4, (some .int), 1, 1), (yX0_search, cX0_search, 4, none, 0, 3), (yX0_planOf, cX0_planOf, 1, (some (.array .int)), 0, 1), (yX0_hold, cX0_hold, 4, (some .boolean), 0, 1), (yX0_isFree, cX0_isFree, 2, (some .boolean), 0, 1), (yX0_layFrom, cX0_layFrom, 7, none, 0, 2), (yX0_keepTrial, cX0_keepTrial, 6, none, 0, 0), (yX0_hasRoom, cX0_hasRoom, 1, (some .boolean), 0, 0), (yJ7_copyOf_c38d5, cJ7_copyOf_c38d5, 3, (some (.array .long)), 6, 2), (yX0_packed, cX0_packed, 5, (some .long), 0, 1)]
def zmt_4 : List (MethodName × ByteArray × Nat × Option FieldType × Nat × Nat) := [(yX0_rest, cX0_rest, 4, (some .int), 0, 1), (yX0_fits, cX0_fits, 3, (some .boolean), 0, 2), (yX4_seek, cX4_seek, 8, (some .int), 4, 3), (yX4_seekAll, cX4_seekAll, 12, none, 4, 2), (yX4_forced, cX4_forced, 9, (some .int), 4, 3), (yX4_sumOf, cX4_sumOf, 8, (some .int), 4, 3), (yX4_isRight, cX4_isRight, 8, (some .boolean), 4, 4), (yX3_found, cX3_found, 1, (some .int), 3, 0), (yX4_found, cX4_found, 1, (some .int), 4, 0), (yX3_forms, cX3_forms, 1, (some .int), 3, 0), (yX0_isFresh, cX0_isFresh, 1, (some .boolean), 0, 0), (yX4_forms, cX4_forms, 3, (some .int), 4, 0), (yX4_isForm, cX4_isForm, 6, (some .boolean), 4, 1), (yX3_take, cX3_take, 2, (some .int), 3, 1), (yX0_unpack, cX0_unpack, 6, none, 0, 2), (yX4_take, cX4_take, 3, (some .int), 4, 1), (yX3_place, cX3_place, 3, (some .int), 3, 1), (yX0_indexOf, cX0_indexOf, 8, (some .int), 0, 1), (yX0_isPackable, cX0_isPackable, 3, (some .boolean), 0, 1), (yX4_place, cX4_place, 5, (some .int), 4, 1), (yX3_cause, cX3_cause, 1, (some .int), 3, 0), (yX4_cause, cX4_cause, 1, (some .int), 4, 0), (yX3_causes, cX3_causes, 2, (some .int), 3, 1), (yX4_causes, cX4_causes, 2, (some .int), 4, 1), (yX3_count, cX3_count, 2, (some .int), 3, 1), (yX3_squaresThere, cX3_squaresThere, 3, (some .int), 3, 0), (yX3_sheetsThere, cX3_sheetsThere, 3, (some .int), 3, 0), (yX4_count, cX4_count, 4, (some .int), 4, 1), (yX3_digest, cX3_digest, 5, (some .long), 3, 0), (yX3_mix, cX3_mix, 3, (some .long), 3, 2)]
def zmt_5 : List (MethodName × ByteArray × Nat × Option FieldType × Nat × Nat) := [(yX3_mixAll, cX3_mixAll, 7, (some .long), 3, 3), (yX4_digest, cX4_digest, 6, (some .long), 4, 0)]
def zma : List (MethodName × ByteArray × Nat × Option FieldType × Nat × Nat) := zmt_0 ++ (zmt_1 ++ (zmt_2 ++ (zmt_3 ++ (zmt_4 ++ (zmt_5)))))
def zmt : List (MethodName × ByteArray × Nat × Option FieldType × Nat × Nat) := zma ++ [(yL_law, cL_law, 4, (some .boolean), 5, 1)]
set_option maxRecDepth 20000 in
theorem zmc_X3_init : Cond.code yX3_init cX3_init 2 none ∈ zT := zin 37 (by rfl) (by rfl)
set_option maxRecDepth 20000 in
theorem zmc_X2_init : Cond.code yX2_init cX2_init 1 none ∈ zT := zin 48 (by rfl) (by rfl)
set_option maxRecDepth 20000 in
theorem zmc_X0_init : Cond.code yX0_init cX0_init 1 none ∈ zT := zin 66 (by rfl) (by rfl)
set_option maxRecDepth 20000 in
theorem zmc_X1_init : Cond.code yX1_init cX1_init 1 none ∈ zT := zin 112 (by rfl) (by rfl)
set_option maxRecDepth 20000 in
theorem zmc_X4_init : Cond.code yX4_init cX4_init 2 none ∈ zT := zin 570 (by rfl) (by rfl)
set_option maxRecDepth 20000 in
theorem zmc_X3_sheet : Cond.code yX3_sheet cX3_sheet 4 (some .int) ∈ zT := zin 162 (by rfl) (by rfl)
set_option maxRecDepth 20000 in
theorem zmc_X3_isSheet : Cond.code yX3_isSheet cX3_isSheet 1 (some .boolean) ∈ zT := zin 165 (by rfl) (by rfl)
set_option maxRecDepth 20000 in
theorem zmc_X3_isLane : Cond.code yX3_isLane cX3_isLane 1 (some .boolean) ∈ zT := zin 168 (by rfl) (by rfl)
set_option maxRecDepth 20000 in
theorem zmc_X3_blame : Cond.code yX3_blame cX3_blame 2 (some .int) ∈ zT := zin 172 (by rfl) (by rfl)
set_option maxRecDepth 20000 in
theorem zmc_X1_renew : Cond.code yX1_renew cX1_renew 3 none ∈ zT := zin 176 (by rfl) (by rfl)
set_option maxRecDepth 20000 in
theorem zmc_J7_fill_53178 : Cond.code yJ7_fill_53178 cJ7_fill_53178 4 none ∈ zT := zin 179 (by rfl) (by rfl)
set_option maxRecDepth 20000 in
theorem zmc_X4_sheet : Cond.code yX4_sheet cX4_sheet 5 (some .int) ∈ zT := zin 641 (by rfl) (by rfl)
set_option maxRecDepth 20000 in
theorem zmc_X4_isSheet : Cond.code yX4_isSheet cX4_isSheet 1 (some .boolean) ∈ zT := zin 644 (by rfl) (by rfl)
set_option maxRecDepth 20000 in
theorem zmc_X4_in : Cond.code yX4_in cX4_in 6 (some .boolean) ∈ zT := zin 648 (by rfl) (by rfl)
set_option maxRecDepth 20000 in
theorem zmc_X4_meets : Cond.code yX4_meets cX4_meets 2 (some .int) ∈ zT := zin 653 (by rfl) (by rfl)
set_option maxRecDepth 20000 in
theorem zmc_X3_put : Cond.code yX3_put cX3_put 6 (some .int) ∈ zT := zin 183 (by rfl) (by rfl)
set_option maxRecDepth 20000 in
theorem zmc_X1_isMissing : Cond.code yX1_isMissing cX1_isMissing 1 (some .boolean) ∈ zT := zin 187 (by rfl) (by rfl)
set_option maxRecDepth 20000 in
theorem zmc_X1_has : Cond.code yX1_has cX1_has 3 (some .boolean) ∈ zT := zin 191 (by rfl) (by rfl)
set_option maxRecDepth 20000 in
theorem zmc_X3_castTo : Cond.code yX3_castTo cX3_castTo 2 (some .int) ∈ zT := zin 194 (by rfl) (by rfl)
set_option maxRecDepth 20000 in
theorem zmc_X4_put : Cond.code yX4_put cX4_put 5 (some .int) ∈ zT := zin 657 (by rfl) (by rfl)
set_option maxRecDepth 20000 in
theorem zmc_X3_copy : Cond.code yX3_copy cX3_copy 8 (some .int) ∈ zT := zin 198 (by rfl) (by rfl)
set_option maxRecDepth 20000 in
theorem zmc_X4_copy : Cond.code yX4_copy cX4_copy 7 (some .int) ∈ zT := zin 661 (by rfl) (by rfl)
set_option maxRecDepth 20000 in
theorem zmc_X3_lose : Cond.code yX3_lose cX3_lose 4 (some .int) ∈ zT := zin 205 (by rfl) (by rfl)
set_option maxRecDepth 20000 in
theorem zmc_X4_lose : Cond.code yX4_lose cX4_lose 2 (some .int) ∈ zT := zin 665 (by rfl) (by rfl)
set_option maxRecDepth 20000 in
theorem zmc_X3_square : Cond.code yX3_square cX3_square 5 (some .int) ∈ zT := zin 209 (by rfl) (by rfl)
set_option maxRecDepth 20000 in
theorem zmc_X2_clear : Cond.code yX2_clear cX2_clear 2 none ∈ zT := zin 213 (by rfl) (by rfl)
set_option maxRecDepth 20000 in
theorem zmc_X3_keepDraft : Cond.code yX3_keepDraft cX3_keepDraft 2 (some .int) ∈ zT := zin 218 (by rfl) (by rfl)
set_option maxRecDepth 20000 in
theorem zmc_X2_isGreat : Cond.code yX2_isGreat cX2_isGreat 3 (some .boolean) ∈ zT := zin 222 (by rfl) (by rfl)
set_option maxRecDepth 20000 in
theorem zmc_X2_become : Cond.code yX2_become cX2_become 2 none ∈ zT := zin 228 (by rfl) (by rfl)
set_option maxRecDepth 20000 in
theorem zmc_X4_square : Cond.code yX4_square cX4_square 5 (some .int) ∈ zT := zin 669 (by rfl) (by rfl)
theorem zmc__0 : ∀ q ∈ zmt_0, Cond.code q.1 q.2.1 q.2.2.1 q.2.2.2.1 ∈ zT := List.forall_mem_cons.mpr ⟨zmc_X3_init, List.forall_mem_cons.mpr ⟨zmc_X2_init, List.forall_mem_cons.mpr ⟨zmc_X0_init, List.forall_mem_cons.mpr ⟨zmc_X1_init, List.forall_mem_cons.mpr ⟨zmc_X4_init, List.forall_mem_cons.mpr ⟨zmc_X3_sheet, List.forall_mem_cons.mpr ⟨zmc_X3_isSheet, List.forall_mem_cons.mpr ⟨zmc_X3_isLane, List.forall_mem_cons.mpr ⟨zmc_X3_blame, List.forall_mem_cons.mpr ⟨zmc_X1_renew, List.forall_mem_cons.mpr ⟨zmc_J7_fill_53178, List.forall_mem_cons.mpr ⟨zmc_X4_sheet, List.forall_mem_cons.mpr ⟨zmc_X4_isSheet, List.forall_mem_cons.mpr ⟨zmc_X4_in, List.forall_mem_cons.mpr ⟨zmc_X4_meets, List.forall_mem_cons.mpr ⟨zmc_X3_put, List.forall_mem_cons.mpr ⟨zmc_X1_isMissing, List.forall_mem_cons.mpr ⟨zmc_X1_has, List.forall_mem_cons.mpr ⟨zmc_X3_castTo, List.forall_mem_cons.mpr ⟨zmc_X4_put, List.forall_mem_cons.mpr ⟨zmc_X3_copy, List.forall_mem_cons.mpr ⟨zmc_X4_copy, List.forall_mem_cons.mpr ⟨zmc_X3_lose, List.forall_mem_cons.mpr ⟨zmc_X4_lose, List.forall_mem_cons.mpr ⟨zmc_X3_square, List.forall_mem_cons.mpr ⟨zmc_X2_clear, List.forall_mem_cons.mpr ⟨zmc_X3_keepDraft, List.forall_mem_cons.mpr ⟨zmc_X2_isGreat, List.forall_mem_cons.mpr ⟨zmc_X2_become, List.forall_mem_cons.mpr ⟨zmc_X4_square, fun _ h => absurd h List.not_mem_nil⟩⟩⟩⟩⟩⟩⟩⟩⟩⟩⟩⟩⟩⟩⟩⟩⟩⟩⟩⟩⟩⟩⟩⟩⟩⟩⟩⟩⟩⟩
set_option maxRecDepth 20000 in
theorem zmc_X4_lay : Cond.code yX4_lay cX4_lay 2 none ∈ zT := zin 674 (by rfl) (by rfl)
set_option maxRecDepth 20000 in
theorem zmc_X4_comes : Cond.code yX4_comes cX4_comes 3 (some .int) ∈ zT := zin 678 (by rfl) (by rfl)
set_option maxRecDepth 20000 in
theorem zmc_X3_order : Cond.code yX3_order cX3_order 3 (some .int) ∈ zT := zin 233 (by rfl) (by rfl)
set_option maxRecDepth 20000 in
theorem zmc_X3_known : Cond.code yX3_known cX3_known 2 (some (.object "OneSumSquares$Square")) ∈ zT := zin 237 (by rfl) (by rfl)
set_option maxRecDepth 20000 in
theorem zmc_X4_order : Cond.code yX4_order cX4_order 2 (some .int) ∈ zT := zin 684 (by rfl) (by rfl)
set_option maxRecDepth 20000 in
theorem zmc_X4_isSquare : Cond.code yX4_isSquare cX4_isSquare 2 (some .boolean) ∈ zT := zin 688 (by rfl) (by rfl)
set_option maxRecDepth 20000 in
theorem zmc_X3_at : Cond.code yX3_at cX3_at 5 (some .int) ∈ zT := zin 241 (by rfl) (by rfl)
set_option maxRecDepth 20000 in
theorem zmc_X2_isRow : Cond.code yX2_isRow cX2_isRow 2 (some .boolean) ∈ zT := zin 245 (by rfl) (by rfl)
set_option maxRecDepth 20000 in
theorem zmc_X2_number : Cond.code yX2_number cX2_number 3 (some .int) ∈ zT := zin 250 (by rfl) (by rfl)
set_option maxRecDepth 20000 in
theorem zmc_X4_at : Cond.code yX4_at cX4_at 4 (some .int) ∈ zT := zin 693 (by rfl) (by rfl)
set_option maxRecDepth 20000 in
theorem zmc_X4_of : Cond.code yX4_of cX4_of 4 (some .int) ∈ zT := zin 697 (by rfl) (by rfl)
set_option maxRecDepth 20000 in
theorem zmc_X3_drop : Cond.code yX3_drop cX3_drop 4 (some .int) ∈ zT := zin 254 (by rfl) (by rfl)
set_option maxRecDepth 20000 in
theorem zmc_X4_drop : Cond.code yX4_drop cX4_drop 3 (some .int) ∈ zT := zin 702 (by rfl) (by rfl)
set_option maxRecDepth 20000 in
theorem zmc_X3_sum : Cond.code yX3_sum cX3_sum 5 (some .long) ∈ zT := zin 258 (by rfl) (by rfl)
set_option maxRecDepth 20000 in
theorem zmc_X2_isLine : Cond.code yX2_isLine cX2_isLine 2 (some .boolean) ∈ zT := zin 262 (by rfl) (by rfl)
set_option maxRecDepth 20000 in
theorem zmc_X3_isPower : Cond.code yX3_isPower cX3_isPower 1 (some .boolean) ∈ zT := zin 265 (by rfl) (by rfl)
set_option maxRecDepth 20000 in
theorem zmc_X2_lineSum : Cond.code yX2_lineSum cX2_lineSum 11 (some .long) ∈ zT := zin 269 (by rfl) (by rfl)
set_option maxRecDepth 20000 in
theorem zmc_X2_cellOf : Cond.code yX2_cellOf cX2_cellOf 5 (some .int) ∈ zT := zin 273 (by rfl) (by rfl)
set_option maxRecDepth 20000 in
theorem zmc_X4_sum : Cond.code yX4_sum cX4_sum 4 (some .long) ∈ zT := zin 706 (by rfl) (by rfl)
set_option maxRecDepth 20000 in
theorem zmc_X4_lineOf : Cond.code yX4_lineOf cX4_lineOf 11 (some .long) ∈ zT := zin 710 (by rfl) (by rfl)
set_option maxRecDepth 20000 in
theorem zmc_X4_raised : Cond.code yX4_raised cX4_raised 3 (some .long) ∈ zT := zin 713 (by rfl) (by rfl)
set_option maxRecDepth 20000 in
theorem zmc_X3_kinds : Cond.code yX3_kinds cX3_kinds 3 (some .int) ∈ zT := zin 277 (by rfl) (by rfl)
set_option maxRecDepth 20000 in
theorem zmc_X2_kindBits : Cond.code yX2_kindBits cX2_kindBits 3 (some .int) ∈ zT := zin 281 (by rfl) (by rfl)
set_option maxRecDepth 20000 in
theorem zmc_X2_isPlain : Cond.code yX2_isPlain cX2_isPlain 5 (some .boolean) ∈ zT := zin 285 (by rfl) (by rfl)
set_option maxRecDepth 20000 in
theorem zmc_X2_isAll : Cond.code yX2_isAll cX2_isAll 3 (some .boolean) ∈ zT := zin 289 (by rfl) (by rfl)
set_option maxRecDepth 20000 in
theorem zmc_X2_oddLine : Cond.code yX2_oddLine cX2_oddLine 7 (some .int) ∈ zT := zin 293 (by rfl) (by rfl)
set_option maxRecDepth 20000 in
theorem zmc_X2_asks : Cond.code yX2_asks cX2_asks 3 (some .boolean) ∈ zT := zin 298 (by rfl) (by rfl)
set_option maxRecDepth 20000 in
theorem zmc_X2_isPaired : Cond.code yX2_isPaired cX2_isPaired 4 (some .boolean) ∈ zT := zin 302 (by rfl) (by rfl)
set_option maxRecDepth 20000 in
theorem zmc_X4_kinds : Cond.code yX4_kinds cX4_kinds 4 (some .int) ∈ zT := zin 717 (by rfl) (by rfl)
set_option maxRecDepth 20000 in
theorem zmc_X4_isPlain : Cond.code yX4_isPlain cX4_isPlain 5 (some .boolean) ∈ zT := zin 721 (by rfl) (by rfl)
theorem zmc__1 : ∀ q ∈ zmt_1, Cond.code q.1 q.2.1 q.2.2.1 q.2.2.2.1 ∈ zT := List.forall_mem_cons.mpr ⟨zmc_X4_lay, List.forall_mem_cons.mpr ⟨zmc_X4_comes, List.forall_mem_cons.mpr ⟨zmc_X3_order, List.forall_mem_cons.mpr ⟨zmc_X3_known, List.forall_mem_cons.mpr ⟨zmc_X4_order, List.forall_mem_cons.mpr ⟨zmc_X4_isSquare, List.forall_mem_cons.mpr ⟨zmc_X3_at, List.forall_mem_cons.mpr ⟨zmc_X2_isRow, List.forall_mem_cons.mpr ⟨zmc_X2_number, List.forall_mem_cons.mpr ⟨zmc_X4_at, List.forall_mem_cons.mpr ⟨zmc_X4_of, List.forall_mem_cons.mpr ⟨zmc_X3_drop, List.forall_mem_cons.mpr ⟨zmc_X4_drop, List.forall_mem_cons.mpr ⟨zmc_X3_sum, List.forall_mem_cons.mpr ⟨zmc_X2_isLine, List.forall_mem_cons.mpr ⟨zmc_X3_isPower, List.forall_mem_cons.mpr ⟨zmc_X2_lineSum, List.forall_mem_cons.mpr ⟨zmc_X2_cellOf, List.forall_mem_cons.mpr ⟨zmc_X4_sum, List.forall_mem_cons.mpr ⟨zmc_X4_lineOf, List.forall_mem_cons.mpr ⟨zmc_X4_raised, List.forall_mem_cons.mpr ⟨zmc_X3_kinds, List.forall_mem_cons.mpr ⟨zmc_X2_kindBits, List.forall_mem_cons.mpr ⟨zmc_X2_isPlain, List.forall_mem_cons.mpr ⟨zmc_X2_isAll, List.forall_mem_cons.mpr ⟨zmc_X2_oddLine, List.forall_mem_cons.mpr ⟨zmc_X2_asks, List.forall_mem_cons.mpr ⟨zmc_X2_isPaired, List.forall_mem_cons.mpr ⟨zmc_X4_kinds, List.forall_mem_cons.mpr ⟨zmc_X4_isPlain, fun _ h => absurd h List.not_mem_nil⟩⟩⟩⟩⟩⟩⟩⟩⟩⟩⟩⟩⟩⟩⟩⟩⟩⟩⟩⟩⟩⟩⟩⟩⟩⟩⟩⟩⟩⟩
set_option maxRecDepth 20000 in
theorem zmc_X4_oddOf : Cond.code yX4_oddOf cX4_oddOf 9 (some .int) ∈ zT := zin 725 (by rfl) (by rfl)
set_option maxRecDepth 20000 in
theorem zmc_X4_isPaired : Cond.code yX4_isPaired cX4_isPaired 6 (some .boolean) ∈ zT := zin 729 (by rfl) (by rfl)
set_option maxRecDepth 20000 in
theorem zmc_X3_odd : Cond.code yX3_odd cX3_odd 5 (some .int) ∈ zT := zin 306 (by rfl) (by rfl)
set_option maxRecDepth 20000 in
theorem zmc_X4_odd : Cond.code yX4_odd cX4_odd 4 (some .int) ∈ zT := zin 733 (by rfl) (by rfl)
set_option maxRecDepth 20000 in
theorem zmc_X3_turn : Cond.code yX3_turn cX3_turn 4 (some .int) ∈ zT := zin 311 (by rfl) (by rfl)
set_option maxRecDepth 20000 in
theorem zmc_X2_becomeTurn : Cond.code yX2_becomeTurn cX2_becomeTurn 6 none ∈ zT := zin 315 (by rfl) (by rfl)
set_option maxRecDepth 20000 in
theorem zmc_X2_afterTurn : Cond.code yX2_afterTurn cX2_afterTurn 7 (some .int) ∈ zT := zin 320 (by rfl) (by rfl)
set_option maxRecDepth 20000 in
theorem zmc_X4_turn : Cond.code yX4_turn cX4_turn 3 (some .int) ∈ zT := zin 737 (by rfl) (by rfl)
set_option maxRecDepth 20000 in
theorem zmc_X4_layTurn : Cond.code yX4_layTurn cX4_layTurn 5 none ∈ zT := zin 742 (by rfl) (by rfl)
set_option maxRecDepth 20000 in
theorem zmc_X4_source : Cond.code yX4_source cX4_source 6 (some .int) ∈ zT := zin 745 (by rfl) (by rfl)
set_option maxRecDepth 20000 in
theorem zmc_X3_form : Cond.code yX3_form cX3_form 3 (some .int) ∈ zT := zin 324 (by rfl) (by rfl)
set_option maxRecDepth 20000 in
theorem zmc_X2_leastTurn : Cond.code yX2_leastTurn cX2_leastTurn 3 (some .int) ∈ zT := zin 328 (by rfl) (by rfl)
set_option maxRecDepth 20000 in
theorem zmc_X2_compareTurns : Cond.code yX2_compareTurns cX2_compareTurns 8 (some .int) ∈ zT := zin 332 (by rfl) (by rfl)
set_option maxRecDepth 20000 in
theorem zmc_X4_form : Cond.code yX4_form cX4_form 2 (some .int) ∈ zT := zin 749 (by rfl) (by rfl)
set_option maxRecDepth 20000 in
theorem zmc_X4_formOf : Cond.code yX4_formOf cX4_formOf 4 (some .int) ∈ zT := zin 753 (by rfl) (by rfl)
set_option maxRecDepth 20000 in
theorem zmc_X4_compared : Cond.code yX4_compared cX4_compared 7 (some .int) ∈ zT := zin 757 (by rfl) (by rfl)
set_option maxRecDepth 20000 in
theorem zmc_X3_same : Cond.code yX3_same cX3_same 6 (some .int) ∈ zT := zin 336 (by rfl) (by rfl)
set_option maxRecDepth 20000 in
theorem zmc_X4_same : Cond.code yX4_same cX4_same 7 (some .int) ∈ zT := zin 761 (by rfl) (by rfl)
set_option maxRecDepth 20000 in
theorem zmc_X3_unlike : Cond.code yX3_unlike cX3_unlike 3 (some .int) ∈ zT := zin 341 (by rfl) (by rfl)
set_option maxRecDepth 20000 in
theorem zmc_X2_unlikeTurns : Cond.code yX2_unlikeTurns cX2_unlikeTurns 3 (some .int) ∈ zT := zin 345 (by rfl) (by rfl)
set_option maxRecDepth 20000 in
theorem zmc_X2_comesEarlier : Cond.code yX2_comesEarlier cX2_comesEarlier 3 (some .boolean) ∈ zT := zin 349 (by rfl) (by rfl)
set_option maxRecDepth 20000 in
theorem zmc_X4_unlike : Cond.code yX4_unlike cX4_unlike 6 (some .int) ∈ zT := zin 765 (by rfl) (by rfl)
set_option maxRecDepth 20000 in
theorem zmc_X3_make : Cond.code yX3_make cX3_make 2 (some .int) ∈ zT := zin 353 (by rfl) (by rfl)
set_option maxRecDepth 20000 in
theorem zmc_X2_becomeOdd : Cond.code yX2_becomeOdd cX2_becomeOdd 8 none ∈ zT := zin 357 (by rfl) (by rfl)
set_option maxRecDepth 20000 in
theorem zmc_X2_becomeFourfold : Cond.code yX2_becomeFourfold cX2_becomeFourfold 6 none ∈ zT := zin 361 (by rfl) (by rfl)
set_option maxRecDepth 20000 in
theorem zmc_X2_becomeLettered : Cond.code yX2_becomeLettered cX2_becomeLettered 5 none ∈ zT := zin 365 (by rfl) (by rfl)
set_option maxRecDepth 20000 in
theorem zmc_X2_letterAt : Cond.code yX2_letterAt cX2_letterAt 5 (some (.array .int)) ∈ zT := zin 368 (by rfl) (by rfl)
set_option maxRecDepth 20000 in
theorem zmc_X2_layLetter : Cond.code yX2_layLetter cX2_layLetter 7 none ∈ zT := zin 379 (by rfl) (by rfl)
set_option maxRecDepth 20000 in
theorem zmc_X4_make : Cond.code yX4_make cX4_make 5 (some .int) ∈ zT := zin 769 (by rfl) (by rfl)
set_option maxRecDepth 20000 in
theorem zmc_X4_odds : Cond.code yX4_odds cX4_odds 7 none ∈ zT := zin 773 (by rfl) (by rfl)
theorem zmc__2 : ∀ q ∈ zmt_2, Cond.code q.1 q.2.1 q.2.2.1 q.2.2.2.1 ∈ zT := List.forall_mem_cons.mpr ⟨zmc_X4_oddOf, List.forall_mem_cons.mpr ⟨zmc_X4_isPaired, List.forall_mem_cons.mpr ⟨zmc_X3_odd, List.forall_mem_cons.mpr ⟨zmc_X4_odd, List.forall_mem_cons.mpr ⟨zmc_X3_turn, List.forall_mem_cons.mpr ⟨zmc_X2_becomeTurn, List.forall_mem_cons.mpr ⟨zmc_X2_afterTurn, List.forall_mem_cons.mpr ⟨zmc_X4_turn, List.forall_mem_cons.mpr ⟨zmc_X4_layTurn, List.forall_mem_cons.mpr ⟨zmc_X4_source, List.forall_mem_cons.mpr ⟨zmc_X3_form, List.forall_mem_cons.mpr ⟨zmc_X2_leastTurn, List.forall_mem_cons.mpr ⟨zmc_X2_compareTurns, List.forall_mem_cons.mpr ⟨zmc_X4_form, List.forall_mem_cons.mpr ⟨zmc_X4_formOf, List.forall_mem_cons.mpr ⟨zmc_X4_compared, List.forall_mem_cons.mpr ⟨zmc_X3_same, List.forall_mem_cons.mpr ⟨zmc_X4_same, List.forall_mem_cons.mpr ⟨zmc_X3_unlike, List.forall_mem_cons.mpr ⟨zmc_X2_unlikeTurns, List.forall_mem_cons.mpr ⟨zmc_X2_comesEarlier, List.forall_mem_cons.mpr ⟨zmc_X4_unlike, List.forall_mem_cons.mpr ⟨zmc_X3_make, List.forall_mem_cons.mpr ⟨zmc_X2_becomeOdd, List.forall_mem_cons.mpr ⟨zmc_X2_becomeFourfold, List.forall_mem_cons.mpr ⟨zmc_X2_becomeLettered, List.forall_mem_cons.mpr ⟨zmc_X2_letterAt, List.forall_mem_cons.mpr ⟨zmc_X2_layLetter, List.forall_mem_cons.mpr ⟨zmc_X4_make, List.forall_mem_cons.mpr ⟨zmc_X4_odds, fun _ h => absurd h List.not_mem_nil⟩⟩⟩⟩⟩⟩⟩⟩⟩⟩⟩⟩⟩⟩⟩⟩⟩⟩⟩⟩⟩⟩⟩⟩⟩⟩⟩⟩⟩⟩
set_option maxRecDepth 20000 in
theorem zmc_X4_fours : Cond.code yX4_fours cX4_fours 9 none ∈ zT := zin 777 (by rfl) (by rfl)
set_option maxRecDepth 20000 in
theorem zmc_X4_ofLetter : Cond.code yX4_ofLetter cX4_ofLetter 4 (some .int) ∈ zT := zin 780 (by rfl) (by rfl)
set_option maxRecDepth 20000 in
theorem zmc_X3_product : Cond.code yX3_product cX3_product 5 (some .int) ∈ zT := zin 383 (by rfl) (by rfl)
set_option maxRecDepth 20000 in
theorem zmc_X2_becomeProduct : Cond.code yX2_becomeProduct cX2_becomeProduct 6 none ∈ zT := zin 387 (by rfl) (by rfl)
set_option maxRecDepth 20000 in
theorem zmc_X2_layBlock : Cond.code yX2_layBlock cX2_layBlock 7 none ∈ zT := zin 391 (by rfl) (by rfl)
set_option maxRecDepth 20000 in
theorem zmc_X4_product : Cond.code yX4_product cX4_product 7 (some .int) ∈ zT := zin 784 (by rfl) (by rfl)
set_option maxRecDepth 20000 in
theorem zmc_X3_swap : Cond.code yX3_swap cX3_swap 4 (some .int) ∈ zT := zin 395 (by rfl) (by rfl)
set_option maxRecDepth 20000 in
theorem zmc_X2_becomeSwapped : Cond.code yX2_becomeSwapped cX2_becomeSwapped 9 none ∈ zT := zin 399 (by rfl) (by rfl)
set_option maxRecDepth 20000 in
theorem zmc_X4_swap : Cond.code yX4_swap cX4_swap 7 (some .int) ∈ zT := zin 788 (by rfl) (by rfl)
set_option maxRecDepth 20000 in
theorem zmc_X3_turned : Cond.code yX3_turned cX3_turned 3 (some .int) ∈ zT := zin 403 (by rfl) (by rfl)
set_option maxRecDepth 20000 in
theorem zmc_X2_leastAndGreatest : Cond.code yX2_leastAndGreatest cX2_leastAndGreatest 5 (some .int) ∈ zT := zin 407 (by rfl) (by rfl)
set_option maxRecDepth 20000 in
theorem zmc_X2_becomeScaled : Cond.code yX2_becomeScaled cX2_becomeScaled 6 none ∈ zT := zin 417 (by rfl) (by rfl)
set_option maxRecDepth 20000 in
theorem zmc_X4_turned : Cond.code yX4_turned cX4_turned 9 (some .int) ∈ zT := zin 792 (by rfl) (by rfl)
set_option maxRecDepth 20000 in
theorem zmc_X3_scale : Cond.code yX3_scale cX3_scale 5 (some .int) ∈ zT := zin 421 (by rfl) (by rfl)
set_option maxRecDepth 20000 in
theorem zmc_X3_isFactor : Cond.code yX3_isFactor cX3_isFactor 1 (some .boolean) ∈ zT := zin 424 (by rfl) (by rfl)
set_option maxRecDepth 20000 in
theorem zmc_X4_scale : Cond.code yX4_scale cX4_scale 5 (some .int) ∈ zT := zin 796 (by rfl) (by rfl)
set_option maxRecDepth 20000 in
theorem zmc_X3_plus : Cond.code yX3_plus cX3_plus 5 (some .int) ∈ zT := zin 428 (by rfl) (by rfl)
set_option maxRecDepth 20000 in
theorem zmc_X2_becomeTogether : Cond.code yX2_becomeTogether cX2_becomeTogether 5 none ∈ zT := zin 432 (by rfl) (by rfl)
set_option maxRecDepth 20000 in
theorem zmc_X4_plus : Cond.code yX4_plus cX4_plus 4 (some .int) ∈ zT := zin 802 (by rfl) (by rfl)
set_option maxRecDepth 20000 in
theorem zmc_X3_seek : Cond.code yX3_seek cX3_seek 6 (some .int) ∈ zT := zin 436 (by rfl) (by rfl)
set_option maxRecDepth 20000 in
theorem zmc_X1_heldOf : Cond.code yX1_heldOf cX1_heldOf 4 (some .int) ∈ zT := zin 440 (by rfl) (by rfl)
set_option maxRecDepth 20000 in
theorem zmc_X0_search : Cond.code yX0_search cX0_search 4 none ∈ zT := zin 444 (by rfl) (by rfl)
set_option maxRecDepth 20000 in
theorem zmc_X0_planOf : Cond.code yX0_planOf cX0_planOf 1 (some (.array .int)) ∈ zT := zin 447 (by rfl) (by rfl)
set_option maxRecDepth 20000 in
theorem zmc_X0_hold : Cond.code yX0_hold cX0_hold 4 (some .boolean) ∈ zT := zin 458 (by rfl) (by rfl)
set_option maxRecDepth 20000 in
theorem zmc_X0_isFree : Cond.code yX0_isFree cX0_isFree 2 (some .boolean) ∈ zT := zin 462 (by rfl) (by rfl)
set_option maxRecDepth 20000 in
theorem zmc_X0_layFrom : Cond.code yX0_layFrom cX0_layFrom 7 none ∈ zT := zin 465 (by rfl) (by rfl)
set_option maxRecDepth 20000 in
theorem zmc_X0_keepTrial : Cond.code yX0_keepTrial cX0_keepTrial 6 none ∈ zT := zin 469 (by rfl) (by rfl)
set_option maxRecDepth 20000 in
theorem zmc_X0_hasRoom : Cond.code yX0_hasRoom cX0_hasRoom 1 (some .boolean) ∈ zT := zin 475 (by rfl) (by rfl)
set_option maxRecDepth 20000 in
theorem zmc_J7_copyOf_c38d5 : Cond.code yJ7_copyOf_c38d5 cJ7_copyOf_c38d5 3 (some (.array .long)) ∈ zT := zin 478 (by rfl) (by rfl)
set_option maxRecDepth 20000 in
theorem zmc_X0_packed : Cond.code yX0_packed cX0_packed 5 (some .long) ∈ zT := zin 490 (by rfl) (by rfl)
theorem zmc__3 : ∀ q ∈ zmt_3, Cond.code q.1 q.2.1 q.2.2.1 q.2.2.2.1 ∈ zT := List.forall_mem_cons.mpr ⟨zmc_X4_fours, List.forall_mem_cons.mpr ⟨zmc_X4_ofLetter, List.forall_mem_cons.mpr ⟨zmc_X3_product, List.forall_mem_cons.mpr ⟨zmc_X2_becomeProduct, List.forall_mem_cons.mpr ⟨zmc_X2_layBlock, List.forall_mem_cons.mpr ⟨zmc_X4_product, List.forall_mem_cons.mpr ⟨zmc_X3_swap, List.forall_mem_cons.mpr ⟨zmc_X2_becomeSwapped, List.forall_mem_cons.mpr ⟨zmc_X4_swap, List.forall_mem_cons.mpr ⟨zmc_X3_turned, List.forall_mem_cons.mpr ⟨zmc_X2_leastAndGreatest, List.forall_mem_cons.mpr ⟨zmc_X2_becomeScaled, List.forall_mem_cons.mpr ⟨zmc_X4_turned, List.forall_mem_cons.mpr ⟨zmc_X3_scale, List.forall_mem_cons.mpr ⟨zmc_X3_isFactor, List.forall_mem_cons.mpr ⟨zmc_X4_scale, List.forall_mem_cons.mpr ⟨zmc_X3_plus, List.forall_mem_cons.mpr ⟨zmc_X2_becomeTogether, List.forall_mem_cons.mpr ⟨zmc_X4_plus, List.forall_mem_cons.mpr ⟨zmc_X3_seek, List.forall_mem_cons.mpr ⟨zmc_X1_heldOf, List.forall_mem_cons.mpr ⟨zmc_X0_search, List.forall_mem_cons.mpr ⟨zmc_X0_planOf, List.forall_mem_cons.mpr ⟨zmc_X0_hold, List.forall_mem_cons.mpr ⟨zmc_X0_isFree, List.forall_mem_cons.mpr ⟨zmc_X0_layFrom, List.forall_mem_cons.mpr ⟨zmc_X0_keepTrial, List.forall_mem_cons.mpr ⟨zmc_X0_hasRoom, List.forall_mem_cons.mpr ⟨zmc_J7_copyOf_c38d5, List.forall_mem_cons.mpr ⟨zmc_X0_packed, fun _ h => absurd h List.not_mem_nil⟩⟩⟩⟩⟩⟩⟩⟩⟩⟩⟩⟩⟩⟩⟩⟩⟩⟩⟩⟩⟩⟩⟩⟩⟩⟩⟩⟩⟩⟩
set_option maxRecDepth 20000 in
theorem zmc_X0_rest : Cond.code yX0_rest cX0_rest 4 (some .int) ∈ zT := zin 496 (by rfl) (by rfl)
set_option maxRecDepth 20000 in
theorem zmc_X0_fits : Cond.code yX0_fits cX0_fits 3 (some .boolean) ∈ zT := zin 500 (by rfl) (by rfl)
set_option maxRecDepth 20000 in
theorem zmc_X4_seek : Cond.code yX4_seek cX4_seek 8 (some .int) ∈ zT := zin 806 (by rfl) (by rfl)
set_option maxRecDepth 20000 in
theorem zmc_X4_seekAll : Cond.code yX4_seekAll cX4_seekAll 12 none ∈ zT := zin 811 (by rfl) (by rfl)
set_option maxRecDepth 20000 in
theorem zmc_X4_forced : Cond.code yX4_forced cX4_forced 9 (some .int) ∈ zT := zin 815 (by rfl) (by rfl)
set_option maxRecDepth 20000 in
theorem zmc_X4_sumOf : Cond.code yX4_sumOf cX4_sumOf 8 (some .int) ∈ zT := zin 819 (by rfl) (by rfl)
set_option maxRecDepth 20000 in
theorem zmc_X4_isRight : Cond.code yX4_isRight cX4_isRight 8 (some .boolean) ∈ zT := zin 823 (by rfl) (by rfl)
set_option maxRecDepth 20000 in
theorem zmc_X3_found : Cond.code yX3_found cX3_found 1 (some .int) ∈ zT := zin 504 (by rfl) (by rfl)
set_option maxRecDepth 20000 in
theorem zmc_X4_found : Cond.code yX4_found cX4_found 1 (some .int) ∈ zT := zin 827 (by rfl) (by rfl)
set_option maxRecDepth 20000 in
theorem zmc_X3_forms : Cond.code yX3_forms cX3_forms 1 (some .int) ∈ zT := zin 508 (by rfl) (by rfl)
set_option maxRecDepth 20000 in
theorem zmc_X0_isFresh : Cond.code yX0_isFresh cX0_isFresh 1 (some .boolean) ∈ zT := zin 512 (by rfl) (by rfl)
set_option maxRecDepth 20000 in
theorem zmc_X4_forms : Cond.code yX4_forms cX4_forms 3 (some .int) ∈ zT := zin 831 (by rfl) (by rfl)
set_option maxRecDepth 20000 in
theorem zmc_X4_isForm : Cond.code yX4_isForm cX4_isForm 6 (some .boolean) ∈ zT := zin 835 (by rfl) (by rfl)
set_option maxRecDepth 20000 in
theorem zmc_X3_take : Cond.code yX3_take cX3_take 2 (some .int) ∈ zT := zin 516 (by rfl) (by rfl)
set_option maxRecDepth 20000 in
theorem zmc_X0_unpack : Cond.code yX0_unpack cX0_unpack 6 none ∈ zT := zin 520 (by rfl) (by rfl)
set_option maxRecDepth 20000 in
theorem zmc_X4_take : Cond.code yX4_take cX4_take 3 (some .int) ∈ zT := zin 839 (by rfl) (by rfl)
set_option maxRecDepth 20000 in
theorem zmc_X3_place : Cond.code yX3_place cX3_place 3 (some .int) ∈ zT := zin 525 (by rfl) (by rfl)
set_option maxRecDepth 20000 in
theorem zmc_X0_indexOf : Cond.code yX0_indexOf cX0_indexOf 8 (some .int) ∈ zT := zin 529 (by rfl) (by rfl)
set_option maxRecDepth 20000 in
theorem zmc_X0_isPackable : Cond.code yX0_isPackable cX0_isPackable 3 (some .boolean) ∈ zT := zin 533 (by rfl) (by rfl)
set_option maxRecDepth 20000 in
theorem zmc_X4_place : Cond.code yX4_place cX4_place 5 (some .int) ∈ zT := zin 843 (by rfl) (by rfl)
set_option maxRecDepth 20000 in
theorem zmc_X3_cause : Cond.code yX3_cause cX3_cause 1 (some .int) ∈ zT := zin 537 (by rfl) (by rfl)
set_option maxRecDepth 20000 in
theorem zmc_X4_cause : Cond.code yX4_cause cX4_cause 1 (some .int) ∈ zT := zin 847 (by rfl) (by rfl)
set_option maxRecDepth 20000 in
theorem zmc_X3_causes : Cond.code yX3_causes cX3_causes 2 (some .int) ∈ zT := zin 541 (by rfl) (by rfl)
set_option maxRecDepth 20000 in
theorem zmc_X4_causes : Cond.code yX4_causes cX4_causes 2 (some .int) ∈ zT := zin 851 (by rfl) (by rfl)
set_option maxRecDepth 20000 in
theorem zmc_X3_count : Cond.code yX3_count cX3_count 2 (some .int) ∈ zT := zin 545 (by rfl) (by rfl)
set_option maxRecDepth 20000 in
theorem zmc_X3_squaresThere : Cond.code yX3_squaresThere cX3_squaresThere 3 (some .int) ∈ zT := zin 549 (by rfl) (by rfl)
set_option maxRecDepth 20000 in
theorem zmc_X3_sheetsThere : Cond.code yX3_sheetsThere cX3_sheetsThere 3 (some .int) ∈ zT := zin 553 (by rfl) (by rfl)
set_option maxRecDepth 20000 in
theorem zmc_X4_count : Cond.code yX4_count cX4_count 4 (some .int) ∈ zT := zin 856 (by rfl) (by rfl)
set_option maxRecDepth 20000 in
theorem zmc_X3_digest : Cond.code yX3_digest cX3_digest 5 (some .long) ∈ zT := zin 557 (by rfl) (by rfl)
set_option maxRecDepth 20000 in
theorem zmc_X3_mix : Cond.code yX3_mix cX3_mix 3 (some .long) ∈ zT := zin 561 (by rfl) (by rfl)
theorem zmc__4 : ∀ q ∈ zmt_4, Cond.code q.1 q.2.1 q.2.2.1 q.2.2.2.1 ∈ zT := List.forall_mem_cons.mpr ⟨zmc_X0_rest, List.forall_mem_cons.mpr ⟨zmc_X0_fits, List.forall_mem_cons.mpr ⟨zmc_X4_seek, List.forall_mem_cons.mpr ⟨zmc_X4_seekAll, List.forall_mem_cons.mpr ⟨zmc_X4_forced, List.forall_mem_cons.mpr ⟨zmc_X4_sumOf, List.forall_mem_cons.mpr ⟨zmc_X4_isRight, List.forall_mem_cons.mpr ⟨zmc_X3_found, List.forall_mem_cons.mpr ⟨zmc_X4_found, List.forall_mem_cons.mpr ⟨zmc_X3_forms, List.forall_mem_cons.mpr ⟨zmc_X0_isFresh, List.forall_mem_cons.mpr ⟨zmc_X4_forms, List.forall_mem_cons.mpr ⟨zmc_X4_isForm, List.forall_mem_cons.mpr ⟨zmc_X3_take, List.forall_mem_cons.mpr ⟨zmc_X0_unpack, List.forall_mem_cons.mpr ⟨zmc_X4_take, List.forall_mem_cons.mpr ⟨zmc_X3_place, List.forall_mem_cons.mpr ⟨zmc_X0_indexOf, List.forall_mem_cons.mpr ⟨zmc_X0_isPackable, List.forall_mem_cons.mpr ⟨zmc_X4_place, List.forall_mem_cons.mpr ⟨zmc_X3_cause, List.forall_mem_cons.mpr ⟨zmc_X4_cause, List.forall_mem_cons.mpr ⟨zmc_X3_causes, List.forall_mem_cons.mpr ⟨zmc_X4_causes, List.forall_mem_cons.mpr ⟨zmc_X3_count, List.forall_mem_cons.mpr ⟨zmc_X3_squaresThere, List.forall_mem_cons.mpr ⟨zmc_X3_sheetsThere, List.forall_mem_cons.mpr ⟨zmc_X4_count, List.forall_mem_cons.mpr ⟨zmc_X3_digest, List.forall_mem_cons.mpr ⟨zmc_X3_mix, fun _ h => absurd h List.not_mem_nil⟩⟩⟩⟩⟩⟩⟩⟩⟩⟩⟩⟩⟩⟩⟩⟩⟩⟩⟩⟩⟩⟩⟩⟩⟩⟩⟩⟩⟩⟩
set_option maxRecDepth 20000 in
theorem zmc_X3_mixAll : Cond.code yX3_mixAll cX3_mixAll 7 (some .long) ∈ zT := zin 565 (by rfl) (by rfl)
set_option maxRecDepth 20000 in
theorem zmc_X4_digest : Cond.code yX4_digest cX4_digest 6 (some .long) ∈ zT := zin 860 (by rfl) (by rfl)
theorem zmc__5 : ∀ q ∈ zmt_5, Cond.code q.1 q.2.1 q.2.2.1 q.2.2.2.1 ∈ zT := List.forall_mem_cons.mpr ⟨zmc_X3_mixAll, List.forall_mem_cons.mpr ⟨zmc_X4_digest, fun _ h => absurd h List.not_mem_nil⟩⟩
theorem zmc : ∀ q ∈ zma, Cond.code q.1 q.2.1 q.2.2.1 q.2.2.2.1 ∈ zT := List.forall_mem_append.mpr ⟨zmc__0, List.forall_mem_append.mpr ⟨zmc__1, List.forall_mem_append.mpr ⟨zmc__2, List.forall_mem_append.mpr ⟨zmc__3, List.forall_mem_append.mpr ⟨zmc__4, zmc__5⟩⟩⟩⟩⟩
def zmp : List (Nat × Nat × Nat × Nat × Nat) := [(2, 37, 25, 36, 0), (2, 48, 26, 47, 0), (2, 66, 27, 65, 0), (2, 112, 28, 111, 0), (2, 570, 29, 569, 0), (1, 162, 25, 160, 161), (0, 165, 25, 164, 0), (0, 168, 25, 167, 0), (1, 172, 25, 171, 0), (1, 176, 28, 174, 175), (0, 179, 30, 178, 0), (1, 641, 29, 639, 640), (0, 644, 29, 643, 0), (0, 648, 29, 647, 0), (1, 653, 29, 652, 5), (1, 183, 25, 181, 182), (1, 187, 28, 185, 186), (1, 191, 28, 189, 190), (0, 194, 25, 193, 0), (1, 657, 29, 655, 656), (1, 198, 25, 196, 197), (1, 661, 29, 659, 660), (1, 205, 25, 203, 204), (1, 665, 29, 663, 664), (1, 209, 25, 207, 208), (1, 213, 26, 211, 212), (1, 218, 25, 217, 1), (1, 222, 26, 220, 221), (1, 228, 26, 226, 227), (1, 669, 29, 667, 668), (1, 674, 29, 673, 6), (1, 678, 29, 677, 7), (1, 233, 25, 231, 232), (1, 237, 25, 236, 2), (1, 684, 29, 682, 683), (1, 688, 29, 687, 8), (1, 241, 25, 239, 240), (1, 245, 26, 243, 244), (1, 250, 26, 248, 249), (1, 693, 29, 691, 692), (1, 697, 29, 696, 9), (1, 254, 25, 252, 253), (1, 702, 29, 700, 701), (1, 258, 25, 256, 257), (1, 262, 26, 260, 261), (0, 265, 25, 264, 0), (1, 269, 26, 267, 268), (1, 273, 26, 271, 272), (1, 706, 29, 704, 705), (1, 710, 29, 709, 10), (0, 713, 29, 712, 0), (1, 277, 25, 275, 276), (1, 281, 26, 279, 280), (1, 285, 26, 283, 284), (1, 289, 26, 287, 288), (1, 293, 26, 291, 292), (1, 298, 26, 296, 297), (1, 302, 26, 300, 301), (1, 717, 29, 715, 716), (1, 721, 29, 720, 11), (1, 725, 29, 724, 12), (1, 729, 29, 728, 13), (1, 306, 25, 304, 305), (1, 733, 29, 731, 732), (1, 311, 25, 309, 310), (1, 315, 26, 313, 314), (1, 320, 26, 318, 319), (1, 737, 29, 735, 736), (1, 742, 29, 741, 14), (0, 745, 29, 744, 0), (1, 324, 25, 322, 323), (1, 328, 26, 326, 327), (1, 332, 26, 330, 331), (1, 749, 29, 747, 748), (1, 753, 29, 752, 15), (1, 757, 29, 756, 16), (1, 336, 25, 334, 335), (1, 761, 29, 759, 760), (1, 341, 25, 339, 340), (1, 345, 26, 343, 344), (1, 349, 26, 347, 348), (1, 765, 29, 763, 764), (1, 353, 25, 351, 352), (1, 357, 26, 355, 356), (1, 361, 26, 359, 360), (1, 365, 26, 363, 364), (0, 368, 26, 367, 0), (1, 379, 26, 377, 378), (1, 769, 29, 767, 768), (1, 773, 29, 772, 17), (1, 777, 29, 776, 18), (0, 780, 29, 779, 0), (1, 383, 25, 381, 382), (1, 387, 26, 385, 386), (1, 391, 26, 389, 390), (1, 784, 29, 782, 783), (1, 395, 25, 393, 394), (1, 399, 26, 397, 398), (1, 788, 29, 786, 787), (1, 403, 25, 401, 402), (1, 407, 26, 405, 406), (1, 417, 26, 415, 416), (1, 792, 29, 790, 791), (1, 421, 25, 419, 420), (0, 424, 25, 423, 0), (1, 796, 29, 794, 795), (1, 428, 25, 426, 427), (1, 432, 26, 430, 431), (1, 802, 29, 800, 801), (1, 436, 25, 434, 435), (1, 440, 28, 438, 439), (1, 444, 27, 442, 443), (0, 447, 27, 446, 0), (1, 458, 27, 456, 457), (1, 462, 27, 460, 461), (0, 465, 27, 464, 0), (1, 469, 27, 467, 468), (1, 475, 27, 473, 474), (0, 478, 30, 477, 0), (0, 490, 27, 489, 0), (1, 496, 27, 494, 495), (1, 500, 27, 498, 499), (1, 806, 29, 804, 805), (1, 811, 29, 810, 19), (1, 815, 29, 814, 20), (1, 819, 29, 818, 21), (1, 823, 29, 822, 22), (1, 504, 25, 502, 503), (1, 827, 29, 825, 826), (1, 508, 25, 506, 507), (1, 512, 27, 510, 511), (1, 831, 29, 829, 830), (1, 835, 29, 834, 23), (1, 516, 25, 514, 515), (1, 520, 27, 518, 519), (1, 839, 29, 837, 838), (1, 525, 25, 523, 524), (1, 529, 27, 527, 528), (1, 533, 27, 531, 532), (1, 843, 29, 841, 842), (1, 537, 25, 535, 536), (1, 847, 29, 845, 846), (1, 541, 25, 539, 540), (1, 851, 29, 849, 850), (1, 545, 25, 543, 544), (1, 549, 25, 548, 3), (1, 553, 25, 552, 4), (1, 856, 29, 854, 855), (1, 557, 25, 555, 556), (0, 561, 25, 560, 0), (0, 565, 25, 564, 0), (1, 860, 29, 858, 859)]

def zft : List (Nat × Nat × Nat × Nat × Nat × Bool × Nat) := [(3, 11, 3, 0, 2, true, 128), (3, 17, 3, 1, 2, true, 129), (3, 22, 3, 2, 2, true, 130), (3, 26, 3, 3, 2, true, 131), (3, 29, 3, 4, 2, true, 132), (3, 36, 3, 5, 2, true, 133), (3, 40, 3, 6, 2, true, 134), (3, 43, 3, 7, 0, false, 135), (3, 47, 3, 8, 0, false, 136), (3, 50, 3, 9, 1, false, 137), (2, 9, 2, 0, 2, true, 50), (2, 15, 2, 1, 0, false, 53), (0, 12, 0, 0, 2, true, 72), (0, 18, 0, 1, 2, true, 73), (0, 22, 0, 2, 2, false, 74), (0, 26, 0, 3, 0, false, 75), (0, 30, 0, 4, 0, false, 77), (0, 33, 0, 5, 0, false, 79), (0, 36, 0, 6, 0, false, 80), (0, 39, 0, 7, 0, false, 81), (0, 42, 0, 8, 0, false, 82), (0, 45, 0, 9, 0, false, 83), (0, 51, 0, 10, 2, false, 84), (1, 9, 1, 0, 2, true, 114), (1, 15, 1, 1, 0, false, 117), (1, 19, 1, 2, 0, false, 119), (4, 7, 4, 1, 2, true, 574), (4, 13, 4, 2, 2, true, 575), (4, 16, 4, 3, 2, true, 576), (4, 19, 4, 4, 2, true, 577), (4, 22, 4, 5, 2, true, 578), (4, 25, 4, 6, 2, true, 579), (4, 28, 4, 7, 2, true, 580), (4, 31, 4, 9, 2, true, 582), (4, 35, 4, 10, 2, true, 583), (4, 39, 4, 11, 2, true, 584), (4, 43, 4, 16, 2, true, 589), (4, 46, 4, 17, 2, true, 590), (4, 49, 4, 18, 2, true, 591), (4, 52, 4, 19, 2, true, 592), (4, 55, 4, 20, 2, true, 593), (4, 58, 4, 12, 0, false, 585), (4, 62, 4, 0, 0, false, 573), (3, 74, 1, 1, 0, false, 118), (3, 81, 1, 0, 2, true, 115), (3, 94, 1, 2, 0, false, 120), (3, 101, 2, 0, 2, true, 51), (3, 110, 2, 1, 0, false, 54), (4, 83, 4, 8, 0, false, 581), (3, 188, 0, 3, 0, false, 76), (0, 79, 1, 0, 2, true, 116), (0, 99, 2, 0, 2, true, 52), (0, 125, 2, 1, 0, false, 55), (4, 167, 4, 13, 0, false, 586), (4, 170, 4, 14, 1, false, 587), (4, 174, 4, 15, 0, false, 588), (3, 192, 0, 4, 0, false, 78)]

def zlt : List (Nat × Nat × Nat × Nat × Nat × Nat) := [(5, 9, 2, 0, 0, 35), (3, 1, 4, 0, 0, 38), (2, 3, 4, 0, 0, 49), (0, 3, 4, 0, 0, 67), (1, 3, 4, 0, 0, 113), (5, 12, 2, 4, 0, 568), (4, 1, 4, 0, 0, 571), (5, 13, 1, 5, 3, 159), (3, 55, 0, 6, 1, 163), (3, 59, 0, 7, 1, 166), (3, 62, 1, 8, 1, 169), (3, 66, 1, 9, 2, 173), (1, 22, 0, 10, 2, 177), (5, 17, 1, 11, 3, 638), (4, 71, 0, 12, 1, 642), (4, 67, 0, 13, 3, 646), (4, 77, 1, 14, 1, 650), (5, 18, 1, 15, 4, 180), (3, 70, 1, 16, 0, 184), (3, 77, 1, 17, 2, 188), (3, 84, 0, 18, 2, 192), (5, 22, 1, 19, 4, 654), (5, 23, 1, 20, 5, 195), (3, 88, 5, 0, 5, 199), (5, 27, 1, 21, 5, 658), (5, 28, 1, 22, 1, 202), (5, 32, 1, 23, 1, 662), (5, 33, 1, 24, 3, 206), (3, 97, 1, 25, 1, 210), (2, 44, 0, 10, 2, 214), (3, 102, 1, 26, 0, 215), (3, 221, 1, 27, 0, 219), (3, 224, 1, 28, 1, 225), (2, 73, 5, 0, 5, 229), (5, 36, 1, 29, 3, 666), (4, 92, 1, 30, 1, 671), (4, 96, 1, 31, 0, 675), (5, 37, 1, 32, 1, 230), (3, 106, 1, 33, 1, 234), (5, 40, 1, 34, 1, 681), (4, 100, 1, 35, 1, 685), (5, 41, 1, 36, 3, 238), (3, 113, 1, 37, 1, 242), (3, 117, 1, 38, 2, 247), (5, 44, 1, 39, 3, 690), (4, 103, 1, 40, 3, 694), (5, 45, 1, 41, 1, 251), (5, 48, 1, 42, 1, 699), (5, 49, 1, 43, 3, 255), (3, 120, 1, 44, 1, 259), (3, 123, 0, 45, 1, 263), (3, 126, 1, 46, 2, 266), (2, 30, 1, 47, 2, 270), (5, 53, 1, 48, 3, 703), (4, 112, 1, 49, 3, 707), (4, 108, 0, 50, 2, 711), (5, 54, 1, 51, 1, 274), (3, 130, 1, 52, 1, 278), (2, 50, 1, 53, 1, 282), (2, 54, 1, 54, 2, 286), (2, 41, 1, 55, 2, 290), (2, 33, 1, 46, 2, 294), (2, 37, 1, 56, 2, 295), (2, 57, 1, 57, 0, 299), (5, 57, 1, 58, 1, 714), (4, 116, 1, 59, 1, 718), (4, 119, 1, 60, 3, 722), (4, 122, 1, 61, 1, 726), (5, 58, 1, 62, 3, 303), (3, 134, 1, 55, 2, 307), (5, 61, 1, 63, 3, 730), (5, 62, 1, 64, 2, 308), (3, 137, 1, 65, 2, 312), (2, 79, 1, 25, 1, 316), (2, 61, 1, 66, 3, 317), (5, 66, 1, 67, 2, 734), (4, 131, 1, 68, 2, 739), (4, 125, 0, 69, 4, 743), (5, 67, 1, 70, 1, 321), (3, 141, 1, 71, 0, 325), (2, 65, 1, 72, 3, 329), (5, 70, 1, 73, 1, 746), (4, 138, 1, 74, 1, 750), (4, 135, 1, 75, 3, 754), (5, 71, 1, 76, 2, 333), (3, 144, 1, 72, 3, 337), (5, 74, 1, 77, 2, 758), (5, 75, 1, 78, 1, 338), (3, 148, 1, 79, 0, 342), (2, 69, 1, 80, 1, 346), (5, 78, 1, 81, 1, 762), (5, 79, 1, 82, 1, 350), (3, 151, 1, 83, 1, 354), (3, 154, 1, 84, 1, 358), (3, 157, 1, 85, 1, 362), (2, 90, 0, 86, 3, 366), (2, 83, 1, 38, 2, 375), (2, 94, 1, 87, 4, 376), (5, 82, 1, 88, 1, 766), (4, 141, 1, 89, 1, 770), (4, 148, 1, 90, 1, 774), (4, 144, 0, 91, 2, 778), (5, 83, 1, 92, 2, 380), (3, 161, 1, 93, 2, 384), (2, 86, 1, 94, 4, 388), (5, 86, 1, 95, 2, 781), (5, 87, 1, 96, 2, 392), (3, 165, 1, 97, 2, 396), (5, 90, 1, 98, 2, 785), (5, 91, 1, 99, 1, 400), (3, 168, 1, 100, 0, 404), (2, 21, 6, 0, 2, 408), (2, 27, 7, 0, 2, 411), (3, 171, 1, 101, 3, 414), (5, 94, 1, 102, 1, 789), (5, 95, 1, 103, 3, 418), (3, 175, 0, 104, 1, 422), (5, 98, 1, 105, 3, 793), (5, 99, 1, 106, 2, 425), (3, 178, 1, 107, 2, 429), (5, 102, 1, 108, 2, 799), (5, 103, 1, 109, 3, 433), (3, 181, 1, 110, 1, 437), (3, 184, 1, 111, 3, 441), (0, 54, 0, 112, 1, 445), (0, 58, 1, 25, 1, 454), (0, 62, 1, 113, 1, 455), (0, 84, 1, 114, 1, 459), (0, 66, 0, 115, 2, 463), (0, 88, 1, 116, 0, 466), (0, 100, 1, 57, 0, 470), (0, 104, 1, 55, 2, 471), (0, 108, 1, 117, 0, 472), (0, 119, 0, 118, 2, 476), (6, 304, 6, 0, 2, 486), (6, 150, 5, 0, 5, 487), (0, 111, 0, 119, 1, 488), (0, 115, 1, 71, 0, 492), (0, 91, 1, 120, 1, 493), (0, 95, 1, 121, 2, 497), (5, 106, 1, 122, 3, 803), (4, 177, 1, 123, 2, 808), (4, 158, 1, 124, 3, 812), (4, 155, 1, 125, 3, 816), (4, 161, 1, 126, 4, 820), (5, 107, 1, 127, 0, 501), (5, 111, 1, 128, 0, 824), (5, 112, 1, 129, 0, 505), (3, 189, 1, 130, 0, 509), (5, 115, 1, 131, 0, 828), (4, 180, 1, 132, 1, 832), (5, 116, 1, 133, 1, 513), (3, 195, 1, 134, 2, 517), (5, 119, 1, 135, 1, 836), (5, 120, 1, 136, 1, 522), (3, 199, 1, 137, 1, 526), (0, 130, 1, 138, 1, 530), (5, 123, 1, 139, 1, 840), (5, 124, 1, 140, 0, 534), (5, 127, 1, 141, 0, 844), (5, 128, 1, 142, 1, 538), (5, 131, 1, 143, 1, 848), (5, 132, 1, 144, 1, 542), (3, 203, 1, 145, 0, 546), (3, 206, 1, 146, 0, 550), (5, 135, 1, 147, 1, 853), (5, 136, 1, 148, 0, 554), (3, 211, 0, 149, 2, 559), (3, 215, 0, 150, 3, 563), (5, 140, 1, 151, 0, 857), (3, 21, 3, 1, 0, 0), (3, 35, 3, 2, 0, 0), (0, 11, 3, 1, 0, 0), (3, 54, 3, 3, 0, 0)]

def zst : List (Nat × Nat × Nat) := [(0, 48, 0), (2, 98, 4), (2, 101, 5), (2, 104, 6), (0, 70, 1), (0, 73, 2), (0, 76, 3)]

def zct : List (Nat × Nat × Int32 × Nat) := [(4, 42, 115200, 572), (2, 19, 100000, 223), (2, 20, -100000, 224), (3, 116, 1000000, 246), (4, 107, 1000000, 698)]

def zdt : List (Nat × Nat × Int64 × Nat) := [(4, 75, 2, 649), (4, 65, 3, 645), (4, 90, 12, 670), (4, 86, -100000, 679), (4, 88, 100000, 680), (4, 81, 23, 689), (4, 129, 7, 738), (4, 151, -1000, 797), (4, 153, 1000, 798), (0, 126, -9223372036854775808, 491), (4, 165, 4, 807), (0, 128, 15, 521), (4, 183, 5, 852), (3, 209, 83, 558), (3, 219, 31, 562), (4, 185, 83, 861), (4, 187, 31, 862)]

def znt : List (Nat × Nat × Nat × Nat) := [(5, 7, 3, 33), (5, 10, 4, 566), (3, 9, 1, 41), (3, 15, 2, 43), (3, 33, 0, 62), (0, 9, 2, 68)]

def zdf : Nat → List Value
  | 0 => [.null, .null, .null, .int 0, .int 0, .int 0, .int 0, .int 0, .int 0, .int 0, .null]
  | 1 => [.null, .int 0, .int 0]
  | 2 => [.null, .int 0]
  | 3 => [.null, .null, .null, .null, .null, .null, .null, .int 0, .int 0, .int 0]
  | _ => [.int 0, .null, .null, .null, .null, .null, .null, .null, .int 0, .null, .null, .null, .int 0, .int 0, .int 0, .int 0, .null, .null, .null, .null, .null]
def zNf : Nat → Nat
  | 0 => 11
  | 1 => 3
  | 2 => 2
  | 3 => 10
  | _ => 21
def zlp : Nat → List Nat
  | 0 => [85, 87, 89, 91, 93, 95, 97, 99, 101, 103, 105]
  | 1 => [121, 123, 125]
  | 2 => [56, 58]
  | 3 => [138, 140, 142, 144, 146, 148, 150, 152, 154, 156]
  | _ => [594, 596, 598, 600, 602, 604, 606, 608, 610, 612, 614, 616, 618, 620, 622, 624, 626, 628, 630, 632, 634]
def zTT : Nat → u_T
  | 0 => TX0
  | 1 => TX1
  | 2 => TX2
  | 3 => TX3
  | _ => TX4
def zty : Nat → Nat → FieldType
  | 0 => tyX0
  | 1 => tyX1
  | 2 => tyX2
  | 3 => tyX3
  | _ => tyX4
def zrn : Nat → String
  | 0 => RX0
  | 1 => RX1
  | 2 => RX2
  | 3 => RX3
  | 4 => RX4
  | 5 => RL
  | _ => RJ7
def zsn : Nat → String
  | 0 => "PLAN_1"
  | 1 => "PLAN_2"
  | 2 => "PLAN_3"
  | 3 => "PLAN_4"
  | 4 => "LETTER_L"
  | 5 => "LETTER_U"
  | _ => "LETTER_X"
def zsv : Nat → List Int32
  | 0 => [0, -1, -1, -1]
  | 1 => [0, -1, -1, -1, 1, 0, -1, -1, 2, 0, -1, -1, 3, 1, -1, -1]
  | 2 => [0, -1, -1, -1, 1, -1, -1, -1, 2, 0, 1, -1, 3, -1, -1, -1, 6, 0, 3, -1, 4, 2, 6, -1, 5, 3, 4, -1, 7, 1, 4, -1, 8, 6, 7, -1]
  | 3 => [0, -1, -1, -1, 1, -1, -1, -1, 2, -1, -1, -1, 3, 0, 1, 2, 12, -1, -1, -1, 15, 0, 3, 12, 6, -1, -1, -1, 9, 3, 6, 12, 5, -1, -1, -1, 10, 0, 5, 15, 13, 1, 5, 9, 14, 2, 6, 10, 4, -1, -1, -1, 8, 0, 4, 12, 7, 4, 5, 6, 11, 8, 9, 10]
  | 4 => [4, 1, 2, 3]
  | 5 => [1, 4, 2, 3]
  | _ => [1, 4, 3, 2]
def znm : List (Nat × Nat × Nat) := [(3, 21, 1), (3, 35, 2), (0, 11, 1), (3, 54, 3)]
theorem zw_0 : Cond.instanceMethod objectInit ∈ zT := zin 39 (by decide +kernel) (by decide +kernel)
theorem zw_1 : Cond.code objectInit ⟨#[0xb1]⟩ 1 none ∈ zT := zin 40 (by decide +kernel) (by decide +kernel)
theorem zw_2 : Cond.native arraycopyName ∈ zT := zin 201 (by decide +kernel) (by decide +kernel)
theorem zw_3 : Cond.static arraycopyName ∈ zT := zin 200 (by decide +kernel) (by decide +kernel)
theorem zw_4 : Cond.initialized "java/lang/System" ∈ zT := zin 31 (by decide +kernel) (by decide +kernel)
theorem zw_5 : Cond.static Lib.Math.min.name ∈ zT := zin 409 (by decide +kernel) (by decide +kernel)
theorem zw_6 : Cond.initialized "java/lang/Math" ∈ zT := zin 32 (by decide +kernel) (by decide +kernel)
theorem zw_7 : Cond.code Lib.Math.min.name Lib.Math.min.code 2 (some .int) ∈ zT := zin 410 (by decide +kernel) (by decide +kernel)
theorem zw_8 : Cond.static Lib.Math.max.name ∈ zT := zin 412 (by decide +kernel) (by decide +kernel)
theorem zw_9 : Cond.code Lib.Math.max.name Lib.Math.max.code 2 (some .int) ∈ zT := zin 413 (by decide +kernel) (by decide +kernel)
theorem zw_10 : Cond.arrayClass .int ∈ zT := zin 61 (by decide +kernel) (by decide +kernel)
theorem zw_11 : Cond.arrayClass .long ∈ zT := zin 108 (by decide +kernel) (by decide +kernel)
theorem zw_12 : Cond.arrayClass .boolean ∈ zT := zin 637 (by decide +kernel) (by decide +kernel)
theorem zw_13 : Cond.instantiable RX0 11 ∈ zT := zin 63 (by decide +kernel) (by decide +kernel)
theorem zw_14 : Cond.instantiable RX1 3 ∈ zT := zin 109 (by decide +kernel) (by decide +kernel)
theorem zw_15 : Cond.instantiable RX2 2 ∈ zT := zin 45 (by decide +kernel) (by decide +kernel)
theorem zw_16 : Cond.instantiable RX3 10 ∈ zT := zin 34 (by decide +kernel) (by decide +kernel)
theorem zw_17 : Cond.instantiable RX4 21 ∈ zT := zin 567 (by decide +kernel) (by decide +kernel)
theorem zw_18 : Cond.initialized RX0 ∈ zT := zin 27 (by decide +kernel) (by decide +kernel)
theorem zw_19 : Cond.initialized RX1 ∈ zT := zin 28 (by decide +kernel) (by decide +kernel)
theorem zw_20 : Cond.initialized RX2 ∈ zT := zin 26 (by decide +kernel) (by decide +kernel)
theorem zw_21 : Cond.initialized RX3 ∈ zT := zin 25 (by decide +kernel) (by decide +kernel)
theorem zw_22 : Cond.initialized RX4 ∈ zT := zin 29 (by decide +kernel) (by decide +kernel)
