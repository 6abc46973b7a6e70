set_option maxRecDepth 20000 in
theorem ggX0_take_X10_copyRow : GoodIn wsX0_take wsX10_copyRow := goodIn_r _ [14, 15, 16, 17, 18, 19, 20, 21, 22] (by decide +kernel) (by decide +kernel)
set_option maxRecDepth 20000 in
theorem ggX1_take_X10_copyRow : GoodIn wsX1_take wsX10_copyRow := goodIn_r _ [11, 12, 13, 14, 15, 16, 17, 18, 19] (by decide +kernel) (by decide +kernel)
set_option maxRecDepth 20000 in
theorem ggX2_take_X10_copyRow : GoodIn wsX2_take wsX10_copyRow := goodIn_r _ [10, 11, 12, 13, 14, 15, 16, 17, 18] (by decide +kernel) (by decide +kernel)
set_option maxRecDepth 20000 in
theorem ggX3_fits_X10_isWithin : GoodIn wsX3_fits wsX10_isWithin := goodIn_r _ [3] (by decide +kernel) (by decide +kernel)
set_option maxRecDepth 20000 in
theorem ggX3_waterBy_X3_wetBy : GoodIn wsX3_waterBy wsX3_wetBy := goodIn_r _ [10, 1, 2, 3, 4, 5, 11, 12, 13] (by decide +kernel) (by decide +kernel)
set_option maxRecDepth 20000 in
theorem gX3_waterBy_X3_wetBy : GoodIn wsX3_waterBy (wsV RX3 33 RX3 yX3_wetBy wsX3_wetBy) := goodIn_app (goodIn_of _ (by decide +kernel)) ggX3_waterBy_X3_wetBy
set_option maxRecDepth 20000 in
theorem ggX3_take_X10_copyRow : GoodIn wsX3_take wsX10_copyRow := goodIn_r _ [6, 7, 8, 9, 10, 11, 12, 13, 14] (by decide +kernel) (by decide +kernel)
set_option maxRecDepth 20000 in
theorem ggX4_growth_X3_wetBy : GoodIn wsX4_growth wsX3_wetBy := goodIn_r _ [9, 10, 11, 12, 13, 14, 28, 29, 30] (by decide +kernel) (by decide +kernel)
set_option maxRecDepth 20000 in
theorem gX4_growth_X3_wetBy : GoodIn wsX4_growth (wsV RX4 33 RX3 yX3_wetBy wsX3_wetBy) := goodIn_app (goodIn_of _ (by decide +kernel)) ggX4_growth_X3_wetBy
set_option maxRecDepth 20000 in
theorem ggX4_take_X10_copyRow : GoodIn wsX4_take wsX10_copyRow := goodIn_r _ [9, 10, 11, 12, 13, 14, 15, 16, 17] (by decide +kernel) (by decide +kernel)
set_option maxRecDepth 20000 in
theorem ggX6_readLaw_X6_readClause : GoodIn wsX6_readLaw wsX6_readClause := goodIn_r _ [8, 9, 1, 10, 11, 12, 13, 7, 14, 15, 16, 17, 18, 19, 20, 21, 22, 23, 24, 25, 26, 27, 28, 29, 30, 31, 2, 32, 33, 34, 35, 36, 37, 38, 39, 40, 41, 42, 43, 44, 45, 46, 47, 48, 49, 50, 55, 56, 57, 58, 59, 60, 51, 52, 53, 54] (by decide +kernel) (by decide +kernel)
set_option maxRecDepth 20000 in
theorem gX6_readLaw_X6_readClause : GoodIn wsX6_readLaw (wsV RX6 19 RX6 yX6_readClause wsX6_readClause) := goodIn_app (goodIn_of _ (by decide +kernel)) ggX6_readLaw_X6_readClause
set_option maxRecDepth 20000 in
theorem ggX6_readLaw_X6_reads : GoodIn wsX6_readLaw wsX6_reads := goodIn_r _ [14, 1, 15, 16, 17, 7, 18, 19, 20, 51, 52, 53, 54] (by decide +kernel) (by decide +kernel)
set_option maxRecDepth 20000 in
theorem gX6_readLaw_X6_reads : GoodIn wsX6_readLaw (wsV RX6 31 RX6 yX6_reads wsX6_reads) := goodIn_app (goodIn_of _ (by decide +kernel)) ggX6_readLaw_X6_reads
set_option maxRecDepth 20000 in
theorem ggX6_readLaw_X6_look : GoodIn wsX6_readLaw wsX6_look := goodIn_r _ [18, 1, 19, 20, 51, 52, 53, 54] (by decide +kernel) (by decide +kernel)
set_option maxRecDepth 20000 in
theorem gX6_readLaw_X6_look : GoodIn wsX6_readLaw (wsV RX6 35 RX6 yX6_look wsX6_look) := goodIn_app (goodIn_of _ (by decide +kernel)) ggX6_readLaw_X6_look
set_option maxRecDepth 20000 in
theorem ggX6_readLaw_X6_fails : GoodIn wsX6_readLaw wsX6_fails := goodIn_r _ [31, 2, 51, 52, 53, 54] (by decide +kernel) (by decide +kernel)
set_option maxRecDepth 20000 in
theorem gX6_readLaw_X6_fails : GoodIn wsX6_readLaw (wsV RX6 39 RX6 yX6_fails wsX6_fails) := goodIn_app (goodIn_of _ (by decide +kernel)) ggX6_readLaw_X6_fails
set_option maxRecDepth 20000 in
theorem ggX6_readClause_X6_reads : GoodIn wsX6_readClause wsX6_reads := goodIn_r _ [8, 2, 9, 10, 11, 7, 12, 13, 14, 52, 53, 54, 55] (by decide +kernel) (by decide +kernel)
set_option maxRecDepth 20000 in
theorem gX6_readClause_X6_reads : GoodIn wsX6_readClause (wsV RX6 31 RX6 yX6_reads wsX6_reads) := goodIn_app (goodIn_of _ (by decide +kernel)) ggX6_readClause_X6_reads
set_option maxRecDepth 20000 in
theorem ggX6_readClause_X6_readConditions : GoodIn wsX6_readClause wsX6_readConditions := goodIn_r _ [18, 19, 2, 20, 21, 1, 9, 10, 11, 7, 12, 13, 14, 4, 5, 6, 8, 22, 23, 24, 25, 26, 27, 28, 29, 30, 31, 32, 33, 34, 35, 36, 37, 38, 39, 40, 41, 46, 47, 48, 49, 50, 51, 52, 53, 54, 55] (by decide +kernel) (by decide +kernel)
set_option maxRecDepth 20000 in
theorem gX6_readClause_X6_readConditions : GoodIn wsX6_readClause (wsV RX6 45 RX6 yX6_readConditions wsX6_readConditions) := goodIn_app (goodIn_of _ (by decide +kernel)) ggX6_readClause_X6_readConditions
set_option maxRecDepth 20000 in
theorem ggX6_readClause_X6_wants : GoodIn wsX6_readClause wsX6_wants := goodIn_r _ [45, 2, 4, 5, 6, 7, 8, 9, 10, 11, 12, 13, 14, 22, 23, 24, 25, 26, 52, 53, 54, 55] (by decide +kernel) (by decide +kernel)
set_option maxRecDepth 20000 in
theorem gX6_readClause_X6_wants : GoodIn wsX6_readClause (wsV RX6 48 RX6 yX6_wants wsX6_wants) := goodIn_app (goodIn_of _ (by decide +kernel)) ggX6_readClause_X6_wants
set_option maxRecDepth 20000 in
theorem ggX6_readClause_X6_look : GoodIn wsX6_readClause wsX6_look := goodIn_r _ [12, 2, 13, 14, 52, 53, 54, 55] (by decide +kernel) (by decide +kernel)
set_option maxRecDepth 20000 in
theorem gX6_readClause_X6_look : GoodIn wsX6_readClause (wsV RX6 35 RX6 yX6_look wsX6_look) := goodIn_app (goodIn_of _ (by decide +kernel)) ggX6_readClause_X6_look
set_option maxRecDepth 20000 in
theorem ggX6_readClause_X10_isWithin : GoodIn wsX6_readClause wsX10_isWithin := goodIn_r _ [41] (by decide +kernel) (by decide +kernel)
set_option maxRecDepth 20000 in
theorem ggX6_readClause_X6_fails : GoodIn wsX6_readClause wsX6_fails := goodIn_r _ [25, 26, 52, 53, 54, 55] (by decide +kernel) (by decide +kernel)
set_option maxRecDepth 20000 in
theorem gX6_readClause_X6_fails : GoodIn wsX6_readClause (wsV RX6 39 RX6 yX6_fails wsX6_fails) := goodIn_app (goodIn_of _ (by decide +kernel)) ggX6_readClause_X6_fails
set_option maxRecDepth 20000 in
theorem ggX6_readConditions_X6_look : GoodIn wsX6_readConditions wsX6_look := goodIn_r _ [10, 2, 11, 12, 43, 44, 45, 46] (by decide +kernel) (by decide +kernel)
set_option maxRecDepth 20000 in
theorem gX6_readConditions_X6_look : GoodIn wsX6_readConditions (wsV RX6 35 RX6 yX6_look wsX6_look) := goodIn_app (goodIn_of _ (by decide +kernel)) ggX6_readConditions_X6_look
set_option maxRecDepth 20000 in
theorem ggX6_readConditions_X6_reads : GoodIn wsX6_readConditions wsX6_reads := goodIn_r _ [16, 2, 6, 7, 8, 9, 10, 11, 12, 43, 44, 45, 46] (by decide +kernel) (by decide +kernel)
set_option maxRecDepth 20000 in
theorem gX6_readConditions_X6_reads : GoodIn wsX6_readConditions (wsV RX6 31 RX6 yX6_reads wsX6_reads) := goodIn_app (goodIn_of _ (by decide +kernel)) ggX6_readConditions_X6_reads
set_option maxRecDepth 20000 in
theorem ggX6_readConditions_X6_fails : GoodIn wsX6_readConditions wsX6_fails := goodIn_r _ [20, 21, 43, 44, 45, 46] (by decide +kernel) (by decide +kernel)
set_option maxRecDepth 20000 in
theorem gX6_readConditions_X6_fails : GoodIn wsX6_readConditions (wsV RX6 39 RX6 yX6_fails wsX6_fails) := goodIn_app (goodIn_of _ (by decide +kernel)) ggX6_readConditions_X6_fails
set_option maxRecDepth 20000 in
theorem ggX6_readClaim_X6_readAtom : GoodIn wsX6_readClaim wsX6_readAtom := goodIn_r _ [9, 10, 11, 12, 13, 14, 15, 16, 17, 8, 18, 1, 19, 20, 21, 22, 23, 24, 25, 26, 27, 28, 29, 30, 31, 32, 33, 34, 35, 36, 37, 3, 38, 39, 40, 41, 42, 43, 44, 45, 46, 47, 48, 49, 50, 51, 52, 57, 58, 59, 60, 61, 62, 63, 64, 53, 54, 55, 56] (by decide +kernel) (by decide +kernel)
set_option maxRecDepth 20000 in
theorem gX6_readClaim_X6_readAtom : GoodIn wsX6_readClaim (wsV RX6 77 RX6 yX6_readAtom wsX6_readAtom) := goodIn_app (goodIn_of _ (by decide +kernel)) ggX6_readClaim_X6_readAtom
set_option maxRecDepth 20000 in
theorem ggX6_readClaim_X6_look : GoodIn wsX6_readClaim wsX6_look := goodIn_r _ [22, 1, 23, 24, 53, 54, 55, 56] (by decide +kernel) (by decide +kernel)
set_option maxRecDepth 20000 in
theorem gX6_readClaim_X6_look : GoodIn wsX6_readClaim (wsV RX6 35 RX6 yX6_look wsX6_look) := goodIn_app (goodIn_of _ (by decide +kernel)) ggX6_readClaim_X6_look
set_option maxRecDepth 20000 in
theorem ggX6_readClaim_X6_reads : GoodIn wsX6_readClaim wsX6_reads := goodIn_r _ [18, 1, 19, 20, 21, 8, 22, 23, 24, 53, 54, 55, 56] (by decide +kernel) (by decide +kernel)
set_option maxRecDepth 20000 in
theorem gX6_readClaim_X6_reads : GoodIn wsX6_readClaim (wsV RX6 31 RX6 yX6_reads wsX6_reads) := goodIn_app (goodIn_of _ (by decide +kernel)) ggX6_readClaim_X6_reads
set_option maxRecDepth 20000 in
theorem ggX6_readClaim_X6_fails : GoodIn wsX6_readClaim wsX6_fails := goodIn_r _ [37, 3, 53, 54, 55, 56] (by decide +kernel) (by decide +kernel)
set_option maxRecDepth 20000 in
theorem gX6_readClaim_X6_fails : GoodIn wsX6_readClaim (wsV RX6 39 RX6 yX6_fails wsX6_fails) := goodIn_app (goodIn_of _ (by decide +kernel)) ggX6_readClaim_X6_fails
set_option maxRecDepth 20000 in
theorem ggX6_readAtom_X6_reads : GoodIn wsX6_readAtom wsX6_reads := goodIn_r _ [10, 11, 12, 13, 14, 9, 15, 16, 17, 55, 56, 57, 58] (by decide +kernel) (by decide +kernel)
set_option maxRecDepth 20000 in
theorem gX6_readAtom_X6_reads : GoodIn wsX6_readAtom (wsV RX6 31 RX6 yX6_reads wsX6_reads) := goodIn_app (goodIn_of _ (by decide +kernel)) ggX6_readAtom_X6_reads
set_option maxRecDepth 20000 in
theorem ggX6_readAtom_X6_readWeight : GoodIn wsX6_readAtom wsX6_readWeight := goodIn_r _ [21, 2, 11, 22, 23, 24, 25, 9, 26, 6, 7, 8, 10, 12, 13, 14, 15, 16, 17, 27, 28, 29, 30, 31, 32, 33, 34, 35, 36, 37, 38, 39, 40, 41, 42, 47, 48, 49, 50, 51, 52, 53, 54, 55, 56, 57, 58] (by decide +kernel) (by decide +kernel)
set_option maxRecDepth 20000 in
theorem gX6_readAtom_X6_readWeight : GoodIn wsX6_readAtom (wsV RX6 91 RX6 yX6_readWeight wsX6_readWeight) := goodIn_app (goodIn_of _ (by decide +kernel)) ggX6_readAtom_X6_readWeight
set_option maxRecDepth 20000 in
theorem ggX6_readAtom_X6_wants : GoodIn wsX6_readAtom wsX6_wants := goodIn_r _ [26, 11, 6, 7, 8, 9, 10, 12, 13, 14, 15, 16, 17, 27, 28, 29, 30, 31, 55, 56, 57, 58] (by decide +kernel) (by decide +kernel)
set_option maxRecDepth 20000 in
theorem gX6_readAtom_X6_wants : GoodIn wsX6_readAtom (wsV RX6 48 RX6 yX6_wants wsX6_wants) := goodIn_app (goodIn_of _ (by decide +kernel)) ggX6_readAtom_X6_wants
set_option maxRecDepth 20000 in
theorem ggX6_readWeight_X6_wants : GoodIn wsX6_readWeight wsX6_wants := goodIn_r _ [8, 2, 9, 10, 11, 7, 12, 13, 14, 15, 16, 17, 18, 19, 20, 21, 22, 23, 43, 44, 45, 46] (by decide +kernel) (by decide +kernel)
set_option maxRecDepth 20000 in
theorem gX6_readWeight_X6_wants : GoodIn wsX6_readWeight (wsV RX6 48 RX6 yX6_wants wsX6_wants) := goodIn_app (goodIn_of _ (by decide +kernel)) ggX6_readWeight_X6_wants
set_option maxRecDepth 20000 in
theorem ggX6_readWeight_X6_look : GoodIn wsX6_readWeight wsX6_look := goodIn_r _ [16, 2, 17, 18, 43, 44, 45, 46] (by decide +kernel) (by decide +kernel)
set_option maxRecDepth 20000 in
theorem gX6_readWeight_X6_look : GoodIn wsX6_readWeight (wsV RX6 35 RX6 yX6_look wsX6_look) := goodIn_app (goodIn_of _ (by decide +kernel)) ggX6_readWeight_X6_look
set_option maxRecDepth 20000 in
theorem ggX6_readWeight_X6_reads : GoodIn wsX6_readWeight wsX6_reads := goodIn_r _ [12, 2, 13, 14, 15, 7, 16, 17, 18, 43, 44, 45, 46] (by decide +kernel) (by decide +kernel)
set_option maxRecDepth 20000 in
theorem gX6_readWeight_X6_reads : GoodIn wsX6_readWeight (wsV RX6 31 RX6 yX6_reads wsX6_reads) := goodIn_app (goodIn_of _ (by decide +kernel)) ggX6_readWeight_X6_reads
set_option maxRecDepth 20000 in
theorem ggX6_readWeight_X6_fails : GoodIn wsX6_readWeight wsX6_fails := goodIn_r _ [22, 23, 43, 44, 45, 46] (by decide +kernel) (by decide +kernel)
set_option maxRecDepth 20000 in
theorem gX6_readWeight_X6_fails : GoodIn wsX6_readWeight (wsV RX6 39 RX6 yX6_fails wsX6_fails) := goodIn_app (goodIn_of _ (by decide +kernel)) ggX6_readWeight_X6_fails
set_option maxRecDepth 20000 in
theorem ggX6_reads_X6_look : GoodIn wsX6_reads wsX6_look := goodIn_r _ [6, 1, 7, 8, 9, 10, 11, 12] (by decide +kernel) (by decide +kernel)
set_option maxRecDepth 20000 in
theorem gX6_reads_X6_look : GoodIn wsX6_reads (wsV RX6 35 RX6 yX6_look wsX6_look) := goodIn_app (goodIn_of _ (by decide +kernel)) ggX6_reads_X6_look
set_option maxRecDepth 20000 in
theorem ggX6_wants_X6_reads : GoodIn wsX6_wants wsX6_reads := goodIn_r _ [6, 1, 7, 8, 9, 5, 10, 11, 12, 18, 19, 20, 21] (by decide +kernel) (by decide +kernel)
set_option maxRecDepth 20000 in
theorem gX6_wants_X6_reads : GoodIn wsX6_wants (wsV RX6 31 RX6 yX6_reads wsX6_reads) := goodIn_app (goodIn_of _ (by decide +kernel)) ggX6_wants_X6_reads
set_option maxRecDepth 20000 in
theorem ggX6_wants_X6_fails : GoodIn wsX6_wants wsX6_fails := goodIn_r _ [16, 17, 18, 19, 20, 21] (by decide +kernel) (by decide +kernel)
set_option maxRecDepth 20000 in
theorem gX6_wants_X6_fails : GoodIn wsX6_wants (wsV RX6 39 RX6 yX6_fails wsX6_fails) := goodIn_app (goodIn_of _ (by decide +kernel)) ggX6_wants_X6_fails
set_option maxRecDepth 20000 in
theorem ggX7_begin_J7_fill_53178 : GoodIn wsX7_begin wsJ7_fill_53178 := goodIn_r _ [8] (by decide +kernel) (by decide +kernel)
set_option maxRecDepth 20000 in
theorem gX7_begin_J7_fill_53178 : GoodIn wsX7_begin (va_wsS RX7 26 yJ7_fill_53178 wsJ7_fill_53178) := goodIn_app (goodIn_of _ (by decide +kernel)) ggX7_begin_J7_fill_53178
set_option maxRecDepth 20000 in
theorem ggX8_init_X3_init : GoodIn wsX8_init wsX3_init := goodIn_r _ [28, 29, 2, 3, 30, 24, 31, 32, 33, 72, 73, 74] (by decide +kernel) (by decide +kernel)
set_option maxRecDepth 20000 in
theorem ggX8_init_X4_init : GoodIn wsX8_init wsX4_init := goodIn_r _ [35, 36, 2, 3, 24, 37, 38, 39, 40, 41, 84, 85, 86, 87, 88, 89] (by decide +kernel) (by decide +kernel)
set_option maxRecDepth 20000 in
theorem ggX8_init_X0_init : GoodIn wsX8_init wsX0_init := goodIn_r _ [43, 44, 2, 3, 24, 45, 46, 47, 48, 49, 50, 51, 52, 90, 91, 92, 93, 94, 95, 96, 97, 98, 99, 100] (by decide +kernel) (by decide +kernel)
set_option maxRecDepth 20000 in
theorem ggX8_init_X2_init : GoodIn wsX8_init wsX2_init := goodIn_r _ [54, 55, 2, 3, 24, 56, 57, 58, 59, 60, 61, 101, 102, 103, 104, 105, 106, 107] (by decide +kernel) (by decide +kernel)
set_option maxRecDepth 20000 in
theorem ggX8_init_X1_init : GoodIn wsX8_init wsX1_init := goodIn_r _ [63, 64, 2, 3, 24, 65, 66, 67, 68, 69, 70, 71, 108, 109, 110, 111, 112, 113, 114, 115] (by decide +kernel) (by decide +kernel)
set_option maxRecDepth 20000 in
theorem ggX8_take_X3_take : GoodIn wsX8_take wsX3_take := goodIn_r _ [14, 15, 16, 17, 18, 19, 20, 21, 22, 23, 24, 25, 26, 27, 28, 90, 91, 92] (by decide +kernel) (by decide +kernel)
set_option maxRecDepth 20000 in
theorem gX8_take_X3_take : GoodIn wsX8_take (wsV RX8 53 RX3 yX3_take wsX3_take) := goodIn_app (goodIn_of _ (by decide +kernel)) ggX8_take_X3_take
set_option maxRecDepth 20000 in
theorem ggX8_take_X4_take : GoodIn wsX8_take wsX4_take := goodIn_r _ [33, 34, 35, 36, 37, 38, 39, 18, 19, 20, 21, 22, 23, 24, 25, 26, 27, 28, 93, 94, 95, 96, 97, 98] (by decide +kernel) (by decide +kernel)
set_option maxRecDepth 20000 in
theorem gX8_take_X4_take : GoodIn wsX8_take (wsV RX8 57 RX4 yX4_take wsX4_take) := goodIn_app (goodIn_of _ (by decide +kernel)) ggX8_take_X4_take
set_option maxRecDepth 20000 in
theorem ggX8_take_X2_take : GoodIn wsX8_take wsX2_take := goodIn_r _ [44, 45, 46, 47, 48, 49, 50, 51, 18, 19, 20, 21, 22, 23, 24, 25, 26, 27, 28, 99, 100, 101, 102, 103, 104, 105] (by decide +kernel) (by decide +kernel)
set_option maxRecDepth 20000 in
theorem gX8_take_X2_take : GoodIn wsX8_take (wsV RX8 60 RX2 yX2_take wsX2_take) := goodIn_app (goodIn_of _ (by decide +kernel)) ggX8_take_X2_take
set_option maxRecDepth 20000 in
theorem ggX8_take_X0_take : GoodIn wsX8_take wsX0_take := goodIn_r _ [56, 57, 58, 59, 60, 61, 62, 63, 64, 65, 66, 67, 18, 19, 20, 21, 22, 23, 24, 25, 26, 27, 28, 106, 107, 108, 109, 110, 111, 112, 113, 114, 115, 116] (by decide +kernel) (by decide +kernel)
set_option maxRecDepth 20000 in
theorem gX8_take_X0_take : GoodIn wsX8_take (wsV RX8 63 RX0 yX0_take wsX0_take) := goodIn_app (goodIn_of _ (by decide +kernel)) ggX8_take_X0_take
set_option maxRecDepth 20000 in
theorem ggX8_take_X1_take : GoodIn wsX8_take wsX1_take := goodIn_r _ [72, 73, 74, 75, 76, 77, 78, 79, 80, 18, 19, 20, 21, 22, 23, 24, 25, 26, 27, 28, 117, 118, 119, 120, 121, 122, 123, 124] (by decide +kernel) (by decide +kernel)
set_option maxRecDepth 20000 in
theorem gX8_take_X1_take : GoodIn wsX8_take (wsV RX8 66 RX1 yX1_take wsX1_take) := goodIn_app (goodIn_of _ (by decide +kernel)) ggX8_take_X1_take
set_option maxRecDepth 20000 in
theorem ggX8_take_X10_copyRow : GoodIn wsX8_take wsX10_copyRow := goodIn_r _ [20, 21, 22, 23, 24, 25, 26, 27, 28] (by decide +kernel) (by decide +kernel)
set_option maxRecDepth 20000 in
theorem ggX10_init_X8_init : GoodIn wsX10_init wsX8_init := goodIn_r _ [36, 37, 2, 3, 38, 39, 40, 41, 42, 14, 15, 43, 44, 45, 46, 47, 48, 49, 50, 51, 52, 18, 19, 53, 54, 55, 56, 57, 58, 59, 60, 61, 62, 63, 64, 65, 66, 67, 68, 69, 70, 71, 72, 73, 74, 75, 76, 77, 78, 79, 80, 81, 82, 83, 84, 85, 86, 87, 88, 89, 90, 91, 92, 93, 94, 95, 96, 97, 98, 99, 29, 100, 203, 204, 205, 137, 138, 139, 140, 141, 142, 143, 144, 145, 160, 161, 162, 163, 164, 165, 206, 207, 208, 209, 210, 211, 212, 213, 214, 215, 216, 217, 218, 219, 220, 221, 222, 223, 166, 167, 168, 169, 170, 171, 172, 173] (by decide +kernel) (by decide +kernel)
set_option maxRecDepth 20000 in
theorem ggX10_init_X6_init : GoodIn wsX10_init wsX6_init := goodIn_r _ [102, 103, 2, 3, 54, 104, 156, 157, 158, 159] (by decide +kernel) (by decide +kernel)
set_option maxRecDepth 20000 in
theorem ggX10_init_X4_init : GoodIn wsX10_init wsX4_init := goodIn_r _ [65, 66, 2, 3, 54, 67, 68, 69, 70, 71, 160, 161, 162, 163, 164, 165] (by decide +kernel) (by decide +kernel)
set_option maxRecDepth 20000 in
theorem ggX10_init_X1_init : GoodIn wsX10_init wsX1_init := goodIn_r _ [93, 94, 2, 3, 54, 95, 96, 97, 98, 99, 29, 100, 166, 167, 168, 169, 170, 171, 172, 173] (by decide +kernel) (by decide +kernel)
set_option maxRecDepth 20000 in
theorem ggX10_init_X7_init : GoodIn wsX10_init wsX7_init := goodIn_r _ [106, 107, 2, 3, 54, 108, 174, 175, 176, 177] (by decide +kernel) (by decide +kernel)
set_option maxRecDepth 20000 in
theorem ggX10_init_X9_init : GoodIn wsX10_init wsX9_init := goodIn_r _ [110, 111, 2, 3, 54, 112, 113, 114, 115, 116, 117, 118, 119, 120, 121, 122, 123, 124, 125, 126, 178, 179, 180, 181, 182, 183, 184, 185, 186, 187, 188, 189, 190, 191, 192, 193] (by decide +kernel) (by decide +kernel)
set_option maxRecDepth 20000 in
theorem ggX10_init_X5_init : GoodIn wsX10_init wsX5_init := goodIn_r _ [128, 129, 2, 3, 29, 130, 131, 132, 133, 54, 134, 120, 135, 136, 194, 195, 196, 197, 198, 199, 200, 201, 202] (by decide +kernel) (by decide +kernel)
set_option maxRecDepth 20000 in
theorem ggX10_rain_X10_isYear : GoodIn wsX10_rain wsX10_isYear := goodIn_r _ [7, 8, 9, 6, 10] (by decide +kernel) (by decide +kernel)
set_option maxRecDepth 20000 in
theorem gX10_rain_X10_isYear : GoodIn wsX10_rain (va_wsS RX10 65 yX10_isYear wsX10_isYear) := goodIn_app (goodIn_of _ (by decide +kernel)) ggX10_rain_X10_isYear
set_option maxRecDepth 20000 in
theorem ggX10_rain_X10_isWithin : GoodIn wsX10_rain wsX10_isWithin := goodIn_r _ [10] (by decide +kernel) (by decide +kernel)
set_option maxRecDepth 20000 in
theorem gX10_rain_X10_isWithin : GoodIn wsX10_rain (va_wsS RX10 69 yX10_isWithin wsX10_isWithin) := goodIn_app (goodIn_of _ (by decide +kernel)) ggX10_rain_X10_isWithin
set_option maxRecDepth 20000 in
theorem ggX10_rain_X3_fits : GoodIn wsX10_rain wsX3_fits := goodIn_r _ [14, 9, 6, 10] (by decide +kernel) (by decide +kernel)
set_option maxRecDepth 20000 in
theorem gX10_rain_X3_fits : GoodIn wsX10_rain (va_wsS RX10 73 yX3_fits wsX3_fits) := goodIn_app (goodIn_of _ (by decide +kernel)) ggX10_rain_X3_fits
set_option maxRecDepth 20000 in
theorem ggX10_rains_X10_isWithin : GoodIn wsX10_rains wsX10_isWithin := goodIn_r _ [9] (by decide +kernel) (by decide +kernel)
set_option maxRecDepth 20000 in
theorem gX10_rains_X10_isWithin : GoodIn wsX10_rains (va_wsS RX10 69 yX10_isWithin wsX10_isWithin) := goodIn_app (goodIn_of _ (by decide +kernel)) ggX10_rains_X10_isWithin
set_option maxRecDepth 20000 in
theorem ggX10_rains_X10_isRow : GoodIn wsX10_rains wsX10_isRow := goodIn_r _ [12, 6, 7, 8, 9] (by decide +kernel) (by decide +kernel)
set_option maxRecDepth 20000 in
theorem gX10_rains_X10_isRow : GoodIn wsX10_rains (va_wsS RX10 87 yX10_isRow wsX10_isRow) := goodIn_app (goodIn_of _ (by decide +kernel)) ggX10_rains_X10_isRow
set_option maxRecDepth 20000 in
theorem ggX10_rains_X7_refusal : GoodIn wsX10_rains wsX7_refusal := goodIn_r _ [17, 18, 19, 20, 35, 36, 37, 38] (by decide +kernel) (by decide +kernel)
set_option maxRecDepth 20000 in
theorem gX10_rains_X7_refusal : GoodIn wsX10_rains (wsV RX10 90 RX7 yX7_refusal wsX7_refusal) := goodIn_app (goodIn_of _ (by decide +kernel)) ggX10_rains_X7_refusal
set_option maxRecDepth 20000 in
theorem ggX10_rains_X3_fits : GoodIn wsX10_rains wsX3_fits := goodIn_r _ [24, 7, 8, 9] (by decide +kernel) (by decide +kernel)
set_option maxRecDepth 20000 in
theorem gX10_rains_X3_fits : GoodIn wsX10_rains (va_wsS RX10 73 yX3_fits wsX3_fits) := goodIn_app (goodIn_of _ (by decide +kernel)) ggX10_rains_X3_fits
set_option maxRecDepth 20000 in
theorem ggX10_set_X10_isWithin : GoodIn wsX10_set wsX10_isWithin := goodIn_r _ [8] (by decide +kernel) (by decide +kernel)
set_option maxRecDepth 20000 in
theorem gX10_set_X10_isWithin : GoodIn wsX10_set (va_wsS RX10 69 yX10_isWithin wsX10_isWithin) := goodIn_app (goodIn_of _ (by decide +kernel)) ggX10_set_X10_isWithin
set_option maxRecDepth 20000 in
theorem ggX10_wet_X10_isYear : GoodIn wsX10_wet wsX10_isYear := goodIn_r _ [7, 8, 9, 6, 10] (by decide +kernel) (by decide +kernel)
set_option maxRecDepth 20000 in
theorem gX10_wet_X10_isYear : GoodIn wsX10_wet (va_wsS RX10 65 yX10_isYear wsX10_isYear) := goodIn_app (goodIn_of _ (by decide +kernel)) ggX10_wet_X10_isYear
set_option maxRecDepth 20000 in
theorem ggX10_wet_X3_wetBy : GoodIn wsX10_wet wsX3_wetBy := goodIn_r _ [15, 16, 17, 18, 19, 20, 40, 41, 42] (by decide +kernel) (by decide +kernel)
set_option maxRecDepth 20000 in
theorem gX10_wet_X3_wetBy : GoodIn wsX10_wet (wsV RX10 105 RX3 yX3_wetBy wsX3_wetBy) := goodIn_app (goodIn_of _ (by decide +kernel)) ggX10_wet_X3_wetBy
set_option maxRecDepth 20000 in
theorem ggX10_water_X10_isYear : GoodIn wsX10_water wsX10_isYear := goodIn_r _ [7, 8, 9, 6, 10] (by decide +kernel) (by decide +kernel)
set_option maxRecDepth 20000 in
theorem gX10_water_X10_isYear : GoodIn wsX10_water (va_wsS RX10 65 yX10_isYear wsX10_isYear) := goodIn_app (goodIn_of _ (by decide +kernel)) ggX10_water_X10_isYear
set_option maxRecDepth 20000 in
theorem ggX10_water_X3_waterBy : GoodIn wsX10_water wsX3_waterBy := goodIn_r _ [15, 16, 17, 18, 19, 20, 21, 22, 23, 14, 24, 44, 45, 46] (by decide +kernel) (by decide +kernel)
set_option maxRecDepth 20000 in
theorem gX10_water_X3_waterBy : GoodIn wsX10_water (wsV RX10 109 RX3 yX3_waterBy wsX3_waterBy) := goodIn_app (goodIn_of _ (by decide +kernel)) ggX10_water_X3_waterBy
set_option maxRecDepth 20000 in
theorem ggX10_type_X10_isWithin : GoodIn wsX10_type wsX10_isWithin := goodIn_r _ [7] (by decide +kernel) (by decide +kernel)
set_option maxRecDepth 20000 in
theorem gX10_type_X10_isWithin : GoodIn wsX10_type (va_wsS RX10 69 yX10_isWithin wsX10_isWithin) := goodIn_app (goodIn_of _ (by decide +kernel)) ggX10_type_X10_isWithin
set_option maxRecDepth 20000 in
theorem ggX10_type_X10_byteOf : GoodIn wsX10_type wsX10_byteOf := goodIn_r _ [10] (by decide +kernel) (by decide +kernel)
set_option maxRecDepth 20000 in
theorem gX10_type_X10_byteOf : GoodIn wsX10_type (va_wsS RX10 112 yX10_byteOf wsX10_byteOf) := goodIn_app (goodIn_of _ (by decide +kernel)) ggX10_type_X10_byteOf
set_option maxRecDepth 20000 in
theorem ggX10_law_X6_readLaw : GoodIn wsX10_law wsX6_readLaw := goodIn_r _ [11, 12, 13, 14, 15, 16, 17, 10, 18, 19, 20, 21, 22, 23, 24, 25, 26, 27, 28, 29, 30, 31, 32, 33, 34, 35, 36, 37, 38, 39, 40, 41, 42, 43, 44, 45, 46, 47, 48, 49, 50, 51, 52, 53, 54, 55, 56, 57, 58, 59, 60, 89, 90, 91, 92, 102, 103, 104, 105, 106, 107] (by decide +kernel) (by decide +kernel)
set_option maxRecDepth 20000 in
theorem gX10_law_X6_readLaw : GoodIn wsX10_law (wsV RX10 122 RX6 yX6_readLaw wsX6_readLaw) := goodIn_app (goodIn_of _ (by decide +kernel)) ggX10_law_X6_readLaw
set_option maxRecDepth 20000 in
theorem ggX10_law_X4_take : GoodIn wsX10_law wsX4_take := goodIn_r _ [65, 66, 67, 68, 69, 70, 71, 72, 55, 73, 74, 51, 52, 53, 75, 76, 77, 78, 102, 103, 104, 105, 106, 107] (by decide +kernel) (by decide +kernel)
set_option maxRecDepth 20000 in
theorem gX10_law_X4_take : GoodIn wsX10_law (wsV RX10 129 RX4 yX4_take wsX4_take) := goodIn_app (goodIn_of _ (by decide +kernel)) ggX10_law_X4_take
set_option maxRecDepth 20000 in
theorem ggX10_grows_X10_isYear : GoodIn wsX10_grows wsX10_isYear := goodIn_r _ [7, 8, 9, 6, 10] (by decide +kernel) (by decide +kernel)
set_option maxRecDepth 20000 in
theorem gX10_grows_X10_isYear : GoodIn wsX10_grows (va_wsS RX10 65 yX10_isYear wsX10_isYear) := goodIn_app (goodIn_of _ (by decide +kernel)) ggX10_grows_X10_isYear
set_option maxRecDepth 20000 in
theorem ggX10_grows_X4_growth : GoodIn wsX10_grows wsX4_growth := goodIn_r _ [15, 16, 17, 18, 19, 20, 21, 22, 23, 24, 25, 26, 27, 28, 29, 30, 31, 32, 14, 33, 34, 35, 36, 37, 38, 39, 40, 41, 61, 62, 63, 64, 65, 66, 67, 68, 69] (by decide +kernel) (by decide +kernel)
set_option maxRecDepth 20000 in
theorem gX10_grows_X4_growth : GoodIn wsX10_grows (wsV RX10 136 RX4 yX4_growth wsX4_growth) := goodIn_app (goodIn_of _ (by decide +kernel)) ggX10_grows_X4_growth
set_option maxRecDepth 20000 in
theorem ggX10_learn_X10_isRow : GoodIn wsX10_learn wsX10_isRow := goodIn_r _ [6, 7, 8, 5, 9] (by decide +kernel) (by decide +kernel)
set_option maxRecDepth 20000 in
theorem gX10_learn_X10_isRow : GoodIn wsX10_learn (va_wsS RX10 87 yX10_isRow wsX10_isRow) := goodIn_app (goodIn_of _ (by decide +kernel)) ggX10_learn_X10_isRow
set_option maxRecDepth 20000 in
theorem ggX10_learn_X10_isWithin : GoodIn wsX10_learn wsX10_isWithin := goodIn_r _ [9] (by decide +kernel) (by decide +kernel)
set_option maxRecDepth 20000 in
theorem gX10_learn_X10_isWithin : GoodIn wsX10_learn (va_wsS RX10 69 yX10_isWithin wsX10_isWithin) := goodIn_app (goodIn_of _ (by decide +kernel)) ggX10_learn_X10_isWithin
set_option maxRecDepth 20000 in
theorem ggX10_learn_X7_refusal : GoodIn wsX10_learn wsX7_refusal := goodIn_r _ [14, 15, 16, 17, 51, 52, 53, 54] (by decide +kernel) (by decide +kernel)
set_option maxRecDepth 20000 in
theorem gX10_learn_X7_refusal : GoodIn wsX10_learn (wsV RX10 90 RX7 yX7_refusal wsX7_refusal) := goodIn_app (goodIn_of _ (by decide +kernel)) ggX10_learn_X7_refusal
set_option maxRecDepth 20000 in
theorem ggX10_learn_X10_isYear : GoodIn wsX10_learn wsX10_isYear := goodIn_r _ [20, 7, 8, 5, 9] (by decide +kernel) (by decide +kernel)
set_option maxRecDepth 20000 in
theorem gX10_learn_X10_isYear : GoodIn wsX10_learn (va_wsS RX10 65 yX10_isYear wsX10_isYear) := goodIn_app (goodIn_of _ (by decide +kernel)) ggX10_learn_X10_isYear
set_option maxRecDepth 20000 in
theorem ggX10_make_X10_isCandle : GoodIn wsX10_make wsX10_isCandle := goodIn_r _ [12, 13, 14, 11, 15] (by decide +kernel) (by decide +kernel)
set_option maxRecDepth 20000 in
theorem gX10_make_X10_isCandle : GoodIn wsX10_make (va_wsS RX10 144 yX10_isCandle wsX10_isCandle) := goodIn_app (goodIn_of _ (by decide +kernel)) ggX10_make_X10_isCandle
set_option maxRecDepth 20000 in
theorem ggX10_truth_X10_isThing : GoodIn wsX10_truth wsX10_isThing := goodIn_r _ [9, 1, 2, 10, 11, 12, 8, 13, 14, 15, 16, 23, 24, 25, 26, 27, 28, 29, 30, 31, 32, 33, 34, 35, 36, 37, 38, 39, 40, 41, 42, 43, 44, 45, 46, 47, 48, 49, 50, 51, 52] (by decide +kernel) (by decide +kernel)
set_option maxRecDepth 20000 in
theorem gX10_truth_X10_isThing : GoodIn wsX10_truth (wsV RX10 170 RX10 yX10_isThing wsX10_isThing) := goodIn_app (goodIn_of _ (by decide +kernel)) ggX10_truth_X10_isThing
set_option maxRecDepth 20000 in
theorem ggX10_put_X10_isCandle : GoodIn wsX10_put wsX10_isCandle := goodIn_r _ [9, 10, 11, 8, 12] (by decide +kernel) (by decide +kernel)
set_option maxRecDepth 20000 in
theorem gX10_put_X10_isCandle : GoodIn wsX10_put (va_wsS RX10 144 yX10_isCandle wsX10_isCandle) := goodIn_app (goodIn_of _ (by decide +kernel)) ggX10_put_X10_isCandle
set_option maxRecDepth 20000 in
theorem ggX10_put_X10_isWithin : GoodIn wsX10_put wsX10_isWithin := goodIn_r _ [12] (by decide +kernel) (by decide +kernel)
set_option maxRecDepth 20000 in
theorem gX10_put_X10_isWithin : GoodIn wsX10_put (va_wsS RX10 69 yX10_isWithin wsX10_isWithin) := goodIn_app (goodIn_of _ (by decide +kernel)) ggX10_put_X10_isWithin
set_option maxRecDepth 20000 in
theorem ggX10_put_X0_add : GoodIn wsX10_put wsX0_add := goodIn_r _ [17, 18, 19, 20, 21, 41, 42, 43, 44, 45, 46, 47, 48, 49, 50, 51] (by decide +kernel) (by decide +kernel)
set_option maxRecDepth 20000 in
theorem gX10_put_X0_add : GoodIn wsX10_put (wsV RX10 183 RX0 yX0_add wsX0_add) := goodIn_app (goodIn_of _ (by decide +kernel)) ggX10_put_X0_add
set_option maxRecDepth 20000 in
theorem ggX10_cut_X10_isThing : GoodIn wsX10_cut wsX10_isThing := goodIn_r _ [9, 1, 2, 10, 11, 12, 8, 13, 14, 15, 16, 49, 50, 51, 52, 53, 54, 55, 56, 57, 58, 59, 60, 61, 62, 63, 64, 65, 66, 67, 68, 69, 70, 71, 72, 73, 74, 75, 76, 77, 78] (by decide +kernel) (by decide +kernel)
set_option maxRecDepth 20000 in
theorem gX10_cut_X10_isThing : GoodIn wsX10_cut (wsV RX10 170 RX10 yX10_isThing wsX10_isThing) := goodIn_app (goodIn_of _ (by decide +kernel)) ggX10_cut_X10_isThing
set_option maxRecDepth 20000 in
theorem ggX10_thing_X10_isThing : GoodIn wsX10_thing wsX10_isThing := goodIn_r _ [9, 1, 2, 10, 11, 12, 8, 13, 14, 15, 16, 17, 18, 19, 20, 21, 22, 23, 24, 25, 26, 27, 28, 29, 30, 31, 32, 33, 34, 35, 36, 37, 38, 39, 40, 41, 42, 43, 44, 45, 46] (by decide +kernel) (by decide +kernel)
set_option maxRecDepth 20000 in
theorem gX10_thing_X10_isThing : GoodIn wsX10_thing (wsV RX10 170 RX10 yX10_isThing wsX10_isThing) := goodIn_app (goodIn_of _ (by decide +kernel)) ggX10_thing_X10_isThing
set_option maxRecDepth 20000 in
theorem ggX10_thing_X10_isWithin : GoodIn wsX10_thing wsX10_isWithin := goodIn_r _ [16] (by decide +kernel) (by decide +kernel)
set_option maxRecDepth 20000 in
theorem gX10_thing_X10_isWithin : GoodIn wsX10_thing (va_wsS RX10 69 yX10_isWithin wsX10_isWithin) := goodIn_app (goodIn_of _ (by decide +kernel)) ggX10_thing_X10_isWithin
set_option maxRecDepth 20000 in
theorem ggX10_most_X10_isCandle : GoodIn wsX10_most wsX10_isCandle := goodIn_r _ [8, 9, 10, 7, 11] (by decide +kernel) (by decide +kernel)
set_option maxRecDepth 20000 in
theorem gX10_most_X10_isCandle : GoodIn wsX10_most (va_wsS RX10 144 yX10_isCandle wsX10_isCandle) := goodIn_app (goodIn_of _ (by decide +kernel)) ggX10_most_X10_isCandle
set_option maxRecDepth 20000 in
theorem ggX10_most_X10_isWithin : GoodIn wsX10_most wsX10_isWithin := goodIn_r _ [11] (by decide +kernel) (by decide +kernel)
set_option maxRecDepth 20000 in
theorem gX10_most_X10_isWithin : GoodIn wsX10_most (va_wsS RX10 69 yX10_isWithin wsX10_isWithin) := goodIn_app (goodIn_of _ (by decide +kernel)) ggX10_most_X10_isWithin
set_option maxRecDepth 20000 in
theorem ggX10_stretch_X10_isThing : GoodIn wsX10_stretch wsX10_isThing := goodIn_r _ [9, 1, 2, 10, 11, 12, 8, 13, 14, 15, 16, 35, 36, 37, 38, 39, 40, 41, 42, 43, 44, 45, 46, 47, 48, 49, 50, 51, 52, 53, 54, 55, 56, 57, 58, 59, 60, 61, 62, 63, 64] (by decide +kernel) (by decide +kernel)
set_option maxRecDepth 20000 in
theorem gX10_stretch_X10_isThing : GoodIn wsX10_stretch (wsV RX10 170 RX10 yX10_isThing wsX10_isThing) := goodIn_app (goodIn_of _ (by decide +kernel)) ggX10_stretch_X10_isThing
set_option maxRecDepth 20000 in
theorem ggX10_date_X10_isThing : GoodIn wsX10_date wsX10_isThing := goodIn_r _ [10, 1, 2, 11, 12, 13, 9, 14, 15, 16, 17, 39, 40, 41, 42, 43, 44, 45, 46, 47, 48, 49, 50, 51, 52, 53, 54, 55, 56, 57, 65, 66, 67, 68, 69, 70, 71, 72, 73, 74, 75] (by decide +kernel) (by decide +kernel)
set_option maxRecDepth 20000 in
theorem gX10_date_X10_isThing : GoodIn wsX10_date (wsV RX10 170 RX10 yX10_isThing wsX10_isThing) := goodIn_app (goodIn_of _ (by decide +kernel)) ggX10_date_X10_isThing
set_option maxRecDepth 20000 in
theorem ggX10_date_X10_isYear : GoodIn wsX10_date wsX10_isYear := goodIn_r _ [20, 15, 16, 9, 17] (by decide +kernel) (by decide +kernel)
set_option maxRecDepth 20000 in
theorem gX10_date_X10_isYear : GoodIn wsX10_date (va_wsS RX10 65 yX10_isYear wsX10_isYear) := goodIn_app (goodIn_of _ (by decide +kernel)) ggX10_date_X10_isYear
set_option maxRecDepth 20000 in
theorem ggX10_date_X10_isWithin : GoodIn wsX10_date wsX10_isWithin := goodIn_r _ [17] (by decide +kernel) (by decide +kernel)
set_option maxRecDepth 20000 in
theorem gX10_date_X10_isWithin : GoodIn wsX10_date (va_wsS RX10 69 yX10_isWithin wsX10_isWithin) := goodIn_app (goodIn_of _ (by decide +kernel)) ggX10_date_X10_isWithin
set_option maxRecDepth 20000 in
theorem ggX10_throwOut_X10_isWithin : GoodIn wsX10_throwOut wsX10_isWithin := goodIn_r _ [10] (by decide +kernel) (by decide +kernel)
set_option maxRecDepth 20000 in
theorem gX10_throwOut_X10_isWithin : GoodIn wsX10_throwOut (va_wsS RX10 69 yX10_isWithin wsX10_isWithin) := goodIn_app (goodIn_of _ (by decide +kernel)) ggX10_throwOut_X10_isWithin
set_option maxRecDepth 20000 in
theorem ggX10_count_X2_thrown : GoodIn wsX10_count wsX2_thrown := goodIn_r _ [12, 13, 14, 45, 46, 47, 48, 49, 50, 51] (by decide +kernel) (by decide +kernel)
set_option maxRecDepth 20000 in
theorem gX10_count_X2_thrown : GoodIn wsX10_count (wsV RX10 221 RX2 yX2_thrown wsX2_thrown) := goodIn_app (goodIn_of _ (by decide +kernel)) ggX10_count_X2_thrown
set_option maxRecDepth 20000 in
theorem ggX10_count_X0_places : GoodIn wsX10_count wsX0_places := goodIn_r _ [19, 20, 21, 22, 23, 18, 24, 25, 52, 53, 54, 55, 56, 57, 58, 59, 60, 61, 62] (by decide +kernel) (by decide +kernel)
set_option maxRecDepth 20000 in
theorem gX10_count_X0_places : GoodIn wsX10_count (wsV RX10 231 RX0 yX0_places wsX0_places) := goodIn_app (goodIn_of _ (by decide +kernel)) ggX10_count_X0_places
set_option maxRecDepth 20000 in
theorem ggX10_ways_X10_isCandle : GoodIn wsX10_ways wsX10_isCandle := goodIn_r _ [9, 10, 11, 8, 12] (by decide +kernel) (by decide +kernel)
set_option maxRecDepth 20000 in
theorem gX10_ways_X10_isCandle : GoodIn wsX10_ways (va_wsS RX10 144 yX10_isCandle wsX10_isCandle) := goodIn_app (goodIn_of _ (by decide +kernel)) ggX10_ways_X10_isCandle
set_option maxRecDepth 20000 in
theorem ggX10_ways_X0_places : GoodIn wsX10_ways wsX0_places := goodIn_r _ [17, 18, 19, 20, 21, 16, 22, 23, 163, 164, 165, 166, 167, 168, 169, 170, 171, 172, 173] (by decide +kernel) (by decide +kernel)
set_option maxRecDepth 20000 in
theorem gX10_ways_X0_places : GoodIn wsX10_ways (wsV RX10 231 RX0 yX0_places wsX0_places) := goodIn_app (goodIn_of _ (by decide +kernel)) ggX10_ways_X0_places
set_option maxRecDepth 20000 in
theorem ggX10_ends_X10_isThing : GoodIn wsX10_ends wsX10_isThing := goodIn_r _ [9, 1, 2, 10, 11, 12, 8, 13, 14, 15, 16, 139, 140, 141, 142, 143, 144, 145, 146, 147, 148, 149, 150, 151, 152, 153, 154, 155, 156, 157, 174, 175, 176, 177, 178, 179, 180, 181, 182, 183, 184] (by decide +kernel) (by decide +kernel)
set_option maxRecDepth 20000 in
theorem gX10_ends_X10_isThing : GoodIn wsX10_ends (wsV RX10 170 RX10 yX10_isThing wsX10_isThing) := goodIn_app (goodIn_of _ (by decide +kernel)) ggX10_ends_X10_isThing
set_option maxRecDepth 20000 in
theorem ggX10_ends_X10_isWithin : GoodIn wsX10_ends wsX10_isWithin := goodIn_r _ [16] (by decide +kernel) (by decide +kernel)
set_option maxRecDepth 20000 in
theorem gX10_ends_X10_isWithin : GoodIn wsX10_ends (va_wsS RX10 69 yX10_isWithin wsX10_isWithin) := goodIn_app (goodIn_of _ (by decide +kernel)) ggX10_ends_X10_isWithin
set_option maxRecDepth 20000 in
theorem ggX10_odds_X10_isThing : GoodIn wsX10_odds wsX10_isThing := goodIn_r _ [11, 2, 3, 12, 13, 14, 10, 15, 16, 17, 18, 150, 151, 152, 153, 154, 155, 156, 157, 158, 159, 160, 161, 162, 163, 164, 165, 166, 167, 168, 185, 186, 187, 188, 189, 190, 191, 192, 193, 194, 195] (by decide +kernel) (by decide +kernel)
set_option maxRecDepth 20000 in
theorem gX10_odds_X10_isThing : GoodIn wsX10_odds (wsV RX10 170 RX10 yX10_isThing wsX10_isThing) := goodIn_app (goodIn_of _ (by decide +kernel)) ggX10_odds_X10_isThing
set_option maxRecDepth 20000 in
theorem ggX10_odds_X10_isYear : GoodIn wsX10_odds wsX10_isYear := goodIn_r _ [21, 16, 17, 10, 18] (by decide +kernel) (by decide +kernel)
set_option maxRecDepth 20000 in
theorem gX10_odds_X10_isYear : GoodIn wsX10_odds (va_wsS RX10 65 yX10_isYear wsX10_isYear) := goodIn_app (goodIn_of _ (by decide +kernel)) ggX10_odds_X10_isYear
set_option maxRecDepth 20000 in
theorem ggX10_odds_X10_isWithin : GoodIn wsX10_odds wsX10_isWithin := goodIn_r _ [18] (by decide +kernel) (by decide +kernel)
set_option maxRecDepth 20000 in
theorem gX10_odds_X10_isWithin : GoodIn wsX10_odds (va_wsS RX10 69 yX10_isWithin wsX10_isWithin) := goodIn_app (goodIn_of _ (by decide +kernel)) ggX10_odds_X10_isWithin
set_option maxRecDepth 20000 in
theorem ggX10_span_X10_isPair : GoodIn wsX10_span wsX10_isPair := goodIn_r _ [9, 10, 11, 12, 8, 13, 1, 2, 14, 15, 16, 17, 18, 19, 20, 150, 151, 152, 153, 154, 155, 156, 157, 158, 159, 160, 161, 162, 163, 164, 165, 166, 167, 168, 185, 186, 187, 188, 189, 190, 191, 192, 193, 194, 195] (by decide +kernel) (by decide +kernel)
set_option maxRecDepth 20000 in
theorem gX10_span_X10_isPair : GoodIn wsX10_span (wsV RX10 262 RX10 yX10_isPair wsX10_isPair) := goodIn_app (goodIn_of _ (by decide +kernel)) ggX10_span_X10_isPair
set_option maxRecDepth 20000 in
theorem ggX10_span_X10_isWithin : GoodIn wsX10_span wsX10_isWithin := goodIn_r _ [20] (by decide +kernel) (by decide +kernel)
set_option maxRecDepth 20000 in
theorem gX10_span_X10_isWithin : GoodIn wsX10_span (va_wsS RX10 69 yX10_isWithin wsX10_isWithin) := goodIn_app (goodIn_of _ (by decide +kernel)) ggX10_span_X10_isWithin
set_option maxRecDepth 20000 in
theorem ggX10_apart_X10_isPair : GoodIn wsX10_apart wsX10_isPair := goodIn_r _ [12, 13, 14, 15, 11, 16, 2, 3, 17, 18, 19, 20, 21, 22, 23, 162, 163, 164, 165, 166, 167, 168, 169, 170, 171, 172, 173, 174, 175, 176, 177, 178, 179, 180, 197, 198, 199, 200, 201, 202, 203, 204, 205, 206, 207] (by decide +kernel) (by decide +kernel)
set_option maxRecDepth 20000 in
theorem gX10_apart_X10_isPair : GoodIn wsX10_apart (wsV RX10 262 RX10 yX10_isPair wsX10_isPair) := goodIn_app (goodIn_of _ (by decide +kernel)) ggX10_apart_X10_isPair
set_option maxRecDepth 20000 in
theorem ggX10_apart_X10_isYear : GoodIn wsX10_apart wsX10_isYear := goodIn_r _ [26, 21, 22, 11, 23] (by decide +kernel) (by decide +kernel)
set_option maxRecDepth 20000 in
theorem gX10_apart_X10_isYear : GoodIn wsX10_apart (va_wsS RX10 65 yX10_isYear wsX10_isYear) := goodIn_app (goodIn_of _ (by decide +kernel)) ggX10_apart_X10_isYear
set_option maxRecDepth 20000 in
theorem ggX10_apart_X10_isWithin : GoodIn wsX10_apart wsX10_isWithin := goodIn_r _ [23] (by decide +kernel) (by decide +kernel)
set_option maxRecDepth 20000 in
theorem gX10_apart_X10_isWithin : GoodIn wsX10_apart (va_wsS RX10 69 yX10_isWithin wsX10_isWithin) := goodIn_app (goodIn_of _ (by decide +kernel)) ggX10_apart_X10_isWithin
set_option maxRecDepth 20000 in
theorem ggX10_next_X10_isCandle : GoodIn wsX10_next wsX10_isCandle := goodIn_r _ [12, 13, 14, 11, 15] (by decide +kernel) (by decide +kernel)
set_option maxRecDepth 20000 in
theorem gX10_next_X10_isCandle : GoodIn wsX10_next (va_wsS RX10 144 yX10_isCandle wsX10_isCandle) := goodIn_app (goodIn_of _ (by decide +kernel)) ggX10_next_X10_isCandle
set_option maxRecDepth 20000 in
theorem ggX10_next_X10_isWithin : GoodIn wsX10_next wsX10_isWithin := goodIn_r _ [15] (by decide +kernel) (by decide +kernel)
set_option maxRecDepth 20000 in
theorem gX10_next_X10_isWithin : GoodIn wsX10_next (va_wsS RX10 69 yX10_isWithin wsX10_isWithin) := goodIn_app (goodIn_of _ (by decide +kernel)) ggX10_next_X10_isWithin
set_option maxRecDepth 20000 in
theorem ggX10_next_X0_places : GoodIn wsX10_next wsX0_places := goodIn_r _ [20, 21, 22, 23, 24, 19, 25, 26, 181, 182, 183, 184, 185, 186, 187, 188, 189, 190, 191] (by decide +kernel) (by decide +kernel)
set_option maxRecDepth 20000 in
theorem gX10_next_X0_places : GoodIn wsX10_next (wsV RX10 231 RX0 yX0_places wsX0_places) := goodIn_app (goodIn_of _ (by decide +kernel)) ggX10_next_X0_places
set_option maxRecDepth 20000 in
theorem ggX10_mustGo_X10_isCandle : GoodIn wsX10_mustGo wsX10_isCandle := goodIn_r _ [7, 8, 9, 6, 10] (by decide +kernel) (by decide +kernel)
set_option maxRecDepth 20000 in
theorem gX10_mustGo_X10_isCandle : GoodIn wsX10_mustGo (va_wsS RX10 144 yX10_isCandle wsX10_isCandle) := goodIn_app (goodIn_of _ (by decide +kernel)) ggX10_mustGo_X10_isCandle
set_option maxRecDepth 20000 in
theorem ggX10_mustGo_X0_places : GoodIn wsX10_mustGo wsX0_places := goodIn_r _ [15, 16, 17, 18, 19, 14, 20, 21, 135, 136, 137, 138, 139, 140, 141, 142, 143, 144, 145] (by decide +kernel) (by decide +kernel)
set_option maxRecDepth 20000 in
theorem gX10_mustGo_X0_places : GoodIn wsX10_mustGo (wsV RX10 231 RX0 yX0_places wsX0_places) := goodIn_app (goodIn_of _ (by decide +kernel)) ggX10_mustGo_X0_places
set_option maxRecDepth 20000 in
theorem ggX10_leans_X10_isWithin : GoodIn wsX10_leans wsX10_isWithin := goodIn_r _ [9] (by decide +kernel) (by decide +kernel)
set_option maxRecDepth 20000 in
theorem gX10_leans_X10_isWithin : GoodIn wsX10_leans (va_wsS RX10 69 yX10_isWithin wsX10_isWithin) := goodIn_app (goodIn_of _ (by decide +kernel)) ggX10_leans_X10_isWithin
set_option maxRecDepth 20000 in
theorem ggX10_leans_X10_isThing : GoodIn wsX10_leans wsX10_isThing := goodIn_r _ [13, 1, 5, 14, 15, 16, 8, 17, 6, 7, 9, 141, 142, 143, 144, 145, 146, 147, 148, 149, 150, 151, 152, 153, 154, 155, 156, 157, 158, 159, 167, 168, 169, 170, 171, 172, 173, 174, 175, 176, 177] (by decide +kernel) (by decide +kernel)
set_option maxRecDepth 20000 in
theorem gX10_leans_X10_isThing : GoodIn wsX10_leans (wsV RX10 170 RX10 yX10_isThing wsX10_isThing) := goodIn_app (goodIn_of _ (by decide +kernel)) ggX10_leans_X10_isThing
set_option maxRecDepth 20000 in
theorem ggX10_judge_X10_isCandle : GoodIn wsX10_judge wsX10_isCandle := goodIn_r _ [9, 10, 11, 8, 12] (by decide +kernel) (by decide +kernel)
set_option maxRecDepth 20000 in
theorem gX10_judge_X10_isCandle : GoodIn wsX10_judge (va_wsS RX10 144 yX10_isCandle wsX10_isCandle) := goodIn_app (goodIn_of _ (by decide +kernel)) ggX10_judge_X10_isCandle
set_option maxRecDepth 20000 in
theorem ggX10_judge_X10_isRow : GoodIn wsX10_judge wsX10_isRow := goodIn_r _ [15, 10, 11, 8, 12] (by decide +kernel) (by decide +kernel)
set_option maxRecDepth 20000 in
theorem gX10_judge_X10_isRow : GoodIn wsX10_judge (va_wsS RX10 87 yX10_isRow wsX10_isRow) := goodIn_app (goodIn_of _ (by decide +kernel)) ggX10_judge_X10_isRow
set_option maxRecDepth 20000 in
theorem ggX10_judge_X0_places : GoodIn wsX10_judge wsX0_places := goodIn_r _ [20, 21, 22, 23, 24, 19, 25, 26, 187, 188, 189, 190, 191, 192, 193, 194, 195, 196, 197] (by decide +kernel) (by decide +kernel)
set_option maxRecDepth 20000 in
theorem gX10_judge_X0_places : GoodIn wsX10_judge (wsV RX10 231 RX0 yX0_places wsX0_places) := goodIn_app (goodIn_of _ (by decide +kernel)) ggX10_judge_X0_places
set_option maxRecDepth 20000 in
theorem ggX10_judge_X7_refusal : GoodIn wsX10_judge wsX7_refusal := goodIn_r _ [31, 32, 33, 34, 167, 168, 169, 170] (by decide +kernel) (by decide +kernel)
set_option maxRecDepth 20000 in
theorem gX10_judge_X7_refusal : GoodIn wsX10_judge (wsV RX10 90 RX7 yX7_refusal wsX7_refusal) := goodIn_app (goodIn_of _ (by decide +kernel)) ggX10_judge_X7_refusal
set_option maxRecDepth 20000 in
theorem ggX10_oneYear_X10_isThing : GoodIn wsX10_oneYear wsX10_isThing := goodIn_r _ [11, 2, 3, 12, 13, 14, 10, 15, 16, 17, 18, 151, 152, 153, 154, 155, 156, 157, 158, 159, 160, 161, 162, 163, 164, 165, 166, 167, 168, 169, 186, 187, 188, 189, 190, 191, 192, 193, 194, 195, 196] (by decide +kernel) (by decide +kernel)
set_option maxRecDepth 20000 in
theorem gX10_oneYear_X10_isThing : GoodIn wsX10_oneYear (wsV RX10 170 RX10 yX10_isThing wsX10_isThing) := goodIn_app (goodIn_of _ (by decide +kernel)) ggX10_oneYear_X10_isThing
set_option maxRecDepth 20000 in
theorem ggX10_oneYear_X10_isWithin : GoodIn wsX10_oneYear wsX10_isWithin := goodIn_r _ [18] (by decide +kernel) (by decide +kernel)
set_option maxRecDepth 20000 in
theorem gX10_oneYear_X10_isWithin : GoodIn wsX10_oneYear (va_wsS RX10 69 yX10_isWithin wsX10_isWithin) := goodIn_app (goodIn_of _ (by decide +kernel)) ggX10_oneYear_X10_isWithin
set_option maxRecDepth 20000 in
theorem ggX10_tie_X10_isWithin : GoodIn wsX10_tie wsX10_isWithin := goodIn_r _ [12] (by decide +kernel) (by decide +kernel)
set_option maxRecDepth 20000 in
theorem gX10_tie_X10_isWithin : GoodIn wsX10_tie (va_wsS RX10 69 yX10_isWithin wsX10_isWithin) := goodIn_app (goodIn_of _ (by decide +kernel)) ggX10_tie_X10_isWithin
set_option maxRecDepth 20000 in
theorem ggX10_tie_X0_places : GoodIn wsX10_tie wsX0_places := goodIn_r _ [17, 18, 19, 20, 21, 16, 22, 23, 175, 176, 177, 178, 179, 180, 181, 182, 183, 184, 185] (by decide +kernel) (by decide +kernel)
set_option maxRecDepth 20000 in
theorem gX10_tie_X0_places : GoodIn wsX10_tie (wsV RX10 231 RX0 yX0_places wsX0_places) := goodIn_app (goodIn_of _ (by decide +kernel)) ggX10_tie_X0_places
set_option maxRecDepth 20000 in
theorem ggX10_claim_X6_readClaim : GoodIn wsX10_claim wsX6_readClaim := goodIn_r _ [11, 12, 13, 14, 15, 16, 17, 18, 10, 19, 20, 21, 22, 23, 24, 25, 26, 27, 28, 29, 30, 31, 32, 33, 34, 35, 36, 37, 38, 39, 40, 41, 42, 43, 44, 45, 46, 47, 48, 49, 50, 51, 52, 53, 54, 55, 56, 57, 58, 59, 60, 61, 62, 93, 94, 95, 96, 106, 107, 108, 109, 110, 111, 112, 113] (by decide +kernel) (by decide +kernel)
set_option maxRecDepth 20000 in
theorem gX10_claim_X6_readClaim : GoodIn wsX10_claim (wsV RX10 327 RX6 yX6_readClaim wsX6_readClaim) := goodIn_app (goodIn_of _ (by decide +kernel)) ggX10_claim_X6_readClaim
set_option maxRecDepth 20000 in
theorem ggX10_claim_X1_take : GoodIn wsX10_claim wsX1_take := goodIn_r _ [67, 68, 69, 70, 71, 72, 73, 74, 75, 76, 57, 77, 78, 53, 54, 55, 79, 80, 81, 82, 106, 107, 108, 109, 110, 111, 112, 113] (by decide +kernel) (by decide +kernel)
set_option maxRecDepth 20000 in
theorem gX10_claim_X1_take : GoodIn wsX10_claim (wsV RX10 335 RX1 yX1_take wsX1_take) := goodIn_app (goodIn_of _ (by decide +kernel)) ggX10_claim_X1_take
set_option maxRecDepth 20000 in
theorem ggX10_chance_X10_isClaim : GoodIn wsX10_chance wsX10_isClaim := goodIn_r _ [13, 2, 14, 15, 16, 12, 17, 224, 225, 226, 227, 228, 229, 230, 231, 232, 233, 234, 235, 236, 237, 238, 239, 240, 241, 242] (by decide +kernel) (by decide +kernel)
set_option maxRecDepth 20000 in
theorem gX10_chance_X10_isClaim : GoodIn wsX10_chance (wsV RX10 338 RX10 yX10_isClaim wsX10_isClaim) := goodIn_app (goodIn_of _ (by decide +kernel)) ggX10_chance_X10_isClaim
set_option maxRecDepth 20000 in
theorem ggX10_chance_X10_isCandle : GoodIn wsX10_chance wsX10_isCandle := goodIn_r _ [20, 15, 16, 12, 17] (by decide +kernel) (by decide +kernel)
set_option maxRecDepth 20000 in
theorem gX10_chance_X10_isCandle : GoodIn wsX10_chance (va_wsS RX10 144 yX10_isCandle wsX10_isCandle) := goodIn_app (goodIn_of _ (by decide +kernel)) ggX10_chance_X10_isCandle
set_option maxRecDepth 20000 in
theorem ggX10_chance_X10_isWithin : GoodIn wsX10_chance wsX10_isWithin := goodIn_r _ [17] (by decide +kernel) (by decide +kernel)
set_option maxRecDepth 20000 in
theorem gX10_chance_X10_isWithin : GoodIn wsX10_chance (va_wsS RX10 69 yX10_isWithin wsX10_isWithin) := goodIn_app (goodIn_of _ (by decide +kernel)) ggX10_chance_X10_isWithin
set_option maxRecDepth 20000 in
theorem ggX10_chance_X0_places : GoodIn wsX10_chance wsX0_places := goodIn_r _ [25, 26, 27, 28, 29, 24, 30, 31, 259, 260, 261, 262, 263, 264, 265, 266, 267, 268, 269] (by decide +kernel) (by decide +kernel)
set_option maxRecDepth 20000 in
theorem gX10_chance_X0_places : GoodIn wsX10_chance (wsV RX10 231 RX0 yX0_places wsX0_places) := goodIn_app (goodIn_of _ (by decide +kernel)) ggX10_chance_X0_places
set_option maxRecDepth 20000 in
theorem ggX10_holds_X10_isClaim : GoodIn wsX10_holds wsX10_isClaim := goodIn_r _ [9, 1, 10, 11, 12, 8, 13, 48, 49, 50, 51, 52, 53, 54, 55, 56, 57, 58, 59, 60, 61, 62, 63, 64, 65, 66] (by decide +kernel) (by decide +kernel)
set_option maxRecDepth 20000 in
theorem gX10_holds_X10_isClaim : GoodIn wsX10_holds (wsV RX10 338 RX10 yX10_isClaim wsX10_isClaim) := goodIn_app (goodIn_of _ (by decide +kernel)) ggX10_holds_X10_isClaim
set_option maxRecDepth 20000 in
theorem ggX10_holds_X10_isCandle : GoodIn wsX10_holds wsX10_isCandle := goodIn_r _ [16, 11, 12, 8, 13] (by decide +kernel) (by decide +kernel)
set_option maxRecDepth 20000 in
theorem gX10_holds_X10_isCandle : GoodIn wsX10_holds (va_wsS RX10 144 yX10_isCandle wsX10_isCandle) := goodIn_app (goodIn_of _ (by decide +kernel)) ggX10_holds_X10_isCandle
set_option maxRecDepth 20000 in
theorem ggX10_looked_X10_isClaim : GoodIn wsX10_looked wsX10_isClaim := goodIn_r _ [10, 1, 11, 12, 13, 9, 14, 218, 219, 220, 221, 222, 223, 224, 225, 226, 227, 228, 229, 230, 231, 232, 233, 234, 235, 236] (by decide +kernel) (by decide +kernel)
set_option maxRecDepth 20000 in
theorem gX10_looked_X10_isClaim : GoodIn wsX10_looked (wsV RX10 338 RX10 yX10_isClaim wsX10_isClaim) := goodIn_app (goodIn_of _ (by decide +kernel)) ggX10_looked_X10_isClaim
set_option maxRecDepth 20000 in
theorem ggX10_looked_X10_isCandle : GoodIn wsX10_looked wsX10_isCandle := goodIn_r _ [17, 12, 13, 9, 14] (by decide +kernel) (by decide +kernel)
set_option maxRecDepth 20000 in
theorem gX10_looked_X10_isCandle : GoodIn wsX10_looked (va_wsS RX10 144 yX10_isCandle wsX10_isCandle) := goodIn_app (goodIn_of _ (by decide +kernel)) ggX10_looked_X10_isCandle
set_option maxRecDepth 20000 in
theorem ggX10_looked_X10_isWithin : GoodIn wsX10_looked wsX10_isWithin := goodIn_r _ [14] (by decide +kernel) (by decide +kernel)
set_option maxRecDepth 20000 in
theorem gX10_looked_X10_isWithin : GoodIn wsX10_looked (va_wsS RX10 69 yX10_isWithin wsX10_isWithin) := goodIn_app (goodIn_of _ (by decide +kernel)) ggX10_looked_X10_isWithin
set_option maxRecDepth 20000 in
theorem ggX10_looked_X0_places : GoodIn wsX10_looked wsX0_places := goodIn_r _ [22, 23, 24, 25, 26, 21, 27, 28, 253, 254, 255, 256, 257, 258, 259, 260, 261, 262, 263] (by decide +kernel) (by decide +kernel)
set_option maxRecDepth 20000 in
theorem gX10_looked_X0_places : GoodIn wsX10_looked (wsV RX10 231 RX0 yX0_places wsX0_places) := goodIn_app (goodIn_of _ (by decide +kernel)) ggX10_looked_X0_places
set_option maxRecDepth 20000 in
theorem ggX10_cause_X10_isWithin : GoodIn wsX10_cause wsX10_isWithin := goodIn_r _ [8] (by decide +kernel) (by decide +kernel)
set_option maxRecDepth 20000 in
theorem gX10_cause_X10_isWithin : GoodIn wsX10_cause (va_wsS RX10 69 yX10_isWithin wsX10_isWithin) := goodIn_app (goodIn_of _ (by decide +kernel)) ggX10_cause_X10_isWithin
set_option maxRecDepth 20000 in
theorem ggX10_says_X10_isPair : GoodIn wsX10_says wsX10_isPair := goodIn_r _ [10, 11, 12, 13, 9, 14, 1, 2, 15, 16, 17, 18, 19, 20, 21, 37, 38, 39, 40, 41, 42, 43, 44, 45, 46, 47, 48, 49, 50, 51, 52, 53, 54, 55, 56, 57, 58, 59, 60, 61, 62, 63, 64, 65, 66] (by decide +kernel) (by decide +kernel)
set_option maxRecDepth 20000 in
theorem gX10_says_X10_isPair : GoodIn wsX10_says (wsV RX10 262 RX10 yX10_isPair wsX10_isPair) := goodIn_app (goodIn_of _ (by decide +kernel)) ggX10_says_X10_isPair
set_option maxRecDepth 20000 in
theorem ggX10_says_X10_isWithin : GoodIn wsX10_says wsX10_isWithin := goodIn_r _ [21] (by decide +kernel) (by decide +kernel)
set_option maxRecDepth 20000 in
theorem gX10_says_X10_isWithin : GoodIn wsX10_says (va_wsS RX10 69 yX10_isWithin wsX10_isWithin) := goodIn_app (goodIn_of _ (by decide +kernel)) ggX10_says_X10_isWithin
set_option maxRecDepth 20000 in
theorem ggX10_image_X8_take : GoodIn wsX10_image wsX8_take := goodIn_r _ [8, 9, 10, 11, 12, 13, 14, 15, 16, 17, 18, 19, 20, 21, 22, 23, 24, 25, 26, 27, 28, 29, 30, 31, 32, 33, 34, 35, 36, 37, 38, 39, 40, 41, 42, 43, 44, 45, 46, 47, 48, 49, 50, 51, 52, 53, 54, 55, 56, 57, 58, 59, 60, 61, 62, 63, 64, 65, 66, 67, 68, 69, 70, 71, 72, 73, 74, 75, 76, 77, 78, 79, 80, 81, 82, 83, 84, 85, 86, 87, 88, 99, 100, 101, 102, 103, 104, 105, 106, 107, 108, 109, 110, 111, 112, 113, 114, 115, 116, 117, 118, 119, 120, 121, 122, 123, 124, 125, 126, 127, 128, 129, 130, 131, 132, 133, 134, 135, 136, 137, 138, 139, 140, 141, 142] (by decide +kernel) (by decide +kernel)
set_option maxRecDepth 20000 in
theorem gX10_image_X8_take : GoodIn wsX10_image (wsV RX10 364 RX8 yX8_take wsX8_take) := goodIn_app (goodIn_of _ (by decide +kernel)) ggX10_image_X8_take
set_option maxRecDepth 20000 in
theorem ggX10_restore_X8_take : GoodIn wsX10_restore wsX8_take := goodIn_r _ [9, 10, 11, 12, 13, 14, 15, 16, 17, 18, 19, 20, 21, 22, 23, 24, 25, 26, 27, 28, 29, 30, 31, 32, 33, 34, 35, 36, 37, 38, 39, 40, 41, 42, 43, 44, 45, 46, 47, 48, 49, 50, 51, 52, 53, 54, 55, 56, 57, 58, 59, 60, 61, 62, 63, 64, 65, 66, 67, 68, 69, 70, 71, 72, 73, 74, 75, 76, 77, 78, 79, 80, 81, 82, 83, 84, 85, 86, 87, 88, 89, 100, 101, 102, 103, 104, 105, 106, 107, 108, 109, 110, 111, 112, 113, 114, 115, 116, 117, 118, 119, 120, 121, 122, 123, 124, 125, 126, 127, 128, 129, 130, 131, 132, 133, 134, 135, 136, 137, 138, 139, 140, 141, 142, 143] (by decide +kernel) (by decide +kernel)
set_option maxRecDepth 20000 in
theorem gX10_restore_X8_take : GoodIn wsX10_restore (wsV RX10 364 RX8 yX8_take wsX8_take) := goodIn_app (goodIn_of _ (by decide +kernel)) ggX10_restore_X8_take
set_option maxRecDepth 20000 in
theorem ggX10_sheet_X10_isRow : GoodIn wsX10_sheet wsX10_isRow := goodIn_r _ [5, 6, 7, 4, 8] (by decide +kernel) (by decide +kernel)
set_option maxRecDepth 20000 in
theorem gX10_sheet_X10_isRow : GoodIn wsX10_sheet (va_wsS RX10 87 yX10_isRow wsX10_isRow) := goodIn_app (goodIn_of _ (by decide +kernel)) ggX10_sheet_X10_isRow
set_option maxRecDepth 20000 in
theorem ggX10_sheet_X7_begin : GoodIn wsX10_sheet wsX7_begin := goodIn_r _ [13, 14, 15, 16, 17, 18, 19, 20, 21, 32, 33, 34, 35] (by decide +kernel) (by decide +kernel)
set_option maxRecDepth 20000 in
theorem gX10_sheet_X7_begin : GoodIn wsX10_sheet (wsV RX10 370 RX7 yX7_begin wsX7_begin) := goodIn_app (goodIn_of _ (by decide +kernel)) ggX10_sheet_X7_begin
set_option maxRecDepth 20000 in
theorem ggX10_drop_X10_isWithin : GoodIn wsX10_drop wsX10_isWithin := goodIn_r _ [7] (by decide +kernel) (by decide +kernel)
set_option maxRecDepth 20000 in
theorem gX10_drop_X10_isWithin : GoodIn wsX10_drop (va_wsS RX10 69 yX10_isWithin wsX10_isWithin) := goodIn_app (goodIn_of _ (by decide +kernel)) ggX10_drop_X10_isWithin
set_option maxRecDepth 20000 in
theorem ggX10_item_X10_isRow : GoodIn wsX10_item wsX10_isRow := goodIn_r _ [5, 6, 7, 4, 8] (by decide +kernel) (by decide +kernel)
set_option maxRecDepth 20000 in
theorem gX10_item_X10_isRow : GoodIn wsX10_item (va_wsS RX10 87 yX10_isRow wsX10_isRow) := goodIn_app (goodIn_of _ (by decide +kernel)) ggX10_item_X10_isRow
set_option maxRecDepth 20000 in
theorem ggX10_item_X7_refusal : GoodIn wsX10_item wsX7_refusal := goodIn_r _ [13, 14, 15, 16, 32, 33, 34, 35] (by decide +kernel) (by decide +kernel)
set_option maxRecDepth 20000 in
theorem gX10_item_X7_refusal : GoodIn wsX10_item (wsV RX10 90 RX7 yX7_refusal wsX7_refusal) := goodIn_app (goodIn_of _ (by decide +kernel)) ggX10_item_X7_refusal
set_option maxRecDepth 20000 in
theorem ggX10_isYear_X10_isWithin : GoodIn wsX10_isYear wsX10_isWithin := goodIn_r _ [4] (by decide +kernel) (by decide +kernel)
set_option maxRecDepth 20000 in
theorem gX10_isYear_X10_isWithin : GoodIn wsX10_isYear (va_wsS RX10 69 yX10_isWithin wsX10_isWithin) := goodIn_app (goodIn_of _ (by decide +kernel)) ggX10_isYear_X10_isWithin
set_option maxRecDepth 20000 in
theorem ggX10_isCandle_X10_isWithin : GoodIn wsX10_isCandle wsX10_isWithin := goodIn_r _ [4] (by decide +kernel) (by decide +kernel)
set_option maxRecDepth 20000 in
theorem gX10_isCandle_X10_isWithin : GoodIn wsX10_isCandle (va_wsS RX10 69 yX10_isWithin wsX10_isWithin) := goodIn_app (goodIn_of _ (by decide +kernel)) ggX10_isCandle_X10_isWithin
set_option maxRecDepth 20000 in
theorem ggX10_isRow_X10_isWithin : GoodIn wsX10_isRow wsX10_isWithin := goodIn_r _ [4] (by decide +kernel) (by decide +kernel)
set_option maxRecDepth 20000 in
theorem gX10_isRow_X10_isWithin : GoodIn wsX10_isRow (va_wsS RX10 69 yX10_isWithin wsX10_isWithin) := goodIn_app (goodIn_of _ (by decide +kernel)) ggX10_isRow_X10_isWithin
set_option maxRecDepth 20000 in
theorem ggX10_isThing_X10_isCandle : GoodIn wsX10_isThing wsX10_isCandle := goodIn_r _ [7, 8, 9, 6, 10] (by decide +kernel) (by decide +kernel)
set_option maxRecDepth 20000 in
theorem gX10_isThing_X10_isCandle : GoodIn wsX10_isThing (va_wsS RX10 144 yX10_isCandle wsX10_isCandle) := goodIn_app (goodIn_of _ (by decide +kernel)) ggX10_isThing_X10_isCandle
set_option maxRecDepth 20000 in
theorem ggX10_isThing_X10_isWithin : GoodIn wsX10_isThing wsX10_isWithin := goodIn_r _ [10] (by decide +kernel) (by decide +kernel)
set_option maxRecDepth 20000 in
theorem gX10_isThing_X10_isWithin : GoodIn wsX10_isThing (va_wsS RX10 69 yX10_isWithin wsX10_isWithin) := goodIn_app (goodIn_of _ (by decide +kernel)) ggX10_isThing_X10_isWithin
set_option maxRecDepth 20000 in
theorem ggX10_isPair_X10_isThing : GoodIn wsX10_isPair wsX10_isThing := goodIn_r _ [5, 6, 7, 8, 9, 10, 4, 11, 12, 13, 14, 15, 16, 17, 18, 19, 20, 21, 22, 23, 24, 25, 26, 27, 28, 29, 30, 31, 32, 33, 34, 35, 36, 37, 38, 39, 40, 41, 42, 43, 44] (by decide +kernel) (by decide +kernel)
set_option maxRecDepth 20000 in
theorem gX10_isPair_X10_isThing : GoodIn wsX10_isPair (wsV RX10 170 RX10 yX10_isThing wsX10_isThing) := goodIn_app (goodIn_of _ (by decide +kernel)) ggX10_isPair_X10_isThing
set_option maxRecDepth 20000 in
theorem ggX10_isClaim_X10_isWithin : GoodIn wsX10_isClaim wsX10_isWithin := goodIn_r _ [6] (by decide +kernel) (by decide +kernel)
set_option maxRecDepth 20000 in
theorem gX10_isClaim_X10_isWithin : GoodIn wsX10_isClaim (va_wsS RX10 69 yX10_isWithin wsX10_isWithin) := goodIn_app (goodIn_of _ (by decide +kernel)) ggX10_isClaim_X10_isWithin
set_option maxRecDepth 20000 in
theorem ggX11_isYear_X11_in : GoodIn wsX11_isYear wsX11_in := goodIn_r _ [5] (by decide +kernel) (by decide +kernel)
set_option maxRecDepth 20000 in
theorem gX11_isYear_X11_in : GoodIn wsX11_isYear (va_wsS RX11 70 yX11_in wsX11_in) := goodIn_app (goodIn_of _ (by decide +kernel)) ggX11_isYear_X11_in
set_option maxRecDepth 20000 in
theorem ggX11_isCandle_X11_in : GoodIn wsX11_isCandle wsX11_in := goodIn_r _ [4] (by decide +kernel) (by decide +kernel)
set_option maxRecDepth 20000 in
theorem gX11_isCandle_X11_in : GoodIn wsX11_isCandle (va_wsS RX11 70 yX11_in wsX11_in) := goodIn_app (goodIn_of _ (by decide +kernel)) ggX11_isCandle_X11_in
set_option maxRecDepth 20000 in
theorem ggX11_isThing_X11_in : GoodIn wsX11_isThing wsX11_in := goodIn_r _ [5] (by decide +kernel) (by decide +kernel)
set_option maxRecDepth 20000 in
theorem gX11_isThing_X11_in : GoodIn wsX11_isThing (va_wsS RX11 70 yX11_in wsX11_in) := goodIn_app (goodIn_of _ (by decide +kernel)) ggX11_isThing_X11_in
set_option maxRecDepth 20000 in
theorem ggX11_mayRain_X11_in : GoodIn wsX11_mayRain wsX11_in := goodIn_r _ [7] (by decide +kernel) (by decide +kernel)
set_option maxRecDepth 20000 in
theorem gX11_mayRain_X11_in : GoodIn wsX11_mayRain (va_wsS RX11 70 yX11_in wsX11_in) := goodIn_app (goodIn_of _ (by decide +kernel)) ggX11_mayRain_X11_in
set_option maxRecDepth 20000 in
theorem ggX11_rain_X11_isYear : GoodIn wsX11_rain wsX11_isYear := goodIn_r _ [5, 6, 7, 8, 4, 9] (by decide +kernel) (by decide +kernel)
set_option maxRecDepth 20000 in
theorem gX11_rain_X11_isYear : GoodIn wsX11_rain (va_wsS RX11 80 yX11_isYear wsX11_isYear) := goodIn_app (goodIn_of _ (by decide +kernel)) ggX11_rain_X11_isYear
set_option maxRecDepth 20000 in
theorem ggX11_rain_X11_mayRain : GoodIn wsX11_rain wsX11_mayRain := goodIn_r _ [12, 13, 14, 15, 7, 8, 4, 9] (by decide +kernel) (by decide +kernel)
set_option maxRecDepth 20000 in
theorem gX11_rain_X11_mayRain : GoodIn wsX11_rain (va_wsS RX11 84 yX11_mayRain wsX11_mayRain) := goodIn_app (goodIn_of _ (by decide +kernel)) ggX11_rain_X11_mayRain
set_option maxRecDepth 20000 in
theorem ggX11_set_X11_in : GoodIn wsX11_set wsX11_in := goodIn_r _ [7] (by decide +kernel) (by decide +kernel)
set_option maxRecDepth 20000 in
theorem gX11_set_X11_in : GoodIn wsX11_set (va_wsS RX11 70 yX11_in wsX11_in) := goodIn_app (goodIn_of _ (by decide +kernel)) ggX11_set_X11_in
set_option maxRecDepth 20000 in
theorem ggX11_wet_X11_isYear : GoodIn wsX11_wet wsX11_isYear := goodIn_r _ [5, 6, 7, 8, 4, 9] (by decide +kernel) (by decide +kernel)
set_option maxRecDepth 20000 in
theorem gX11_wet_X11_isYear : GoodIn wsX11_wet (va_wsS RX11 80 yX11_isYear wsX11_isYear) := goodIn_app (goodIn_of _ (by decide +kernel)) ggX11_wet_X11_isYear
set_option maxRecDepth 20000 in
theorem ggX11_wet_X11_wetBy : GoodIn wsX11_wet wsX11_wetBy := goodIn_r _ [13, 1, 14, 15, 16, 17, 18, 19, 20, 21, 22, 23, 24, 25, 26, 27, 28, 29, 30, 31, 32, 33, 34, 35, 36, 37, 38, 39, 40, 41] (by decide +kernel) (by decide +kernel)
set_option maxRecDepth 20000 in
theorem gX11_wet_X11_wetBy : GoodIn wsX11_wet (wsV RX11 90 RX11 yX11_wetBy wsX11_wetBy) := goodIn_app (goodIn_of _ (by decide +kernel)) ggX11_wet_X11_wetBy
set_option maxRecDepth 20000 in
theorem ggX11_water_X11_isYear : GoodIn wsX11_water wsX11_isYear := goodIn_r _ [5, 6, 7, 8, 4, 9] (by decide +kernel) (by decide +kernel)
set_option maxRecDepth 20000 in
theorem gX11_water_X11_isYear : GoodIn wsX11_water (va_wsS RX11 80 yX11_isYear wsX11_isYear) := goodIn_app (goodIn_of _ (by decide +kernel)) ggX11_water_X11_isYear
set_option maxRecDepth 20000 in
theorem ggX11_water_X11_wetBy : GoodIn wsX11_water wsX11_wetBy := goodIn_r _ [13, 1, 18, 19, 20, 21, 22, 23, 24, 25, 26, 27, 28, 29, 30, 31, 32, 33, 34, 35, 36, 37, 38, 39, 40, 41, 42, 43, 44, 45] (by decide +kernel) (by decide +kernel)
set_option maxRecDepth 20000 in
theorem gX11_water_X11_wetBy : GoodIn wsX11_water (wsV RX11 90 RX11 yX11_wetBy wsX11_wetBy) := goodIn_app (goodIn_of _ (by decide +kernel)) ggX11_water_X11_wetBy
set_option maxRecDepth 20000 in
theorem ggX11_growthOf_X11_wetBy : GoodIn wsX11_growthOf wsX11_wetBy := goodIn_r _ [6, 1, 11, 12, 13, 14, 15, 16, 17, 18, 19, 20, 21, 22, 23, 24, 25, 26, 27, 28, 29, 30, 31, 32, 33, 34, 35, 36, 37, 38] (by decide +kernel) (by decide +kernel)
set_option maxRecDepth 20000 in
theorem gX11_growthOf_X11_wetBy : GoodIn wsX11_growthOf (wsV RX11 90 RX11 yX11_wetBy wsX11_wetBy) := goodIn_app (goodIn_of _ (by decide +kernel)) ggX11_growthOf_X11_wetBy
set_option maxRecDepth 20000 in
theorem ggX11_grows_X11_isYear : GoodIn wsX11_grows wsX11_isYear := goodIn_r _ [4, 5, 6, 7, 3, 8] (by decide +kernel) (by decide +kernel)
set_option maxRecDepth 20000 in
theorem gX11_grows_X11_isYear : GoodIn wsX11_grows (va_wsS RX11 80 yX11_isYear wsX11_isYear) := goodIn_app (goodIn_of _ (by decide +kernel)) ggX11_grows_X11_isYear
set_option maxRecDepth 20000 in
theorem ggX11_grows_X11_growthOf : GoodIn wsX11_grows wsX11_growthOf := goodIn_r _ [12, 13, 14, 15, 16, 3, 17, 18, 19, 20, 21, 22, 23, 24, 25, 26, 27, 28, 29, 30, 31, 32, 33, 34, 35, 36, 37, 38, 39, 40, 41, 42, 43, 44, 45, 46, 47, 48, 49] (by decide +kernel) (by decide +kernel)
set_option maxRecDepth 20000 in
theorem gX11_grows_X11_growthOf : GoodIn wsX11_grows (wsV RX11 100 RX11 yX11_growthOf wsX11_growthOf) := goodIn_app (goodIn_of _ (by decide +kernel)) ggX11_grows_X11_growthOf
set_option maxRecDepth 20000 in
theorem ggX11_type_X11_in : GoodIn wsX11_type wsX11_in := goodIn_r _ [10] (by decide +kernel) (by decide +kernel)
set_option maxRecDepth 20000 in
theorem gX11_type_X11_in : GoodIn wsX11_type (va_wsS RX11 70 yX11_in wsX11_in) := goodIn_app (goodIn_of _ (by decide +kernel)) ggX11_type_X11_in
set_option maxRecDepth 20000 in
theorem ggX11_takes_X11_nextByte : GoodIn wsX11_takes wsX11_nextByte := goodIn_r _ [6, 1, 7, 8, 9, 10, 11, 12, 13, 14, 15, 16, 17, 18, 19, 20, 21, 22, 23, 24, 25, 26, 27, 28, 29, 30, 31, 32, 33, 34, 35, 36] (by decide +kernel) (by decide +kernel)
set_option maxRecDepth 20000 in
theorem gX11_takes_X11_nextByte : GoodIn wsX11_takes (wsV RX11 119 RX11 yX11_nextByte wsX11_nextByte) := goodIn_app (goodIn_of _ (by decide +kernel)) ggX11_takes_X11_nextByte
set_option maxRecDepth 20000 in
theorem ggX11_readCondition_X11_nextByte : GoodIn wsX11_readCondition wsX11_nextByte := goodIn_r _ [7, 1, 8, 9, 19, 20, 21, 22, 23, 24, 25, 26, 27, 28, 29, 30, 31, 32, 33, 34, 35, 36, 37, 38, 39, 40, 41, 42, 43, 44, 45, 46] (by decide +kernel) (by decide +kernel)
set_option maxRecDepth 20000 in
theorem gX11_readCondition_X11_nextByte : GoodIn wsX11_readCondition (wsV RX11 119 RX11 yX11_nextByte wsX11_nextByte) := goodIn_app (goodIn_of _ (by decide +kernel)) ggX11_readCondition_X11_nextByte
set_option maxRecDepth 20000 in
theorem ggX11_readClause_X11_takes : GoodIn wsX11_readClause wsX11_takes := goodIn_r _ [8, 2, 9, 10, 11, 7, 12, 13, 14, 28, 29, 30, 31, 32, 33, 34, 35, 36, 37, 38, 39, 40, 41, 42, 43, 44, 45, 46, 47, 48, 49, 50, 51, 52, 53, 54, 55] (by decide +kernel) (by decide +kernel)
set_option maxRecDepth 20000 in
theorem gX11_readClause_X11_takes : GoodIn wsX11_readClause (wsV RX11 130 RX11 yX11_takes wsX11_takes) := goodIn_app (goodIn_of _ (by decide +kernel)) ggX11_readClause_X11_takes
set_option maxRecDepth 20000 in
theorem ggX11_readClause_X11_readCondition : GoodIn wsX11_readClause wsX11_readCondition := goodIn_r _ [18, 2, 1, 9, 10, 11, 7, 12, 13, 14, 19, 20, 21, 22, 23, 24, 25, 26, 27, 28, 29, 30, 31, 32, 33, 34, 35, 36, 37, 38, 39, 40, 41, 42, 43, 44, 45, 46, 47, 48, 49, 50, 51, 52, 53, 54, 55] (by decide +kernel) (by decide +kernel)
set_option maxRecDepth 20000 in
theorem gX11_readClause_X11_readCondition : GoodIn wsX11_readClause (wsV RX11 133 RX11 yX11_readCondition wsX11_readCondition) := goodIn_app (goodIn_of _ (by decide +kernel)) ggX11_readClause_X11_readCondition
set_option maxRecDepth 20000 in
theorem ggX11_readClause_X11_nextByte : GoodIn wsX11_readClause wsX11_nextByte := goodIn_r _ [12, 2, 13, 14, 28, 29, 30, 31, 32, 33, 34, 35, 36, 37, 38, 39, 40, 41, 42, 43, 44, 45, 46, 47, 48, 49, 50, 51, 52, 53, 54, 55] (by decide +kernel) (by decide +kernel)
set_option maxRecDepth 20000 in
theorem gX11_readClause_X11_nextByte : GoodIn wsX11_readClause (wsV RX11 119 RX11 yX11_nextByte wsX11_nextByte) := goodIn_app (goodIn_of _ (by decide +kernel)) ggX11_readClause_X11_nextByte
set_option maxRecDepth 20000 in
theorem ggX11_readClause_X11_in : GoodIn wsX11_readClause wsX11_in := goodIn_r _ [27] (by decide +kernel) (by decide +kernel)
set_option maxRecDepth 20000 in
theorem gX11_readClause_X11_in : GoodIn wsX11_readClause (va_wsS RX11 70 yX11_in wsX11_in) := goodIn_app (goodIn_of _ (by decide +kernel)) ggX11_readClause_X11_in
set_option maxRecDepth 20000 in
theorem ggX11_readLaw_X11_readClause : GoodIn wsX11_readLaw wsX11_readClause := goodIn_r _ [7, 8, 1, 9, 10, 11, 12, 6, 13, 14, 15, 16, 17, 18, 19, 20, 21, 22, 23, 24, 25, 26, 27, 28, 29, 30, 31, 32, 33, 34, 35, 36, 37, 38, 39, 40, 41, 42, 43, 44, 45, 46, 47, 48, 49, 50, 51, 52, 53, 54, 55, 56, 57, 58, 59, 60] (by decide +kernel) (by decide +kernel)
set_option maxRecDepth 20000 in
theorem gX11_readLaw_X11_readClause : GoodIn wsX11_readLaw (wsV RX11 138 RX11 yX11_readClause wsX11_readClause) := goodIn_app (goodIn_of _ (by decide +kernel)) ggX11_readLaw_X11_readClause
set_option maxRecDepth 20000 in
theorem ggX11_readLaw_X11_nextByte : GoodIn wsX11_readLaw wsX11_nextByte := goodIn_r _ [17, 1, 18, 19, 33, 34, 35, 36, 37, 38, 39, 40, 41, 42, 43, 44, 45, 46, 47, 48, 49, 50, 51, 52, 53, 54, 55, 56, 57, 58, 59, 60] (by decide +kernel) (by decide +kernel)
set_option maxRecDepth 20000 in
theorem gX11_readLaw_X11_nextByte : GoodIn wsX11_readLaw (wsV RX11 119 RX11 yX11_nextByte wsX11_nextByte) := goodIn_app (goodIn_of _ (by decide +kernel)) ggX11_readLaw_X11_nextByte
set_option maxRecDepth 20000 in
theorem ggX11_law_X11_readLaw : GoodIn wsX11_law wsX11_readLaw := goodIn_r _ [10, 2, 5, 11, 12, 13, 9, 14, 4, 15, 16, 17, 18, 19, 20, 21, 22, 23, 1, 24, 25, 26, 27, 28, 29, 30, 31, 32, 33, 34, 35, 36, 37, 38, 39, 40, 41, 42, 43, 44, 45, 46, 47, 48, 49, 50, 51, 52, 53, 54, 55, 56, 57, 58, 59, 60, 61, 62, 63, 64, 65] (by decide +kernel) (by decide +kernel)
set_option maxRecDepth 20000 in
theorem gX11_law_X11_readLaw : GoodIn wsX11_law (wsV RX11 144 RX11 yX11_readLaw wsX11_readLaw) := goodIn_app (goodIn_of _ (by decide +kernel)) ggX11_law_X11_readLaw
set_option maxRecDepth 20000 in
theorem ggX11_readAtom_X11_takes : GoodIn wsX11_readAtom wsX11_takes := goodIn_r _ [11, 2, 12, 13, 14, 10, 15, 3, 4, 23, 24, 25, 26, 27, 28, 29, 30, 31, 32, 33, 34, 35, 36, 37, 38, 39, 40, 41, 42, 43, 44, 45, 46, 47, 48, 49, 50] (by decide +kernel) (by decide +kernel)
set_option maxRecDepth 20000 in
theorem gX11_readAtom_X11_takes : GoodIn wsX11_readAtom (wsV RX11 130 RX11 yX11_takes wsX11_takes) := goodIn_app (goodIn_of _ (by decide +kernel)) ggX11_readAtom_X11_takes
set_option maxRecDepth 20000 in
theorem ggX11_readAtom_X11_nextByte : GoodIn wsX11_readAtom wsX11_nextByte := goodIn_r _ [15, 2, 3, 4, 23, 24, 25, 26, 27, 28, 29, 30, 31, 32, 33, 34, 35, 36, 37, 38, 39, 40, 41, 42, 43, 44, 45, 46, 47, 48, 49, 50] (by decide +kernel) (by decide +kernel)
set_option maxRecDepth 20000 in
theorem gX11_readAtom_X11_nextByte : GoodIn wsX11_readAtom (wsV RX11 119 RX11 yX11_nextByte wsX11_nextByte) := goodIn_app (goodIn_of _ (by decide +kernel)) ggX11_readAtom_X11_nextByte
set_option maxRecDepth 20000 in
theorem ggX11_readAtom_X11_in : GoodIn wsX11_readAtom wsX11_in := goodIn_r _ [22] (by decide +kernel) (by decide +kernel)
set_option maxRecDepth 20000 in
theorem gX11_readAtom_X11_in : GoodIn wsX11_readAtom (va_wsS RX11 70 yX11_in wsX11_in) := goodIn_app (goodIn_of _ (by decide +kernel)) ggX11_readAtom_X11_in
set_option maxRecDepth 20000 in
theorem ggX11_readClaim_X11_readAtom : GoodIn wsX11_readClaim wsX11_readAtom := goodIn_r _ [7, 2, 1, 8, 9, 10, 11, 12, 13, 14, 6, 15, 16, 17, 18, 19, 20, 21, 22, 23, 24, 25, 26, 27, 28, 29, 30, 31, 32, 33, 34, 35, 36, 37, 38, 39, 40, 41, 42, 43, 44, 45, 46, 47, 48, 49, 50, 51, 52, 53, 54] (by decide +kernel) (by decide +kernel)
set_option maxRecDepth 20000 in
theorem gX11_readClaim_X11_readAtom : GoodIn wsX11_readClaim (wsV RX11 148 RX11 yX11_readAtom wsX11_readAtom) := goodIn_app (goodIn_of _ (by decide +kernel)) ggX11_readClaim_X11_readAtom
set_option maxRecDepth 20000 in
theorem ggX11_readClaim_X11_nextByte : GoodIn wsX11_readClaim wsX11_nextByte := goodIn_r _ [19, 1, 8, 9, 27, 28, 29, 30, 31, 32, 33, 34, 35, 36, 37, 38, 39, 40, 41, 42, 43, 44, 45, 46, 47, 48, 49, 50, 51, 52, 53, 54] (by decide +kernel) (by decide +kernel)
set_option maxRecDepth 20000 in
theorem gX11_readClaim_X11_nextByte : GoodIn wsX11_readClaim (wsV RX11 119 RX11 yX11_nextByte wsX11_nextByte) := goodIn_app (goodIn_of _ (by decide +kernel)) ggX11_readClaim_X11_nextByte
set_option maxRecDepth 20000 in
theorem ggX11_claim_X11_readClaim : GoodIn wsX11_claim wsX11_readClaim := goodIn_r _ [9, 2, 4, 10, 11, 12, 8, 13, 1, 14, 15, 16, 17, 18, 19, 20, 21, 22, 23, 24, 25, 26, 27, 28, 29, 30, 31, 32, 33, 34, 35, 36, 37, 38, 39, 40, 41, 42, 43, 44, 45, 46, 47, 48, 49, 50, 51, 52, 53, 54, 55, 56, 57, 58, 59] (by decide +kernel) (by decide +kernel)
set_option maxRecDepth 20000 in
theorem gX11_claim_X11_readClaim : GoodIn wsX11_claim (wsV RX11 151 RX11 yX11_readClaim wsX11_readClaim) := goodIn_app (goodIn_of _ (by decide +kernel)) ggX11_claim_X11_readClaim
set_option maxRecDepth 20000 in
theorem ggX11_make_X11_isCandle : GoodIn wsX11_make wsX11_isCandle := goodIn_r _ [5, 6, 7, 4, 8] (by decide +kernel) (by decide +kernel)
set_option maxRecDepth 20000 in
theorem gX11_make_X11_isCandle : GoodIn wsX11_make (va_wsS RX11 160 yX11_isCandle wsX11_isCandle) := goodIn_app (goodIn_of _ (by decide +kernel)) ggX11_make_X11_isCandle
set_option maxRecDepth 20000 in
theorem ggX11_make_X11_growthOf : GoodIn wsX11_make wsX11_growthOf := goodIn_r _ [28, 1, 29, 30, 31, 4, 32, 33, 34, 35, 36, 45, 46, 47, 48, 49, 50, 51, 52, 53, 54, 55, 56, 57, 58, 59, 60, 61, 62, 63, 64, 65, 66, 67, 68, 69, 70, 71, 72] (by decide +kernel) (by decide +kernel)
set_option maxRecDepth 20000 in
theorem gX11_make_X11_growthOf : GoodIn wsX11_make (wsV RX11 100 RX11 yX11_growthOf wsX11_growthOf) := goodIn_app (goodIn_of _ (by decide +kernel)) ggX11_make_X11_growthOf
set_option maxRecDepth 20000 in
theorem ggX11_make_X11_addThing : GoodIn wsX11_make wsX11_addThing := goodIn_r _ [40, 1, 45, 46, 47, 48, 49, 50, 51, 52, 53, 54, 55, 56, 57, 58, 59, 60, 61, 62, 63, 64, 65, 66, 67, 68, 69, 70, 71, 72] (by decide +kernel) (by decide +kernel)
set_option maxRecDepth 20000 in
theorem gX11_make_X11_addThing : GoodIn wsX11_make (wsV RX11 170 RX11 yX11_addThing wsX11_addThing) := goodIn_app (goodIn_of _ (by decide +kernel)) ggX11_make_X11_addThing
set_option maxRecDepth 20000 in
theorem ggX11_truth_X11_isCandle : GoodIn wsX11_truth wsX11_isCandle := goodIn_r _ [5, 6, 7, 4, 8] (by decide +kernel) (by decide +kernel)
set_option maxRecDepth 20000 in
theorem gX11_truth_X11_isCandle : GoodIn wsX11_truth (va_wsS RX11 160 yX11_isCandle wsX11_isCandle) := goodIn_app (goodIn_of _ (by decide +kernel)) ggX11_truth_X11_isCandle
set_option maxRecDepth 20000 in
theorem ggX11_truth_X11_isThing : GoodIn wsX11_truth wsX11_isThing := goodIn_r _ [12, 1, 6, 7, 4, 8, 17, 18, 19, 20, 21, 22, 23, 24, 25, 26, 27, 28, 29, 30, 31, 32, 33, 34, 35, 36, 37, 38, 39, 40, 41, 42, 43, 44] (by decide +kernel) (by decide +kernel)
set_option maxRecDepth 20000 in
theorem gX11_truth_X11_isThing : GoodIn wsX11_truth (wsV RX11 174 RX11 yX11_isThing wsX11_isThing) := goodIn_app (goodIn_of _ (by decide +kernel)) ggX11_truth_X11_isThing
set_option maxRecDepth 20000 in
theorem ggX11_put_X11_isCandle : GoodIn wsX11_put wsX11_isCandle := goodIn_r _ [8, 9, 10, 7, 11] (by decide +kernel) (by decide +kernel)
set_option maxRecDepth 20000 in
theorem gX11_put_X11_isCandle : GoodIn wsX11_put (va_wsS RX11 160 yX11_isCandle wsX11_isCandle) := goodIn_app (goodIn_of _ (by decide +kernel)) ggX11_put_X11_isCandle
set_option maxRecDepth 20000 in
theorem ggX11_put_X11_in : GoodIn wsX11_put wsX11_in := goodIn_r _ [11] (by decide +kernel) (by decide +kernel)
set_option maxRecDepth 20000 in
theorem gX11_put_X11_in : GoodIn wsX11_put (va_wsS RX11 70 yX11_in wsX11_in) := goodIn_app (goodIn_of _ (by decide +kernel)) ggX11_put_X11_in
set_option maxRecDepth 20000 in
theorem ggX11_put_X11_addThing : GoodIn wsX11_put wsX11_addThing := goodIn_r _ [15, 4, 16, 17, 18, 19, 20, 21, 22, 23, 24, 25, 26, 27, 28, 29, 30, 31, 32, 33, 34, 35, 36, 37, 38, 39, 40, 41, 42, 43] (by decide +kernel) (by decide +kernel)
set_option maxRecDepth 20000 in
theorem gX11_put_X11_addThing : GoodIn wsX11_put (wsV RX11 170 RX11 yX11_addThing wsX11_addThing) := goodIn_app (goodIn_of _ (by decide +kernel)) ggX11_put_X11_addThing
set_option maxRecDepth 20000 in
theorem ggX11_cut_X11_isCandle : GoodIn wsX11_cut wsX11_isCandle := goodIn_r _ [5, 6, 7, 4, 8] (by decide +kernel) (by decide +kernel)
set_option maxRecDepth 20000 in
theorem gX11_cut_X11_isCandle : GoodIn wsX11_cut (va_wsS RX11 160 yX11_isCandle wsX11_isCandle) := goodIn_app (goodIn_of _ (by decide +kernel)) ggX11_cut_X11_isCandle
set_option maxRecDepth 20000 in
theorem ggX11_cut_X11_isThing : GoodIn wsX11_cut wsX11_isThing := goodIn_r _ [12, 1, 6, 7, 4, 8, 29, 30, 31, 32, 33, 34, 35, 36, 37, 38, 39, 40, 41, 42, 43, 44, 45, 46, 47, 48, 49, 50, 51, 52, 53, 54, 55, 56] (by decide +kernel) (by decide +kernel)
set_option maxRecDepth 20000 in
theorem gX11_cut_X11_isThing : GoodIn wsX11_cut (wsV RX11 174 RX11 yX11_isThing wsX11_isThing) := goodIn_app (goodIn_of _ (by decide +kernel)) ggX11_cut_X11_isThing
set_option maxRecDepth 20000 in
theorem ggX11_thing_X11_isCandle : GoodIn wsX11_thing wsX11_isCandle := goodIn_r _ [4, 5, 6, 3, 7] (by decide +kernel) (by decide +kernel)
set_option maxRecDepth 20000 in
theorem gX11_thing_X11_isCandle : GoodIn wsX11_thing (va_wsS RX11 160 yX11_isCandle wsX11_isCandle) := goodIn_app (goodIn_of _ (by decide +kernel)) ggX11_thing_X11_isCandle
set_option maxRecDepth 20000 in
theorem ggX11_thing_X11_isThing : GoodIn wsX11_thing wsX11_isThing := goodIn_r _ [11, 12, 5, 6, 3, 7, 21, 22, 23, 24, 25, 26, 27, 28, 29, 30, 31, 32, 33, 34, 35, 36, 37, 38, 39, 40, 41, 42, 43, 44, 45, 46, 47, 48] (by decide +kernel) (by decide +kernel)
set_option maxRecDepth 20000 in
theorem gX11_thing_X11_isThing : GoodIn wsX11_thing (wsV RX11 174 RX11 yX11_isThing wsX11_isThing) := goodIn_app (goodIn_of _ (by decide +kernel)) ggX11_thing_X11_isThing
set_option maxRecDepth 20000 in
theorem ggX11_thing_X11_in : GoodIn wsX11_thing wsX11_in := goodIn_r _ [7] (by decide +kernel) (by decide +kernel)
set_option maxRecDepth 20000 in
theorem gX11_thing_X11_in : GoodIn wsX11_thing (va_wsS RX11 70 yX11_in wsX11_in) := goodIn_app (goodIn_of _ (by decide +kernel)) ggX11_thing_X11_in
set_option maxRecDepth 20000 in
theorem ggX11_most_X11_isCandle : GoodIn wsX11_most wsX11_isCandle := goodIn_r _ [6, 7, 8, 5, 9] (by decide +kernel) (by decide +kernel)
set_option maxRecDepth 20000 in
theorem gX11_most_X11_isCandle : GoodIn wsX11_most (va_wsS RX11 160 yX11_isCandle wsX11_isCandle) := goodIn_app (goodIn_of _ (by decide +kernel)) ggX11_most_X11_isCandle
set_option maxRecDepth 20000 in
theorem ggX11_most_X11_in : GoodIn wsX11_most wsX11_in := goodIn_r _ [9] (by decide +kernel) (by decide +kernel)
set_option maxRecDepth 20000 in
theorem gX11_most_X11_in : GoodIn wsX11_most (va_wsS RX11 70 yX11_in wsX11_in) := goodIn_app (goodIn_of _ (by decide +kernel)) ggX11_most_X11_in
set_option maxRecDepth 20000 in
theorem ggX11_stretch_X11_isCandle : GoodIn wsX11_stretch wsX11_isCandle := goodIn_r _ [8, 9, 10, 7, 11] (by decide +kernel) (by decide +kernel)
set_option maxRecDepth 20000 in
theorem gX11_stretch_X11_isCandle : GoodIn wsX11_stretch (va_wsS RX11 160 yX11_isCandle wsX11_isCandle) := goodIn_app (goodIn_of _ (by decide +kernel)) ggX11_stretch_X11_isCandle
set_option maxRecDepth 20000 in
theorem ggX11_stretch_X11_in : GoodIn wsX11_stretch wsX11_in := goodIn_r _ [11] (by decide +kernel) (by decide +kernel)
set_option maxRecDepth 20000 in
theorem gX11_stretch_X11_in : GoodIn wsX11_stretch (va_wsS RX11 70 yX11_in wsX11_in) := goodIn_app (goodIn_of _ (by decide +kernel)) ggX11_stretch_X11_in
set_option maxRecDepth 20000 in
theorem ggX11_stretch_X11_isThing : GoodIn wsX11_stretch wsX11_isThing := goodIn_r _ [15, 4, 9, 10, 7, 11, 24, 25, 26, 27, 28, 29, 30, 31, 32, 33, 34, 35, 36, 37, 38, 39, 40, 41, 42, 43, 44, 45, 46, 47, 48, 49, 50, 51] (by decide +kernel) (by decide +kernel)
set_option maxRecDepth 20000 in
theorem gX11_stretch_X11_isThing : GoodIn wsX11_stretch (wsV RX11 174 RX11 yX11_isThing wsX11_isThing) := goodIn_app (goodIn_of _ (by decide +kernel)) ggX11_stretch_X11_isThing
set_option maxRecDepth 20000 in
theorem ggX11_date_X11_isCandle : GoodIn wsX11_date wsX11_isCandle := goodIn_r _ [5, 6, 7, 4, 8] (by decide +kernel) (by decide +kernel)
set_option maxRecDepth 20000 in
theorem gX11_date_X11_isCandle : GoodIn wsX11_date (va_wsS RX11 160 yX11_isCandle wsX11_isCandle) := goodIn_app (goodIn_of _ (by decide +kernel)) ggX11_date_X11_isCandle
set_option maxRecDepth 20000 in
theorem ggX11_date_X11_isThing : GoodIn wsX11_date wsX11_isThing := goodIn_r _ [12, 1, 6, 7, 4, 8, 25, 26, 27, 28, 29, 30, 31, 32, 33, 34, 35, 36, 37, 38, 39, 40, 41, 42, 43, 44, 45, 46, 47, 48, 49, 50, 51, 52] (by decide +kernel) (by decide +kernel)
set_option maxRecDepth 20000 in
theorem gX11_date_X11_isThing : GoodIn wsX11_date (wsV RX11 174 RX11 yX11_isThing wsX11_isThing) := goodIn_app (goodIn_of _ (by decide +kernel)) ggX11_date_X11_isThing
set_option maxRecDepth 20000 in
theorem ggX11_date_X11_isYear : GoodIn wsX11_date wsX11_isYear := goodIn_r _ [15, 16, 6, 7, 4, 8] (by decide +kernel) (by decide +kernel)
set_option maxRecDepth 20000 in
theorem gX11_date_X11_isYear : GoodIn wsX11_date (va_wsS RX11 80 yX11_isYear wsX11_isYear) := goodIn_app (goodIn_of _ (by decide +kernel)) ggX11_date_X11_isYear
set_option maxRecDepth 20000 in
theorem ggX11_date_X11_in : GoodIn wsX11_date wsX11_in := goodIn_r _ [8] (by decide +kernel) (by decide +kernel)
set_option maxRecDepth 20000 in
theorem gX11_date_X11_in : GoodIn wsX11_date (va_wsS RX11 70 yX11_in wsX11_in) := goodIn_app (goodIn_of _ (by decide +kernel)) ggX11_date_X11_in
set_option maxRecDepth 20000 in
theorem ggX11_throwOut_X11_in : GoodIn wsX11_throwOut wsX11_in := goodIn_r _ [6] (by decide +kernel) (by decide +kernel)
set_option maxRecDepth 20000 in
theorem gX11_throwOut_X11_in : GoodIn wsX11_throwOut (va_wsS RX11 70 yX11_in wsX11_in) := goodIn_app (goodIn_of _ (by decide +kernel)) ggX11_throwOut_X11_in
set_option maxRecDepth 20000 in
theorem ggX11_count_X11_placesOf : GoodIn wsX11_count wsX11_placesOf := goodIn_r _ [10, 1, 11, 12, 13, 5, 14, 15, 16, 17, 18, 19, 20, 21, 22, 23, 24, 25, 26, 27, 28, 29, 30, 31, 32, 33, 34, 35, 36, 37, 38, 39, 40, 41, 42] (by decide +kernel) (by decide +kernel)
set_option maxRecDepth 20000 in
theorem gX11_count_X11_placesOf : GoodIn wsX11_count (wsV RX11 189 RX11 yX11_placesOf wsX11_placesOf) := goodIn_app (goodIn_of _ (by decide +kernel)) ggX11_count_X11_placesOf
set_option maxRecDepth 20000 in
theorem ggX11_ways_X11_isCandle : GoodIn wsX11_ways wsX11_isCandle := goodIn_r _ [7, 8, 9, 6, 10] (by decide +kernel) (by decide +kernel)
set_option maxRecDepth 20000 in
theorem gX11_ways_X11_isCandle : GoodIn wsX11_ways (va_wsS RX11 160 yX11_isCandle wsX11_isCandle) := goodIn_app (goodIn_of _ (by decide +kernel)) ggX11_ways_X11_isCandle
set_option maxRecDepth 20000 in
theorem ggX11_ways_X11_placesOf : GoodIn wsX11_ways wsX11_placesOf := goodIn_r _ [14, 15, 16, 17, 18, 6, 19, 81, 82, 83, 84, 85, 86, 87, 88, 89, 90, 91, 92, 93, 94, 95, 96, 97, 98, 99, 100, 101, 102, 103, 104, 105, 106, 107, 108] (by decide +kernel) (by decide +kernel)
set_option maxRecDepth 20000 in
theorem gX11_ways_X11_placesOf : GoodIn wsX11_ways (wsV RX11 189 RX11 yX11_placesOf wsX11_placesOf) := goodIn_app (goodIn_of _ (by decide +kernel)) ggX11_ways_X11_placesOf
set_option maxRecDepth 20000 in
theorem ggX11_lacksWays_X11_isCandle : GoodIn wsX11_lacksWays wsX11_isCandle := goodIn_r _ [5, 6, 7, 4, 8] (by decide +kernel) (by decide +kernel)
set_option maxRecDepth 20000 in
theorem gX11_lacksWays_X11_isCandle : GoodIn wsX11_lacksWays (va_wsS RX11 160 yX11_isCandle wsX11_isCandle) := goodIn_app (goodIn_of _ (by decide +kernel)) ggX11_lacksWays_X11_isCandle
set_option maxRecDepth 20000 in
theorem ggX11_lacksWays_X11_isThing : GoodIn wsX11_lacksWays wsX11_isThing := goodIn_r _ [12, 13, 6, 7, 4, 8, 79, 80, 81, 82, 83, 84, 85, 86, 87, 88, 89, 90, 91, 92, 93, 94, 95, 96, 97, 98, 99, 100, 101, 102, 103, 104, 105, 106] (by decide +kernel) (by decide +kernel)
set_option maxRecDepth 20000 in
theorem gX11_lacksWays_X11_isThing : GoodIn wsX11_lacksWays (wsV RX11 174 RX11 yX11_isThing wsX11_isThing) := goodIn_app (goodIn_of _ (by decide +kernel)) ggX11_lacksWays_X11_isThing
set_option maxRecDepth 20000 in
theorem ggX11_ends_X11_in : GoodIn wsX11_ends wsX11_in := goodIn_r _ [4] (by decide +kernel) (by decide +kernel)
set_option maxRecDepth 20000 in
theorem gX11_ends_X11_in : GoodIn wsX11_ends (va_wsS RX11 70 yX11_in wsX11_in) := goodIn_app (goodIn_of _ (by decide +kernel)) ggX11_ends_X11_in
set_option maxRecDepth 20000 in
theorem ggX11_ends_X11_lacksWays : GoodIn wsX11_ends wsX11_lacksWays := goodIn_r _ [8, 9, 10, 11, 3, 12, 1, 2, 4, 13, 14, 15, 16, 17, 18, 19, 20, 21, 22, 23, 24, 25, 26, 27, 28, 29, 30, 31, 32, 33, 34, 35, 36, 37, 38, 39, 40, 41, 42, 43, 44, 45, 46, 47, 48, 49, 50, 51, 52, 53, 54, 55, 56, 57, 58, 59, 60, 61, 62, 63, 64, 65, 66, 67, 68, 69, 70, 71, 72, 73, 74, 75, 76, 77, 78, 79, 80, 81, 82, 91, 92, 93, 94, 95, 96, 97, 98, 99, 100, 101, 102, 103, 104, 105, 106, 107, 108, 109, 110, 111, 112, 113, 114, 115, 116, 117, 118] (by decide +kernel) (by decide +kernel)
set_option maxRecDepth 20000 in
theorem gX11_ends_X11_lacksWays : GoodIn wsX11_ends (wsV RX11 247 RX11 yX11_lacksWays wsX11_lacksWays) := goodIn_app (goodIn_of _ (by decide +kernel)) ggX11_ends_X11_lacksWays
set_option maxRecDepth 20000 in
theorem ggX11_odds_X11_isYear : GoodIn wsX11_odds wsX11_isYear := goodIn_r _ [6, 7, 8, 9, 5, 10] (by decide +kernel) (by decide +kernel)
set_option maxRecDepth 20000 in
theorem gX11_odds_X11_isYear : GoodIn wsX11_odds (va_wsS RX11 80 yX11_isYear wsX11_isYear) := goodIn_app (goodIn_of _ (by decide +kernel)) ggX11_odds_X11_isYear
set_option maxRecDepth 20000 in
theorem ggX11_odds_X11_in : GoodIn wsX11_odds wsX11_in := goodIn_r _ [10] (by decide +kernel) (by decide +kernel)
set_option maxRecDepth 20000 in
theorem gX11_odds_X11_in : GoodIn wsX11_odds (va_wsS RX11 70 yX11_in wsX11_in) := goodIn_app (goodIn_of _ (by decide +kernel)) ggX11_odds_X11_in
set_option maxRecDepth 20000 in
theorem ggX11_odds_X11_lacksWays : GoodIn wsX11_odds wsX11_lacksWays := goodIn_r _ [14, 2, 15, 16, 5, 17, 8, 9, 10, 18, 19, 20, 21, 22, 23, 24, 25, 26, 27, 28, 29, 30, 31, 32, 33, 34, 35, 36, 37, 38, 39, 40, 41, 42, 43, 44, 45, 46, 47, 48, 49, 50, 51, 52, 53, 54, 55, 56, 57, 58, 59, 60, 61, 62, 63, 64, 65, 66, 67, 68, 69, 70, 71, 72, 73, 74, 75, 76, 77, 78, 79, 80, 81, 82, 83, 84, 85, 86, 87, 98, 99, 100, 101, 102, 103, 104, 105, 106, 107, 108, 109, 110, 111, 112, 113, 114, 115, 116, 117, 118, 119, 120, 121, 122, 123, 124, 125] (by decide +kernel) (by decide +kernel)
set_option maxRecDepth 20000 in
theorem gX11_odds_X11_lacksWays : GoodIn wsX11_odds (wsV RX11 247 RX11 yX11_lacksWays wsX11_lacksWays) := goodIn_app (goodIn_of _ (by decide +kernel)) ggX11_odds_X11_lacksWays
set_option maxRecDepth 20000 in
theorem ggX11_lacksTwo_X11_isCandle : GoodIn wsX11_lacksTwo wsX11_isCandle := goodIn_r _ [5, 6, 7, 4, 8] (by decide +kernel) (by decide +kernel)
set_option maxRecDepth 20000 in
theorem gX11_lacksTwo_X11_isCandle : GoodIn wsX11_lacksTwo (va_wsS RX11 160 yX11_isCandle wsX11_isCandle) := goodIn_app (goodIn_of _ (by decide +kernel)) ggX11_lacksTwo_X11_isCandle
set_option maxRecDepth 20000 in
theorem ggX11_lacksTwo_X11_isThing : GoodIn wsX11_lacksTwo wsX11_isThing := goodIn_r _ [12, 13, 6, 7, 4, 8, 79, 80, 81, 82, 83, 84, 85, 86, 87, 88, 89, 90, 91, 92, 93, 94, 95, 96, 97, 98, 99, 100, 101, 102, 103, 104, 105, 106] (by decide +kernel) (by decide +kernel)
set_option maxRecDepth 20000 in
theorem gX11_lacksTwo_X11_isThing : GoodIn wsX11_lacksTwo (wsV RX11 174 RX11 yX11_isThing wsX11_isThing) := goodIn_app (goodIn_of _ (by decide +kernel)) ggX11_lacksTwo_X11_isThing
set_option maxRecDepth 20000 in
theorem ggX11_span_X11_in : GoodIn wsX11_span wsX11_in := goodIn_r _ [5] (by decide +kernel) (by decide +kernel)
set_option maxRecDepth 20000 in
theorem gX11_span_X11_in : GoodIn wsX11_span (va_wsS RX11 70 yX11_in wsX11_in) := goodIn_app (goodIn_of _ (by decide +kernel)) ggX11_span_X11_in
set_option maxRecDepth 20000 in
theorem ggX11_span_X11_lacksTwo : GoodIn wsX11_span wsX11_lacksTwo := goodIn_r _ [9, 10, 11, 12, 4, 13, 2, 3, 5, 14, 15, 16, 17, 18, 19, 20, 21, 22, 23, 24, 25, 26, 27, 28, 29, 30, 31, 32, 33, 34, 35, 36, 37, 38, 39, 40, 41, 42, 43, 44, 45, 46, 47, 48, 49, 50, 51, 52, 53, 54, 55, 56, 57, 58, 59, 60, 61, 62, 63, 64, 65, 66, 67, 68, 69, 70, 71, 72, 73, 74, 75, 76, 77, 78, 79, 80, 81, 82, 83, 92, 93, 94, 95, 96, 97, 98, 99, 100, 101, 102, 103, 104, 105, 106, 107, 108, 109, 110, 111, 112, 113, 114, 115, 116, 117, 118, 119] (by decide +kernel) (by decide +kernel)
set_option maxRecDepth 20000 in
theorem gX11_span_X11_lacksTwo : GoodIn wsX11_span (wsV RX11 261 RX11 yX11_lacksTwo wsX11_lacksTwo) := goodIn_app (goodIn_of _ (by decide +kernel)) ggX11_span_X11_lacksTwo
set_option maxRecDepth 20000 in
theorem ggX11_apart_X11_isYear : GoodIn wsX11_apart wsX11_isYear := goodIn_r _ [7, 8, 9, 10, 6, 11] (by decide +kernel) (by decide +kernel)
set_option maxRecDepth 20000 in
theorem gX11_apart_X11_isYear : GoodIn wsX11_apart (va_wsS RX11 80 yX11_isYear wsX11_isYear) := goodIn_app (goodIn_of _ (by decide +kernel)) ggX11_apart_X11_isYear
set_option maxRecDepth 20000 in
theorem ggX11_apart_X11_in : GoodIn wsX11_apart wsX11_in := goodIn_r _ [11] (by decide +kernel) (by decide +kernel)
set_option maxRecDepth 20000 in
theorem gX11_apart_X11_in : GoodIn wsX11_apart (va_wsS RX11 70 yX11_in wsX11_in) := goodIn_app (goodIn_of _ (by decide +kernel)) ggX11_apart_X11_in
set_option maxRecDepth 20000 in
theorem ggX11_apart_X11_lacksTwo : GoodIn wsX11_apart wsX11_lacksTwo := goodIn_r _ [15, 3, 16, 17, 6, 18, 9, 10, 11, 19, 20, 21, 22, 23, 24, 25, 26, 27, 28, 29, 30, 31, 32, 33, 34, 35, 36, 37, 38, 39, 40, 41, 42, 43, 44, 45, 46, 47, 48, 49, 50, 51, 52, 53, 54, 55, 56, 57, 58, 59, 60, 61, 62, 63, 64, 65, 66, 67, 68, 69, 70, 71, 72, 73, 74, 75, 76, 77, 78, 79, 80, 81, 82, 83, 84, 85, 86, 87, 88, 103, 104, 105, 106, 107, 108, 109, 110, 111, 112, 113, 114, 115, 116, 117, 118, 119, 120, 121, 122, 123, 124, 125, 126, 127, 128, 129, 130] (by decide +kernel) (by decide +kernel)
set_option maxRecDepth 20000 in
theorem gX11_apart_X11_lacksTwo : GoodIn wsX11_apart (wsV RX11 261 RX11 yX11_lacksTwo wsX11_lacksTwo) := goodIn_app (goodIn_of _ (by decide +kernel)) ggX11_apart_X11_lacksTwo
set_option maxRecDepth 20000 in
theorem ggX11_lacksAny_X11_placesOf : GoodIn wsX11_lacksAny wsX11_placesOf := goodIn_r _ [6, 7, 8, 9, 10, 5, 11, 73, 74, 75, 76, 77, 78, 79, 80, 81, 82, 83, 84, 85, 86, 87, 88, 89, 90, 91, 92, 93, 94, 95, 96, 97, 98, 99, 100] (by decide +kernel) (by decide +kernel)
set_option maxRecDepth 20000 in
theorem gX11_lacksAny_X11_placesOf : GoodIn wsX11_lacksAny (wsV RX11 189 RX11 yX11_placesOf wsX11_placesOf) := goodIn_app (goodIn_of _ (by decide +kernel)) ggX11_lacksAny_X11_placesOf
set_option maxRecDepth 20000 in
theorem ggX11_next_X11_isCandle : GoodIn wsX11_next wsX11_isCandle := goodIn_r _ [7, 8, 9, 6, 10] (by decide +kernel) (by decide +kernel)
set_option maxRecDepth 20000 in
theorem gX11_next_X11_isCandle : GoodIn wsX11_next (va_wsS RX11 160 yX11_isCandle wsX11_isCandle) := goodIn_app (goodIn_of _ (by decide +kernel)) ggX11_next_X11_isCandle
set_option maxRecDepth 20000 in
theorem ggX11_next_X11_in : GoodIn wsX11_next wsX11_in := goodIn_r _ [10] (by decide +kernel) (by decide +kernel)
set_option maxRecDepth 20000 in
theorem gX11_next_X11_in : GoodIn wsX11_next (va_wsS RX11 70 yX11_in wsX11_in) := goodIn_app (goodIn_of _ (by decide +kernel)) ggX11_next_X11_in
set_option maxRecDepth 20000 in
theorem ggX11_next_X11_lacksAny : GoodIn wsX11_next wsX11_lacksAny := goodIn_r _ [14, 15, 16, 17, 18, 6, 19, 20, 21, 22, 23, 24, 25, 26, 27, 28, 29, 30, 31, 32, 33, 34, 35, 36, 37, 38, 39, 40, 41, 42, 43, 44, 2, 45, 3, 46, 47, 48, 49, 50, 51, 52, 53, 54, 55, 56, 57, 58, 59, 60, 61, 62, 63, 64, 65, 66, 67, 68, 69, 70, 71, 72, 73, 74, 75, 76, 77, 78, 79, 80, 81, 82, 83, 88, 89, 90, 91, 92, 93, 94, 95, 96, 97, 98, 99, 100, 101, 102, 103, 104, 105, 106, 107, 108, 109, 110, 111, 112, 113, 114, 115] (by decide +kernel) (by decide +kernel)
set_option maxRecDepth 20000 in
theorem gX11_next_X11_lacksAny : GoodIn wsX11_next (wsV RX11 267 RX11 yX11_lacksAny wsX11_lacksAny) := goodIn_app (goodIn_of _ (by decide +kernel)) ggX11_next_X11_lacksAny
set_option maxRecDepth 20000 in
theorem ggX11_mustGo_X11_isCandle : GoodIn wsX11_mustGo wsX11_isCandle := goodIn_r _ [4, 5, 6, 3, 7] (by decide +kernel) (by decide +kernel)
set_option maxRecDepth 20000 in
theorem gX11_mustGo_X11_isCandle : GoodIn wsX11_mustGo (va_wsS RX11 160 yX11_isCandle wsX11_isCandle) := goodIn_app (goodIn_of _ (by decide +kernel)) ggX11_mustGo_X11_isCandle
set_option maxRecDepth 20000 in
theorem ggX11_mustGo_X11_placesOf : GoodIn wsX11_mustGo wsX11_placesOf := goodIn_r _ [11, 12, 13, 14, 15, 3, 16, 73, 74, 75, 76, 77, 78, 79, 80, 81, 82, 83, 84, 85, 86, 87, 88, 89, 90, 91, 92, 93, 94, 95, 96, 97, 98, 99, 100] (by decide +kernel) (by decide +kernel)
set_option maxRecDepth 20000 in
theorem gX11_mustGo_X11_placesOf : GoodIn wsX11_mustGo (wsV RX11 189 RX11 yX11_placesOf wsX11_placesOf) := goodIn_app (goodIn_of _ (by decide +kernel)) ggX11_mustGo_X11_placesOf
set_option maxRecDepth 20000 in
theorem ggX11_leans_X11_in : GoodIn wsX11_leans wsX11_in := goodIn_r _ [5] (by decide +kernel) (by decide +kernel)
set_option maxRecDepth 20000 in
theorem gX11_leans_X11_in : GoodIn wsX11_leans (va_wsS RX11 70 yX11_in wsX11_in) := goodIn_app (goodIn_of _ (by decide +kernel)) ggX11_leans_X11_in
set_option maxRecDepth 20000 in
theorem ggX11_leans_X11_isThing : GoodIn wsX11_leans wsX11_isThing := goodIn_r _ [13, 1, 2, 3, 4, 5, 80, 81, 82, 83, 84, 85, 86, 87, 88, 89, 90, 91, 92, 93, 94, 95, 96, 97, 98, 99, 100, 101, 102, 103, 104, 105, 106, 107] (by decide +kernel) (by decide +kernel)
set_option maxRecDepth 20000 in
theorem gX11_leans_X11_isThing : GoodIn wsX11_leans (wsV RX11 174 RX11 yX11_isThing wsX11_isThing) := goodIn_app (goodIn_of _ (by decide +kernel)) ggX11_leans_X11_isThing
set_option maxRecDepth 20000 in
theorem ggX11_judge_X11_isCandle : GoodIn wsX11_judge wsX11_isCandle := goodIn_r _ [8, 9, 10, 7, 11] (by decide +kernel) (by decide +kernel)
set_option maxRecDepth 20000 in
theorem gX11_judge_X11_isCandle : GoodIn wsX11_judge (va_wsS RX11 160 yX11_isCandle wsX11_isCandle) := goodIn_app (goodIn_of _ (by decide +kernel)) ggX11_judge_X11_isCandle
set_option maxRecDepth 20000 in
theorem ggX11_judge_X11_isSheet : GoodIn wsX11_judge wsX11_isSheet := goodIn_r _ [14, 15, 16, 9, 10, 7, 11] (by decide +kernel) (by decide +kernel)
set_option maxRecDepth 20000 in
theorem gX11_judge_X11_isSheet : GoodIn wsX11_judge (va_wsS RX11 276 yX11_isSheet wsX11_isSheet) := goodIn_app (goodIn_of _ (by decide +kernel)) ggX11_judge_X11_isSheet
set_option maxRecDepth 20000 in
theorem ggX11_judge_X11_placesOf : GoodIn wsX11_judge wsX11_placesOf := goodIn_r _ [20, 21, 22, 23, 24, 7, 25, 73, 74, 75, 76, 77, 78, 79, 80, 81, 82, 83, 84, 85, 86, 87, 88, 89, 90, 91, 92, 93, 94, 95, 96, 97, 98, 99, 100] (by decide +kernel) (by decide +kernel)
set_option maxRecDepth 20000 in
theorem gX11_judge_X11_placesOf : GoodIn wsX11_judge (wsV RX11 189 RX11 yX11_placesOf wsX11_placesOf) := goodIn_app (goodIn_of _ (by decide +kernel)) ggX11_judge_X11_placesOf
set_option maxRecDepth 20000 in
theorem ggX11_judge_X11_lacksRow : GoodIn wsX11_judge wsX11_lacksRow := goodIn_r _ [29, 30, 31, 9, 10, 7, 11, 73, 74, 75, 76, 77, 78, 79, 80, 81, 82, 83, 84, 85, 86, 87, 88, 89, 90, 91, 92, 93, 94, 95, 96, 97, 98, 99, 100] (by decide +kernel) (by decide +kernel)
set_option maxRecDepth 20000 in
theorem gX11_judge_X11_lacksRow : GoodIn wsX11_judge (wsV RX11 279 RX11 yX11_lacksRow wsX11_lacksRow) := goodIn_app (goodIn_of _ (by decide +kernel)) ggX11_judge_X11_lacksRow
set_option maxRecDepth 20000 in
theorem ggX11_judge_X11_isYear : GoodIn wsX11_judge wsX11_isYear := goodIn_r _ [67, 68, 9, 10, 7, 11] (by decide +kernel) (by decide +kernel)
set_option maxRecDepth 20000 in
theorem gX11_judge_X11_isYear : GoodIn wsX11_judge (va_wsS RX11 80 yX11_isYear wsX11_isYear) := goodIn_app (goodIn_of _ (by decide +kernel)) ggX11_judge_X11_isYear
set_option maxRecDepth 20000 in
theorem ggX11_oneYear_X11_isThing : GoodIn wsX11_oneYear wsX11_isThing := goodIn_r _ [10, 11, 12, 13, 9, 14, 101, 102, 103, 104, 105, 106, 107, 108, 109, 110, 111, 112, 113, 114, 115, 116, 117, 118, 119, 120, 121, 122, 123, 124, 125, 126, 127, 128] (by decide +kernel) (by decide +kernel)
set_option maxRecDepth 20000 in
theorem gX11_oneYear_X11_isThing : GoodIn wsX11_oneYear (wsV RX11 174 RX11 yX11_isThing wsX11_isThing) := goodIn_app (goodIn_of _ (by decide +kernel)) ggX11_oneYear_X11_isThing
set_option maxRecDepth 20000 in
theorem ggX11_oneYear_X11_in : GoodIn wsX11_oneYear wsX11_in := goodIn_r _ [14] (by decide +kernel) (by decide +kernel)
set_option maxRecDepth 20000 in
theorem gX11_oneYear_X11_in : GoodIn wsX11_oneYear (va_wsS RX11 70 yX11_in wsX11_in) := goodIn_app (goodIn_of _ (by decide +kernel)) ggX11_oneYear_X11_in
set_option maxRecDepth 20000 in
theorem ggX11_tie_X11_in : GoodIn wsX11_tie wsX11_in := goodIn_r _ [14] (by decide +kernel) (by decide +kernel)
set_option maxRecDepth 20000 in
theorem gX11_tie_X11_in : GoodIn wsX11_tie (va_wsS RX11 70 yX11_in wsX11_in) := goodIn_app (goodIn_of _ (by decide +kernel)) ggX11_tie_X11_in
set_option maxRecDepth 20000 in
theorem ggX11_tie_X11_placesOf : GoodIn wsX11_tie wsX11_placesOf := goodIn_r _ [18, 19, 20, 21, 22, 13, 23, 96, 97, 98, 99, 100, 101, 102, 103, 104, 105, 106, 107, 108, 109, 110, 111, 112, 113, 114, 115, 116, 117, 118, 119, 120, 121, 122, 123] (by decide +kernel) (by decide +kernel)
set_option maxRecDepth 20000 in
theorem gX11_tie_X11_placesOf : GoodIn wsX11_tie (wsV RX11 189 RX11 yX11_placesOf wsX11_placesOf) := goodIn_app (goodIn_of _ (by decide +kernel)) ggX11_tie_X11_placesOf
set_option maxRecDepth 20000 in
theorem ggX11_isClaim_X11_in : GoodIn wsX11_isClaim wsX11_in := goodIn_r _ [5] (by decide +kernel) (by decide +kernel)
set_option maxRecDepth 20000 in
theorem gX11_isClaim_X11_in : GoodIn wsX11_isClaim (va_wsS RX11 70 yX11_in wsX11_in) := goodIn_app (goodIn_of _ (by decide +kernel)) ggX11_isClaim_X11_in
set_option maxRecDepth 20000 in
theorem ggX11_chance_X11_isClaim : GoodIn wsX11_chance wsX11_isClaim := goodIn_r _ [7, 8, 9, 10, 6, 11, 135, 136, 137, 138, 139, 140, 141, 142, 143, 144, 145, 146, 147, 148, 149, 150, 151, 152, 153, 154, 155, 156, 157, 158, 159, 160, 161, 162] (by decide +kernel) (by decide +kernel)
set_option maxRecDepth 20000 in
theorem gX11_chance_X11_isClaim : GoodIn wsX11_chance (wsV RX11 326 RX11 yX11_isClaim wsX11_isClaim) := goodIn_app (goodIn_of _ (by decide +kernel)) ggX11_chance_X11_isClaim
set_option maxRecDepth 20000 in
theorem ggX11_chance_X11_isCandle : GoodIn wsX11_chance wsX11_isCandle := goodIn_r _ [14, 9, 10, 6, 11] (by decide +kernel) (by decide +kernel)
set_option maxRecDepth 20000 in
theorem gX11_chance_X11_isCandle : GoodIn wsX11_chance (va_wsS RX11 160 yX11_isCandle wsX11_isCandle) := goodIn_app (goodIn_of _ (by decide +kernel)) ggX11_chance_X11_isCandle
set_option maxRecDepth 20000 in
theorem ggX11_chance_X11_in : GoodIn wsX11_chance wsX11_in := goodIn_r _ [11] (by decide +kernel) (by decide +kernel)
set_option maxRecDepth 20000 in
theorem gX11_chance_X11_in : GoodIn wsX11_chance (va_wsS RX11 70 yX11_in wsX11_in) := goodIn_app (goodIn_of _ (by decide +kernel)) ggX11_chance_X11_in
set_option maxRecDepth 20000 in
theorem ggX11_chance_X11_lacksAny : GoodIn wsX11_chance wsX11_lacksAny := goodIn_r _ [18, 2, 19, 20, 21, 6, 22, 8, 23, 24, 25, 26, 27, 28, 29, 30, 31, 32, 33, 34, 35, 36, 37, 38, 39, 40, 41, 42, 43, 44, 45, 46, 47, 48, 49, 50, 51, 52, 53, 54, 55, 56, 57, 58, 59, 60, 61, 62, 63, 64, 65, 66, 67, 68, 69, 70, 71, 72, 73, 74, 75, 76, 77, 78, 79, 80, 81, 82, 83, 84, 85, 86, 87, 135, 136, 137, 138, 139, 140, 141, 142, 143, 144, 145, 146, 147, 148, 149, 150, 151, 152, 153, 154, 155, 156, 157, 158, 159, 160, 161, 162] (by decide +kernel) (by decide +kernel)
set_option maxRecDepth 20000 in
theorem gX11_chance_X11_lacksAny : GoodIn wsX11_chance (wsV RX11 267 RX11 yX11_lacksAny wsX11_lacksAny) := goodIn_app (goodIn_of _ (by decide +kernel)) ggX11_chance_X11_lacksAny
set_option maxRecDepth 20000 in
theorem ggX11_holds_X11_isClaim : GoodIn wsX11_holds wsX11_isClaim := goodIn_r _ [6, 1, 7, 8, 5, 9, 33, 34, 35, 36, 37, 38, 39, 40, 41, 42, 43, 44, 45, 46, 47, 48, 49, 50, 51, 52, 53, 54, 55, 56, 57, 58, 59, 60] (by decide +kernel) (by decide +kernel)
set_option maxRecDepth 20000 in
theorem gX11_holds_X11_isClaim : GoodIn wsX11_holds (wsV RX11 326 RX11 yX11_isClaim wsX11_isClaim) := goodIn_app (goodIn_of _ (by decide +kernel)) ggX11_holds_X11_isClaim
set_option maxRecDepth 20000 in
theorem ggX11_holds_X11_isCandle : GoodIn wsX11_holds wsX11_isCandle := goodIn_r _ [12, 7, 8, 5, 9] (by decide +kernel) (by decide +kernel)
set_option maxRecDepth 20000 in
theorem gX11_holds_X11_isCandle : GoodIn wsX11_holds (va_wsS RX11 160 yX11_isCandle wsX11_isCandle) := goodIn_app (goodIn_of _ (by decide +kernel)) ggX11_holds_X11_isCandle
set_option maxRecDepth 20000 in
theorem ggX11_looked_X11_isClaim : GoodIn wsX11_looked wsX11_isClaim := goodIn_r _ [8, 2, 9, 10, 7, 11, 129, 130, 131, 132, 133, 134, 135, 136, 137, 138, 139, 140, 141, 142, 143, 144, 145, 146, 147, 148, 149, 150, 151, 152, 153, 154, 155, 156] (by decide +kernel) (by decide +kernel)
set_option maxRecDepth 20000 in
theorem gX11_looked_X11_isClaim : GoodIn wsX11_looked (wsV RX11 326 RX11 yX11_isClaim wsX11_isClaim) := goodIn_app (goodIn_of _ (by decide +kernel)) ggX11_looked_X11_isClaim
set_option maxRecDepth 20000 in
theorem ggX11_looked_X11_isCandle : GoodIn wsX11_looked wsX11_isCandle := goodIn_r _ [14, 9, 10, 7, 11] (by decide +kernel) (by decide +kernel)
set_option maxRecDepth 20000 in
theorem gX11_looked_X11_isCandle : GoodIn wsX11_looked (va_wsS RX11 160 yX11_isCandle wsX11_isCandle) := goodIn_app (goodIn_of _ (by decide +kernel)) ggX11_looked_X11_isCandle
set_option maxRecDepth 20000 in
theorem ggX11_looked_X11_in : GoodIn wsX11_looked wsX11_in := goodIn_r _ [11] (by decide +kernel) (by decide +kernel)
set_option maxRecDepth 20000 in
theorem gX11_looked_X11_in : GoodIn wsX11_looked (va_wsS RX11 70 yX11_in wsX11_in) := goodIn_app (goodIn_of _ (by decide +kernel)) ggX11_looked_X11_in
set_option maxRecDepth 20000 in
theorem ggX11_looked_X11_lacksAny : GoodIn wsX11_looked wsX11_lacksAny := goodIn_r _ [18, 3, 19, 20, 21, 7, 22, 2, 23, 24, 25, 26, 27, 28, 29, 30, 31, 32, 33, 34, 35, 36, 37, 38, 39, 40, 41, 42, 43, 44, 45, 46, 47, 48, 49, 50, 51, 52, 53, 54, 55, 56, 57, 58, 59, 60, 61, 62, 63, 64, 65, 66, 67, 68, 69, 70, 71, 72, 73, 74, 75, 76, 77, 78, 79, 80, 81, 82, 83, 84, 85, 86, 87, 129, 130, 131, 132, 133, 134, 135, 136, 137, 138, 139, 140, 141, 142, 143, 144, 145, 146, 147, 148, 149, 150, 151, 152, 153, 154, 155, 156] (by decide +kernel) (by decide +kernel)
set_option maxRecDepth 20000 in
theorem gX11_looked_X11_lacksAny : GoodIn wsX11_looked (wsV RX11 267 RX11 yX11_lacksAny wsX11_lacksAny) := goodIn_app (goodIn_of _ (by decide +kernel)) ggX11_looked_X11_lacksAny
set_option maxRecDepth 20000 in
theorem ggX11_cause_X11_in : GoodIn wsX11_cause wsX11_in := goodIn_r _ [7] (by decide +kernel) (by decide +kernel)
set_option maxRecDepth 20000 in
theorem gX11_cause_X11_in : GoodIn wsX11_cause (va_wsS RX11 70 yX11_in wsX11_in) := goodIn_app (goodIn_of _ (by decide +kernel)) ggX11_cause_X11_in
set_option maxRecDepth 20000 in
theorem ggX11_says_X11_isCandle : GoodIn wsX11_says wsX11_isCandle := goodIn_r _ [6, 7, 8, 5, 9] (by decide +kernel) (by decide +kernel)
set_option maxRecDepth 20000 in
theorem gX11_says_X11_isCandle : GoodIn wsX11_says (va_wsS RX11 160 yX11_isCandle wsX11_isCandle) := goodIn_app (goodIn_of _ (by decide +kernel)) ggX11_says_X11_isCandle
set_option maxRecDepth 20000 in
theorem ggX11_says_X11_isThing : GoodIn wsX11_says wsX11_isThing := goodIn_r _ [13, 2, 7, 8, 5, 9, 29, 30, 31, 32, 33, 34, 35, 36, 37, 38, 39, 40, 41, 42, 43, 44, 45, 46, 47, 48, 49, 50, 51, 52, 53, 54, 55, 56] (by decide +kernel) (by decide +kernel)
set_option maxRecDepth 20000 in
theorem gX11_says_X11_isThing : GoodIn wsX11_says (wsV RX11 174 RX11 yX11_isThing wsX11_isThing) := goodIn_app (goodIn_of _ (by decide +kernel)) ggX11_says_X11_isThing
set_option maxRecDepth 20000 in
theorem ggX11_says_X11_in : GoodIn wsX11_says wsX11_in := goodIn_r _ [9] (by decide +kernel) (by decide +kernel)
set_option maxRecDepth 20000 in
theorem gX11_says_X11_in : GoodIn wsX11_says (va_wsS RX11 70 yX11_in wsX11_in) := goodIn_app (goodIn_of _ (by decide +kernel)) ggX11_says_X11_in
set_option maxRecDepth 20000 in
theorem ggX11_isSheet_X11_in : GoodIn wsX11_isSheet wsX11_in := goodIn_r _ [6] (by decide +kernel) (by decide +kernel)
set_option maxRecDepth 20000 in
theorem gX11_isSheet_X11_in : GoodIn wsX11_isSheet (va_wsS RX11 70 yX11_in wsX11_in) := goodIn_app (goodIn_of _ (by decide +kernel)) ggX11_isSheet_X11_in
set_option maxRecDepth 20000 in
theorem ggX11_sheet_X11_isSheet : GoodIn wsX11_sheet wsX11_isSheet := goodIn_r _ [7, 8, 9, 10, 11, 6, 12] (by decide +kernel) (by decide +kernel)
set_option maxRecDepth 20000 in
theorem gX11_sheet_X11_isSheet : GoodIn wsX11_sheet (va_wsS RX11 276 yX11_isSheet wsX11_isSheet) := goodIn_app (goodIn_of _ (by decide +kernel)) ggX11_sheet_X11_isSheet
set_option maxRecDepth 20000 in
theorem ggX11_drop_X11_in : GoodIn wsX11_drop wsX11_in := goodIn_r _ [7] (by decide +kernel) (by decide +kernel)
set_option maxRecDepth 20000 in
theorem gX11_drop_X11_in : GoodIn wsX11_drop (va_wsS RX11 70 yX11_in wsX11_in) := goodIn_app (goodIn_of _ (by decide +kernel)) ggX11_drop_X11_in
set_option maxRecDepth 20000 in
theorem ggX11_lacksRow_X11_in : GoodIn wsX11_lacksRow wsX11_in := goodIn_r _ [6] (by decide +kernel) (by decide +kernel)
set_option maxRecDepth 20000 in
theorem gX11_lacksRow_X11_in : GoodIn wsX11_lacksRow (va_wsS RX11 70 yX11_in wsX11_in) := goodIn_app (goodIn_of _ (by decide +kernel)) ggX11_lacksRow_X11_in
set_option maxRecDepth 20000 in
theorem ggX11_item_X11_isSheet : GoodIn wsX11_item wsX11_isSheet := goodIn_r _ [5, 6, 7, 8, 9, 4, 10] (by decide +kernel) (by decide +kernel)
set_option maxRecDepth 20000 in
theorem gX11_item_X11_isSheet : GoodIn wsX11_item (va_wsS RX11 276 yX11_isSheet wsX11_isSheet) := goodIn_app (goodIn_of _ (by decide +kernel)) ggX11_item_X11_isSheet
set_option maxRecDepth 20000 in
theorem ggX11_item_X11_lacksRow : GoodIn wsX11_item wsX11_lacksRow := goodIn_r _ [14, 15, 16, 8, 9, 4, 10, 17, 18, 19, 20, 21, 22, 23, 24, 25, 26, 27, 28, 29, 30, 31, 32, 33, 34, 35, 36, 37, 38, 39, 40, 41, 42, 43, 44] (by decide +kernel) (by decide +kernel)
set_option maxRecDepth 20000 in
theorem gX11_item_X11_lacksRow : GoodIn wsX11_item (wsV RX11 279 RX11 yX11_lacksRow wsX11_lacksRow) := goodIn_app (goodIn_of _ (by decide +kernel)) ggX11_item_X11_lacksRow
set_option maxRecDepth 20000 in
theorem ggX11_rains_X11_in : GoodIn wsX11_rains wsX11_in := goodIn_r _ [8] (by decide +kernel) (by decide +kernel)
set_option maxRecDepth 20000 in
theorem gX11_rains_X11_in : GoodIn wsX11_rains (va_wsS RX11 70 yX11_in wsX11_in) := goodIn_app (goodIn_of _ (by decide +kernel)) ggX11_rains_X11_in
set_option maxRecDepth 20000 in
theorem ggX11_rains_X11_isSheet : GoodIn wsX11_rains wsX11_isSheet := goodIn_r _ [11, 12, 1, 5, 6, 7, 8] (by decide +kernel) (by decide +kernel)
set_option maxRecDepth 20000 in
theorem gX11_rains_X11_isSheet : GoodIn wsX11_rains (va_wsS RX11 276 yX11_isSheet wsX11_isSheet) := goodIn_app (goodIn_of _ (by decide +kernel)) ggX11_rains_X11_isSheet
set_option maxRecDepth 20000 in
theorem ggX11_rains_X11_lacksRow : GoodIn wsX11_rains wsX11_lacksRow := goodIn_r _ [16, 17, 18, 5, 6, 7, 8, 25, 26, 27, 28, 29, 30, 31, 32, 33, 34, 35, 36, 37, 38, 39, 40, 41, 42, 43, 44, 45, 46, 47, 48, 49, 50, 51, 52] (by decide +kernel) (by decide +kernel)
set_option maxRecDepth 20000 in
theorem gX11_rains_X11_lacksRow : GoodIn wsX11_rains (wsV RX11 279 RX11 yX11_lacksRow wsX11_lacksRow) := goodIn_app (goodIn_of _ (by decide +kernel)) ggX11_rains_X11_lacksRow
set_option maxRecDepth 20000 in
theorem ggX11_rains_X11_mayRain : GoodIn wsX11_rains wsX11_mayRain := goodIn_r _ [21, 22, 23, 24, 5, 6, 7, 8] (by decide +kernel) (by decide +kernel)
set_option maxRecDepth 20000 in
theorem gX11_rains_X11_mayRain : GoodIn wsX11_rains (va_wsS RX11 84 yX11_mayRain wsX11_mayRain) := goodIn_app (goodIn_of _ (by decide +kernel)) ggX11_rains_X11_mayRain
set_option maxRecDepth 20000 in
theorem ggX11_learn_X11_isSheet : GoodIn wsX11_learn wsX11_isSheet := goodIn_r _ [7, 8, 9, 10, 11, 6, 12] (by decide +kernel) (by decide +kernel)
set_option maxRecDepth 20000 in
theorem gX11_learn_X11_isSheet : GoodIn wsX11_learn (va_wsS RX11 276 yX11_isSheet wsX11_isSheet) := goodIn_app (goodIn_of _ (by decide +kernel)) ggX11_learn_X11_isSheet
set_option maxRecDepth 20000 in
theorem ggX11_learn_X11_in : GoodIn wsX11_learn wsX11_in := goodIn_r _ [12] (by decide +kernel) (by decide +kernel)
set_option maxRecDepth 20000 in
theorem gX11_learn_X11_in : GoodIn wsX11_learn (va_wsS RX11 70 yX11_in wsX11_in) := goodIn_app (goodIn_of _ (by decide +kernel)) ggX11_learn_X11_in
set_option maxRecDepth 20000 in
theorem ggX11_learn_X11_lacksRow : GoodIn wsX11_learn wsX11_lacksRow := goodIn_r _ [16, 17, 18, 10, 11, 6, 12, 36, 37, 38, 39, 40, 41, 42, 43, 44, 45, 46, 47, 48, 49, 50, 51, 52, 53, 54, 55, 56, 57, 58, 59, 60, 61, 62, 63] (by decide +kernel) (by decide +kernel)
set_option maxRecDepth 20000 in
theorem gX11_learn_X11_lacksRow : GoodIn wsX11_learn (wsV RX11 279 RX11 yX11_lacksRow wsX11_lacksRow) := goodIn_app (goodIn_of _ (by decide +kernel)) ggX11_learn_X11_lacksRow
set_option maxRecDepth 20000 in
theorem ggX11_learn_X11_isYear : GoodIn wsX11_learn wsX11_isYear := goodIn_r _ [21, 22, 10, 11, 6, 12] (by decide +kernel) (by decide +kernel)
set_option maxRecDepth 20000 in
theorem gX11_learn_X11_isYear : GoodIn wsX11_learn (va_wsS RX11 80 yX11_isYear wsX11_isYear) := goodIn_app (goodIn_of _ (by decide +kernel)) ggX11_learn_X11_isYear
