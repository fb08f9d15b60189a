set_option maxRecDepth 20000 in
theorem ggX0_bit_X0_at : GoodIn wsX0_bit wsX0_at := goodIn_r _ [5, 6, 7, 8, 9] (by decide +kernel) (by decide +kernel)
set_option maxRecDepth 20000 in
theorem gX0_bit_X0_at : GoodIn wsX0_bit (wsV RX0 19 RX0 yX0_at wsX0_at) := goodIn_app (goodIn_of _ (by decide +kernel)) ggX0_bit_X0_at
set_option maxRecDepth 20000 in
theorem ggX2_init_X3_init : GoodIn wsX2_init wsX3_init := goodIn_r _ [9, 10, 11, 12] (by decide +kernel) (by decide +kernel)
set_option maxRecDepth 20000 in
theorem gX2_init_X3_init_n5 : GoodIn wsX2_init (wsX3_init) := ggX2_init_X3_init
set_option maxRecDepth 20000 in
theorem ggX2_load_X0_at : GoodIn wsX2_load wsX0_at := goodIn_r _ [9, 10, 11, 26, 27] (by decide +kernel) (by decide +kernel)
set_option maxRecDepth 20000 in
theorem gX2_load_X0_at : GoodIn wsX2_load (wsV RX2 28 RX0 yX0_at wsX0_at) := goodIn_app (goodIn_of _ (by decide +kernel)) ggX2_load_X0_at
set_option maxRecDepth 20000 in
theorem ggX2_load_X2_exchange : GoodIn wsX2_load wsX2_exchange := goodIn_r _ [16, 1, 21, 22, 23, 24, 25] (by decide +kernel) (by decide +kernel)
set_option maxRecDepth 20000 in
theorem gX2_load_X2_exchange : GoodIn wsX2_load (wsV RX2 34 RX2 yX2_exchange wsX2_exchange) := goodIn_app (goodIn_of _ (by decide +kernel)) ggX2_load_X2_exchange
set_option maxRecDepth 20000 in
theorem ggX2_load_X0_size : GoodIn wsX2_load wsX0_size := goodIn_r _ [20, 10, 26, 27] (by decide +kernel) (by decide +kernel)
set_option maxRecDepth 20000 in
theorem gX2_load_X0_size : GoodIn wsX2_load (wsV RX2 38 RX0 yX0_size wsX0_size) := goodIn_app (goodIn_of _ (by decide +kernel)) ggX2_load_X0_size
set_option maxRecDepth 20000 in
theorem ggX2_nextBit_X2_nextByte : GoodIn wsX2_nextBit wsX2_nextByte := goodIn_r _ [7, 8, 9, 10, 11, 12, 13, 6, 14, 15, 16, 17, 18, 19] (by decide +kernel) (by decide +kernel)
set_option maxRecDepth 20000 in
theorem gX2_nextBit_X2_nextByte : GoodIn wsX2_nextBit (wsV RX2 42 RX2 yX2_nextByte wsX2_nextByte) := goodIn_app (goodIn_of _ (by decide +kernel)) ggX2_nextBit_X2_nextByte
set_option maxRecDepth 20000 in
theorem ggX2_nextByte_X2_exchange : GoodIn wsX2_nextByte wsX2_exchange := goodIn_r _ [8, 3, 9, 10, 11, 12, 13] (by decide +kernel) (by decide +kernel)
set_option maxRecDepth 20000 in
theorem gX2_nextByte_X2_exchange : GoodIn wsX2_nextByte (wsV RX2 34 RX2 yX2_exchange wsX2_exchange) := goodIn_app (goodIn_of _ (by decide +kernel)) ggX2_nextByte_X2_exchange
set_option maxRecDepth 20000 in
theorem ggX4_init_X3_init : GoodIn wsX4_init wsX3_init := goodIn_r _ [9, 10, 11, 12] (by decide +kernel) (by decide +kernel)
set_option maxRecDepth 20000 in
theorem gX4_init_X3_init_n1 : GoodIn wsX4_init (wsX3_init) := ggX4_init_X3_init
set_option maxRecDepth 20000 in
theorem ggX4_init_X1_init : GoodIn wsX4_init wsX1_init := goodIn_r _ [15, 16, 11, 12, 17, 18, 19, 20] (by decide +kernel) (by decide +kernel)
set_option maxRecDepth 20000 in
theorem gX4_init_X1_init : GoodIn wsX4_init (wsX1_init) := ggX4_init_X1_init
set_option maxRecDepth 20000 in
theorem ggX4_load_X1_clear : GoodIn wsX4_load wsX1_clear := goodIn_r _ [8, 9, 10, 42, 43] (by decide +kernel) (by decide +kernel)
set_option maxRecDepth 20000 in
theorem gX4_load_X1_clear : GoodIn wsX4_load (wsV RX4 22 RX1 yX1_clear wsX1_clear) := goodIn_app (goodIn_of _ (by decide +kernel)) ggX4_load_X1_clear
set_option maxRecDepth 20000 in
theorem ggX4_load_X0_bit : GoodIn wsX4_load wsX0_bit := goodIn_r _ [15, 16, 17, 18, 14, 19, 20, 21, 44, 45] (by decide +kernel) (by decide +kernel)
set_option maxRecDepth 20000 in
theorem gX4_load_X0_bit : GoodIn wsX4_load (wsV RX4 25 RX0 yX0_bit wsX0_bit) := goodIn_app (goodIn_of _ (by decide +kernel)) ggX4_load_X0_bit
set_option maxRecDepth 20000 in
theorem ggX4_load_X1_add : GoodIn wsX4_load wsX1_add := goodIn_r _ [25, 9, 10, 42, 43] (by decide +kernel) (by decide +kernel)
set_option maxRecDepth 20000 in
theorem gX4_load_X1_add : GoodIn wsX4_load (wsV RX4 31 RX1 yX1_add wsX1_add) := goodIn_app (goodIn_of _ (by decide +kernel)) ggX4_load_X1_add
set_option maxRecDepth 20000 in
theorem ggX4_load_X4_nextBit : GoodIn wsX4_load wsX4_nextBit := goodIn_r _ [30, 1, 2, 3, 31, 32, 33, 7, 34, 9, 10, 35, 36, 37, 38, 39, 40, 41, 42, 43] (by decide +kernel) (by decide +kernel)
set_option maxRecDepth 20000 in
theorem gX4_load_X4_nextBit : GoodIn wsX4_load (wsV RX4 35 RX4 yX4_nextBit wsX4_nextBit) := goodIn_app (goodIn_of _ (by decide +kernel)) ggX4_load_X4_nextBit
set_option maxRecDepth 20000 in
theorem ggX4_nextBit_X1_at : GoodIn wsX4_nextBit wsX1_at := goodIn_r _ [8, 9, 10, 18, 19] (by decide +kernel) (by decide +kernel)
set_option maxRecDepth 20000 in
theorem gX4_nextBit_X1_at : GoodIn wsX4_nextBit (wsV RX4 39 RX1 yX1_at wsX1_at) := goodIn_app (goodIn_of _ (by decide +kernel)) ggX4_nextBit_X1_at
set_option maxRecDepth 20000 in
theorem ggX4_nextBit_X1_moveUp : GoodIn wsX4_nextBit wsX1_moveUp := goodIn_r _ [14, 10, 9, 18, 19] (by decide +kernel) (by decide +kernel)
set_option maxRecDepth 20000 in
theorem gX4_nextBit_X1_moveUp : GoodIn wsX4_nextBit (wsV RX4 42 RX1 yX1_moveUp wsX1_moveUp) := goodIn_app (goodIn_of _ (by decide +kernel)) ggX4_nextBit_X1_moveUp
set_option maxRecDepth 20000 in
theorem ggX5_init_X3_init : GoodIn wsX5_init wsX3_init := goodIn_r _ [9, 10, 11, 12] (by decide +kernel) (by decide +kernel)
set_option maxRecDepth 20000 in
theorem gX5_init_X3_init_n1 : GoodIn wsX5_init (wsX3_init) := ggX5_init_X3_init
set_option maxRecDepth 20000 in
theorem ggX5_init_X1_init : GoodIn wsX5_init wsX1_init := goodIn_r _ [15, 16, 11, 12, 17, 18, 19, 20] (by decide +kernel) (by decide +kernel)
set_option maxRecDepth 20000 in
theorem gX5_init_X1_init : GoodIn wsX5_init (wsX1_init) := ggX5_init_X1_init
set_option maxRecDepth 20000 in
theorem ggX5_load_X1_clear : GoodIn wsX5_load wsX1_clear := goodIn_r _ [8, 9, 10, 58, 59] (by decide +kernel) (by decide +kernel)
set_option maxRecDepth 20000 in
theorem gX5_load_X1_clear : GoodIn wsX5_load (wsV RX5 22 RX1 yX1_clear wsX1_clear) := goodIn_app (goodIn_of _ (by decide +kernel)) ggX5_load_X1_clear
set_option maxRecDepth 20000 in
theorem ggX5_load_X0_bit : GoodIn wsX5_load wsX0_bit := goodIn_r _ [15, 16, 17, 18, 14, 19, 20, 21, 60, 61] (by decide +kernel) (by decide +kernel)
set_option maxRecDepth 20000 in
theorem gX5_load_X0_bit : GoodIn wsX5_load (wsV RX5 25 RX0 yX0_bit wsX0_bit) := goodIn_app (goodIn_of _ (by decide +kernel)) ggX5_load_X0_bit
set_option maxRecDepth 20000 in
theorem ggX5_load_X5_feed : GoodIn wsX5_load wsX5_feed := goodIn_r _ [26, 1, 2, 3, 27, 28, 29, 25, 30, 31, 32, 33, 7, 34, 9, 10, 35, 36, 37, 38, 39, 40, 41, 42, 43, 44, 45, 46, 47, 48, 49, 50, 55, 56, 57, 58, 59] (by decide +kernel) (by decide +kernel)
set_option maxRecDepth 20000 in
theorem gX5_load_X5_feed : GoodIn wsX5_load (wsV RX5 31 RX5 yX5_feed wsX5_feed) := goodIn_app (goodIn_of _ (by decide +kernel)) ggX5_load_X5_feed
set_option maxRecDepth 20000 in
theorem ggX5_load_X5_nextBit : GoodIn wsX5_load wsX5_nextBit := goodIn_r _ [54, 1, 2, 3, 31, 32, 33, 7, 34, 9, 10, 27, 28, 29, 25, 30, 35, 36, 37, 38, 39, 40, 41, 42, 43, 44, 45, 46, 55, 56, 57, 58, 59] (by decide +kernel) (by decide +kernel)
set_option maxRecDepth 20000 in
theorem gX5_load_X5_nextBit : GoodIn wsX5_load (wsV RX5 35 RX5 yX5_nextBit wsX5_nextBit) := goodIn_app (goodIn_of _ (by decide +kernel)) ggX5_load_X5_nextBit
set_option maxRecDepth 20000 in
theorem ggX5_nextBit_X1_at : GoodIn wsX5_nextBit wsX1_at := goodIn_r _ [8, 9, 10, 31, 32] (by decide +kernel) (by decide +kernel)
set_option maxRecDepth 20000 in
theorem gX5_nextBit_X1_at : GoodIn wsX5_nextBit (wsV RX5 39 RX1 yX1_at wsX1_at) := goodIn_app (goodIn_of _ (by decide +kernel)) ggX5_nextBit_X1_at
set_option maxRecDepth 20000 in
theorem ggX5_nextBit_X5_goX : GoodIn wsX5_nextBit wsX5_goX := goodIn_r _ [15, 1, 4, 5, 6, 7, 8, 9, 10, 16, 17, 18, 19, 28, 29, 30, 31, 32] (by decide +kernel) (by decide +kernel)
set_option maxRecDepth 20000 in
theorem gX5_nextBit_X5_goX : GoodIn wsX5_nextBit (wsV RX5 42 RX5 yX5_goX wsX5_goX) := goodIn_app (goodIn_of _ (by decide +kernel)) ggX5_nextBit_X5_goX
set_option maxRecDepth 20000 in
theorem ggX5_nextBit_X5_goY : GoodIn wsX5_nextBit wsX5_goY := goodIn_r _ [23, 2, 4, 5, 6, 7, 8, 9, 10, 16, 17, 18, 19, 28, 29, 30, 31, 32] (by decide +kernel) (by decide +kernel)
set_option maxRecDepth 20000 in
theorem gX5_nextBit_X5_goY : GoodIn wsX5_nextBit (wsV RX5 45 RX5 yX5_goY wsX5_goY) := goodIn_app (goodIn_of _ (by decide +kernel)) ggX5_nextBit_X5_goY
set_option maxRecDepth 20000 in
theorem ggX5_nextBit_X5_goZ : GoodIn wsX5_nextBit wsX5_goZ := goodIn_r _ [27, 3, 4, 5, 6, 7, 8, 9, 10, 16, 17, 18, 19, 28, 29, 30, 31, 32] (by decide +kernel) (by decide +kernel)
set_option maxRecDepth 20000 in
theorem gX5_nextBit_X5_goZ : GoodIn wsX5_nextBit (wsV RX5 48 RX5 yX5_goZ wsX5_goZ) := goodIn_app (goodIn_of _ (by decide +kernel)) ggX5_nextBit_X5_goZ
set_option maxRecDepth 20000 in
theorem ggX5_feed_X5_goX : GoodIn wsX5_feed wsX5_goX := goodIn_r _ [8, 1, 9, 10, 11, 12, 13, 14, 15, 16, 17, 18, 19, 32, 33, 34, 35, 36] (by decide +kernel) (by decide +kernel)
set_option maxRecDepth 20000 in
theorem gX5_feed_X5_goX : GoodIn wsX5_feed (wsV RX5 42 RX5 yX5_goX wsX5_goX) := goodIn_app (goodIn_of _ (by decide +kernel)) ggX5_feed_X5_goX
set_option maxRecDepth 20000 in
theorem ggX5_feed_X5_goY : GoodIn wsX5_feed wsX5_goY := goodIn_r _ [23, 2, 9, 10, 11, 12, 13, 14, 15, 16, 17, 18, 19, 32, 33, 34, 35, 36] (by decide +kernel) (by decide +kernel)
set_option maxRecDepth 20000 in
theorem gX5_feed_X5_goY : GoodIn wsX5_feed (wsV RX5 45 RX5 yX5_goY wsX5_goY) := goodIn_app (goodIn_of _ (by decide +kernel)) ggX5_feed_X5_goY
set_option maxRecDepth 20000 in
theorem ggX5_feed_X5_goZ : GoodIn wsX5_feed wsX5_goZ := goodIn_r _ [27, 3, 9, 10, 11, 12, 13, 14, 15, 16, 17, 18, 19, 32, 33, 34, 35, 36] (by decide +kernel) (by decide +kernel)
set_option maxRecDepth 20000 in
theorem gX5_feed_X5_goZ : GoodIn wsX5_feed (wsV RX5 48 RX5 yX5_goZ wsX5_goZ) := goodIn_app (goodIn_of _ (by decide +kernel)) ggX5_feed_X5_goZ
set_option maxRecDepth 20000 in
theorem ggX5_feed_X1_add : GoodIn wsX5_feed wsX1_add := goodIn_r _ [31, 14, 15, 35, 36] (by decide +kernel) (by decide +kernel)
set_option maxRecDepth 20000 in
theorem gX5_feed_X1_add : GoodIn wsX5_feed (wsV RX5 51 RX1 yX1_add wsX1_add) := goodIn_app (goodIn_of _ (by decide +kernel)) ggX5_feed_X1_add
set_option maxRecDepth 20000 in
theorem ggX5_goX_X1_at : GoodIn wsX5_goX wsX1_at := goodIn_r _ [6, 7, 8, 16, 17] (by decide +kernel) (by decide +kernel)
set_option maxRecDepth 20000 in
theorem gX5_goX_X1_at : GoodIn wsX5_goX (wsV RX5 39 RX1 yX1_at wsX1_at) := goodIn_app (goodIn_of _ (by decide +kernel)) ggX5_goX_X1_at
set_option maxRecDepth 20000 in
theorem ggX5_goX_X1_moveUp : GoodIn wsX5_goX wsX1_moveUp := goodIn_r _ [12, 8, 7, 16, 17] (by decide +kernel) (by decide +kernel)
set_option maxRecDepth 20000 in
theorem gX5_goX_X1_moveUp : GoodIn wsX5_goX (wsV RX5 55 RX1 yX1_moveUp wsX1_moveUp) := goodIn_app (goodIn_of _ (by decide +kernel)) ggX5_goX_X1_moveUp
set_option maxRecDepth 20000 in
theorem ggX5_goY_X1_at : GoodIn wsX5_goY wsX1_at := goodIn_r _ [6, 7, 8, 16, 17] (by decide +kernel) (by decide +kernel)
set_option maxRecDepth 20000 in
theorem gX5_goY_X1_at : GoodIn wsX5_goY (wsV RX5 39 RX1 yX1_at wsX1_at) := goodIn_app (goodIn_of _ (by decide +kernel)) ggX5_goY_X1_at
set_option maxRecDepth 20000 in
theorem ggX5_goY_X1_moveUp : GoodIn wsX5_goY wsX1_moveUp := goodIn_r _ [12, 8, 7, 16, 17] (by decide +kernel) (by decide +kernel)
set_option maxRecDepth 20000 in
theorem gX5_goY_X1_moveUp : GoodIn wsX5_goY (wsV RX5 55 RX1 yX1_moveUp wsX1_moveUp) := goodIn_app (goodIn_of _ (by decide +kernel)) ggX5_goY_X1_moveUp
set_option maxRecDepth 20000 in
theorem ggX5_goZ_X1_at : GoodIn wsX5_goZ wsX1_at := goodIn_r _ [6, 7, 8, 16, 17] (by decide +kernel) (by decide +kernel)
set_option maxRecDepth 20000 in
theorem gX5_goZ_X1_at : GoodIn wsX5_goZ (wsV RX5 39 RX1 yX1_at wsX1_at) := goodIn_app (goodIn_of _ (by decide +kernel)) ggX5_goZ_X1_at
set_option maxRecDepth 20000 in
theorem ggX5_goZ_X1_moveUp : GoodIn wsX5_goZ wsX1_moveUp := goodIn_r _ [12, 8, 7, 16, 17] (by decide +kernel) (by decide +kernel)
set_option maxRecDepth 20000 in
theorem gX5_goZ_X1_moveUp : GoodIn wsX5_goZ (wsV RX5 55 RX1 yX1_moveUp wsX1_moveUp) := goodIn_app (goodIn_of _ (by decide +kernel)) ggX5_goZ_X1_moveUp
set_option maxRecDepth 20000 in
theorem ggX6_init_X3_init : GoodIn wsX6_init wsX3_init := goodIn_r _ [8, 9, 10, 11] (by decide +kernel) (by decide +kernel)
set_option maxRecDepth 20000 in
theorem gX6_init_X3_init_n1 : GoodIn wsX6_init (wsX3_init) := ggX6_init_X3_init
set_option maxRecDepth 20000 in
theorem ggX6_init_X1_init : GoodIn wsX6_init wsX1_init := goodIn_r _ [14, 15, 10, 11, 16, 17, 18, 19] (by decide +kernel) (by decide +kernel)
set_option maxRecDepth 20000 in
theorem gX6_init_X1_init : GoodIn wsX6_init (wsX1_init) := ggX6_init_X1_init
set_option maxRecDepth 20000 in
theorem ggX6_load_X1_clear : GoodIn wsX6_load wsX1_clear := goodIn_r _ [7, 8, 9, 52, 53] (by decide +kernel) (by decide +kernel)
set_option maxRecDepth 20000 in
theorem gX6_load_X1_clear : GoodIn wsX6_load (wsV RX6 19 RX1 yX1_clear wsX1_clear) := goodIn_app (goodIn_of _ (by decide +kernel)) ggX6_load_X1_clear
set_option maxRecDepth 20000 in
theorem ggX6_load_X0_bit : GoodIn wsX6_load wsX0_bit := goodIn_r _ [14, 15, 16, 17, 13, 18, 19, 20, 54, 55] (by decide +kernel) (by decide +kernel)
set_option maxRecDepth 20000 in
theorem gX6_load_X0_bit : GoodIn wsX6_load (wsV RX6 22 RX0 yX0_bit wsX0_bit) := goodIn_app (goodIn_of _ (by decide +kernel)) ggX6_load_X0_bit
set_option maxRecDepth 20000 in
theorem ggX6_load_X1_add : GoodIn wsX6_load wsX1_add := goodIn_r _ [24, 8, 9, 52, 53] (by decide +kernel) (by decide +kernel)
set_option maxRecDepth 20000 in
theorem gX6_load_X1_add : GoodIn wsX6_load (wsV RX6 28 RX1 yX1_add wsX1_add) := goodIn_app (goodIn_of _ (by decide +kernel)) ggX6_load_X1_add
set_option maxRecDepth 20000 in
theorem ggX6_load_X6_output : GoodIn wsX6_load wsX6_output := goodIn_r _ [29, 1, 2, 30, 31, 32, 6, 33, 8, 9, 50, 51, 52, 53] (by decide +kernel) (by decide +kernel)
set_option maxRecDepth 20000 in
theorem gX6_load_X6_output : GoodIn wsX6_load (wsV RX6 32 RX6 yX6_output wsX6_output) := goodIn_app (goodIn_of _ (by decide +kernel)) ggX6_load_X6_output
set_option maxRecDepth 20000 in
theorem ggX6_load_X6_move : GoodIn wsX6_load wsX6_move := goodIn_r _ [37, 2, 1, 38, 39, 40, 28, 41, 30, 31, 32, 6, 33, 8, 9, 42, 43, 44, 45, 46, 47, 48, 49, 50, 51, 52, 53] (by decide +kernel) (by decide +kernel)
set_option maxRecDepth 20000 in
theorem gX6_load_X6_move : GoodIn wsX6_load (wsV RX6 36 RX6 yX6_move wsX6_move) := goodIn_app (goodIn_of _ (by decide +kernel)) ggX6_load_X6_move
set_option maxRecDepth 20000 in
theorem ggX6_nextBit_X6_output : GoodIn wsX6_nextBit wsX6_output := goodIn_r _ [5, 6, 7, 8, 9, 10, 11, 12, 13, 14, 31, 32, 33, 34] (by decide +kernel) (by decide +kernel)
set_option maxRecDepth 20000 in
theorem gX6_nextBit_X6_output : GoodIn wsX6_nextBit (wsV RX6 32 RX6 yX6_output wsX6_output) := goodIn_app (goodIn_of _ (by decide +kernel)) ggX6_nextBit_X6_output
set_option maxRecDepth 20000 in
theorem ggX6_nextBit_X6_move : GoodIn wsX6_nextBit wsX6_move := goodIn_r _ [18, 7, 6, 19, 20, 21, 4, 22, 8, 9, 10, 11, 12, 13, 14, 23, 24, 25, 26, 27, 28, 29, 30, 31, 32, 33, 34] (by decide +kernel) (by decide +kernel)
set_option maxRecDepth 20000 in
theorem gX6_nextBit_X6_move : GoodIn wsX6_nextBit (wsV RX6 36 RX6 yX6_move wsX6_move) := goodIn_app (goodIn_of _ (by decide +kernel)) ggX6_nextBit_X6_move
set_option maxRecDepth 20000 in
theorem ggX6_output_X1_at : GoodIn wsX6_output wsX1_at := goodIn_r _ [7, 8, 9, 12, 13] (by decide +kernel) (by decide +kernel)
set_option maxRecDepth 20000 in
theorem gX6_output_X1_at : GoodIn wsX6_output (wsV RX6 40 RX1 yX1_at wsX1_at) := goodIn_app (goodIn_of _ (by decide +kernel)) ggX6_output_X1_at
set_option maxRecDepth 20000 in
theorem ggX6_move_X6_newBitOfS : GoodIn wsX6_move wsX6_newBitOfS := goodIn_r _ [7, 1, 8, 9, 10, 11, 12, 13, 14, 23, 24, 25, 26] (by decide +kernel) (by decide +kernel)
set_option maxRecDepth 20000 in
theorem gX6_move_X6_newBitOfS : GoodIn wsX6_move (wsV RX6 43 RX6 yX6_newBitOfS wsX6_newBitOfS) := goodIn_app (goodIn_of _ (by decide +kernel)) ggX6_move_X6_newBitOfS
set_option maxRecDepth 20000 in
theorem ggX6_move_X6_newBitOfB : GoodIn wsX6_move wsX6_newBitOfB := goodIn_r _ [18, 1, 2, 8, 9, 10, 11, 12, 13, 14, 23, 24, 25, 26] (by decide +kernel) (by decide +kernel)
set_option maxRecDepth 20000 in
theorem gX6_move_X6_newBitOfB : GoodIn wsX6_move (wsV RX6 46 RX6 yX6_newBitOfB wsX6_newBitOfB) := goodIn_app (goodIn_of _ (by decide +kernel)) ggX6_move_X6_newBitOfB
set_option maxRecDepth 20000 in
theorem ggX6_move_X1_moveDown : GoodIn wsX6_move wsX1_moveDown := goodIn_r _ [22, 13, 14, 25, 26] (by decide +kernel) (by decide +kernel)
set_option maxRecDepth 20000 in
theorem gX6_move_X1_moveDown : GoodIn wsX6_move (wsV RX6 49 RX1 yX1_moveDown wsX1_moveDown) := goodIn_app (goodIn_of _ (by decide +kernel)) ggX6_move_X1_moveDown
set_option maxRecDepth 20000 in
theorem ggX6_newBitOfS_X1_at : GoodIn wsX6_newBitOfS wsX1_at := goodIn_r _ [6, 7, 8, 11, 12] (by decide +kernel) (by decide +kernel)
set_option maxRecDepth 20000 in
theorem gX6_newBitOfS_X1_at : GoodIn wsX6_newBitOfS (wsV RX6 40 RX1 yX1_at wsX1_at) := goodIn_app (goodIn_of _ (by decide +kernel)) ggX6_newBitOfS_X1_at
set_option maxRecDepth 20000 in
theorem ggX6_newBitOfB_X1_at : GoodIn wsX6_newBitOfB wsX1_at := goodIn_r _ [7, 8, 9, 12, 13] (by decide +kernel) (by decide +kernel)
set_option maxRecDepth 20000 in
theorem gX6_newBitOfB_X1_at : GoodIn wsX6_newBitOfB (wsV RX6 40 RX1 yX1_at wsX1_at) := goodIn_app (goodIn_of _ (by decide +kernel)) ggX6_newBitOfB_X1_at
set_option maxRecDepth 20000 in
theorem ggX7_init_X0_init : GoodIn wsX7_init wsX0_init := goodIn_r _ [28, 29, 2, 3, 30, 31, 32, 75, 76] (by decide +kernel) (by decide +kernel)
set_option maxRecDepth 20000 in
theorem gX7_init_X0_init : GoodIn wsX7_init (wsX0_init) := ggX7_init_X0_init
set_option maxRecDepth 20000 in
theorem ggX7_init_X4_init : GoodIn wsX7_init wsX4_init := goodIn_r _ [35, 36, 37, 38, 39, 40, 41, 42, 43, 44, 45, 2, 3, 46, 47, 48, 49, 50, 51, 96, 97, 83, 84, 85] (by decide +kernel) (by decide +kernel)
set_option maxRecDepth 20000 in
theorem gX7_init_X4_init : GoodIn wsX7_init (wsX4_init) := ggX7_init_X4_init
set_option maxRecDepth 20000 in
theorem ggX7_init_X6_init : GoodIn wsX7_init wsX6_init := goodIn_r _ [54, 55, 37, 38, 56, 57, 42, 43, 44, 45, 2, 3, 58, 47, 48, 49, 50, 51, 96, 97, 86, 87] (by decide +kernel) (by decide +kernel)
set_option maxRecDepth 20000 in
theorem gX7_init_X6_init : GoodIn wsX7_init (wsX6_init) := ggX7_init_X6_init
set_option maxRecDepth 20000 in
theorem ggX7_init_X5_init : GoodIn wsX7_init wsX5_init := goodIn_r _ [61, 62, 37, 38, 63, 64, 65, 42, 43, 44, 45, 2, 3, 66, 47, 48, 49, 50, 51, 96, 97, 88, 89, 90] (by decide +kernel) (by decide +kernel)
set_option maxRecDepth 20000 in
theorem gX7_init_X5_init : GoodIn wsX7_init (wsX5_init) := ggX7_init_X5_init
set_option maxRecDepth 20000 in
theorem ggX7_init_X2_init : GoodIn wsX7_init wsX2_init := goodIn_r _ [69, 30, 70, 71, 72, 73, 74, 42, 43, 44, 45, 2, 3, 91, 92, 93, 94, 95] (by decide +kernel) (by decide +kernel)
set_option maxRecDepth 20000 in
theorem gX7_init_X2_init : GoodIn wsX7_init (wsX2_init) := ggX7_init_X2_init
set_option maxRecDepth 20000 in
theorem ggX7_key_X0_append : GoodIn wsX7_key wsX0_append := goodIn_r _ [6, 7, 8, 15, 16] (by decide +kernel) (by decide +kernel)
set_option maxRecDepth 20000 in
theorem gX7_key_X0_append : GoodIn wsX7_key (wsV RX7 50 RX0 yX0_append wsX0_append) := goodIn_app (goodIn_of _ (by decide +kernel)) ggX7_key_X0_append
set_option maxRecDepth 20000 in
theorem ggX7_start_X0_append : GoodIn wsX7_start wsX0_append := goodIn_r _ [6, 7, 8, 15, 16] (by decide +kernel) (by decide +kernel)
set_option maxRecDepth 20000 in
theorem gX7_start_X0_append : GoodIn wsX7_start (wsV RX7 50 RX0 yX0_append wsX0_append) := goodIn_app (goodIn_of _ (by decide +kernel)) ggX7_start_X0_append
set_option maxRecDepth 20000 in
theorem ggX7_begin_X0_size : GoodIn wsX7_begin wsX0_size := goodIn_r _ [11, 12, 154, 155] (by decide +kernel) (by decide +kernel)
set_option maxRecDepth 20000 in
theorem gX7_begin_X0_size : GoodIn wsX7_begin (wsV RX7 54 RX0 yX0_size wsX0_size) := goodIn_app (goodIn_of _ (by decide +kernel)) ggX7_begin_X0_size
set_option maxRecDepth 20000 in
theorem ggX7_begin_X2_takes : GoodIn wsX7_begin wsX2_takes := goodIn_r _ [18] (by decide +kernel) (by decide +kernel)
set_option maxRecDepth 20000 in
theorem gX7_begin_X2_takes_u58X2 : GoodIn wsX7_begin (va_wsU RX7 58 RX2 "BitStreams$Machine" ⟨"BitStreams$Machine", "takes", "(II)Z"⟩ yX2_takes wsX2_takes) := goodIn_app (goodIn_of _ (by decide +kernel)) ggX7_begin_X2_takes
set_option maxRecDepth 20000 in
theorem ggX7_begin_X4_takes : GoodIn wsX7_begin wsX4_takes := goodIn_r _ [22] (by decide +kernel) (by decide +kernel)
set_option maxRecDepth 20000 in
theorem gX7_begin_X4_takes_u58X4 : GoodIn wsX7_begin (va_wsU RX7 58 RX4 "BitStreams$Machine" ⟨"BitStreams$Machine", "takes", "(II)Z"⟩ yX4_takes wsX4_takes) := goodIn_app (goodIn_of _ (by decide +kernel)) ggX7_begin_X4_takes
set_option maxRecDepth 20000 in
theorem ggX7_begin_X5_takes : GoodIn wsX7_begin wsX5_takes := goodIn_r _ [26] (by decide +kernel) (by decide +kernel)
set_option maxRecDepth 20000 in
theorem gX7_begin_X5_takes_u58X5 : GoodIn wsX7_begin (va_wsU RX7 58 RX5 "BitStreams$Machine" ⟨"BitStreams$Machine", "takes", "(II)Z"⟩ yX5_takes wsX5_takes) := goodIn_app (goodIn_of _ (by decide +kernel)) ggX7_begin_X5_takes
set_option maxRecDepth 20000 in
theorem ggX7_begin_X6_takes : GoodIn wsX7_begin wsX6_takes := goodIn_r _ [30] (by decide +kernel) (by decide +kernel)
set_option maxRecDepth 20000 in
theorem gX7_begin_X6_takes_u58X6 : GoodIn wsX7_begin (va_wsU RX7 58 RX6 "BitStreams$Machine" ⟨"BitStreams$Machine", "takes", "(II)Z"⟩ yX6_takes wsX6_takes) := goodIn_app (goodIn_of _ (by decide +kernel)) ggX7_begin_X6_takes
set_option maxRecDepth 20000 in
theorem ggX7_begin_X2_load : GoodIn wsX7_begin wsX2_load := goodIn_r _ [35, 36, 37, 38, 39, 40, 41, 42, 10, 43, 12, 44, 45, 46, 47, 17, 48, 49, 8, 9, 11, 156, 157, 158, 159, 160, 154, 155] (by decide +kernel) (by decide +kernel)
set_option maxRecDepth 20000 in
theorem gX7_begin_X2_load_u62X2 : GoodIn wsX7_begin (va_wsU RX7 62 RX2 "BitStreams$Machine" ⟨"BitStreams$Machine", "load", "(LBitStreams$Bytes;LBitStreams$Bytes;)V"⟩ yX2_load wsX2_load) := goodIn_app (goodIn_of _ (by decide +kernel)) ggX7_begin_X2_load
set_option maxRecDepth 20000 in
theorem ggX7_begin_X4_load : GoodIn wsX7_begin wsX4_load := goodIn_r _ [52, 53, 54, 55, 56, 57, 58, 59, 60, 61, 62, 63, 64, 65, 10, 66, 67, 41, 42, 43, 12, 44, 68, 69, 70, 71, 72, 73, 74, 21, 75, 76, 77, 78, 79, 80, 81, 82, 83, 161, 162, 163, 164, 165, 154, 155] (by decide +kernel) (by decide +kernel)
set_option maxRecDepth 20000 in
theorem gX7_begin_X4_load_u62X4 : GoodIn wsX7_begin (va_wsU RX7 62 RX4 "BitStreams$Machine" ⟨"BitStreams$Machine", "load", "(LBitStreams$Bytes;LBitStreams$Bytes;)V"⟩ yX4_load wsX4_load) := goodIn_app (goodIn_of _ (by decide +kernel)) ggX7_begin_X4_load
set_option maxRecDepth 20000 in
theorem ggX7_begin_X5_load : GoodIn wsX7_begin wsX5_load := goodIn_r _ [86, 87, 88, 89, 90, 57, 58, 59, 60, 61, 62, 91, 64, 65, 10, 66, 67, 41, 42, 43, 12, 44, 92, 93, 94, 25, 95, 96, 97, 98, 99, 100, 77, 78, 79, 101, 81, 82, 83, 102, 103, 104, 105, 106, 107, 108, 109, 110, 69, 70, 71, 111, 112, 113, 114, 166, 167, 168, 164, 165, 154, 155] (by decide +kernel) (by decide +kernel)
set_option maxRecDepth 20000 in
theorem gX7_begin_X5_load_u62X5 : GoodIn wsX7_begin (va_wsU RX7 62 RX5 "BitStreams$Machine" ⟨"BitStreams$Machine", "load", "(LBitStreams$Bytes;LBitStreams$Bytes;)V"⟩ yX5_load wsX5_load) := goodIn_app (goodIn_of _ (by decide +kernel)) ggX7_begin_X5_load
set_option maxRecDepth 20000 in
theorem ggX7_begin_X6_load : GoodIn wsX7_begin wsX6_load := goodIn_r _ [117, 118, 119, 120, 57, 58, 59, 60, 61, 62, 121, 64, 65, 10, 66, 67, 41, 42, 43, 12, 44, 122, 69, 70, 71, 123, 124, 125, 29, 126, 127, 77, 78, 79, 128, 129, 130, 131, 132, 133, 134, 135, 136, 137, 138, 139, 140, 141, 142, 143, 169, 170, 164, 165, 154, 155] (by decide +kernel) (by decide +kernel)
set_option maxRecDepth 20000 in
theorem gX7_begin_X6_load_u62X6 : GoodIn wsX7_begin (va_wsU RX7 62 RX6 "BitStreams$Machine" ⟨"BitStreams$Machine", "load", "(LBitStreams$Bytes;LBitStreams$Bytes;)V"⟩ yX6_load wsX6_load) := goodIn_app (goodIn_of _ (by decide +kernel)) ggX7_begin_X6_load
set_option maxRecDepth 20000 in
theorem ggX7_begin_X0_clear : GoodIn wsX7_begin wsX0_clear := goodIn_r _ [147, 12, 154, 155] (by decide +kernel) (by decide +kernel)
set_option maxRecDepth 20000 in
theorem gX7_begin_X0_clear : GoodIn wsX7_begin (wsV RX7 66 RX0 yX0_clear wsX0_clear) := goodIn_app (goodIn_of _ (by decide +kernel)) ggX7_begin_X0_clear
set_option maxRecDepth 20000 in
theorem ggX7_bits_X7_mix : GoodIn wsX7_bits wsX7_mix := goodIn_r _ [5, 6, 7, 8, 9, 10, 11, 12, 13, 14, 15, 16, 17, 18, 19, 20, 21, 22, 23, 24, 25, 26, 27, 28, 29, 30, 31, 32, 33, 34, 35, 36, 37, 38, 39, 40, 41, 42, 43, 44, 45, 46, 47, 48, 49, 50, 51, 52, 53, 54, 55, 56, 57, 58, 59, 60, 61, 62, 63, 64, 65, 66, 67, 68, 69, 70, 71, 72, 73, 74, 75, 76, 77, 78, 79, 80, 81, 82, 83, 84, 85, 86, 87, 88, 89, 90, 91, 92, 93, 94, 95, 96, 97, 98, 99, 100, 101, 102, 103, 104, 105, 106, 107, 108, 109, 110, 111, 112, 113, 114] (by decide +kernel) (by decide +kernel)
set_option maxRecDepth 20000 in
theorem gX7_bits_X7_mix : GoodIn wsX7_bits (wsV RX7 69 RX7 yX7_mix wsX7_mix) := goodIn_app (goodIn_of _ (by decide +kernel)) ggX7_bits_X7_mix
set_option maxRecDepth 20000 in
theorem ggX7_skip_X2_nextBit : GoodIn wsX7_skip wsX2_nextBit := goodIn_r _ [8, 9, 10, 11, 12, 13, 7, 14, 15, 16, 17, 18, 19, 20, 21, 94, 95, 96, 97, 98] (by decide +kernel) (by decide +kernel)
set_option maxRecDepth 20000 in
theorem gX7_skip_X2_nextBit_u73X2 : GoodIn wsX7_skip (va_wsU RX7 73 RX2 "BitStreams$Machine" ⟨"BitStreams$Machine", "nextBit", "()I"⟩ yX2_nextBit wsX2_nextBit) := goodIn_app (goodIn_of _ (by decide +kernel)) ggX7_skip_X2_nextBit
set_option maxRecDepth 20000 in
theorem ggX7_skip_X4_nextBit : GoodIn wsX7_skip wsX4_nextBit := goodIn_r _ [25, 26, 27, 28, 29, 30, 31, 32, 33, 34, 35, 36, 37, 38, 39, 99, 100, 101, 102, 103] (by decide +kernel) (by decide +kernel)
set_option maxRecDepth 20000 in
theorem gX7_skip_X4_nextBit_u73X4 : GoodIn wsX7_skip (va_wsU RX7 73 RX4 "BitStreams$Machine" ⟨"BitStreams$Machine", "nextBit", "()I"⟩ yX4_nextBit wsX4_nextBit) := goodIn_app (goodIn_of _ (by decide +kernel)) ggX7_skip_X4_nextBit
set_option maxRecDepth 20000 in
theorem ggX7_skip_X5_nextBit : GoodIn wsX7_skip wsX5_nextBit := goodIn_r _ [43, 44, 45, 46, 47, 30, 31, 32, 33, 34, 35, 48, 49, 50, 42, 51, 52, 37, 38, 39, 53, 54, 55, 56, 57, 58, 59, 60, 104, 105, 106, 102, 103] (by decide +kernel) (by decide +kernel)
set_option maxRecDepth 20000 in
theorem gX7_skip_X5_nextBit_u73X5 : GoodIn wsX7_skip (va_wsU RX7 73 RX5 "BitStreams$Machine" ⟨"BitStreams$Machine", "nextBit", "()I"⟩ yX5_nextBit wsX5_nextBit) := goodIn_app (goodIn_of _ (by decide +kernel)) ggX7_skip_X5_nextBit
set_option maxRecDepth 20000 in
theorem ggX7_skip_X6_nextBit : GoodIn wsX7_skip wsX6_nextBit := goodIn_r _ [64, 65, 66, 67, 63, 68, 69, 70, 71, 30, 31, 32, 33, 34, 35, 72, 73, 74, 75, 76, 77, 78, 79, 80, 81, 82, 83, 84, 85, 86, 87, 107, 108, 102, 103] (by decide +kernel) (by decide +kernel)
set_option maxRecDepth 20000 in
theorem gX7_skip_X6_nextBit_u73X6 : GoodIn wsX7_skip (va_wsU RX7 73 RX6 "BitStreams$Machine" ⟨"BitStreams$Machine", "nextBit", "()I"⟩ yX6_nextBit wsX6_nextBit) := goodIn_app (goodIn_of _ (by decide +kernel)) ggX7_skip_X6_nextBit
set_option maxRecDepth 20000 in
theorem ggX7_mix_X2_nextBit : GoodIn wsX7_mix wsX2_nextBit := goodIn_r _ [9, 10, 11, 12, 13, 14, 8, 15, 16, 17, 18, 19, 20, 21, 22, 95, 96, 97, 98, 99] (by decide +kernel) (by decide +kernel)
set_option maxRecDepth 20000 in
theorem gX7_mix_X2_nextBit_u73X2 : GoodIn wsX7_mix (va_wsU RX7 73 RX2 "BitStreams$Machine" ⟨"BitStreams$Machine", "nextBit", "()I"⟩ yX2_nextBit wsX2_nextBit) := goodIn_app (goodIn_of _ (by decide +kernel)) ggX7_mix_X2_nextBit
set_option maxRecDepth 20000 in
theorem ggX7_mix_X4_nextBit : GoodIn wsX7_mix wsX4_nextBit := goodIn_r _ [26, 27, 28, 29, 30, 31, 32, 33, 34, 35, 36, 37, 38, 39, 40, 100, 101, 102, 103, 104] (by decide +kernel) (by decide +kernel)
set_option maxRecDepth 20000 in
theorem gX7_mix_X4_nextBit_u73X4 : GoodIn wsX7_mix (va_wsU RX7 73 RX4 "BitStreams$Machine" ⟨"BitStreams$Machine", "nextBit", "()I"⟩ yX4_nextBit wsX4_nextBit) := goodIn_app (goodIn_of _ (by decide +kernel)) ggX7_mix_X4_nextBit
set_option maxRecDepth 20000 in
theorem ggX7_mix_X5_nextBit : GoodIn wsX7_mix wsX5_nextBit := goodIn_r _ [44, 45, 46, 47, 48, 31, 32, 33, 34, 35, 36, 49, 50, 51, 43, 52, 53, 38, 39, 40, 54, 55, 56, 57, 58, 59, 60, 61, 105, 106, 107, 103, 104] (by decide +kernel) (by decide +kernel)
set_option maxRecDepth 20000 in
theorem gX7_mix_X5_nextBit_u73X5 : GoodIn wsX7_mix (va_wsU RX7 73 RX5 "BitStreams$Machine" ⟨"BitStreams$Machine", "nextBit", "()I"⟩ yX5_nextBit wsX5_nextBit) := goodIn_app (goodIn_of _ (by decide +kernel)) ggX7_mix_X5_nextBit
set_option maxRecDepth 20000 in
theorem ggX7_mix_X6_nextBit : GoodIn wsX7_mix wsX6_nextBit := goodIn_r _ [65, 66, 67, 68, 64, 69, 70, 71, 72, 31, 32, 33, 34, 35, 36, 73, 74, 75, 76, 77, 78, 79, 80, 81, 82, 83, 84, 85, 86, 87, 88, 108, 109, 103, 104] (by decide +kernel) (by decide +kernel)
set_option maxRecDepth 20000 in
theorem gX7_mix_X6_nextBit_u73X6 : GoodIn wsX7_mix (va_wsU RX7 73 RX6 "BitStreams$Machine" ⟨"BitStreams$Machine", "nextBit", "()I"⟩ yX6_nextBit wsX6_nextBit) := goodIn_app (goodIn_of _ (by decide +kernel)) ggX7_mix_X6_nextBit
set_option maxRecDepth 20000 in
theorem ggX7_count_X0_size : GoodIn wsX7_count wsX0_size := goodIn_r _ [9, 10, 17, 18] (by decide +kernel) (by decide +kernel)
set_option maxRecDepth 20000 in
theorem gX7_count_X0_size : GoodIn wsX7_count (wsV RX7 54 RX0 yX0_size wsX0_size) := goodIn_app (goodIn_of _ (by decide +kernel)) ggX7_count_X0_size
set_option maxRecDepth 20000 in
theorem ggX8_up_X8_put : GoodIn wsX8_up wsX8_put := goodIn_r _ [6, 7, 1, 8, 9, 10, 11, 12, 13, 14, 15, 16, 17, 18, 19, 20] (by decide +kernel) (by decide +kernel)
set_option maxRecDepth 20000 in
theorem gX8_up_X8_put : GoodIn wsX8_up (wsV RX8 37 RX8 yX8_put wsX8_put) := goodIn_app (goodIn_of _ (by decide +kernel)) ggX8_up_X8_put
set_option maxRecDepth 20000 in
theorem ggX8_down_X8_put : GoodIn wsX8_down wsX8_put := goodIn_r _ [6, 7, 1, 8, 9, 10, 11, 12, 13, 14, 15, 16, 17, 18, 19, 20] (by decide +kernel) (by decide +kernel)
set_option maxRecDepth 20000 in
theorem gX8_down_X8_put : GoodIn wsX8_down (wsV RX8 37 RX8 yX8_put wsX8_put) := goodIn_app (goodIn_of _ (by decide +kernel)) ggX8_down_X8_put
set_option maxRecDepth 20000 in
theorem ggX8_s_X8_cell : GoodIn wsX8_s wsX8_cell := goodIn_r _ [5, 6, 7, 8, 9, 10, 11, 12, 13, 14, 15, 16, 17, 18, 19, 20] (by decide +kernel) (by decide +kernel)
set_option maxRecDepth 20000 in
theorem gX8_s_X8_cell : GoodIn wsX8_s (wsV RX8 41 RX8 yX8_cell wsX8_cell) := goodIn_app (goodIn_of _ (by decide +kernel)) ggX8_s_X8_cell
set_option maxRecDepth 20000 in
theorem ggX8_stepRings_X8_s : GoodIn wsX8_stepRings wsX8_s := goodIn_r _ [5, 6, 7, 8, 4, 9, 10, 11, 20, 21, 22, 23, 24, 25, 26, 27, 28, 29, 30, 31, 32] (by decide +kernel) (by decide +kernel)
set_option maxRecDepth 20000 in
theorem gX8_stepRings_X8_s : GoodIn wsX8_stepRings (wsV RX8 45 RX8 yX8_s wsX8_s) := goodIn_app (goodIn_of _ (by decide +kernel)) ggX8_stepRings_X8_s
set_option maxRecDepth 20000 in
theorem ggX8_stepRings_X8_up : GoodIn wsX8_stepRings wsX8_up := goodIn_r _ [15, 11, 16, 17, 18, 4, 19, 10, 20, 21, 22, 23, 24, 25, 26, 27, 28, 29, 30, 31, 32] (by decide +kernel) (by decide +kernel)
set_option maxRecDepth 20000 in
theorem gX8_stepRings_X8_up : GoodIn wsX8_stepRings (wsV RX8 49 RX8 yX8_up wsX8_up) := goodIn_app (goodIn_of _ (by decide +kernel)) ggX8_stepRings_X8_up
set_option maxRecDepth 20000 in
theorem ggX8_b_X8_cell : GoodIn wsX8_b wsX8_cell := goodIn_r _ [5, 6, 7, 8, 9, 10, 11, 12, 13, 14, 15, 16, 17, 18, 19, 20] (by decide +kernel) (by decide +kernel)
set_option maxRecDepth 20000 in
theorem gX8_b_X8_cell : GoodIn wsX8_b (wsV RX8 41 RX8 yX8_cell wsX8_cell) := goodIn_app (goodIn_of _ (by decide +kernel)) ggX8_b_X8_cell
set_option maxRecDepth 20000 in
theorem ggX8_t_X8_cell : GoodIn wsX8_t wsX8_cell := goodIn_r _ [5, 6, 7, 8, 9, 10, 11, 12, 13, 14, 15, 16, 17, 18, 19, 20] (by decide +kernel) (by decide +kernel)
set_option maxRecDepth 20000 in
theorem gX8_t_X8_cell : GoodIn wsX8_t (wsV RX8 41 RX8 yX8_cell wsX8_cell) := goodIn_app (goodIn_of _ (by decide +kernel)) ggX8_t_X8_cell
set_option maxRecDepth 20000 in
theorem ggX8_stepTwo_X8_b : GoodIn wsX8_stepTwo wsX8_b := goodIn_r _ [5, 6, 7, 8, 4, 9, 10, 11, 24, 25, 26, 27, 28, 29, 30, 31, 32, 33, 34, 35, 36] (by decide +kernel) (by decide +kernel)
set_option maxRecDepth 20000 in
theorem gX8_stepTwo_X8_b : GoodIn wsX8_stepTwo (wsV RX8 53 RX8 yX8_b wsX8_b) := goodIn_app (goodIn_of _ (by decide +kernel)) ggX8_stepTwo_X8_b
set_option maxRecDepth 20000 in
theorem ggX8_stepTwo_X8_t : GoodIn wsX8_stepTwo wsX8_t := goodIn_r _ [15, 6, 7, 8, 4, 9, 10, 11, 24, 25, 26, 27, 28, 29, 30, 31, 32, 33, 34, 35, 36] (by decide +kernel) (by decide +kernel)
set_option maxRecDepth 20000 in
theorem gX8_stepTwo_X8_t : GoodIn wsX8_stepTwo (wsV RX8 56 RX8 yX8_t wsX8_t) := goodIn_app (goodIn_of _ (by decide +kernel)) ggX8_stepTwo_X8_t
set_option maxRecDepth 20000 in
theorem ggX8_stepTwo_X8_down : GoodIn wsX8_stepTwo wsX8_down := goodIn_r _ [19, 11, 20, 21, 22, 4, 23, 10, 24, 25, 26, 27, 28, 29, 30, 31, 32, 33, 34, 35, 36] (by decide +kernel) (by decide +kernel)
set_option maxRecDepth 20000 in
theorem gX8_stepTwo_X8_down : GoodIn wsX8_stepTwo (wsV RX8 59 RX8 yX8_down wsX8_down) := goodIn_app (goodIn_of _ (by decide +kernel)) ggX8_stepTwo_X8_down
set_option maxRecDepth 20000 in
theorem ggX8_goes_X8_cell : GoodIn wsX8_goes wsX8_cell := goodIn_r _ [5, 6, 7, 16, 17, 18, 19, 20, 21, 22, 23, 24, 25, 26, 27, 28] (by decide +kernel) (by decide +kernel)
set_option maxRecDepth 20000 in
theorem gX8_goes_X8_cell : GoodIn wsX8_goes (wsV RX8 41 RX8 yX8_cell wsX8_cell) := goodIn_app (goodIn_of _ (by decide +kernel)) ggX8_goes_X8_cell
set_option maxRecDepth 20000 in
theorem ggX8_goes_X8_up : GoodIn wsX8_goes wsX8_up := goodIn_r _ [11, 7, 12, 13, 14, 4, 15, 6, 16, 17, 18, 19, 20, 21, 22, 23, 24, 25, 26, 27, 28] (by decide +kernel) (by decide +kernel)
set_option maxRecDepth 20000 in
theorem gX8_goes_X8_up : GoodIn wsX8_goes (wsV RX8 49 RX8 yX8_up wsX8_up) := goodIn_app (goodIn_of _ (by decide +kernel)) ggX8_goes_X8_up
set_option maxRecDepth 20000 in
theorem ggX8_feed_X8_goes : GoodIn wsX8_feed wsX8_goes := goodIn_r _ [5, 6, 7, 8, 4, 9, 10, 11, 12, 13, 14, 15, 16, 17, 18, 19, 20, 21, 22, 23, 24, 25, 26, 27, 28, 29, 30, 31, 32] (by decide +kernel) (by decide +kernel)
set_option maxRecDepth 20000 in
theorem gX8_feed_X8_goes : GoodIn wsX8_feed (wsV RX8 62 RX8 yX8_goes wsX8_goes) := goodIn_app (goodIn_of _ (by decide +kernel)) ggX8_feed_X8_goes
set_option maxRecDepth 20000 in
theorem ggX8_feed_X8_cell : GoodIn wsX8_feed wsX8_cell := goodIn_r _ [9, 10, 11, 20, 21, 22, 23, 24, 25, 26, 27, 28, 29, 30, 31, 32] (by decide +kernel) (by decide +kernel)
set_option maxRecDepth 20000 in
theorem gX8_feed_X8_cell : GoodIn wsX8_feed (wsV RX8 41 RX8 yX8_cell wsX8_cell) := goodIn_app (goodIn_of _ (by decide +kernel)) ggX8_feed_X8_cell
set_option maxRecDepth 20000 in
theorem ggX8_feed_X8_put : GoodIn wsX8_feed wsX8_put := goodIn_r _ [19, 10, 11, 20, 21, 22, 23, 24, 25, 26, 27, 28, 29, 30, 31, 32] (by decide +kernel) (by decide +kernel)
set_option maxRecDepth 20000 in
theorem gX8_feed_X8_put : GoodIn wsX8_feed (wsV RX8 37 RX8 yX8_put wsX8_put) := goodIn_app (goodIn_of _ (by decide +kernel)) ggX8_feed_X8_put
set_option maxRecDepth 20000 in
theorem ggX8_stepStops_X8_cell : GoodIn wsX8_stepStops wsX8_cell := goodIn_r _ [5, 6, 7, 20, 21, 22, 23, 24, 25, 26, 27, 28, 29, 30, 31, 32] (by decide +kernel) (by decide +kernel)
set_option maxRecDepth 20000 in
theorem gX8_stepStops_X8_cell : GoodIn wsX8_stepStops (wsV RX8 41 RX8 yX8_cell wsX8_cell) := goodIn_app (goodIn_of _ (by decide +kernel)) ggX8_stepStops_X8_cell
set_option maxRecDepth 20000 in
theorem ggX8_stepStops_X8_goes : GoodIn wsX8_stepStops wsX8_goes := goodIn_r _ [11, 1, 2, 3, 4, 5, 6, 7, 12, 13, 14, 15, 16, 17, 18, 19, 20, 21, 22, 23, 24, 25, 26, 27, 28, 29, 30, 31, 32] (by decide +kernel) (by decide +kernel)
set_option maxRecDepth 20000 in
theorem gX8_stepStops_X8_goes : GoodIn wsX8_stepStops (wsV RX8 62 RX8 yX8_goes wsX8_goes) := goodIn_app (goodIn_of _ (by decide +kernel)) ggX8_stepStops_X8_goes
set_option maxRecDepth 20000 in
theorem ggX8_stepByte_X8_exchange : GoodIn wsX8_stepByte wsX8_exchange := goodIn_r _ [8, 3, 9, 10, 11, 12, 13, 14, 15, 16, 17, 18, 19, 20, 21] (by decide +kernel) (by decide +kernel)
set_option maxRecDepth 20000 in
theorem gX8_stepByte_X8_exchange : GoodIn wsX8_stepByte (wsV RX8 72 RX8 yX8_exchange wsX8_exchange) := goodIn_app (goodIn_of _ (by decide +kernel)) ggX8_stepByte_X8_exchange
set_option maxRecDepth 20000 in
theorem ggX8_begin_X8_fits : GoodIn wsX8_begin wsX8_fits := goodIn_r _ [9, 3, 4, 98, 99, 100, 101, 102, 103, 104, 105, 106, 107, 108, 109, 110] (by decide +kernel) (by decide +kernel)
set_option maxRecDepth 20000 in
theorem gX8_begin_X8_fits : GoodIn wsX8_begin (wsV RX8 75 RX8 yX8_fits wsX8_fits) := goodIn_app (goodIn_of _ (by decide +kernel)) ggX8_begin_X8_fits
set_option maxRecDepth 20000 in
theorem ggX8_begin_X8_clean : GoodIn wsX8_begin wsX8_clean := goodIn_r _ [13, 14, 15, 98, 99, 100, 101, 102, 103, 104, 105, 106, 107, 108, 109, 110] (by decide +kernel) (by decide +kernel)
set_option maxRecDepth 20000 in
theorem gX8_begin_X8_clean : GoodIn wsX8_begin (wsV RX8 82 RX8 yX8_clean wsX8_clean) := goodIn_app (goodIn_of _ (by decide +kernel)) ggX8_begin_X8_clean
set_option maxRecDepth 20000 in
theorem ggX8_begin_X8_beginRings : GoodIn wsX8_begin wsX8_beginRings := goodIn_r _ [19, 20, 21, 22, 8, 23, 24, 25, 26, 27, 28, 14, 15, 29, 30, 31, 32, 33, 34, 35, 36, 37, 38, 39, 40, 41, 42, 43, 44, 45, 46, 47, 48, 49, 98, 99, 100, 101, 102, 103, 104, 105, 106, 107, 108, 109, 110] (by decide +kernel) (by decide +kernel)
set_option maxRecDepth 20000 in
theorem gX8_begin_X8_beginRings : GoodIn wsX8_begin (wsV RX8 85 RX8 yX8_beginRings wsX8_beginRings) := goodIn_app (goodIn_of _ (by decide +kernel)) ggX8_begin_X8_beginRings
set_option maxRecDepth 20000 in
theorem ggX8_begin_X8_beginTwo : GoodIn wsX8_begin wsX8_beginTwo := goodIn_r _ [53, 20, 21, 22, 8, 23, 24, 25, 26, 27, 28, 14, 15, 29, 30, 31, 32, 33, 54, 55, 56, 57, 58, 59, 60, 61, 42, 43, 44, 45, 62, 63, 64, 65, 66, 67, 68, 69, 98, 99, 100, 101, 102, 103, 104, 105, 106, 107, 108, 109, 110] (by decide +kernel) (by decide +kernel)
set_option maxRecDepth 20000 in
theorem gX8_begin_X8_beginTwo : GoodIn wsX8_begin (wsV RX8 88 RX8 yX8_beginTwo wsX8_beginTwo) := goodIn_app (goodIn_of _ (by decide +kernel)) ggX8_begin_X8_beginTwo
set_option maxRecDepth 20000 in
theorem ggX8_begin_X8_beginStops : GoodIn wsX8_begin wsX8_beginStops := goodIn_r _ [73, 20, 21, 22, 8, 23, 24, 74, 75, 76, 77, 78, 79, 80, 81, 42, 43, 44, 45, 14, 15, 46, 47, 48, 49, 25, 26, 27, 28, 29, 30, 31, 32, 33, 82, 83, 84, 85, 98, 99, 100, 101, 102, 103, 104, 105, 106, 107, 108, 109, 110] (by decide +kernel) (by decide +kernel)
set_option maxRecDepth 20000 in
theorem gX8_begin_X8_beginStops : GoodIn wsX8_begin (wsV RX8 91 RX8 yX8_beginStops wsX8_beginStops) := goodIn_app (goodIn_of _ (by decide +kernel)) ggX8_begin_X8_beginStops
set_option maxRecDepth 20000 in
theorem ggX8_begin_X8_beginRow : GoodIn wsX8_begin wsX8_beginRow := goodIn_r _ [89, 90, 91, 24, 3, 92, 93, 94, 95, 96, 8, 97, 98, 99, 100, 101, 102, 103, 104, 105, 106, 107, 108, 109, 110] (by decide +kernel) (by decide +kernel)
set_option maxRecDepth 20000 in
theorem gX8_begin_X8_beginRow : GoodIn wsX8_begin (wsV RX8 94 RX8 yX8_beginRow wsX8_beginRow) := goodIn_app (goodIn_of _ (by decide +kernel)) ggX8_begin_X8_beginRow
set_option maxRecDepth 20000 in
theorem ggX8_beginRings_X8_keyBit : GoodIn wsX8_beginRings wsX8_keyBit := goodIn_r _ [5, 6, 34, 35, 36, 37, 38, 39, 40, 41, 42, 43, 44, 45, 46] (by decide +kernel) (by decide +kernel)
set_option maxRecDepth 20000 in
theorem gX8_beginRings_X8_keyBit : GoodIn wsX8_beginRings (wsV RX8 97 RX8 yX8_keyBit wsX8_keyBit) := goodIn_app (goodIn_of _ (by decide +kernel)) ggX8_beginRings_X8_keyBit
set_option maxRecDepth 20000 in
theorem ggX8_beginRings_X8_put : GoodIn wsX8_beginRings wsX8_put := goodIn_r _ [10, 11, 12, 34, 35, 36, 37, 38, 39, 40, 41, 42, 43, 44, 45, 46] (by decide +kernel) (by decide +kernel)
set_option maxRecDepth 20000 in
theorem gX8_beginRings_X8_put : GoodIn wsX8_beginRings (wsV RX8 37 RX8 yX8_put wsX8_put) := goodIn_app (goodIn_of _ (by decide +kernel)) ggX8_beginRings_X8_put
set_option maxRecDepth 20000 in
theorem ggX8_beginRings_X8_startBit : GoodIn wsX8_beginRings wsX8_startBit := goodIn_r _ [16, 17, 34, 35, 36, 37, 38, 39, 40, 41, 42, 43, 44, 45, 46] (by decide +kernel) (by decide +kernel)
set_option maxRecDepth 20000 in
theorem gX8_beginRings_X8_startBit : GoodIn wsX8_beginRings (wsV RX8 100 RX8 yX8_startBit wsX8_startBit) := goodIn_app (goodIn_of _ (by decide +kernel)) ggX8_beginRings_X8_startBit
set_option maxRecDepth 20000 in
theorem ggX8_beginRings_X8_stepRings : GoodIn wsX8_beginRings wsX8_stepRings := goodIn_r _ [21, 22, 23, 24, 4, 25, 26, 27, 28, 29, 11, 12, 30, 31, 32, 33, 7, 8, 9, 10, 34, 35, 36, 37, 38, 39, 40, 41, 42, 43, 44, 45, 46] (by decide +kernel) (by decide +kernel)
set_option maxRecDepth 20000 in
theorem gX8_beginRings_X8_stepRings : GoodIn wsX8_beginRings (wsV RX8 103 RX8 yX8_stepRings wsX8_stepRings) := goodIn_app (goodIn_of _ (by decide +kernel)) ggX8_beginRings_X8_stepRings
set_option maxRecDepth 20000 in
theorem ggX8_beginTwo_X8_keyBit : GoodIn wsX8_beginTwo wsX8_keyBit := goodIn_r _ [5, 6, 38, 39, 40, 41, 42, 43, 44, 45, 46, 47, 48, 49, 50] (by decide +kernel) (by decide +kernel)
set_option maxRecDepth 20000 in
theorem gX8_beginTwo_X8_keyBit : GoodIn wsX8_beginTwo (wsV RX8 97 RX8 yX8_keyBit wsX8_keyBit) := goodIn_app (goodIn_of _ (by decide +kernel)) ggX8_beginTwo_X8_keyBit
set_option maxRecDepth 20000 in
theorem ggX8_beginTwo_X8_put : GoodIn wsX8_beginTwo wsX8_put := goodIn_r _ [10, 11, 12, 38, 39, 40, 41, 42, 43, 44, 45, 46, 47, 48, 49, 50] (by decide +kernel) (by decide +kernel)
set_option maxRecDepth 20000 in
theorem gX8_beginTwo_X8_put : GoodIn wsX8_beginTwo (wsV RX8 37 RX8 yX8_put wsX8_put) := goodIn_app (goodIn_of _ (by decide +kernel)) ggX8_beginTwo_X8_put
set_option maxRecDepth 20000 in
theorem ggX8_beginTwo_X8_startBit : GoodIn wsX8_beginTwo wsX8_startBit := goodIn_r _ [16, 17, 38, 39, 40, 41, 42, 43, 44, 45, 46, 47, 48, 49, 50] (by decide +kernel) (by decide +kernel)
set_option maxRecDepth 20000 in
theorem gX8_beginTwo_X8_startBit : GoodIn wsX8_beginTwo (wsV RX8 100 RX8 yX8_startBit wsX8_startBit) := goodIn_app (goodIn_of _ (by decide +kernel)) ggX8_beginTwo_X8_startBit
set_option maxRecDepth 20000 in
theorem ggX8_beginTwo_X8_stepTwo : GoodIn wsX8_beginTwo wsX8_stepTwo := goodIn_r _ [21, 22, 23, 24, 4, 25, 26, 27, 28, 29, 11, 12, 30, 31, 32, 33, 34, 35, 36, 37, 7, 8, 9, 10, 38, 39, 40, 41, 42, 43, 44, 45, 46, 47, 48, 49, 50] (by decide +kernel) (by decide +kernel)
set_option maxRecDepth 20000 in
theorem gX8_beginTwo_X8_stepTwo : GoodIn wsX8_beginTwo (wsV RX8 107 RX8 yX8_stepTwo wsX8_stepTwo) := goodIn_app (goodIn_of _ (by decide +kernel)) ggX8_beginTwo_X8_stepTwo
set_option maxRecDepth 20000 in
theorem ggX8_beginStops_X8_keyBit : GoodIn wsX8_beginStops wsX8_keyBit := goodIn_r _ [5, 6, 38, 39, 40, 41, 42, 43, 44, 45, 46, 47, 48, 49, 50] (by decide +kernel) (by decide +kernel)
set_option maxRecDepth 20000 in
theorem gX8_beginStops_X8_keyBit : GoodIn wsX8_beginStops (wsV RX8 97 RX8 yX8_keyBit wsX8_keyBit) := goodIn_app (goodIn_of _ (by decide +kernel)) ggX8_beginStops_X8_keyBit
set_option maxRecDepth 20000 in
theorem ggX8_beginStops_X8_feed : GoodIn wsX8_beginStops wsX8_feed := goodIn_r _ [10, 11, 12, 13, 4, 14, 15, 16, 17, 18, 19, 20, 21, 22, 23, 24, 25, 26, 27, 28, 38, 39, 40, 41, 42, 43, 44, 45, 46, 47, 48, 49, 50] (by decide +kernel) (by decide +kernel)
set_option maxRecDepth 20000 in
theorem gX8_beginStops_X8_feed : GoodIn wsX8_beginStops (wsV RX8 111 RX8 yX8_feed wsX8_feed) := goodIn_app (goodIn_of _ (by decide +kernel)) ggX8_beginStops_X8_feed
set_option maxRecDepth 20000 in
theorem ggX8_beginStops_X8_startBit : GoodIn wsX8_beginStops wsX8_startBit := goodIn_r _ [32, 33, 38, 39, 40, 41, 42, 43, 44, 45, 46, 47, 48, 49, 50] (by decide +kernel) (by decide +kernel)
set_option maxRecDepth 20000 in
theorem gX8_beginStops_X8_startBit : GoodIn wsX8_beginStops (wsV RX8 100 RX8 yX8_startBit wsX8_startBit) := goodIn_app (goodIn_of _ (by decide +kernel)) ggX8_beginStops_X8_startBit
set_option maxRecDepth 20000 in
theorem ggX8_beginStops_X8_stepStops : GoodIn wsX8_beginStops wsX8_stepStops := goodIn_r _ [37, 15, 16, 17, 4, 18, 19, 20, 11, 12, 13, 14, 21, 22, 23, 24, 25, 26, 27, 28, 38, 39, 40, 41, 42, 43, 44, 45, 46, 47, 48, 49, 50] (by decide +kernel) (by decide +kernel)
set_option maxRecDepth 20000 in
theorem gX8_beginStops_X8_stepStops : GoodIn wsX8_beginStops (wsV RX8 114 RX8 yX8_stepStops wsX8_stepStops) := goodIn_app (goodIn_of _ (by decide +kernel)) ggX8_beginStops_X8_stepStops
set_option maxRecDepth 20000 in
theorem ggX8_beginRow_X8_exchange : GoodIn wsX8_beginRow wsX8_exchange := goodIn_r _ [11, 1, 12, 13, 14, 15, 16, 17, 18, 19, 20, 21, 22, 23, 24] (by decide +kernel) (by decide +kernel)
set_option maxRecDepth 20000 in
theorem gX8_beginRow_X8_exchange : GoodIn wsX8_beginRow (wsV RX8 72 RX8 yX8_exchange wsX8_exchange) := goodIn_app (goodIn_of _ (by decide +kernel)) ggX8_beginRow_X8_exchange
set_option maxRecDepth 20000 in
theorem ggX8_next_X8_stepRings : GoodIn wsX8_next wsX8_stepRings := goodIn_r _ [9, 10, 11, 12, 8, 13, 14, 15, 16, 17, 18, 19, 20, 21, 22, 23, 24, 25, 26, 27, 63, 64, 65, 66, 67, 68, 69, 70, 71, 72, 73, 74, 75] (by decide +kernel) (by decide +kernel)
set_option maxRecDepth 20000 in
theorem gX8_next_X8_stepRings : GoodIn wsX8_next (wsV RX8 103 RX8 yX8_stepRings wsX8_stepRings) := goodIn_app (goodIn_of _ (by decide +kernel)) ggX8_next_X8_stepRings
set_option maxRecDepth 20000 in
theorem ggX8_next_X8_stepTwo : GoodIn wsX8_next wsX8_stepTwo := goodIn_r _ [31, 32, 33, 34, 8, 35, 14, 15, 16, 17, 18, 19, 36, 37, 38, 39, 40, 41, 42, 43, 24, 25, 26, 27, 63, 64, 65, 66, 67, 68, 69, 70, 71, 72, 73, 74, 75] (by decide +kernel) (by decide +kernel)
set_option maxRecDepth 20000 in
theorem gX8_next_X8_stepTwo : GoodIn wsX8_next (wsV RX8 107 RX8 yX8_stepTwo wsX8_stepTwo) := goodIn_app (goodIn_of _ (by decide +kernel)) ggX8_next_X8_stepTwo
set_option maxRecDepth 20000 in
theorem ggX8_next_X8_stepStops : GoodIn wsX8_next wsX8_stepStops := goodIn_r _ [47, 14, 15, 16, 8, 17, 18, 19, 48, 49, 50, 51, 20, 21, 22, 23, 24, 25, 26, 27, 63, 64, 65, 66, 67, 68, 69, 70, 71, 72, 73, 74, 75] (by decide +kernel) (by decide +kernel)
set_option maxRecDepth 20000 in
theorem gX8_next_X8_stepStops : GoodIn wsX8_next (wsV RX8 114 RX8 yX8_stepStops wsX8_stepStops) := goodIn_app (goodIn_of _ (by decide +kernel)) ggX8_next_X8_stepStops
set_option maxRecDepth 20000 in
theorem ggX8_next_X8_stepByte : GoodIn wsX8_next wsX8_stepByte := goodIn_r _ [55, 56, 57, 58, 59, 60, 61, 8, 62, 63, 64, 65, 66, 67, 68, 69, 70, 71, 72, 73, 74, 75] (by decide +kernel) (by decide +kernel)
set_option maxRecDepth 20000 in
theorem gX8_next_X8_stepByte : GoodIn wsX8_next (wsV RX8 120 RX8 yX8_stepByte wsX8_stepByte) := goodIn_app (goodIn_of _ (by decide +kernel)) ggX8_next_X8_stepByte
set_option maxRecDepth 20000 in
theorem ggX8_bits_X8_mix : GoodIn wsX8_bits wsX8_mix := goodIn_r _ [5, 6, 7, 8, 9, 4, 10, 11, 12, 13, 14, 15, 16, 17, 18, 19, 20, 21, 22, 23, 24, 25, 26, 27, 28, 29, 30, 31, 32, 33, 34, 35, 36, 37, 38, 39, 40, 41, 42, 43, 44, 45, 46, 47, 48, 49, 50, 51, 52, 53, 54, 55, 56, 57, 58, 59, 60, 61, 62, 63, 64, 65, 66, 67, 68, 69, 70, 71, 72, 73, 74, 75, 76, 77, 78, 79, 80, 81, 82, 83] (by decide +kernel) (by decide +kernel)
set_option maxRecDepth 20000 in
theorem gX8_bits_X8_mix : GoodIn wsX8_bits (wsV RX8 126 RX8 yX8_mix wsX8_mix) := goodIn_app (goodIn_of _ (by decide +kernel)) ggX8_bits_X8_mix
set_option maxRecDepth 20000 in
theorem ggX8_skip_X8_next : GoodIn wsX8_skip wsX8_next := goodIn_r _ [6, 7, 1, 8, 9, 10, 11, 12, 5, 13, 14, 15, 16, 17, 18, 19, 20, 21, 22, 23, 24, 25, 26, 27, 28, 29, 30, 31, 32, 33, 34, 35, 36, 37, 38, 39, 40, 41, 42, 43, 44, 45, 46, 47, 48, 49, 50, 51, 52, 53, 54, 55, 56, 57, 58, 59, 60, 61, 62, 63, 64, 65, 66, 67, 68, 69, 70, 71, 72, 73, 74, 75, 76, 77, 78, 79] (by decide +kernel) (by decide +kernel)
set_option maxRecDepth 20000 in
theorem gX8_skip_X8_next : GoodIn wsX8_skip (wsV RX8 130 RX8 yX8_next wsX8_next) := goodIn_app (goodIn_of _ (by decide +kernel)) ggX8_skip_X8_next
set_option maxRecDepth 20000 in
theorem ggX8_mix_X8_next : GoodIn wsX8_mix wsX8_next := goodIn_r _ [6, 7, 1, 8, 9, 10, 11, 12, 5, 13, 14, 15, 16, 17, 18, 19, 20, 21, 22, 23, 24, 25, 26, 27, 28, 29, 30, 31, 32, 33, 34, 35, 36, 37, 38, 39, 40, 41, 42, 43, 44, 45, 46, 47, 48, 49, 50, 51, 52, 53, 54, 55, 56, 57, 58, 59, 60, 61, 62, 63, 64, 65, 66, 67, 68, 69, 70, 71, 72, 73, 74, 75, 76, 77, 78, 79] (by decide +kernel) (by decide +kernel)
set_option maxRecDepth 20000 in
theorem gX8_mix_X8_next : GoodIn wsX8_mix (wsV RX8 130 RX8 yX8_next wsX8_next) := goodIn_app (goodIn_of _ (by decide +kernel)) ggX8_mix_X8_next


