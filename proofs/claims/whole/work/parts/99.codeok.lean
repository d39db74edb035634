theorem ok_J_bitCount : okM xT xKT xHT 0 m_J_bitCount = true := by decide +kernel
theorem ok_J_max : okM xT xKT xHT 1 m_J_max = true := by decide +kernel
theorem ok_J_min : okM xT xKT xHT 2 m_J_min = true := by decide +kernel
theorem ok_J_isNaND : okM xT xKT xHT 3 m_J_isNaND = true := by decide +kernel
theorem ok_J_doubleToLongBits : okM xT xKT xHT 4 m_J_doubleToLongBits = true := by decide +kernel
theorem ok_J_isNaNF : okM xT xKT xHT 5 m_J_isNaNF = true := by decide +kernel
theorem ok_J_floatToIntBits : okM xT xKT xHT 6 m_J_floatToIntBits = true := by decide +kernel
theorem ok_G_next : okM xT xKT xHT 7 m_G_next = true := by decide +kernel
theorem ok_G_afterLetter : okM xT xKT xHT 8 m_G_afterLetter = true := by decide +kernel
theorem ok_G_isDigit : okM xT xKT xHT 9 m_G_isDigit = true := by decide +kernel
theorem ok_P_bit : okM xT xKT xHT 10 m_P_bit = true := by decide +kernel
theorem ok_P_bitsOf : okM xT xKT xHT 11 m_P_bitsOf = true := by decide +kernel
theorem ok_P_hasBottle : okM xT xKT xHT 12 m_P_hasBottle = true := by decide +kernel
theorem ok_P_hasRoom : okM xT xKT xHT 13 m_P_hasRoom = true := by decide +kernel
theorem ok_P_settled : okM xT xKT xHT 14 m_P_settled = true := by decide +kernel
theorem ok_P_mirrored : okM xT xKT xHT 15 m_P_mirrored = true := by decide +kernel
theorem ok_P_robbed : okM xT xKT xHT 16 m_P_robbed = true := by decide +kernel
theorem ok_P_fallenBy : okM xT xKT xHT 17 m_P_fallenBy = true := by decide +kernel
theorem ok_P_allShapes : okM xT xKT xHT 18 m_P_allShapes = true := by decide +kernel
theorem ok_P_addShapes : okM xT xKT xHT 19 m_P_addShapes = true := by decide +kernel
theorem ok_L_init : okM xT xKT xHT 20 m_L_init = true := by decide +kernel
theorem ok_L_playOut : okM xT xKT xHT 21 m_L_playOut = true := by decide +kernel
theorem ok_L_slotBehind : okM xT xKT xHT 22 m_L_slotBehind = true := by decide +kernel
theorem ok_L_slotOf : okM xT xKT xHT 23 m_L_slotOf = true := by decide +kernel
theorem ok_L_isWonBy : okM xT xKT xHT 24 m_L_isWonBy = true := by decide +kernel
theorem ok_L_longestGame : okM xT xKT xHT 25 m_L_longestGame = true := by decide +kernel
theorem ok_L_shortestGame : okM xT xKT xHT 26 m_L_shortestGame = true := by decide +kernel
theorem ok_L_shapesWonBy : okM xT xKT xHT 27 m_L_shapesWonBy = true := by decide +kernel
theorem ok_L_shapesOver : okM xT xKT xHT 28 m_L_shapesOver = true := by decide +kernel
theorem ok_B_init : okM xT xKT xHT 29 m_B_init = true := by decide +kernel
theorem ok_B_take : okM xT xKT xHT 30 m_B_take = true := by decide +kernel
theorem ok_B_turn : okM xT xKT xHT 31 m_B_turn = true := by decide +kernel
theorem ok_B_knock : okM xT xKT xHT 32 m_B_knock = true := by decide +kernel
theorem ok_B_put : okM xT xKT xHT 33 m_B_put = true := by decide +kernel
theorem ok_B_mirror : okM xT xKT xHT 34 m_B_mirror = true := by decide +kernel
theorem ok_B_refill : okM xT xKT xHT 35 m_B_refill = true := by decide +kernel
theorem ok_B_set : okM xT xKT xHT 36 m_B_set = true := by decide +kernel
theorem ok_B_append : okM xT xKT xHT 37 m_B_append = true := by decide +kernel
theorem ok_B_clearBuffer : okM xT xKT xHT 38 m_B_clearBuffer = true := by decide +kernel
theorem ok_B_firstError : okM xT xKT xHT 39 m_B_firstError = true := by decide +kernel
theorem ok_B_obey : okM xT xKT xHT 40 m_B_obey = true := by decide +kernel
theorem ok_B_keep : okM xT xKT xHT 41 m_B_keep = true := by decide +kernel
theorem ok_B_goBack : okM xT xKT xHT 42 m_B_goBack = true := by decide +kernel
theorem ok_B_undo : okM xT xKT xHT 43 m_B_undo = true := by decide +kernel
theorem ok_B_row : okM xT xKT xHT 44 m_B_row = true := by decide +kernel
theorem ok_B_count : okM xT xKT xHT 45 m_B_count = true := by decide +kernel
theorem ok_B_setting : okM xT xKT xHT 46 m_B_setting = true := by decide +kernel
theorem ok_B_why : okM xT xKT xHT 47 m_B_why = true := by decide +kernel
theorem ok_B_falls : okM xT xKT xHT 48 m_B_falls = true := by decide +kernel
theorem ok_B_wins : okM xT xKT xHT 49 m_B_wins = true := by decide +kernel
theorem ok_B_best : okM xT xKT xHT 50 m_B_best = true := by decide +kernel
theorem ok_B_length : okM xT xKT xHT 51 m_B_length = true := by decide +kernel
theorem ok_B_pyramids : okM xT xKT xHT 52 m_B_pyramids = true := by decide +kernel
theorem ok_B_brokenShare : okM xT xKT xHT 53 m_B_brokenShare = true := by decide +kernel
theorem ok_B_wonShare : okM xT xKT xHT 54 m_B_wonShare = true := by decide +kernel
theorem ok_B_digest : okM xT xKT xHT 55 m_B_digest = true := by decide +kernel
theorem ok_B_isRow : okM xT xKT xHT 56 m_B_isRow = true := by decide +kernel
theorem ok_B_isPlace : okM xT xKT xHT 57 m_B_isPlace = true := by decide +kernel
theorem ok_B_isSetting : okM xT xKT xHT 58 m_B_isSetting = true := by decide +kernel
theorem ok_B_save : okM xT xKT xHT 59 m_B_save = true := by decide +kernel
theorem ok_B_isBarring : okM xT xKT xHT 60 m_B_isBarring = true := by decide +kernel
theorem ok_B_reasonAgainst : okM xT xKT xHT 61 m_B_reasonAgainst = true := by decide +kernel
theorem ok_B_maskBehind : okM xT xKT xHT 62 m_B_maskBehind = true := by decide +kernel
theorem ok_B_steal : okM xT xKT xHT 63 m_B_steal = true := by decide +kernel
theorem ok_B_knockOut : okM xT xKT xHT 64 m_B_knockOut = true := by decide +kernel
theorem ok_B_letFall : okM xT xKT xHT 65 m_B_letFall = true := by decide +kernel
theorem ok_B_addBottle : okM xT xKT xHT 66 m_B_addBottle = true := by decide +kernel
theorem ok_B_swapSides : okM xT xKT xHT 67 m_B_swapSides = true := by decide +kernel
theorem ok_B_fillUp : okM xT xKT xHT 68 m_B_fillUp = true := by decide +kernel
theorem ok_B_isComplete : okM xT xKT xHT 69 m_B_isComplete = true := by decide +kernel
theorem ok_B_doOrders : okM xT xKT xHT 70 m_B_doOrders = true := by decide +kernel
theorem ok_B_doOrder : okM xT xKT xHT 71 m_B_doOrder = true := by decide +kernel
theorem ok_B_lowestPlace : okM xT xKT xHT 72 m_B_lowestPlace = true := by decide +kernel
theorem ok_B_highestPlace : okM xT xKT xHT 73 m_B_highestPlace = true := by decide +kernel
theorem ok_B_greatestTheft : okM xT xKT xHT 74 m_B_greatestTheft = true := by decide +kernel
theorem ok_B_brokenInAll : okM xT xKT xHT 75 m_B_brokenInAll = true := by decide +kernel
theorem ok_B_possibleThefts : okM xT xKT xHT 76 m_B_possibleThefts = true := by decide +kernel
theorem ok_B_winner : okM xT xKT xHT 77 m_B_winner = true := by decide +kernel
theorem ok_B_play : okM xT xKT xHT 78 m_B_play = true := by decide +kernel
theorem ok_B_hashRow : okM xT xKT xHT 79 m_B_hashRow = true := by decide +kernel
theorem ok_B_hashBuffer : okM xT xKT xHT 80 m_B_hashBuffer = true := by decide +kernel
theorem ok_B_bitsOfShare : okM xT xKT xHT 81 m_B_bitsOfShare = true := by decide +kernel
theorem ok_M_init : okM xT xKT xHT 82 m_M_init = true := by decide +kernel
theorem ok_M_in : okM xT xKT xHT 83 m_M_in = true := by decide +kernel
theorem ok_M_thrown : okM xT xKT xHT 84 m_M_thrown = true := by decide +kernel
theorem ok_M_goes : okM xT xKT xHT 85 m_M_goes = true := by decide +kernel
theorem ok_M_isRow : okM xT xKT xHT 86 m_M_isRow = true := by decide +kernel
theorem ok_M_isPlace : okM xT xKT xHT 87 m_M_isPlace = true := by decide +kernel
theorem ok_M_record : okM xT xKT xHT 88 m_M_record = true := by decide +kernel
theorem ok_M_first : okM xT xKT xHT 89 m_M_first = true := by decide +kernel
theorem ok_M_has : okM xT xKT xHT 90 m_M_has = true := by decide +kernel
theorem ok_M_bits : okM xT xKT xHT 91 m_M_bits = true := by decide +kernel
theorem ok_M_inRow : okM xT xKT xHT 92 m_M_inRow = true := by decide +kernel
theorem ok_M_fallen : okM xT xKT xHT 93 m_M_fallen = true := by decide +kernel
theorem ok_M_robbed : okM xT xKT xHT 94 m_M_robbed = true := by decide +kernel
theorem ok_M_reason : okM xT xKT xHT 95 m_M_reason = true := by decide +kernel
theorem ok_M_thefts : okM xT xKT xHT 96 m_M_thefts = true := by decide +kernel
theorem ok_M_numberOf : okM xT xKT xHT 97 m_M_numberOf = true := by decide +kernel
theorem ok_M_lay : okM xT xKT xHT 98 m_M_lay = true := by decide +kernel
theorem ok_M_layOne : okM xT xKT xHT 99 m_M_layOne = true := by decide +kernel
theorem ok_M_of : okM xT xKT xHT 100 m_M_of = true := by decide +kernel
theorem ok_M_breaks : okM xT xKT xHT 101 m_M_breaks = true := by decide +kernel
theorem ok_M_takes : okM xT xKT xHT 102 m_M_takes = true := by decide +kernel
theorem ok_M_knocks : okM xT xKT xHT 103 m_M_knocks = true := by decide +kernel
theorem ok_M_canPut : okM xT xKT xHT 104 m_M_canPut = true := by decide +kernel
theorem ok_M_puts : okM xT xKT xHT 105 m_M_puts = true := by decide +kernel
theorem ok_M_mirrors : okM xT xKT xHT 106 m_M_mirrors = true := by decide +kernel
theorem ok_M_refills : okM xT xKT xHT 107 m_M_refills = true := by decide +kernel
theorem ok_M_take : okM xT xKT xHT 108 m_M_take = true := by decide +kernel
theorem ok_M_turn : okM xT xKT xHT 109 m_M_turn = true := by decide +kernel
theorem ok_M_knock : okM xT xKT xHT 110 m_M_knock = true := by decide +kernel
theorem ok_M_put : okM xT xKT xHT 111 m_M_put = true := by decide +kernel
theorem ok_M_mirror : okM xT xKT xHT 112 m_M_mirror = true := by decide +kernel
theorem ok_M_refill : okM xT xKT xHT 113 m_M_refill = true := by decide +kernel
theorem ok_M_set : okM xT xKT xHT 114 m_M_set = true := by decide +kernel
theorem ok_M_append : okM xT xKT xHT 115 m_M_append = true := by decide +kernel
theorem ok_M_clearBuffer : okM xT xKT xHT 116 m_M_clearBuffer = true := by decide +kernel
theorem ok_M_accepts : okM xT xKT xHT 117 m_M_accepts = true := by decide +kernel
theorem ok_M_reads : okM xT xKT xHT 118 m_M_reads = true := by decide +kernel
theorem ok_M_isComplete : okM xT xKT xHT 119 m_M_isComplete = true := by decide +kernel
theorem ok_M_firstError : okM xT xKT xHT 120 m_M_firstError = true := by decide +kernel
theorem ok_M_does : okM xT xKT xHT 121 m_M_does = true := by decide +kernel
theorem ok_M_obey : okM xT xKT xHT 122 m_M_obey = true := by decide +kernel
theorem ok_M_keep : okM xT xKT xHT 123 m_M_keep = true := by decide +kernel
theorem ok_M_goBack : okM xT xKT xHT 124 m_M_goBack = true := by decide +kernel
theorem ok_M_undo : okM xT xKT xHT 125 m_M_undo = true := by decide +kernel
theorem ok_M_edge : okM xT xKT xHT 126 m_M_edge = true := by decide +kernel
theorem ok_M_mostIn : okM xT xKT xHT 127 m_M_mostIn = true := by decide +kernel
theorem ok_M_row : okM xT xKT xHT 128 m_M_row = true := by decide +kernel
theorem ok_M_winner : okM xT xKT xHT 129 m_M_winner = true := by decide +kernel
theorem ok_M_count : okM xT xKT xHT 130 m_M_count = true := by decide +kernel
theorem ok_M_setting : okM xT xKT xHT 131 m_M_setting = true := by decide +kernel
theorem ok_M_why : okM xT xKT xHT 132 m_M_why = true := by decide +kernel
theorem ok_M_falls : okM xT xKT xHT 133 m_M_falls = true := by decide +kernel
theorem ok_M_wins : okM xT xKT xHT 134 m_M_wins = true := by decide +kernel
theorem ok_M_best : okM xT xKT xHT 135 m_M_best = true := by decide +kernel
theorem ok_M_length : okM xT xKT xHT 136 m_M_length = true := by decide +kernel
theorem ok_M_pyramids : okM xT xKT xHT 137 m_M_pyramids = true := by decide +kernel
theorem ok_M_brokenShare : okM xT xKT xHT 138 m_M_brokenShare = true := by decide +kernel
theorem ok_M_wonShare : okM xT xKT xHT 139 m_M_wonShare = true := by decide +kernel
theorem ok_M_digest : okM xT xKT xHT 140 m_M_digest = true := by decide +kernel
theorem xT_ok : ∀ i q, xT[i]? = some q → okM xT xKT xHT i q = true := by
  intro i q hq
  match i, hq with
  | 0, hq => cases hq; exact ok_J_bitCount
  | 1, hq => cases hq; exact ok_J_max
  | 2, hq => cases hq; exact ok_J_min
  | 3, hq => cases hq; exact ok_J_isNaND
  | 4, hq => cases hq; exact ok_J_doubleToLongBits
  | 5, hq => cases hq; exact ok_J_isNaNF
  | 6, hq => cases hq; exact ok_J_floatToIntBits
  | 7, hq => cases hq; exact ok_G_next
  | 8, hq => cases hq; exact ok_G_afterLetter
  | 9, hq => cases hq; exact ok_G_isDigit
  | 10, hq => cases hq; exact ok_P_bit
  | 11, hq => cases hq; exact ok_P_bitsOf
  | 12, hq => cases hq; exact ok_P_hasBottle
  | 13, hq => cases hq; exact ok_P_hasRoom
  | 14, hq => cases hq; exact ok_P_settled
  | 15, hq => cases hq; exact ok_P_mirrored
  | 16, hq => cases hq; exact ok_P_robbed
  | 17, hq => cases hq; exact ok_P_fallenBy
  | 18, hq => cases hq; exact ok_P_allShapes
  | 19, hq => cases hq; exact ok_P_addShapes
  | 20, hq => cases hq; exact ok_L_init
  | 21, hq => cases hq; exact ok_L_playOut
  | 22, hq => cases hq; exact ok_L_slotBehind
  | 23, hq => cases hq; exact ok_L_slotOf
  | 24, hq => cases hq; exact ok_L_isWonBy
  | 25, hq => cases hq; exact ok_L_longestGame
  | 26, hq => cases hq; exact ok_L_shortestGame
  | 27, hq => cases hq; exact ok_L_shapesWonBy
  | 28, hq => cases hq; exact ok_L_shapesOver
  | 29, hq => cases hq; exact ok_B_init
  | 30, hq => cases hq; exact ok_B_take
  | 31, hq => cases hq; exact ok_B_turn
  | 32, hq => cases hq; exact ok_B_knock
  | 33, hq => cases hq; exact ok_B_put
  | 34, hq => cases hq; exact ok_B_mirror
  | 35, hq => cases hq; exact ok_B_refill
  | 36, hq => cases hq; exact ok_B_set
  | 37, hq => cases hq; exact ok_B_append
  | 38, hq => cases hq; exact ok_B_clearBuffer
  | 39, hq => cases hq; exact ok_B_firstError
  | 40, hq => cases hq; exact ok_B_obey
  | 41, hq => cases hq; exact ok_B_keep
  | 42, hq => cases hq; exact ok_B_goBack
  | 43, hq => cases hq; exact ok_B_undo
  | 44, hq => cases hq; exact ok_B_row
  | 45, hq => cases hq; exact ok_B_count
  | 46, hq => cases hq; exact ok_B_setting
  | 47, hq => cases hq; exact ok_B_why
  | 48, hq => cases hq; exact ok_B_falls
  | 49, hq => cases hq; exact ok_B_wins
  | 50, hq => cases hq; exact ok_B_best
  | 51, hq => cases hq; exact ok_B_length
  | 52, hq => cases hq; exact ok_B_pyramids
  | 53, hq => cases hq; exact ok_B_brokenShare
  | 54, hq => cases hq; exact ok_B_wonShare
  | 55, hq => cases hq; exact ok_B_digest
  | 56, hq => cases hq; exact ok_B_isRow
  | 57, hq => cases hq; exact ok_B_isPlace
  | 58, hq => cases hq; exact ok_B_isSetting
  | 59, hq => cases hq; exact ok_B_save
  | 60, hq => cases hq; exact ok_B_isBarring
  | 61, hq => cases hq; exact ok_B_reasonAgainst
  | 62, hq => cases hq; exact ok_B_maskBehind
  | 63, hq => cases hq; exact ok_B_steal
  | 64, hq => cases hq; exact ok_B_knockOut
  | 65, hq => cases hq; exact ok_B_letFall
  | 66, hq => cases hq; exact ok_B_addBottle
  | 67, hq => cases hq; exact ok_B_swapSides
  | 68, hq => cases hq; exact ok_B_fillUp
  | 69, hq => cases hq; exact ok_B_isComplete
  | 70, hq => cases hq; exact ok_B_doOrders
  | 71, hq => cases hq; exact ok_B_doOrder
  | 72, hq => cases hq; exact ok_B_lowestPlace
  | 73, hq => cases hq; exact ok_B_highestPlace
  | 74, hq => cases hq; exact ok_B_greatestTheft
  | 75, hq => cases hq; exact ok_B_brokenInAll
  | 76, hq => cases hq; exact ok_B_possibleThefts
  | 77, hq => cases hq; exact ok_B_winner
  | 78, hq => cases hq; exact ok_B_play
  | 79, hq => cases hq; exact ok_B_hashRow
  | 80, hq => cases hq; exact ok_B_hashBuffer
  | 81, hq => cases hq; exact ok_B_bitsOfShare
  | 82, hq => cases hq; exact ok_M_init
  | 83, hq => cases hq; exact ok_M_in
  | 84, hq => cases hq; exact ok_M_thrown
  | 85, hq => cases hq; exact ok_M_goes
  | 86, hq => cases hq; exact ok_M_isRow
  | 87, hq => cases hq; exact ok_M_isPlace
  | 88, hq => cases hq; exact ok_M_record
  | 89, hq => cases hq; exact ok_M_first
  | 90, hq => cases hq; exact ok_M_has
  | 91, hq => cases hq; exact ok_M_bits
  | 92, hq => cases hq; exact ok_M_inRow
  | 93, hq => cases hq; exact ok_M_fallen
  | 94, hq => cases hq; exact ok_M_robbed
  | 95, hq => cases hq; exact ok_M_reason
  | 96, hq => cases hq; exact ok_M_thefts
  | 97, hq => cases hq; exact ok_M_numberOf
  | 98, hq => cases hq; exact ok_M_lay
  | 99, hq => cases hq; exact ok_M_layOne
  | 100, hq => cases hq; exact ok_M_of
  | 101, hq => cases hq; exact ok_M_breaks
  | 102, hq => cases hq; exact ok_M_takes
  | 103, hq => cases hq; exact ok_M_knocks
  | 104, hq => cases hq; exact ok_M_canPut
  | 105, hq => cases hq; exact ok_M_puts
  | 106, hq => cases hq; exact ok_M_mirrors
  | 107, hq => cases hq; exact ok_M_refills
  | 108, hq => cases hq; exact ok_M_take
  | 109, hq => cases hq; exact ok_M_turn
  | 110, hq => cases hq; exact ok_M_knock
  | 111, hq => cases hq; exact ok_M_put
  | 112, hq => cases hq; exact ok_M_mirror
  | 113, hq => cases hq; exact ok_M_refill
  | 114, hq => cases hq; exact ok_M_set
  | 115, hq => cases hq; exact ok_M_append
  | 116, hq => cases hq; exact ok_M_clearBuffer
  | 117, hq => cases hq; exact ok_M_accepts
  | 118, hq => cases hq; exact ok_M_reads
  | 119, hq => cases hq; exact ok_M_isComplete
  | 120, hq => cases hq; exact ok_M_firstError
  | 121, hq => cases hq; exact ok_M_does
  | 122, hq => cases hq; exact ok_M_obey
  | 123, hq => cases hq; exact ok_M_keep
  | 124, hq => cases hq; exact ok_M_goBack
  | 125, hq => cases hq; exact ok_M_undo
  | 126, hq => cases hq; exact ok_M_edge
  | 127, hq => cases hq; exact ok_M_mostIn
  | 128, hq => cases hq; exact ok_M_row
  | 129, hq => cases hq; exact ok_M_winner
  | 130, hq => cases hq; exact ok_M_count
  | 131, hq => cases hq; exact ok_M_setting
  | 132, hq => cases hq; exact ok_M_why
  | 133, hq => cases hq; exact ok_M_falls
  | 134, hq => cases hq; exact ok_M_wins
  | 135, hq => cases hq; exact ok_M_best
  | 136, hq => cases hq; exact ok_M_length
  | 137, hq => cases hq; exact ok_M_pyramids
  | 138, hq => cases hq; exact ok_M_brokenShare
  | 139, hq => cases hq; exact ok_M_wonShare
  | 140, hq => cases hq; exact ok_M_digest
  | n + 141, hq => simp [xT] at hq
