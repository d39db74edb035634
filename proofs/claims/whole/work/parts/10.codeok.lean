theorem ok_J_bitCount : okM xT m_J_bitCount = true := by decide +kernel
theorem ok_J_max : okM xT m_J_max = true := by decide +kernel
theorem ok_J_min : okM xT m_J_min = true := by decide +kernel
theorem ok_J_isNaND : okM xT m_J_isNaND = true := by decide +kernel
theorem ok_J_doubleToLongBits : okM xT m_J_doubleToLongBits = true := by decide +kernel
theorem ok_J_isNaNF : okM xT m_J_isNaNF = true := by decide +kernel
theorem ok_J_floatToIntBits : okM xT m_J_floatToIntBits = true := by decide +kernel
theorem ok_G_next : okM xT m_G_next = true := by decide +kernel
theorem ok_G_afterLetter : okM xT m_G_afterLetter = true := by decide +kernel
theorem ok_G_isDigit : okM xT m_G_isDigit = true := by decide +kernel
theorem ok_P_bit : okM xT m_P_bit = true := by decide +kernel
theorem ok_P_bitsOf : okM xT m_P_bitsOf = true := by decide +kernel
theorem ok_P_hasBottle : okM xT m_P_hasBottle = true := by decide +kernel
theorem ok_P_hasRoom : okM xT m_P_hasRoom = true := by decide +kernel
theorem ok_P_settled : okM xT m_P_settled = true := by decide +kernel
theorem ok_P_mirrored : okM xT m_P_mirrored = true := by decide +kernel
theorem ok_P_robbed : okM xT m_P_robbed = true := by decide +kernel
theorem ok_P_fallenBy : okM xT m_P_fallenBy = true := by decide +kernel
theorem ok_P_allShapes : okM xT m_P_allShapes = true := by decide +kernel
theorem ok_P_addShapes : okM xT m_P_addShapes = true := by decide +kernel
theorem ok_L_init : okM xT m_L_init = true := by decide +kernel
theorem ok_L_playOut : okM xT m_L_playOut = true := by decide +kernel
theorem ok_L_slotBehind : okM xT m_L_slotBehind = true := by decide +kernel
theorem ok_L_slotOf : okM xT m_L_slotOf = true := by decide +kernel
theorem ok_L_isWonBy : okM xT m_L_isWonBy = true := by decide +kernel
theorem ok_L_longestGame : okM xT m_L_longestGame = true := by decide +kernel
theorem ok_L_shortestGame : okM xT m_L_shortestGame = true := by decide +kernel
theorem ok_L_shapesWonBy : okM xT m_L_shapesWonBy = true := by decide +kernel
theorem ok_L_shapesOver : okM xT m_L_shapesOver = true := by decide +kernel
theorem ok_B_init : okM xT m_B_init = true := by decide +kernel
theorem ok_B_take : okM xT m_B_take = true := by decide +kernel
theorem ok_B_turn : okM xT m_B_turn = true := by decide +kernel
theorem ok_B_knock : okM xT m_B_knock = true := by decide +kernel
theorem ok_B_put : okM xT m_B_put = true := by decide +kernel
theorem ok_B_mirror : okM xT m_B_mirror = true := by decide +kernel
theorem ok_B_refill : okM xT m_B_refill = true := by decide +kernel
theorem ok_B_set : okM xT m_B_set = true := by decide +kernel
theorem ok_B_append : okM xT m_B_append = true := by decide +kernel
theorem ok_B_clearBuffer : okM xT m_B_clearBuffer = true := by decide +kernel
theorem ok_B_firstError : okM xT m_B_firstError = true := by decide +kernel
theorem ok_B_obey : okM xT m_B_obey = true := by decide +kernel
theorem ok_B_keep : okM xT m_B_keep = true := by decide +kernel
theorem ok_B_goBack : okM xT m_B_goBack = true := by decide +kernel
theorem ok_B_undo : okM xT m_B_undo = true := by decide +kernel
theorem ok_B_row : okM xT m_B_row = true := by decide +kernel
theorem ok_B_count : okM xT m_B_count = true := by decide +kernel
theorem ok_B_setting : okM xT m_B_setting = true := by decide +kernel
theorem ok_B_why : okM xT m_B_why = true := by decide +kernel
theorem ok_B_falls : okM xT m_B_falls = true := by decide +kernel
theorem ok_B_wins : okM xT m_B_wins = true := by decide +kernel
theorem ok_B_best : okM xT m_B_best = true := by decide +kernel
theorem ok_B_length : okM xT m_B_length = true := by decide +kernel
theorem ok_B_pyramids : okM xT m_B_pyramids = true := by decide +kernel
theorem ok_B_brokenShare : okM xT m_B_brokenShare = true := by decide +kernel
theorem ok_B_wonShare : okM xT m_B_wonShare = true := by decide +kernel
theorem ok_B_digest : okM xT m_B_digest = true := by decide +kernel
theorem ok_B_isRow : okM xT m_B_isRow = true := by decide +kernel
theorem ok_B_isPlace : okM xT m_B_isPlace = true := by decide +kernel
theorem ok_B_isSetting : okM xT m_B_isSetting = true := by decide +kernel
theorem ok_B_save : okM xT m_B_save = true := by decide +kernel
theorem ok_B_isBarring : okM xT m_B_isBarring = true := by decide +kernel
theorem ok_B_reasonAgainst : okM xT m_B_reasonAgainst = true := by decide +kernel
theorem ok_B_maskBehind : okM xT m_B_maskBehind = true := by decide +kernel
theorem ok_B_steal : okM xT m_B_steal = true := by decide +kernel
theorem ok_B_knockOut : okM xT m_B_knockOut = true := by decide +kernel
theorem ok_B_letFall : okM xT m_B_letFall = true := by decide +kernel
theorem ok_B_addBottle : okM xT m_B_addBottle = true := by decide +kernel
theorem ok_B_swapSides : okM xT m_B_swapSides = true := by decide +kernel
theorem ok_B_fillUp : okM xT m_B_fillUp = true := by decide +kernel
theorem ok_B_isComplete : okM xT m_B_isComplete = true := by decide +kernel
theorem ok_B_doOrders : okM xT m_B_doOrders = true := by decide +kernel
theorem ok_B_doOrder : okM xT m_B_doOrder = true := by decide +kernel
theorem ok_B_lowestPlace : okM xT m_B_lowestPlace = true := by decide +kernel
theorem ok_B_highestPlace : okM xT m_B_highestPlace = true := by decide +kernel
theorem ok_B_greatestTheft : okM xT m_B_greatestTheft = true := by decide +kernel
theorem ok_B_brokenInAll : okM xT m_B_brokenInAll = true := by decide +kernel
theorem ok_B_possibleThefts : okM xT m_B_possibleThefts = true := by decide +kernel
theorem ok_B_winner : okM xT m_B_winner = true := by decide +kernel
theorem ok_B_play : okM xT m_B_play = true := by decide +kernel
theorem ok_B_hashRow : okM xT m_B_hashRow = true := by decide +kernel
theorem ok_B_hashBuffer : okM xT m_B_hashBuffer = true := by decide +kernel
theorem ok_B_bitsOfShare : okM xT m_B_bitsOfShare = true := by decide +kernel
theorem ok_M_init : okM xT m_M_init = true := by decide +kernel
theorem ok_M_in : okM xT m_M_in = true := by decide +kernel
theorem ok_M_thrown : okM xT m_M_thrown = true := by decide +kernel
theorem ok_M_goes : okM xT m_M_goes = true := by decide +kernel
theorem ok_M_isRow : okM xT m_M_isRow = true := by decide +kernel
theorem ok_M_isPlace : okM xT m_M_isPlace = true := by decide +kernel
theorem ok_M_record : okM xT m_M_record = true := by decide +kernel
theorem ok_M_first : okM xT m_M_first = true := by decide +kernel
theorem ok_M_has : okM xT m_M_has = true := by decide +kernel
theorem ok_M_bits : okM xT m_M_bits = true := by decide +kernel
theorem ok_M_inRow : okM xT m_M_inRow = true := by decide +kernel
theorem ok_M_fallen : okM xT m_M_fallen = true := by decide +kernel
theorem ok_M_robbed : okM xT m_M_robbed = true := by decide +kernel
theorem ok_M_reason : okM xT m_M_reason = true := by decide +kernel
theorem ok_M_thefts : okM xT m_M_thefts = true := by decide +kernel
theorem ok_M_numberOf : okM xT m_M_numberOf = true := by decide +kernel
theorem ok_M_lay : okM xT m_M_lay = true := by decide +kernel
theorem ok_M_layOne : okM xT m_M_layOne = true := by decide +kernel
theorem ok_M_of : okM xT m_M_of = true := by decide +kernel
theorem ok_M_breaks : okM xT m_M_breaks = true := by decide +kernel
theorem ok_M_takes : okM xT m_M_takes = true := by decide +kernel
theorem ok_M_knocks : okM xT m_M_knocks = true := by decide +kernel
theorem ok_M_canPut : okM xT m_M_canPut = true := by decide +kernel
theorem ok_M_puts : okM xT m_M_puts = true := by decide +kernel
theorem ok_M_mirrors : okM xT m_M_mirrors = true := by decide +kernel
theorem ok_M_refills : okM xT m_M_refills = true := by decide +kernel
theorem ok_M_take : okM xT m_M_take = true := by decide +kernel
theorem ok_M_turn : okM xT m_M_turn = true := by decide +kernel
theorem ok_M_knock : okM xT m_M_knock = true := by decide +kernel
theorem ok_M_put : okM xT m_M_put = true := by decide +kernel
theorem ok_M_mirror : okM xT m_M_mirror = true := by decide +kernel
theorem ok_M_refill : okM xT m_M_refill = true := by decide +kernel
theorem ok_M_set : okM xT m_M_set = true := by decide +kernel
theorem ok_M_append : okM xT m_M_append = true := by decide +kernel
theorem ok_M_clearBuffer : okM xT m_M_clearBuffer = true := by decide +kernel
theorem ok_M_accepts : okM xT m_M_accepts = true := by decide +kernel
theorem ok_M_reads : okM xT m_M_reads = true := by decide +kernel
theorem ok_M_isComplete : okM xT m_M_isComplete = true := by decide +kernel
theorem ok_M_firstError : okM xT m_M_firstError = true := by decide +kernel
theorem ok_M_does : okM xT m_M_does = true := by decide +kernel
theorem ok_M_obey : okM xT m_M_obey = true := by decide +kernel
theorem ok_M_keep : okM xT m_M_keep = true := by decide +kernel
theorem ok_M_goBack : okM xT m_M_goBack = true := by decide +kernel
theorem ok_M_undo : okM xT m_M_undo = true := by decide +kernel
theorem ok_M_edge : okM xT m_M_edge = true := by decide +kernel
theorem ok_M_mostIn : okM xT m_M_mostIn = true := by decide +kernel
theorem ok_M_row : okM xT m_M_row = true := by decide +kernel
theorem ok_M_winner : okM xT m_M_winner = true := by decide +kernel
theorem ok_M_count : okM xT m_M_count = true := by decide +kernel
theorem ok_M_setting : okM xT m_M_setting = true := by decide +kernel
theorem ok_M_why : okM xT m_M_why = true := by decide +kernel
theorem ok_M_falls : okM xT m_M_falls = true := by decide +kernel
theorem ok_M_wins : okM xT m_M_wins = true := by decide +kernel
theorem ok_M_best : okM xT m_M_best = true := by decide +kernel
theorem ok_M_length : okM xT m_M_length = true := by decide +kernel
theorem ok_M_pyramids : okM xT m_M_pyramids = true := by decide +kernel
theorem ok_M_brokenShare : okM xT m_M_brokenShare = true := by decide +kernel
theorem ok_M_wonShare : okM xT m_M_wonShare = true := by decide +kernel
theorem ok_M_digest : okM xT m_M_digest = true := by decide +kernel
theorem xT_ok : ∀ q ∈ xT, okM xT q = true := by
  intro q hq
  simp only [xT, List.mem_cons, List.not_mem_nil, or_false] at hq
  rcases hq with rfl | rfl | rfl | rfl | rfl | rfl | rfl | rfl | rfl | rfl | rfl | rfl | rfl | rfl | rfl | rfl | rfl | rfl | rfl | rfl | rfl | rfl | rfl | rfl | rfl | rfl | rfl | rfl | rfl | rfl | rfl | rfl | rfl | rfl | rfl | rfl | rfl | rfl | rfl | rfl | rfl | rfl | rfl | rfl | rfl | rfl | rfl | rfl | rfl | rfl | rfl | rfl | rfl | rfl | rfl | rfl | rfl | rfl | rfl | rfl | rfl | rfl | rfl | rfl | rfl | rfl | rfl | rfl | rfl | rfl | rfl | rfl | rfl | rfl | rfl | rfl | rfl | rfl | rfl | rfl | rfl | rfl | rfl | rfl | rfl | rfl | rfl | rfl | rfl | rfl | rfl | rfl | rfl | rfl | rfl | rfl | rfl | rfl | rfl | rfl | rfl | rfl | rfl | rfl | rfl | rfl | rfl | rfl | rfl | rfl | rfl | rfl | rfl | rfl | rfl | rfl | rfl | rfl | rfl | rfl | rfl | rfl | rfl | rfl | rfl | rfl | rfl | rfl | rfl | rfl | rfl | rfl | rfl | rfl | rfl | rfl | rfl | rfl | rfl | rfl | rfl
  · exact ok_J_bitCount
  · exact ok_J_max
  · exact ok_J_min
  · exact ok_J_isNaND
  · exact ok_J_doubleToLongBits
  · exact ok_J_isNaNF
  · exact ok_J_floatToIntBits
  · exact ok_G_next
  · exact ok_G_afterLetter
  · exact ok_G_isDigit
  · exact ok_P_bit
  · exact ok_P_bitsOf
  · exact ok_P_hasBottle
  · exact ok_P_hasRoom
  · exact ok_P_settled
  · exact ok_P_mirrored
  · exact ok_P_robbed
  · exact ok_P_fallenBy
  · exact ok_P_allShapes
  · exact ok_P_addShapes
  · exact ok_L_init
  · exact ok_L_playOut
  · exact ok_L_slotBehind
  · exact ok_L_slotOf
  · exact ok_L_isWonBy
  · exact ok_L_longestGame
  · exact ok_L_shortestGame
  · exact ok_L_shapesWonBy
  · exact ok_L_shapesOver
  · exact ok_B_init
  · exact ok_B_take
  · exact ok_B_turn
  · exact ok_B_knock
  · exact ok_B_put
  · exact ok_B_mirror
  · exact ok_B_refill
  · exact ok_B_set
  · exact ok_B_append
  · exact ok_B_clearBuffer
  · exact ok_B_firstError
  · exact ok_B_obey
  · exact ok_B_keep
  · exact ok_B_goBack
  · exact ok_B_undo
  · exact ok_B_row
  · exact ok_B_count
  · exact ok_B_setting
  · exact ok_B_why
  · exact ok_B_falls
  · exact ok_B_wins
  · exact ok_B_best
  · exact ok_B_length
  · exact ok_B_pyramids
  · exact ok_B_brokenShare
  · exact ok_B_wonShare
  · exact ok_B_digest
  · exact ok_B_isRow
  · exact ok_B_isPlace
  · exact ok_B_isSetting
  · exact ok_B_save
  · exact ok_B_isBarring
  · exact ok_B_reasonAgainst
  · exact ok_B_maskBehind
  · exact ok_B_steal
  · exact ok_B_knockOut
  · exact ok_B_letFall
  · exact ok_B_addBottle
  · exact ok_B_swapSides
  · exact ok_B_fillUp
  · exact ok_B_isComplete
  · exact ok_B_doOrders
  · exact ok_B_doOrder
  · exact ok_B_lowestPlace
  · exact ok_B_highestPlace
  · exact ok_B_greatestTheft
  · exact ok_B_brokenInAll
  · exact ok_B_possibleThefts
  · exact ok_B_winner
  · exact ok_B_play
  · exact ok_B_hashRow
  · exact ok_B_hashBuffer
  · exact ok_B_bitsOfShare
  · exact ok_M_init
  · exact ok_M_in
  · exact ok_M_thrown
  · exact ok_M_goes
  · exact ok_M_isRow
  · exact ok_M_isPlace
  · exact ok_M_record
  · exact ok_M_first
  · exact ok_M_has
  · exact ok_M_bits
  · exact ok_M_inRow
  · exact ok_M_fallen
  · exact ok_M_robbed
  · exact ok_M_reason
  · exact ok_M_thefts
  · exact ok_M_numberOf
  · exact ok_M_lay
  · exact ok_M_layOne
  · exact ok_M_of
  · exact ok_M_breaks
  · exact ok_M_takes
  · exact ok_M_knocks
  · exact ok_M_canPut
  · exact ok_M_puts
  · exact ok_M_mirrors
  · exact ok_M_refills
  · exact ok_M_take
  · exact ok_M_turn
  · exact ok_M_knock
  · exact ok_M_put
  · exact ok_M_mirror
  · exact ok_M_refill
  · exact ok_M_set
  · exact ok_M_append
  · exact ok_M_clearBuffer
  · exact ok_M_accepts
  · exact ok_M_reads
  · exact ok_M_isComplete
  · exact ok_M_firstError
  · exact ok_M_does
  · exact ok_M_obey
  · exact ok_M_keep
  · exact ok_M_goBack
  · exact ok_M_undo
  · exact ok_M_edge
  · exact ok_M_mostIn
  · exact ok_M_row
  · exact ok_M_winner
  · exact ok_M_count
  · exact ok_M_setting
  · exact ok_M_why
  · exact ok_M_falls
  · exact ok_M_wins
  · exact ok_M_best
  · exact ok_M_length
  · exact ok_M_pyramids
  · exact ok_M_brokenShare
  · exact ok_M_wonShare
  · exact ok_M_digest
