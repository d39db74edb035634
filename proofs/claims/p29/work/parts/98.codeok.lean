theorem ok_J_bitCount : okM xT xKT xHT 0 m_J_bitCount = true := by decide +kernel
theorem ok_J_max : okM xT xKT xHT 1 m_J_max = true := by decide +kernel
theorem ok_J_min : okM xT xKT xHT 2 m_J_min = true := by decide +kernel
theorem ok_P_bit : okM xT xKT xHT 3 m_P_bit = true := by decide +kernel
theorem ok_P_bitsOf : okM xT xKT xHT 4 m_P_bitsOf = true := by decide +kernel
theorem ok_P_hasBottle : okM xT xKT xHT 5 m_P_hasBottle = true := by decide +kernel
theorem ok_P_hasRoom : okM xT xKT xHT 6 m_P_hasRoom = true := by decide +kernel
theorem ok_P_settled : okM xT xKT xHT 7 m_P_settled = true := by decide +kernel
theorem ok_P_mirrored : okM xT xKT xHT 8 m_P_mirrored = true := by decide +kernel
theorem ok_P_robbed : okM xT xKT xHT 9 m_P_robbed = true := by decide +kernel
theorem ok_P_fallenBy : okM xT xKT xHT 10 m_P_fallenBy = true := by decide +kernel
theorem ok_P_allShapes : okM xT xKT xHT 11 m_P_allShapes = true := by decide +kernel
theorem ok_P_addShapes : okM xT xKT xHT 12 m_P_addShapes = true := by decide +kernel
theorem ok_L_init : okM xT xKT xHT 13 m_L_init = true := by decide +kernel
theorem ok_L_playOut : okM xT xKT xHT 14 m_L_playOut = true := by decide +kernel
theorem ok_L_slotBehind : okM xT xKT xHT 15 m_L_slotBehind = true := by decide +kernel
theorem ok_L_slotOf : okM xT xKT xHT 16 m_L_slotOf = true := by decide +kernel
theorem ok_L_isWonBy : okM xT xKT xHT 17 m_L_isWonBy = true := by decide +kernel
theorem ok_L_longestGame : okM xT xKT xHT 18 m_L_longestGame = true := by decide +kernel
theorem ok_L_shortestGame : okM xT xKT xHT 19 m_L_shortestGame = true := by decide +kernel
theorem ok_L_shapesWonBy : okM xT xKT xHT 20 m_L_shapesWonBy = true := by decide +kernel
theorem ok_L_shapesOver : okM xT xKT xHT 21 m_L_shapesOver = true := by decide +kernel
theorem ok_B_init : okM xT xKT xHT 22 m_B_init = true := by decide +kernel
theorem ok_B_take : okM xT xKT xHT 23 m_B_take = true := by decide +kernel
theorem ok_B_turn : okM xT xKT xHT 24 m_B_turn = true := by decide +kernel
theorem ok_B_knock : okM xT xKT xHT 25 m_B_knock = true := by decide +kernel
theorem ok_B_put : okM xT xKT xHT 26 m_B_put = true := by decide +kernel
theorem ok_B_mirror : okM xT xKT xHT 27 m_B_mirror = true := by decide +kernel
theorem ok_B_refill : okM xT xKT xHT 28 m_B_refill = true := by decide +kernel
theorem ok_B_set : okM xT xKT xHT 29 m_B_set = true := by decide +kernel
theorem ok_B_keep : okM xT xKT xHT 30 m_B_keep = true := by decide +kernel
theorem ok_B_goBack : okM xT xKT xHT 31 m_B_goBack = true := by decide +kernel
theorem ok_B_undo : okM xT xKT xHT 32 m_B_undo = true := by decide +kernel
theorem ok_B_row : okM xT xKT xHT 33 m_B_row = true := by decide +kernel
theorem ok_B_count : okM xT xKT xHT 34 m_B_count = true := by decide +kernel
theorem ok_B_setting : okM xT xKT xHT 35 m_B_setting = true := by decide +kernel
theorem ok_B_why : okM xT xKT xHT 36 m_B_why = true := by decide +kernel
theorem ok_B_falls : okM xT xKT xHT 37 m_B_falls = true := by decide +kernel
theorem ok_B_wins : okM xT xKT xHT 38 m_B_wins = true := by decide +kernel
theorem ok_B_best : okM xT xKT xHT 39 m_B_best = true := by decide +kernel
theorem ok_B_length : okM xT xKT xHT 40 m_B_length = true := by decide +kernel
theorem ok_B_pyramids : okM xT xKT xHT 41 m_B_pyramids = true := by decide +kernel
theorem ok_B_brokenShare : okM xT xKT xHT 42 m_B_brokenShare = true := by decide +kernel
theorem ok_B_wonShare : okM xT xKT xHT 43 m_B_wonShare = true := by decide +kernel
theorem ok_B_isRow : okM xT xKT xHT 44 m_B_isRow = true := by decide +kernel
theorem ok_B_isPlace : okM xT xKT xHT 45 m_B_isPlace = true := by decide +kernel
theorem ok_B_isSetting : okM xT xKT xHT 46 m_B_isSetting = true := by decide +kernel
theorem ok_B_save : okM xT xKT xHT 47 m_B_save = true := by decide +kernel
theorem ok_B_isBarring : okM xT xKT xHT 48 m_B_isBarring = true := by decide +kernel
theorem ok_B_reasonAgainst : okM xT xKT xHT 49 m_B_reasonAgainst = true := by decide +kernel
theorem ok_B_maskBehind : okM xT xKT xHT 50 m_B_maskBehind = true := by decide +kernel
theorem ok_B_steal : okM xT xKT xHT 51 m_B_steal = true := by decide +kernel
theorem ok_B_knockOut : okM xT xKT xHT 52 m_B_knockOut = true := by decide +kernel
theorem ok_B_letFall : okM xT xKT xHT 53 m_B_letFall = true := by decide +kernel
theorem ok_B_addBottle : okM xT xKT xHT 54 m_B_addBottle = true := by decide +kernel
theorem ok_B_swapSides : okM xT xKT xHT 55 m_B_swapSides = true := by decide +kernel
theorem ok_B_fillUp : okM xT xKT xHT 56 m_B_fillUp = true := by decide +kernel
theorem ok_B_lowestPlace : okM xT xKT xHT 57 m_B_lowestPlace = true := by decide +kernel
theorem ok_B_highestPlace : okM xT xKT xHT 58 m_B_highestPlace = true := by decide +kernel
theorem ok_B_greatestTheft : okM xT xKT xHT 59 m_B_greatestTheft = true := by decide +kernel
theorem ok_B_brokenInAll : okM xT xKT xHT 60 m_B_brokenInAll = true := by decide +kernel
theorem ok_B_possibleThefts : okM xT xKT xHT 61 m_B_possibleThefts = true := by decide +kernel
theorem ok_B_winner : okM xT xKT xHT 62 m_B_winner = true := by decide +kernel
theorem ok_B_play : okM xT xKT xHT 63 m_B_play = true := by decide +kernel
theorem ok_W_bits : okM xT xKT xHT 64 m_W_bits = true := by decide +kernel
theorem ok_W_first : okM xT xKT xHT 65 m_W_first = true := by decide +kernel
theorem ok_W_isPyramid : okM xT xKT xHT 66 m_W_isPyramid = true := by decide +kernel
theorem ok_W_isPlay : okM xT xKT xHT 67 m_W_isPlay = true := by decide +kernel
theorem xT_ok : ∀ i q, xT[i]? = some q → okM xT xKT xHT i q = true := by
  intro i q hq
  match i, hq with
  | 0, hq => cases hq; exact ok_J_bitCount
  | 1, hq => cases hq; exact ok_J_max
  | 2, hq => cases hq; exact ok_J_min
  | 3, hq => cases hq; exact ok_P_bit
  | 4, hq => cases hq; exact ok_P_bitsOf
  | 5, hq => cases hq; exact ok_P_hasBottle
  | 6, hq => cases hq; exact ok_P_hasRoom
  | 7, hq => cases hq; exact ok_P_settled
  | 8, hq => cases hq; exact ok_P_mirrored
  | 9, hq => cases hq; exact ok_P_robbed
  | 10, hq => cases hq; exact ok_P_fallenBy
  | 11, hq => cases hq; exact ok_P_allShapes
  | 12, hq => cases hq; exact ok_P_addShapes
  | 13, hq => cases hq; exact ok_L_init
  | 14, hq => cases hq; exact ok_L_playOut
  | 15, hq => cases hq; exact ok_L_slotBehind
  | 16, hq => cases hq; exact ok_L_slotOf
  | 17, hq => cases hq; exact ok_L_isWonBy
  | 18, hq => cases hq; exact ok_L_longestGame
  | 19, hq => cases hq; exact ok_L_shortestGame
  | 20, hq => cases hq; exact ok_L_shapesWonBy
  | 21, hq => cases hq; exact ok_L_shapesOver
  | 22, hq => cases hq; exact ok_B_init
  | 23, hq => cases hq; exact ok_B_take
  | 24, hq => cases hq; exact ok_B_turn
  | 25, hq => cases hq; exact ok_B_knock
  | 26, hq => cases hq; exact ok_B_put
  | 27, hq => cases hq; exact ok_B_mirror
  | 28, hq => cases hq; exact ok_B_refill
  | 29, hq => cases hq; exact ok_B_set
  | 30, hq => cases hq; exact ok_B_keep
  | 31, hq => cases hq; exact ok_B_goBack
  | 32, hq => cases hq; exact ok_B_undo
  | 33, hq => cases hq; exact ok_B_row
  | 34, hq => cases hq; exact ok_B_count
  | 35, hq => cases hq; exact ok_B_setting
  | 36, hq => cases hq; exact ok_B_why
  | 37, hq => cases hq; exact ok_B_falls
  | 38, hq => cases hq; exact ok_B_wins
  | 39, hq => cases hq; exact ok_B_best
  | 40, hq => cases hq; exact ok_B_length
  | 41, hq => cases hq; exact ok_B_pyramids
  | 42, hq => cases hq; exact ok_B_brokenShare
  | 43, hq => cases hq; exact ok_B_wonShare
  | 44, hq => cases hq; exact ok_B_isRow
  | 45, hq => cases hq; exact ok_B_isPlace
  | 46, hq => cases hq; exact ok_B_isSetting
  | 47, hq => cases hq; exact ok_B_save
  | 48, hq => cases hq; exact ok_B_isBarring
  | 49, hq => cases hq; exact ok_B_reasonAgainst
  | 50, hq => cases hq; exact ok_B_maskBehind
  | 51, hq => cases hq; exact ok_B_steal
  | 52, hq => cases hq; exact ok_B_knockOut
  | 53, hq => cases hq; exact ok_B_letFall
  | 54, hq => cases hq; exact ok_B_addBottle
  | 55, hq => cases hq; exact ok_B_swapSides
  | 56, hq => cases hq; exact ok_B_fillUp
  | 57, hq => cases hq; exact ok_B_lowestPlace
  | 58, hq => cases hq; exact ok_B_highestPlace
  | 59, hq => cases hq; exact ok_B_greatestTheft
  | 60, hq => cases hq; exact ok_B_brokenInAll
  | 61, hq => cases hq; exact ok_B_possibleThefts
  | 62, hq => cases hq; exact ok_B_winner
  | 63, hq => cases hq; exact ok_B_play
  | 64, hq => cases hq; exact ok_W_bits
  | 65, hq => cases hq; exact ok_W_first
  | 66, hq => cases hq; exact ok_W_isPyramid
  | 67, hq => cases hq; exact ok_W_isPlay
  | n + 68, hq => simp [xT] at hq
