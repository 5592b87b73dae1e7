/-! the program as data: methods, words of calls, fields, objects, throws (laid by a program) -/
abbrev zX5_init : z_Mi := (yX5_init, cX5_init, 1, none, [])
abbrev zX0_init : z_Mi := (yX0_init, cX0_init, 1, none, [])
abbrev zX2_init : z_Mi := (yX2_init, cX2_init, 1, none, [])
abbrev zX5_position : z_Mi := (yX5_position, cX5_position, 2, (some .int), [])
abbrev zX5_games : z_Mi := (yX5_games, cX5_games, 1, (some .int), [])
abbrev zX5_puzzles : z_Mi := (yX5_puzzles, cX5_puzzles, 1, (some .int), [])
abbrev zL_at : z_Mi := (yL_at, cL_at, 2, (some .int), [])
abbrev zL_low : z_Mi := (yL_low, cL_low, 2, (some .int), [])
abbrev zL_enter : z_Mi := (yL_enter, cL_enter, 2, (some .int), [(0, 4, 5, 30)])
abbrev zX5_enter : z_Mi := (yX5_enter, cX5_enter, 2, (some .int), [])
abbrev zX3_init : z_Mi := (yX3_init, cX3_init, 3, none, [])
abbrev zL_begin : z_Mi := (yL_begin, cL_begin, 4, (some .int), [(0, 6, 7, 36), (0, 6, 11, 16), (0, 6, 15, 30)])
abbrev zX5_begin : z_Mi := (yX5_begin, cX5_begin, 6, (some .int), [])
abbrev zX5_knownPlayer : z_Mi := (yX5_knownPlayer, cX5_knownPlayer, 3, (some (.object "ClubAcademy$Player")), [])
abbrev zX1_init : z_Mi := (yX1_init, cX1_init, 3, none, [])
abbrev zL_opponent : z_Mi := (yL_opponent, cL_opponent, 3, (some .int), [(0, 5, 6, 36)])
abbrev zX5_opponent : z_Mi := (yX5_opponent, cX5_opponent, 4, (some .int), [])
abbrev zX5_pairPlayers : z_Mi := (yX5_pairPlayers, cX5_pairPlayers, 5, none, [])
abbrev zX5_firstUnpaired : z_Mi := (yX5_firstUnpaired, cX5_firstUnpaired, 6, (some (.object "ClubAcademy$Player")), [])
abbrev zX3_standsAheadOf : z_Mi := (yX3_standsAheadOf, cX3_standsAheadOf, 2, (some .boolean), [])
abbrev zX5_partnerFor : z_Mi := (yX5_partnerFor, cX5_partnerFor, 8, (some (.object "ClubAcademy$Player")), [])
abbrev zX3_hasMet : z_Mi := (yX3_hasMet, cX3_hasMet, 2, (some .boolean), [])
abbrev zL_hasWhite : z_Mi := (yL_hasWhite, cL_hasWhite, 3, (some .int), [(0, 13, 14, 36), (0, 13, 18, 30)])
abbrev zX5_hasWhite : z_Mi := (yX5_hasWhite, cX5_hasWhite, 4, (some .boolean), [])
abbrev zX3_colourBalance : z_Mi := (yX3_colourBalance, cX3_colourBalance, 1, (some .int), [])
abbrev zL_position : z_Mi := (yL_position, cL_position, 7, (some .boolean), [])
abbrev zL_best : z_Mi := (yL_best, cL_best, 3, (some .int), [(0, 5, 6, 16)])
abbrev zX5_best : z_Mi := (yX5_best, cX5_best, 2, (some .int), [])
abbrev zX5_checkPosition : z_Mi := (yX5_checkPosition, cX5_checkPosition, 1, none, [])
abbrev zX5_bestMove : z_Mi := (yX5_bestMove, cX5_bestMove, 3, (some .int), [])
abbrev zX5_worthAfter : z_Mi := (yX5_worthAfter, cX5_worthAfter, 2, (some .int), [])
abbrev zX5_positionAfter : z_Mi := (yX5_positionAfter, cX5_positionAfter, 2, (some .int), [])
abbrev zX5_worthOf : z_Mi := (yX5_worthOf, cX5_worthOf, 1, (some .int), [])
abbrev zL_worth : z_Mi := (yL_worth, cL_worth, 3, (some .int), [(0, 5, 6, 16)])
abbrev zX5_worth : z_Mi := (yX5_worth, cX5_worth, 2, (some .int), [])
abbrev zL_after : z_Mi := (yL_after, cL_after, 4, (some .int), [(0, 6, 7, 16)])
abbrev zX5_after : z_Mi := (yX5_after, cX5_after, 3, (some .int), [])
abbrev zX5_checkMove : z_Mi := (yX5_checkMove, cX5_checkMove, 1, none, [])
abbrev zL_pairs : z_Mi := (yL_pairs, cL_pairs, 9, (some .boolean), [])
abbrev zL_score : z_Mi := (yL_score, cL_score, 3, (some .int), [(0, 5, 6, 36)])
abbrev zX5_score : z_Mi := (yX5_score, cX5_score, 2, (some .int), [])
abbrev zL_puzzles : z_Mi := (yL_puzzles, cL_puzzles, 11, (some .boolean), [])
abbrev zL_puzzle : z_Mi := (yL_puzzle, cL_puzzle, 3, (some .int), [(0, 5, 6, 36)])
abbrev zX5_puzzle : z_Mi := (yX5_puzzle, cX5_puzzle, 2, (some .int), [])
abbrev zX5_knownPuzzle : z_Mi := (yX5_knownPuzzle, cX5_knownPuzzle, 3, (some (.object "ClubAcademy$Puzzle")), [])
abbrev zL_source : z_Mi := (yL_source, cL_source, 3, (some .int), [(0, 5, 6, 36)])
abbrev zX5_source : z_Mi := (yX5_source, cX5_source, 2, (some .int), [])
abbrev zL_offered : z_Mi := (yL_offered, cL_offered, 3, (some .int), [(0, 5, 6, 36)])
abbrev zX5_offered : z_Mi := (yX5_offered, cX5_offered, 7, (some .int), [])
abbrev zX3_hasTried : z_Mi := (yX3_hasTried, cX3_hasTried, 2, (some .boolean), [])
abbrev zX3_needsMore : z_Mi := (yX3_needsMore, cX3_needsMore, 5, (some .boolean), [])
abbrev zX3_ratingIn : z_Mi := (yX3_ratingIn, cX3_ratingIn, 2, (some .int), [])
abbrev zL_rating : z_Mi := (yL_rating, cL_rating, 4, (some .int), [(0, 6, 7, 36), (0, 6, 11, 16)])
abbrev zX5_rating : z_Mi := (yX5_rating, cX5_rating, 4, (some .int), [])
abbrev zL_line : z_Mi := (yL_line, cL_line, 12, (some .boolean), [])
abbrev zL_results : z_Mi := (yL_results, cL_results, 4, (some .int), [(0, 6, 7, 16)])
abbrev zX5_results : z_Mi := (yX5_results, cX5_results, 4, (some .int), [])
abbrev zX5_checkLine : z_Mi := (yX5_checkLine, cX5_checkLine, 2, none, [])
abbrev zX0_find : z_Mi := (yX0_find, cX0_find, 5, (some (.object "ClubAcademy$Line")), [])
abbrev zX5_moveOfLine : z_Mi := (yX5_moveOfLine, cX5_moveOfLine, 2, (some .int), [])
abbrev zX2_goingOnWith : z_Mi := (yX2_goingOnWith, cX2_goingOnWith, 2, (some (.object "ClubAcademy$Line")), [])
abbrev zL_points : z_Mi := (yL_points, cL_points, 4, (some .int), [(0, 6, 7, 16)])
abbrev zX5_points : z_Mi := (yX5_points, cX5_points, 4, (some .int), [])
abbrev zL_pointsOfGames : z_Mi := (yL_pointsOfGames, cL_pointsOfGames, 4, (some .int), [(0, 6, 7, 16)])
abbrev zX5_pointsOfGames : z_Mi := (yX5_pointsOfGames, cX5_pointsOfGames, 8, (some .int), [])
abbrev zX1_beginsWith : z_Mi := (yX1_beginsWith, cX1_beginsWith, 4, (some .boolean), [])
abbrev zX1_moveAt : z_Mi := (yX1_moveAt, cX1_moveAt, 2, (some .int), [])
abbrev zL_isDropped : z_Mi := (yL_isDropped, cL_isDropped, 4, (some .int), [(0, 14, 15, 16)])
abbrev zX5_isDropped : z_Mi := (yX5_isDropped, cX5_isDropped, 3, (some .boolean), [])
abbrev zX0_holdsDropped : z_Mi := (yX0_holdsDropped, cX0_holdsDropped, 5, (some .boolean), [])
abbrev zL_mean : z_Mi := (yL_mean, cL_mean, 4, (some .float), [(0, 6, 7, 16)])
abbrev zX5_mean : z_Mi := (yX5_mean, cX5_mean, 4, (some .float), [])
abbrev zL_acts : z_Mi := (yL_acts, cL_acts, 16, (some .boolean), [])
abbrev zL_move : z_Mi := (yL_move, cL_move, 3, (some .int), [(0, 13, 14, 16), (0, 13, 18, 30)])
abbrev zX5_move : z_Mi := (yX5_move, cX5_move, 4, (some .boolean), [])
abbrev zX1_isFull : z_Mi := (yX1_isFull, cX1_isFull, 1, (some .boolean), [])
abbrev zX5_isBlunder : z_Mi := (yX5_isBlunder, cX5_isBlunder, 2, (some .boolean), [])
abbrev zX1_addMove : z_Mi := (yX1_addMove, cX1_addMove, 2, none, [])
abbrev zL_end : z_Mi := (yL_end, cL_end, 3, (some .int), [(0, 5, 6, 16), (0, 5, 10, 30)])
abbrev zX5_end : z_Mi := (yX5_end, cX5_end, 3, (some .int), [])
abbrev zX3_endGameAsWhite : z_Mi := (yX3_endGameAsWhite, cX3_endGameAsWhite, 3, none, [])
abbrev zX3_endGame : z_Mi := (yX3_endGame, cX3_endGame, 3, none, [])
abbrev zX3_endGameAsBlack : z_Mi := (yX3_endGameAsBlack, cX3_endGameAsBlack, 3, none, [])
abbrev zX0_keepResult : z_Mi := (yX0_keepResult, cX0_keepResult, 3, none, [])
abbrev zX0_addResult : z_Mi := (yX0_addResult, cX0_addResult, 5, none, [])
abbrev zX2_madeWith : z_Mi := (yX2_madeWith, cX2_madeWith, 3, (some (.object "ClubAcademy$Line")), [])
abbrev zX0_dropBadLine : z_Mi := (yX0_dropBadLine, cX0_dropBadLine, 5, none, [])
abbrev zX2_doesBadly : z_Mi := (yX2_doesBadly, cX2_doesBadly, 3, (some .boolean), [])
abbrev zX5_makePuzzles : z_Mi := (yX5_makePuzzles, cX5_makePuzzles, 7, (some .int), [])
abbrev zX5_addPuzzle : z_Mi := (yX5_addPuzzle, cX5_addPuzzle, 4, (some .boolean), [])
abbrev zX5_hasPuzzleFor : z_Mi := (yX5_hasPuzzleFor, cX5_hasPuzzleFor, 6, (some .boolean), [])
abbrev zX4_init : z_Mi := (yX4_init, cX4_init, 3, none, [])
abbrev zL_solve : z_Mi := (yL_solve, cL_solve, 5, (some .int), [(0, 15, 16, 36), (0, 15, 21, 16), (0, 15, 26, 30)])
abbrev zX5_solve : z_Mi := (yX5_solve, cX5_solve, 7, (some .boolean), [])
abbrev zX3_markTried : z_Mi := (yX3_markTried, cX3_markTried, 2, none, [])
abbrev zX3_changeRating : z_Mi := (yX3_changeRating, cX3_changeRating, 3, none, [])
abbrev zX3_ratingBehindTry : z_Mi := (yX3_ratingBehindTry, cX3_ratingBehindTry, 4, (some .int), [])

theorem okX0_init : z_ok zX0_init 0 := ⟨by decide +kernel, by decide +kernel, by decide +kernel, by decide +kernel⟩
theorem okX0_keepResult : z_ok zX0_keepResult 1 := ⟨by decide +kernel, by decide +kernel, by decide +kernel, by decide +kernel⟩
theorem okX0_addResult : z_ok zX0_addResult 2 := ⟨by decide +kernel, by decide +kernel, by decide +kernel, by decide +kernel⟩
theorem okX0_dropBadLine : z_ok zX0_dropBadLine 2 := ⟨by decide +kernel, by decide +kernel, by decide +kernel, by decide +kernel⟩
theorem okX0_find : z_ok zX0_find 2 := ⟨by decide +kernel, by decide +kernel, by decide +kernel, by decide +kernel⟩
theorem okX0_holdsDropped : z_ok zX0_holdsDropped 2 := ⟨by decide +kernel, by decide +kernel, by decide +kernel, by decide +kernel⟩
theorem okX1_init : z_ok zX1_init 2 := ⟨by decide +kernel, by decide +kernel, by decide +kernel, by decide +kernel⟩
theorem okX1_isFull : z_ok zX1_isFull 0 := ⟨by decide +kernel, by decide +kernel, by decide +kernel, by decide +kernel⟩
theorem okX1_addMove : z_ok zX1_addMove 1 := ⟨by decide +kernel, by decide +kernel, by decide +kernel, by decide +kernel⟩
theorem okX1_moveAt : z_ok zX1_moveAt 1 := ⟨by decide +kernel, by decide +kernel, by decide +kernel, by decide +kernel⟩
theorem okX1_beginsWith : z_ok zX1_beginsWith 2 := ⟨by decide +kernel, by decide +kernel, by decide +kernel, by decide +kernel⟩
theorem okX2_init : z_ok zX2_init 0 := ⟨by decide +kernel, by decide +kernel, by decide +kernel, by decide +kernel⟩
theorem okX2_goingOnWith : z_ok zX2_goingOnWith 1 := ⟨by decide +kernel, by decide +kernel, by decide +kernel, by decide +kernel⟩
theorem okX2_madeWith : z_ok zX2_madeWith 1 := ⟨by decide +kernel, by decide +kernel, by decide +kernel, by decide +kernel⟩
theorem okX2_doesBadly : z_ok zX2_doesBadly 1 := ⟨by decide +kernel, by decide +kernel, by decide +kernel, by decide +kernel⟩
theorem okX3_init : z_ok zX3_init 1 := ⟨by decide +kernel, by decide +kernel, by decide +kernel, by decide +kernel⟩
theorem okX3_endGameAsWhite : z_ok zX3_endGameAsWhite 2 := ⟨by decide +kernel, by decide +kernel, by decide +kernel, by decide +kernel⟩
theorem okX3_endGameAsBlack : z_ok zX3_endGameAsBlack 2 := ⟨by decide +kernel, by decide +kernel, by decide +kernel, by decide +kernel⟩
theorem okX3_endGame : z_ok zX3_endGame 2 := ⟨by decide +kernel, by decide +kernel, by decide +kernel, by decide +kernel⟩
theorem okX3_hasMet : z_ok zX3_hasMet 1 := ⟨by decide +kernel, by decide +kernel, by decide +kernel, by decide +kernel⟩
theorem okX3_colourBalance : z_ok zX3_colourBalance 0 := ⟨by decide +kernel, by decide +kernel, by decide +kernel, by decide +kernel⟩
theorem okX3_standsAheadOf : z_ok zX3_standsAheadOf 1 := ⟨by decide +kernel, by decide +kernel, by decide +kernel, by decide +kernel⟩
theorem okX3_hasTried : z_ok zX3_hasTried 1 := ⟨by decide +kernel, by decide +kernel, by decide +kernel, by decide +kernel⟩
theorem okX3_markTried : z_ok zX3_markTried 1 := ⟨by decide +kernel, by decide +kernel, by decide +kernel, by decide +kernel⟩
theorem okX3_ratingIn : z_ok zX3_ratingIn 1 := ⟨by decide +kernel, by decide +kernel, by decide +kernel, by decide +kernel⟩
theorem okX3_needsMore : z_ok zX3_needsMore 2 := ⟨by decide +kernel, by decide +kernel, by decide +kernel, by decide +kernel⟩
theorem okX3_changeRating : z_ok zX3_changeRating 2 := ⟨by decide +kernel, by decide +kernel, by decide +kernel, by decide +kernel⟩
theorem okX3_ratingBehindTry : z_ok zX3_ratingBehindTry 2 := ⟨by decide +kernel, by decide +kernel, by decide +kernel, by decide +kernel⟩
theorem okX4_init : z_ok zX4_init 2 := ⟨by decide +kernel, by decide +kernel, by decide +kernel, by decide +kernel⟩
theorem okX5_init : z_ok zX5_init 0 := ⟨by decide +kernel, by decide +kernel, by decide +kernel, by decide +kernel⟩
theorem okX5_after : z_ok zX5_after 2 := ⟨by decide +kernel, by decide +kernel, by decide +kernel, by decide +kernel⟩
theorem okX5_worth : z_ok zX5_worth 1 := ⟨by decide +kernel, by decide +kernel, by decide +kernel, by decide +kernel⟩
theorem okX5_best : z_ok zX5_best 1 := ⟨by decide +kernel, by decide +kernel, by decide +kernel, by decide +kernel⟩
theorem okX5_enter : z_ok zX5_enter 0 := ⟨by decide +kernel, by decide +kernel, by decide +kernel, by decide +kernel⟩
theorem okX5_begin : z_ok zX5_begin 2 := ⟨by decide +kernel, by decide +kernel, by decide +kernel, by decide +kernel⟩
theorem okX5_move : z_ok zX5_move 1 := ⟨by decide +kernel, by decide +kernel, by decide +kernel, by decide +kernel⟩
theorem okX5_end : z_ok zX5_end 1 := ⟨by decide +kernel, by decide +kernel, by decide +kernel, by decide +kernel⟩
theorem okX5_position : z_ok zX5_position 0 := ⟨by decide +kernel, by decide +kernel, by decide +kernel, by decide +kernel⟩
theorem okX5_games : z_ok zX5_games 0 := ⟨by decide +kernel, by decide +kernel, by decide +kernel, by decide +kernel⟩
theorem okX5_score : z_ok zX5_score 1 := ⟨by decide +kernel, by decide +kernel, by decide +kernel, by decide +kernel⟩
theorem okX5_puzzles : z_ok zX5_puzzles 0 := ⟨by decide +kernel, by decide +kernel, by decide +kernel, by decide +kernel⟩
theorem okX5_puzzle : z_ok zX5_puzzle 1 := ⟨by decide +kernel, by decide +kernel, by decide +kernel, by decide +kernel⟩
theorem okX5_source : z_ok zX5_source 1 := ⟨by decide +kernel, by decide +kernel, by decide +kernel, by decide +kernel⟩
theorem okX5_solve : z_ok zX5_solve 3 := ⟨by decide +kernel, by decide +kernel, by decide +kernel, by decide +kernel⟩
theorem okX5_offered : z_ok zX5_offered 1 := ⟨by decide +kernel, by decide +kernel, by decide +kernel, by decide +kernel⟩
theorem okX5_rating : z_ok zX5_rating 2 := ⟨by decide +kernel, by decide +kernel, by decide +kernel, by decide +kernel⟩
theorem okX5_results : z_ok zX5_results 2 := ⟨by decide +kernel, by decide +kernel, by decide +kernel, by decide +kernel⟩
theorem okX5_points : z_ok zX5_points 2 := ⟨by decide +kernel, by decide +kernel, by decide +kernel, by decide +kernel⟩
theorem okX5_isDropped : z_ok zX5_isDropped 2 := ⟨by decide +kernel, by decide +kernel, by decide +kernel, by decide +kernel⟩
theorem okX5_pointsOfGames : z_ok zX5_pointsOfGames 2 := ⟨by decide +kernel, by decide +kernel, by decide +kernel, by decide +kernel⟩
theorem okX5_mean : z_ok zX5_mean 2 := ⟨by decide +kernel, by decide +kernel, by decide +kernel, by decide +kernel⟩
theorem okX5_opponent : z_ok zX5_opponent 1 := ⟨by decide +kernel, by decide +kernel, by decide +kernel, by decide +kernel⟩
theorem okX5_hasWhite : z_ok zX5_hasWhite 1 := ⟨by decide +kernel, by decide +kernel, by decide +kernel, by decide +kernel⟩
theorem okX5_checkPosition : z_ok zX5_checkPosition 1 := ⟨by decide +kernel, by decide +kernel, by decide +kernel, by decide +kernel⟩
theorem okX5_checkMove : z_ok zX5_checkMove 1 := ⟨by decide +kernel, by decide +kernel, by decide +kernel, by decide +kernel⟩
theorem okX5_checkLine : z_ok zX5_checkLine 2 := ⟨by decide +kernel, by decide +kernel, by decide +kernel, by decide +kernel⟩
theorem okX5_knownPlayer : z_ok zX5_knownPlayer 1 := ⟨by decide +kernel, by decide +kernel, by decide +kernel, by decide +kernel⟩
theorem okX5_knownPuzzle : z_ok zX5_knownPuzzle 1 := ⟨by decide +kernel, by decide +kernel, by decide +kernel, by decide +kernel⟩
theorem okX5_positionAfter : z_ok zX5_positionAfter 2 := ⟨by decide +kernel, by decide +kernel, by decide +kernel, by decide +kernel⟩
theorem okX5_worthOf : z_ok zX5_worthOf 1 := ⟨by decide +kernel, by decide +kernel, by decide +kernel, by decide +kernel⟩
theorem okX5_worthAfter : z_ok zX5_worthAfter 2 := ⟨by decide +kernel, by decide +kernel, by decide +kernel, by decide +kernel⟩
theorem okX5_bestMove : z_ok zX5_bestMove 1 := ⟨by decide +kernel, by decide +kernel, by decide +kernel, by decide +kernel⟩
theorem okX5_isBlunder : z_ok zX5_isBlunder 2 := ⟨by decide +kernel, by decide +kernel, by decide +kernel, by decide +kernel⟩
theorem okX5_moveOfLine : z_ok zX5_moveOfLine 2 := ⟨by decide +kernel, by decide +kernel, by decide +kernel, by decide +kernel⟩
theorem okX5_makePuzzles : z_ok zX5_makePuzzles 2 := ⟨by decide +kernel, by decide +kernel, by decide +kernel, by decide +kernel⟩
theorem okX5_addPuzzle : z_ok zX5_addPuzzle 2 := ⟨by decide +kernel, by decide +kernel, by decide +kernel, by decide +kernel⟩
theorem okX5_hasPuzzleFor : z_ok zX5_hasPuzzleFor 1 := ⟨by decide +kernel, by decide +kernel, by decide +kernel, by decide +kernel⟩
theorem okX5_pairPlayers : z_ok zX5_pairPlayers 0 := ⟨by decide +kernel, by decide +kernel, by decide +kernel, by decide +kernel⟩
theorem okX5_firstUnpaired : z_ok zX5_firstUnpaired 0 := ⟨by decide +kernel, by decide +kernel, by decide +kernel, by decide +kernel⟩
theorem okX5_partnerFor : z_ok zX5_partnerFor 1 := ⟨by decide +kernel, by decide +kernel, by decide +kernel, by decide +kernel⟩
theorem okL_at : z_ok zL_at 2 := ⟨by decide +kernel, by decide +kernel, by decide +kernel, by decide +kernel⟩
theorem okL_low : z_ok zL_low 2 := ⟨by decide +kernel, by decide +kernel, by decide +kernel, by decide +kernel⟩
theorem okL_after : z_ok zL_after 3 := ⟨by decide +kernel, by decide +kernel, by decide +kernel, by decide +kernel⟩
theorem okL_worth : z_ok zL_worth 2 := ⟨by decide +kernel, by decide +kernel, by decide +kernel, by decide +kernel⟩
theorem okL_best : z_ok zL_best 2 := ⟨by decide +kernel, by decide +kernel, by decide +kernel, by decide +kernel⟩
theorem okL_enter : z_ok zL_enter 1 := ⟨by decide +kernel, by decide +kernel, by decide +kernel, by decide +kernel⟩
theorem okL_begin : z_ok zL_begin 3 := ⟨by decide +kernel, by decide +kernel, by decide +kernel, by decide +kernel⟩
theorem okL_move : z_ok zL_move 2 := ⟨by decide +kernel, by decide +kernel, by decide +kernel, by decide +kernel⟩
theorem okL_end : z_ok zL_end 2 := ⟨by decide +kernel, by decide +kernel, by decide +kernel, by decide +kernel⟩
theorem okL_score : z_ok zL_score 2 := ⟨by decide +kernel, by decide +kernel, by decide +kernel, by decide +kernel⟩
theorem okL_puzzle : z_ok zL_puzzle 2 := ⟨by decide +kernel, by decide +kernel, by decide +kernel, by decide +kernel⟩
theorem okL_source : z_ok zL_source 2 := ⟨by decide +kernel, by decide +kernel, by decide +kernel, by decide +kernel⟩
theorem okL_solve : z_ok zL_solve 4 := ⟨by decide +kernel, by decide +kernel, by decide +kernel, by decide +kernel⟩
theorem okL_offered : z_ok zL_offered 2 := ⟨by decide +kernel, by decide +kernel, by decide +kernel, by decide +kernel⟩
theorem okL_rating : z_ok zL_rating 3 := ⟨by decide +kernel, by decide +kernel, by decide +kernel, by decide +kernel⟩
theorem okL_results : z_ok zL_results 3 := ⟨by decide +kernel, by decide +kernel, by decide +kernel, by decide +kernel⟩
theorem okL_points : z_ok zL_points 3 := ⟨by decide +kernel, by decide +kernel, by decide +kernel, by decide +kernel⟩
theorem okL_isDropped : z_ok zL_isDropped 3 := ⟨by decide +kernel, by decide +kernel, by decide +kernel, by decide +kernel⟩
theorem okL_pointsOfGames : z_ok zL_pointsOfGames 3 := ⟨by decide +kernel, by decide +kernel, by decide +kernel, by decide +kernel⟩
theorem okL_mean : z_ok zL_mean 3 := ⟨by decide +kernel, by decide +kernel, by decide +kernel, by decide +kernel⟩
theorem okL_opponent : z_ok zL_opponent 2 := ⟨by decide +kernel, by decide +kernel, by decide +kernel, by decide +kernel⟩
theorem okL_hasWhite : z_ok zL_hasWhite 2 := ⟨by decide +kernel, by decide +kernel, by decide +kernel, by decide +kernel⟩
theorem okL_position : z_ok zL_position 2 := ⟨by decide +kernel, by decide +kernel, by decide +kernel, by decide +kernel⟩
theorem okL_pairs : z_ok zL_pairs 3 := ⟨by decide +kernel, by decide +kernel, by decide +kernel, by decide +kernel⟩
theorem okL_puzzles : z_ok zL_puzzles 3 := ⟨by decide +kernel, by decide +kernel, by decide +kernel, by decide +kernel⟩
theorem okL_line : z_ok zL_line 3 := ⟨by decide +kernel, by decide +kernel, by decide +kernel, by decide +kernel⟩
theorem okL_acts : z_ok zL_acts 6 := ⟨by decide +kernel, by decide +kernel, by decide +kernel, by decide +kernel⟩
theorem inX0 : ∀ w ∈ u_ws RX0 TX0 1, w ∈ z_T := by
  intro w hw
  obtain ⟨k, hk, rfl⟩ := List.mem_map.mp hw
  have hk := List.mem_range.mp hk
  have h : k = 0 := by omega
  subst h
  · exact (z_Tof (List.mem_of_getElem? (i := 72) (by decide +kernel)) (by decide +kernel))
theorem inX1 : ∀ w ∈ u_ws RX1 TX1 6, w ∈ z_T := by
  intro w hw
  obtain ⟨k, hk, rfl⟩ := List.mem_map.mp hw
  have hk := List.mem_range.mp hk
  have h : k = 0 ∨ k = 1 ∨ k = 2 ∨ k = 3 ∨ k = 4 ∨ k = 5 := by omega
  rcases h with rfl | rfl | rfl | rfl | rfl | rfl
  · exact (z_Tof (List.mem_of_getElem? (i := 296) (by decide +kernel)) (by decide +kernel))
  · exact (z_Tof (List.mem_of_getElem? (i := 298) (by decide +kernel)) (by decide +kernel))
  · exact (z_Tof (List.mem_of_getElem? (i := 300) (by decide +kernel)) (by decide +kernel))
  · exact (z_Tof (List.mem_of_getElem? (i := 302) (by decide +kernel)) (by decide +kernel))
  · exact (z_Tof (List.mem_of_getElem? (i := 304) (by decide +kernel)) (by decide +kernel))
  · exact (z_Tof (List.mem_of_getElem? (i := 306) (by decide +kernel)) (by decide +kernel))
theorem inX2 : ∀ w ∈ u_ws RX2 TX2 4, w ∈ z_T := by
  intro w hw
  obtain ⟨k, hk, rfl⟩ := List.mem_map.mp hw
  have hk := List.mem_range.mp hk
  have h : k = 0 ∨ k = 1 ∨ k = 2 ∨ k = 3 := by omega
  rcases h with rfl | rfl | rfl | rfl
  · exact (z_Tof (List.mem_of_getElem? (i := 62) (by decide +kernel)) (by decide +kernel))
  · exact (z_Tof (List.mem_of_getElem? (i := 64) (by decide +kernel)) (by decide +kernel))
  · exact (z_Tof (List.mem_of_getElem? (i := 66) (by decide +kernel)) (by decide +kernel))
  · exact (z_Tof (List.mem_of_getElem? (i := 68) (by decide +kernel)) (by decide +kernel))
theorem inX3 : ∀ w ∈ u_ws RX3 TX3 8, w ∈ z_T := by
  intro w hw
  obtain ⟨k, hk, rfl⟩ := List.mem_map.mp hw
  have hk := List.mem_range.mp hk
  have h : k = 0 ∨ k = 1 ∨ k = 2 ∨ k = 3 ∨ k = 4 ∨ k = 5 ∨ k = 6 ∨ k = 7 := by omega
  rcases h with rfl | rfl | rfl | rfl | rfl | rfl | rfl | rfl
  · exact (z_Tof (List.mem_of_getElem? (i := 212) (by decide +kernel)) (by decide +kernel))
  · exact (z_Tof (List.mem_of_getElem? (i := 214) (by decide +kernel)) (by decide +kernel))
  · exact (z_Tof (List.mem_of_getElem? (i := 216) (by decide +kernel)) (by decide +kernel))
  · exact (z_Tof (List.mem_of_getElem? (i := 218) (by decide +kernel)) (by decide +kernel))
  · exact (z_Tof (List.mem_of_getElem? (i := 220) (by decide +kernel)) (by decide +kernel))
  · exact (z_Tof (List.mem_of_getElem? (i := 222) (by decide +kernel)) (by decide +kernel))
  · exact (z_Tof (List.mem_of_getElem? (i := 224) (by decide +kernel)) (by decide +kernel))
  · exact (z_Tof (List.mem_of_getElem? (i := 226) (by decide +kernel)) (by decide +kernel))
theorem inX4 : ∀ w ∈ u_ws RX4 TX4 3, w ∈ z_T := by
  intro w hw
  obtain ⟨k, hk, rfl⟩ := List.mem_map.mp hw
  have hk := List.mem_range.mp hk
  have h : k = 0 ∨ k = 1 ∨ k = 2 := by omega
  rcases h with rfl | rfl | rfl
  · exact (z_Tof (List.mem_of_getElem? (i := 615) (by decide +kernel)) (by decide +kernel))
  · exact (z_Tof (List.mem_of_getElem? (i := 617) (by decide +kernel)) (by decide +kernel))
  · exact (z_Tof (List.mem_of_getElem? (i := 619) (by decide +kernel)) (by decide +kernel))
theorem inX5 : ∀ w ∈ u_ws RX5 TX5 8, w ∈ z_T := by
  intro w hw
  obtain ⟨k, hk, rfl⟩ := List.mem_map.mp hw
  have hk := List.mem_range.mp hk
  have h : k = 0 ∨ k = 1 ∨ k = 2 ∨ k = 3 ∨ k = 4 ∨ k = 5 ∨ k = 6 ∨ k = 7 := by omega
  rcases h with rfl | rfl | rfl | rfl | rfl | rfl | rfl | rfl
  · exact (z_Tof (List.mem_of_getElem? (i := 83) (by decide +kernel)) (by decide +kernel))
  · exact (z_Tof (List.mem_of_getElem? (i := 85) (by decide +kernel)) (by decide +kernel))
  · exact (z_Tof (List.mem_of_getElem? (i := 87) (by decide +kernel)) (by decide +kernel))
  · exact (z_Tof (List.mem_of_getElem? (i := 89) (by decide +kernel)) (by decide +kernel))
  · exact (z_Tof (List.mem_of_getElem? (i := 91) (by decide +kernel)) (by decide +kernel))
  · exact (z_Tof (List.mem_of_getElem? (i := 93) (by decide +kernel)) (by decide +kernel))
  · exact (z_Tof (List.mem_of_getElem? (i := 95) (by decide +kernel)) (by decide +kernel))
  · exact (z_Tof (List.mem_of_getElem? (i := 97) (by decide +kernel)) (by decide +kernel))
section ZPROG
variable {G : z_G} {Y : z_Mi} {d : Nat} {Z : z_Gq} {pc : Nat} {L : List (Option Value)} {st : List Value} {w : z_W} {k n : Nat}
theorem oiX0_3 (hY : Y.1.cls = RX0) {a : Nat} (d0 : decode Y.2.1 pc = .ok (.invokespecial 3, 3)) (hdd : 1 ≤ d) (hst : (st.map fun v => v.category).sum ≤ 8) (kk : z_E G Y d Z (pc + 3) L st w k n) : z_E G Y d Z pc L (.ref a :: st) w k n :=
  z_objInit d0 (by rw [hY]; exact (z_Tof (List.mem_of_getElem? (i := 45) (by decide +kernel)) (by decide +kernel))) (z_Tof (List.mem_of_getElem? (i := 32) (by decide +kernel)) (by decide +kernel)) (z_Tof (List.mem_of_getElem? (i := 33) (by decide +kernel)) (by decide +kernel)) hdd hst kk
theorem nwX0_9 (hY : Y.1.cls = RX0) (d0 : decode Y.2.1 pc = .ok (.new 9, 3)) (hk1 : 1 ≤ k) (hn1 : 4 ≤ n) (kk : ∀ q : Nat, w q = none → z_E G Y d Z (pc + 3) L (.ref q :: st) (z_up w q (.inr (2, [.null, .int 0, .int 0, .int 0]))) (k - 1) (n - 4)) : z_E G Y d Z pc L st w k n :=
  z_new (ci := 2) (fs := [.null, .int 0, .int 0, .int 0]) d0 rfl inX2 tyX2 tyX2_ok (fun j hj => by
    have h : j = 0 ∨ j = 1 ∨ j = 2 ∨ j = 3 := by omega
    rcases h with rfl | rfl | rfl | rfl <;> rfl) (by rw [hY]; exact (z_Tof (List.mem_of_getElem? (i := 46) (by decide +kernel)) (by decide +kernel))) (z_Tof (List.mem_of_getElem? (i := 47) (by decide +kernel)) (by decide +kernel)) (z_Tof (List.mem_of_getElem? (i := 15) (by decide +kernel)) (by decide +kernel)) hk1 hn1 kk
theorem cwX0_11 : z_cIN RX0 11 zX2_init := ⟨⟨"ClubAcademy", by decide +kernel⟩, (z_Tof (List.mem_of_getElem? (i := 49) (by decide +kernel)) (by decide +kernel)), (z_Tof (List.mem_of_getElem? (i := 15) (by decide +kernel)) (by decide +kernel)), (z_Tof (List.mem_of_getElem? (i := 50) (by decide +kernel)) (by decide +kernel)), rfl, rfl⟩
theorem pfX0_12 (hY : Y.1.cls = RX0) (hI : Y.1.name = "<init>") {a : Nat} {fs : List Value} {v : Value} (d0 : decode Y.2.1 pc = .ok (.putfield 12, 3)) (hv : z_isr v = true) (hw : w a = some (.inr (0, fs))) (hl : 0 < fs.length) (kk : z_E G Y d Z (pc + 3) L st (z_up w a (.inr (0, fs.set 0 (v)))) k n) : z_E G Y d Z pc L (v :: .ref a :: st) w k n :=
  z_putF (ci := 0) (j := 0) d0 rfl inX0 tyX0 tyX0_ok nmX0 (by decide) (by rw [hY]; exact (z_Tof (List.mem_of_getElem? (i := 71) (by decide +kernel)) (by decide +kernel))) rfl (hI) (hY.symm ▸ rfl) (by rcases z_isr_or hv with rfl | ⟨_, rfl⟩ <;> rfl) (by rcases z_isr_or hv with rfl | ⟨_, rfl⟩ <;> rfl) hw hl kk
theorem gfX0_18 (hY : Y.1.cls = RX0) {a : Nat} {fs : List Value} {v : Value} (d0 : decode Y.2.1 pc = .ok (.getfield 18, 3)) (hw : w a = some (.inr (1, fs))) (hv : fs[3]? = some v) (kk : z_E G Y d Z (pc + 3) L (v :: st) w k n) : z_E G Y d Z pc L (.ref a :: st) w k n :=
  z_get (ci := 1) (j := 3) d0 rfl inX1 (by decide) (by rw [hY]; exact (z_Tof (List.mem_of_getElem? (i := 290) (by decide +kernel)) (by decide +kernel))) hw hv kk
theorem cwX0_30 : z_cV RX0 30 zX0_addResult := ⟨(z_Tof (List.mem_of_getElem? (i := 573) (by decide +kernel)) (by decide +kernel)), (z_Tof (List.mem_of_getElem? (i := 575) (by decide +kernel)) (by decide +kernel)), (z_Tof (List.mem_of_getElem? (i := 7) (by decide +kernel)) (by decide +kernel)), (z_Tof (List.mem_of_getElem? (i := 14) (by decide +kernel)) (by decide +kernel)), (z_Tof (List.mem_of_getElem? (i := 576) (by decide +kernel)) (by decide +kernel))⟩
theorem cwX0_34 : z_cV RX0 34 zX0_dropBadLine := ⟨(z_Tof (List.mem_of_getElem? (i := 583) (by decide +kernel)) (by decide +kernel)), (z_Tof (List.mem_of_getElem? (i := 585) (by decide +kernel)) (by decide +kernel)), (z_Tof (List.mem_of_getElem? (i := 8) (by decide +kernel)) (by decide +kernel)), (z_Tof (List.mem_of_getElem? (i := 14) (by decide +kernel)) (by decide +kernel)), (z_Tof (List.mem_of_getElem? (i := 586) (by decide +kernel)) (by decide +kernel))⟩
theorem gfX0_12 (hY : Y.1.cls = RX0) {a : Nat} {fs : List Value} {v : Value} (d0 : decode Y.2.1 pc = .ok (.getfield 12, 3)) (hw : w a = some (.inr (0, fs))) (hv : fs[0]? = some v) (kk : z_E G Y d Z (pc + 3) L (v :: st) w k n) : z_E G Y d Z pc L (.ref a :: st) w k n :=
  z_get (ci := 0) (j := 0) d0 rfl inX0 (by decide) (by rw [hY]; exact (z_Tof (List.mem_of_getElem? (i := 71) (by decide +kernel)) (by decide +kernel))) hw hv kk
theorem cwX0_37 : z_cV RX0 37 zX1_moveAt := ⟨(z_Tof (List.mem_of_getElem? (i := 577) (by decide +kernel)) (by decide +kernel)), (z_Tof (List.mem_of_getElem? (i := 499) (by decide +kernel)) (by decide +kernel)), (z_Tof (List.mem_of_getElem? (i := 500) (by decide +kernel)) (by decide +kernel)), (z_Tof (List.mem_of_getElem? (i := 23) (by decide +kernel)) (by decide +kernel)), (z_Tof (List.mem_of_getElem? (i := 501) (by decide +kernel)) (by decide +kernel))⟩
theorem cwX0_41 : z_cV RX0 41 zX2_madeWith := ⟨(z_Tof (List.mem_of_getElem? (i := 578) (by decide +kernel)) (by decide +kernel)), (z_Tof (List.mem_of_getElem? (i := 579) (by decide +kernel)) (by decide +kernel)), (z_Tof (List.mem_of_getElem? (i := 580) (by decide +kernel)) (by decide +kernel)), (z_Tof (List.mem_of_getElem? (i := 15) (by decide +kernel)) (by decide +kernel)), (z_Tof (List.mem_of_getElem? (i := 581) (by decide +kernel)) (by decide +kernel))⟩
theorem gfX0_45 (hY : Y.1.cls = RX0) {a : Nat} {fs : List Value} {v : Value} (d0 : decode Y.2.1 pc = .ok (.getfield 45, 3)) (hw : w a = some (.inr (2, fs))) (hv : fs[3]? = some v) (kk : z_E G Y d Z (pc + 3) L (v :: st) w k n) : z_E G Y d Z pc L (.ref a :: st) w k n :=
  z_get (ci := 2) (j := 3) d0 rfl inX2 (by decide) (by rw [hY]; exact (z_Tof (List.mem_of_getElem? (i := 61) (by decide +kernel)) (by decide +kernel))) hw hv kk
theorem gfX0_49 (hY : Y.1.cls = RX0) {a : Nat} {fs : List Value} {v : Value} (d0 : decode Y.2.1 pc = .ok (.getfield 49, 3)) (hw : w a = some (.inr (2, fs))) (hv : fs[1]? = some v) (kk : z_E G Y d Z (pc + 3) L (v :: st) w k n) : z_E G Y d Z pc L (.ref a :: st) w k n :=
  z_get (ci := 2) (j := 1) d0 rfl inX2 (by decide) (by rw [hY]; exact (z_Tof (List.mem_of_getElem? (i := 55) (by decide +kernel)) (by decide +kernel))) hw hv kk
theorem pfX0_49 (hY : Y.1.cls = RX0) {a : Nat} {fs : List Value} {x : Int32} (d0 : decode Y.2.1 pc = .ok (.putfield 49, 3)) (hw : w a = some (.inr (2, fs))) (hl : 1 < fs.length) (kk : z_E G Y d Z (pc + 3) L st (z_up w a (.inr (2, fs.set 1 (.int x)))) k n) : z_E G Y d Z pc L (.int x :: .ref a :: st) w k n :=
  z_put (ci := 2) (j := 1) d0 rfl inX2 tyX2 tyX2_ok nmX2 (by decide) (by rw [hY]; exact (z_Tof (List.mem_of_getElem? (i := 55) (by decide +kernel)) (by decide +kernel))) rfl rfl rfl hw hl kk
theorem gfX0_52 (hY : Y.1.cls = RX0) {a : Nat} {fs : List Value} {v : Value} (d0 : decode Y.2.1 pc = .ok (.getfield 52, 3)) (hw : w a = some (.inr (2, fs))) (hv : fs[2]? = some v) (kk : z_E G Y d Z (pc + 3) L (v :: st) w k n) : z_E G Y d Z pc L (.ref a :: st) w k n :=
  z_get (ci := 2) (j := 2) d0 rfl inX2 (by decide) (by rw [hY]; exact (z_Tof (List.mem_of_getElem? (i := 58) (by decide +kernel)) (by decide +kernel))) hw hv kk
theorem gfX0_55 (hY : Y.1.cls = RX0) {a : Nat} {fs : List Value} {v : Value} (d0 : decode Y.2.1 pc = .ok (.getfield 55, 3)) (hw : w a = some (.inr (1, fs))) (hv : fs[5]? = some v) (kk : z_E G Y d Z (pc + 3) L (v :: st) w k n) : z_E G Y d Z pc L (.ref a :: st) w k n :=
  z_get (ci := 1) (j := 5) d0 rfl inX1 (by decide) (by rw [hY]; exact (z_Tof (List.mem_of_getElem? (i := 294) (by decide +kernel)) (by decide +kernel))) hw hv kk
theorem pfX0_52 (hY : Y.1.cls = RX0) {a : Nat} {fs : List Value} {x : Int32} (d0 : decode Y.2.1 pc = .ok (.putfield 52, 3)) (hw : w a = some (.inr (2, fs))) (hl : 2 < fs.length) (kk : z_E G Y d Z (pc + 3) L st (z_up w a (.inr (2, fs.set 2 (.int x)))) k n) : z_E G Y d Z pc L (.int x :: .ref a :: st) w k n :=
  z_put (ci := 2) (j := 2) d0 rfl inX2 tyX2 tyX2_ok nmX2 (by decide) (by rw [hY]; exact (z_Tof (List.mem_of_getElem? (i := 58) (by decide +kernel)) (by decide +kernel))) rfl rfl rfl hw hl kk
theorem cwX0_58 : z_cV RX0 58 zX2_goingOnWith := ⟨(z_Tof (List.mem_of_getElem? (i := 476) (by decide +kernel)) (by decide +kernel)), (z_Tof (List.mem_of_getElem? (i := 477) (by decide +kernel)) (by decide +kernel)), (z_Tof (List.mem_of_getElem? (i := 478) (by decide +kernel)) (by decide +kernel)), (z_Tof (List.mem_of_getElem? (i := 15) (by decide +kernel)) (by decide +kernel)), (z_Tof (List.mem_of_getElem? (i := 479) (by decide +kernel)) (by decide +kernel))⟩
theorem cwX0_61 : z_cV RX0 61 zX2_doesBadly := ⟨(z_Tof (List.mem_of_getElem? (i := 587) (by decide +kernel)) (by decide +kernel)), (z_Tof (List.mem_of_getElem? (i := 588) (by decide +kernel)) (by decide +kernel)), (z_Tof (List.mem_of_getElem? (i := 589) (by decide +kernel)) (by decide +kernel)), (z_Tof (List.mem_of_getElem? (i := 15) (by decide +kernel)) (by decide +kernel)), (z_Tof (List.mem_of_getElem? (i := 590) (by decide +kernel)) (by decide +kernel))⟩
theorem pfX0_45 (hY : Y.1.cls = RX0) {a : Nat} {fs : List Value} {x : Int32} (d0 : decode Y.2.1 pc = .ok (.putfield 45, 3)) (hx : x = 0 ∨ x = 1) (hw : w a = some (.inr (2, fs))) (hl : 3 < fs.length) (kk : z_E G Y d Z (pc + 3) L st (z_up w a (.inr (2, fs.set 3 (.int x)))) k n) : z_E G Y d Z pc L (.int x :: .ref a :: st) w k n :=
  z_put (ci := 2) (j := 3) d0 rfl inX2 tyX2 tyX2_ok nmX2 (by decide) (by rw [hY]; exact (z_Tof (List.mem_of_getElem? (i := 61) (by decide +kernel)) (by decide +kernel))) rfl (by rcases hx with rfl | rfl <;> rfl) (by rcases hx with rfl | rfl <;> rfl) hw hl kk
theorem cwX0_65 : z_cSN RX0 65 zX5_moveOfLine := ⟨⟨"ClubAcademy", by decide +kernel⟩, (z_Tof (List.mem_of_getElem? (i := 474) (by decide +kernel)) (by decide +kernel)), (z_Tof (List.mem_of_getElem? (i := 13) (by decide +kernel)) (by decide +kernel)), (z_Tof (List.mem_of_getElem? (i := 475) (by decide +kernel)) (by decide +kernel))⟩
theorem oiX1_3 (hY : Y.1.cls = RX1) {a : Nat} (d0 : decode Y.2.1 pc = .ok (.invokespecial 3, 3)) (hdd : 1 ≤ d) (hst : (st.map fun v => v.category).sum ≤ 8) (kk : z_E G Y d Z (pc + 3) L st w k n) : z_E G Y d Z pc L (.ref a :: st) w k n :=
  z_objInit d0 (by rw [hY]; exact (z_Tof (List.mem_of_getElem? (i := 283) (by decide +kernel)) (by decide +kernel))) (z_Tof (List.mem_of_getElem? (i := 32) (by decide +kernel)) (by decide +kernel)) (z_Tof (List.mem_of_getElem? (i := 33) (by decide +kernel)) (by decide +kernel)) hdd hst kk
theorem pfX1_9 (hY : Y.1.cls = RX1) (hI : Y.1.name = "<init>") {a : Nat} {fs : List Value} {v : Value} (d0 : decode Y.2.1 pc = .ok (.putfield 9, 3)) (hv : z_isr v = true) (hw : w a = some (.inr (1, fs))) (hl : 2 < fs.length) (kk : z_E G Y d Z (pc + 3) L st (z_up w a (.inr (1, fs.set 2 (v)))) k n) : z_E G Y d Z pc L (v :: .ref a :: st) w k n :=
  z_putF (ci := 1) (j := 2) d0 rfl inX1 tyX1 tyX1_ok nmX1 (by decide) (by rw [hY]; exact (z_Tof (List.mem_of_getElem? (i := 288) (by decide +kernel)) (by decide +kernel))) rfl (hI) (hY.symm ▸ rfl) (by rcases z_isr_or hv with rfl | ⟨_, rfl⟩ <;> rfl) (by rcases z_isr_or hv with rfl | ⟨_, rfl⟩ <;> rfl) hw hl kk
theorem pfX1_15 (hY : Y.1.cls = RX1) {a : Nat} {fs : List Value} {x : Int32} (d0 : decode Y.2.1 pc = .ok (.putfield 15, 3)) (hw : w a = some (.inr (1, fs))) (hl : 4 < fs.length) (kk : z_E G Y d Z (pc + 3) L st (z_up w a (.inr (1, fs.set 4 (.int x)))) k n) : z_E G Y d Z pc L (.int x :: .ref a :: st) w k n :=
  z_put (ci := 1) (j := 4) d0 rfl inX1 tyX1 tyX1_ok nmX1 (by decide) (by rw [hY]; exact (z_Tof (List.mem_of_getElem? (i := 292) (by decide +kernel)) (by decide +kernel))) rfl rfl rfl hw hl kk
theorem pfX1_19 (hY : Y.1.cls = RX1) (hI : Y.1.name = "<init>") {a : Nat} {fs : List Value} {v : Value} (d0 : decode Y.2.1 pc = .ok (.putfield 19, 3)) (hv : z_isr v = true) (hw : w a = some (.inr (1, fs))) (hl : 0 < fs.length) (kk : z_E G Y d Z (pc + 3) L st (z_up w a (.inr (1, fs.set 0 (v)))) k n) : z_E G Y d Z pc L (v :: .ref a :: st) w k n :=
  z_putF (ci := 1) (j := 0) d0 rfl inX1 tyX1 tyX1_ok nmX1 (by decide) (by rw [hY]; exact (z_Tof (List.mem_of_getElem? (i := 284) (by decide +kernel)) (by decide +kernel))) rfl (hI) (hY.symm ▸ rfl) (by rcases z_isr_or hv with rfl | ⟨_, rfl⟩ <;> rfl) (by rcases z_isr_or hv with rfl | ⟨_, rfl⟩ <;> rfl) hw hl kk
theorem pfX1_23 (hY : Y.1.cls = RX1) (hI : Y.1.name = "<init>") {a : Nat} {fs : List Value} {v : Value} (d0 : decode Y.2.1 pc = .ok (.putfield 23, 3)) (hv : z_isr v = true) (hw : w a = some (.inr (1, fs))) (hl : 1 < fs.length) (kk : z_E G Y d Z (pc + 3) L st (z_up w a (.inr (1, fs.set 1 (v)))) k n) : z_E G Y d Z pc L (v :: .ref a :: st) w k n :=
  z_putF (ci := 1) (j := 1) d0 rfl inX1 tyX1 tyX1_ok nmX1 (by decide) (by rw [hY]; exact (z_Tof (List.mem_of_getElem? (i := 286) (by decide +kernel)) (by decide +kernel))) rfl (hI) (hY.symm ▸ rfl) (by rcases z_isr_or hv with rfl | ⟨_, rfl⟩ <;> rfl) (by rcases z_isr_or hv with rfl | ⟨_, rfl⟩ <;> rfl) hw hl kk
theorem gfX1_26 (hY : Y.1.cls = RX1) {a : Nat} {fs : List Value} {v : Value} (d0 : decode Y.2.1 pc = .ok (.getfield 26, 3)) (hw : w a = some (.inr (1, fs))) (hv : fs[3]? = some v) (kk : z_E G Y d Z (pc + 3) L (v :: st) w k n) : z_E G Y d Z pc L (.ref a :: st) w k n :=
  z_get (ci := 1) (j := 3) d0 rfl inX1 (by decide) (by rw [hY]; exact (z_Tof (List.mem_of_getElem? (i := 289) (by decide +kernel)) (by decide +kernel))) hw hv kk
theorem gfX1_9 (hY : Y.1.cls = RX1) {a : Nat} {fs : List Value} {v : Value} (d0 : decode Y.2.1 pc = .ok (.getfield 9, 3)) (hw : w a = some (.inr (1, fs))) (hv : fs[2]? = some v) (kk : z_E G Y d Z (pc + 3) L (v :: st) w k n) : z_E G Y d Z pc L (.ref a :: st) w k n :=
  z_get (ci := 1) (j := 2) d0 rfl inX1 (by decide) (by rw [hY]; exact (z_Tof (List.mem_of_getElem? (i := 288) (by decide +kernel)) (by decide +kernel))) hw hv kk
theorem pfX1_26 (hY : Y.1.cls = RX1) {a : Nat} {fs : List Value} {x : Int32} (d0 : decode Y.2.1 pc = .ok (.putfield 26, 3)) (hw : w a = some (.inr (1, fs))) (hl : 3 < fs.length) (kk : z_E G Y d Z (pc + 3) L st (z_up w a (.inr (1, fs.set 3 (.int x)))) k n) : z_E G Y d Z pc L (.int x :: .ref a :: st) w k n :=
  z_put (ci := 1) (j := 3) d0 rfl inX1 tyX1 tyX1_ok nmX1 (by decide) (by rw [hY]; exact (z_Tof (List.mem_of_getElem? (i := 289) (by decide +kernel)) (by decide +kernel))) rfl rfl rfl hw hl kk
theorem gfX1_15 (hY : Y.1.cls = RX1) {a : Nat} {fs : List Value} {v : Value} (d0 : decode Y.2.1 pc = .ok (.getfield 15, 3)) (hw : w a = some (.inr (1, fs))) (hv : fs[4]? = some v) (kk : z_E G Y d Z (pc + 3) L (v :: st) w k n) : z_E G Y d Z pc L (.ref a :: st) w k n :=
  z_get (ci := 1) (j := 4) d0 rfl inX1 (by decide) (by rw [hY]; exact (z_Tof (List.mem_of_getElem? (i := 292) (by decide +kernel)) (by decide +kernel))) hw hv kk
theorem cwX1_29 : z_cSN RX1 29 zX5_positionAfter := ⟨⟨"ClubAcademy", by decide +kernel⟩, (z_Tof (List.mem_of_getElem? (i := 371) (by decide +kernel)) (by decide +kernel)), (z_Tof (List.mem_of_getElem? (i := 13) (by decide +kernel)) (by decide +kernel)), (z_Tof (List.mem_of_getElem? (i := 372) (by decide +kernel)) (by decide +kernel))⟩
theorem cwX1_33 : z_cV RX1 33 zX1_moveAt := ⟨(z_Tof (List.mem_of_getElem? (i := 498) (by decide +kernel)) (by decide +kernel)), (z_Tof (List.mem_of_getElem? (i := 499) (by decide +kernel)) (by decide +kernel)), (z_Tof (List.mem_of_getElem? (i := 500) (by decide +kernel)) (by decide +kernel)), (z_Tof (List.mem_of_getElem? (i := 23) (by decide +kernel)) (by decide +kernel)), (z_Tof (List.mem_of_getElem? (i := 501) (by decide +kernel)) (by decide +kernel))⟩
theorem cwX1_37 : z_cSN RX1 37 zX5_moveOfLine := ⟨⟨"ClubAcademy", by decide +kernel⟩, (z_Tof (List.mem_of_getElem? (i := 474) (by decide +kernel)) (by decide +kernel)), (z_Tof (List.mem_of_getElem? (i := 13) (by decide +kernel)) (by decide +kernel)), (z_Tof (List.mem_of_getElem? (i := 475) (by decide +kernel)) (by decide +kernel))⟩
theorem oiX2_3 (hY : Y.1.cls = RX2) {a : Nat} (d0 : decode Y.2.1 pc = .ok (.invokespecial 3, 3)) (hdd : 1 ≤ d) (hst : (st.map fun v => v.category).sum ≤ 8) (kk : z_E G Y d Z (pc + 3) L st w k n) : z_E G Y d Z pc L (.ref a :: st) w k n :=
  z_objInit d0 (by rw [hY]; exact (z_Tof (List.mem_of_getElem? (i := 51) (by decide +kernel)) (by decide +kernel))) (z_Tof (List.mem_of_getElem? (i := 32) (by decide +kernel)) (by decide +kernel)) (z_Tof (List.mem_of_getElem? (i := 33) (by decide +kernel)) (by decide +kernel)) hdd hst kk
theorem awX2_9 : Cond.classLink RX2 9 RX2 ∈ z_T := (z_Tof (List.mem_of_getElem? (i := 52) (by decide +kernel)) (by decide +kernel))
theorem pfX2_11 (hY : Y.1.cls = RX2) (hI : Y.1.name = "<init>") {a : Nat} {fs : List Value} {v : Value} (d0 : decode Y.2.1 pc = .ok (.putfield 11, 3)) (hv : z_isr v = true) (hw : w a = some (.inr (2, fs))) (hl : 0 < fs.length) (kk : z_E G Y d Z (pc + 3) L st (z_up w a (.inr (2, fs.set 0 (v)))) k n) : z_E G Y d Z pc L (v :: .ref a :: st) w k n :=
  z_putF (ci := 2) (j := 0) d0 rfl inX2 tyX2 tyX2_ok nmX2 (by decide) (by rw [hY]; exact (z_Tof (List.mem_of_getElem? (i := 54) (by decide +kernel)) (by decide +kernel))) rfl (hI) (hY.symm ▸ rfl) (by rcases z_isr_or hv with rfl | ⟨_, rfl⟩ <;> rfl) (by rcases z_isr_or hv with rfl | ⟨_, rfl⟩ <;> rfl) hw hl kk
theorem gfX2_11 (hY : Y.1.cls = RX2) {a : Nat} {fs : List Value} {v : Value} (d0 : decode Y.2.1 pc = .ok (.getfield 11, 3)) (hw : w a = some (.inr (2, fs))) (hv : fs[0]? = some v) (kk : z_E G Y d Z (pc + 3) L (v :: st) w k n) : z_E G Y d Z pc L (.ref a :: st) w k n :=
  z_get (ci := 2) (j := 0) d0 rfl inX2 (by decide) (by rw [hY]; exact (z_Tof (List.mem_of_getElem? (i := 54) (by decide +kernel)) (by decide +kernel))) hw hv kk
theorem nwX2_9 (hY : Y.1.cls = RX2) (d0 : decode Y.2.1 pc = .ok (.new 9, 3)) (hk1 : 1 ≤ k) (hn1 : 4 ≤ n) (kk : ∀ q : Nat, w q = none → z_E G Y d Z (pc + 3) L (.ref q :: st) (z_up w q (.inr (2, [.null, .int 0, .int 0, .int 0]))) (k - 1) (n - 4)) : z_E G Y d Z pc L st w k n :=
  z_new (ci := 2) (fs := [.null, .int 0, .int 0, .int 0]) d0 rfl inX2 tyX2 tyX2_ok (fun j hj => by
    have h : j = 0 ∨ j = 1 ∨ j = 2 ∨ j = 3 := by omega
    rcases h with rfl | rfl | rfl | rfl <;> rfl) (by rw [hY]; exact (z_Tof (List.mem_of_getElem? (i := 52) (by decide +kernel)) (by decide +kernel))) (z_Tof (List.mem_of_getElem? (i := 47) (by decide +kernel)) (by decide +kernel)) (z_Tof (List.mem_of_getElem? (i := 15) (by decide +kernel)) (by decide +kernel)) hk1 hn1 kk
theorem cwX2_15 : z_cI RX2 15 zX2_init := ⟨(z_Tof (List.mem_of_getElem? (i := 582) (by decide +kernel)) (by decide +kernel)), (z_Tof (List.mem_of_getElem? (i := 49) (by decide +kernel)) (by decide +kernel)), (z_Tof (List.mem_of_getElem? (i := 15) (by decide +kernel)) (by decide +kernel)), (z_Tof (List.mem_of_getElem? (i := 50) (by decide +kernel)) (by decide +kernel)), rfl, rfl⟩
theorem gfX2_16 (hY : Y.1.cls = RX2) {a : Nat} {fs : List Value} {v : Value} (d0 : decode Y.2.1 pc = .ok (.getfield 16, 3)) (hw : w a = some (.inr (2, fs))) (hv : fs[2]? = some v) (kk : z_E G Y d Z (pc + 3) L (v :: st) w k n) : z_E G Y d Z pc L (.ref a :: st) w k n :=
  z_get (ci := 2) (j := 2) d0 rfl inX2 (by decide) (by rw [hY]; exact (z_Tof (List.mem_of_getElem? (i := 59) (by decide +kernel)) (by decide +kernel))) hw hv kk
theorem gfX2_20 (hY : Y.1.cls = RX2) {a : Nat} {fs : List Value} {v : Value} (d0 : decode Y.2.1 pc = .ok (.getfield 20, 3)) (hw : w a = some (.inr (2, fs))) (hv : fs[1]? = some v) (kk : z_E G Y d Z (pc + 3) L (v :: st) w k n) : z_E G Y d Z pc L (.ref a :: st) w k n :=
  z_get (ci := 2) (j := 1) d0 rfl inX2 (by decide) (by rw [hY]; exact (z_Tof (List.mem_of_getElem? (i := 56) (by decide +kernel)) (by decide +kernel))) hw hv kk
theorem oiX3_3 (hY : Y.1.cls = RX3) {a : Nat} (d0 : decode Y.2.1 pc = .ok (.invokespecial 3, 3)) (hdd : 1 ≤ d) (hst : (st.map fun v => v.category).sum ≤ 8) (kk : z_E G Y d Z (pc + 3) L st w k n) : z_E G Y d Z pc L (.ref a :: st) w k n :=
  z_objInit d0 (by rw [hY]; exact (z_Tof (List.mem_of_getElem? (i := 201) (by decide +kernel)) (by decide +kernel))) (z_Tof (List.mem_of_getElem? (i := 32) (by decide +kernel)) (by decide +kernel)) (z_Tof (List.mem_of_getElem? (i := 33) (by decide +kernel)) (by decide +kernel)) hdd hst kk
theorem pfX3_9 (hY : Y.1.cls = RX3) (hI : Y.1.name = "<init>") {a : Nat} {fs : List Value} {v : Value} (d0 : decode Y.2.1 pc = .ok (.putfield 9, 3)) (hv : z_isr v = true) (hw : w a = some (.inr (3, fs))) (hl : 1 < fs.length) (kk : z_E G Y d Z (pc + 3) L st (z_up w a (.inr (3, fs.set 1 (v)))) k n) : z_E G Y d Z pc L (v :: .ref a :: st) w k n :=
  z_putF (ci := 3) (j := 1) d0 rfl inX3 tyX3 tyX3_ok nmX3 (by decide) (by rw [hY]; exact (z_Tof (List.mem_of_getElem? (i := 204) (by decide +kernel)) (by decide +kernel))) rfl (hI) (hY.symm ▸ rfl) (by rcases z_isr_or hv with rfl | ⟨_, rfl⟩ <;> rfl) (by rcases z_isr_or hv with rfl | ⟨_, rfl⟩ <;> rfl) hw hl kk
theorem pfX3_15 (hY : Y.1.cls = RX3) (hI : Y.1.name = "<init>") {a : Nat} {fs : List Value} {v : Value} (d0 : decode Y.2.1 pc = .ok (.putfield 15, 3)) (hv : z_isr v = true) (hw : w a = some (.inr (3, fs))) (hl : 2 < fs.length) (kk : z_E G Y d Z (pc + 3) L st (z_up w a (.inr (3, fs.set 2 (v)))) k n) : z_E G Y d Z pc L (v :: .ref a :: st) w k n :=
  z_putF (ci := 3) (j := 2) d0 rfl inX3 tyX3 tyX3_ok nmX3 (by decide) (by rw [hY]; exact (z_Tof (List.mem_of_getElem? (i := 205) (by decide +kernel)) (by decide +kernel))) rfl (hI) (hY.symm ▸ rfl) (by rcases z_isr_or hv with rfl | ⟨_, rfl⟩ <;> rfl) (by rcases z_isr_or hv with rfl | ⟨_, rfl⟩ <;> rfl) hw hl kk
theorem pfX3_19 (hY : Y.1.cls = RX3) (hI : Y.1.name = "<init>") {a : Nat} {fs : List Value} {v : Value} (d0 : decode Y.2.1 pc = .ok (.putfield 19, 3)) (hv : z_isr v = true) (hw : w a = some (.inr (3, fs))) (hl : 3 < fs.length) (kk : z_E G Y d Z (pc + 3) L st (z_up w a (.inr (3, fs.set 3 (v)))) k n) : z_E G Y d Z pc L (v :: .ref a :: st) w k n :=
  z_putF (ci := 3) (j := 3) d0 rfl inX3 tyX3 tyX3_ok nmX3 (by decide) (by rw [hY]; exact (z_Tof (List.mem_of_getElem? (i := 206) (by decide +kernel)) (by decide +kernel))) rfl (hI) (hY.symm ▸ rfl) (by rcases z_isr_or hv with rfl | ⟨_, rfl⟩ <;> rfl) (by rcases z_isr_or hv with rfl | ⟨_, rfl⟩ <;> rfl) hw hl kk
theorem pfX3_22 (hY : Y.1.cls = RX3) (hI : Y.1.name = "<init>") {a : Nat} {fs : List Value} {x : Int32} (d0 : decode Y.2.1 pc = .ok (.putfield 22, 3)) (hw : w a = some (.inr (3, fs))) (hl : 0 < fs.length) (kk : z_E G Y d Z (pc + 3) L st (z_up w a (.inr (3, fs.set 0 (.int x)))) k n) : z_E G Y d Z pc L (.int x :: .ref a :: st) w k n :=
  z_putF (ci := 3) (j := 0) d0 rfl inX3 tyX3 tyX3_ok nmX3 (by decide) (by rw [hY]; exact (z_Tof (List.mem_of_getElem? (i := 202) (by decide +kernel)) (by decide +kernel))) rfl (hI) (hY.symm ▸ rfl) rfl rfl hw hl kk
theorem gfX3_9 (hY : Y.1.cls = RX3) {a : Nat} {fs : List Value} {v : Value} (d0 : decode Y.2.1 pc = .ok (.getfield 9, 3)) (hw : w a = some (.inr (3, fs))) (hv : fs[1]? = some v) (kk : z_E G Y d Z (pc + 3) L (v :: st) w k n) : z_E G Y d Z pc L (.ref a :: st) w k n :=
  z_get (ci := 3) (j := 1) d0 rfl inX3 (by decide) (by rw [hY]; exact (z_Tof (List.mem_of_getElem? (i := 204) (by decide +kernel)) (by decide +kernel))) hw hv kk
theorem gfX3_26 (hY : Y.1.cls = RX3) {a : Nat} {fs : List Value} {v : Value} (d0 : decode Y.2.1 pc = .ok (.getfield 26, 3)) (hw : w a = some (.inr (3, fs))) (hv : fs[4]? = some v) (kk : z_E G Y d Z (pc + 3) L (v :: st) w k n) : z_E G Y d Z pc L (.ref a :: st) w k n :=
  z_get (ci := 3) (j := 4) d0 rfl inX3 (by decide) (by rw [hY]; exact (z_Tof (List.mem_of_getElem? (i := 207) (by decide +kernel)) (by decide +kernel))) hw hv kk
theorem pfX3_26 (hY : Y.1.cls = RX3) {a : Nat} {fs : List Value} {x : Int32} (d0 : decode Y.2.1 pc = .ok (.putfield 26, 3)) (hw : w a = some (.inr (3, fs))) (hl : 4 < fs.length) (kk : z_E G Y d Z (pc + 3) L st (z_up w a (.inr (3, fs.set 4 (.int x)))) k n) : z_E G Y d Z pc L (.int x :: .ref a :: st) w k n :=
  z_put (ci := 3) (j := 4) d0 rfl inX3 tyX3 tyX3_ok nmX3 (by decide) (by rw [hY]; exact (z_Tof (List.mem_of_getElem? (i := 207) (by decide +kernel)) (by decide +kernel))) rfl rfl rfl hw hl kk
theorem cwX3_29 : z_cV RX3 29 zX3_endGame := ⟨(z_Tof (List.mem_of_getElem? (i := 558) (by decide +kernel)) (by decide +kernel)), (z_Tof (List.mem_of_getElem? (i := 560) (by decide +kernel)) (by decide +kernel)), (z_Tof (List.mem_of_getElem? (i := 6) (by decide +kernel)) (by decide +kernel)), (z_Tof (List.mem_of_getElem? (i := 20) (by decide +kernel)) (by decide +kernel)), (z_Tof (List.mem_of_getElem? (i := 561) (by decide +kernel)) (by decide +kernel))⟩
theorem gfX3_33 (hY : Y.1.cls = RX3) {a : Nat} {fs : List Value} {v : Value} (d0 : decode Y.2.1 pc = .ok (.getfield 33, 3)) (hw : w a = some (.inr (3, fs))) (hv : fs[5]? = some v) (kk : z_E G Y d Z (pc + 3) L (v :: st) w k n) : z_E G Y d Z pc L (.ref a :: st) w k n :=
  z_get (ci := 3) (j := 5) d0 rfl inX3 (by decide) (by rw [hY]; exact (z_Tof (List.mem_of_getElem? (i := 208) (by decide +kernel)) (by decide +kernel))) hw hv kk
theorem pfX3_33 (hY : Y.1.cls = RX3) {a : Nat} {fs : List Value} {x : Int32} (d0 : decode Y.2.1 pc = .ok (.putfield 33, 3)) (hw : w a = some (.inr (3, fs))) (hl : 5 < fs.length) (kk : z_E G Y d Z (pc + 3) L st (z_up w a (.inr (3, fs.set 5 (.int x)))) k n) : z_E G Y d Z pc L (.int x :: .ref a :: st) w k n :=
  z_put (ci := 3) (j := 5) d0 rfl inX3 tyX3 tyX3_ok nmX3 (by decide) (by rw [hY]; exact (z_Tof (List.mem_of_getElem? (i := 208) (by decide +kernel)) (by decide +kernel))) rfl rfl rfl hw hl kk
theorem gfX3_36 (hY : Y.1.cls = RX3) {a : Nat} {fs : List Value} {v : Value} (d0 : decode Y.2.1 pc = .ok (.getfield 36, 3)) (hw : w a = some (.inr (3, fs))) (hv : fs[6]? = some v) (kk : z_E G Y d Z (pc + 3) L (v :: st) w k n) : z_E G Y d Z pc L (.ref a :: st) w k n :=
  z_get (ci := 3) (j := 6) d0 rfl inX3 (by decide) (by rw [hY]; exact (z_Tof (List.mem_of_getElem? (i := 209) (by decide +kernel)) (by decide +kernel))) hw hv kk
theorem pfX3_36 (hY : Y.1.cls = RX3) {a : Nat} {fs : List Value} {x : Int32} (d0 : decode Y.2.1 pc = .ok (.putfield 36, 3)) (hw : w a = some (.inr (3, fs))) (hl : 6 < fs.length) (kk : z_E G Y d Z (pc + 3) L st (z_up w a (.inr (3, fs.set 6 (.int x)))) k n) : z_E G Y d Z pc L (.int x :: .ref a :: st) w k n :=
  z_put (ci := 3) (j := 6) d0 rfl inX3 tyX3 tyX3_ok nmX3 (by decide) (by rw [hY]; exact (z_Tof (List.mem_of_getElem? (i := 209) (by decide +kernel)) (by decide +kernel))) rfl rfl rfl hw hl kk
theorem gfX3_22 (hY : Y.1.cls = RX3) {a : Nat} {fs : List Value} {v : Value} (d0 : decode Y.2.1 pc = .ok (.getfield 22, 3)) (hw : w a = some (.inr (3, fs))) (hv : fs[0]? = some v) (kk : z_E G Y d Z (pc + 3) L (v :: st) w k n) : z_E G Y d Z pc L (.ref a :: st) w k n :=
  z_get (ci := 3) (j := 0) d0 rfl inX3 (by decide) (by rw [hY]; exact (z_Tof (List.mem_of_getElem? (i := 202) (by decide +kernel)) (by decide +kernel))) hw hv kk
theorem gfX3_19 (hY : Y.1.cls = RX3) {a : Nat} {fs : List Value} {v : Value} (d0 : decode Y.2.1 pc = .ok (.getfield 19, 3)) (hw : w a = some (.inr (3, fs))) (hv : fs[3]? = some v) (kk : z_E G Y d Z (pc + 3) L (v :: st) w k n) : z_E G Y d Z pc L (.ref a :: st) w k n :=
  z_get (ci := 3) (j := 3) d0 rfl inX3 (by decide) (by rw [hY]; exact (z_Tof (List.mem_of_getElem? (i := 206) (by decide +kernel)) (by decide +kernel))) hw hv kk
theorem gfX3_15 (hY : Y.1.cls = RX3) {a : Nat} {fs : List Value} {v : Value} (d0 : decode Y.2.1 pc = .ok (.getfield 15, 3)) (hw : w a = some (.inr (3, fs))) (hv : fs[2]? = some v) (kk : z_E G Y d Z (pc + 3) L (v :: st) w k n) : z_E G Y d Z pc L (.ref a :: st) w k n :=
  z_get (ci := 3) (j := 2) d0 rfl inX3 (by decide) (by rw [hY]; exact (z_Tof (List.mem_of_getElem? (i := 205) (by decide +kernel)) (by decide +kernel))) hw hv kk
theorem cwX3_39 : z_cV RX3 39 zX3_ratingIn := ⟨(z_Tof (List.mem_of_getElem? (i := 441) (by decide +kernel)) (by decide +kernel)), (z_Tof (List.mem_of_getElem? (i := 442) (by decide +kernel)) (by decide +kernel)), (z_Tof (List.mem_of_getElem? (i := 443) (by decide +kernel)) (by decide +kernel)), (z_Tof (List.mem_of_getElem? (i := 20) (by decide +kernel)) (by decide +kernel)), (z_Tof (List.mem_of_getElem? (i := 444) (by decide +kernel)) (by decide +kernel))⟩
theorem cwX3_43 : z_cS RX3 43 zX3_ratingBehindTry := ⟨(z_Tof (List.mem_of_getElem? (i := 638) (by decide +kernel)) (by decide +kernel)), (z_Tof (List.mem_of_getElem? (i := 639) (by decide +kernel)) (by decide +kernel)), (z_Tof (List.mem_of_getElem? (i := 20) (by decide +kernel)) (by decide +kernel)), (z_Tof (List.mem_of_getElem? (i := 640) (by decide +kernel)) (by decide +kernel))⟩
theorem oiX4_3 (hY : Y.1.cls = RX4) {a : Nat} (d0 : decode Y.2.1 pc = .ok (.invokespecial 3, 3)) (hdd : 1 ≤ d) (hst : (st.map fun v => v.category).sum ≤ 8) (kk : z_E G Y d Z (pc + 3) L st w k n) : z_E G Y d Z pc L (.ref a :: st) w k n :=
  z_objInit d0 (by rw [hY]; exact (z_Tof (List.mem_of_getElem? (i := 608) (by decide +kernel)) (by decide +kernel))) (z_Tof (List.mem_of_getElem? (i := 32) (by decide +kernel)) (by decide +kernel)) (z_Tof (List.mem_of_getElem? (i := 33) (by decide +kernel)) (by decide +kernel)) hdd hst kk
end ZPROG
