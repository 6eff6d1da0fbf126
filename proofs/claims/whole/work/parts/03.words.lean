/-- of each method: its arguments (with the receiver), its locals, its receiver's number in vwCl (of a method without one: none) -/
def mInf : List (Nat × Nat × Option Nat) := [(3, 5, some 0), (1, 1, some 0), (2, 2, some 0), (2, 2, some 0), (2, 2, some 0), (1, 1, some 0), (5, 5, some 0), (3, 3, some 0), (3, 3, some 0), (3, 4, some 0), (3, 4, some 0), (3, 4, some 0), (2, 4, some 0), (1, 4, some 0), (2, 2, some 0), (2, 2, some 0), (3, 5, some 0), (3, 5, some 0), (3, 5, some 0), (2, 2, some 0), (2, 2, some 0), (4, 4, some 0), (2, 2, none), (2, 2, some 1), (3, 4, some 1), (5, 10, some 1), (2, 2, some 1), (2, 2, some 1), (4, 4, some 2), (3, 3, some 2), (4, 5, some 2), (4, 5, some 2), (5, 5, some 3), (5, 5, some 3), (5, 6, some 3), (2, 4, some 3), (2, 5, some 3), (3, 5, some 3), (3, 5, some 3), (1, 4, some 3), (1, 4, some 3), (5, 5, some 4), (6, 11, some 4), (2, 5, some 5), (2, 2, some 5), (2, 3, some 5), (3, 3, some 5), (3, 5, some 5), (5, 7, some 5), (4, 7, some 5), (4, 7, some 5), (5, 8, some 5), (5, 6, some 5), (5, 5, some 5), (4, 10, some 6), (2, 2, some 6), (3, 5, some 6), (2, 4, none), (2, 3, some 7), (5, 6, some 7), (3, 6, some 7), (3, 4, some 7), (3, 4, some 7), (3, 4, some 7), (3, 3, some 7), (1, 1, some 7), (1, 1, some 7), (2, 2, some 7), (2, 3, some 7), (2, 3, some 7), (2, 3, some 7), (2, 3, some 7), (2, 3, some 7), (3, 4, some 7), (3, 4, some 7), (2, 2, some 7), (2, 2, some 7), (2, 2, some 7), (2, 5, some 7), (2, 2, some 7), (2, 4, some 7), (2, 3, some 7), (2, 3, some 7), (2, 3, some 7), (3, 3, none), (2, 2, some 7), (2, 3, some 7), (2, 2, some 7), (3, 5, some 7), (1, 1, some 8), (3, 3, none), (4, 4, some 8), (2, 2, some 8), (2, 2, some 8), (2, 2, some 8), (3, 3, some 8), (3, 3, some 8), (3, 3, some 8), (2, 3, some 8), (2, 5, some 8), (5, 5, some 8), (5, 6, some 8), (3, 5, some 8), (3, 4, some 8), (3, 4, some 8), (3, 4, some 8), (3, 3, some 8), (3, 5, some 8), (4, 9, some 8), (2, 2, some 8), (3, 9, some 8), (3, 6, some 8), (3, 10, some 8), (2, 4, some 8), (2, 2, some 8), (3, 5, some 8), (1, 1, some 8), (1, 1, some 8), (2, 2, some 8), (2, 4, some 8), (2, 2, some 8), (2, 2, some 8), (2, 2, some 8), (2, 2, some 8), (3, 4, some 8), (3, 4, some 8), (2, 2, some 8), (2, 5, some 8), (3, 5, some 8), (3, 7, some 8), (2, 4, some 8), (2, 2, some 8), (2, 2, some 8), (2, 3, some 8), (2, 4, some 8), (3, 6, some 8), (3, 6, some 8), (2, 2, some 8), (3, 6, some 8), (2, 2, some 8), (2, 2, some 8), (2, 4, some 8), (2, 10, some 8), (3, 4, none), (6, 7, none), (4, 5, none), (4, 5, none), (4, 5, none), (4, 5, none), (3, 4, none), (3, 4, none), (3, 4, none), (3, 4, none), (3, 4, none), (3, 4, none), (3, 4, none), (4, 5, none), (4, 5, none), (3, 4, none), (3, 4, none), (3, 4, none), (3, 4, none), (3, 4, none), (3, 4, none), (3, 4, none), (3, 4, none), (3, 4, none), (1, 3, none), (1, 7, none)]
def mNa (y : Nat) : Nat := (mInf.getD y (0, 0, none)).1
def mLo (y : Nat) : Nat := (mInf.getD y (0, 0, none)).2.1
def mRc (y : Nat) : Option Nat := (mInf.getD y (0, 0, none)).2.2
/-! the methods are what the class files hold: names, bytes, words -/
def nmL : List MethodName := [yX0_open, yX0_size, yX0_hasTeam, yX0_seatOf, yX0_teamOn, yX0_everyone, yX0_tell, yX0_untell, yX0_hasResult, yX0_putTaken, yX0_putCards, yX0_putLot, yX0_playedBy, yX0_left, yX0_pointsOf, yX0_takenFrom, yX0_pointsFrom, yX0_differenceFrom, yX0_goalsFrom, yX0_cardMark, yX0_lotMark, yX0_counts, yX0_pointsFor, yX1_list, yX1_listOwnLast, yX1_add, yX1_lowerOf, yX1_upperOf, yX2_put, yX2_at, yX2_firstApart, yX2_isBetter, yX3_countPassed, yX3_firstPassed, yX3_open, yX3_waysPassed, yX3_lowestPassed, yX3_play, yX3_takeBack, yX3_isPassedAnyhow, yX3_canBePassed, yX4_countThrough, yX4_countFrom, yX5_draw, yX5_seatAt, yX5_placeOf, yX5_ruleBetween, yX5_setOf, yX5_settle, yX5_markTied, yX5_markAll, yX5_arrange, yX5_noteRule, yX5_alikeEnd, yX6_measure, yX6_pointsOfThird, yX6_betterThan, yX6_smallestSize, yX7_addGroup, yX7_setResult, yX7_strike, yX7_takeAway, yX7_setCards, yX7_setLot, yX7_setThrough, yX7_groups, yX7_teams, yX7_groupOf, yX7_played, yX7_points, yX7_difference, yX7_goals, yX7_place, yX7_teamAt, yX7_rule, yX7_matchesLeft, yX7_thirdPoints, yX7_thirdRank, yX7_isThrough, yX7_ways, yX7_waysSafe, yX7_waysLost, yX7_badWay, yX7_scoresThrough, yX7_needInRange, yX7_needGroup, yX7_groupNumber, yX7_groupWith, yX7_groupOfPair, yX8_thrown, yX8_in, yX8_goes, yX8_told, yX8_isTeam, yX8_isGroup, yX8_arePair, yX8_at, yX8_isPlayed, yX8_addGroup, yX8_left, yX8_lays, yX8_setResult, yX8_strike, yX8_takeAway, yX8_setCards, yX8_setLot, yX8_setThrough, yX8_pointsIn, yX8_sums, yX8_pointsOf, yX8_finalRule, yX8_tiedRule, yX8_splits, yX8_orders, yX8_placeOf, yX8_teamOn, yX8_groups, yX8_teams, yX8_groupOf, yX8_played, yX8_points, yX8_difference, yX8_goals, yX8_place, yX8_teamAt, yX8_rule, yX8_matchesLeft, yX8_counting, yX8_thirdSum, yX8_isBetter, yX8_rankOf, yX8_thirdPoints, yX8_thirdRank, yX8_isThrough, yX8_waysOf, yX8_plays, yX8_before, yX8_ways, yX8_counts, yX8_waysSafe, yX8_waysLost, yX8_badWay, yX8_scoresThrough, yL_addGroup, yL_setResult, yL_strike, yL_takeAway, yL_setCards, yL_setLot, yL_setThrough, yL_groupOf, yL_played, yL_points, yL_difference, yL_goals, yL_place, yL_teamAt, yL_rule, yL_matchesLeft, yL_thirdPoints, yL_thirdRank, yL_isThrough, yL_ways, yL_waysSafe, yL_waysLost, yL_badWay, yL_scoresThrough, yX7_waysOf, x]
def byL : List ByteArray := [cX0_open, cX0_size, cX0_hasTeam, cX0_seatOf, cX0_teamOn, cX0_everyone, cX0_tell, cX0_untell, cX0_hasResult, cX0_putTaken, cX0_putCards, cX0_putLot, cX0_playedBy, cX0_left, cX0_pointsOf, cX0_takenFrom, cX0_pointsFrom, cX0_differenceFrom, cX0_goalsFrom, cX0_cardMark, cX0_lotMark, cX0_counts, cX0_pointsFor, cX1_list, cX1_listOwnLast, cX1_add, cX1_lowerOf, cX1_upperOf, cX2_put, cX2_at, cX2_firstApart, cX2_isBetter, cX3_countPassed, cX3_firstPassed, cX3_open, cX3_waysPassed, cX3_lowestPassed, cX3_play, cX3_takeBack, cX3_isPassedAnyhow, cX3_canBePassed, cX4_countThrough, cX4_countFrom, cX5_draw, cX5_seatAt, cX5_placeOf, cX5_ruleBetween, cX5_setOf, cX5_settle, cX5_markTied, cX5_markAll, cX5_arrange, cX5_noteRule, cX5_alikeEnd, cX6_measure, cX6_pointsOfThird, cX6_betterThan, cX6_smallestSize, cX7_addGroup, cX7_setResult, cX7_strike, cX7_takeAway, cX7_setCards, cX7_setLot, cX7_setThrough, cX7_groups, cX7_teams, cX7_groupOf, cX7_played, cX7_points, cX7_difference, cX7_goals, cX7_place, cX7_teamAt, cX7_rule, cX7_matchesLeft, cX7_thirdPoints, cX7_thirdRank, cX7_isThrough, cX7_ways, cX7_waysSafe, cX7_waysLost, cX7_badWay, cX7_scoresThrough, cX7_needInRange, cX7_needGroup, cX7_groupNumber, cX7_groupWith, cX7_groupOfPair, cX8_thrown, cX8_in, cX8_goes, cX8_told, cX8_isTeam, cX8_isGroup, cX8_arePair, cX8_at, cX8_isPlayed, cX8_addGroup, cX8_left, cX8_lays, cX8_setResult, cX8_strike, cX8_takeAway, cX8_setCards, cX8_setLot, cX8_setThrough, cX8_pointsIn, cX8_sums, cX8_pointsOf, cX8_finalRule, cX8_tiedRule, cX8_splits, cX8_orders, cX8_placeOf, cX8_teamOn, cX8_groups, cX8_teams, cX8_groupOf, cX8_played, cX8_points, cX8_difference, cX8_goals, cX8_place, cX8_teamAt, cX8_rule, cX8_matchesLeft, cX8_counting, cX8_thirdSum, cX8_isBetter, cX8_rankOf, cX8_thirdPoints, cX8_thirdRank, cX8_isThrough, cX8_waysOf, cX8_plays, cX8_before, cX8_ways, cX8_counts, cX8_waysSafe, cX8_waysLost, cX8_badWay, cX8_scoresThrough, cL_addGroup, cL_setResult, cL_strike, cL_takeAway, cL_setCards, cL_setLot, cL_setThrough, cL_groupOf, cL_played, cL_points, cL_difference, cL_goals, cL_place, cL_teamAt, cL_rule, cL_matchesLeft, cL_thirdPoints, cL_thirdRank, cL_isThrough, cL_ways, cL_waysSafe, cL_waysLost, cL_badWay, cL_scoresThrough, cX7_waysOf, code]
def rtL : List (Option FieldType) := [none, (some .int), (some .boolean), (some .int), (some .int), (some .int), none, none, (some .boolean), (some .int), (some .int), (some .int), (some .int), (some .int), (some .int), (some .int), (some .int), (some .int), (some .int), (some .int), (some .int), (some .boolean), (some .int), (some .int), (some .int), (some .int), (some .int), (some .int), none, (some .int), (some .int), (some .boolean), (some .int), (some .int), none, (some .int), (some .int), none, none, (some .boolean), (some .boolean), (some .int), (some .int), none, (some .int), (some .int), (some .int), (some .int), none, none, none, none, none, (some .boolean), none, (some .int), (some .int), (some .int), (some .int), (some .int), (some .int), (some .int), (some .int), (some .int), none, (some .int), (some .int), (some .int), (some .int), (some .int), (some .int), (some .int), (some .int), (some .int), (some .int), (some .int), (some .int), (some .int), (some .boolean), (some .int), (some .int), (some .int), (some .int), (some .int), none, none, (some .int), (some (.object "GroupTables$Group")), (some (.object "GroupTables$Group")), (some .int), (some .boolean), (some .boolean), (some .int), (some .boolean), (some .boolean), (some .boolean), (some .int), (some .boolean), (some .int), (some .int), none, (some .int), (some .int), (some .int), (some .int), (some .int), none, (some .int), (some .int), (some .int), (some .int), (some .int), (some .boolean), none, (some .int), (some .int), (some .int), (some .int), (some .int), (some .int), (some .int), (some .int), (some .int), (some .int), (some .int), (some .int), (some .int), (some .int), (some .int), (some .boolean), (some .int), (some .int), (some .int), (some .boolean), (some .int), none, (some .int), (some .int), (some .int), (some .int), (some .int), (some .int), (some .int), (some .int), (some .int), (some .int), (some .int), (some .int), (some .int), (some .int), (some .int), (some .int), (some .int), (some .int), (some .int), (some .int), (some .int), (some .int), (some .int), (some .int), (some .int), (some .int), (some .int), (some .int), (some .int), (some .int), (some .int), (some .int), (some .boolean)]
def owL : List Nat := [0, 0, 0, 0, 0, 0, 0, 0, 0, 0, 0, 0, 0, 0, 0, 0, 0, 0, 0, 0, 0, 0, 0, 1, 1, 1, 1, 1, 2, 2, 2, 2, 3, 3, 3, 3, 3, 3, 3, 3, 3, 4, 4, 5, 5, 5, 5, 5, 5, 5, 5, 5, 5, 5, 6, 6, 6, 6, 7, 7, 7, 7, 7, 7, 7, 7, 7, 7, 7, 7, 7, 7, 7, 7, 7, 7, 7, 7, 7, 7, 7, 7, 7, 7, 7, 7, 7, 7, 7, 8, 8, 8, 8, 8, 8, 8, 8, 8, 8, 8, 8, 8, 8, 8, 8, 8, 8, 8, 8, 8, 8, 8, 8, 8, 8, 8, 8, 8, 8, 8, 8, 8, 8, 8, 8, 8, 8, 8, 8, 8, 8, 8, 8, 8, 8, 8, 8, 8, 8, 8, 8, 8, 8, 9, 9, 9, 9, 9, 9, 9, 9, 9, 9, 9, 9, 9, 9, 9, 9, 9, 9, 9, 9, 9, 9, 9, 9, 7, 9]
def hhL : List (Option (List (Nat × Nat × Nat × Nat))) := [none, none, none, none, none, none, none, none, none, none, none, none, none, none, none, none, none, none, none, none, none, none, none, none, none, none, none, none, none, none, none, none, none, none, none, none, none, none, none, none, none, none, none, none, none, none, none, none, none, none, none, none, none, none, none, none, none, none, none, none, none, none, none, none, none, none, none, none, none, none, none, none, none, none, none, none, none, none, none, none, none, none, none, none, none, none, none, none, none, none, none, none, none, none, none, none, none, none, none, none, none, none, none, none, none, none, none, none, none, none, none, none, none, none, none, none, none, none, none, none, none, none, none, none, none, none, none, none, none, none, none, none, none, none, none, none, none, none, none, none, none, none, none, some [(0, 9, 12, 13), (0, 9, 15, 15)], some [(0, 14, 17, 21), (0, 14, 21, 13)], some [(0, 10, 13, 21), (0, 10, 17, 13), (0, 10, 21, 15)], some [(0, 10, 13, 21), (0, 10, 17, 13)], some [(0, 10, 13, 21), (0, 10, 17, 13)], some [(0, 10, 13, 21), (0, 10, 17, 13)], some [(0, 6, 9, 13)], some [(0, 9, 12, 21)], some [(0, 9, 12, 21)], some [(0, 9, 12, 21)], some [(0, 9, 12, 21)], some [(0, 9, 12, 21)], some [(0, 9, 12, 21)], some [(0, 10, 13, 21)], some [(0, 10, 13, 21), (0, 10, 17, 13)], some [(0, 9, 12, 21)], some [(0, 9, 12, 21)], some [(0, 9, 12, 21)], some [(0, 16, 19, 21)], some [(0, 9, 12, 21)], some [(0, 9, 12, 21)], some [(0, 9, 12, 21)], some [(0, 9, 12, 21)], some [(0, 9, 12, 21), (0, 9, 15, 15)], none, none]
def mNm (y : Nat) : MethodName := nmL.getD y x
def mBy (y : Nat) : ByteArray := byL.getD y code
def mRt (y : Nat) : Option FieldType := rtL.getD y none
def mOw (y : Nat) : Nat := owL.getD y 9
def mHh (y : Nat) : Option (List (Nat × Nat × Nat × Nat)) := hhL.getD y none
def ownS (c : Nat) : String := ([RX0, RX1, RX2, RX3, RX4, RX5, RX6, RX7, RX8, RL] : List String).getD c RL
def vC (c : Nat) : vw_C := vwCl.getD c (RX0, TX0, 6)
/-- field links: class, entry, kind of object, place -/
def FR : List (Nat × Nat × Nat × Nat) := [(0, 11, 0, 0), (0, 16, 0, 1), (0, 20, 0, 2), (0, 23, 0, 3), (0, 26, 0, 4), (0, 30, 0, 5), (1, 9, 1, 0), (1, 15, 1, 1), (2, 9, 2, 0), (3, 12, 3, 0), (3, 18, 3, 1), (3, 22, 3, 2), (3, 50, 3, 3), (3, 53, 3, 4), (3, 56, 3, 5), (3, 59, 3, 6), (4, 10, 4, 0), (5, 16, 5, 0), (5, 20, 5, 1), (5, 26, 5, 2), (6, 16, 6, 0), (7, 11, 7, 0), (7, 18, 7, 1), (7, 25, 7, 2), (7, 32, 7, 3), (7, 39, 7, 4), (7, 43, 7, 7), (7, 52, 7, 5), (7, 62, 7, 6), (7, 108, 7, 8), (8, 7, 8, 2), (8, 13, 8, 4), (8, 17, 8, 5), (8, 20, 8, 6), (8, 23, 8, 7), (8, 26, 8, 8), (8, 29, 8, 9), (8, 32, 8, 10), (8, 35, 8, 11), (8, 38, 8, 12), (8, 41, 8, 13), (8, 44, 8, 14), (8, 47, 8, 15), (8, 50, 8, 16), (8, 53, 8, 1), (8, 60, 8, 0), (8, 90, 8, 3)]
def fW (q : Nat × Nat × Nat × Nat) : Jvm.Cond := .fieldLink (ownS q.1) q.2.1 ((vC q.2.2.1).2.1 q.2.2.2).1 ((vC q.2.2.1).2.1 q.2.2.2).2.1 ((vC q.2.2.1).2.1 q.2.2.2).2.2.1
/-- method links: class, entry, method -/
def MR : List (Nat × Nat × Nat) := [(0, 33, 6), (0, 37, 8), (0, 41, 5), (0, 45, 16), (0, 49, 21), (0, 53, 22), (1, 18, 24), (1, 22, 25), (1, 26, 1), (1, 32, 8), (2, 14, 30), (3, 25, 34), (3, 29, 24), (3, 33, 35), (3, 37, 23), (3, 41, 36), (3, 44, 1), (3, 62, 14), (3, 65, 12), (3, 68, 39), (3, 72, 167), (3, 75, 40), (3, 78, 37), (3, 82, 38), (3, 85, 26), (3, 88, 27), (4, 16, 23), (4, 20, 42), (4, 24, 43), (4, 30, 45), (4, 34, 26), (4, 37, 27), (4, 40, 6), (4, 46, 7), (5, 29, 1), (5, 35, 14), (5, 39, 28), (5, 43, 51), (5, 47, 53), (5, 51, 48), (5, 55, 49), (5, 59, 30), (5, 63, 50), (5, 66, 47), (5, 70, 16), (5, 73, 17), (5, 76, 18), (5, 79, 5), (5, 82, 19), (5, 85, 20), (5, 88, 31), (5, 92, 52), (6, 20, 57), (6, 24, 43), (6, 30, 44), (6, 34, 47), (6, 38, 16), (6, 43, 15), (6, 46, 28), (6, 50, 17), (6, 53, 18), (6, 56, 19), (6, 59, 20), (6, 62, 29), (6, 65, 31), (6, 69, 1), (7, 48, 84), (7, 65, 0), (7, 69, 88), (7, 73, 3), (7, 77, 6), (7, 81, 13), (7, 85, 8), (7, 91, 7), (7, 94, 87), (7, 98, 9), (7, 102, 10), (7, 105, 11), (7, 111, 86), (7, 114, 12), (7, 117, 14), (7, 120, 5), (7, 123, 17), (7, 126, 18), (7, 129, 43), (7, 133, 45), (7, 136, 85), (7, 140, 1), (7, 148, 44), (7, 151, 4), (7, 154, 46), (7, 157, 54), (7, 161, 55), (7, 164, 56), (7, 167, 167), (7, 170, 32), (7, 174, 33), (7, 179, 41), (7, 192, 2), (8, 56, 90), (8, 63, 96), (8, 67, 91), (8, 71, 97), (8, 75, 93), (8, 79, 95), (8, 82, 100), (8, 86, 99), (8, 93, 107), (8, 96, 108), (8, 100, 111), (8, 103, 110), (8, 106, 109), (8, 109, 112), (8, 112, 113), (8, 116, 92), (8, 119, 114), (8, 122, 94), (8, 125, 115), (8, 128, 127), (8, 131, 128), (8, 134, 129), (8, 137, 130), (8, 140, 134), (8, 143, 135), (8, 147, 136), (8, 150, 138), (9, 7, 58), (9, 17, 59), (9, 23, 60), (9, 27, 61), (9, 30, 62), (9, 33, 63), (9, 36, 64), (9, 40, 67), (9, 43, 68), (9, 46, 69), (9, 49, 70), (9, 52, 71), (9, 55, 72), (9, 58, 73), (9, 61, 74), (9, 64, 75), (9, 67, 76), (9, 70, 77), (9, 73, 78), (9, 77, 79), (9, 80, 80), (9, 83, 81), (9, 86, 82), (9, 89, 83), (9, 96, 143), (9, 101, 98), (9, 102, 89), (9, 106, 144), (9, 109, 101), (9, 110, 145), (9, 113, 102), (9, 114, 146), (9, 116, 103), (9, 117, 147), (9, 119, 104), (9, 120, 148), (9, 122, 105), (9, 123, 149), (9, 126, 106), (9, 127, 65), (9, 130, 116), (9, 131, 66), (9, 134, 117), (9, 135, 150), (9, 137, 118), (9, 138, 151), (9, 140, 119), (9, 141, 152), (9, 143, 120), (9, 144, 153), (9, 146, 121), (9, 147, 154), (9, 149, 122), (9, 150, 155), (9, 152, 123), (9, 153, 156), (9, 155, 124), (9, 156, 157), (9, 158, 125), (9, 159, 158), (9, 161, 126), (9, 162, 159), (9, 164, 131), (9, 165, 160), (9, 167, 132), (9, 168, 161), (9, 170, 133), (9, 171, 162), (9, 173, 137), (9, 174, 163), (9, 176, 139), (9, 177, 164), (9, 179, 140), (9, 180, 165), (9, 182, 141), (9, 183, 166), (9, 185, 142)]
/-- links of the static rows: class, entry, kind -/
def SRl : List (Nat × Nat × Nat) := [(3, 91, 51), (3, 94, 52)]
/-- exceptions: number, entry of the class, entry of the constructor -/
def EXl : List (Nat × Nat × Nat) := [(0, 143, 147), (1, 183, 187), (2, 55, 59)]
def STl : List (Nat × String) := [(57, "there are 6 groups"), (89, "the match has no result"), (145, "no such place"), (177, "more than 3 matches are left"), (185, "out of range"), (188, "no such group"), (190, "no such team"), (196, "not two teams of one group")]
def exN (e : Nat) : String := (["java/lang/IndexOutOfBoundsException", "java/lang/IllegalArgumentException", "java/lang/IllegalStateException"] : List String).getD e "java/lang/IllegalStateException"
def roM (k : Nat) : String × String := if k = 51 then ("GroupTables$Outlook", "LOWER_GAINS") else ("GroupTables$Outlook", "UPPER_GAINS")
def sW (q : Nat × Nat × Nat) : Jvm.Cond := .fieldLink (ownS q.1) q.2.1 (roM q.2.2).1 (roM q.2.2).2 "[I"
def mW (q : Nat × Nat × Nat) : Jvm.Cond := if q.1 = 3 ∧ q.2.1 = 72 then .methodLinkNest (ownS q.1) q.2.1 (mNm q.2.2) "GroupTables" else .methodLink (ownS q.1) q.2.1 (mNm q.2.2)
theorem fW_ok : ∀ q ∈ FR, fW q ∈ lw_tbl := by decide +kernel
theorem sW_ok : ∀ q ∈ SRl, sW q ∈ lw_tbl := by decide +kernel
def mPos : List Nat := [396, 379, 470, 474, 478, 482, 772, 711, 715, 716, 536, 700, 707, 717, 768, 773, 704, 705, 706, 721, 725, 726, 730, 746, 734, 738, 789, 790, 794, 795, 796, 797, 798, 799, 519, 523, 524, 528, 545, 549, 553, 544, 564, 557, 561, 562, 563, 568, 569, 573, 532, 540, 632, 639, 640, 641, 642, 643, 647, 648, 649, 650, 651, 656, 671, 635, 239, 326, 338, 367, 371, 375, 390, 392, 404, 408, 419, 430, 342, 455, 466, 492, 493, 504, 515, 577, 588, 593, 595, 599, 610, 628, 652, 667, 686, 696, 764, 785, 362, 866, 889, 869, 897, 877, 881, 885, 893, 953, 949, 981, 985, 945, 977, 973, 925, 969, 993, 997, 1017, 1013, 1029, 1025, 1041, 1053, 1057, 1049, 235, 334, 386, 400, 415, 426, 437, 444, 451, 462, 488, 500, 511, 584, 606, 617, 624, 663, 675, 682, 692, 753, 760, 780, 230, 862, 858, 330, 873, 383, 901, 397, 905, 412, 909, 423, 913, 434, 917, 222, 921, 226, 929, 441, 933, 448, 937, 459, 941, 485, 957, 497, 961, 508, 965, 581, 989, 603, 1001, 614, 1005, 621, 1009, 660, 1021, 672, 1033, 679, 1037, 689, 1045, 750, 1061, 757, 1065, 777, 1069]
theorem mW_eq : MR.map mW = mPos.filterMap (fun i => lw_tbl[i]?) := by decide +kernel
theorem of_pos {l : List Jvm.Cond} {ps : List Nat} (h : l = ps.filterMap (fun i => lw_tbl[i]?)) : ∀ w ∈ l, w ∈ lw_tbl := by
  intro w hw
  rw [h] at hw
  obtain ⟨i, -, hi⟩ := List.mem_filterMap.mp hw
  exact List.mem_of_getElem? hi
theorem mW_ok : ∀ q ∈ MR, mW q ∈ lw_tbl := fun q hq => of_pos mW_eq _ (List.mem_map.mpr ⟨q, hq, rfl⟩)
/-- the one call of a nest mate's method -/
theorem mR_n : ∀ q ∈ MR, q.1 = 3 ∧ q.2.1 = 72 → q.2.2 = 167 := by decide +kernel
theorem fR_lt : ∀ q ∈ FR, q.2.2.1 < 9 ∧ q.2.2.2 < (vC q.2.2.1).2.2 := by decide +kernel
/-- a method's own word -/
def mCw (y : Nat) : Jvm.Cond := match mHh y with
  | none => .code (mNm y) (mBy y) (mLo y) (mRt y)
  | some hh => .codeWith (mNm y) (mBy y) (mLo y) (mRt y) hh
/-- what is asked of a callee -/
def cW (y : Nat) : List Jvm.Cond := match mRc y with
  | none => [.static (mNm y), .initialized (mNm y).cls]
  | some _ => [.instanceMethod (mNm y), .selects (mNm y).cls (mNm y) (mNm y), .initialized (mNm y).cls]
abbrev mcP (y : Nat) : Prop := mCw y ∈ lw_tbl
theorem mc_0 : ∀ a, a < 0+1 → mcP a := lt_s lt_0 (List.mem_of_getElem? (i := 329) (by decide +kernel))
theorem mc_1 : ∀ a, a < 1+1 → mcP a := lt_s mc_0 (List.mem_of_getElem? (i := 522) (by decide +kernel))
theorem mc_2 : ∀ a, a < 2+1 → mcP a := lt_s mc_1 (List.mem_of_getElem? (i := 365) (by decide +kernel))
theorem mc_3 : ∀ a, a < 3+1 → mcP a := lt_s mc_2 (List.mem_of_getElem? (i := 370) (by decide +kernel))
theorem mc_4 : ∀ a, a < 4+1 → mcP a := lt_s mc_3 (List.mem_of_getElem? (i := 602) (by decide +kernel))
theorem mc_5 : ∀ a, a < 5+1 → mcP a := lt_s mc_4 (List.mem_of_getElem? (i := 473) (by decide +kernel))
theorem mc_6 : ∀ a, a < 6+1 → mcP a := lt_s mc_5 (List.mem_of_getElem? (i := 374) (by decide +kernel))
theorem mc_7 : ∀ a, a < 7+1 → mcP a := lt_s mc_6 (List.mem_of_getElem? (i := 395) (by decide +kernel))
theorem mc_8 : ∀ a, a < 8+1 → mcP a := lt_s mc_7 (List.mem_of_getElem? (i := 382) (by decide +kernel))
theorem mc_9 : ∀ a, a < 9+1 → mcP a := lt_s mc_8 (List.mem_of_getElem? (i := 411) (by decide +kernel))
theorem mc_10 : ∀ a, a < 10+1 → mcP a := lt_s mc_9 (List.mem_of_getElem? (i := 422) (by decide +kernel))
theorem mc_11 : ∀ a, a < 11+1 → mcP a := lt_s mc_10 (List.mem_of_getElem? (i := 433) (by decide +kernel))
theorem mc_12 : ∀ a, a < 12+1 → mcP a := lt_s mc_11 (List.mem_of_getElem? (i := 458) (by decide +kernel))
theorem mc_13 : ∀ a, a < 13+1 → mcP a := lt_s mc_12 (List.mem_of_getElem? (i := 378) (by decide +kernel))
theorem mc_14 : ∀ a, a < 14+1 → mcP a := lt_s mc_13 (List.mem_of_getElem? (i := 469) (by decide +kernel))
theorem mc_15 : ∀ a, a < 15+1 → mcP a := lt_s mc_14 (List.mem_of_getElem? (i := 646) (by decide +kernel))
theorem mc_16 : ∀ a, a < 16+1 → mcP a := lt_s mc_15 (List.mem_of_getElem? (i := 477) (by decide +kernel))
theorem mc_17 : ∀ a, a < 17+1 → mcP a := lt_s mc_16 (List.mem_of_getElem? (i := 496) (by decide +kernel))
theorem mc_18 : ∀ a, a < 18+1 → mcP a := lt_s mc_17 (List.mem_of_getElem? (i := 507) (by decide +kernel))
theorem mc_19 : ∀ a, a < 19+1 → mcP a := lt_s mc_18 (List.mem_of_getElem? (i := 572) (by decide +kernel))
theorem mc_20 : ∀ a, a < 20+1 → mcP a := lt_s mc_19 (List.mem_of_getElem? (i := 576) (by decide +kernel))
theorem mc_21 : ∀ a, a < 21+1 → mcP a := lt_s mc_20 (List.mem_of_getElem? (i := 481) (by decide +kernel))
theorem mc_22 : ∀ a, a < 22+1 → mcP a := lt_s mc_21 (List.mem_of_getElem? (i := 484) (by decide +kernel))
theorem mc_23 : ∀ a, a < 23+1 → mcP a := lt_s mc_22 (List.mem_of_getElem? (i := 771) (by decide +kernel))
theorem mc_24 : ∀ a, a < 24+1 → mcP a := lt_s mc_23 (List.mem_of_getElem? (i := 710) (by decide +kernel))
theorem mc_25 : ∀ a, a < 25+1 → mcP a := lt_s mc_24 (List.mem_of_getElem? (i := 714) (by decide +kernel))
theorem mc_26 : ∀ a, a < 26+1 → mcP a := lt_s mc_25 (List.mem_of_getElem? (i := 737) (by decide +kernel))
theorem mc_27 : ∀ a, a < 27+1 → mcP a := lt_s mc_26 (List.mem_of_getElem? (i := 741) (by decide +kernel))
theorem mc_28 : ∀ a, a < 28+1 → mcP a := lt_s mc_27 (List.mem_of_getElem? (i := 527) (by decide +kernel))
theorem mc_29 : ∀ a, a < 29+1 → mcP a := lt_s mc_28 (List.mem_of_getElem? (i := 659) (by decide +kernel))
theorem mc_30 : ∀ a, a < 30+1 → mcP a := lt_s mc_29 (List.mem_of_getElem? (i := 539) (by decide +kernel))
theorem mc_31 : ∀ a, a < 31+1 → mcP a := lt_s mc_30 (List.mem_of_getElem? (i := 535) (by decide +kernel))
theorem mc_32 : ∀ a, a < 32+1 → mcP a := lt_s mc_31 (List.mem_of_getElem? (i := 699) (by decide +kernel))
theorem mc_33 : ∀ a, a < 33+1 → mcP a := lt_s mc_32 (List.mem_of_getElem? (i := 767) (by decide +kernel))
theorem mc_34 : ∀ a, a < 34+1 → mcP a := lt_s mc_33 (List.mem_of_getElem? (i := 703) (by decide +kernel))
theorem mc_35 : ∀ a, a < 35+1 → mcP a := lt_s mc_34 (List.mem_of_getElem? (i := 720) (by decide +kernel))
theorem mc_36 : ∀ a, a < 36+1 → mcP a := lt_s mc_35 (List.mem_of_getElem? (i := 776) (by decide +kernel))
theorem mc_37 : ∀ a, a < 37+1 → mcP a := lt_s mc_36 (List.mem_of_getElem? (i := 733) (by decide +kernel))
theorem mc_38 : ∀ a, a < 38+1 → mcP a := lt_s mc_37 (List.mem_of_getElem? (i := 749) (by decide +kernel))
theorem mc_39 : ∀ a, a < 39+1 → mcP a := lt_s mc_38 (List.mem_of_getElem? (i := 724) (by decide +kernel))
theorem mc_40 : ∀ a, a < 40+1 → mcP a := lt_s mc_39 (List.mem_of_getElem? (i := 729) (by decide +kernel))
theorem mc_41 : ∀ a, a < 41+1 → mcP a := lt_s mc_40 (List.mem_of_getElem? (i := 788) (by decide +kernel))
theorem mc_42 : ∀ a, a < 42+1 → mcP a := lt_s mc_41 (List.mem_of_getElem? (i := 793) (by decide +kernel))
theorem mc_43 : ∀ a, a < 43+1 → mcP a := lt_s mc_42 (List.mem_of_getElem? (i := 518) (by decide +kernel))
theorem mc_44 : ∀ a, a < 44+1 → mcP a := lt_s mc_43 (List.mem_of_getElem? (i := 598) (by decide +kernel))
theorem mc_45 : ∀ a, a < 45+1 → mcP a := lt_s mc_44 (List.mem_of_getElem? (i := 580) (by decide +kernel))
theorem mc_46 : ∀ a, a < 46+1 → mcP a := lt_s mc_45 (List.mem_of_getElem? (i := 613) (by decide +kernel))
theorem mc_47 : ∀ a, a < 47+1 → mcP a := lt_s mc_46 (List.mem_of_getElem? (i := 560) (by decide +kernel))
theorem mc_48 : ∀ a, a < 48+1 → mcP a := lt_s mc_47 (List.mem_of_getElem? (i := 552) (by decide +kernel))
theorem mc_49 : ∀ a, a < 49+1 → mcP a := lt_s mc_48 (List.mem_of_getElem? (i := 556) (by decide +kernel))
theorem mc_50 : ∀ a, a < 50+1 → mcP a := lt_s mc_49 (List.mem_of_getElem? (i := 567) (by decide +kernel))
theorem mc_51 : ∀ a, a < 51+1 → mcP a := lt_s mc_50 (List.mem_of_getElem? (i := 531) (by decide +kernel))
theorem mc_52 : ∀ a, a < 52+1 → mcP a := lt_s mc_51 (List.mem_of_getElem? (i := 543) (by decide +kernel))
theorem mc_53 : ∀ a, a < 53+1 → mcP a := lt_s mc_52 (List.mem_of_getElem? (i := 548) (by decide +kernel))
theorem mc_54 : ∀ a, a < 54+1 → mcP a := lt_s mc_53 (List.mem_of_getElem? (i := 631) (by decide +kernel))
theorem mc_55 : ∀ a, a < 55+1 → mcP a := lt_s mc_54 (List.mem_of_getElem? (i := 655) (by decide +kernel))
theorem mc_56 : ∀ a, a < 56+1 → mcP a := lt_s mc_55 (List.mem_of_getElem? (i := 670) (by decide +kernel))
theorem mc_57 : ∀ a, a < 57+1 → mcP a := lt_s mc_56 (List.mem_of_getElem? (i := 634) (by decide +kernel))
theorem mc_58 : ∀ a, a < 58+1 → mcP a := lt_s mc_57 (List.mem_of_getElem? (i := 238) (by decide +kernel))
theorem mc_59 : ∀ a, a < 59+1 → mcP a := lt_s mc_58 (List.mem_of_getElem? (i := 337) (by decide +kernel))
theorem mc_60 : ∀ a, a < 60+1 → mcP a := lt_s mc_59 (List.mem_of_getElem? (i := 389) (by decide +kernel))
theorem mc_61 : ∀ a, a < 61+1 → mcP a := lt_s mc_60 (List.mem_of_getElem? (i := 403) (by decide +kernel))
theorem mc_62 : ∀ a, a < 62+1 → mcP a := lt_s mc_61 (List.mem_of_getElem? (i := 418) (by decide +kernel))
theorem mc_63 : ∀ a, a < 63+1 → mcP a := lt_s mc_62 (List.mem_of_getElem? (i := 429) (by decide +kernel))
theorem mc_64 : ∀ a, a < 64+1 → mcP a := lt_s mc_63 (List.mem_of_getElem? (i := 440) (by decide +kernel))
theorem mc_65 : ∀ a, a < 65+1 → mcP a := lt_s mc_64 (List.mem_of_getElem? (i := 225) (by decide +kernel))
theorem mc_66 : ∀ a, a < 66+1 → mcP a := lt_s mc_65 (List.mem_of_getElem? (i := 229) (by decide +kernel))
theorem mc_67 : ∀ a, a < 67+1 → mcP a := lt_s mc_66 (List.mem_of_getElem? (i := 447) (by decide +kernel))
theorem mc_68 : ∀ a, a < 68+1 → mcP a := lt_s mc_67 (List.mem_of_getElem? (i := 454) (by decide +kernel))
theorem mc_69 : ∀ a, a < 69+1 → mcP a := lt_s mc_68 (List.mem_of_getElem? (i := 465) (by decide +kernel))
theorem mc_70 : ∀ a, a < 70+1 → mcP a := lt_s mc_69 (List.mem_of_getElem? (i := 491) (by decide +kernel))
theorem mc_71 : ∀ a, a < 71+1 → mcP a := lt_s mc_70 (List.mem_of_getElem? (i := 503) (by decide +kernel))
theorem mc_72 : ∀ a, a < 72+1 → mcP a := lt_s mc_71 (List.mem_of_getElem? (i := 514) (by decide +kernel))
theorem mc_73 : ∀ a, a < 73+1 → mcP a := lt_s mc_72 (List.mem_of_getElem? (i := 587) (by decide +kernel))
theorem mc_74 : ∀ a, a < 74+1 → mcP a := lt_s mc_73 (List.mem_of_getElem? (i := 609) (by decide +kernel))
theorem mc_75 : ∀ a, a < 75+1 → mcP a := lt_s mc_74 (List.mem_of_getElem? (i := 620) (by decide +kernel))
theorem mc_76 : ∀ a, a < 76+1 → mcP a := lt_s mc_75 (List.mem_of_getElem? (i := 627) (by decide +kernel))
theorem mc_77 : ∀ a, a < 77+1 → mcP a := lt_s mc_76 (List.mem_of_getElem? (i := 666) (by decide +kernel))
theorem mc_78 : ∀ a, a < 78+1 → mcP a := lt_s mc_77 (List.mem_of_getElem? (i := 678) (by decide +kernel))
theorem mc_79 : ∀ a, a < 79+1 → mcP a := lt_s mc_78 (List.mem_of_getElem? (i := 685) (by decide +kernel))
theorem mc_80 : ∀ a, a < 80+1 → mcP a := lt_s mc_79 (List.mem_of_getElem? (i := 695) (by decide +kernel))
theorem mc_81 : ∀ a, a < 81+1 → mcP a := lt_s mc_80 (List.mem_of_getElem? (i := 756) (by decide +kernel))
theorem mc_82 : ∀ a, a < 82+1 → mcP a := lt_s mc_81 (List.mem_of_getElem? (i := 763) (by decide +kernel))
theorem mc_83 : ∀ a, a < 83+1 → mcP a := lt_s mc_82 (List.mem_of_getElem? (i := 783) (by decide +kernel))
theorem mc_84 : ∀ a, a < 84+1 → mcP a := lt_s mc_83 (List.mem_of_getElem? (i := 241) (by decide +kernel))
theorem mc_85 : ∀ a, a < 85+1 → mcP a := lt_s mc_84 (List.mem_of_getElem? (i := 591) (by decide +kernel))
theorem mc_86 : ∀ a, a < 86+1 → mcP a := lt_s mc_85 (List.mem_of_getElem? (i := 345) (by decide +kernel))
theorem mc_87 : ∀ a, a < 87+1 → mcP a := lt_s mc_86 (List.mem_of_getElem? (i := 407) (by decide +kernel))
theorem mc_88 : ∀ a, a < 88+1 → mcP a := lt_s mc_87 (List.mem_of_getElem? (i := 341) (by decide +kernel))
theorem mc_89 : ∀ a, a < 89+1 → mcP a := lt_s mc_88 (List.mem_of_getElem? (i := 861) (by decide +kernel))
theorem mc_90 : ∀ a, a < 90+1 → mcP a := lt_s mc_89 (List.mem_of_getElem? (i := 868) (by decide +kernel))
theorem mc_91 : ∀ a, a < 91+1 → mcP a := lt_s mc_90 (List.mem_of_getElem? (i := 872) (by decide +kernel))
theorem mc_92 : ∀ a, a < 92+1 → mcP a := lt_s mc_91 (List.mem_of_getElem? (i := 928) (by decide +kernel))
theorem mc_93 : ∀ a, a < 93+1 → mcP a := lt_s mc_92 (List.mem_of_getElem? (i := 880) (by decide +kernel))
theorem mc_94 : ∀ a, a < 94+1 → mcP a := lt_s mc_93 (List.mem_of_getElem? (i := 996) (by decide +kernel))
theorem mc_95 : ∀ a, a < 95+1 → mcP a := lt_s mc_94 (List.mem_of_getElem? (i := 884) (by decide +kernel))
theorem mc_96 : ∀ a, a < 96+1 → mcP a := lt_s mc_95 (List.mem_of_getElem? (i := 892) (by decide +kernel))
theorem mc_97 : ∀ a, a < 97+1 → mcP a := lt_s mc_96 (List.mem_of_getElem? (i := 900) (by decide +kernel))
theorem mc_98 : ∀ a, a < 98+1 → mcP a := lt_s mc_97 (List.mem_of_getElem? (i := 865) (by decide +kernel))
theorem mc_99 : ∀ a, a < 99+1 → mcP a := lt_s mc_98 (List.mem_of_getElem? (i := 896) (by decide +kernel))
theorem mc_100 : ∀ a, a < 100+1 → mcP a := lt_s mc_99 (List.mem_of_getElem? (i := 888) (by decide +kernel))
theorem mc_101 : ∀ a, a < 101+1 → mcP a := lt_s mc_100 (List.mem_of_getElem? (i := 876) (by decide +kernel))
theorem mc_102 : ∀ a, a < 102+1 → mcP a := lt_s mc_101 (List.mem_of_getElem? (i := 904) (by decide +kernel))
theorem mc_103 : ∀ a, a < 103+1 → mcP a := lt_s mc_102 (List.mem_of_getElem? (i := 908) (by decide +kernel))
theorem mc_104 : ∀ a, a < 104+1 → mcP a := lt_s mc_103 (List.mem_of_getElem? (i := 912) (by decide +kernel))
theorem mc_105 : ∀ a, a < 105+1 → mcP a := lt_s mc_104 (List.mem_of_getElem? (i := 916) (by decide +kernel))
theorem mc_106 : ∀ a, a < 106+1 → mcP a := lt_s mc_105 (List.mem_of_getElem? (i := 920) (by decide +kernel))
theorem mc_107 : ∀ a, a < 107+1 → mcP a := lt_s mc_106 (List.mem_of_getElem? (i := 956) (by decide +kernel))
theorem mc_108 : ∀ a, a < 108+1 → mcP a := lt_s mc_107 (List.mem_of_getElem? (i := 952) (by decide +kernel))
theorem mc_109 : ∀ a, a < 109+1 → mcP a := lt_s mc_108 (List.mem_of_getElem? (i := 948) (by decide +kernel))
theorem mc_110 : ∀ a, a < 110+1 → mcP a := lt_s mc_109 (List.mem_of_getElem? (i := 988) (by decide +kernel))
theorem mc_111 : ∀ a, a < 111+1 → mcP a := lt_s mc_110 (List.mem_of_getElem? (i := 984) (by decide +kernel))
theorem mc_112 : ∀ a, a < 112+1 → mcP a := lt_s mc_111 (List.mem_of_getElem? (i := 980) (by decide +kernel))
theorem mc_113 : ∀ a, a < 113+1 → mcP a := lt_s mc_112 (List.mem_of_getElem? (i := 976) (by decide +kernel))
theorem mc_114 : ∀ a, a < 114+1 → mcP a := lt_s mc_113 (List.mem_of_getElem? (i := 972) (by decide +kernel))
theorem mc_115 : ∀ a, a < 115+1 → mcP a := lt_s mc_114 (List.mem_of_getElem? (i := 1000) (by decide +kernel))
theorem mc_116 : ∀ a, a < 116+1 → mcP a := lt_s mc_115 (List.mem_of_getElem? (i := 924) (by decide +kernel))
theorem mc_117 : ∀ a, a < 117+1 → mcP a := lt_s mc_116 (List.mem_of_getElem? (i := 932) (by decide +kernel))
theorem mc_118 : ∀ a, a < 118+1 → mcP a := lt_s mc_117 (List.mem_of_getElem? (i := 936) (by decide +kernel))
theorem mc_119 : ∀ a, a < 119+1 → mcP a := lt_s mc_118 (List.mem_of_getElem? (i := 940) (by decide +kernel))
theorem mc_120 : ∀ a, a < 120+1 → mcP a := lt_s mc_119 (List.mem_of_getElem? (i := 944) (by decide +kernel))
theorem mc_121 : ∀ a, a < 121+1 → mcP a := lt_s mc_120 (List.mem_of_getElem? (i := 960) (by decide +kernel))
theorem mc_122 : ∀ a, a < 122+1 → mcP a := lt_s mc_121 (List.mem_of_getElem? (i := 964) (by decide +kernel))
theorem mc_123 : ∀ a, a < 123+1 → mcP a := lt_s mc_122 (List.mem_of_getElem? (i := 968) (by decide +kernel))
theorem mc_124 : ∀ a, a < 124+1 → mcP a := lt_s mc_123 (List.mem_of_getElem? (i := 992) (by decide +kernel))
theorem mc_125 : ∀ a, a < 125+1 → mcP a := lt_s mc_124 (List.mem_of_getElem? (i := 1004) (by decide +kernel))
theorem mc_126 : ∀ a, a < 126+1 → mcP a := lt_s mc_125 (List.mem_of_getElem? (i := 1008) (by decide +kernel))
theorem mc_127 : ∀ a, a < 127+1 → mcP a := lt_s mc_126 (List.mem_of_getElem? (i := 1020) (by decide +kernel))
theorem mc_128 : ∀ a, a < 128+1 → mcP a := lt_s mc_127 (List.mem_of_getElem? (i := 1016) (by decide +kernel))
theorem mc_129 : ∀ a, a < 129+1 → mcP a := lt_s mc_128 (List.mem_of_getElem? (i := 1032) (by decide +kernel))
theorem mc_130 : ∀ a, a < 130+1 → mcP a := lt_s mc_129 (List.mem_of_getElem? (i := 1028) (by decide +kernel))
theorem mc_131 : ∀ a, a < 131+1 → mcP a := lt_s mc_130 (List.mem_of_getElem? (i := 1012) (by decide +kernel))
theorem mc_132 : ∀ a, a < 132+1 → mcP a := lt_s mc_131 (List.mem_of_getElem? (i := 1024) (by decide +kernel))
theorem mc_133 : ∀ a, a < 133+1 → mcP a := lt_s mc_132 (List.mem_of_getElem? (i := 1036) (by decide +kernel))
theorem mc_134 : ∀ a, a < 134+1 → mcP a := lt_s mc_133 (List.mem_of_getElem? (i := 1044) (by decide +kernel))
theorem mc_135 : ∀ a, a < 135+1 → mcP a := lt_s mc_134 (List.mem_of_getElem? (i := 1056) (by decide +kernel))
theorem mc_136 : ∀ a, a < 136+1 → mcP a := lt_s mc_135 (List.mem_of_getElem? (i := 1060) (by decide +kernel))
theorem mc_137 : ∀ a, a < 137+1 → mcP a := lt_s mc_136 (List.mem_of_getElem? (i := 1040) (by decide +kernel))
theorem mc_138 : ∀ a, a < 138+1 → mcP a := lt_s mc_137 (List.mem_of_getElem? (i := 1052) (by decide +kernel))
theorem mc_139 : ∀ a, a < 139+1 → mcP a := lt_s mc_138 (List.mem_of_getElem? (i := 1048) (by decide +kernel))
theorem mc_140 : ∀ a, a < 140+1 → mcP a := lt_s mc_139 (List.mem_of_getElem? (i := 1064) (by decide +kernel))
theorem mc_141 : ∀ a, a < 141+1 → mcP a := lt_s mc_140 (List.mem_of_getElem? (i := 1068) (by decide +kernel))
theorem mc_142 : ∀ a, a < 142+1 → mcP a := lt_s mc_141 (List.mem_of_getElem? (i := 1072) (by decide +kernel))
theorem mc_143 : ∀ a, a < 143+1 → mcP a := lt_s mc_142 (List.mem_of_getElem? (i := 232) (by decide +kernel))
theorem mc_144 : ∀ a, a < 144+1 → mcP a := lt_s mc_143 (List.mem_of_getElem? (i := 332) (by decide +kernel))
theorem mc_145 : ∀ a, a < 145+1 → mcP a := lt_s mc_144 (List.mem_of_getElem? (i := 385) (by decide +kernel))
theorem mc_146 : ∀ a, a < 146+1 → mcP a := lt_s mc_145 (List.mem_of_getElem? (i := 399) (by decide +kernel))
theorem mc_147 : ∀ a, a < 147+1 → mcP a := lt_s mc_146 (List.mem_of_getElem? (i := 414) (by decide +kernel))
theorem mc_148 : ∀ a, a < 148+1 → mcP a := lt_s mc_147 (List.mem_of_getElem? (i := 425) (by decide +kernel))
theorem mc_149 : ∀ a, a < 149+1 → mcP a := lt_s mc_148 (List.mem_of_getElem? (i := 436) (by decide +kernel))
theorem mc_150 : ∀ a, a < 150+1 → mcP a := lt_s mc_149 (List.mem_of_getElem? (i := 443) (by decide +kernel))
theorem mc_151 : ∀ a, a < 151+1 → mcP a := lt_s mc_150 (List.mem_of_getElem? (i := 450) (by decide +kernel))
theorem mc_152 : ∀ a, a < 152+1 → mcP a := lt_s mc_151 (List.mem_of_getElem? (i := 461) (by decide +kernel))
theorem mc_153 : ∀ a, a < 153+1 → mcP a := lt_s mc_152 (List.mem_of_getElem? (i := 487) (by decide +kernel))
theorem mc_154 : ∀ a, a < 154+1 → mcP a := lt_s mc_153 (List.mem_of_getElem? (i := 499) (by decide +kernel))
theorem mc_155 : ∀ a, a < 155+1 → mcP a := lt_s mc_154 (List.mem_of_getElem? (i := 510) (by decide +kernel))
theorem mc_156 : ∀ a, a < 156+1 → mcP a := lt_s mc_155 (List.mem_of_getElem? (i := 583) (by decide +kernel))
theorem mc_157 : ∀ a, a < 157+1 → mcP a := lt_s mc_156 (List.mem_of_getElem? (i := 605) (by decide +kernel))
theorem mc_158 : ∀ a, a < 158+1 → mcP a := lt_s mc_157 (List.mem_of_getElem? (i := 616) (by decide +kernel))
theorem mc_159 : ∀ a, a < 159+1 → mcP a := lt_s mc_158 (List.mem_of_getElem? (i := 623) (by decide +kernel))
theorem mc_160 : ∀ a, a < 160+1 → mcP a := lt_s mc_159 (List.mem_of_getElem? (i := 662) (by decide +kernel))
theorem mc_161 : ∀ a, a < 161+1 → mcP a := lt_s mc_160 (List.mem_of_getElem? (i := 674) (by decide +kernel))
theorem mc_162 : ∀ a, a < 162+1 → mcP a := lt_s mc_161 (List.mem_of_getElem? (i := 681) (by decide +kernel))
theorem mc_163 : ∀ a, a < 163+1 → mcP a := lt_s mc_162 (List.mem_of_getElem? (i := 691) (by decide +kernel))
theorem mc_164 : ∀ a, a < 164+1 → mcP a := lt_s mc_163 (List.mem_of_getElem? (i := 752) (by decide +kernel))
theorem mc_165 : ∀ a, a < 165+1 → mcP a := lt_s mc_164 (List.mem_of_getElem? (i := 759) (by decide +kernel))
theorem mc_166 : ∀ a, a < 166+1 → mcP a := lt_s mc_165 (List.mem_of_getElem? (i := 779) (by decide +kernel))
theorem mc_167 : ∀ a, a < 167+1 → mcP a := lt_s mc_166 (List.mem_of_getElem? (i := 688) (by decide +kernel))
theorem mCw_ok : ∀ y, y < 168 → mCw y ∈ lw_tbl := mc_167
def kPos : List Nat := [327, 328, 55, 520, 521, 55, 363, 364, 55, 368, 369, 55, 600, 601, 55, 471, 472, 55, 372, 373, 55, 393, 394, 55, 380, 381, 55, 409, 410, 55, 420, 421, 55, 431, 432, 55, 456, 457, 55, 376, 377, 55, 467, 468, 55, 644, 645, 55, 475, 476, 55, 494, 495, 55, 505, 506, 55, 570, 571, 55, 574, 575, 55, 480, 4, 55, 483, 55, 769, 770, 53, 708, 709, 53, 713, 13, 53, 735, 736, 53, 739, 740, 53, 525, 526, 50, 657, 658, 50, 537, 538, 50, 533, 534, 50, 697, 698, 52, 765, 766, 52, 702, 12, 52, 719, 14, 52, 775, 19, 52, 732, 17, 52, 748, 18, 52, 723, 15, 52, 728, 16, 52, 786, 787, 54, 792, 20, 54, 516, 517, 49, 596, 597, 49, 578, 579, 49, 611, 612, 49, 558, 559, 49, 551, 8, 49, 555, 9, 49, 566, 10, 49, 530, 5, 49, 542, 6, 49, 547, 7, 49, 629, 630, 51, 653, 654, 51, 668, 669, 51, 633, 51, 236, 237, 48, 335, 336, 48, 387, 388, 48, 401, 402, 48, 416, 417, 48, 427, 428, 48, 438, 439, 48, 223, 224, 48, 227, 228, 48, 445, 446, 48, 452, 453, 48, 463, 464, 48, 489, 490, 48, 501, 502, 48, 512, 513, 48, 585, 586, 48, 607, 608, 48, 618, 619, 48, 625, 626, 48, 664, 665, 48, 676, 677, 48, 683, 684, 48, 693, 694, 48, 754, 755, 48, 761, 762, 48, 781, 782, 48, 240, 48, 590, 11, 48, 344, 2, 48, 406, 3, 48, 340, 1, 48, 859, 860, 56, 867, 56, 871, 21, 56, 927, 28, 56, 879, 22, 56, 995, 37, 56, 883, 23, 56, 891, 25, 56, 899, 27, 56, 863, 864, 56, 895, 26, 56, 887, 24, 56, 874, 875, 56, 902, 903, 56, 906, 907, 56, 910, 911, 56, 914, 915, 56, 918, 919, 56, 955, 31, 56, 951, 30, 56, 947, 29, 56, 987, 36, 56, 983, 35, 56, 979, 34, 56, 975, 33, 56, 971, 32, 56, 999, 38, 56, 922, 923, 56, 930, 931, 56, 934, 935, 56, 938, 939, 56, 942, 943, 56, 958, 959, 56, 962, 963, 56, 966, 967, 56, 990, 991, 56, 1002, 1003, 56, 1006, 1007, 56, 1019, 40, 56, 1015, 39, 56, 1031, 42, 56, 1027, 41, 56, 1010, 1011, 56, 1022, 1023, 56, 1034, 1035, 56, 1043, 43, 56, 1055, 45, 56, 1059, 46, 56, 1038, 1039, 56, 1051, 44, 56, 1046, 1047, 56, 1062, 1063, 56, 1066, 1067, 56, 1070, 1071, 56, 231, 47, 331, 47, 384, 47, 398, 47, 413, 47, 424, 47, 435, 47, 442, 47, 449, 47, 460, 47, 486, 47, 498, 47, 509, 47, 582, 47, 604, 47, 615, 47, 622, 47, 661, 47, 673, 47, 680, 47, 690, 47, 751, 47, 758, 47, 778, 47, 687, 48]
theorem cW_eq : (List.range 168).flatMap cW = kPos.filterMap (fun i => lw_tbl[i]?) := by decide +kernel
theorem cW_ok : ∀ y, y < 168 → ∀ w ∈ cW y, w ∈ lw_tbl := fun y hy w hw => of_pos cW_eq _ (List.mem_flatMap.mpr ⟨y, List.mem_range.mpr hy, hw⟩)
