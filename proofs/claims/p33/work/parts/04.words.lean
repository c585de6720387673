set_option maxRecDepth 20000 in
theorem zc_t1 {w : Cond} (h : w ∈ tables_1_1) : w ∈ lw_tbl := List.mem_append_right _ (show w ∈ tables_1 from List.mem_append_left _ (h))
set_option maxRecDepth 20000 in
theorem zc_g1 {w : Cond} (i : Nat) (h : tables_1_1[i]? = some w) (hg : goodWord w = true) : w ∈ lw_good := List.mem_filter.mpr ⟨zc_t1 (List.mem_of_getElem? h), hg⟩
set_option maxRecDepth 20000 in
theorem zc_n1 {w : Cond} (i : Nat) (h : tables_1_1[i]? = some w) (hg : zc_isN w = true) : w ∈ lw_nest := List.mem_filter.mpr ⟨zc_t1 (List.mem_of_getElem? h), hg⟩
set_option maxRecDepth 20000 in
theorem zc_t2 {w : Cond} (h : w ∈ tables_1_2) : w ∈ lw_tbl := List.mem_append_right _ (show w ∈ tables_1 from List.mem_append_right _ (List.mem_append_left _ (h)))
set_option maxRecDepth 20000 in
theorem zc_g2 {w : Cond} (i : Nat) (h : tables_1_2[i]? = some w) (hg : goodWord w = true) : w ∈ lw_good := List.mem_filter.mpr ⟨zc_t2 (List.mem_of_getElem? h), hg⟩
set_option maxRecDepth 20000 in
theorem zc_n2 {w : Cond} (i : Nat) (h : tables_1_2[i]? = some w) (hg : zc_isN w = true) : w ∈ lw_nest := List.mem_filter.mpr ⟨zc_t2 (List.mem_of_getElem? h), hg⟩
set_option maxRecDepth 20000 in
theorem zc_t3 {w : Cond} (h : w ∈ tables_1_3) : w ∈ lw_tbl := List.mem_append_right _ (show w ∈ tables_1 from List.mem_append_right _ (List.mem_append_right _ (List.mem_append_left _ (h))))
set_option maxRecDepth 20000 in
theorem zc_g3 {w : Cond} (i : Nat) (h : tables_1_3[i]? = some w) (hg : goodWord w = true) : w ∈ lw_good := List.mem_filter.mpr ⟨zc_t3 (List.mem_of_getElem? h), hg⟩
set_option maxRecDepth 20000 in
theorem zc_n3 {w : Cond} (i : Nat) (h : tables_1_3[i]? = some w) (hg : zc_isN w = true) : w ∈ lw_nest := List.mem_filter.mpr ⟨zc_t3 (List.mem_of_getElem? h), hg⟩
set_option maxRecDepth 20000 in
theorem zc_t4 {w : Cond} (h : w ∈ tables_1_4) : w ∈ lw_tbl := List.mem_append_right _ (show w ∈ tables_1 from List.mem_append_right _ (List.mem_append_right _ (List.mem_append_right _ (List.mem_append_left _ (h)))))
set_option maxRecDepth 20000 in
theorem zc_g4 {w : Cond} (i : Nat) (h : tables_1_4[i]? = some w) (hg : goodWord w = true) : w ∈ lw_good := List.mem_filter.mpr ⟨zc_t4 (List.mem_of_getElem? h), hg⟩
set_option maxRecDepth 20000 in
theorem zc_n4 {w : Cond} (i : Nat) (h : tables_1_4[i]? = some w) (hg : zc_isN w = true) : w ∈ lw_nest := List.mem_filter.mpr ⟨zc_t4 (List.mem_of_getElem? h), hg⟩
set_option maxRecDepth 20000 in
theorem zc_t5 {w : Cond} (h : w ∈ tables_1_5) : w ∈ lw_tbl := List.mem_append_right _ (show w ∈ tables_1 from List.mem_append_right _ (List.mem_append_right _ (List.mem_append_right _ (List.mem_append_right _ (List.mem_append_left _ (h))))))
set_option maxRecDepth 20000 in
theorem zc_g5 {w : Cond} (i : Nat) (h : tables_1_5[i]? = some w) (hg : goodWord w = true) : w ∈ lw_good := List.mem_filter.mpr ⟨zc_t5 (List.mem_of_getElem? h), hg⟩
set_option maxRecDepth 20000 in
theorem zc_n5 {w : Cond} (i : Nat) (h : tables_1_5[i]? = some w) (hg : zc_isN w = true) : w ∈ lw_nest := List.mem_filter.mpr ⟨zc_t5 (List.mem_of_getElem? h), hg⟩
set_option maxRecDepth 20000 in
theorem zc_t6 {w : Cond} (h : w ∈ tables_1_6) : w ∈ lw_tbl := List.mem_append_right _ (show w ∈ tables_1 from List.mem_append_right _ (List.mem_append_right _ (List.mem_append_right _ (List.mem_append_right _ (List.mem_append_right _ (h))))))
set_option maxRecDepth 20000 in
theorem zc_g6 {w : Cond} (i : Nat) (h : tables_1_6[i]? = some w) (hg : goodWord w = true) : w ∈ lw_good := List.mem_filter.mpr ⟨zc_t6 (List.mem_of_getElem? h), hg⟩
set_option maxRecDepth 20000 in
theorem zc_n6 {w : Cond} (i : Nat) (h : tables_1_6[i]? = some w) (hg : zc_isN w = true) : w ∈ lw_nest := List.mem_filter.mpr ⟨zc_t6 (List.mem_of_getElem? h), hg⟩
set_option maxRecDepth 20000 in
theorem zc_gs {w : Cond} (i : Nat) (h : (k2_sels lw_privs)[i]? = some w) (hg : goodWord w = true) : w ∈ lw_good := List.mem_filter.mpr ⟨List.mem_append_left _ (List.mem_of_getElem? h), hg⟩
set_option maxRecDepth 20000 in
theorem pnX0 : plainName RX0 = true := by decide +kernel
set_option maxRecDepth 20000 in
theorem pnX1 : plainName RX1 = true := by decide +kernel
set_option maxRecDepth 20000 in
theorem pnX2 : plainName RX2 = true := by decide +kernel
set_option maxRecDepth 20000 in
theorem pnX3 : plainName RX3 = true := by decide +kernel
set_option maxRecDepth 20000 in
theorem pnX4 : plainName RX4 = true := by decide +kernel
set_option maxRecDepth 20000 in
theorem pnX5 : plainName RX5 = true := by decide +kernel
set_option maxRecDepth 20000 in
theorem pnX6 : plainName RX6 = true := by decide +kernel
set_option maxRecDepth 20000 in
theorem pnX7 : plainName RX7 = true := by decide +kernel
set_option maxRecDepth 20000 in
theorem pnX8 : plainName RX8 = true := by decide +kernel
set_option maxRecDepth 20000 in
theorem pnX9 : plainName RX9 = true := by decide +kernel
set_option maxRecDepth 20000 in
theorem pnJ0 : plainName RJ0 = true := by decide +kernel
set_option maxRecDepth 20000 in
theorem pnJ1 : plainName RJ1 = true := by decide +kernel
set_option maxRecDepth 20000 in
theorem pnJ2 : plainName RJ2 = true := by decide +kernel
set_option maxRecDepth 20000 in
theorem pnJ7 : plainName RJ7 = true := by decide +kernel
set_option maxRecDepth 20000 in
theorem pnJ3 : plainName RJ3 = true := by decide +kernel
set_option maxRecDepth 20000 in
theorem pnL : plainName RL = true := by decide +kernel
set_option maxRecDepth 20000 in
theorem pfX0_init : plainFor yX0_init = true := plainFor_of_name pnX0
set_option maxRecDepth 20000 in
theorem pfX0_run : plainFor yX0_run = true := plainFor_of_name pnX0
set_option maxRecDepth 20000 in
theorem pfX0_restart : plainFor yX0_restart = true := plainFor_of_name pnX0
set_option maxRecDepth 20000 in
theorem pfX0_follow : plainFor yX0_follow = true := plainFor_of_name pnX0
set_option maxRecDepth 20000 in
theorem pfX0_take : plainFor yX0_take = true := plainFor_of_name pnX0
set_option maxRecDepth 20000 in
theorem pfX0_score : plainFor yX0_score = true := plainFor_of_name pnX0
set_option maxRecDepth 20000 in
theorem pfX0_stepTold : plainFor yX0_stepTold = true := plainFor_of_name pnX0
set_option maxRecDepth 20000 in
theorem pfX0_bestPoint : plainFor yX0_bestPoint = true := plainFor_of_name pnX0
set_option maxRecDepth 20000 in
theorem pfX1_init : plainFor yX1_init = true := plainFor_of_name pnX1
set_option maxRecDepth 20000 in
theorem pfX1_add : plainFor yX1_add = true := plainFor_of_name pnX1
set_option maxRecDepth 20000 in
theorem pfX1_copy : plainFor yX1_copy = true := plainFor_of_name pnX1
set_option maxRecDepth 20000 in
theorem pfX2_init : plainFor yX2_init = true := plainFor_of_name pnX2
set_option maxRecDepth 20000 in
theorem pfX2_add : plainFor yX2_add = true := plainFor_of_name pnX2
set_option maxRecDepth 20000 in
theorem pfX3_init : plainFor yX3_init = true := plainFor_of_name pnX3
set_option maxRecDepth 20000 in
theorem pfX3_run : plainFor yX3_run = true := plainFor_of_name pnX3
set_option maxRecDepth 20000 in
theorem pfX3_playPlain : plainFor yX3_playPlain = true := plainFor_of_name pnX3
set_option maxRecDepth 20000 in
theorem pfX3_join : plainFor yX3_join = true := plainFor_of_name pnX3
set_option maxRecDepth 20000 in
theorem pfX3_weightOf : plainFor yX3_weightOf = true := plainFor_of_name pnX3
set_option maxRecDepth 20000 in
theorem pfX3_toldBy : plainFor yX3_toldBy = true := plainFor_of_name pnX3
set_option maxRecDepth 20000 in
theorem pfX3_compare : plainFor yX3_compare = true := plainFor_of_name pnX3
set_option maxRecDepth 20000 in
theorem pfX3_missOf : plainFor yX3_missOf = true := plainFor_of_name pnX3
set_option maxRecDepth 20000 in
theorem pfX3_worstDay : plainFor yX3_worstDay = true := plainFor_of_name pnX3
set_option maxRecDepth 20000 in
theorem pfX3_sortMiss : plainFor yX3_sortMiss = true := plainFor_of_name pnX3
set_option maxRecDepth 20000 in
theorem pfX3_sortIn : plainFor yX3_sortIn = true := plainFor_of_name pnX3
set_option maxRecDepth 20000 in
theorem pfX3_leastOver : plainFor yX3_leastOver = true := plainFor_of_name pnX3
set_option maxRecDepth 20000 in
theorem pfX3_spanOf : plainFor yX3_spanOf = true := plainFor_of_name pnX3
set_option maxRecDepth 20000 in
theorem pfX3_leastCostly : plainFor yX3_leastCostly = true := plainFor_of_name pnX3
set_option maxRecDepth 20000 in
theorem pfX3_costOf : plainFor yX3_costOf = true := plainFor_of_name pnX3
set_option maxRecDepth 20000 in
theorem pfX3_gather : plainFor yX3_gather = true := plainFor_of_name pnX3
set_option maxRecDepth 20000 in
theorem pfX3_waysFrom : plainFor yX3_waysFrom = true := plainFor_of_name pnX3
set_option maxRecDepth 20000 in
theorem pfX4_init : plainFor yX4_init = true := plainFor_of_name pnX4
set_option maxRecDepth 20000 in
theorem pfX4_valueOn : plainFor yX4_valueOn = true := plainFor_of_name pnX4
set_option maxRecDepth 20000 in
theorem pfX4_tell : plainFor yX4_tell = true := plainFor_of_name pnX4
set_option maxRecDepth 20000 in
theorem pfX4_isFeast : plainFor yX4_isFeast = true := plainFor_of_name pnX4
set_option maxRecDepth 20000 in
theorem pfX4_gaps : plainFor yX4_gaps = true := plainFor_of_name pnX4
set_option maxRecDepth 20000 in
theorem pfX4_changeOf : plainFor yX4_changeOf = true := plainFor_of_name pnX4
set_option maxRecDepth 20000 in
theorem pfX5_init : plainFor yX5_init = true := plainFor_of_name pnX5
set_option maxRecDepth 20000 in
theorem pfX5_renew : plainFor yX5_renew = true := plainFor_of_name pnX5
set_option maxRecDepth 20000 in
theorem pfX5_faultAt : plainFor yX5_faultAt = true := plainFor_of_name pnX5
set_option maxRecDepth 20000 in
theorem pfX5_put : plainFor yX5_put = true := plainFor_of_name pnX5
set_option maxRecDepth 20000 in
theorem pfX5_cell : plainFor yX5_cell = true := plainFor_of_name pnX5
set_option maxRecDepth 20000 in
theorem pfX6_init : plainFor yX6_init = true := plainFor_of_name pnX6
set_option maxRecDepth 20000 in
theorem pfX6_push : plainFor yX6_push = true := plainFor_of_name pnX6
set_option maxRecDepth 20000 in
theorem pfX6_readAll : plainFor yX6_readAll = true := plainFor_of_name pnX6
set_option maxRecDepth 20000 in
theorem pfX6_readLine : plainFor yX6_readLine = true := plainFor_of_name pnX6
set_option maxRecDepth 20000 in
theorem pfX6_readNumber : plainFor yX6_readNumber = true := plainFor_of_name pnX6
set_option maxRecDepth 20000 in
theorem pfX6_expect : plainFor yX6_expect = true := plainFor_of_name pnX6
set_option maxRecDepth 20000 in
theorem pfX6_advance : plainFor yX6_advance = true := plainFor_of_name pnX6
set_option maxRecDepth 20000 in
theorem pfX6_isLetter : plainFor yX6_isLetter = true := plainFor_of_name pnX6
set_option maxRecDepth 20000 in
theorem pfX6_isDigit : plainFor yX6_isDigit = true := plainFor_of_name pnX6
set_option maxRecDepth 20000 in
theorem pfX6_kindOfName : plainFor yX6_kindOfName = true := plainFor_of_name pnX6
set_option maxRecDepth 20000 in
theorem pfX6_isName : plainFor yX6_isName = true := plainFor_of_name pnX6
set_option maxRecDepth 20000 in
theorem pfX7_init : plainFor yX7_init = true := plainFor_of_name pnX7
set_option maxRecDepth 20000 in
theorem pfX7_open : plainFor yX7_open = true := plainFor_of_name pnX7
set_option maxRecDepth 20000 in
theorem pfX7_foretell : plainFor yX7_foretell = true := plainFor_of_name pnX7
set_option maxRecDepth 20000 in
theorem pfX7_bySame : plainFor yX7_bySame = true := plainFor_of_name pnX7
set_option maxRecDepth 20000 in
theorem pfX7_byMean : plainFor yX7_byMean = true := plainFor_of_name pnX7
set_option maxRecDepth 20000 in
theorem pfX7_byStep : plainFor yX7_byStep = true := plainFor_of_name pnX7
set_option maxRecDepth 20000 in
theorem pfX7_byLike : plainFor yX7_byLike = true := plainFor_of_name pnX7
set_option maxRecDepth 20000 in
theorem pfX7_levelAfter : plainFor yX7_levelAfter = true := plainFor_of_name pnX7
set_option maxRecDepth 20000 in
theorem pfX7_slopeAfter : plainFor yX7_slopeAfter = true := plainFor_of_name pnX7
set_option maxRecDepth 20000 in
theorem pfX7_toldByStep : plainFor yX7_toldByStep = true := plainFor_of_name pnX7
set_option maxRecDepth 20000 in
theorem pfX8_init : plainFor yX8_init = true := plainFor_of_name pnX8
set_option maxRecDepth 20000 in
theorem pfX8_now : plainFor yX8_now = true := plainFor_of_name pnX8
set_option maxRecDepth 20000 in
theorem pfX8_figure : plainFor yX8_figure = true := plainFor_of_name pnX8
set_option maxRecDepth 20000 in
theorem pfX8_known : plainFor yX8_known = true := plainFor_of_name pnX8
set_option maxRecDepth 20000 in
theorem pfX8_mark : plainFor yX8_mark = true := plainFor_of_name pnX8
set_option maxRecDepth 20000 in
theorem pfX8_feed : plainFor yX8_feed = true := plainFor_of_name pnX8
set_option maxRecDepth 20000 in
theorem pfX8_end : plainFor yX8_end = true := plainFor_of_name pnX8
set_option maxRecDepth 20000 in
theorem pfX8_text : plainFor yX8_text = true := plainFor_of_name pnX8
set_option maxRecDepth 20000 in
theorem pfX8_fault : plainFor yX8_fault = true := plainFor_of_name pnX8
set_option maxRecDepth 20000 in
theorem pfX8_teller : plainFor yX8_teller = true := plainFor_of_name pnX8
set_option maxRecDepth 20000 in
theorem pfX8_tells : plainFor yX8_tells = true := plainFor_of_name pnX8
set_option maxRecDepth 20000 in
theorem pfX8_weight : plainFor yX8_weight = true := plainFor_of_name pnX8
set_option maxRecDepth 20000 in
theorem pfX8_miss : plainFor yX8_miss = true := plainFor_of_name pnX8
set_option maxRecDepth 20000 in
theorem pfX8_misses : plainFor yX8_misses = true := plainFor_of_name pnX8
set_option maxRecDepth 20000 in
theorem pfX8_best : plainFor yX8_best = true := plainFor_of_name pnX8
set_option maxRecDepth 20000 in
theorem pfX8_fit : plainFor yX8_fit = true := plainFor_of_name pnX8
set_option maxRecDepth 20000 in
theorem pfX8_span : plainFor yX8_span = true := plainFor_of_name pnX8
set_option maxRecDepth 20000 in
theorem pfX8_hold : plainFor yX8_hold = true := plainFor_of_name pnX8
set_option maxRecDepth 20000 in
theorem pfX8_going : plainFor yX8_going = true := plainFor_of_name pnX8
set_option maxRecDepth 20000 in
theorem pfX8_agree : plainFor yX8_agree = true := plainFor_of_name pnX8
set_option maxRecDepth 20000 in
theorem pfX8_number : plainFor yX8_number = true := plainFor_of_name pnX8
set_option maxRecDepth 20000 in
theorem pfX8_worth : plainFor yX8_worth = true := plainFor_of_name pnX8
set_option maxRecDepth 20000 in
theorem pfX8_dealt : plainFor yX8_dealt = true := plainFor_of_name pnX8
set_option maxRecDepth 20000 in
theorem pfX8_change : plainFor yX8_change = true := plainFor_of_name pnX8
set_option maxRecDepth 20000 in
theorem pfX8_note : plainFor yX8_note = true := plainFor_of_name pnX8
set_option maxRecDepth 20000 in
theorem pfX8_noteOf : plainFor yX8_noteOf = true := plainFor_of_name pnX8
set_option maxRecDepth 20000 in
theorem pfX8_acted : plainFor yX8_acted = true := plainFor_of_name pnX8
set_option maxRecDepth 20000 in
theorem pfX8_notes : plainFor yX8_notes = true := plainFor_of_name pnX8
set_option maxRecDepth 20000 in
theorem pfX8_sheet : plainFor yX8_sheet = true := plainFor_of_name pnX8
set_option maxRecDepth 20000 in
theorem pfX8_lay : plainFor yX8_lay = true := plainFor_of_name pnX8
set_option maxRecDepth 20000 in
theorem pfX8_read : plainFor yX8_read = true := plainFor_of_name pnX8
set_option maxRecDepth 20000 in
theorem pfX8_torn : plainFor yX8_torn = true := plainFor_of_name pnX8
set_option maxRecDepth 20000 in
theorem pfX8_count : plainFor yX8_count = true := plainFor_of_name pnX8
set_option maxRecDepth 20000 in
theorem pfX8_isShop : plainFor yX8_isShop = true := plainFor_of_name pnX8
set_option maxRecDepth 20000 in
theorem pfX8_isDay : plainFor yX8_isDay = true := plainFor_of_name pnX8
set_option maxRecDepth 20000 in
theorem pfX8_areDays : plainFor yX8_areDays = true := plainFor_of_name pnX8
set_option maxRecDepth 20000 in
theorem pfX8_isAhead : plainFor yX8_isAhead = true := plainFor_of_name pnX8
set_option maxRecDepth 20000 in
theorem pfX8_isPercent : plainFor yX8_isPercent = true := plainFor_of_name pnX8
set_option maxRecDepth 20000 in
theorem pfX8_isCost : plainFor yX8_isCost = true := plainFor_of_name pnX8
set_option maxRecDepth 20000 in
theorem pfX8_isSheet : plainFor yX8_isSheet = true := plainFor_of_name pnX8
set_option maxRecDepth 20000 in
theorem pfX8_isLane : plainFor yX8_isLane = true := plainFor_of_name pnX8
set_option maxRecDepth 20000 in
theorem pfX8_isTeller : plainFor yX8_isTeller = true := plainFor_of_name pnX8
set_option maxRecDepth 20000 in
theorem pfX8_isAsked : plainFor yX8_isAsked = true := plainFor_of_name pnX8
set_option maxRecDepth 20000 in
theorem pfX8_isJoinedTo : plainFor yX8_isJoinedTo = true := plainFor_of_name pnX8
set_option maxRecDepth 20000 in
theorem pfX8_numberAt : plainFor yX8_numberAt = true := plainFor_of_name pnX8
set_option maxRecDepth 20000 in
theorem pfX8_weightAt : plainFor yX8_weightAt = true := plainFor_of_name pnX8
set_option maxRecDepth 20000 in
theorem pfX8_shareOf : plainFor yX8_shareOf = true := plainFor_of_name pnX8
set_option maxRecDepth 20000 in
theorem pfX8_figureOfNote : plainFor yX8_figureOfNote = true := plainFor_of_name pnX8
set_option maxRecDepth 20000 in
theorem pfX8_heldOfNote : plainFor yX8_heldOfNote = true := plainFor_of_name pnX8
set_option maxRecDepth 20000 in
theorem pfX8_isKnownSo : plainFor yX8_isKnownSo = true := plainFor_of_name pnX8
set_option maxRecDepth 20000 in
theorem pfX8_tellFromSheet : plainFor yX8_tellFromSheet = true := plainFor_of_name pnX8
set_option maxRecDepth 20000 in
theorem pfX8_marked : plainFor yX8_marked = true := plainFor_of_name pnX8
set_option maxRecDepth 20000 in
theorem pfX9_init : plainFor yX9_init = true := plainFor_of_name pnX9
set_option maxRecDepth 20000 in
theorem pfX9_in : plainFor yX9_in = true := plainFor_of_name pnX9
set_option maxRecDepth 20000 in
theorem pfX9_isShop : plainFor yX9_isShop = true := plainFor_of_name pnX9
set_option maxRecDepth 20000 in
theorem pfX9_isDay : plainFor yX9_isDay = true := plainFor_of_name pnX9
set_option maxRecDepth 20000 in
theorem pfX9_knownOn : plainFor yX9_knownOn = true := plainFor_of_name pnX9
set_option maxRecDepth 20000 in
theorem pfX9_now : plainFor yX9_now = true := plainFor_of_name pnX9
set_option maxRecDepth 20000 in
theorem pfX9_tellFigure : plainFor yX9_tellFigure = true := plainFor_of_name pnX9
set_option maxRecDepth 20000 in
theorem pfX9_orNone : plainFor yX9_orNone = true := plainFor_of_name pnX9
set_option maxRecDepth 20000 in
theorem pfX9_figure : plainFor yX9_figure = true := plainFor_of_name pnX9
set_option maxRecDepth 20000 in
theorem pfX9_known : plainFor yX9_known = true := plainFor_of_name pnX9
set_option maxRecDepth 20000 in
theorem pfX9_mark : plainFor yX9_mark = true := plainFor_of_name pnX9
set_option maxRecDepth 20000 in
theorem pfX9_feed : plainFor yX9_feed = true := plainFor_of_name pnX9
set_option maxRecDepth 20000 in
theorem pfX9_end : plainFor yX9_end = true := plainFor_of_name pnX9
set_option maxRecDepth 20000 in
theorem pfX9_byteAt : plainFor yX9_byteAt = true := plainFor_of_name pnX9
set_option maxRecDepth 20000 in
theorem pfX9_fails : plainFor yX9_fails = true := plainFor_of_name pnX9
set_option maxRecDepth 20000 in
theorem pfX9_next : plainFor yX9_next = true := plainFor_of_name pnX9
set_option maxRecDepth 20000 in
theorem pfX9_nameHere : plainFor yX9_nameHere = true := plainFor_of_name pnX9
set_option maxRecDepth 20000 in
theorem pfX9_number : plainFor yX9_number = true := plainFor_of_name pnX9
set_option maxRecDepth 20000 in
theorem pfX9_readLine : plainFor yX9_readLine = true := plainFor_of_name pnX9
set_option maxRecDepth 20000 in
theorem pfX9_text : plainFor yX9_text = true := plainFor_of_name pnX9
set_option maxRecDepth 20000 in
theorem pfX9_fault : plainFor yX9_fault = true := plainFor_of_name pnX9
set_option maxRecDepth 20000 in
theorem pfX9_isTeller : plainFor yX9_isTeller = true := plainFor_of_name pnX9
set_option maxRecDepth 20000 in
theorem pfX9_teller : plainFor yX9_teller = true := plainFor_of_name pnX9
set_option maxRecDepth 20000 in
theorem pfX9_down : plainFor yX9_down = true := plainFor_of_name pnX9
set_option maxRecDepth 20000 in
theorem pfX9_tellSame : plainFor yX9_tellSame = true := plainFor_of_name pnX9
set_option maxRecDepth 20000 in
theorem pfX9_tellMean : plainFor yX9_tellMean = true := plainFor_of_name pnX9
set_option maxRecDepth 20000 in
theorem pfX9_tellStep : plainFor yX9_tellStep = true := plainFor_of_name pnX9
set_option maxRecDepth 20000 in
theorem pfX9_isFeast : plainFor yX9_isFeast = true := plainFor_of_name pnX9
set_option maxRecDepth 20000 in
theorem pfX9_tellLike : plainFor yX9_tellLike = true := plainFor_of_name pnX9
set_option maxRecDepth 20000 in
theorem pfX9_tellPlain : plainFor yX9_tellPlain = true := plainFor_of_name pnX9
set_option maxRecDepth 20000 in
theorem pfX9_weightOf : plainFor yX9_weightOf = true := plainFor_of_name pnX9
set_option maxRecDepth 20000 in
theorem pfX9_tellJoined : plainFor yX9_tellJoined = true := plainFor_of_name pnX9
set_option maxRecDepth 20000 in
theorem pfX9_tellBy : plainFor yX9_tellBy = true := plainFor_of_name pnX9
set_option maxRecDepth 20000 in
theorem pfX9_isAhead : plainFor yX9_isAhead = true := plainFor_of_name pnX9
set_option maxRecDepth 20000 in
theorem pfX9_tells : plainFor yX9_tells = true := plainFor_of_name pnX9
set_option maxRecDepth 20000 in
theorem pfX9_weight : plainFor yX9_weight = true := plainFor_of_name pnX9
set_option maxRecDepth 20000 in
theorem pfX9_size : plainFor yX9_size = true := plainFor_of_name pnX9
set_option maxRecDepth 20000 in
theorem pfX9_layDay : plainFor yX9_layDay = true := plainFor_of_name pnX9
set_option maxRecDepth 20000 in
theorem pfX9_layMisses : plainFor yX9_layMisses = true := plainFor_of_name pnX9
set_option maxRecDepth 20000 in
theorem pfX9_areDays : plainFor yX9_areDays = true := plainFor_of_name pnX9
set_option maxRecDepth 20000 in
theorem pfX9_isAsked : plainFor yX9_isAsked = true := plainFor_of_name pnX9
set_option maxRecDepth 20000 in
theorem pfX9_miss : plainFor yX9_miss = true := plainFor_of_name pnX9
set_option maxRecDepth 20000 in
theorem pfX9_manyIn : plainFor yX9_manyIn = true := plainFor_of_name pnX9
set_option maxRecDepth 20000 in
theorem pfX9_sumIn : plainFor yX9_sumIn = true := plainFor_of_name pnX9
set_option maxRecDepth 20000 in
theorem pfX9_misses : plainFor yX9_misses = true := plainFor_of_name pnX9
set_option maxRecDepth 20000 in
theorem pfX9_best : plainFor yX9_best = true := plainFor_of_name pnX9
set_option maxRecDepth 20000 in
theorem pfX9_fit : plainFor yX9_fit = true := plainFor_of_name pnX9
set_option maxRecDepth 20000 in
theorem pfX9_within : plainFor yX9_within = true := plainFor_of_name pnX9
set_option maxRecDepth 20000 in
theorem pfX9_spanOf : plainFor yX9_spanOf = true := plainFor_of_name pnX9
set_option maxRecDepth 20000 in
theorem pfX9_span : plainFor yX9_span = true := plainFor_of_name pnX9
set_option maxRecDepth 20000 in
theorem pfX9_hold : plainFor yX9_hold = true := plainFor_of_name pnX9
set_option maxRecDepth 20000 in
theorem pfX9_going : plainFor yX9_going = true := plainFor_of_name pnX9
set_option maxRecDepth 20000 in
theorem pfX9_agree : plainFor yX9_agree = true := plainFor_of_name pnX9
set_option maxRecDepth 20000 in
theorem pfX9_number_ : plainFor yX9_number_ = true := plainFor_of_name pnX9
set_option maxRecDepth 20000 in
theorem pfX9_worth : plainFor yX9_worth = true := plainFor_of_name pnX9
set_option maxRecDepth 20000 in
theorem pfX9_dealt : plainFor yX9_dealt = true := plainFor_of_name pnX9
set_option maxRecDepth 20000 in
theorem pfX9_change : plainFor yX9_change = true := plainFor_of_name pnX9
set_option maxRecDepth 20000 in
theorem pfX9_note : plainFor yX9_note = true := plainFor_of_name pnX9
set_option maxRecDepth 20000 in
theorem pfX9_cameTo : plainFor yX9_cameTo = true := plainFor_of_name pnX9
set_option maxRecDepth 20000 in
theorem pfX9_heldOf : plainFor yX9_heldOf = true := plainFor_of_name pnX9
set_option maxRecDepth 20000 in
theorem pfX9_noteOf : plainFor yX9_noteOf = true := plainFor_of_name pnX9
set_option maxRecDepth 20000 in
theorem pfX9_acted : plainFor yX9_acted = true := plainFor_of_name pnX9
set_option maxRecDepth 20000 in
theorem pfX9_notes : plainFor yX9_notes = true := plainFor_of_name pnX9
set_option maxRecDepth 20000 in
theorem pfX9_sheet : plainFor yX9_sheet = true := plainFor_of_name pnX9
set_option maxRecDepth 20000 in
theorem pfX9_lay : plainFor yX9_lay = true := plainFor_of_name pnX9
set_option maxRecDepth 20000 in
theorem pfX9_read : plainFor yX9_read = true := plainFor_of_name pnX9
set_option maxRecDepth 20000 in
theorem pfX9_torn : plainFor yX9_torn = true := plainFor_of_name pnX9
set_option maxRecDepth 20000 in
theorem pfX9_count : plainFor yX9_count = true := plainFor_of_name pnX9
set_option maxRecDepth 20000 in
theorem pfJ9_floorDiv_f86c9 : plainFor yJ9_floorDiv_f86c9 = true := by decide +kernel
set_option maxRecDepth 20000 in
theorem pfJ9_abs_0f7a4 : plainFor yJ9_abs_0f7a4 = true := by decide +kernel
set_option maxRecDepth 20000 in
theorem pfJ9_max_7cf53 : plainFor yJ9_max_7cf53 = true := by decide +kernel
set_option maxRecDepth 20000 in
theorem pfJ9_max_f86c9 : plainFor yJ9_max_f86c9 = true := by decide +kernel
set_option maxRecDepth 20000 in
theorem pfJ9_min_7cf53 : plainFor yJ9_min_7cf53 = true := by decide +kernel
set_option maxRecDepth 20000 in
theorem pfJ9_min_f86c9 : plainFor yJ9_min_f86c9 = true := by decide +kernel
set_option maxRecDepth 20000 in
theorem pfJ0_length_8abf5 : plainFor yJ0_length_8abf5 = true := plainFor_of_name pnJ0
set_option maxRecDepth 20000 in
theorem pfJ0_charAt_5068e : plainFor yJ0_charAt_5068e = true := plainFor_of_name pnJ0
set_option maxRecDepth 20000 in
theorem pfJ0_coder_7d493 : plainFor yJ0_coder_7d493 = true := plainFor_of_name pnJ0
set_option maxRecDepth 20000 in
theorem pfJ0_isLatin1_aae02 : plainFor yJ0_isLatin1_aae02 = true := plainFor_of_name pnJ0
set_option maxRecDepth 20000 in
theorem pfJ0_checkIndex_df160 : plainFor yJ0_checkIndex_df160 = true := plainFor_of_name pnJ0
set_option maxRecDepth 20000 in
theorem pfJ1_charAt_3b067 : plainFor yJ1_charAt_3b067 = true := plainFor_of_name pnJ1
set_option maxRecDepth 20000 in
theorem pfJ2_getChar_3b067 : plainFor yJ2_getChar_3b067 = true := plainFor_of_name pnJ2
set_option maxRecDepth 20000 in
theorem pfJ2_length_9d52b : plainFor yJ2_length_9d52b = true := plainFor_of_name pnJ2
set_option maxRecDepth 20000 in
theorem pfJ2_charAt_3b067 : plainFor yJ2_charAt_3b067 = true := plainFor_of_name pnJ2
set_option maxRecDepth 20000 in
theorem pfJ2_checkIndex_2214a : plainFor yJ2_checkIndex_2214a = true := plainFor_of_name pnJ2
set_option maxRecDepth 20000 in
theorem pfJ7_fill_d0a16 : plainFor yJ7_fill_d0a16 = true := plainFor_of_name pnJ7
set_option maxRecDepth 20000 in
theorem pfJ7_fill_53178 : plainFor yJ7_fill_53178 = true := plainFor_of_name pnJ7
set_option maxRecDepth 20000 in
theorem pfJ3_checkIndex_8e157 : plainFor yJ3_checkIndex_8e157 = true := plainFor_of_name pnJ3
set_option maxRecDepth 20000 in
theorem pfL_law : plainFor yL_law = true := plainFor_of_name pnL
set_option maxRecDepth 20000 in
theorem gwX0_0 : u_lay RX0 TX0 0 ∈ lw_good := zc_g1 220 rfl rfl
set_option maxRecDepth 20000 in
theorem gwX0_1 : u_lay RX0 TX0 1 ∈ lw_good := zc_g1 222 rfl rfl
set_option maxRecDepth 20000 in
theorem gwX0_2 : u_lay RX0 TX0 2 ∈ lw_good := zc_g1 224 rfl rfl
set_option maxRecDepth 20000 in
theorem gwX0_3 : u_lay RX0 TX0 3 ∈ lw_good := zc_g1 226 rfl rfl
set_option maxRecDepth 20000 in
theorem gwX0_4 : u_lay RX0 TX0 4 ∈ lw_good := zc_g1 228 rfl rfl
set_option maxRecDepth 20000 in
theorem gwX0_5 : u_lay RX0 TX0 5 ∈ lw_good := zc_g1 230 rfl rfl
set_option maxRecDepth 20000 in
theorem gwX0_6 : u_lay RX0 TX0 6 ∈ lw_good := zc_g1 232 rfl rfl
set_option maxRecDepth 20000 in
theorem gwX0_7 : u_lay RX0 TX0 7 ∈ lw_good := zc_g1 234 rfl rfl
set_option maxRecDepth 20000 in
theorem gwX0_8 : u_lay RX0 TX0 8 ∈ lw_good := zc_g1 236 rfl rfl
set_option maxRecDepth 20000 in
theorem gwX0_9 : u_lay RX0 TX0 9 ∈ lw_good := zc_g1 238 rfl rfl
set_option maxRecDepth 20000 in
theorem gwX0 : ∀ w ∈ u_ws RX0 TX0 10, w ∈ lw_good := by
  intro w hw
  obtain ⟨k, hk, rfl⟩ := List.mem_map.mp hw
  have hk := List.mem_range.mp hk
  match k, hk with
  | 0, _ => exact gwX0_0
  | 1, _ => exact gwX0_1
  | 2, _ => exact gwX0_2
  | 3, _ => exact gwX0_3
  | 4, _ => exact gwX0_4
  | 5, _ => exact gwX0_5
  | 6, _ => exact gwX0_6
  | 7, _ => exact gwX0_7
  | 8, _ => exact gwX0_8
  | 9, _ => exact gwX0_9
  | n + 10, h => exact absurd h (by omega)
set_option maxRecDepth 20000 in
theorem gwX1_0 : u_lay RX1 TX1 0 ∈ lw_good := zc_g1 84 rfl rfl
set_option maxRecDepth 20000 in
theorem gwX1_1 : u_lay RX1 TX1 1 ∈ lw_good := zc_g1 86 rfl rfl
set_option maxRecDepth 20000 in
theorem gwX1_2 : u_lay RX1 TX1 2 ∈ lw_good := zc_g1 88 rfl rfl
set_option maxRecDepth 20000 in
theorem gwX1_3 : u_lay RX1 TX1 3 ∈ lw_good := zc_g1 90 rfl rfl
set_option maxRecDepth 20000 in
theorem gwX1 : ∀ w ∈ u_ws RX1 TX1 4, w ∈ lw_good := by
  intro w hw
  obtain ⟨k, hk, rfl⟩ := List.mem_map.mp hw
  have hk := List.mem_range.mp hk
  match k, hk with
  | 0, _ => exact gwX1_0
  | 1, _ => exact gwX1_1
  | 2, _ => exact gwX1_2
  | 3, _ => exact gwX1_3
  | n + 4, h => exact absurd h (by omega)
set_option maxRecDepth 20000 in
theorem gwX2_0 : u_lay RX2 TX2 0 ∈ lw_good := zc_g2 24 rfl rfl
set_option maxRecDepth 20000 in
theorem gwX2_1 : u_lay RX2 TX2 1 ∈ lw_good := zc_g2 26 rfl rfl
set_option maxRecDepth 20000 in
theorem gwX2_2 : u_lay RX2 TX2 2 ∈ lw_good := zc_g2 28 rfl rfl
set_option maxRecDepth 20000 in
theorem gwX2_3 : u_lay RX2 TX2 3 ∈ lw_good := zc_g2 30 rfl rfl
set_option maxRecDepth 20000 in
theorem gwX2_4 : u_lay RX2 TX2 4 ∈ lw_good := zc_g2 32 rfl rfl
set_option maxRecDepth 20000 in
theorem gwX2_5 : u_lay RX2 TX2 5 ∈ lw_good := zc_g2 34 rfl rfl
set_option maxRecDepth 20000 in
theorem gwX2_6 : u_lay RX2 TX2 6 ∈ lw_good := zc_g2 36 rfl rfl
set_option maxRecDepth 20000 in
theorem gwX2_7 : u_lay RX2 TX2 7 ∈ lw_good := zc_g2 38 rfl rfl
set_option maxRecDepth 20000 in
theorem gwX2 : ∀ w ∈ u_ws RX2 TX2 8, w ∈ lw_good := by
  intro w hw
  obtain ⟨k, hk, rfl⟩ := List.mem_map.mp hw
  have hk := List.mem_range.mp hk
  match k, hk with
  | 0, _ => exact gwX2_0
  | 1, _ => exact gwX2_1
  | 2, _ => exact gwX2_2
  | 3, _ => exact gwX2_3
  | 4, _ => exact gwX2_4
  | 5, _ => exact gwX2_5
  | 6, _ => exact gwX2_6
  | 7, _ => exact gwX2_7
  | n + 8, h => exact absurd h (by omega)
set_option maxRecDepth 20000 in
theorem gwX3_0 : u_lay RX3 TX3 0 ∈ lw_good := zc_g1 171 rfl rfl
set_option maxRecDepth 20000 in
theorem gwX3_1 : u_lay RX3 TX3 1 ∈ lw_good := zc_g1 173 rfl rfl
set_option maxRecDepth 20000 in
theorem gwX3_2 : u_lay RX3 TX3 2 ∈ lw_good := zc_g1 175 rfl rfl
set_option maxRecDepth 20000 in
theorem gwX3_3 : u_lay RX3 TX3 3 ∈ lw_good := zc_g1 177 rfl rfl
set_option maxRecDepth 20000 in
theorem gwX3_4 : u_lay RX3 TX3 4 ∈ lw_good := zc_g1 179 rfl rfl
set_option maxRecDepth 20000 in
theorem gwX3_5 : u_lay RX3 TX3 5 ∈ lw_good := zc_g1 181 rfl rfl
set_option maxRecDepth 20000 in
theorem gwX3_6 : u_lay RX3 TX3 6 ∈ lw_good := zc_g1 183 rfl rfl
set_option maxRecDepth 20000 in
theorem gwX3_7 : u_lay RX3 TX3 7 ∈ lw_good := zc_g1 185 rfl rfl
set_option maxRecDepth 20000 in
theorem gwX3_8 : u_lay RX3 TX3 8 ∈ lw_good := zc_g1 187 rfl rfl
set_option maxRecDepth 20000 in
theorem gwX3_9 : u_lay RX3 TX3 9 ∈ lw_good := zc_g1 189 rfl rfl
set_option maxRecDepth 20000 in
theorem gwX3_10 : u_lay RX3 TX3 10 ∈ lw_good := zc_g1 191 rfl rfl
set_option maxRecDepth 20000 in
theorem gwX3_11 : u_lay RX3 TX3 11 ∈ lw_good := zc_g1 193 rfl rfl
set_option maxRecDepth 20000 in
theorem gwX3_12 : u_lay RX3 TX3 12 ∈ lw_good := zc_g1 195 rfl rfl
set_option maxRecDepth 20000 in
theorem gwX3_13 : u_lay RX3 TX3 13 ∈ lw_good := zc_g1 197 rfl rfl
set_option maxRecDepth 20000 in
theorem gwX3 : ∀ w ∈ u_ws RX3 TX3 14, w ∈ lw_good := by
  intro w hw
  obtain ⟨k, hk, rfl⟩ := List.mem_map.mp hw
  have hk := List.mem_range.mp hk
  match k, hk with
  | 0, _ => exact gwX3_0
  | 1, _ => exact gwX3_1
  | 2, _ => exact gwX3_2
  | 3, _ => exact gwX3_3
  | 4, _ => exact gwX3_4
  | 5, _ => exact gwX3_5
  | 6, _ => exact gwX3_6
  | 7, _ => exact gwX3_7
  | 8, _ => exact gwX3_8
  | 9, _ => exact gwX3_9
  | 10, _ => exact gwX3_10
  | 11, _ => exact gwX3_11
  | 12, _ => exact gwX3_12
  | 13, _ => exact gwX3_13
  | n + 14, h => exact absurd h (by omega)
set_option maxRecDepth 20000 in
theorem gwX4_0 : u_lay RX4 TX4 0 ∈ lw_good := zc_g1 46 rfl rfl
set_option maxRecDepth 20000 in
theorem gwX4_1 : u_lay RX4 TX4 1 ∈ lw_good := zc_g1 48 rfl rfl
set_option maxRecDepth 20000 in
theorem gwX4_2 : u_lay RX4 TX4 2 ∈ lw_good := zc_g1 50 rfl rfl
set_option maxRecDepth 20000 in
theorem gwX4_3 : u_lay RX4 TX4 3 ∈ lw_good := zc_g1 52 rfl rfl
set_option maxRecDepth 20000 in
theorem gwX4_4 : u_lay RX4 TX4 4 ∈ lw_good := zc_g1 54 rfl rfl
set_option maxRecDepth 20000 in
theorem gwX4_5 : u_lay RX4 TX4 5 ∈ lw_good := zc_g1 56 rfl rfl
set_option maxRecDepth 20000 in
theorem gwX4_6 : u_lay RX4 TX4 6 ∈ lw_good := zc_g1 58 rfl rfl
set_option maxRecDepth 20000 in
theorem gwX4_7 : u_lay RX4 TX4 7 ∈ lw_good := zc_g1 60 rfl rfl
set_option maxRecDepth 20000 in
theorem gwX4 : ∀ w ∈ u_ws RX4 TX4 8, w ∈ lw_good := by
  intro w hw
  obtain ⟨k, hk, rfl⟩ := List.mem_map.mp hw
  have hk := List.mem_range.mp hk
  match k, hk with
  | 0, _ => exact gwX4_0
  | 1, _ => exact gwX4_1
  | 2, _ => exact gwX4_2
  | 3, _ => exact gwX4_3
  | 4, _ => exact gwX4_4
  | 5, _ => exact gwX4_5
  | 6, _ => exact gwX4_6
  | 7, _ => exact gwX4_7
  | n + 8, h => exact absurd h (by omega)
set_option maxRecDepth 20000 in
theorem gwX5_0 : u_lay RX5 TX5 0 ∈ lw_good := zc_g2 53 rfl rfl
set_option maxRecDepth 20000 in
theorem gwX5_1 : u_lay RX5 TX5 1 ∈ lw_good := zc_g2 55 rfl rfl
set_option maxRecDepth 20000 in
theorem gwX5_2 : u_lay RX5 TX5 2 ∈ lw_good := zc_g2 57 rfl rfl
set_option maxRecDepth 20000 in
theorem gwX5_3 : u_lay RX5 TX5 3 ∈ lw_good := zc_g2 59 rfl rfl
set_option maxRecDepth 20000 in
theorem gwX5 : ∀ w ∈ u_ws RX5 TX5 4, w ∈ lw_good := by
  intro w hw
  obtain ⟨k, hk, rfl⟩ := List.mem_map.mp hw
  have hk := List.mem_range.mp hk
  match k, hk with
  | 0, _ => exact gwX5_0
  | 1, _ => exact gwX5_1
  | 2, _ => exact gwX5_2
  | 3, _ => exact gwX5_3
  | n + 4, h => exact absurd h (by omega)
set_option maxRecDepth 20000 in
theorem gwX6_0 : u_lay RX6 TX6 0 ∈ lw_good := zc_g1 112 rfl rfl
set_option maxRecDepth 20000 in
theorem gwX6_1 : u_lay RX6 TX6 1 ∈ lw_good := zc_g1 114 rfl rfl
set_option maxRecDepth 20000 in
theorem gwX6_2 : u_lay RX6 TX6 2 ∈ lw_good := zc_g1 116 rfl rfl
set_option maxRecDepth 20000 in
theorem gwX6_3 : u_lay RX6 TX6 3 ∈ lw_good := zc_g1 118 rfl rfl
set_option maxRecDepth 20000 in
theorem gwX6_4 : u_lay RX6 TX6 4 ∈ lw_good := zc_g1 120 rfl rfl
set_option maxRecDepth 20000 in
theorem gwX6_5 : u_lay RX6 TX6 5 ∈ lw_good := zc_g1 122 rfl rfl
set_option maxRecDepth 20000 in
theorem gwX6_6 : u_lay RX6 TX6 6 ∈ lw_good := zc_g1 124 rfl rfl
set_option maxRecDepth 20000 in
theorem gwX6 : ∀ w ∈ u_ws RX6 TX6 7, w ∈ lw_good := by
  intro w hw
  obtain ⟨k, hk, rfl⟩ := List.mem_map.mp hw
  have hk := List.mem_range.mp hk
  match k, hk with
  | 0, _ => exact gwX6_0
  | 1, _ => exact gwX6_1
  | 2, _ => exact gwX6_2
  | 3, _ => exact gwX6_3
  | 4, _ => exact gwX6_4
  | 5, _ => exact gwX6_5
  | 6, _ => exact gwX6_6
  | n + 7, h => exact absurd h (by omega)
set_option maxRecDepth 20000 in
theorem gwX7_0 : u_lay RX7 TX7 0 ∈ lw_good := zc_g1 144 rfl rfl
set_option maxRecDepth 20000 in
theorem gwX7_1 : u_lay RX7 TX7 1 ∈ lw_good := zc_g1 146 rfl rfl
set_option maxRecDepth 20000 in
theorem gwX7_2 : u_lay RX7 TX7 2 ∈ lw_good := zc_g1 148 rfl rfl
set_option maxRecDepth 20000 in
theorem gwX7 : ∀ w ∈ u_ws RX7 TX7 3, w ∈ lw_good := by
  intro w hw
  obtain ⟨k, hk, rfl⟩ := List.mem_map.mp hw
  have hk := List.mem_range.mp hk
  match k, hk with
  | 0, _ => exact gwX7_0
  | 1, _ => exact gwX7_1
  | 2, _ => exact gwX7_2
  | n + 3, h => exact absurd h (by omega)
set_option maxRecDepth 20000 in
theorem gwX8_0 : u_lay RX8 TX8 0 ∈ lw_good := zc_g2 69 rfl rfl
set_option maxRecDepth 20000 in
theorem gwX8_1 : u_lay RX8 TX8 1 ∈ lw_good := zc_g2 71 rfl rfl
set_option maxRecDepth 20000 in
theorem gwX8_2 : u_lay RX8 TX8 2 ∈ lw_good := zc_g2 73 rfl rfl
set_option maxRecDepth 20000 in
theorem gwX8_3 : u_lay RX8 TX8 3 ∈ lw_good := zc_g2 75 rfl rfl
set_option maxRecDepth 20000 in
theorem gwX8_4 : u_lay RX8 TX8 4 ∈ lw_good := zc_g2 77 rfl rfl
set_option maxRecDepth 20000 in
theorem gwX8_5 : u_lay RX8 TX8 5 ∈ lw_good := zc_g2 79 rfl rfl
set_option maxRecDepth 20000 in
theorem gwX8_6 : u_lay RX8 TX8 6 ∈ lw_good := zc_g2 81 rfl rfl
set_option maxRecDepth 20000 in
theorem gwX8 : ∀ w ∈ u_ws RX8 TX8 7, w ∈ lw_good := by
  intro w hw
  obtain ⟨k, hk, rfl⟩ := List.mem_map.mp hw
  have hk := List.mem_range.mp hk
  match k, hk with
  | 0, _ => exact gwX8_0
  | 1, _ => exact gwX8_1
  | 2, _ => exact gwX8_2
  | 3, _ => exact gwX8_3
  | 4, _ => exact gwX8_4
  | 5, _ => exact gwX8_5
  | 6, _ => exact gwX8_6
  | n + 7, h => exact absurd h (by omega)
set_option maxRecDepth 20000 in
theorem gwX9_0 : u_lay RX9 TX9 0 ∈ lw_good := zc_g4 165 rfl rfl
set_option maxRecDepth 20000 in
theorem gwX9_1 : u_lay RX9 TX9 1 ∈ lw_good := zc_g4 167 rfl rfl
set_option maxRecDepth 20000 in
theorem gwX9_2 : u_lay RX9 TX9 2 ∈ lw_good := zc_g4 169 rfl rfl
set_option maxRecDepth 20000 in
theorem gwX9_3 : u_lay RX9 TX9 3 ∈ lw_good := zc_g4 171 rfl rfl
set_option maxRecDepth 20000 in
theorem gwX9_4 : u_lay RX9 TX9 4 ∈ lw_good := zc_g4 173 rfl rfl
set_option maxRecDepth 20000 in
theorem gwX9_5 : u_lay RX9 TX9 5 ∈ lw_good := zc_g4 175 rfl rfl
set_option maxRecDepth 20000 in
theorem gwX9_6 : u_lay RX9 TX9 6 ∈ lw_good := zc_g4 177 rfl rfl
set_option maxRecDepth 20000 in
theorem gwX9_7 : u_lay RX9 TX9 7 ∈ lw_good := zc_g4 179 rfl rfl
set_option maxRecDepth 20000 in
theorem gwX9_8 : u_lay RX9 TX9 8 ∈ lw_good := zc_g4 181 rfl rfl
set_option maxRecDepth 20000 in
theorem gwX9_9 : u_lay RX9 TX9 9 ∈ lw_good := zc_g4 183 rfl rfl
set_option maxRecDepth 20000 in
theorem gwX9_10 : u_lay RX9 TX9 10 ∈ lw_good := zc_g4 185 rfl rfl
set_option maxRecDepth 20000 in
theorem gwX9_11 : u_lay RX9 TX9 11 ∈ lw_good := zc_g4 187 rfl rfl
set_option maxRecDepth 20000 in
theorem gwX9_12 : u_lay RX9 TX9 12 ∈ lw_good := zc_g4 189 rfl rfl
set_option maxRecDepth 20000 in
theorem gwX9_13 : u_lay RX9 TX9 13 ∈ lw_good := zc_g4 191 rfl rfl
set_option maxRecDepth 20000 in
theorem gwX9_14 : u_lay RX9 TX9 14 ∈ lw_good := zc_g4 193 rfl rfl
set_option maxRecDepth 20000 in
theorem gwX9_15 : u_lay RX9 TX9 15 ∈ lw_good := zc_g4 195 rfl rfl
set_option maxRecDepth 20000 in
theorem gwX9_16 : u_lay RX9 TX9 16 ∈ lw_good := zc_g4 197 rfl rfl
set_option maxRecDepth 20000 in
theorem gwX9_17 : u_lay RX9 TX9 17 ∈ lw_good := zc_g4 199 rfl rfl
set_option maxRecDepth 20000 in
theorem gwX9_18 : u_lay RX9 TX9 18 ∈ lw_good := zc_g4 201 rfl rfl
set_option maxRecDepth 20000 in
theorem gwX9_19 : u_lay RX9 TX9 19 ∈ lw_good := zc_g4 203 rfl rfl
set_option maxRecDepth 20000 in
theorem gwX9_20 : u_lay RX9 TX9 20 ∈ lw_good := zc_g4 205 rfl rfl
set_option maxRecDepth 20000 in
theorem gwX9_21 : u_lay RX9 TX9 21 ∈ lw_good := zc_g4 207 rfl rfl
set_option maxRecDepth 20000 in
theorem gwX9_22 : u_lay RX9 TX9 22 ∈ lw_good := zc_g4 209 rfl rfl
set_option maxRecDepth 20000 in
theorem gwX9_23 : u_lay RX9 TX9 23 ∈ lw_good := zc_g4 211 rfl rfl
set_option maxRecDepth 20000 in
theorem gwX9_24 : u_lay RX9 TX9 24 ∈ lw_good := zc_g4 213 rfl rfl
set_option maxRecDepth 20000 in
theorem gwX9_25 : u_lay RX9 TX9 25 ∈ lw_good := zc_g4 215 rfl rfl
set_option maxRecDepth 20000 in
theorem gwX9_26 : u_lay RX9 TX9 26 ∈ lw_good := zc_g4 217 rfl rfl
set_option maxRecDepth 20000 in
theorem gwX9_27 : u_lay RX9 TX9 27 ∈ lw_good := zc_g4 219 rfl rfl
set_option maxRecDepth 20000 in
theorem gwX9_28 : u_lay RX9 TX9 28 ∈ lw_good := zc_g4 221 rfl rfl
set_option maxRecDepth 20000 in
theorem gwX9_29 : u_lay RX9 TX9 29 ∈ lw_good := zc_g4 223 rfl rfl
set_option maxRecDepth 20000 in
theorem gwX9_30 : u_lay RX9 TX9 30 ∈ lw_good := zc_g4 225 rfl rfl
set_option maxRecDepth 20000 in
theorem gwX9_31 : u_lay RX9 TX9 31 ∈ lw_good := zc_g4 227 rfl rfl
set_option maxRecDepth 20000 in
theorem gwX9_32 : u_lay RX9 TX9 32 ∈ lw_good := zc_g4 229 rfl rfl
set_option maxRecDepth 20000 in
theorem gwX9_33 : u_lay RX9 TX9 33 ∈ lw_good := zc_g4 231 rfl rfl
set_option maxRecDepth 20000 in
theorem gwX9_34 : u_lay RX9 TX9 34 ∈ lw_good := zc_g4 233 rfl rfl
set_option maxRecDepth 20000 in
theorem gwX9_35 : u_lay RX9 TX9 35 ∈ lw_good := zc_g4 235 rfl rfl
set_option maxRecDepth 20000 in
theorem gwX9_36 : u_lay RX9 TX9 36 ∈ lw_good := zc_g4 237 rfl rfl
set_option maxRecDepth 20000 in
theorem gwX9_37 : u_lay RX9 TX9 37 ∈ lw_good := zc_g4 239 rfl rfl
set_option maxRecDepth 20000 in
theorem gwX9_38 : u_lay RX9 TX9 38 ∈ lw_good := zc_g5 1 rfl rfl
set_option maxRecDepth 20000 in
theorem gwX9_39 : u_lay RX9 TX9 39 ∈ lw_good := zc_g5 3 rfl rfl
set_option maxRecDepth 20000 in
theorem gwX9 : ∀ w ∈ u_ws RX9 TX9 40, w ∈ lw_good := by
  intro w hw
  obtain ⟨k, hk, rfl⟩ := List.mem_map.mp hw
  have hk := List.mem_range.mp hk
  match k, hk with
  | 0, _ => exact gwX9_0
  | 1, _ => exact gwX9_1
  | 2, _ => exact gwX9_2
  | 3, _ => exact gwX9_3
  | 4, _ => exact gwX9_4
  | 5, _ => exact gwX9_5
  | 6, _ => exact gwX9_6
  | 7, _ => exact gwX9_7
  | 8, _ => exact gwX9_8
  | 9, _ => exact gwX9_9
  | 10, _ => exact gwX9_10
  | 11, _ => exact gwX9_11
  | 12, _ => exact gwX9_12
  | 13, _ => exact gwX9_13
  | 14, _ => exact gwX9_14
  | 15, _ => exact gwX9_15
  | 16, _ => exact gwX9_16
  | 17, _ => exact gwX9_17
  | 18, _ => exact gwX9_18
  | 19, _ => exact gwX9_19
  | 20, _ => exact gwX9_20
  | 21, _ => exact gwX9_21
  | 22, _ => exact gwX9_22
  | 23, _ => exact gwX9_23
  | 24, _ => exact gwX9_24
  | 25, _ => exact gwX9_25
  | 26, _ => exact gwX9_26
  | 27, _ => exact gwX9_27
  | 28, _ => exact gwX9_28
  | 29, _ => exact gwX9_29
  | 30, _ => exact gwX9_30
  | 31, _ => exact gwX9_31
  | 32, _ => exact gwX9_32
  | 33, _ => exact gwX9_33
  | 34, _ => exact gwX9_34
  | 35, _ => exact gwX9_35
  | 36, _ => exact gwX9_36
  | 37, _ => exact gwX9_37
  | 38, _ => exact gwX9_38
  | 39, _ => exact gwX9_39
  | n + 40, h => exact absurd h (by omega)
set_option maxRecDepth 20000 in
theorem wp_X0_41 : zc_Fp RX0 41 0 2 := ⟨RX0, TX0, 10, tyX0, rfl, by decide, gwX0, Or.inl (zc_g1 210 rfl rfl), tyX0_ok, nmX0, rfl, by decide +kernel⟩
set_option maxRecDepth 20000 in
theorem wf_X0_9 : zc_F RX0 9 0 3 := ⟨RX0, TX0, 10, rfl, by decide, gwX0, Or.inl (zc_g1 211 rfl rfl)⟩
set_option maxRecDepth 20000 in
theorem wm_X0_45 : zc_Ls RX0 45 yJ7_fill_53178 cJ7_fill_53178 4 none 2 := ⟨⟨zc_g3 119 rfl rfl, zc_g1 16 rfl rfl, ⟨by decide +kernel, by decide +kernel, by decide +kernel⟩, Or.inl (zc_g3 149 rfl rfl)⟩, zc_g3 118 rfl rfl⟩
set_option maxRecDepth 20000 in
theorem wf_X0_15 : zc_F RX0 15 0 4 := ⟨RX0, TX0, 10, rfl, by decide, gwX0, Or.inl (zc_g1 213 rfl rfl)⟩
set_option maxRecDepth 20000 in
theorem wm_X0_51 : zc_Lv RX0 51 yX0_restart cX0_restart 1 none 0 := ⟨⟨zc_g3 153 rfl rfl, zc_g1 7 rfl rfl, ⟨by decide +kernel, by decide +kernel, by decide +kernel⟩, Or.inl (zc_g3 150 rfl rfl)⟩, zc_g3 152 rfl rfl, zc_gs 31 rfl rfl⟩
set_option maxRecDepth 20000 in
theorem wf_X0_28 : zc_F RX0 28 0 0 := ⟨RX0, TX0, 10, rfl, by decide, gwX0, Or.inl (zc_g1 208 rfl rfl)⟩
set_option maxRecDepth 20000 in
theorem wf_X0_54 : zc_F RX0 54 4 0 := ⟨RX4, TX4, 8, rfl, by decide, gwX4, Or.inr ⟨"NextFigures", zc_n1 32 rfl rfl⟩⟩
set_option maxRecDepth 20000 in
theorem wf_X0_37 : zc_F RX0 37 0 1 := ⟨RX0, TX0, 10, rfl, by decide, gwX0, Or.inl (zc_g1 209 rfl rfl)⟩
set_option maxRecDepth 20000 in
theorem wm_X0_59 : zc_Lv RX0 59 yX7_open cX7_open 4 none 2 := ⟨⟨zc_g3 33 rfl rfl, zc_g1 6 rfl rfl, ⟨by decide +kernel, by decide +kernel, by decide +kernel⟩, Or.inr ⟨"NextFigures", zc_n3 157 rfl rfl⟩⟩, zc_g3 32 rfl rfl, zc_gs 16 rfl rfl⟩
set_option maxRecDepth 20000 in
theorem wm_X0_63 : zc_Lv RX0 63 yX0_follow cX0_follow 3 none 0 := ⟨⟨zc_g3 161 rfl rfl, zc_g1 7 rfl rfl, ⟨by decide +kernel, by decide +kernel, by decide +kernel⟩, Or.inl (zc_g3 158 rfl rfl)⟩, zc_g3 160 rfl rfl, zc_gs 32 rfl rfl⟩
set_option maxRecDepth 20000 in
theorem wm_X0_66 : zc_Lv RX0 66 yX4_valueOn cX4_valueOn 6 (some .int) 3 := ⟨⟨zc_g2 101 rfl rfl, zc_g1 2 rfl rfl, ⟨by decide +kernel, by decide +kernel, by decide +kernel⟩, Or.inr ⟨"NextFigures", zc_n3 168 rfl rfl⟩⟩, zc_g2 100 rfl rfl, zc_gs 0 rfl rfl⟩
set_option maxRecDepth 20000 in
theorem wm_X0_70 : zc_Lv RX0 70 yX0_score cX0_score 6 none 3 := ⟨⟨zc_g3 172 rfl rfl, zc_g1 7 rfl rfl, ⟨by decide +kernel, by decide +kernel, by decide +kernel⟩, Or.inl (zc_g3 169 rfl rfl)⟩, zc_g3 171 rfl rfl, zc_gs 34 rfl rfl⟩
set_option maxRecDepth 20000 in
theorem wp_X0_74 : zc_Fp RX0 74 0 6 := ⟨RX0, TX0, 10, tyX0, rfl, by decide, gwX0, Or.inl (zc_g1 216 rfl rfl), tyX0_ok, nmX0, rfl, by decide +kernel⟩
set_option maxRecDepth 20000 in
theorem wp_X0_77 : zc_Fp RX0 77 0 7 := ⟨RX0, TX0, 10, tyX0, rfl, by decide, gwX0, Or.inl (zc_g1 217 rfl rfl), tyX0_ok, nmX0, rfl, by decide +kernel⟩
set_option maxRecDepth 20000 in
theorem wf_X0_21 : zc_F RX0 21 0 8 := ⟨RX0, TX0, 10, rfl, by decide, gwX0, Or.inl (zc_g1 218 rfl rfl)⟩
set_option maxRecDepth 20000 in
theorem wm_X0_80 : zc_Ls RX0 80 yJ7_fill_d0a16 cJ7_fill_d0a16 5 none 2 := ⟨⟨zc_g3 156 rfl rfl, zc_g1 16 rfl rfl, ⟨by decide +kernel, by decide +kernel, by decide +kernel⟩, Or.inl (zc_g3 154 rfl rfl)⟩, zc_g3 155 rfl rfl⟩
set_option maxRecDepth 20000 in
theorem wf_X0_25 : zc_F RX0 25 0 9 := ⟨RX0, TX0, 10, rfl, by decide, gwX0, Or.inl (zc_g1 219 rfl rfl)⟩
set_option maxRecDepth 20000 in
theorem wf_X0_74 : zc_F RX0 74 0 6 := ⟨RX0, TX0, 10, rfl, by decide, gwX0, Or.inl (zc_g1 216 rfl rfl)⟩
set_option maxRecDepth 20000 in
theorem wf_X0_18 : zc_F RX0 18 0 5 := ⟨RX0, TX0, 10, rfl, by decide, gwX0, Or.inl (zc_g1 215 rfl rfl)⟩
set_option maxRecDepth 20000 in
theorem wf_X0_83 : zc_F RX0 83 7 1 := ⟨RX7, TX7, 3, rfl, by decide, gwX7, Or.inr ⟨"NextFigures", zc_n1 141 rfl rfl⟩⟩
set_option maxRecDepth 20000 in
theorem wf_X0_86 : zc_F RX0 86 7 2 := ⟨RX7, TX7, 3, rfl, by decide, gwX7, Or.inr ⟨"NextFigures", zc_n1 143 rfl rfl⟩⟩
set_option maxRecDepth 20000 in
theorem wm_X0_89 : zc_Lv RX0 89 yX0_take cX0_take 5 none 1 := ⟨⟨zc_g3 165 rfl rfl, zc_g1 7 rfl rfl, ⟨by decide +kernel, by decide +kernel, by decide +kernel⟩, Or.inl (zc_g3 162 rfl rfl)⟩, zc_g3 164 rfl rfl, zc_gs 33 rfl rfl⟩
set_option maxRecDepth 20000 in
theorem wf_X0_77 : zc_F RX0 77 0 7 := ⟨RX0, TX0, 10, rfl, by decide, gwX0, Or.inl (zc_g1 217 rfl rfl)⟩
set_option maxRecDepth 20000 in
theorem wm_X0_93 : zc_Ls RX0 93 yX7_levelAfter cX7_levelAfter 7 (some .long) 5 := ⟨⟨zc_g3 54 rfl rfl, zc_g1 6 rfl rfl, ⟨by decide +kernel, by decide +kernel, by decide +kernel⟩, Or.inr ⟨"NextFigures", zc_n3 166 rfl rfl⟩⟩, zc_g3 53 rfl rfl⟩
set_option maxRecDepth 20000 in
theorem wm_X0_97 : zc_Ls RX0 97 yX7_slopeAfter cX7_slopeAfter 7 (some .long) 5 := ⟨⟨zc_g3 62 rfl rfl, zc_g1 6 rfl rfl, ⟨by decide +kernel, by decide +kernel, by decide +kernel⟩, Or.inr ⟨"NextFigures", zc_n3 167 rfl rfl⟩⟩, zc_g3 61 rfl rfl⟩
set_option maxRecDepth 20000 in
theorem wf_X0_41 : zc_F RX0 41 0 2 := ⟨RX0, TX0, 10, rfl, by decide, gwX0, Or.inl (zc_g1 210 rfl rfl)⟩
set_option maxRecDepth 20000 in
theorem wm_X0_100 : zc_Lv RX0 100 yX0_stepTold cX0_stepTold 3 (some .int) 2 := ⟨⟨zc_g3 176 rfl rfl, zc_g1 7 rfl rfl, ⟨by decide +kernel, by decide +kernel, by decide +kernel⟩, Or.inl (zc_g3 173 rfl rfl)⟩, zc_g3 175 rfl rfl, zc_gs 35 rfl rfl⟩
set_option maxRecDepth 20000 in
theorem wm_X0_104 : zc_Lv RX0 104 yX7_foretell cX7_foretell 5 (some .int) 4 := ⟨⟨zc_g3 39 rfl rfl, zc_g1 6 rfl rfl, ⟨by decide +kernel, by decide +kernel, by decide +kernel⟩, Or.inr ⟨"NextFigures", zc_n3 178 rfl rfl⟩⟩, zc_g3 38 rfl rfl, zc_gs 17 rfl rfl⟩
set_option maxRecDepth 20000 in
theorem wm_X0_108 : zc_Ls RX0 108 yJ9_abs_0f7a4 cJ9_abs_0f7a4 1 (some .int) 1 := ⟨⟨zc_g3 96 rfl rfl, zc_g1 15 rfl rfl, ⟨by decide +kernel, by decide +kernel, by decide +kernel⟩, Or.inl (zc_g3 179 rfl rfl)⟩, zc_g3 95 rfl rfl⟩
set_option maxRecDepth 20000 in
theorem wm_X0_114 : zc_Ls RX0 114 yX7_toldByStep cX7_toldByStep 7 (some .int) 3 := ⟨⟨zc_g3 65 rfl rfl, zc_g1 6 rfl rfl, ⟨by decide +kernel, by decide +kernel, by decide +kernel⟩, Or.inr ⟨"NextFigures", zc_n3 177 rfl rfl⟩⟩, zc_g3 64 rfl rfl⟩
set_option maxRecDepth 20000 in
theorem wf_X1_21 : zc_F RX1 21 1 0 := ⟨RX1, TX1, 4, rfl, by decide, gwX1, Or.inl (zc_g1 71 rfl rfl)⟩
set_option maxRecDepth 20000 in
theorem wf_X1_9 : zc_F RX1 9 1 1 := ⟨RX1, TX1, 4, rfl, by decide, gwX1, Or.inl (zc_g1 75 rfl rfl)⟩
set_option maxRecDepth 20000 in
theorem wf_X1_15 : zc_F RX1 15 1 2 := ⟨RX1, TX1, 4, rfl, by decide, gwX1, Or.inl (zc_g1 78 rfl rfl)⟩
set_option maxRecDepth 20000 in
theorem wf_X1_18 : zc_F RX1 18 1 3 := ⟨RX1, TX1, 4, rfl, by decide, gwX1, Or.inl (zc_g1 81 rfl rfl)⟩
set_option maxRecDepth 20000 in
theorem wp_X1_21 : zc_Fp RX1 21 1 0 := ⟨RX1, TX1, 4, tyX1, rfl, by decide, gwX1, Or.inl (zc_g1 71 rfl rfl), tyX1_ok, nmX1, rfl, by decide +kernel⟩
set_option maxRecDepth 20000 in
theorem wm_X1_25 : zc_Lv RX1 25 yX1_add cX1_add 4 none 3 := ⟨⟨zc_g2 226 rfl rfl, zc_g1 3 rfl rfl, ⟨by decide +kernel, by decide +kernel, by decide +kernel⟩, Or.inl (zc_g2 231 rfl rfl)⟩, zc_g2 225 rfl rfl, zc_gs 10 rfl rfl⟩
set_option maxRecDepth 20000 in
theorem wf_X2_34 : zc_F RX2 34 2 0 := ⟨RX2, TX2, 8, rfl, by decide, gwX2, Or.inl (zc_g2 8 rfl rfl)⟩
set_option maxRecDepth 20000 in
theorem wf_X2_9 : zc_F RX2 9 2 1 := ⟨RX2, TX2, 8, rfl, by decide, gwX2, Or.inl (zc_g2 10 rfl rfl)⟩
set_option maxRecDepth 20000 in
theorem wf_X2_15 : zc_F RX2 15 2 2 := ⟨RX2, TX2, 8, rfl, by decide, gwX2, Or.inl (zc_g2 12 rfl rfl)⟩
set_option maxRecDepth 20000 in
theorem wf_X2_18 : zc_F RX2 18 2 3 := ⟨RX2, TX2, 8, rfl, by decide, gwX2, Or.inl (zc_g2 14 rfl rfl)⟩
set_option maxRecDepth 20000 in
theorem wf_X2_21 : zc_F RX2 21 2 4 := ⟨RX2, TX2, 8, rfl, by decide, gwX2, Or.inl (zc_g2 16 rfl rfl)⟩
set_option maxRecDepth 20000 in
theorem wf_X2_24 : zc_F RX2 24 2 5 := ⟨RX2, TX2, 8, rfl, by decide, gwX2, Or.inl (zc_g2 18 rfl rfl)⟩
set_option maxRecDepth 20000 in
theorem wf_X2_27 : zc_F RX2 27 2 6 := ⟨RX2, TX2, 8, rfl, by decide, gwX2, Or.inl (zc_g2 20 rfl rfl)⟩
set_option maxRecDepth 20000 in
theorem wp_X2_34 : zc_Fp RX2 34 2 0 := ⟨RX2, TX2, 8, tyX2, rfl, by decide, gwX2, Or.inl (zc_g2 8 rfl rfl), tyX2_ok, nmX2, rfl, by decide +kernel⟩
set_option maxRecDepth 20000 in
theorem wp_X3_41 : zc_Fp RX3 41 3 3 := ⟨RX3, TX3, 14, tyX3, rfl, by decide, gwX3, Or.inl (zc_g1 154 rfl rfl), tyX3_ok, nmX3, rfl, by decide +kernel⟩
set_option maxRecDepth 20000 in
theorem wp_X3_45 : zc_Fp RX3 45 3 4 := ⟨RX3, TX3, 14, tyX3, rfl, by decide, gwX3, Or.inl (zc_g1 155 rfl rfl), tyX3_ok, nmX3, rfl, by decide +kernel⟩
set_option maxRecDepth 20000 in
theorem wf_X3_28 : zc_F RX3 28 3 1 := ⟨RX3, TX3, 14, rfl, by decide, gwX3, Or.inl (zc_g1 152 rfl rfl)⟩
set_option maxRecDepth 20000 in
theorem wf_X3_48 : zc_F RX3 48 1 0 := ⟨RX1, TX1, 4, rfl, by decide, gwX1, Or.inr ⟨"NextFigures", zc_n1 72 rfl rfl⟩⟩
set_option maxRecDepth 20000 in
theorem wm_X3_53 : zc_Ls RX3 53 yJ9_max_7cf53 cJ9_max_7cf53 2 (some .int) 2 := ⟨⟨zc_g3 22 rfl rfl, zc_g1 15 rfl rfl, ⟨by decide +kernel, by decide +kernel, by decide +kernel⟩, Or.inl (zc_g3 20 rfl rfl)⟩, zc_g3 21 rfl rfl⟩
set_option maxRecDepth 20000 in
theorem wm_X3_59 : zc_Ls RX3 59 yJ9_min_7cf53 cJ9_min_7cf53 2 (some .int) 2 := ⟨⟨zc_g3 25 rfl rfl, zc_g1 15 rfl rfl, ⟨by decide +kernel, by decide +kernel, by decide +kernel⟩, Or.inl (zc_g3 23 rfl rfl)⟩, zc_g3 24 rfl rfl⟩
set_option maxRecDepth 20000 in
theorem wf_X3_62 : zc_F RX3 62 1 1 := ⟨RX1, TX1, 4, rfl, by decide, gwX1, Or.inr ⟨"NextFigures", zc_n1 76 rfl rfl⟩⟩
set_option maxRecDepth 20000 in
theorem wm_X3_65 : zc_Lv RX3 65 yX3_playPlain cX3_playPlain 8 none 4 := ⟨⟨zc_g3 29 rfl rfl, zc_g1 5 rfl rfl, ⟨by decide +kernel, by decide +kernel, by decide +kernel⟩, Or.inl (zc_g3 26 rfl rfl)⟩, zc_g3 28 rfl rfl, zc_gs 15 rfl rfl⟩
set_option maxRecDepth 20000 in
theorem wf_X3_9 : zc_F RX3 9 3 5 := ⟨RX3, TX3, 14, rfl, by decide, gwX3, Or.inl (zc_g1 156 rfl rfl)⟩
set_option maxRecDepth 20000 in
theorem wm_X3_69 : zc_Lv RX3 69 yX3_join cX3_join 8 (some .int) 2 := ⟨⟨zc_g3 84 rfl rfl, zc_g1 5 rfl rfl, ⟨by decide +kernel, by decide +kernel, by decide +kernel⟩, Or.inl (zc_g3 81 rfl rfl)⟩, zc_g3 83 rfl rfl, zc_gs 23 rfl rfl⟩
set_option maxRecDepth 20000 in
theorem wf_X3_37 : zc_F RX3 37 3 2 := ⟨RX3, TX3, 14, rfl, by decide, gwX3, Or.inl (zc_g1 153 rfl rfl)⟩
set_option maxRecDepth 20000 in
theorem wf_X3_41 : zc_F RX3 41 3 3 := ⟨RX3, TX3, 14, rfl, by decide, gwX3, Or.inl (zc_g1 154 rfl rfl)⟩
set_option maxRecDepth 20000 in
theorem wm_X3_72 : zc_Lv RX3 72 yX7_open cX7_open 4 none 2 := ⟨⟨zc_g3 33 rfl rfl, zc_g1 6 rfl rfl, ⟨by decide +kernel, by decide +kernel, by decide +kernel⟩, Or.inr ⟨"NextFigures", zc_n3 30 rfl rfl⟩⟩, zc_g3 32 rfl rfl, zc_gs 16 rfl rfl⟩
set_option maxRecDepth 20000 in
theorem wf_X3_76 : zc_F RX3 76 1 2 := ⟨RX1, TX1, 4, rfl, by decide, gwX1, Or.inr ⟨"NextFigures", zc_n1 79 rfl rfl⟩⟩
set_option maxRecDepth 20000 in
theorem wf_X3_79 : zc_F RX3 79 1 3 := ⟨RX1, TX1, 4, rfl, by decide, gwX1, Or.inr ⟨"NextFigures", zc_n1 82 rfl rfl⟩⟩
set_option maxRecDepth 20000 in
theorem wf_X3_45 : zc_F RX3 45 3 4 := ⟨RX3, TX3, 14, rfl, by decide, gwX3, Or.inl (zc_g1 155 rfl rfl)⟩
set_option maxRecDepth 20000 in
theorem wm_X3_82 : zc_Lv RX3 82 yX7_foretell cX7_foretell 5 (some .int) 4 := ⟨⟨zc_g3 39 rfl rfl, zc_g1 6 rfl rfl, ⟨by decide +kernel, by decide +kernel, by decide +kernel⟩, Or.inr ⟨"NextFigures", zc_n3 36 rfl rfl⟩⟩, zc_g3 38 rfl rfl, zc_gs 17 rfl rfl⟩
set_option maxRecDepth 20000 in
theorem wm_X3_86 : zc_Lv RX3 86 yX3_weightOf cX3_weightOf 9 (some .int) 3 := ⟨⟨zc_g3 88 rfl rfl, zc_g1 5 rfl rfl, ⟨by decide +kernel, by decide +kernel, by decide +kernel⟩, Or.inl (zc_g3 85 rfl rfl)⟩, zc_g3 87 rfl rfl, zc_gs 24 rfl rfl⟩
set_option maxRecDepth 20000 in
theorem wm_X3_90 : zc_Lv RX3 90 yX3_toldBy cX3_toldBy 4 (some .int) 2 := ⟨⟨zc_g3 92 rfl rfl, zc_g1 5 rfl rfl, ⟨by decide +kernel, by decide +kernel, by decide +kernel⟩, Or.inl (zc_g3 89 rfl rfl)⟩, zc_g3 91 rfl rfl, zc_gs 25 rfl rfl⟩
set_option maxRecDepth 20000 in
theorem wf_X3_24 : zc_F RX3 24 3 0 := ⟨RX3, TX3, 14, rfl, by decide, gwX3, Or.inl (zc_g1 151 rfl rfl)⟩
set_option maxRecDepth 20000 in
theorem wm_X3_93 : zc_Lv RX3 93 yX4_valueOn cX4_valueOn 6 (some .int) 3 := ⟨⟨zc_g2 101 rfl rfl, zc_g1 2 rfl rfl, ⟨by decide +kernel, by decide +kernel, by decide +kernel⟩, Or.inr ⟨"NextFigures", zc_n3 93 rfl rfl⟩⟩, zc_g2 100 rfl rfl, zc_gs 0 rfl rfl⟩
set_option maxRecDepth 20000 in
theorem wm_X3_98 : zc_Ls RX3 98 yJ9_abs_0f7a4 cJ9_abs_0f7a4 1 (some .int) 1 := ⟨⟨zc_g3 96 rfl rfl, zc_g1 15 rfl rfl, ⟨by decide +kernel, by decide +kernel, by decide +kernel⟩, Or.inl (zc_g3 94 rfl rfl)⟩, zc_g3 95 rfl rfl⟩
set_option maxRecDepth 20000 in
theorem wf_X3_102 : zc_F RX3 102 4 0 := ⟨RX4, TX4, 8, rfl, by decide, gwX4, Or.inr ⟨"NextFigures", zc_n1 34 rfl rfl⟩⟩
set_option maxRecDepth 20000 in
theorem wm_X3_105 : zc_Lv RX3 105 yX3_run cX3_run 9 none 5 := ⟨⟨zc_g3 19 rfl rfl, zc_g1 5 rfl rfl, ⟨by decide +kernel, by decide +kernel, by decide +kernel⟩, Or.inl (zc_g3 115 rfl rfl)⟩, zc_g3 18 rfl rfl, zc_gs 14 rfl rfl⟩
set_option maxRecDepth 20000 in
theorem wf_X3_15 : zc_F RX3 15 3 6 := ⟨RX3, TX3, 14, rfl, by decide, gwX3, Or.inl (zc_g1 157 rfl rfl)⟩
set_option maxRecDepth 20000 in
theorem wc_X3_109 : Cond.constant RX3 109 (-1000000) ∈ lw_good := zc_g3 116 rfl rfl
set_option maxRecDepth 20000 in
theorem wm_X3_110 : zc_Ls RX3 110 yJ7_fill_53178 cJ7_fill_53178 4 none 2 := ⟨⟨zc_g3 119 rfl rfl, zc_g1 16 rfl rfl, ⟨by decide +kernel, by decide +kernel, by decide +kernel⟩, Or.inl (zc_g3 117 rfl rfl)⟩, zc_g3 118 rfl rfl⟩
set_option maxRecDepth 20000 in
theorem wp_X3_116 : zc_Fp RX3 116 3 7 := ⟨RX3, TX3, 14, tyX3, rfl, by decide, gwX3, Or.inl (zc_g1 158 rfl rfl), tyX3_ok, nmX3, rfl, by decide +kernel⟩
set_option maxRecDepth 20000 in
theorem wp_X3_119 : zc_Fp RX3 119 3 8 := ⟨RX3, TX3, 14, tyX3, rfl, by decide, gwX3, Or.inl (zc_g1 160 rfl rfl), tyX3_ok, nmX3, rfl, by decide +kernel⟩
set_option maxRecDepth 20000 in
theorem wf_X3_116 : zc_F RX3 116 3 7 := ⟨RX3, TX3, 14, rfl, by decide, gwX3, Or.inl (zc_g1 158 rfl rfl)⟩
set_option maxRecDepth 20000 in
theorem wf_X3_119 : zc_F RX3 119 3 8 := ⟨RX3, TX3, 14, rfl, by decide, gwX3, Or.inl (zc_g1 160 rfl rfl)⟩
set_option maxRecDepth 20000 in
theorem wm_X3_122 : zc_Ls RX3 122 yX8_isDay cX8_isDay 1 (some .boolean) 1 := ⟨⟨zc_g2 90 rfl rfl, zc_g1 1 rfl rfl, ⟨by decide +kernel, by decide +kernel, by decide +kernel⟩, Or.inr ⟨"NextFigures", zc_n3 124 rfl rfl⟩⟩, zc_g2 89 rfl rfl⟩
set_option maxRecDepth 20000 in
theorem wm_X3_126 : zc_Lv RX3 126 yX3_missOf cX3_missOf 2 (some .int) 1 := ⟨⟨zc_g3 123 rfl rfl, zc_g1 5 rfl rfl, ⟨by decide +kernel, by decide +kernel, by decide +kernel⟩, Or.inl (zc_g3 136 rfl rfl)⟩, zc_g3 122 rfl rfl, zc_gs 28 rfl rfl⟩
set_option maxRecDepth 20000 in
theorem wm_X3_129 : zc_Lv RX3 129 yX3_sortIn cX3_sortIn 3 none 1 := ⟨⟨zc_g3 198 rfl rfl, zc_g1 5 rfl rfl, ⟨by decide +kernel, by decide +kernel, by decide +kernel⟩, Or.inl (zc_g3 195 rfl rfl)⟩, zc_g3 197 rfl rfl, zc_gs 38 rfl rfl⟩
set_option maxRecDepth 20000 in
theorem wf_X3_133 : zc_F RX3 133 3 10 := ⟨RX3, TX3, 14, rfl, by decide, gwX3, Or.inl (zc_g1 163 rfl rfl)⟩
set_option maxRecDepth 20000 in
theorem wf_X3_18 : zc_F RX3 18 3 9 := ⟨RX3, TX3, 14, rfl, by decide, gwX3, Or.inl (zc_g1 162 rfl rfl)⟩
set_option maxRecDepth 20000 in
theorem wp_X3_133 : zc_Fp RX3 133 3 10 := ⟨RX3, TX3, 14, tyX3, rfl, by decide, gwX3, Or.inl (zc_g1 163 rfl rfl), tyX3_ok, nmX3, rfl, by decide +kernel⟩
set_option maxRecDepth 20000 in
theorem wm_X3_136 : zc_Lv RX3 136 yX3_leastOver cX3_leastOver 4 (some .int) 2 := ⟨⟨zc_g3 206 rfl rfl, zc_g1 5 rfl rfl, ⟨by decide +kernel, by decide +kernel, by decide +kernel⟩, Or.inl (zc_g3 203 rfl rfl)⟩, zc_g3 205 rfl rfl, zc_gs 40 rfl rfl⟩
set_option maxRecDepth 20000 in
theorem wp_X3_139 : zc_Fp RX3 139 3 12 := ⟨RX3, TX3, 14, tyX3, rfl, by decide, gwX3, Or.inl (zc_g1 167 rfl rfl), tyX3_ok, nmX3, rfl, by decide +kernel⟩
set_option maxRecDepth 20000 in
theorem wp_X3_142 : zc_Fp RX3 142 3 13 := ⟨RX3, TX3, 14, tyX3, rfl, by decide, gwX3, Or.inl (zc_g1 169 rfl rfl), tyX3_ok, nmX3, rfl, by decide +kernel⟩
set_option maxRecDepth 20000 in
theorem wf_X3_21 : zc_F RX3 21 3 11 := ⟨RX3, TX3, 14, rfl, by decide, gwX3, Or.inl (zc_g1 165 rfl rfl)⟩
set_option maxRecDepth 20000 in
theorem wf_X3_139 : zc_F RX3 139 3 12 := ⟨RX3, TX3, 14, rfl, by decide, gwX3, Or.inl (zc_g1 167 rfl rfl)⟩
set_option maxRecDepth 20000 in
theorem wf_X3_145 : zc_F RX3 145 4 7 := ⟨RX4, TX4, 8, rfl, by decide, gwX4, Or.inr ⟨"NextFigures", zc_n1 45 rfl rfl⟩⟩
set_option maxRecDepth 20000 in
theorem wf_X3_142 : zc_F RX3 142 3 13 := ⟨RX3, TX3, 14, rfl, by decide, gwX3, Or.inl (zc_g1 169 rfl rfl)⟩
set_option maxRecDepth 20000 in
theorem wm_X3_149 : zc_Ls RX3 149 yX3_waysFrom cX3_waysFrom 5 (some .int) 5 := ⟨⟨zc_g4 23 rfl rfl, zc_g1 5 rfl rfl, ⟨by decide +kernel, by decide +kernel, by decide +kernel⟩, Or.inl (zc_g4 24 rfl rfl)⟩, zc_g4 22 rfl rfl⟩
set_option maxRecDepth 20000 in
theorem wm_X4_31 : zc_Ls RX4 31 yX8_isShop cX8_isShop 1 (some .boolean) 1 := ⟨⟨zc_g2 97 rfl rfl, zc_g1 1 rfl rfl, ⟨by decide +kernel, by decide +kernel, by decide +kernel⟩, Or.inr ⟨"NextFigures", zc_n2 102 rfl rfl⟩⟩, zc_g2 96 rfl rfl⟩
set_option maxRecDepth 20000 in
theorem wm_X4_35 : zc_Ls RX4 35 yX8_isDay cX8_isDay 1 (some .boolean) 1 := ⟨⟨zc_g2 90 rfl rfl, zc_g1 1 rfl rfl, ⟨by decide +kernel, by decide +kernel, by decide +kernel⟩, Or.inr ⟨"NextFigures", zc_n2 103 rfl rfl⟩⟩, zc_g2 89 rfl rfl⟩
set_option maxRecDepth 20000 in
theorem wf_X4_9 : zc_F RX4 9 4 2 := ⟨RX4, TX4, 8, rfl, by decide, gwX4, Or.inl (zc_g1 37 rfl rfl)⟩
set_option maxRecDepth 20000 in
theorem wf_X4_38 : zc_F RX4 38 4 1 := ⟨RX4, TX4, 8, rfl, by decide, gwX4, Or.inl (zc_g1 35 rfl rfl)⟩
set_option maxRecDepth 20000 in
theorem wf_X4_18 : zc_F RX4 18 4 4 := ⟨RX4, TX4, 8, rfl, by decide, gwX4, Or.inl (zc_g1 39 rfl rfl)⟩
set_option maxRecDepth 20000 in
theorem wf_X4_21 : zc_F RX4 21 4 5 := ⟨RX4, TX4, 8, rfl, by decide, gwX4, Or.inl (zc_g1 40 rfl rfl)⟩
set_option maxRecDepth 20000 in
theorem wf_X4_15 : zc_F RX4 15 4 3 := ⟨RX4, TX4, 8, rfl, by decide, gwX4, Or.inl (zc_g1 38 rfl rfl)⟩
set_option maxRecDepth 20000 in
theorem wf_X4_42 : zc_F RX4 42 4 0 := ⟨RX4, TX4, 8, rfl, by decide, gwX4, Or.inl (zc_g1 33 rfl rfl)⟩
set_option maxRecDepth 20000 in
theorem wp_X4_38 : zc_Fp RX4 38 4 1 := ⟨RX4, TX4, 8, tyX4, rfl, by decide, gwX4, Or.inl (zc_g1 35 rfl rfl), tyX4_ok, nmX4, rfl, by decide +kernel⟩
set_option maxRecDepth 20000 in
theorem wf_X4_24 : zc_F RX4 24 4 6 := ⟨RX4, TX4, 8, rfl, by decide, gwX4, Or.inl (zc_g1 41 rfl rfl)⟩
set_option maxRecDepth 20000 in
theorem wm_X4_45 : zc_Lv RX4 45 yX4_valueOn cX4_valueOn 6 (some .int) 3 := ⟨⟨zc_g2 101 rfl rfl, zc_g1 2 rfl rfl, ⟨by decide +kernel, by decide +kernel, by decide +kernel⟩, Or.inl (zc_g4 33 rfl rfl)⟩, zc_g2 100 rfl rfl, zc_gs 0 rfl rfl⟩
set_option maxRecDepth 20000 in
theorem wf_X5_9 : zc_F RX5 9 5 0 := ⟨RX5, TX5, 4, rfl, by decide, gwX5, Or.inl (zc_g2 47 rfl rfl)⟩
set_option maxRecDepth 20000 in
theorem wf_X5_15 : zc_F RX5 15 5 1 := ⟨RX5, TX5, 4, rfl, by decide, gwX5, Or.inl (zc_g2 49 rfl rfl)⟩
set_option maxRecDepth 20000 in
theorem wf_X5_18 : zc_F RX5 18 5 2 := ⟨RX5, TX5, 4, rfl, by decide, gwX5, Or.inl (zc_g2 51 rfl rfl)⟩
set_option maxRecDepth 20000 in
theorem wf_X6_22 : zc_F RX6 22 6 1 := ⟨RX6, TX6, 7, rfl, by decide, gwX6, Or.inl (zc_g1 102 rfl rfl)⟩
set_option maxRecDepth 20000 in
theorem wf_X6_9 : zc_F RX6 9 6 0 := ⟨RX6, TX6, 7, rfl, by decide, gwX6, Or.inl (zc_g1 101 rfl rfl)⟩
set_option maxRecDepth 20000 in
theorem wp_X6_22 : zc_Fp RX6 22 6 1 := ⟨RX6, TX6, 7, tyX6, rfl, by decide, gwX6, Or.inl (zc_g1 102 rfl rfl), tyX6_ok, nmX6, rfl, by decide +kernel⟩
set_option maxRecDepth 20000 in
theorem wf_X6_18 : zc_F RX6 18 6 2 := ⟨RX6, TX6, 7, rfl, by decide, gwX6, Or.inl (zc_g1 104 rfl rfl)⟩
set_option maxRecDepth 20000 in
theorem wp_X6_26 : zc_Fp RX6 26 1 0 := ⟨RX1, TX1, 4, tyX1, rfl, by decide, gwX1, Or.inr ⟨"NextFigures", zc_n1 73 rfl rfl⟩, tyX1_ok, nmX1, rfl, by decide +kernel⟩
set_option maxRecDepth 20000 in
theorem wp_X6_29 : zc_Fp RX6 29 6 3 := ⟨RX6, TX6, 7, tyX6, rfl, by decide, gwX6, Or.inl (zc_g1 106 rfl rfl), tyX6_ok, nmX6, rfl, by decide +kernel⟩
set_option maxRecDepth 20000 in
theorem wp_X6_32 : zc_Fp RX6 32 6 6 := ⟨RX6, TX6, 7, tyX6, rfl, by decide, gwX6, Or.inl (zc_g1 111 rfl rfl), tyX6_ok, nmX6, rfl, by decide +kernel⟩
set_option maxRecDepth 20000 in
theorem wm_X6_35 : zc_Lv RX6 35 yX6_advance cX6_advance 1 none 0 := ⟨⟨zc_g2 139 rfl rfl, zc_g1 4 rfl rfl, ⟨by decide +kernel, by decide +kernel, by decide +kernel⟩, Or.inl (zc_g2 136 rfl rfl)⟩, zc_g2 138 rfl rfl, zc_gs 4 rfl rfl⟩
set_option maxRecDepth 20000 in
theorem wf_X6_29 : zc_F RX6 29 6 3 := ⟨RX6, TX6, 7, rfl, by decide, gwX6, Or.inl (zc_g1 106 rfl rfl)⟩
set_option maxRecDepth 20000 in
theorem wf_X6_38 : zc_F RX6 38 6 4 := ⟨RX6, TX6, 7, rfl, by decide, gwX6, Or.inl (zc_g1 108 rfl rfl)⟩
set_option maxRecDepth 20000 in
theorem wm_X6_41 : zc_Lv RX6 41 yX6_readLine cX6_readLine 4 none 0 := ⟨⟨zc_g2 149 rfl rfl, zc_g1 4 rfl rfl, ⟨by decide +kernel, by decide +kernel, by decide +kernel⟩, Or.inl (zc_g2 146 rfl rfl)⟩, zc_g2 148 rfl rfl, zc_gs 5 rfl rfl⟩
set_option maxRecDepth 20000 in
theorem wm_X6_44 : zc_Lv RX6 44 yX6_kindOfName cX6_kindOfName 1 (some .int) 0 := ⟨⟨zc_g2 153 rfl rfl, zc_g1 4 rfl rfl, ⟨by decide +kernel, by decide +kernel, by decide +kernel⟩, Or.inl (zc_g2 150 rfl rfl)⟩, zc_g2 152 rfl rfl, zc_gs 6 rfl rfl⟩
set_option maxRecDepth 20000 in
theorem wf_X6_26 : zc_F RX6 26 1 0 := ⟨RX1, TX1, 4, rfl, by decide, gwX1, Or.inr ⟨"NextFigures", zc_n1 73 rfl rfl⟩⟩
set_option maxRecDepth 20000 in
theorem wm_X6_48 : zc_Lv RX6 48 yX6_readNumber cX6_readNumber 4 (some .int) 1 := ⟨⟨zc_g2 214 rfl rfl, zc_g1 4 rfl rfl, ⟨by decide +kernel, by decide +kernel, by decide +kernel⟩, Or.inl (zc_g2 211 rfl rfl)⟩, zc_g2 213 rfl rfl, zc_gs 8 rfl rfl⟩
set_option maxRecDepth 20000 in
theorem wm_X6_52 : zc_Lv RX6 52 yX6_expect cX6_expect 2 none 1 := ⟨⟨zc_g2 218 rfl rfl, zc_g1 4 rfl rfl, ⟨by decide +kernel, by decide +kernel, by decide +kernel⟩, Or.inl (zc_g2 215 rfl rfl)⟩, zc_g2 217 rfl rfl, zc_gs 9 rfl rfl⟩
set_option maxRecDepth 20000 in
theorem wm_X6_56 : zc_Lv RX6 56 yX1_add cX1_add 4 none 3 := ⟨⟨zc_g2 226 rfl rfl, zc_g1 3 rfl rfl, ⟨by decide +kernel, by decide +kernel, by decide +kernel⟩, Or.inr ⟨"NextFigures", zc_n2 223 rfl rfl⟩⟩, zc_g2 225 rfl rfl, zc_gs 10 rfl rfl⟩
set_option maxRecDepth 20000 in
theorem wf_X6_60 : zc_F RX6 60 6 5 := ⟨RX6, TX6, 7, rfl, by decide, gwX6, Or.inl (zc_g1 109 rfl rfl)⟩
set_option maxRecDepth 20000 in
theorem wf_X6_32 : zc_F RX6 32 6 6 := ⟨RX6, TX6, 7, rfl, by decide, gwX6, Or.inl (zc_g1 111 rfl rfl)⟩
set_option maxRecDepth 20000 in
theorem ws_X6_63 : Cond.fieldLink RX6 63 RX6 "LEAST" "[I" ∈ lw_good := zc_g2 219 rfl rfl
set_option maxRecDepth 20000 in
theorem ws_X6_66 : Cond.fieldLink RX6 66 RX6 "MOST" "[I" ∈ lw_good := zc_g2 221 rfl rfl
set_option maxRecDepth 20000 in
theorem wp_X6_60 : zc_Fp RX6 60 6 5 := ⟨RX6, TX6, 7, tyX6, rfl, by decide, gwX6, Or.inl (zc_g1 109 rfl rfl), tyX6_ok, nmX6, rfl, by decide +kernel⟩
set_option maxRecDepth 20000 in
theorem wp_X6_38 : zc_Fp RX6 38 6 4 := ⟨RX6, TX6, 7, tyX6, rfl, by decide, gwX6, Or.inl (zc_g1 108 rfl rfl), tyX6_ok, nmX6, rfl, by decide +kernel⟩
set_option maxRecDepth 20000 in
theorem wm_X6_69 : zc_Ls RX6 69 yX6_isLetter cX6_isLetter 1 (some .boolean) 1 := ⟨⟨zc_g2 142 rfl rfl, zc_g1 4 rfl rfl, ⟨by decide +kernel, by decide +kernel, by decide +kernel⟩, Or.inl (zc_g2 140 rfl rfl)⟩, zc_g2 141 rfl rfl⟩
set_option maxRecDepth 20000 in
theorem wm_X6_73 : zc_Ls RX6 73 yX6_isDigit cX6_isDigit 1 (some .boolean) 1 := ⟨⟨zc_g2 145 rfl rfl, zc_g1 4 rfl rfl, ⟨by decide +kernel, by decide +kernel, by decide +kernel⟩, Or.inl (zc_g2 143 rfl rfl)⟩, zc_g2 144 rfl rfl⟩
set_option maxRecDepth 20000 in
theorem wm_X6_78 : zc_Lv RX6 78 yX6_isName cX6_isName 3 (some .boolean) 1 := ⟨⟨zc_g2 158 rfl rfl, zc_g1 4 rfl rfl, ⟨by decide +kernel, by decide +kernel, by decide +kernel⟩, Or.inl (zc_g2 155 rfl rfl)⟩, zc_g2 157 rfl rfl, zc_gs 7 rfl rfl⟩
set_option maxRecDepth 20000 in
theorem wm_X6_90 : zc_Lv RX6 90 yJ0_length_8abf5 cJ0_length_8abf5 1 (some .int) 0 := ⟨⟨zc_g2 162 rfl rfl, zc_g1 11 rfl rfl, ⟨by decide +kernel, by decide +kernel, by decide +kernel⟩, Or.inl (zc_g2 159 rfl rfl)⟩, zc_g2 160 rfl rfl, zc_g2 161 rfl rfl⟩
set_option maxRecDepth 20000 in
theorem wm_X6_94 : zc_Lv RX6 94 yJ0_charAt_5068e cJ0_charAt_5068e 2 (some .char) 1 := ⟨⟨zc_g2 172 rfl rfl, zc_g1 11 rfl rfl, ⟨by decide +kernel, by decide +kernel, by decide +kernel⟩, Or.inl (zc_g2 169 rfl rfl)⟩, zc_g2 170 rfl rfl, zc_g2 171 rfl rfl⟩
set_option maxRecDepth 20000 in
theorem wm_X7_19 : zc_Ls RX7 19 yJ9_min_7cf53 cJ9_min_7cf53 2 (some .int) 2 := ⟨⟨zc_g3 25 rfl rfl, zc_g1 15 rfl rfl, ⟨by decide +kernel, by decide +kernel, by decide +kernel⟩, Or.inl (zc_g3 34 rfl rfl)⟩, zc_g3 24 rfl rfl⟩
set_option maxRecDepth 20000 in
theorem wp_X7_25 : zc_Fp RX7 25 7 2 := ⟨RX7, TX7, 3, tyX7, rfl, by decide, gwX7, Or.inl (zc_g1 142 rfl rfl), tyX7_ok, nmX7, rfl, by decide +kernel⟩
set_option maxRecDepth 20000 in
theorem wf_X7_25 : zc_F RX7 25 7 2 := ⟨RX7, TX7, 3, rfl, by decide, gwX7, Or.inl (zc_g1 142 rfl rfl)⟩
set_option maxRecDepth 20000 in
theorem wf_X7_9 : zc_F RX7 9 7 1 := ⟨RX7, TX7, 3, rfl, by decide, gwX7, Or.inl (zc_g1 140 rfl rfl)⟩
set_option maxRecDepth 20000 in
theorem wf_X7_15 : zc_F RX7 15 7 0 := ⟨RX7, TX7, 3, rfl, by decide, gwX7, Or.inl (zc_g1 139 rfl rfl)⟩
set_option maxRecDepth 20000 in
theorem wm_X7_29 : zc_Lv RX7 29 yX4_valueOn cX4_valueOn 6 (some .int) 3 := ⟨⟨zc_g2 101 rfl rfl, zc_g1 2 rfl rfl, ⟨by decide +kernel, by decide +kernel, by decide +kernel⟩, Or.inr ⟨"NextFigures", zc_n3 35 rfl rfl⟩⟩, zc_g2 100 rfl rfl, zc_gs 0 rfl rfl⟩
set_option maxRecDepth 20000 in
theorem wm_X7_35 : zc_Lv RX7 35 yX7_bySame cX7_bySame 4 (some .int) 2 := ⟨⟨zc_g3 43 rfl rfl, zc_g1 6 rfl rfl, ⟨by decide +kernel, by decide +kernel, by decide +kernel⟩, Or.inl (zc_g3 40 rfl rfl)⟩, zc_g3 42 rfl rfl, zc_gs 18 rfl rfl⟩
set_option maxRecDepth 20000 in
theorem wm_X7_38 : zc_Lv RX7 38 yX7_byMean cX7_byMean 5 (some .int) 1 := ⟨⟨zc_g3 47 rfl rfl, zc_g1 6 rfl rfl, ⟨by decide +kernel, by decide +kernel, by decide +kernel⟩, Or.inl (zc_g3 44 rfl rfl)⟩, zc_g3 46 rfl rfl, zc_gs 19 rfl rfl⟩
set_option maxRecDepth 20000 in
theorem wm_X7_42 : zc_Lv RX7 42 yX7_byStep cX7_byStep 13 (some .int) 3 := ⟨⟨zc_g3 51 rfl rfl, zc_g1 6 rfl rfl, ⟨by decide +kernel, by decide +kernel, by decide +kernel⟩, Or.inl (zc_g3 48 rfl rfl)⟩, zc_g3 50 rfl rfl, zc_gs 20 rfl rfl⟩
set_option maxRecDepth 20000 in
theorem wm_X7_45 : zc_Lv RX7 45 yX7_byLike cX7_byLike 7 (some .int) 2 := ⟨⟨zc_g3 76 rfl rfl, zc_g1 6 rfl rfl, ⟨by decide +kernel, by decide +kernel, by decide +kernel⟩, Or.inl (zc_g3 73 rfl rfl)⟩, zc_g3 75 rfl rfl, zc_gs 21 rfl rfl⟩
set_option maxRecDepth 20000 in
theorem wm_X7_48 : zc_Ls RX7 48 yX7_levelAfter cX7_levelAfter 7 (some .long) 5 := ⟨⟨zc_g3 54 rfl rfl, zc_g1 6 rfl rfl, ⟨by decide +kernel, by decide +kernel, by decide +kernel⟩, Or.inl (zc_g3 52 rfl rfl)⟩, zc_g3 53 rfl rfl⟩
set_option maxRecDepth 20000 in
theorem wm_X7_52 : zc_Ls RX7 52 yX7_slopeAfter cX7_slopeAfter 7 (some .long) 5 := ⟨⟨zc_g3 62 rfl rfl, zc_g1 6 rfl rfl, ⟨by decide +kernel, by decide +kernel, by decide +kernel⟩, Or.inl (zc_g3 60 rfl rfl)⟩, zc_g3 61 rfl rfl⟩
set_option maxRecDepth 20000 in
theorem wm_X7_55 : zc_Ls RX7 55 yX7_toldByStep cX7_toldByStep 7 (some .int) 3 := ⟨⟨zc_g3 65 rfl rfl, zc_g1 6 rfl rfl, ⟨by decide +kernel, by decide +kernel, by decide +kernel⟩, Or.inl (zc_g3 63 rfl rfl)⟩, zc_g3 64 rfl rfl⟩
set_option maxRecDepth 20000 in
theorem wm_X7_59 : zc_Lv RX7 59 yX4_isFeast cX4_isFeast 2 (some .boolean) 1 := ⟨⟨zc_g3 80 rfl rfl, zc_g1 2 rfl rfl, ⟨by decide +kernel, by decide +kernel, by decide +kernel⟩, Or.inr ⟨"NextFigures", zc_n3 77 rfl rfl⟩⟩, zc_g3 79 rfl rfl, zc_gs 22 rfl rfl⟩
set_option maxRecDepth 20000 in
theorem wc_X7_63 : Cond.constantLong RX7 63 100 ∈ lw_good := zc_g3 55 rfl rfl
set_option maxRecDepth 20000 in
theorem wc_X7_65 : Cond.constantLong RX7 65 10 ∈ lw_good := zc_g3 56 rfl rfl
set_option maxRecDepth 20000 in
theorem wm_X7_67 : zc_Ls RX7 67 yJ9_floorDiv_f86c9 cJ9_floorDiv_f86c9 6 (some .long) 2 := ⟨⟨zc_g3 59 rfl rfl, zc_g1 15 rfl rfl, ⟨by decide +kernel, by decide +kernel, by decide +kernel⟩, Or.inl (zc_g3 57 rfl rfl)⟩, zc_g3 58 rfl rfl⟩
set_option maxRecDepth 20000 in
theorem wc_X7_71 : Cond.constantLong RX7 71 999 ∈ lw_good := zc_g3 66 rfl rfl
set_option maxRecDepth 20000 in
theorem wm_X7_73 : zc_Ls RX7 73 yJ9_min_f86c9 cJ9_min_f86c9 4 (some .long) 2 := ⟨⟨zc_g3 69 rfl rfl, zc_g1 15 rfl rfl, ⟨by decide +kernel, by decide +kernel, by decide +kernel⟩, Or.inl (zc_g3 67 rfl rfl)⟩, zc_g3 68 rfl rfl⟩
set_option maxRecDepth 20000 in
theorem wm_X7_75 : zc_Ls RX7 75 yJ9_max_f86c9 cJ9_max_f86c9 4 (some .long) 2 := ⟨⟨zc_g3 72 rfl rfl, zc_g1 15 rfl rfl, ⟨by decide +kernel, by decide +kernel, by decide +kernel⟩, Or.inl (zc_g3 70 rfl rfl)⟩, zc_g3 71 rfl rfl⟩
set_option maxRecDepth 20000 in
theorem wm_X8_62 : zc_Ls RX8 62 yX8_isDay cX8_isDay 1 (some .boolean) 1 := ⟨⟨zc_g2 90 rfl rfl, zc_g1 1 rfl rfl, ⟨by decide +kernel, by decide +kernel, by decide +kernel⟩, Or.inl (zc_g2 88 rfl rfl)⟩, zc_g2 89 rfl rfl⟩
set_option maxRecDepth 20000 in
theorem wf_X8_15 : zc_F RX8 15 8 0 := ⟨RX8, TX8, 7, rfl, by decide, gwX8, Or.inl (zc_g2 62 rfl rfl)⟩
set_option maxRecDepth 20000 in
theorem wf_X8_66 : zc_F RX8 66 4 0 := ⟨RX4, TX4, 8, rfl, by decide, gwX4, Or.inr ⟨"NextFigures", zc_n1 31 rfl rfl⟩⟩
set_option maxRecDepth 20000 in
theorem wp_X8_66 : zc_Fp RX8 66 4 0 := ⟨RX4, TX4, 8, tyX4, rfl, by decide, gwX4, Or.inr ⟨"NextFigures", zc_n1 31 rfl rfl⟩, tyX4_ok, nmX4, rfl, by decide +kernel⟩
set_option maxRecDepth 20000 in
theorem wm_X8_70 : zc_Ls RX8 70 yX8_isShop cX8_isShop 1 (some .boolean) 1 := ⟨⟨zc_g2 97 rfl rfl, zc_g1 1 rfl rfl, ⟨by decide +kernel, by decide +kernel, by decide +kernel⟩, Or.inl (zc_g2 95 rfl rfl)⟩, zc_g2 96 rfl rfl⟩
set_option maxRecDepth 20000 in
theorem wf_X8_73 : zc_F RX8 73 4 1 := ⟨RX4, TX4, 8, rfl, by decide, gwX4, Or.inr ⟨"NextFigures", zc_n1 36 rfl rfl⟩⟩
set_option maxRecDepth 20000 in
theorem wm_X8_76 : zc_Lv RX8 76 yX4_valueOn cX4_valueOn 6 (some .int) 3 := ⟨⟨zc_g2 101 rfl rfl, zc_g1 2 rfl rfl, ⟨by decide +kernel, by decide +kernel, by decide +kernel⟩, Or.inr ⟨"NextFigures", zc_n2 98 rfl rfl⟩⟩, zc_g2 100 rfl rfl, zc_gs 0 rfl rfl⟩
set_option maxRecDepth 20000 in
theorem wm_X8_80 : zc_Lv RX8 80 yX4_tell cX4_tell 5 none 3 := ⟨⟨zc_g2 107 rfl rfl, zc_g1 2 rfl rfl, ⟨by decide +kernel, by decide +kernel, by decide +kernel⟩, Or.inr ⟨"NextFigures", zc_n2 104 rfl rfl⟩⟩, zc_g2 106 rfl rfl, zc_gs 1 rfl rfl⟩
set_option maxRecDepth 20000 in
theorem wf_X8_84 : zc_F RX8 84 4 6 := ⟨RX4, TX4, 8, rfl, by decide, gwX4, Or.inr ⟨"NextFigures", zc_n1 42 rfl rfl⟩⟩
set_option maxRecDepth 20000 in
theorem wf_X8_88 : zc_F RX8 88 4 7 := ⟨RX4, TX4, 8, rfl, by decide, gwX4, Or.inr ⟨"NextFigures", zc_n1 44 rfl rfl⟩⟩
set_option maxRecDepth 20000 in
theorem wf_X8_22 : zc_F RX8 22 8 1 := ⟨RX8, TX8, 7, rfl, by decide, gwX8, Or.inl (zc_g2 63 rfl rfl)⟩
set_option maxRecDepth 20000 in
theorem wm_X8_91 : zc_Lv RX8 91 yX6_push cX6_push 4 (some .int) 1 := ⟨⟨zc_g2 123 rfl rfl, zc_g1 4 rfl rfl, ⟨by decide +kernel, by decide +kernel, by decide +kernel⟩, Or.inr ⟨"NextFigures", zc_n2 120 rfl rfl⟩⟩, zc_g2 122 rfl rfl, zc_gs 2 rfl rfl⟩
set_option maxRecDepth 20000 in
theorem wf_X8_95 : zc_F RX8 95 6 1 := ⟨RX6, TX6, 7, rfl, by decide, gwX6, Or.inr ⟨"NextFigures", zc_n1 103 rfl rfl⟩⟩
set_option maxRecDepth 20000 in
theorem wp_X8_95 : zc_Fp RX8 95 6 1 := ⟨RX6, TX6, 7, tyX6, rfl, by decide, gwX6, Or.inr ⟨"NextFigures", zc_n1 103 rfl rfl⟩, tyX6_ok, nmX6, rfl, by decide +kernel⟩
set_option maxRecDepth 20000 in
theorem wm_X8_98 : zc_Lv RX8 98 yX6_readAll cX6_readAll 2 none 0 := ⟨⟨zc_g2 135 rfl rfl, zc_g1 4 rfl rfl, ⟨by decide +kernel, by decide +kernel, by decide +kernel⟩, Or.inr ⟨"NextFigures", zc_n2 132 rfl rfl⟩⟩, zc_g2 134 rfl rfl, zc_gs 3 rfl rfl⟩
set_option maxRecDepth 20000 in
theorem wf_X8_101 : zc_F RX8 101 6 3 := ⟨RX6, TX6, 7, rfl, by decide, gwX6, Or.inr ⟨"NextFigures", zc_n1 107 rfl rfl⟩⟩
set_option maxRecDepth 20000 in
theorem wf_X8_104 : zc_F RX8 104 6 5 := ⟨RX6, TX6, 7, rfl, by decide, gwX6, Or.inr ⟨"NextFigures", zc_n1 110 rfl rfl⟩⟩
set_option maxRecDepth 20000 in
theorem wf_X8_26 : zc_F RX8 26 8 2 := ⟨RX8, TX8, 7, rfl, by decide, gwX8, Or.inl (zc_g2 64 rfl rfl)⟩
set_option maxRecDepth 20000 in
theorem wf_X8_107 : zc_F RX8 107 6 2 := ⟨RX6, TX6, 7, rfl, by decide, gwX6, Or.inr ⟨"NextFigures", zc_n1 105 rfl rfl⟩⟩
set_option maxRecDepth 20000 in
theorem wm_X8_110 : zc_Lv RX8 110 yX1_copy cX1_copy 3 none 1 := ⟨⟨zc_g2 230 rfl rfl, zc_g1 3 rfl rfl, ⟨by decide +kernel, by decide +kernel, by decide +kernel⟩, Or.inr ⟨"NextFigures", zc_n2 227 rfl rfl⟩⟩, zc_g2 229 rfl rfl, zc_gs 11 rfl rfl⟩
set_option maxRecDepth 20000 in
theorem wf_X8_114 : zc_F RX8 114 1 0 := ⟨RX1, TX1, 4, rfl, by decide, gwX1, Or.inr ⟨"NextFigures", zc_n1 74 rfl rfl⟩⟩
set_option maxRecDepth 20000 in
theorem wm_X8_117 : zc_Lv RX8 117 yX8_isTeller cX8_isTeller 2 (some .boolean) 1 := ⟨⟨zc_g3 4 rfl rfl, zc_g1 1 rfl rfl, ⟨by decide +kernel, by decide +kernel, by decide +kernel⟩, Or.inl (zc_g3 1 rfl rfl)⟩, zc_g3 3 rfl rfl, zc_gs 12 rfl rfl⟩
set_option maxRecDepth 20000 in
theorem wf_X8_120 : zc_F RX8 120 1 1 := ⟨RX1, TX1, 4, rfl, by decide, gwX1, Or.inr ⟨"NextFigures", zc_n1 77 rfl rfl⟩⟩
set_option maxRecDepth 20000 in
theorem wf_X8_124 : zc_F RX8 124 1 2 := ⟨RX1, TX1, 4, rfl, by decide, gwX1, Or.inr ⟨"NextFigures", zc_n1 80 rfl rfl⟩⟩
set_option maxRecDepth 20000 in
theorem wf_X8_127 : zc_F RX8 127 1 3 := ⟨RX1, TX1, 4, rfl, by decide, gwX1, Or.inr ⟨"NextFigures", zc_n1 83 rfl rfl⟩⟩
set_option maxRecDepth 20000 in
theorem wm_X8_130 : zc_Lv RX8 130 yX8_isAsked cX8_isAsked 4 (some .boolean) 3 := ⟨⟨zc_g3 12 rfl rfl, zc_g1 1 rfl rfl, ⟨by decide +kernel, by decide +kernel, by decide +kernel⟩, Or.inl (zc_g3 9 rfl rfl)⟩, zc_g3 11 rfl rfl, zc_gs 13 rfl rfl⟩
set_option maxRecDepth 20000 in
theorem wf_X8_35 : zc_F RX8 35 8 3 := ⟨RX8, TX8, 7, rfl, by decide, gwX8, Or.inl (zc_g2 65 rfl rfl)⟩
set_option maxRecDepth 20000 in
theorem wm_X8_134 : zc_Lv RX8 134 yX3_run cX3_run 9 none 5 := ⟨⟨zc_g3 19 rfl rfl, zc_g1 5 rfl rfl, ⟨by decide +kernel, by decide +kernel, by decide +kernel⟩, Or.inr ⟨"NextFigures", zc_n3 16 rfl rfl⟩⟩, zc_g3 18 rfl rfl, zc_gs 14 rfl rfl⟩
set_option maxRecDepth 20000 in
theorem wm_X8_138 : zc_Lv RX8 138 yX3_toldBy cX3_toldBy 4 (some .int) 2 := ⟨⟨zc_g3 92 rfl rfl, zc_g1 5 rfl rfl, ⟨by decide +kernel, by decide +kernel, by decide +kernel⟩, Or.inr ⟨"NextFigures", zc_n3 97 rfl rfl⟩⟩, zc_g3 91 rfl rfl, zc_gs 25 rfl rfl⟩
set_option maxRecDepth 20000 in
theorem wm_X8_142 : zc_Lv RX8 142 yX8_isJoinedTo cX8_isJoinedTo 3 (some .boolean) 2 := ⟨⟨zc_g3 105 rfl rfl, zc_g1 1 rfl rfl, ⟨by decide +kernel, by decide +kernel, by decide +kernel⟩, Or.inl (zc_g3 102 rfl rfl)⟩, zc_g3 104 rfl rfl, zc_gs 26 rfl rfl⟩
set_option maxRecDepth 20000 in
theorem wm_X8_146 : zc_Lv RX8 146 yX3_weightOf cX3_weightOf 9 (some .int) 3 := ⟨⟨zc_g3 88 rfl rfl, zc_g1 5 rfl rfl, ⟨by decide +kernel, by decide +kernel, by decide +kernel⟩, Or.inr ⟨"NextFigures", zc_n3 106 rfl rfl⟩⟩, zc_g3 87 rfl rfl, zc_gs 24 rfl rfl⟩
set_option maxRecDepth 20000 in
theorem wm_X8_149 : zc_Lv RX8 149 yX3_compare cX3_compare 9 none 5 := ⟨⟨zc_g3 114 rfl rfl, zc_g1 5 rfl rfl, ⟨by decide +kernel, by decide +kernel, by decide +kernel⟩, Or.inr ⟨"NextFigures", zc_n3 111 rfl rfl⟩⟩, zc_g3 113 rfl rfl, zc_gs 27 rfl rfl⟩
set_option maxRecDepth 20000 in
theorem wm_X8_152 : zc_Lv RX8 152 yX3_missOf cX3_missOf 2 (some .int) 1 := ⟨⟨zc_g3 123 rfl rfl, zc_g1 5 rfl rfl, ⟨by decide +kernel, by decide +kernel, by decide +kernel⟩, Or.inr ⟨"NextFigures", zc_n3 120 rfl rfl⟩⟩, zc_g3 122 rfl rfl, zc_gs 28 rfl rfl⟩
set_option maxRecDepth 20000 in
theorem wm_X8_156 : zc_Ls RX8 156 yX8_areDays cX8_areDays 2 (some .boolean) 2 := ⟨⟨zc_g3 131 rfl rfl, zc_g1 1 rfl rfl, ⟨by decide +kernel, by decide +kernel, by decide +kernel⟩, Or.inl (zc_g3 129 rfl rfl)⟩, zc_g3 130 rfl rfl⟩
set_option maxRecDepth 20000 in
theorem wf_X8_159 : zc_F RX8 159 3 7 := ⟨RX3, TX3, 14, rfl, by decide, gwX3, Or.inr ⟨"NextFigures", zc_n1 159 rfl rfl⟩⟩
set_option maxRecDepth 20000 in
theorem wf_X8_162 : zc_F RX8 162 3 8 := ⟨RX3, TX3, 14, rfl, by decide, gwX3, Or.inr ⟨"NextFigures", zc_n1 161 rfl rfl⟩⟩
set_option maxRecDepth 20000 in
theorem wm_X8_165 : zc_Lv RX8 165 yX3_worstDay cX3_worstDay 5 (some .int) 2 := ⟨⟨zc_g3 135 rfl rfl, zc_g1 5 rfl rfl, ⟨by decide +kernel, by decide +kernel, by decide +kernel⟩, Or.inr ⟨"NextFigures", zc_n3 132 rfl rfl⟩⟩, zc_g3 134 rfl rfl, zc_gs 29 rfl rfl⟩
set_option maxRecDepth 20000 in
theorem wm_X8_168 : zc_Ls RX8 168 yX8_isAhead cX8_isAhead 1 (some .boolean) 1 := ⟨⟨zc_g3 15 rfl rfl, zc_g1 1 rfl rfl, ⟨by decide +kernel, by decide +kernel, by decide +kernel⟩, Or.inl (zc_g3 13 rfl rfl)⟩, zc_g3 14 rfl rfl⟩
set_option maxRecDepth 20000 in
theorem wf_X8_44 : zc_F RX8 44 8 4 := ⟨RX8, TX8, 7, rfl, by decide, gwX8, Or.inl (zc_g2 66 rfl rfl)⟩
set_option maxRecDepth 20000 in
theorem wm_X8_171 : zc_Lv RX8 171 yX0_run cX0_run 8 none 5 := ⟨⟨zc_g3 148 rfl rfl, zc_g1 7 rfl rfl, ⟨by decide +kernel, by decide +kernel, by decide +kernel⟩, Or.inr ⟨"NextFigures", zc_n3 145 rfl rfl⟩⟩, zc_g3 147 rfl rfl, zc_gs 30 rfl rfl⟩
set_option maxRecDepth 20000 in
theorem wm_X8_172 : zc_Lv RX8 172 yX0_bestPoint cX0_bestPoint 5 (some .int) 0 := ⟨⟨zc_g3 183 rfl rfl, zc_g1 7 rfl rfl, ⟨by decide +kernel, by decide +kernel, by decide +kernel⟩, Or.inr ⟨"NextFigures", zc_n3 180 rfl rfl⟩⟩, zc_g3 182 rfl rfl, zc_gs 36 rfl rfl⟩
set_option maxRecDepth 20000 in
theorem wf_X8_176 : zc_F RX8 176 0 3 := ⟨RX0, TX0, 10, rfl, by decide, gwX0, Or.inr ⟨"NextFigures", zc_n1 212 rfl rfl⟩⟩
set_option maxRecDepth 20000 in
theorem wf_X8_179 : zc_F RX8 179 0 4 := ⟨RX0, TX0, 10, rfl, by decide, gwX0, Or.inr ⟨"NextFigures", zc_n1 214 rfl rfl⟩⟩
set_option maxRecDepth 20000 in
theorem wm_X8_182 : zc_Ls RX8 182 yX8_isPercent cX8_isPercent 1 (some .boolean) 1 := ⟨⟨zc_g3 190 rfl rfl, zc_g1 1 rfl rfl, ⟨by decide +kernel, by decide +kernel, by decide +kernel⟩, Or.inl (zc_g3 188 rfl rfl)⟩, zc_g3 189 rfl rfl⟩
set_option maxRecDepth 20000 in
theorem wp_X8_185 : zc_Fp RX8 185 3 10 := ⟨RX3, TX3, 14, tyX3, rfl, by decide, gwX3, Or.inr ⟨"NextFigures", zc_n1 164 rfl rfl⟩, tyX3_ok, nmX3, rfl, by decide +kernel⟩
set_option maxRecDepth 20000 in
theorem wm_X8_188 : zc_Lv RX8 188 yX3_sortMiss cX3_sortMiss 3 none 1 := ⟨⟨zc_g3 194 rfl rfl, zc_g1 5 rfl rfl, ⟨by decide +kernel, by decide +kernel, by decide +kernel⟩, Or.inr ⟨"NextFigures", zc_n3 191 rfl rfl⟩⟩, zc_g3 193 rfl rfl, zc_gs 37 rfl rfl⟩
set_option maxRecDepth 20000 in
theorem wm_X8_192 : zc_Lv RX8 192 yX3_spanOf cX3_spanOf 3 (some .int) 1 := ⟨⟨zc_g3 202 rfl rfl, zc_g1 5 rfl rfl, ⟨by decide +kernel, by decide +kernel, by decide +kernel⟩, Or.inr ⟨"NextFigures", zc_n3 199 rfl rfl⟩⟩, zc_g3 201 rfl rfl, zc_gs 39 rfl rfl⟩
set_option maxRecDepth 20000 in
theorem wf_X8_185 : zc_F RX8 185 3 10 := ⟨RX3, TX3, 14, rfl, by decide, gwX3, Or.inr ⟨"NextFigures", zc_n1 164 rfl rfl⟩⟩
set_option maxRecDepth 20000 in
theorem wc_X8_195 : Cond.constantLong RX8 195 1000000000000 ∈ lw_good := zc_g3 219 rfl rfl
set_option maxRecDepth 20000 in
theorem wc_X8_197 : Cond.constant RX8 197 100000000 ∈ lw_good := zc_g3 220 rfl rfl
set_option maxRecDepth 20000 in
theorem wc_X8_198 : Cond.constant RX8 198 (-100000) ∈ lw_good := zc_g3 221 rfl rfl
set_option maxRecDepth 20000 in
theorem wm_X8_199 : zc_Ls RX8 199 yX8_numberAt cX8_numberAt 6 (some .int) 2 := ⟨⟨zc_g3 224 rfl rfl, zc_g1 1 rfl rfl, ⟨by decide +kernel, by decide +kernel, by decide +kernel⟩, Or.inl (zc_g3 222 rfl rfl)⟩, zc_g3 223 rfl rfl⟩
set_option maxRecDepth 20000 in
theorem wm_X8_203 : zc_Ls RX8 203 yX8_weightAt cX8_weightAt 4 (some .int) 2 := ⟨⟨zc_g3 228 rfl rfl, zc_g1 1 rfl rfl, ⟨by decide +kernel, by decide +kernel, by decide +kernel⟩, Or.inl (zc_g3 226 rfl rfl)⟩, zc_g3 227 rfl rfl⟩
set_option maxRecDepth 20000 in
theorem wc_X8_206 : Cond.constant RX8 206 (-100004) ∈ lw_good := zc_g3 229 rfl rfl
set_option maxRecDepth 20000 in
theorem wm_X8_207 : zc_Ls RX8 207 yJ9_abs_0f7a4 cJ9_abs_0f7a4 1 (some .int) 1 := ⟨⟨zc_g3 96 rfl rfl, zc_g1 15 rfl rfl, ⟨by decide +kernel, by decide +kernel, by decide +kernel⟩, Or.inl (zc_g3 230 rfl rfl)⟩, zc_g3 95 rfl rfl⟩
set_option maxRecDepth 20000 in
theorem wm_X8_212 : zc_Ls RX8 212 yX8_shareOf cX8_shareOf 7 (some .int) 4 := ⟨⟨zc_g3 233 rfl rfl, zc_g1 1 rfl rfl, ⟨by decide +kernel, by decide +kernel, by decide +kernel⟩, Or.inl (zc_g3 231 rfl rfl)⟩, zc_g3 232 rfl rfl⟩
set_option maxRecDepth 20000 in
theorem wm_X8_216 : zc_Ls RX8 216 yX8_isCost cX8_isCost 1 (some .boolean) 1 := ⟨⟨zc_g4 0 rfl rfl, zc_g1 1 rfl rfl, ⟨by decide +kernel, by decide +kernel, by decide +kernel⟩, Or.inl (zc_g3 238 rfl rfl)⟩, zc_g3 239 rfl rfl⟩
set_option maxRecDepth 20000 in
theorem wm_X8_219 : zc_Lv RX8 219 yX3_leastCostly cX3_leastCostly 7 (some .int) 5 := ⟨⟨zc_g4 4 rfl rfl, zc_g1 5 rfl rfl, ⟨by decide +kernel, by decide +kernel, by decide +kernel⟩, Or.inr ⟨"NextFigures", zc_n4 1 rfl rfl⟩⟩, zc_g4 3 rfl rfl, zc_gs 41 rfl rfl⟩
set_option maxRecDepth 20000 in
theorem wm_X8_223 : zc_Lv RX8 223 yX3_costOf cX3_costOf 9 (some .int) 5 := ⟨⟨zc_g4 8 rfl rfl, zc_g1 5 rfl rfl, ⟨by decide +kernel, by decide +kernel, by decide +kernel⟩, Or.inr ⟨"NextFigures", zc_n4 5 rfl rfl⟩⟩, zc_g4 7 rfl rfl, zc_gs 42 rfl rfl⟩
set_option maxRecDepth 20000 in
theorem wm_X8_226 : zc_Lv RX8 226 yX3_gather cX3_gather 5 none 2 := ⟨⟨zc_g4 16 rfl rfl, zc_g1 5 rfl rfl, ⟨by decide +kernel, by decide +kernel, by decide +kernel⟩, Or.inr ⟨"NextFigures", zc_n4 13 rfl rfl⟩⟩, zc_g4 15 rfl rfl, zc_gs 43 rfl rfl⟩
set_option maxRecDepth 20000 in
theorem wf_X8_230 : zc_F RX8 230 3 12 := ⟨RX3, TX3, 14, rfl, by decide, gwX3, Or.inr ⟨"NextFigures", zc_n1 168 rfl rfl⟩⟩
set_option maxRecDepth 20000 in
theorem wf_X8_233 : zc_F RX8 233 3 13 := ⟨RX3, TX3, 14, rfl, by decide, gwX3, Or.inr ⟨"NextFigures", zc_n1 170 rfl rfl⟩⟩
set_option maxRecDepth 20000 in
theorem wf_X8_236 : zc_F RX8 236 3 11 := ⟨RX3, TX3, 14, rfl, by decide, gwX3, Or.inr ⟨"NextFigures", zc_n1 166 rfl rfl⟩⟩
set_option maxRecDepth 20000 in
theorem wm_X8_239 : zc_Ls RX8 239 yX3_waysFrom cX3_waysFrom 5 (some .int) 5 := ⟨⟨zc_g4 23 rfl rfl, zc_g1 5 rfl rfl, ⟨by decide +kernel, by decide +kernel, by decide +kernel⟩, Or.inr ⟨"NextFigures", zc_n4 21 rfl rfl⟩⟩, zc_g4 22 rfl rfl⟩
set_option maxRecDepth 20000 in
theorem wm_X8_243 : zc_Lv RX8 243 yX4_changeOf cX4_changeOf 23 (some .int) 3 := ⟨⟨zc_g4 32 rfl rfl, zc_g1 2 rfl rfl, ⟨by decide +kernel, by decide +kernel, by decide +kernel⟩, Or.inr ⟨"NextFigures", zc_n4 29 rfl rfl⟩⟩, zc_g4 31 rfl rfl, zc_gs 44 rfl rfl⟩
set_option maxRecDepth 20000 in
theorem wf_X8_51 : zc_F RX8 51 8 5 := ⟨RX8, TX8, 7, rfl, by decide, gwX8, Or.inl (zc_g2 67 rfl rfl)⟩
set_option maxRecDepth 20000 in
theorem wf_X8_246 : zc_F RX8 246 2 0 := ⟨RX2, TX2, 8, rfl, by decide, gwX2, Or.inr ⟨"NextFigures", zc_n2 9 rfl rfl⟩⟩
set_option maxRecDepth 20000 in
theorem wm_X8_247 : zc_Lv RX8 247 yX2_add cX2_add 7 (some .int) 6 := ⟨⟨zc_g4 41 rfl rfl, zc_g1 8 rfl rfl, ⟨by decide +kernel, by decide +kernel, by decide +kernel⟩, Or.inr ⟨"NextFigures", zc_n4 38 rfl rfl⟩⟩, zc_g4 40 rfl rfl, zc_gs 45 rfl rfl⟩
set_option maxRecDepth 20000 in
theorem wf_X8_251 : zc_F RX8 251 2 1 := ⟨RX2, TX2, 8, rfl, by decide, gwX2, Or.inr ⟨"NextFigures", zc_n2 11 rfl rfl⟩⟩
set_option maxRecDepth 20000 in
theorem wf_X8_254 : zc_F RX8 254 2 2 := ⟨RX2, TX2, 8, rfl, by decide, gwX2, Or.inr ⟨"NextFigures", zc_n2 13 rfl rfl⟩⟩
set_option maxRecDepth 20000 in
theorem wf_X8_257 : zc_F RX8 257 2 3 := ⟨RX2, TX2, 8, rfl, by decide, gwX2, Or.inr ⟨"NextFigures", zc_n2 15 rfl rfl⟩⟩
set_option maxRecDepth 20000 in
theorem wf_X8_260 : zc_F RX8 260 2 4 := ⟨RX2, TX2, 8, rfl, by decide, gwX2, Or.inr ⟨"NextFigures", zc_n2 17 rfl rfl⟩⟩
set_option maxRecDepth 20000 in
theorem wf_X8_263 : zc_F RX8 263 2 5 := ⟨RX2, TX2, 8, rfl, by decide, gwX2, Or.inr ⟨"NextFigures", zc_n2 19 rfl rfl⟩⟩
set_option maxRecDepth 20000 in
theorem wf_X8_266 : zc_F RX8 266 2 6 := ⟨RX2, TX2, 8, rfl, by decide, gwX2, Or.inr ⟨"NextFigures", zc_n2 21 rfl rfl⟩⟩
set_option maxRecDepth 20000 in
theorem wm_X8_269 : zc_Lv RX8 269 yX8_figureOfNote cX8_figureOfNote 2 (some .int) 1 := ⟨⟨zc_g4 49 rfl rfl, zc_g1 1 rfl rfl, ⟨by decide +kernel, by decide +kernel, by decide +kernel⟩, Or.inl (zc_g4 46 rfl rfl)⟩, zc_g4 48 rfl rfl, zc_gs 46 rfl rfl⟩
set_option maxRecDepth 20000 in
theorem wm_X8_272 : zc_Lv RX8 272 yX8_heldOfNote cX8_heldOfNote 3 (some .int) 1 := ⟨⟨zc_g4 53 rfl rfl, zc_g1 1 rfl rfl, ⟨by decide +kernel, by decide +kernel, by decide +kernel⟩, Or.inl (zc_g4 50 rfl rfl)⟩, zc_g4 52 rfl rfl, zc_gs 47 rfl rfl⟩
set_option maxRecDepth 20000 in
theorem wf_X8_275 : zc_F RX8 275 2 7 := ⟨RX2, TX2, 8, rfl, by decide, gwX2, Or.inr ⟨"NextFigures", zc_n2 23 rfl rfl⟩⟩
set_option maxRecDepth 20000 in
theorem wm_X8_278 : zc_Ls RX8 278 yX8_isSheet cX8_isSheet 1 (some .boolean) 1 := ⟨⟨zc_g4 68 rfl rfl, zc_g1 1 rfl rfl, ⟨by decide +kernel, by decide +kernel, by decide +kernel⟩, Or.inl (zc_g4 66 rfl rfl)⟩, zc_g4 67 rfl rfl⟩
set_option maxRecDepth 20000 in
theorem wm_X8_281 : zc_Ls RX8 281 yX8_isLane cX8_isLane 1 (some .boolean) 1 := ⟨⟨zc_g4 71 rfl rfl, zc_g1 1 rfl rfl, ⟨by decide +kernel, by decide +kernel, by decide +kernel⟩, Or.inl (zc_g4 69 rfl rfl)⟩, zc_g4 70 rfl rfl⟩
set_option maxRecDepth 20000 in
theorem wf_X8_58 : zc_F RX8 58 8 6 := ⟨RX8, TX8, 7, rfl, by decide, gwX8, Or.inl (zc_g2 68 rfl rfl)⟩
set_option maxRecDepth 20000 in
theorem wm_X8_284 : zc_Lv RX8 284 yX5_renew cX5_renew 5 none 3 := ⟨⟨zc_g4 75 rfl rfl, zc_g1 9 rfl rfl, ⟨by decide +kernel, by decide +kernel, by decide +kernel⟩, Or.inr ⟨"NextFigures", zc_n4 72 rfl rfl⟩⟩, zc_g4 74 rfl rfl, zc_gs 48 rfl rfl⟩
set_option maxRecDepth 20000 in
theorem wf_X8_287 : zc_F RX8 287 5 0 := ⟨RX5, TX5, 4, rfl, by decide, gwX5, Or.inr ⟨"NextFigures", zc_n2 48 rfl rfl⟩⟩
set_option maxRecDepth 20000 in
theorem wm_X8_290 : zc_Lv RX8 290 yX5_faultAt cX5_faultAt 4 (some .int) 3 := ⟨⟨zc_g4 83 rfl rfl, zc_g1 9 rfl rfl, ⟨by decide +kernel, by decide +kernel, by decide +kernel⟩, Or.inr ⟨"NextFigures", zc_n4 80 rfl rfl⟩⟩, zc_g4 82 rfl rfl, zc_gs 49 rfl rfl⟩
set_option maxRecDepth 20000 in
theorem wm_X8_293 : zc_Lv RX8 293 yX5_put cX5_put 4 none 3 := ⟨⟨zc_g4 87 rfl rfl, zc_g1 9 rfl rfl, ⟨by decide +kernel, by decide +kernel, by decide +kernel⟩, Or.inr ⟨"NextFigures", zc_n4 84 rfl rfl⟩⟩, zc_g4 86 rfl rfl, zc_gs 50 rfl rfl⟩
set_option maxRecDepth 20000 in
theorem wm_X8_296 : zc_Lv RX8 296 yX5_cell cX5_cell 3 (some .int) 2 := ⟨⟨zc_g4 95 rfl rfl, zc_g1 9 rfl rfl, ⟨by decide +kernel, by decide +kernel, by decide +kernel⟩, Or.inr ⟨"NextFigures", zc_n4 92 rfl rfl⟩⟩, zc_g4 94 rfl rfl, zc_gs 51 rfl rfl⟩
set_option maxRecDepth 20000 in
theorem wm_X8_299 : zc_Lv RX8 299 yX8_isKnownSo cX8_isKnownSo 4 (some .boolean) 3 := ⟨⟨zc_g4 99 rfl rfl, zc_g1 1 rfl rfl, ⟨by decide +kernel, by decide +kernel, by decide +kernel⟩, Or.inl (zc_g4 96 rfl rfl)⟩, zc_g4 98 rfl rfl, zc_gs 52 rfl rfl⟩
set_option maxRecDepth 20000 in
theorem wm_X8_302 : zc_Lv RX8 302 yX8_tellFromSheet cX8_tellFromSheet 8 none 5 := ⟨⟨zc_g4 103 rfl rfl, zc_g1 1 rfl rfl, ⟨by decide +kernel, by decide +kernel, by decide +kernel⟩, Or.inl (zc_g4 100 rfl rfl)⟩, zc_g4 102 rfl rfl, zc_gs 53 rfl rfl⟩
set_option maxRecDepth 20000 in
theorem wp_X8_305 : zc_Fp RX8 305 5 3 := ⟨RX5, TX5, 4, tyX5, rfl, by decide, gwX5, Or.inr ⟨"NextFigures", zc_n2 52 rfl rfl⟩, tyX5_ok, nmX5, rfl, by decide +kernel⟩
set_option maxRecDepth 20000 in
theorem wf_X8_305 : zc_F RX8 305 5 3 := ⟨RX5, TX5, 4, rfl, by decide, gwX5, Or.inr ⟨"NextFigures", zc_n2 52 rfl rfl⟩⟩
set_option maxRecDepth 20000 in
theorem wm_X8_308 : zc_Ls RX8 308 yX8_marked cX8_marked 3 (some .int) 1 := ⟨⟨zc_g4 114 rfl rfl, zc_g1 1 rfl rfl, ⟨by decide +kernel, by decide +kernel, by decide +kernel⟩, Or.inl (zc_g4 112 rfl rfl)⟩, zc_g4 113 rfl rfl⟩
set_option maxRecDepth 20000 in
theorem wm_X8_312 : zc_Lv RX8 312 yX4_gaps cX4_gaps 4 (some .int) 0 := ⟨⟨zc_g4 118 rfl rfl, zc_g1 2 rfl rfl, ⟨by decide +kernel, by decide +kernel, by decide +kernel⟩, Or.inr ⟨"NextFigures", zc_n4 115 rfl rfl⟩⟩, zc_g4 117 rfl rfl, zc_gs 54 rfl rfl⟩
set_option maxRecDepth 20000 in
theorem wf_X8_315 : zc_F RX8 315 5 1 := ⟨RX5, TX5, 4, rfl, by decide, gwX5, Or.inr ⟨"NextFigures", zc_n2 50 rfl rfl⟩⟩
set_option maxRecDepth 20000 in
theorem wc_X8_317 : Cond.constantLong RX8 317 1000 ∈ lw_good := zc_g3 225 rfl rfl
set_option maxRecDepth 20000 in
theorem wc_X9_89 : Cond.constantLong RX9 89 3 ∈ lw_good := zc_g5 21 rfl rfl
set_option maxRecDepth 20000 in
theorem wm_X9_91 : zc_Ls RX9 91 yX9_in cX9_in 6 (some .boolean) 3 := ⟨⟨zc_g5 13 rfl rfl, zc_g1 10 rfl rfl, ⟨by decide +kernel, by decide +kernel, by decide +kernel⟩, Or.inl (zc_g5 11 rfl rfl)⟩, zc_g5 12 rfl rfl⟩
set_option maxRecDepth 20000 in
theorem wc_X9_95 : Cond.constantLong RX9 95 63 ∈ lw_good := zc_g5 10 rfl rfl
set_option maxRecDepth 20000 in
theorem wm_X9_97 : zc_Ls RX9 97 yX9_isDay cX9_isDay 1 (some .boolean) 1 := ⟨⟨zc_g5 29 rfl rfl, zc_g1 10 rfl rfl, ⟨by decide +kernel, by decide +kernel, by decide +kernel⟩, Or.inl (zc_g5 27 rfl rfl)⟩, zc_g5 28 rfl rfl⟩
set_option maxRecDepth 20000 in
theorem wf_X9_7 : zc_F RX9 7 9 0 := ⟨RX9, TX9, 40, rfl, by decide, gwX9, Or.inl (zc_g4 125 rfl rfl)⟩
set_option maxRecDepth 20000 in
theorem wf_X9_101 : zc_F RX9 101 9 1 := ⟨RX9, TX9, 40, rfl, by decide, gwX9, Or.inl (zc_g4 126 rfl rfl)⟩
set_option maxRecDepth 20000 in
theorem wp_X9_101 : zc_Fp RX9 101 9 1 := ⟨RX9, TX9, 40, tyX9, rfl, by decide, gwX9, Or.inl (zc_g4 126 rfl rfl), tyX9_ok, nmX9, rfl, by decide +kernel⟩
set_option maxRecDepth 20000 in
theorem wf_X9_105 : zc_F RX9 105 9 2 := ⟨RX9, TX9, 40, rfl, by decide, gwX9, Or.inl (zc_g4 127 rfl rfl)⟩
set_option maxRecDepth 20000 in
theorem wp_X9_105 : zc_Fp RX9 105 9 2 := ⟨RX9, TX9, 40, tyX9, rfl, by decide, gwX9, Or.inl (zc_g4 127 rfl rfl), tyX9_ok, nmX9, rfl, by decide +kernel⟩
set_option maxRecDepth 20000 in
theorem wm_X9_108 : zc_Ls RX9 108 yX9_isShop cX9_isShop 1 (some .boolean) 1 := ⟨⟨zc_g5 20 rfl rfl, zc_g1 10 rfl rfl, ⟨by decide +kernel, by decide +kernel, by decide +kernel⟩, Or.inl (zc_g5 18 rfl rfl)⟩, zc_g5 19 rfl rfl⟩
set_option maxRecDepth 20000 in
theorem wc_X9_111 : Cond.constantLong RX9 111 999 ∈ lw_good := zc_g5 22 rfl rfl
set_option maxRecDepth 20000 in
theorem wm_X9_113 : zc_Lv RX9 113 yX9_knownOn cX9_knownOn 4 (some .int) 3 := ⟨⟨zc_g5 26 rfl rfl, zc_g1 10 rfl rfl, ⟨by decide +kernel, by decide +kernel, by decide +kernel⟩, Or.inl (zc_g5 23 rfl rfl)⟩, zc_g5 25 rfl rfl, zc_gs 55 rfl rfl⟩
set_option maxRecDepth 20000 in
theorem wm_X9_117 : zc_Ls RX9 117 yX9_orNone cX9_orNone 1 (some .int) 1 := ⟨⟨zc_g5 32 rfl rfl, zc_g1 10 rfl rfl, ⟨by decide +kernel, by decide +kernel, by decide +kernel⟩, Or.inl (zc_g5 30 rfl rfl)⟩, zc_g5 31 rfl rfl⟩
set_option maxRecDepth 20000 in
theorem wm_X9_121 : zc_Lv RX9 121 yX9_tellFigure cX9_tellFigure 5 none 3 := ⟨⟨zc_g5 36 rfl rfl, zc_g1 10 rfl rfl, ⟨by decide +kernel, by decide +kernel, by decide +kernel⟩, Or.inl (zc_g5 33 rfl rfl)⟩, zc_g5 35 rfl rfl, zc_gs 56 rfl rfl⟩
set_option maxRecDepth 20000 in
theorem wf_X9_13 : zc_F RX9 13 9 3 := ⟨RX9, TX9, 40, rfl, by decide, gwX9, Or.inl (zc_g4 128 rfl rfl)⟩
set_option maxRecDepth 20000 in
theorem wf_X9_17 : zc_F RX9 17 9 4 := ⟨RX9, TX9, 40, rfl, by decide, gwX9, Or.inl (zc_g4 129 rfl rfl)⟩
set_option maxRecDepth 20000 in
theorem wf_X9_125 : zc_F RX9 125 9 6 := ⟨RX9, TX9, 40, rfl, by decide, gwX9, Or.inl (zc_g4 131 rfl rfl)⟩
set_option maxRecDepth 20000 in
theorem wf_X9_20 : zc_F RX9 20 9 5 := ⟨RX9, TX9, 40, rfl, by decide, gwX9, Or.inl (zc_g4 130 rfl rfl)⟩
set_option maxRecDepth 20000 in
theorem wp_X9_125 : zc_Fp RX9 125 9 6 := ⟨RX9, TX9, 40, tyX9, rfl, by decide, gwX9, Or.inl (zc_g4 131 rfl rfl), tyX9_ok, nmX9, rfl, by decide +kernel⟩
set_option maxRecDepth 20000 in
theorem wf_X9_128 : zc_F RX9 128 9 8 := ⟨RX9, TX9, 40, rfl, by decide, gwX9, Or.inl (zc_g4 133 rfl rfl)⟩
set_option maxRecDepth 20000 in
theorem wp_X9_128 : zc_Fp RX9 128 9 8 := ⟨RX9, TX9, 40, tyX9, rfl, by decide, gwX9, Or.inl (zc_g4 133 rfl rfl), tyX9_ok, nmX9, rfl, by decide +kernel⟩
set_option maxRecDepth 20000 in
theorem wf_X9_131 : zc_F RX9 131 9 11 := ⟨RX9, TX9, 40, rfl, by decide, gwX9, Or.inl (zc_g4 136 rfl rfl)⟩
set_option maxRecDepth 20000 in
theorem wp_X9_134 : zc_Fp RX9 134 9 9 := ⟨RX9, TX9, 40, tyX9, rfl, by decide, gwX9, Or.inl (zc_g4 134 rfl rfl), tyX9_ok, nmX9, rfl, by decide +kernel⟩
set_option maxRecDepth 20000 in
theorem wf_X9_137 : zc_F RX9 137 9 10 := ⟨RX9, TX9, 40, rfl, by decide, gwX9, Or.inl (zc_g4 135 rfl rfl)⟩
set_option maxRecDepth 20000 in
theorem wm_X9_140 : zc_Lv RX9 140 yX9_byteAt cX9_byteAt 2 (some .int) 1 := ⟨⟨zc_g5 64 rfl rfl, zc_g1 10 rfl rfl, ⟨by decide +kernel, by decide +kernel, by decide +kernel⟩, Or.inl (zc_g5 61 rfl rfl)⟩, zc_g5 63 rfl rfl, zc_gs 58 rfl rfl⟩
set_option maxRecDepth 20000 in
theorem wp_X9_137 : zc_Fp RX9 137 9 10 := ⟨RX9, TX9, 40, tyX9, rfl, by decide, gwX9, Or.inl (zc_g4 135 rfl rfl), tyX9_ok, nmX9, rfl, by decide +kernel⟩
set_option maxRecDepth 20000 in
theorem wp_X9_131 : zc_Fp RX9 131 9 11 := ⟨RX9, TX9, 40, tyX9, rfl, by decide, gwX9, Or.inl (zc_g4 136 rfl rfl), tyX9_ok, nmX9, rfl, by decide +kernel⟩
set_option maxRecDepth 20000 in
theorem wp_X9_143 : zc_Fp RX9 143 9 13 := ⟨RX9, TX9, 40, tyX9, rfl, by decide, gwX9, Or.inl (zc_g4 138 rfl rfl), tyX9_ok, nmX9, rfl, by decide +kernel⟩
set_option maxRecDepth 20000 in
theorem wp_X9_146 : zc_Fp RX9 146 9 12 := ⟨RX9, TX9, 40, tyX9, rfl, by decide, gwX9, Or.inl (zc_g4 137 rfl rfl), tyX9_ok, nmX9, rfl, by decide +kernel⟩
set_option maxRecDepth 20000 in
theorem wc_X9_149 : Cond.constantLong RX9 149 97 ∈ lw_good := zc_g5 65 rfl rfl
set_option maxRecDepth 20000 in
theorem wc_X9_151 : Cond.constantLong RX9 151 122 ∈ lw_good := zc_g5 66 rfl rfl
set_option maxRecDepth 20000 in
theorem wc_X9_153 : Cond.constantLong RX9 153 48 ∈ lw_good := zc_g5 67 rfl rfl
set_option maxRecDepth 20000 in
theorem wc_X9_155 : Cond.constantLong RX9 155 57 ∈ lw_good := zc_g5 68 rfl rfl
set_option maxRecDepth 20000 in
theorem wf_X9_143 : zc_F RX9 143 9 13 := ⟨RX9, TX9, 40, rfl, by decide, gwX9, Or.inl (zc_g4 138 rfl rfl)⟩
set_option maxRecDepth 20000 in
theorem wm_X9_157 : zc_Lv RX9 157 yX9_fails cX9_fails 2 none 1 := ⟨⟨zc_g5 72 rfl rfl, zc_g1 10 rfl rfl, ⟨by decide +kernel, by decide +kernel, by decide +kernel⟩, Or.inl (zc_g5 69 rfl rfl)⟩, zc_g5 71 rfl rfl, zc_gs 59 rfl rfl⟩
set_option maxRecDepth 20000 in
theorem wf_X9_146 : zc_F RX9 146 9 12 := ⟨RX9, TX9, 40, rfl, by decide, gwX9, Or.inl (zc_g4 137 rfl rfl)⟩
set_option maxRecDepth 20000 in
theorem wf_X9_23 : zc_F RX9 23 9 14 := ⟨RX9, TX9, 40, rfl, by decide, gwX9, Or.inl (zc_g4 139 rfl rfl)⟩
set_option maxRecDepth 20000 in
theorem wf_X9_26 : zc_F RX9 26 9 15 := ⟨RX9, TX9, 40, rfl, by decide, gwX9, Or.inl (zc_g4 140 rfl rfl)⟩
set_option maxRecDepth 20000 in
theorem wm_X9_161 : zc_Lv RX9 161 yX9_next cX9_next 2 none 0 := ⟨⟨zc_g5 60 rfl rfl, zc_g1 10 rfl rfl, ⟨by decide +kernel, by decide +kernel, by decide +kernel⟩, Or.inl (zc_g5 57 rfl rfl)⟩, zc_g5 59 rfl rfl, zc_gs 57 rfl rfl⟩
set_option maxRecDepth 20000 in
theorem wm_X9_164 : zc_Lv RX9 164 yX9_nameHere cX9_nameHere 4 (some .int) 0 := ⟨⟨zc_g5 80 rfl rfl, zc_g1 10 rfl rfl, ⟨by decide +kernel, by decide +kernel, by decide +kernel⟩, Or.inl (zc_g5 77 rfl rfl)⟩, zc_g5 79 rfl rfl, zc_gs 61 rfl rfl⟩
set_option maxRecDepth 20000 in
theorem wf_X9_168 : zc_F RX9 168 9 21 := ⟨RX9, TX9, 40, rfl, by decide, gwX9, Or.inl (zc_g4 146 rfl rfl)⟩
set_option maxRecDepth 20000 in
theorem wf_X9_29 : zc_F RX9 29 9 16 := ⟨RX9, TX9, 40, rfl, by decide, gwX9, Or.inl (zc_g4 141 rfl rfl)⟩
set_option maxRecDepth 20000 in
theorem wm_X9_171 : zc_Lv RX9 171 yX9_number cX9_number 4 (some .int) 2 := ⟨⟨zc_g5 84 rfl rfl, zc_g1 10 rfl rfl, ⟨by decide +kernel, by decide +kernel, by decide +kernel⟩, Or.inl (zc_g5 81 rfl rfl)⟩, zc_g5 83 rfl rfl, zc_gs 62 rfl rfl⟩
set_option maxRecDepth 20000 in
theorem wf_X9_41 : zc_F RX9 41 9 22 := ⟨RX9, TX9, 40, rfl, by decide, gwX9, Or.inl (zc_g4 147 rfl rfl)⟩
set_option maxRecDepth 20000 in
theorem wf_X9_44 : zc_F RX9 44 9 23 := ⟨RX9, TX9, 40, rfl, by decide, gwX9, Or.inl (zc_g4 148 rfl rfl)⟩
set_option maxRecDepth 20000 in
theorem wf_X9_47 : zc_F RX9 47 9 24 := ⟨RX9, TX9, 40, rfl, by decide, gwX9, Or.inl (zc_g4 149 rfl rfl)⟩
set_option maxRecDepth 20000 in
theorem wp_X9_168 : zc_Fp RX9 168 9 21 := ⟨RX9, TX9, 40, tyX9, rfl, by decide, gwX9, Or.inl (zc_g4 146 rfl rfl), tyX9_ok, nmX9, rfl, by decide +kernel⟩
set_option maxRecDepth 20000 in
theorem wm_X9_175 : zc_Lv RX9 175 yX9_readLine cX9_readLine 4 none 0 := ⟨⟨zc_g5 76 rfl rfl, zc_g1 10 rfl rfl, ⟨by decide +kernel, by decide +kernel, by decide +kernel⟩, Or.inl (zc_g5 73 rfl rfl)⟩, zc_g5 75 rfl rfl, zc_gs 60 rfl rfl⟩
set_option maxRecDepth 20000 in
theorem wp_X9_178 : zc_Fp RX9 178 9 7 := ⟨RX9, TX9, 40, tyX9, rfl, by decide, gwX9, Or.inl (zc_g4 132 rfl rfl), tyX9_ok, nmX9, rfl, by decide +kernel⟩
set_option maxRecDepth 20000 in
theorem wf_X9_134 : zc_F RX9 134 9 9 := ⟨RX9, TX9, 40, rfl, by decide, gwX9, Or.inl (zc_g4 134 rfl rfl)⟩
set_option maxRecDepth 20000 in
theorem wp_X9_181 : zc_Fp RX9 181 9 17 := ⟨RX9, TX9, 40, tyX9, rfl, by decide, gwX9, Or.inl (zc_g4 142 rfl rfl), tyX9_ok, nmX9, rfl, by decide +kernel⟩
set_option maxRecDepth 20000 in
theorem wf_X9_32 : zc_F RX9 32 9 18 := ⟨RX9, TX9, 40, rfl, by decide, gwX9, Or.inl (zc_g4 143 rfl rfl)⟩
set_option maxRecDepth 20000 in
theorem wf_X9_35 : zc_F RX9 35 9 19 := ⟨RX9, TX9, 40, rfl, by decide, gwX9, Or.inl (zc_g4 144 rfl rfl)⟩
set_option maxRecDepth 20000 in
theorem wf_X9_38 : zc_F RX9 38 9 20 := ⟨RX9, TX9, 40, rfl, by decide, gwX9, Or.inl (zc_g4 145 rfl rfl)⟩
set_option maxRecDepth 20000 in
theorem wf_X9_181 : zc_F RX9 181 9 17 := ⟨RX9, TX9, 40, rfl, by decide, gwX9, Or.inl (zc_g4 142 rfl rfl)⟩
set_option maxRecDepth 20000 in
theorem wf_X9_178 : zc_F RX9 178 9 7 := ⟨RX9, TX9, 40, rfl, by decide, gwX9, Or.inl (zc_g4 132 rfl rfl)⟩
set_option maxRecDepth 20000 in
theorem wm_X9_184 : zc_Lv RX9 184 yX9_isTeller cX9_isTeller 2 (some .boolean) 1 := ⟨⟨zc_g5 96 rfl rfl, zc_g1 10 rfl rfl, ⟨by decide +kernel, by decide +kernel, by decide +kernel⟩, Or.inl (zc_g5 93 rfl rfl)⟩, zc_g5 95 rfl rfl, zc_gs 63 rfl rfl⟩
set_option maxRecDepth 20000 in
theorem wm_X9_187 : zc_Ls RX9 187 yX9_down cX9_down 3 (some .int) 2 := ⟨⟨zc_g5 131 rfl rfl, zc_g1 10 rfl rfl, ⟨by decide +kernel, by decide +kernel, by decide +kernel⟩, Or.inl (zc_g5 129 rfl rfl)⟩, zc_g5 130 rfl rfl⟩
set_option maxRecDepth 20000 in
theorem wm_X9_190 : zc_Lv RX9 190 yX9_isFeast cX9_isFeast 2 (some .boolean) 1 := ⟨⟨zc_g5 139 rfl rfl, zc_g1 10 rfl rfl, ⟨by decide +kernel, by decide +kernel, by decide +kernel⟩, Or.inl (zc_g5 136 rfl rfl)⟩, zc_g5 138 rfl rfl, zc_gs 71 rfl rfl⟩
set_option maxRecDepth 20000 in
theorem wm_X9_193 : zc_Lv RX9 193 yX9_tellSame cX9_tellSame 6 (some .int) 4 := ⟨⟨zc_g5 120 rfl rfl, zc_g1 10 rfl rfl, ⟨by decide +kernel, by decide +kernel, by decide +kernel⟩, Or.inl (zc_g5 117 rfl rfl)⟩, zc_g5 119 rfl rfl, zc_gs 67 rfl rfl⟩
set_option maxRecDepth 20000 in
theorem wm_X9_197 : zc_Lv RX9 197 yX9_tellMean cX9_tellMean 8 (some .int) 3 := ⟨⟨zc_g5 124 rfl rfl, zc_g1 10 rfl rfl, ⟨by decide +kernel, by decide +kernel, by decide +kernel⟩, Or.inl (zc_g5 121 rfl rfl)⟩, zc_g5 123 rfl rfl, zc_gs 68 rfl rfl⟩
set_option maxRecDepth 20000 in
theorem wm_X9_200 : zc_Lv RX9 200 yX9_tellStep cX9_tellStep 12 (some .int) 5 := ⟨⟨zc_g5 128 rfl rfl, zc_g1 10 rfl rfl, ⟨by decide +kernel, by decide +kernel, by decide +kernel⟩, Or.inl (zc_g5 125 rfl rfl)⟩, zc_g5 127 rfl rfl, zc_gs 69 rfl rfl⟩
set_option maxRecDepth 20000 in
theorem wm_X9_204 : zc_Lv RX9 204 yX9_tellLike cX9_tellLike 9 (some .int) 4 := ⟨⟨zc_g5 135 rfl rfl, zc_g1 10 rfl rfl, ⟨by decide +kernel, by decide +kernel, by decide +kernel⟩, Or.inl (zc_g5 132 rfl rfl)⟩, zc_g5 134 rfl rfl, zc_gs 70 rfl rfl⟩
set_option maxRecDepth 20000 in
theorem wm_X9_207 : zc_Lv RX9 207 yX9_tellPlain cX9_tellPlain 7 (some .int) 6 := ⟨⟨zc_g5 116 rfl rfl, zc_g1 10 rfl rfl, ⟨by decide +kernel, by decide +kernel, by decide +kernel⟩, Or.inl (zc_g5 113 rfl rfl)⟩, zc_g5 115 rfl rfl, zc_gs 66 rfl rfl⟩
set_option maxRecDepth 20000 in
theorem wm_X9_211 : zc_Lv RX9 211 yX9_weightOf cX9_weightOf 11 (some .int) 5 := ⟨⟨zc_g5 143 rfl rfl, zc_g1 10 rfl rfl, ⟨by decide +kernel, by decide +kernel, by decide +kernel⟩, Or.inl (zc_g5 140 rfl rfl)⟩, zc_g5 142 rfl rfl, zc_gs 72 rfl rfl⟩
set_option maxRecDepth 20000 in
theorem wm_X9_214 : zc_Lv RX9 214 yX9_tellJoined cX9_tellJoined 10 (some .int) 4 := ⟨⟨zc_g5 112 rfl rfl, zc_g1 10 rfl rfl, ⟨by decide +kernel, by decide +kernel, by decide +kernel⟩, Or.inl (zc_g5 109 rfl rfl)⟩, zc_g5 111 rfl rfl, zc_gs 65 rfl rfl⟩
set_option maxRecDepth 20000 in
theorem wc_X9_217 : Cond.constantLong RX9 217 14 ∈ lw_good := zc_g5 104 rfl rfl
set_option maxRecDepth 20000 in
theorem wm_X9_219 : zc_Ls RX9 219 yX9_isAhead cX9_isAhead 1 (some .boolean) 1 := ⟨⟨zc_g5 103 rfl rfl, zc_g1 10 rfl rfl, ⟨by decide +kernel, by decide +kernel, by decide +kernel⟩, Or.inl (zc_g5 101 rfl rfl)⟩, zc_g5 102 rfl rfl⟩
set_option maxRecDepth 20000 in
theorem wm_X9_222 : zc_Lv RX9 222 yX9_tellBy cX9_tellBy 5 (some .int) 4 := ⟨⟨zc_g5 108 rfl rfl, zc_g1 10 rfl rfl, ⟨by decide +kernel, by decide +kernel, by decide +kernel⟩, Or.inl (zc_g5 105 rfl rfl)⟩, zc_g5 107 rfl rfl, zc_gs 64 rfl rfl⟩
set_option maxRecDepth 20000 in
theorem wf_X9_53 : zc_F RX9 53 9 26 := ⟨RX9, TX9, 40, rfl, by decide, gwX9, Or.inl (zc_g4 151 rfl rfl)⟩
set_option maxRecDepth 20000 in
theorem wf_X9_50 : zc_F RX9 50 9 25 := ⟨RX9, TX9, 40, rfl, by decide, gwX9, Or.inl (zc_g4 150 rfl rfl)⟩
set_option maxRecDepth 20000 in
theorem wm_X9_225 : zc_Lv RX9 225 yX9_layDay cX9_layDay 5 none 3 := ⟨⟨zc_g5 166 rfl rfl, zc_g1 10 rfl rfl, ⟨by decide +kernel, by decide +kernel, by decide +kernel⟩, Or.inl (zc_g5 163 rfl rfl)⟩, zc_g5 165 rfl rfl, zc_gs 75 rfl rfl⟩
set_option maxRecDepth 20000 in
theorem wm_X9_228 : zc_Ls RX9 228 yX9_areDays cX9_areDays 2 (some .boolean) 2 := ⟨⟨zc_g5 158 rfl rfl, zc_g1 10 rfl rfl, ⟨by decide +kernel, by decide +kernel, by decide +kernel⟩, Or.inl (zc_g5 156 rfl rfl)⟩, zc_g5 157 rfl rfl⟩
set_option maxRecDepth 20000 in
theorem wm_X9_232 : zc_Lv RX9 232 yX9_isAsked cX9_isAsked 6 (some .boolean) 5 := ⟨⟨zc_g5 155 rfl rfl, zc_g1 10 rfl rfl, ⟨by decide +kernel, by decide +kernel, by decide +kernel⟩, Or.inl (zc_g5 152 rfl rfl)⟩, zc_g5 154 rfl rfl, zc_gs 73 rfl rfl⟩
set_option maxRecDepth 20000 in
theorem wm_X9_236 : zc_Lv RX9 236 yX9_layMisses cX9_layMisses 7 none 5 := ⟨⟨zc_g5 162 rfl rfl, zc_g1 10 rfl rfl, ⟨by decide +kernel, by decide +kernel, by decide +kernel⟩, Or.inl (zc_g5 159 rfl rfl)⟩, zc_g5 161 rfl rfl, zc_gs 74 rfl rfl⟩
set_option maxRecDepth 20000 in
theorem wm_X9_240 : zc_Ls RX9 240 yX9_size cX9_size 1 (some .int) 1 := ⟨⟨zc_g5 169 rfl rfl, zc_g1 10 rfl rfl, ⟨by decide +kernel, by decide +kernel, by decide +kernel⟩, Or.inl (zc_g5 167 rfl rfl)⟩, zc_g5 168 rfl rfl⟩
set_option maxRecDepth 20000 in
theorem wm_X9_243 : zc_Lv RX9 243 yX9_manyIn cX9_manyIn 5 (some .int) 2 := ⟨⟨zc_g5 177 rfl rfl, zc_g1 10 rfl rfl, ⟨by decide +kernel, by decide +kernel, by decide +kernel⟩, Or.inl (zc_g5 174 rfl rfl)⟩, zc_g5 176 rfl rfl, zc_gs 76 rfl rfl⟩
set_option maxRecDepth 20000 in
theorem wm_X9_246 : zc_Lv RX9 246 yX9_sumIn cX9_sumIn 5 (some .int) 2 := ⟨⟨zc_g5 181 rfl rfl, zc_g1 10 rfl rfl, ⟨by decide +kernel, by decide +kernel, by decide +kernel⟩, Or.inl (zc_g5 178 rfl rfl)⟩, zc_g5 180 rfl rfl, zc_gs 77 rfl rfl⟩
set_option maxRecDepth 20000 in
theorem wc_X9_249 : Cond.constantLong RX9 249 2 ∈ lw_good := zc_g5 190 rfl rfl
set_option maxRecDepth 20000 in
theorem wm_X9_251 : zc_Lv RX9 251 yX9_within cX9_within 6 (some .int) 3 := ⟨⟨zc_g5 203 rfl rfl, zc_g1 10 rfl rfl, ⟨by decide +kernel, by decide +kernel, by decide +kernel⟩, Or.inl (zc_g5 200 rfl rfl)⟩, zc_g5 202 rfl rfl, zc_gs 79 rfl rfl⟩
set_option maxRecDepth 20000 in
theorem wc_X9_254 : Cond.constantLong RX9 254 100 ∈ lw_good := zc_g5 195 rfl rfl
set_option maxRecDepth 20000 in
theorem wm_X9_256 : zc_Lv RX9 256 yX9_spanOf cX9_spanOf 6 (some .int) 3 := ⟨⟨zc_g5 199 rfl rfl, zc_g1 10 rfl rfl, ⟨by decide +kernel, by decide +kernel, by decide +kernel⟩, Or.inl (zc_g5 196 rfl rfl)⟩, zc_g5 198 rfl rfl, zc_gs 78 rfl rfl⟩
set_option maxRecDepth 20000 in
theorem wc_X9_259 : Cond.constantLong RX9 259 999999999999 ∈ lw_good := zc_g5 216 rfl rfl
set_option maxRecDepth 20000 in
theorem wc_X9_261 : Cond.constantLong RX9 261 99999999 ∈ lw_good := zc_g5 217 rfl rfl
set_option maxRecDepth 20000 in
theorem wc_X9_263 : Cond.constantLong RX9 263 9999 ∈ lw_good := zc_g5 218 rfl rfl
set_option maxRecDepth 20000 in
theorem wc_X9_265 : Cond.constant RX9 265 (-100000) ∈ lw_good := zc_g5 219 rfl rfl
set_option maxRecDepth 20000 in
theorem wc_X9_266 : Cond.constantLong RX9 266 1000 ∈ lw_good := zc_g5 220 rfl rfl
set_option maxRecDepth 20000 in
theorem wc_X9_268 : Cond.constant RX9 268 (-100004) ∈ lw_good := zc_g5 221 rfl rfl
set_option maxRecDepth 20000 in
theorem wc_X9_269 : Cond.constantLong RX9 269 99 ∈ lw_good := zc_g5 226 rfl rfl
set_option maxRecDepth 20000 in
theorem wf_X9_56 : zc_F RX9 56 9 27 := ⟨RX9, TX9, 40, rfl, by decide, gwX9, Or.inl (zc_g4 152 rfl rfl)⟩
set_option maxRecDepth 20000 in
theorem wf_X9_271 : zc_F RX9 271 9 28 := ⟨RX9, TX9, 40, rfl, by decide, gwX9, Or.inl (zc_g4 153 rfl rfl)⟩
set_option maxRecDepth 20000 in
theorem wf_X9_59 : zc_F RX9 59 9 29 := ⟨RX9, TX9, 40, rfl, by decide, gwX9, Or.inl (zc_g4 154 rfl rfl)⟩
set_option maxRecDepth 20000 in
theorem wf_X9_62 : zc_F RX9 62 9 30 := ⟨RX9, TX9, 40, rfl, by decide, gwX9, Or.inl (zc_g4 155 rfl rfl)⟩
set_option maxRecDepth 20000 in
theorem wf_X9_65 : zc_F RX9 65 9 31 := ⟨RX9, TX9, 40, rfl, by decide, gwX9, Or.inl (zc_g4 156 rfl rfl)⟩
set_option maxRecDepth 20000 in
theorem wf_X9_68 : zc_F RX9 68 9 32 := ⟨RX9, TX9, 40, rfl, by decide, gwX9, Or.inl (zc_g4 157 rfl rfl)⟩
set_option maxRecDepth 20000 in
theorem wf_X9_71 : zc_F RX9 71 9 33 := ⟨RX9, TX9, 40, rfl, by decide, gwX9, Or.inl (zc_g4 158 rfl rfl)⟩
set_option maxRecDepth 20000 in
theorem wf_X9_74 : zc_F RX9 74 9 34 := ⟨RX9, TX9, 40, rfl, by decide, gwX9, Or.inl (zc_g4 159 rfl rfl)⟩
set_option maxRecDepth 20000 in
theorem wf_X9_77 : zc_F RX9 77 9 35 := ⟨RX9, TX9, 40, rfl, by decide, gwX9, Or.inl (zc_g4 160 rfl rfl)⟩
set_option maxRecDepth 20000 in
theorem wp_X9_271 : zc_Fp RX9 271 9 28 := ⟨RX9, TX9, 40, tyX9, rfl, by decide, gwX9, Or.inl (zc_g4 153 rfl rfl), tyX9_ok, nmX9, rfl, by decide +kernel⟩
set_option maxRecDepth 20000 in
theorem wm_X9_274 : zc_Lv RX9 274 yX9_cameTo cX9_cameTo 2 (some .int) 1 := ⟨⟨zc_g6 10 rfl rfl, zc_g1 10 rfl rfl, ⟨by decide +kernel, by decide +kernel, by decide +kernel⟩, Or.inl (zc_g6 7 rfl rfl)⟩, zc_g6 9 rfl rfl, zc_gs 80 rfl rfl⟩
set_option maxRecDepth 20000 in
theorem wm_X9_277 : zc_Lv RX9 277 yX9_heldOf cX9_heldOf 3 (some .int) 1 := ⟨⟨zc_g6 14 rfl rfl, zc_g1 10 rfl rfl, ⟨by decide +kernel, by decide +kernel, by decide +kernel⟩, Or.inl (zc_g6 11 rfl rfl)⟩, zc_g6 13 rfl rfl, zc_gs 81 rfl rfl⟩
set_option maxRecDepth 20000 in
theorem wf_X9_80 : zc_F RX9 80 9 36 := ⟨RX9, TX9, 40, rfl, by decide, gwX9, Or.inl (zc_g4 161 rfl rfl)⟩
set_option maxRecDepth 20000 in
theorem wf_X9_83 : zc_F RX9 83 9 37 := ⟨RX9, TX9, 40, rfl, by decide, gwX9, Or.inl (zc_g4 162 rfl rfl)⟩
set_option maxRecDepth 20000 in
theorem wf_X9_86 : zc_F RX9 86 9 38 := ⟨RX9, TX9, 40, rfl, by decide, gwX9, Or.inl (zc_g4 163 rfl rfl)⟩
set_option maxRecDepth 20000 in
theorem wc_X9_280 : Cond.constantLong RX9 280 64 ∈ lw_good := zc_g6 35 rfl rfl
set_option maxRecDepth 20000 in
theorem wp_X9_282 : zc_Fp RX9 282 9 39 := ⟨RX9, TX9, 40, tyX9, rfl, by decide, gwX9, Or.inl (zc_g4 164 rfl rfl), tyX9_ok, nmX9, rfl, by decide +kernel⟩
set_option maxRecDepth 20000 in
theorem wf_X9_282 : zc_F RX9 282 9 39 := ⟨RX9, TX9, 40, rfl, by decide, gwX9, Or.inl (zc_g4 164 rfl rfl)⟩
set_option maxRecDepth 20000 in
theorem ws_J0_9 : Cond.fieldLink RJ0 9 "java/lang/String" "value" "[B" ∈ lw_good := zc_g6 45 rfl rfl
set_option maxRecDepth 20000 in
theorem wm_J0_335 : zc_Lv RJ0 335 yJ0_coder_7d493 cJ0_coder_7d493 1 (some .byte) 0 := ⟨⟨zc_g2 166 rfl rfl, zc_g1 11 rfl rfl, ⟨by decide +kernel, by decide +kernel, by decide +kernel⟩, Or.inl (zc_g2 163 rfl rfl)⟩, zc_g2 164 rfl rfl, zc_g2 165 rfl rfl⟩
set_option maxRecDepth 20000 in
theorem wm_J0_492 : zc_Lv RJ0 492 yJ0_isLatin1_aae02 cJ0_isLatin1_aae02 1 (some .boolean) 0 := ⟨⟨zc_g2 176 rfl rfl, zc_g1 11 rfl rfl, ⟨by decide +kernel, by decide +kernel, by decide +kernel⟩, Or.inl (zc_g2 173 rfl rfl)⟩, zc_g2 174 rfl rfl, zc_g2 175 rfl rfl⟩
set_option maxRecDepth 20000 in
theorem wm_J0_495 : zc_Ls RJ0 495 yJ1_charAt_3b067 cJ1_charAt_3b067 2 (some .char) 2 := ⟨⟨zc_g2 179 rfl rfl, zc_g1 12 rfl rfl, ⟨by decide +kernel, by decide +kernel, by decide +kernel⟩, Or.inl (zc_g2 177 rfl rfl)⟩, zc_g2 178 rfl rfl⟩
set_option maxRecDepth 20000 in
theorem wm_J0_498 : zc_Ls RJ0 498 yJ2_charAt_3b067 cJ2_charAt_3b067 2 (some .char) 2 := ⟨⟨zc_g2 190 rfl rfl, zc_g1 14 rfl rfl, ⟨by decide +kernel, by decide +kernel, by decide +kernel⟩, Or.inl (zc_g2 188 rfl rfl)⟩, zc_g2 189 rfl rfl⟩
set_option maxRecDepth 20000 in
theorem ws_J0_38 : Cond.fieldLink RJ0 38 "java/lang/String" "COMPACT_STRINGS" "Z" ∈ lw_good := zc_g2 167 rfl rfl
set_option maxRecDepth 20000 in
theorem ws_J0_15 : Cond.fieldLink RJ0 15 "java/lang/String" "coder" "B" ∈ lw_good := zc_g6 46 rfl rfl
set_option maxRecDepth 20000 in
theorem ws_J0_1053 : Cond.fieldLink RJ0 1053 "jdk/internal/util/Preconditions" "SIOOBE_FORMATTER" "Ljava/util/function/BiFunction;" ∈ lw_good := zc_g2 183 rfl rfl
set_option maxRecDepth 20000 in
theorem wm_J0_1059 : zc_Ls RJ0 1059 yJ3_checkIndex_8e157 cJ3_checkIndex_8e157 3 (some .int) 3 := ⟨⟨zc_g2 187 rfl rfl, zc_g1 13 rfl rfl, ⟨by decide +kernel, by decide +kernel, by decide +kernel⟩, Or.inl (zc_g2 185 rfl rfl)⟩, zc_g2 186 rfl rfl⟩
set_option maxRecDepth 20000 in
theorem wm_J1_9 : zc_Ls RJ1 9 yJ0_checkIndex_df160 cJ0_checkIndex_df160 2 none 2 := ⟨⟨zc_g2 182 rfl rfl, zc_g1 11 rfl rfl, ⟨by decide +kernel, by decide +kernel, by decide +kernel⟩, Or.inl (zc_g2 180 rfl rfl)⟩, zc_g2 181 rfl rfl⟩
set_option maxRecDepth 20000 in
theorem ws_J2_44 : Cond.fieldLink RJ2 44 "java/lang/StringUTF16" "$assertionsDisabled" "Z" ∈ lw_good := zc_g2 201 rfl rfl
set_option maxRecDepth 20000 in
theorem wm_J2_48 : zc_Ls RJ2 48 yJ2_length_9d52b cJ2_length_9d52b 1 (some .int) 1 := ⟨⟨zc_g2 196 rfl rfl, zc_g1 14 rfl rfl, ⟨by decide +kernel, by decide +kernel, by decide +kernel⟩, Or.inl (zc_g2 194 rfl rfl)⟩, zc_g2 195 rfl rfl⟩
set_option maxRecDepth 20000 in
theorem ws_J2_59 : Cond.fieldLink RJ2 59 "java/lang/StringUTF16" "HI_BYTE_SHIFT" "I" ∈ lw_good := zc_g2 203 rfl rfl
set_option maxRecDepth 20000 in
theorem ws_J2_63 : Cond.fieldLink RJ2 63 "java/lang/StringUTF16" "LO_BYTE_SHIFT" "I" ∈ lw_good := zc_g2 205 rfl rfl
set_option maxRecDepth 20000 in
theorem wm_J2_67 : zc_Ls RJ2 67 yJ2_checkIndex_2214a cJ2_checkIndex_2214a 2 none 2 := ⟨⟨zc_g2 193 rfl rfl, zc_g1 14 rfl rfl, ⟨by decide +kernel, by decide +kernel, by decide +kernel⟩, Or.inl (zc_g2 191 rfl rfl)⟩, zc_g2 192 rfl rfl⟩
set_option maxRecDepth 20000 in
theorem wm_J2_71 : zc_Ls RJ2 71 yJ2_getChar_3b067 cJ2_getChar_3b067 2 (some .char) 2 := ⟨⟨zc_g2 200 rfl rfl, zc_g1 14 rfl rfl, ⟨by decide +kernel, by decide +kernel, by decide +kernel⟩, Or.inl (zc_g2 198 rfl rfl)⟩, zc_g2 199 rfl rfl⟩
set_option maxRecDepth 20000 in
theorem wm_J2_414 : zc_Ls RJ2 414 yJ0_checkIndex_df160 cJ0_checkIndex_df160 2 none 2 := ⟨⟨zc_g2 182 rfl rfl, zc_g1 11 rfl rfl, ⟨by decide +kernel, by decide +kernel, by decide +kernel⟩, Or.inl (zc_g2 197 rfl rfl)⟩, zc_g2 181 rfl rfl⟩
set_option maxRecDepth 20000 in
theorem wm_L_13 : zc_Lv RL 13 yX8_now cX8_now 3 (some .int) 1 := ⟨⟨zc_g2 87 rfl rfl, zc_g1 1 rfl rfl, ⟨by decide +kernel, by decide +kernel, by decide +kernel⟩, Or.inl (zc_g2 84 rfl rfl)⟩, zc_g2 85 rfl rfl, zc_g2 86 rfl rfl⟩
set_option maxRecDepth 20000 in
theorem wm_L_17 : zc_Lv RL 17 yX9_now cX9_now 3 (some .int) 1 := ⟨⟨zc_g5 9 rfl rfl, zc_g1 10 rfl rfl, ⟨by decide +kernel, by decide +kernel, by decide +kernel⟩, Or.inl (zc_g5 6 rfl rfl)⟩, zc_g5 7 rfl rfl, zc_g5 8 rfl rfl⟩
set_option maxRecDepth 20000 in
theorem wm_L_18 : zc_Lv RL 18 yX8_figure cX8_figure 6 (some .int) 3 := ⟨⟨zc_g2 94 rfl rfl, zc_g1 1 rfl rfl, ⟨by decide +kernel, by decide +kernel, by decide +kernel⟩, Or.inl (zc_g2 91 rfl rfl)⟩, zc_g2 92 rfl rfl, zc_g2 93 rfl rfl⟩
set_option maxRecDepth 20000 in
theorem wm_L_22 : zc_Lv RL 22 yX9_figure cX9_figure 5 (some .int) 3 := ⟨⟨zc_g5 17 rfl rfl, zc_g1 10 rfl rfl, ⟨by decide +kernel, by decide +kernel, by decide +kernel⟩, Or.inl (zc_g5 14 rfl rfl)⟩, zc_g5 15 rfl rfl, zc_g5 16 rfl rfl⟩
set_option maxRecDepth 20000 in
theorem wm_L_23 : zc_Lv RL 23 yX8_known cX8_known 4 (some .int) 3 := ⟨⟨zc_g2 111 rfl rfl, zc_g1 1 rfl rfl, ⟨by decide +kernel, by decide +kernel, by decide +kernel⟩, Or.inl (zc_g2 108 rfl rfl)⟩, zc_g2 109 rfl rfl, zc_g2 110 rfl rfl⟩
set_option maxRecDepth 20000 in
theorem wm_L_26 : zc_Lv RL 26 yX9_known cX9_known 4 (some .int) 3 := ⟨⟨zc_g5 40 rfl rfl, zc_g1 10 rfl rfl, ⟨by decide +kernel, by decide +kernel, by decide +kernel⟩, Or.inl (zc_g5 37 rfl rfl)⟩, zc_g5 38 rfl rfl, zc_g5 39 rfl rfl⟩
set_option maxRecDepth 20000 in
theorem wm_L_27 : zc_Lv RL 27 yX8_mark cX8_mark 6 (some .int) 3 := ⟨⟨zc_g2 115 rfl rfl, zc_g1 1 rfl rfl, ⟨by decide +kernel, by decide +kernel, by decide +kernel⟩, Or.inl (zc_g2 112 rfl rfl)⟩, zc_g2 113 rfl rfl, zc_g2 114 rfl rfl⟩
set_option maxRecDepth 20000 in
theorem wm_L_31 : zc_Lv RL 31 yX9_mark cX9_mark 5 (some .int) 3 := ⟨⟨zc_g5 44 rfl rfl, zc_g1 10 rfl rfl, ⟨by decide +kernel, by decide +kernel, by decide +kernel⟩, Or.inl (zc_g5 41 rfl rfl)⟩, zc_g5 42 rfl rfl, zc_g5 43 rfl rfl⟩
set_option maxRecDepth 20000 in
theorem wc_L_32 : Cond.constantLong RL 32 4294967295 ∈ lw_good := zc_g6 44 rfl rfl
set_option maxRecDepth 20000 in
theorem wm_L_34 : zc_Lv RL 34 yX8_feed cX8_feed 3 (some .int) 1 := ⟨⟨zc_g2 119 rfl rfl, zc_g1 1 rfl rfl, ⟨by decide +kernel, by decide +kernel, by decide +kernel⟩, Or.inl (zc_g2 116 rfl rfl)⟩, zc_g2 117 rfl rfl, zc_g2 118 rfl rfl⟩
set_option maxRecDepth 20000 in
theorem wm_L_38 : zc_Lv RL 38 yX9_feed cX9_feed 4 (some .int) 1 := ⟨⟨zc_g5 48 rfl rfl, zc_g1 10 rfl rfl, ⟨by decide +kernel, by decide +kernel, by decide +kernel⟩, Or.inl (zc_g5 45 rfl rfl)⟩, zc_g5 46 rfl rfl, zc_g5 47 rfl rfl⟩
set_option maxRecDepth 20000 in
theorem wm_L_39 : zc_Lv RL 39 yX8_end cX8_end 3 (some .int) 1 := ⟨⟨zc_g2 127 rfl rfl, zc_g1 1 rfl rfl, ⟨by decide +kernel, by decide +kernel, by decide +kernel⟩, Or.inl (zc_g2 124 rfl rfl)⟩, zc_g2 125 rfl rfl, zc_g2 126 rfl rfl⟩
set_option maxRecDepth 20000 in
theorem wm_L_42 : zc_Lv RL 42 yX9_end cX9_end 3 (some .int) 1 := ⟨⟨zc_g5 52 rfl rfl, zc_g1 10 rfl rfl, ⟨by decide +kernel, by decide +kernel, by decide +kernel⟩, Or.inl (zc_g5 49 rfl rfl)⟩, zc_g5 50 rfl rfl, zc_g5 51 rfl rfl⟩
set_option maxRecDepth 20000 in
theorem wm_L_43 : zc_Lv RL 43 yX8_text cX8_text 1 (some .int) 0 := ⟨⟨zc_g2 131 rfl rfl, zc_g1 1 rfl rfl, ⟨by decide +kernel, by decide +kernel, by decide +kernel⟩, Or.inl (zc_g2 128 rfl rfl)⟩, zc_g2 129 rfl rfl, zc_g2 130 rfl rfl⟩
set_option maxRecDepth 20000 in
theorem wm_L_47 : zc_Lv RL 47 yX9_text cX9_text 2 (some .int) 0 := ⟨⟨zc_g5 56 rfl rfl, zc_g1 10 rfl rfl, ⟨by decide +kernel, by decide +kernel, by decide +kernel⟩, Or.inl (zc_g5 53 rfl rfl)⟩, zc_g5 54 rfl rfl, zc_g5 55 rfl rfl⟩
set_option maxRecDepth 20000 in
theorem wm_L_48 : zc_Lv RL 48 yX8_fault cX8_fault 1 (some .int) 0 := ⟨⟨zc_g2 236 rfl rfl, zc_g1 1 rfl rfl, ⟨by decide +kernel, by decide +kernel, by decide +kernel⟩, Or.inl (zc_g2 233 rfl rfl)⟩, zc_g2 234 rfl rfl, zc_g2 235 rfl rfl⟩
set_option maxRecDepth 20000 in
theorem wm_L_51 : zc_Lv RL 51 yX9_fault cX9_fault 1 (some .int) 0 := ⟨⟨zc_g5 88 rfl rfl, zc_g1 10 rfl rfl, ⟨by decide +kernel, by decide +kernel, by decide +kernel⟩, Or.inl (zc_g5 85 rfl rfl)⟩, zc_g5 86 rfl rfl, zc_g5 87 rfl rfl⟩
set_option maxRecDepth 20000 in
theorem wm_L_52 : zc_Lv RL 52 yX8_teller cX8_teller 3 (some .int) 2 := ⟨⟨zc_g3 0 rfl rfl, zc_g1 1 rfl rfl, ⟨by decide +kernel, by decide +kernel, by decide +kernel⟩, Or.inl (zc_g2 237 rfl rfl)⟩, zc_g2 238 rfl rfl, zc_g2 239 rfl rfl⟩
set_option maxRecDepth 20000 in
theorem wm_L_56 : zc_Lv RL 56 yX9_teller cX9_teller 3 (some .int) 2 := ⟨⟨zc_g5 92 rfl rfl, zc_g1 10 rfl rfl, ⟨by decide +kernel, by decide +kernel, by decide +kernel⟩, Or.inl (zc_g5 89 rfl rfl)⟩, zc_g5 90 rfl rfl, zc_g5 91 rfl rfl⟩
set_option maxRecDepth 20000 in
theorem wm_L_57 : zc_Lv RL 57 yX8_tells cX8_tells 5 (some .int) 4 := ⟨⟨zc_g3 8 rfl rfl, zc_g1 1 rfl rfl, ⟨by decide +kernel, by decide +kernel, by decide +kernel⟩, Or.inl (zc_g3 5 rfl rfl)⟩, zc_g3 6 rfl rfl, zc_g3 7 rfl rfl⟩
set_option maxRecDepth 20000 in
theorem wm_L_61 : zc_Lv RL 61 yX9_tells cX9_tells 5 (some .int) 4 := ⟨⟨zc_g5 100 rfl rfl, zc_g1 10 rfl rfl, ⟨by decide +kernel, by decide +kernel, by decide +kernel⟩, Or.inl (zc_g5 97 rfl rfl)⟩, zc_g5 98 rfl rfl, zc_g5 99 rfl rfl⟩
set_option maxRecDepth 20000 in
theorem wm_L_62 : zc_Lv RL 62 yX8_weight cX8_weight 6 (some .int) 5 := ⟨⟨zc_g3 101 rfl rfl, zc_g1 1 rfl rfl, ⟨by decide +kernel, by decide +kernel, by decide +kernel⟩, Or.inl (zc_g3 98 rfl rfl)⟩, zc_g3 99 rfl rfl, zc_g3 100 rfl rfl⟩
set_option maxRecDepth 20000 in
theorem wm_L_66 : zc_Lv RL 66 yX9_weight cX9_weight 6 (some .int) 5 := ⟨⟨zc_g5 147 rfl rfl, zc_g1 10 rfl rfl, ⟨by decide +kernel, by decide +kernel, by decide +kernel⟩, Or.inl (zc_g5 144 rfl rfl)⟩, zc_g5 145 rfl rfl, zc_g5 146 rfl rfl⟩
set_option maxRecDepth 20000 in
theorem wm_L_67 : zc_Lv RL 67 yX8_miss cX8_miss 5 (some .int) 4 := ⟨⟨zc_g3 110 rfl rfl, zc_g1 1 rfl rfl, ⟨by decide +kernel, by decide +kernel, by decide +kernel⟩, Or.inl (zc_g3 107 rfl rfl)⟩, zc_g3 108 rfl rfl, zc_g3 109 rfl rfl⟩
set_option maxRecDepth 20000 in
theorem wm_L_70 : zc_Lv RL 70 yX9_miss cX9_miss 5 (some .int) 4 := ⟨⟨zc_g5 151 rfl rfl, zc_g1 10 rfl rfl, ⟨by decide +kernel, by decide +kernel, by decide +kernel⟩, Or.inl (zc_g5 148 rfl rfl)⟩, zc_g5 149 rfl rfl, zc_g5 150 rfl rfl⟩
set_option maxRecDepth 20000 in
theorem wm_L_71 : zc_Lv RL 71 yX8_misses cX8_misses 8 (some .int) 6 := ⟨⟨zc_g3 128 rfl rfl, zc_g1 1 rfl rfl, ⟨by decide +kernel, by decide +kernel, by decide +kernel⟩, Or.inl (zc_g3 125 rfl rfl)⟩, zc_g3 126 rfl rfl, zc_g3 127 rfl rfl⟩
set_option maxRecDepth 20000 in
theorem wm_L_75 : zc_Lv RL 75 yX9_misses cX9_misses 10 (some .int) 6 := ⟨⟨zc_g5 173 rfl rfl, zc_g1 10 rfl rfl, ⟨by decide +kernel, by decide +kernel, by decide +kernel⟩, Or.inl (zc_g5 170 rfl rfl)⟩, zc_g5 171 rfl rfl, zc_g5 172 rfl rfl⟩
set_option maxRecDepth 20000 in
theorem wm_L_76 : zc_Lv RL 76 yX8_best cX8_best 10 (some .int) 4 := ⟨⟨zc_g3 140 rfl rfl, zc_g1 1 rfl rfl, ⟨by decide +kernel, by decide +kernel, by decide +kernel⟩, Or.inl (zc_g3 137 rfl rfl)⟩, zc_g3 138 rfl rfl, zc_g3 139 rfl rfl⟩
set_option maxRecDepth 20000 in
theorem wm_L_79 : zc_Lv RL 79 yX9_best cX9_best 11 (some .int) 4 := ⟨⟨zc_g5 185 rfl rfl, zc_g1 10 rfl rfl, ⟨by decide +kernel, by decide +kernel, by decide +kernel⟩, Or.inl (zc_g5 182 rfl rfl)⟩, zc_g5 183 rfl rfl, zc_g5 184 rfl rfl⟩
set_option maxRecDepth 20000 in
theorem wm_L_80 : zc_Lv RL 80 yX8_fit cX8_fit 9 (some .int) 6 := ⟨⟨zc_g3 144 rfl rfl, zc_g1 1 rfl rfl, ⟨by decide +kernel, by decide +kernel, by decide +kernel⟩, Or.inl (zc_g3 141 rfl rfl)⟩, zc_g3 142 rfl rfl, zc_g3 143 rfl rfl⟩
set_option maxRecDepth 20000 in
theorem wm_L_83 : zc_Lv RL 83 yX9_fit cX9_fit 15 (some .int) 6 := ⟨⟨zc_g5 189 rfl rfl, zc_g1 10 rfl rfl, ⟨by decide +kernel, by decide +kernel, by decide +kernel⟩, Or.inl (zc_g5 186 rfl rfl)⟩, zc_g5 187 rfl rfl, zc_g5 188 rfl rfl⟩
set_option maxRecDepth 20000 in
theorem wm_L_84 : zc_Lv RL 84 yX8_span cX8_span 8 (some .int) 6 := ⟨⟨zc_g3 187 rfl rfl, zc_g1 1 rfl rfl, ⟨by decide +kernel, by decide +kernel, by decide +kernel⟩, Or.inl (zc_g3 184 rfl rfl)⟩, zc_g3 185 rfl rfl, zc_g3 186 rfl rfl⟩
set_option maxRecDepth 20000 in
theorem wm_L_87 : zc_Lv RL 87 yX9_span cX9_span 7 (some .int) 6 := ⟨⟨zc_g5 194 rfl rfl, zc_g1 10 rfl rfl, ⟨by decide +kernel, by decide +kernel, by decide +kernel⟩, Or.inl (zc_g5 191 rfl rfl)⟩, zc_g5 192 rfl rfl, zc_g5 193 rfl rfl⟩
set_option maxRecDepth 20000 in
theorem wm_L_88 : zc_Lv RL 88 yX8_hold cX8_hold 10 (some .int) 6 := ⟨⟨zc_g3 210 rfl rfl, zc_g1 1 rfl rfl, ⟨by decide +kernel, by decide +kernel, by decide +kernel⟩, Or.inl (zc_g3 207 rfl rfl)⟩, zc_g3 208 rfl rfl, zc_g3 209 rfl rfl⟩
set_option maxRecDepth 20000 in
theorem wm_L_91 : zc_Lv RL 91 yX9_hold cX9_hold 7 (some .int) 6 := ⟨⟨zc_g5 207 rfl rfl, zc_g1 10 rfl rfl, ⟨by decide +kernel, by decide +kernel, by decide +kernel⟩, Or.inl (zc_g5 204 rfl rfl)⟩, zc_g5 205 rfl rfl, zc_g5 206 rfl rfl⟩
set_option maxRecDepth 20000 in
theorem wm_L_92 : zc_Lv RL 92 yX8_going cX8_going 13 (some .int) 7 := ⟨⟨zc_g3 214 rfl rfl, zc_g1 1 rfl rfl, ⟨by decide +kernel, by decide +kernel, by decide +kernel⟩, Or.inl (zc_g3 211 rfl rfl)⟩, zc_g3 212 rfl rfl, zc_g3 213 rfl rfl⟩
set_option maxRecDepth 20000 in
theorem wm_L_96 : zc_Lv RL 96 yX9_going cX9_going 11 (some .int) 7 := ⟨⟨zc_g5 211 rfl rfl, zc_g1 10 rfl rfl, ⟨by decide +kernel, by decide +kernel, by decide +kernel⟩, Or.inl (zc_g5 208 rfl rfl)⟩, zc_g5 209 rfl rfl, zc_g5 210 rfl rfl⟩
set_option maxRecDepth 20000 in
theorem wm_L_97 : zc_Lv RL 97 yX8_agree cX8_agree 12 (some .int) 4 := ⟨⟨zc_g3 218 rfl rfl, zc_g1 1 rfl rfl, ⟨by decide +kernel, by decide +kernel, by decide +kernel⟩, Or.inl (zc_g3 215 rfl rfl)⟩, zc_g3 216 rfl rfl, zc_g3 217 rfl rfl⟩
set_option maxRecDepth 20000 in
theorem wm_L_101 : zc_Lv RL 101 yX9_agree cX9_agree 17 (some .int) 4 := ⟨⟨zc_g5 215 rfl rfl, zc_g1 10 rfl rfl, ⟨by decide +kernel, by decide +kernel, by decide +kernel⟩, Or.inl (zc_g5 212 rfl rfl)⟩, zc_g5 213 rfl rfl, zc_g5 214 rfl rfl⟩
set_option maxRecDepth 20000 in
theorem wm_L_102 : zc_Lv RL 102 yX8_number cX8_number 11 (some .int) 8 := ⟨⟨zc_g3 237 rfl rfl, zc_g1 1 rfl rfl, ⟨by decide +kernel, by decide +kernel, by decide +kernel⟩, Or.inl (zc_g3 234 rfl rfl)⟩, zc_g3 235 rfl rfl, zc_g3 236 rfl rfl⟩
set_option maxRecDepth 20000 in
theorem wm_L_106 : zc_Lv RL 106 yX9_number_ cX9_number_ 16 (some .int) 8 := ⟨⟨zc_g5 225 rfl rfl, zc_g1 10 rfl rfl, ⟨by decide +kernel, by decide +kernel, by decide +kernel⟩, Or.inl (zc_g5 222 rfl rfl)⟩, zc_g5 223 rfl rfl, zc_g5 224 rfl rfl⟩
set_option maxRecDepth 20000 in
theorem wm_L_107 : zc_Lv RL 107 yX8_worth cX8_worth 6 (some .int) 5 := ⟨⟨zc_g4 12 rfl rfl, zc_g1 1 rfl rfl, ⟨by decide +kernel, by decide +kernel, by decide +kernel⟩, Or.inl (zc_g4 9 rfl rfl)⟩, zc_g4 10 rfl rfl, zc_g4 11 rfl rfl⟩
set_option maxRecDepth 20000 in
theorem wm_L_110 : zc_Lv RL 110 yX9_worth cX9_worth 9 (some .int) 5 := ⟨⟨zc_g5 230 rfl rfl, zc_g1 10 rfl rfl, ⟨by decide +kernel, by decide +kernel, by decide +kernel⟩, Or.inl (zc_g5 227 rfl rfl)⟩, zc_g5 228 rfl rfl, zc_g5 229 rfl rfl⟩
set_option maxRecDepth 20000 in
theorem wm_L_111 : zc_Lv RL 111 yX8_dealt cX8_dealt 8 (some .int) 6 := ⟨⟨zc_g4 20 rfl rfl, zc_g1 1 rfl rfl, ⟨by decide +kernel, by decide +kernel, by decide +kernel⟩, Or.inl (zc_g4 17 rfl rfl)⟩, zc_g4 18 rfl rfl, zc_g4 19 rfl rfl⟩
set_option maxRecDepth 20000 in
theorem wm_L_114 : zc_Lv RL 114 yX9_dealt cX9_dealt 16 (some .int) 6 := ⟨⟨zc_g5 234 rfl rfl, zc_g1 10 rfl rfl, ⟨by decide +kernel, by decide +kernel, by decide +kernel⟩, Or.inl (zc_g5 231 rfl rfl)⟩, zc_g5 232 rfl rfl, zc_g5 233 rfl rfl⟩
set_option maxRecDepth 20000 in
theorem wm_L_115 : zc_Lv RL 115 yX8_change cX8_change 4 (some .int) 3 := ⟨⟨zc_g4 28 rfl rfl, zc_g1 1 rfl rfl, ⟨by decide +kernel, by decide +kernel, by decide +kernel⟩, Or.inl (zc_g4 25 rfl rfl)⟩, zc_g4 26 rfl rfl, zc_g4 27 rfl rfl⟩
set_option maxRecDepth 20000 in
theorem wm_L_118 : zc_Lv RL 118 yX9_change cX9_change 20 (some .int) 3 := ⟨⟨zc_g5 238 rfl rfl, zc_g1 10 rfl rfl, ⟨by decide +kernel, by decide +kernel, by decide +kernel⟩, Or.inl (zc_g5 235 rfl rfl)⟩, zc_g5 236 rfl rfl, zc_g5 237 rfl rfl⟩
set_option maxRecDepth 20000 in
theorem wm_L_119 : zc_Lv RL 119 yX8_note cX8_note 6 (some .int) 4 := ⟨⟨zc_g4 37 rfl rfl, zc_g1 1 rfl rfl, ⟨by decide +kernel, by decide +kernel, by decide +kernel⟩, Or.inl (zc_g4 34 rfl rfl)⟩, zc_g4 35 rfl rfl, zc_g4 36 rfl rfl⟩
set_option maxRecDepth 20000 in
theorem wm_L_122 : zc_Lv RL 122 yX9_note cX9_note 6 (some .int) 4 := ⟨⟨zc_g6 2 rfl rfl, zc_g1 10 rfl rfl, ⟨by decide +kernel, by decide +kernel, by decide +kernel⟩, Or.inl (zc_g5 239 rfl rfl)⟩, zc_g6 0 rfl rfl, zc_g6 1 rfl rfl⟩
set_option maxRecDepth 20000 in
theorem wm_L_123 : zc_Lv RL 123 yX8_noteOf cX8_noteOf 3 (some .int) 2 := ⟨⟨zc_g4 45 rfl rfl, zc_g1 1 rfl rfl, ⟨by decide +kernel, by decide +kernel, by decide +kernel⟩, Or.inl (zc_g4 42 rfl rfl)⟩, zc_g4 43 rfl rfl, zc_g4 44 rfl rfl⟩
set_option maxRecDepth 20000 in
theorem wm_L_126 : zc_Lv RL 126 yX9_noteOf cX9_noteOf 3 (some .int) 2 := ⟨⟨zc_g6 6 rfl rfl, zc_g1 10 rfl rfl, ⟨by decide +kernel, by decide +kernel, by decide +kernel⟩, Or.inl (zc_g6 3 rfl rfl)⟩, zc_g6 4 rfl rfl, zc_g6 5 rfl rfl⟩
set_option maxRecDepth 20000 in
theorem wm_L_127 : zc_Lv RL 127 yX8_acted cX8_acted 2 (some .int) 1 := ⟨⟨zc_g4 57 rfl rfl, zc_g1 1 rfl rfl, ⟨by decide +kernel, by decide +kernel, by decide +kernel⟩, Or.inl (zc_g4 54 rfl rfl)⟩, zc_g4 55 rfl rfl, zc_g4 56 rfl rfl⟩
set_option maxRecDepth 20000 in
theorem wm_L_130 : zc_Lv RL 130 yX9_acted cX9_acted 2 (some .int) 1 := ⟨⟨zc_g6 18 rfl rfl, zc_g1 10 rfl rfl, ⟨by decide +kernel, by decide +kernel, by decide +kernel⟩, Or.inl (zc_g6 15 rfl rfl)⟩, zc_g6 16 rfl rfl, zc_g6 17 rfl rfl⟩
set_option maxRecDepth 20000 in
theorem wm_L_131 : zc_Lv RL 131 yX8_notes cX8_notes 7 (some .int) 1 := ⟨⟨zc_g4 61 rfl rfl, zc_g1 1 rfl rfl, ⟨by decide +kernel, by decide +kernel, by decide +kernel⟩, Or.inl (zc_g4 58 rfl rfl)⟩, zc_g4 59 rfl rfl, zc_g4 60 rfl rfl⟩
set_option maxRecDepth 20000 in
theorem wm_L_134 : zc_Lv RL 134 yX9_notes cX9_notes 6 (some .int) 1 := ⟨⟨zc_g6 22 rfl rfl, zc_g1 10 rfl rfl, ⟨by decide +kernel, by decide +kernel, by decide +kernel⟩, Or.inl (zc_g6 19 rfl rfl)⟩, zc_g6 20 rfl rfl, zc_g6 21 rfl rfl⟩
set_option maxRecDepth 20000 in
theorem wm_L_135 : zc_Lv RL 135 yX8_sheet cX8_sheet 4 (some .int) 3 := ⟨⟨zc_g4 65 rfl rfl, zc_g1 1 rfl rfl, ⟨by decide +kernel, by decide +kernel, by decide +kernel⟩, Or.inl (zc_g4 62 rfl rfl)⟩, zc_g4 63 rfl rfl, zc_g4 64 rfl rfl⟩
set_option maxRecDepth 20000 in
theorem wm_L_138 : zc_Lv RL 138 yX9_sheet cX9_sheet 5 (some .int) 3 := ⟨⟨zc_g6 26 rfl rfl, zc_g1 10 rfl rfl, ⟨by decide +kernel, by decide +kernel, by decide +kernel⟩, Or.inl (zc_g6 23 rfl rfl)⟩, zc_g6 24 rfl rfl, zc_g6 25 rfl rfl⟩
set_option maxRecDepth 20000 in
theorem wm_L_139 : zc_Lv RL 139 yX8_lay cX8_lay 5 (some .int) 3 := ⟨⟨zc_g4 79 rfl rfl, zc_g1 1 rfl rfl, ⟨by decide +kernel, by decide +kernel, by decide +kernel⟩, Or.inl (zc_g4 76 rfl rfl)⟩, zc_g4 77 rfl rfl, zc_g4 78 rfl rfl⟩
set_option maxRecDepth 20000 in
theorem wm_L_142 : zc_Lv RL 142 yX9_lay cX9_lay 4 (some .int) 3 := ⟨⟨zc_g6 30 rfl rfl, zc_g1 10 rfl rfl, ⟨by decide +kernel, by decide +kernel, by decide +kernel⟩, Or.inl (zc_g6 27 rfl rfl)⟩, zc_g6 28 rfl rfl, zc_g6 29 rfl rfl⟩
set_option maxRecDepth 20000 in
theorem wm_L_143 : zc_Lv RL 143 yX8_read cX8_read 12 (some .int) 6 := ⟨⟨zc_g4 91 rfl rfl, zc_g1 1 rfl rfl, ⟨by decide +kernel, by decide +kernel, by decide +kernel⟩, Or.inl (zc_g4 88 rfl rfl)⟩, zc_g4 89 rfl rfl, zc_g4 90 rfl rfl⟩
set_option maxRecDepth 20000 in
theorem wm_L_146 : zc_Lv RL 146 yX9_read cX9_read 12 (some .int) 6 := ⟨⟨zc_g6 34 rfl rfl, zc_g1 10 rfl rfl, ⟨by decide +kernel, by decide +kernel, by decide +kernel⟩, Or.inl (zc_g6 31 rfl rfl)⟩, zc_g6 32 rfl rfl, zc_g6 33 rfl rfl⟩
set_option maxRecDepth 20000 in
theorem wm_L_147 : zc_Lv RL 147 yX8_torn cX8_torn 1 (some .int) 0 := ⟨⟨zc_g4 107 rfl rfl, zc_g1 1 rfl rfl, ⟨by decide +kernel, by decide +kernel, by decide +kernel⟩, Or.inl (zc_g4 104 rfl rfl)⟩, zc_g4 105 rfl rfl, zc_g4 106 rfl rfl⟩
set_option maxRecDepth 20000 in
theorem wm_L_150 : zc_Lv RL 150 yX9_torn cX9_torn 1 (some .int) 0 := ⟨⟨zc_g6 39 rfl rfl, zc_g1 10 rfl rfl, ⟨by decide +kernel, by decide +kernel, by decide +kernel⟩, Or.inl (zc_g6 36 rfl rfl)⟩, zc_g6 37 rfl rfl, zc_g6 38 rfl rfl⟩
set_option maxRecDepth 20000 in
theorem wm_L_151 : zc_Lv RL 151 yX8_count cX8_count 2 (some .int) 1 := ⟨⟨zc_g4 111 rfl rfl, zc_g1 1 rfl rfl, ⟨by decide +kernel, by decide +kernel, by decide +kernel⟩, Or.inl (zc_g4 108 rfl rfl)⟩, zc_g4 109 rfl rfl, zc_g4 110 rfl rfl⟩
set_option maxRecDepth 20000 in
theorem wm_L_154 : zc_Lv RL 154 yX9_count cX9_count 7 (some .int) 1 := ⟨⟨zc_g6 43 rfl rfl, zc_g1 10 rfl rfl, ⟨by decide +kernel, by decide +kernel, by decide +kernel⟩, Or.inl (zc_g6 40 rfl rfl)⟩, zc_g6 41 rfl rfl, zc_g6 42 rfl rfl⟩
def shX : List zc_H := [.inl (8, [some 1, some 2, some 3, some 4, some 5, some 6, some 7]), .inl (4, [none, none, some 11, some 12, some 13, some 14, some 15, some 16]), .inl (6, [some 17, none, some 8, none, none, none, none]), .inl (1, [none, some 18, some 19, some 20]), .inl (3, [some 1, some 3, some 9, none, none, some 21, some 22, none, none, some 23, none, some 24, none, none]), .inl (0, [some 1, some 10, none, some 25, some 26, some 27, none, none, some 28, some 29]), .inl (2, [none, some 30, some 31, some 32, some 33, some 34, some 35, some 36]), .inl (5, [some 37, some 38, some 39, none]), .inl (1, [none, some 40, some 41, some 42]), .inl (7, [some 1, some 43, none]), .inl (7, [some 1, some 44, none]), .inr (0, 256, false), .inr (0, 200, false), .inr (0, 200, false), .inr (0, 200, false), .inr (1, 64, false), .inr (1, 64, false), .inr (0, 120, false), .inr (0, 6, false), .inr (0, 6, false), .inr (0, 6, false), .inr (0, 384, false), .inr (0, 64, false), .inr (0, 64, false), .inr (0, 64, false), .inr (0, 121, false), .inr (0, 121, false), .inr (0, 64, false), .inr (2, 121, true), .inr (2, 121, true), .inr (0, 24, false), .inr (0, 24, false), .inr (0, 24, false), .inr (0, 24, false), .inr (0, 24, false), .inr (0, 24, false), .inr (1, 24, false), .inr (0, 4, false), .inr (0, 4, false), .inr (0, 256, false), .inr (0, 6, false), .inr (0, 6, false), .inr (0, 6, false), .inr (0, 64, false), .inr (0, 64, false)]
def okX : zc_tb := [[(-2147483648, 2147483647, -2147483648), (-2147483648, 2147483647, -2147483648), (-2147483648, 2147483647, -2147483648), (-2147483648, 2147483647, -2147483648), (-2147483648, 2147483647, -2147483648), (-2147483648, 2147483647, -2147483648), (-2147483648, 2147483647, -2147483648)], [(0, 63, 0), (0, 200, 0), (-2147483648, 2147483647, -2147483648), (-2147483648, 2147483647, -2147483648), (-2147483648, 2147483647, -2147483648), (-2147483648, 2147483647, -2147483648), (-2147483648, 2147483647, -2147483648), (-2147483648, 2147483647, -2147483648)], [(-2147483648, 2147483647, -2147483648), (0, 120, 0), (-2147483648, 2147483647, -2147483648), (0, 5, 0), (0, 3, 0), (0, 120, 0), (0, 120, 0)], [(0, 6, 0), (-2147483648, 2147483647, -2147483648), (-2147483648, 2147483647, -2147483648), (-2147483648, 2147483647, -2147483648)], [(-2147483648, 2147483647, -2147483648), (-2147483648, 2147483647, -2147483648), (-2147483648, 2147483647, -2147483648), (0, 3, 0), (0, 14, 0), (-2147483648, 2147483647, -2147483648), (-2147483648, 2147483647, -2147483648), (0, 64, 0), (-2147483648, 2147483647, -2147483648), (-2147483648, 2147483647, -2147483648), (0, 64, 0), (-2147483648, 2147483647, -2147483648), (0, 64, 0), (-2147483648, 2147483647, -2147483648)], [(-2147483648, 2147483647, -2147483648), (-2147483648, 2147483647, -2147483648), (0, 121, 0), (-2147483648, 2147483647, -2147483648), (-2147483648, 2147483647, -2147483648), (-2147483648, 2147483647, -2147483648), (0, 64, 0), (-2147483648, 2147483647, -2147483648), (-2147483648, 2147483647, -2147483648), (-2147483648, 2147483647, -2147483648)], [(0, 24, 0), (-2147483648, 2147483647, -2147483648), (-2147483648, 2147483647, -2147483648), (-2147483648, 2147483647, -2147483648), (-2147483648, 2147483647, -2147483648), (-2147483648, 2147483647, -2147483648), (-2147483648, 2147483647, -2147483648), (-2147483648, 2147483647, -2147483648)], [(-2147483648, 2147483647, -2147483648), (-2147483648, 2147483647, -2147483648), (-2147483648, 2147483647, -2147483648), (0, 3, 0)], [(0, 6, 0), (-2147483648, 2147483647, -2147483648), (-2147483648, 2147483647, -2147483648), (-2147483648, 2147483647, -2147483648)], [(-2147483648, 2147483647, -2147483648), (-2147483648, 2147483647, -2147483648), (0, 63, 0)], [(-2147483648, 2147483647, -2147483648), (-2147483648, 2147483647, -2147483648), (0, 63, 0)], [(0, 200, 0)], [(0, 200, 0)], [(0, 63, 0)], [(-4, 999, 0)], [(0, 1, 0)], [(0, 1, 0)], [(0, 255, 0)], [(0, 4, 0)], [], [], [(-4, 999, 0)], [(-1000000, 1003, -1000000)], [(-1000000, 1000000, -1000000)], [(-1000000, 1003, -1000000)], [], [], [(-4, 999, 0)], [], [], [(0, 3, 0)], [(0, 5, 0)], [(0, 63, 0)], [(0, 77, 0)], [(-4, 999, -4)], [(0, 999, 0)], [(0, 1, 0)], [(-1, 2, -1)], [(0, 64, 0)], [], [(0, 4, 0)], [], [], [(-4, 999, 0)], [(-4, 999, 0)]]
