set_option maxRecDepth 20000 in
theorem ggX0_hasPersonOrNone_X0_hasPerson : GoodIn wsX0_hasPersonOrNone wsX0_hasPerson := goodIn_r _ [5, 6, 7, 8, 9, 10, 11, 12, 13, 14, 15, 16, 17, 18] (by decide +kernel) (by decide +kernel)
set_option maxRecDepth 20000 in
theorem gX0_hasPersonOrNone_X0_hasPerson : GoodIn wsX0_hasPersonOrNone (wsV RX0 55 RX0 yX0_hasPerson wsX0_hasPerson) := goodIn_app (goodIn_of _ (by decide +kernel)) ggX0_hasPersonOrNone_X0_hasPerson
set_option maxRecDepth 20000 in
theorem ggX0_hasCrossing_X0_hasPerson : GoodIn wsX0_hasCrossing wsX0_hasPerson := goodIn_r _ [5, 6, 16, 17, 18, 19, 20, 21, 22, 23, 24, 25, 26, 27] (by decide +kernel) (by decide +kernel)
set_option maxRecDepth 20000 in
theorem gX0_hasCrossing_X0_hasPerson : GoodIn wsX0_hasCrossing (wsV RX0 55 RX0 yX0_hasPerson wsX0_hasPerson) := goodIn_app (goodIn_of _ (by decide +kernel)) ggX0_hasCrossing_X0_hasPerson
set_option maxRecDepth 20000 in
theorem ggX0_hasCrossing_X0_hasPersonOrNone : GoodIn wsX0_hasCrossing wsX0_hasPersonOrNone := goodIn_r _ [10, 1, 2, 3, 4, 5, 6, 16, 17, 18, 19, 20, 21, 22, 23, 24, 25, 26, 27] (by decide +kernel) (by decide +kernel)
set_option maxRecDepth 20000 in
theorem gX0_hasCrossing_X0_hasPersonOrNone : GoodIn wsX0_hasCrossing (wsV RX0 59 RX0 yX0_hasPersonOrNone wsX0_hasPersonOrNone) := goodIn_app (goodIn_of _ (by decide +kernel)) ggX0_hasCrossing_X0_hasPersonOrNone
set_option maxRecDepth 20000 in
theorem ggX0_hasCrossing_X0_hasPost : GoodIn wsX0_hasCrossing wsX0_hasPost := goodIn_r _ [14, 15, 16, 17, 18, 19, 20, 21, 22, 23, 24, 25, 26, 27] (by decide +kernel) (by decide +kernel)
set_option maxRecDepth 20000 in
theorem gX0_hasCrossing_X0_hasPost : GoodIn wsX0_hasCrossing (wsV RX0 62 RX0 yX0_hasPost wsX0_hasPost) := goodIn_app (goodIn_of _ (by decide +kernel)) ggX0_hasCrossing_X0_hasPost
set_option maxRecDepth 20000 in
theorem ggX0_isAct_X0_personOf : GoodIn wsX0_isAct wsX0_personOf := goodIn_r _ [5] (by decide +kernel) (by decide +kernel)
set_option maxRecDepth 20000 in
theorem gX0_isAct_X0_personOf : GoodIn wsX0_isAct (va_wsS RX0 67 yX0_personOf wsX0_personOf) := goodIn_app (goodIn_of _ (by decide +kernel)) ggX0_isAct_X0_personOf
set_option maxRecDepth 20000 in
theorem ggX0_isAct_X0_childOf : GoodIn wsX0_isAct wsX0_childOf := goodIn_r _ [8] (by decide +kernel) (by decide +kernel)
set_option maxRecDepth 20000 in
theorem gX0_isAct_X0_childOf : GoodIn wsX0_isAct (va_wsS RX0 71 yX0_childOf wsX0_childOf) := goodIn_app (goodIn_of _ (by decide +kernel)) ggX0_isAct_X0_childOf
set_option maxRecDepth 20000 in
theorem ggX0_isAct_X0_postOf : GoodIn wsX0_isAct wsX0_postOf := goodIn_r _ [11] (by decide +kernel) (by decide +kernel)
set_option maxRecDepth 20000 in
theorem gX0_isAct_X0_postOf : GoodIn wsX0_isAct (va_wsS RX0 74 yX0_postOf wsX0_postOf) := goodIn_app (goodIn_of _ (by decide +kernel)) ggX0_isAct_X0_postOf
set_option maxRecDepth 20000 in
theorem ggX0_isAct_X0_hasCrossing : GoodIn wsX0_isAct wsX0_hasCrossing := goodIn_r _ [15, 16, 17, 18, 4, 19, 20, 21, 22, 23, 24, 25, 26, 27, 28, 29, 30, 31, 32, 33, 34, 35, 36, 37, 38, 39, 40, 41] (by decide +kernel) (by decide +kernel)
set_option maxRecDepth 20000 in
theorem gX0_isAct_X0_hasCrossing : GoodIn wsX0_isAct (wsV RX0 77 RX0 yX0_hasCrossing wsX0_hasCrossing) := goodIn_app (goodIn_of _ (by decide +kernel)) ggX0_isAct_X0_hasCrossing
set_option maxRecDepth 20000 in
theorem ggX0_isStamp_X0_hasPost : GoodIn wsX0_isStamp wsX0_hasPost := goodIn_r _ [7, 8, 9, 10, 11, 12, 13, 14, 15, 16, 17, 18, 19, 20] (by decide +kernel) (by decide +kernel)
set_option maxRecDepth 20000 in
theorem gX0_isStamp_X0_hasPost : GoodIn wsX0_isStamp (wsV RX0 62 RX0 yX0_hasPost wsX0_hasPost) := goodIn_app (goodIn_of _ (by decide +kernel)) ggX0_isStamp_X0_hasPost
set_option maxRecDepth 20000 in
theorem ggX0_children_X0_bitsOf : GoodIn wsX0_children wsX0_bitsOf := goodIn_r _ [6, 7, 8, 9, 10, 11, 12, 13, 14, 15, 16, 17, 18, 19] (by decide +kernel) (by decide +kernel)
set_option maxRecDepth 20000 in
theorem gX0_children_X0_bitsOf : GoodIn wsX0_children (wsV RX0 85 RX0 yX0_bitsOf wsX0_bitsOf) := goodIn_app (goodIn_of _ (by decide +kernel)) ggX0_children_X0_bitsOf
set_option maxRecDepth 20000 in
theorem ggX0_staying_X0_bitsOf : GoodIn wsX0_staying wsX0_bitsOf := goodIn_r _ [6, 7, 8, 9, 10, 11, 12, 13, 14, 15, 16, 17, 18, 19] (by decide +kernel) (by decide +kernel)
set_option maxRecDepth 20000 in
theorem gX0_staying_X0_bitsOf : GoodIn wsX0_staying (wsV RX0 85 RX0 yX0_bitsOf wsX0_bitsOf) := goodIn_app (goodIn_of _ (by decide +kernel)) ggX0_staying_X0_bitsOf
set_option maxRecDepth 20000 in
theorem ggX0_goal_X0_everyone : GoodIn wsX0_goal wsX0_everyone := goodIn_r _ [5, 6, 16, 17, 18, 19, 20, 21, 22, 23, 24, 25, 26, 27] (by decide +kernel) (by decide +kernel)
set_option maxRecDepth 20000 in
theorem gX0_goal_X0_everyone : GoodIn wsX0_goal (wsV RX0 89 RX0 yX0_everyone wsX0_everyone) := goodIn_app (goodIn_of _ (by decide +kernel)) ggX0_goal_X0_everyone
set_option maxRecDepth 20000 in
theorem ggX0_goal_X0_staying : GoodIn wsX0_goal wsX0_staying := goodIn_r _ [10, 11, 12, 13, 14, 4, 15, 6, 16, 17, 18, 19, 20, 21, 22, 23, 24, 25, 26, 27] (by decide +kernel) (by decide +kernel)
set_option maxRecDepth 20000 in
theorem gX0_goal_X0_staying : GoodIn wsX0_goal (wsV RX0 93 RX0 yX0_staying wsX0_staying) := goodIn_app (goodIn_of _ (by decide +kernel)) ggX0_goal_X0_staying
set_option maxRecDepth 20000 in
theorem ggX0_riskOfAct_X0_personOf : GoodIn wsX0_riskOfAct wsX0_personOf := goodIn_r _ [4] (by decide +kernel) (by decide +kernel)
set_option maxRecDepth 20000 in
theorem gX0_riskOfAct_X0_personOf : GoodIn wsX0_riskOfAct (va_wsS RX0 67 yX0_personOf wsX0_personOf) := goodIn_app (goodIn_of _ (by decide +kernel)) ggX0_riskOfAct_X0_personOf
set_option maxRecDepth 20000 in
theorem ggX0_riskOfAct_X0_postOf : GoodIn wsX0_riskOfAct wsX0_postOf := goodIn_r _ [7] (by decide +kernel) (by decide +kernel)
set_option maxRecDepth 20000 in
theorem gX0_riskOfAct_X0_postOf : GoodIn wsX0_riskOfAct (va_wsS RX0 74 yX0_postOf wsX0_postOf) := goodIn_app (goodIn_of _ (by decide +kernel)) ggX0_riskOfAct_X0_postOf
set_option maxRecDepth 20000 in
theorem ggX0_riskOfAct_X0_riskOf : GoodIn wsX0_riskOfAct wsX0_riskOf := goodIn_r _ [11, 12, 13, 14, 15, 16, 17, 18, 19, 20, 21, 22, 23, 24, 25] (by decide +kernel) (by decide +kernel)
set_option maxRecDepth 20000 in
theorem gX0_riskOfAct_X0_riskOf : GoodIn wsX0_riskOfAct (wsV RX0 101 RX0 yX0_riskOf wsX0_riskOf) := goodIn_app (goodIn_of _ (by decide +kernel)) ggX0_riskOfAct_X0_riskOf
set_option maxRecDepth 20000 in
theorem ggX1_begin_J7_fill_d0a16 : GoodIn wsX1_begin wsJ7_fill_d0a16 := goodIn_r _ [6] (by decide +kernel) (by decide +kernel)
set_option maxRecDepth 20000 in
theorem gX1_begin_J7_fill_d0a16 : GoodIn wsX1_begin (va_wsS RX1 20 yJ7_fill_d0a16 wsJ7_fill_d0a16) := goodIn_app (goodIn_of _ (by decide +kernel)) ggX1_begin_J7_fill_d0a16
set_option maxRecDepth 20000 in
theorem ggX1_begin_X1_add : GoodIn wsX1_begin wsX1_add := goodIn_r _ [11, 1, 2, 12, 13, 14, 15, 16] (by decide +kernel) (by decide +kernel)
set_option maxRecDepth 20000 in
theorem gX1_begin_X1_add : GoodIn wsX1_begin (wsV RX1 30 RX1 yX1_add wsX1_add) := goodIn_app (goodIn_of _ (by decide +kernel)) ggX1_begin_X1_add
set_option maxRecDepth 20000 in
theorem ggX1_addBehind_X6_list : GoodIn wsX1_addBehind wsX6_list := goodIn_r _ [6, 7, 8, 9, 10, 11, 12, 13, 14, 15, 16, 17, 18, 19, 20, 21, 31, 32, 33, 34, 35, 36, 37, 38, 39, 40, 41, 42] (by decide +kernel) (by decide +kernel)
set_option maxRecDepth 20000 in
theorem gX1_addBehind_X6_list : GoodIn wsX1_addBehind (wsV RX1 34 RX6 yX6_list wsX6_list) := goodIn_app (goodIn_of _ (by decide +kernel)) ggX1_addBehind_X6_list
set_option maxRecDepth 20000 in
theorem ggX1_addBehind_X1_add : GoodIn wsX1_addBehind wsX1_add := goodIn_r _ [26, 27, 28, 29, 30, 43, 44, 45] (by decide +kernel) (by decide +kernel)
set_option maxRecDepth 20000 in
theorem gX1_addBehind_X1_add : GoodIn wsX1_addBehind (wsV RX1 30 RX1 yX1_add wsX1_add) := goodIn_app (goodIn_of _ (by decide +kernel)) ggX1_addBehind_X1_add
set_option maxRecDepth 20000 in
theorem ggX1_fill_X1_begin : GoodIn wsX1_fill wsX1_begin := goodIn_r _ [8, 9, 1, 10, 11, 12, 13, 14, 15, 16, 7, 17, 2, 3, 43, 44, 45] (by decide +kernel) (by decide +kernel)
set_option maxRecDepth 20000 in
theorem gX1_fill_X1_begin : GoodIn wsX1_fill (wsV RX1 41 RX1 yX1_begin wsX1_begin) := goodIn_app (goodIn_of _ (by decide +kernel)) ggX1_fill_X1_begin
set_option maxRecDepth 20000 in
theorem ggX1_fill_X1_addBehind : GoodIn wsX1_fill wsX1_addBehind := goodIn_r _ [21, 22, 23, 24, 25, 26, 27, 28, 29, 30, 31, 32, 33, 34, 35, 36, 37, 38, 39, 40, 41, 42, 14, 15, 16, 7, 17, 9, 1, 2, 3, 46, 47, 48, 49, 50, 51, 52, 53, 54, 55, 56, 57, 43, 44, 45] (by decide +kernel) (by decide +kernel)
set_option maxRecDepth 20000 in
theorem gX1_fill_X1_addBehind : GoodIn wsX1_fill (wsV RX1 44 RX1 yX1_addBehind wsX1_addBehind) := goodIn_app (goodIn_of _ (by decide +kernel)) ggX1_fill_X1_addBehind
set_option maxRecDepth 20000 in
theorem ggX1_reaches_X1_begin : GoodIn wsX1_reaches wsX1_begin := goodIn_r _ [8, 9, 1, 10, 11, 12, 13, 14, 15, 16, 7, 17, 2, 3, 46, 47, 48] (by decide +kernel) (by decide +kernel)
set_option maxRecDepth 20000 in
theorem gX1_reaches_X1_begin : GoodIn wsX1_reaches (wsV RX1 41 RX1 yX1_begin wsX1_begin) := goodIn_app (goodIn_of _ (by decide +kernel)) ggX1_reaches_X1_begin
set_option maxRecDepth 20000 in
theorem ggX1_reaches_X6_overIn : GoodIn wsX1_reaches wsX6_overIn := goodIn_r _ [21] (by decide +kernel) (by decide +kernel)
set_option maxRecDepth 20000 in
theorem gX1_reaches_X6_overIn : GoodIn wsX1_reaches (va_wsS RX1 48 yX6_overIn wsX6_overIn) := goodIn_app (goodIn_of _ (by decide +kernel)) ggX1_reaches_X6_overIn
set_option maxRecDepth 20000 in
theorem ggX1_reaches_X1_addBehind : GoodIn wsX1_reaches wsX1_addBehind := goodIn_r _ [25, 26, 27, 28, 29, 20, 30, 31, 32, 33, 34, 35, 36, 37, 38, 39, 40, 41, 42, 43, 44, 45, 14, 15, 16, 7, 17, 9, 1, 2, 3, 49, 50, 51, 52, 53, 54, 55, 56, 57, 58, 59, 60, 46, 47, 48] (by decide +kernel) (by decide +kernel)
set_option maxRecDepth 20000 in
theorem gX1_reaches_X1_addBehind : GoodIn wsX1_reaches (wsV RX1 44 RX1 yX1_addBehind wsX1_addBehind) := goodIn_app (goodIn_of _ (by decide +kernel)) ggX1_reaches_X1_addBehind
set_option maxRecDepth 20000 in
theorem ggX2_build_X6_beginning : GoodIn wsX2_build wsX6_beginning := goodIn_r _ [12] (by decide +kernel) (by decide +kernel)
set_option maxRecDepth 20000 in
theorem gX2_build_X6_beginning : GoodIn wsX2_build (va_wsS RX2 37 yX6_beginning wsX6_beginning) := goodIn_app (goodIn_of _ (by decide +kernel)) ggX2_build_X6_beginning
set_option maxRecDepth 20000 in
theorem ggX2_build_X2_number : GoodIn wsX2_build wsX2_number := goodIn_r _ [17, 2, 1, 5, 3, 43, 44, 45, 46, 47, 48] (by decide +kernel) (by decide +kernel)
set_option maxRecDepth 20000 in
theorem gX2_build_X2_number : GoodIn wsX2_build (wsV RX2 41 RX2 yX2_number wsX2_number) := goodIn_app (goodIn_of _ (by decide +kernel)) ggX2_build_X2_number
set_option maxRecDepth 20000 in
theorem ggX2_build_X6_list : GoodIn wsX2_build wsX6_list := goodIn_r _ [21, 22, 23, 24, 25, 26, 27, 28, 29, 30, 31, 32, 33, 34, 35, 36, 49, 50, 51, 52, 53, 54, 55, 56, 57, 58, 59, 60] (by decide +kernel) (by decide +kernel)
set_option maxRecDepth 20000 in
theorem gX2_build_X6_list : GoodIn wsX2_build (wsV RX2 45 RX6 yX6_list wsX6_list) := goodIn_app (goodIn_of _ (by decide +kernel)) ggX2_build_X6_list
set_option maxRecDepth 20000 in
theorem ggX2_build_X2_link : GoodIn wsX2_build wsX2_link := goodIn_r _ [40, 4, 41, 42, 43, 44, 45, 46, 47, 48] (by decide +kernel) (by decide +kernel)
set_option maxRecDepth 20000 in
theorem gX2_build_X2_link : GoodIn wsX2_build (wsV RX2 54 RX2 yX2_link wsX2_link) := goodIn_app (goodIn_of _ (by decide +kernel)) ggX2_build_X2_link
set_option maxRecDepth 20000 in
theorem ggX2_overAt_X6_overIn : GoodIn wsX2_overAt wsX6_overIn := goodIn_r _ [6] (by decide +kernel) (by decide +kernel)
set_option maxRecDepth 20000 in
theorem gX2_overAt_X6_overIn : GoodIn wsX2_overAt (va_wsS RX2 58 yX6_overIn wsX6_overIn) := goodIn_app (goodIn_of _ (by decide +kernel)) ggX2_overAt_X6_overIn
set_option maxRecDepth 20000 in
theorem ggX2_settle_X2_overAt : GoodIn wsX2_settle wsX2_overAt := goodIn_r _ [8, 2, 9, 10, 11, 12, 13, 35, 36, 37, 38, 39, 40] (by decide +kernel) (by decide +kernel)
set_option maxRecDepth 20000 in
theorem gX2_settle_X2_overAt : GoodIn wsX2_settle (wsV RX2 67 RX2 yX2_overAt wsX2_overAt) := goodIn_app (goodIn_of _ (by decide +kernel)) ggX2_settle_X2_overAt
set_option maxRecDepth 20000 in
theorem ggX2_settle_X2_cheapest : GoodIn wsX2_settle wsX2_cheapest := goodIn_r _ [17, 1, 18, 19, 20, 21, 22, 23, 24, 25, 26, 7, 27, 28, 29, 30, 31, 32, 33, 34, 35, 36, 37, 38, 39, 40] (by decide +kernel) (by decide +kernel)
set_option maxRecDepth 20000 in
theorem gX2_settle_X2_cheapest : GoodIn wsX2_settle (wsV RX2 72 RX2 yX2_cheapest wsX2_cheapest) := goodIn_app (goodIn_of _ (by decide +kernel)) ggX2_settle_X2_cheapest
set_option maxRecDepth 20000 in
theorem ggX2_cheapest_X2_targetOf : GoodIn wsX2_cheapest wsX2_targetOf := goodIn_r _ [12] (by decide +kernel) (by decide +kernel)
set_option maxRecDepth 20000 in
theorem gX2_cheapest_X2_targetOf : GoodIn wsX2_cheapest (va_wsS RX2 79 yX2_targetOf wsX2_targetOf) := goodIn_app (goodIn_of _ (by decide +kernel)) ggX2_cheapest_X2_targetOf
set_option maxRecDepth 20000 in
theorem ggX2_cheapest_X2_actOf : GoodIn wsX2_cheapest wsX2_actOf := goodIn_r _ [15] (by decide +kernel) (by decide +kernel)
set_option maxRecDepth 20000 in
theorem gX2_cheapest_X2_actOf : GoodIn wsX2_cheapest (va_wsS RX2 82 yX2_actOf wsX2_actOf) := goodIn_app (goodIn_of _ (by decide +kernel)) ggX2_cheapest_X2_actOf
set_option maxRecDepth 20000 in
theorem ggX2_spread_X2_cheapens : GoodIn wsX2_spread wsX2_cheapens := goodIn_r _ [8, 1, 9, 10, 11, 12, 13, 7, 14, 15, 16, 17, 18, 19, 20, 21, 22, 23, 24, 25, 26, 27] (by decide +kernel) (by decide +kernel)
set_option maxRecDepth 20000 in
theorem gX2_spread_X2_cheapens : GoodIn wsX2_spread (wsV RX2 91 RX2 yX2_cheapens wsX2_cheapens) := goodIn_app (goodIn_of _ (by decide +kernel)) ggX2_spread_X2_cheapens
set_option maxRecDepth 20000 in
theorem ggX2_cheapens_X2_targetOf : GoodIn wsX2_cheapens wsX2_targetOf := goodIn_r _ [8] (by decide +kernel) (by decide +kernel)
set_option maxRecDepth 20000 in
theorem gX2_cheapens_X2_targetOf : GoodIn wsX2_cheapens (va_wsS RX2 79 yX2_targetOf wsX2_targetOf) := goodIn_app (goodIn_of _ (by decide +kernel)) ggX2_cheapens_X2_targetOf
set_option maxRecDepth 20000 in
theorem ggX2_cheapens_X2_actOf : GoodIn wsX2_cheapens wsX2_actOf := goodIn_r _ [11] (by decide +kernel) (by decide +kernel)
set_option maxRecDepth 20000 in
theorem gX2_cheapens_X2_actOf : GoodIn wsX2_cheapens (va_wsS RX2 82 yX2_actOf wsX2_actOf) := goodIn_app (goodIn_of _ (by decide +kernel)) ggX2_cheapens_X2_actOf
set_option maxRecDepth 20000 in
theorem ggX2_bestEdge_X2_targetOf : GoodIn wsX2_bestEdge wsX2_targetOf := goodIn_r _ [10] (by decide +kernel) (by decide +kernel)
set_option maxRecDepth 20000 in
theorem gX2_bestEdge_X2_targetOf : GoodIn wsX2_bestEdge (va_wsS RX2 79 yX2_targetOf wsX2_targetOf) := goodIn_app (goodIn_of _ (by decide +kernel)) ggX2_bestEdge_X2_targetOf
set_option maxRecDepth 20000 in
theorem ggX2_bestEdge_X2_actOf : GoodIn wsX2_bestEdge wsX2_actOf := goodIn_r _ [13] (by decide +kernel) (by decide +kernel)
set_option maxRecDepth 20000 in
theorem gX2_bestEdge_X2_actOf : GoodIn wsX2_bestEdge (va_wsS RX2 82 yX2_actOf wsX2_actOf) := goodIn_app (goodIn_of _ (by decide +kernel)) ggX2_bestEdge_X2_actOf
set_option maxRecDepth 20000 in
theorem ggX3_open_J7_fill_d0a16 : GoodIn wsX3_open wsJ7_fill_d0a16 := goodIn_r _ [7] (by decide +kernel) (by decide +kernel)
set_option maxRecDepth 20000 in
theorem gX3_open_J7_fill_d0a16 : GoodIn wsX3_open (va_wsS RX3 27 yJ7_fill_d0a16 wsJ7_fill_d0a16) := goodIn_app (goodIn_of _ (by decide +kernel)) ggX3_open_J7_fill_d0a16
set_option maxRecDepth 20000 in
theorem ggX3_enter_J7_fill_d0a16 : GoodIn wsX3_enter wsJ7_fill_d0a16 := goodIn_r _ [15] (by decide +kernel) (by decide +kernel)
set_option maxRecDepth 20000 in
theorem gX3_enter_J7_fill_d0a16 : GoodIn wsX3_enter (va_wsS RX3 27 yJ7_fill_d0a16 wsJ7_fill_d0a16) := goodIn_app (goodIn_of _ (by decide +kernel)) ggX3_enter_J7_fill_d0a16
set_option maxRecDepth 20000 in
theorem ggX3_enter_X6_list : GoodIn wsX3_enter wsX6_list := goodIn_r _ [20, 21, 22, 23, 24, 25, 26, 27, 28, 29, 30, 31, 32, 33, 34, 35, 71, 72, 73, 74, 75, 76, 77, 78, 79, 80, 81, 82] (by decide +kernel) (by decide +kernel)
set_option maxRecDepth 20000 in
theorem gX3_enter_X6_list : GoodIn wsX3_enter (wsV RX3 37 RX6 yX6_list wsX6_list) := goodIn_app (goodIn_of _ (by decide +kernel)) ggX3_enter_X6_list
set_option maxRecDepth 20000 in
theorem ggX3_enter_X0_personOf : GoodIn wsX3_enter wsX0_personOf := goodIn_r _ [38] (by decide +kernel) (by decide +kernel)
set_option maxRecDepth 20000 in
theorem gX3_enter_X0_personOf : GoodIn wsX3_enter (va_wsS RX3 44 yX0_personOf wsX0_personOf) := goodIn_app (goodIn_of _ (by decide +kernel)) ggX3_enter_X0_personOf
set_option maxRecDepth 20000 in
theorem ggX3_enter_X0_postOf : GoodIn wsX3_enter wsX0_postOf := goodIn_r _ [41] (by decide +kernel) (by decide +kernel)
set_option maxRecDepth 20000 in
theorem gX3_enter_X0_postOf : GoodIn wsX3_enter (va_wsS RX3 49 yX0_postOf wsX0_postOf) := goodIn_app (goodIn_of _ (by decide +kernel)) ggX3_enter_X0_postOf
set_option maxRecDepth 20000 in
theorem ggX3_enter_X0_riskOfAct : GoodIn wsX3_enter wsX0_riskOfAct := goodIn_r _ [45, 46, 37, 34, 38, 47, 40, 41, 48, 49, 50, 51, 52, 53, 83, 84, 85, 86, 87, 88, 89, 90, 91, 92, 93, 94] (by decide +kernel) (by decide +kernel)
set_option maxRecDepth 20000 in
theorem gX3_enter_X0_riskOfAct : GoodIn wsX3_enter (wsV RX3 55 RX0 yX0_riskOfAct wsX0_riskOfAct) := goodIn_app (goodIn_of _ (by decide +kernel)) ggX3_enter_X0_riskOfAct
set_option maxRecDepth 20000 in
theorem ggX3_enter_X3_lead : GoodIn wsX3_enter wsX3_lead := goodIn_r _ [58, 11, 10, 1, 59, 60, 61, 62, 2, 66, 67, 68, 69, 70] (by decide +kernel) (by decide +kernel)
set_option maxRecDepth 20000 in
theorem gX3_enter_X3_lead : GoodIn wsX3_enter (wsV RX3 58 RX3 yX3_lead wsX3_lead) := goodIn_app (goodIn_of _ (by decide +kernel)) ggX3_enter_X3_lead
set_option maxRecDepth 20000 in
theorem ggX3_enter_X6_longer : GoodIn wsX3_enter wsX6_longer := goodIn_r _ [65] (by decide +kernel) (by decide +kernel)
set_option maxRecDepth 20000 in
theorem gX3_enter_X6_longer : GoodIn wsX3_enter (va_wsS RX3 68 yX6_longer wsX6_longer) := goodIn_app (goodIn_of _ (by decide +kernel)) ggX3_enter_X6_longer
set_option maxRecDepth 20000 in
theorem ggX4_weigh_X0_riskOf : GoodIn wsX4_weigh wsX0_riskOf := goodIn_r _ [9, 10, 11, 19, 20, 21, 22, 23, 24, 25, 26, 27, 28, 29, 30] (by decide +kernel) (by decide +kernel)
set_option maxRecDepth 20000 in
theorem gX4_weigh_X0_riskOf : GoodIn wsX4_weigh (wsV RX4 33 RX0 yX0_riskOf wsX0_riskOf) := goodIn_app (goodIn_of _ (by decide +kernel)) ggX4_weigh_X0_riskOf
set_option maxRecDepth 20000 in
theorem ggX4_weigh_X4_aboveOf : GoodIn wsX4_weigh wsX4_aboveOf := goodIn_r _ [15] (by decide +kernel) (by decide +kernel)
set_option maxRecDepth 20000 in
theorem gX4_weigh_X4_aboveOf : GoodIn wsX4_weigh (va_wsS RX4 37 yX4_aboveOf wsX4_aboveOf) := goodIn_app (goodIn_of _ (by decide +kernel)) ggX4_weigh_X4_aboveOf
set_option maxRecDepth 20000 in
theorem ggX4_weigh_X0_actOf : GoodIn wsX4_weigh wsX0_actOf := goodIn_r _ [18] (by decide +kernel) (by decide +kernel)
set_option maxRecDepth 20000 in
theorem gX4_weigh_X0_actOf : GoodIn wsX4_weigh (va_wsS RX4 41 yX0_actOf wsX0_actOf) := goodIn_app (goodIn_of _ (by decide +kernel)) ggX4_weigh_X0_actOf
set_option maxRecDepth 20000 in
theorem ggX5_take_X2_bestEdge : GoodIn wsX5_take wsX2_bestEdge := goodIn_r _ [8, 9, 10, 11, 12, 13, 14, 15, 16, 7, 17, 18, 19, 20, 26, 27, 28, 29, 30, 31, 32, 33, 34, 35] (by decide +kernel) (by decide +kernel)
set_option maxRecDepth 20000 in
theorem gX5_take_X2_bestEdge : GoodIn wsX5_take (wsV RX5 23 RX2 yX2_bestEdge wsX2_bestEdge) := goodIn_app (goodIn_of _ (by decide +kernel)) ggX5_take_X2_bestEdge
set_option maxRecDepth 20000 in
theorem ggX5_take_X2_targetOf : GoodIn wsX5_take wsX2_targetOf := goodIn_r _ [17] (by decide +kernel) (by decide +kernel)
set_option maxRecDepth 20000 in
theorem gX5_take_X2_targetOf : GoodIn wsX5_take (va_wsS RX5 29 yX2_targetOf wsX2_targetOf) := goodIn_app (goodIn_of _ (by decide +kernel)) ggX5_take_X2_targetOf
set_option maxRecDepth 20000 in
theorem ggX5_take_X2_actOf : GoodIn wsX5_take wsX2_actOf := goodIn_r _ [20] (by decide +kernel) (by decide +kernel)
set_option maxRecDepth 20000 in
theorem gX5_take_X2_actOf : GoodIn wsX5_take (va_wsS RX5 33 yX2_actOf wsX2_actOf) := goodIn_app (goodIn_of _ (by decide +kernel)) ggX5_take_X2_actOf
set_option maxRecDepth 20000 in
theorem ggX5_skip_X5_take : GoodIn wsX5_skip wsX5_take := goodIn_r _ [5, 6, 7, 8, 9, 10, 11, 12, 13, 14, 15, 16, 17, 18, 19, 20, 21, 22, 23, 24, 25, 26, 27, 28, 29, 30, 31, 32, 33, 34, 35, 36, 37, 38, 39, 40] (by decide +kernel) (by decide +kernel)
set_option maxRecDepth 20000 in
theorem gX5_skip_X5_take : GoodIn wsX5_skip (wsV RX5 36 RX5 yX5_take wsX5_take) := goodIn_app (goodIn_of _ (by decide +kernel)) ggX5_skip_X5_take
set_option maxRecDepth 20000 in
theorem ggX5_overNow_X2_overAt : GoodIn wsX5_overNow wsX2_overAt := goodIn_r _ [7, 8, 9, 10, 11, 12, 13, 17, 18, 19, 20, 21, 22] (by decide +kernel) (by decide +kernel)
set_option maxRecDepth 20000 in
theorem gX5_overNow_X2_overAt : GoodIn wsX5_overNow (wsV RX5 40 RX2 yX2_overAt wsX2_overAt) := goodIn_app (goodIn_of _ (by decide +kernel)) ggX5_overNow_X2_overAt
set_option maxRecDepth 20000 in
theorem ggX6_learn_X0_everyone : GoodIn wsX6_learn wsX0_everyone := goodIn_r _ [21, 22, 77, 78, 79, 80, 81, 82, 83, 84, 85, 86, 87, 88] (by decide +kernel) (by decide +kernel)
set_option maxRecDepth 20000 in
theorem gX6_learn_X0_everyone : GoodIn wsX6_learn (wsV RX6 34 RX0 yX0_everyone wsX0_everyone) := goodIn_app (goodIn_of _ (by decide +kernel)) ggX6_learn_X0_everyone
set_option maxRecDepth 20000 in
theorem ggX6_learn_X0_children : GoodIn wsX6_learn wsX0_children := goodIn_r _ [26, 27, 28, 29, 30, 20, 31, 22, 77, 78, 79, 80, 81, 82, 83, 84, 85, 86, 87, 88] (by decide +kernel) (by decide +kernel)
set_option maxRecDepth 20000 in
theorem gX6_learn_X0_children : GoodIn wsX6_learn (wsV RX6 43 RX0 yX0_children wsX0_children) := goodIn_app (goodIn_of _ (by decide +kernel)) ggX6_learn_X0_children
set_option maxRecDepth 20000 in
theorem ggX6_learn_J7_fill_53178 : GoodIn wsX6_learn wsJ7_fill_53178 := goodIn_r _ [35] (by decide +kernel) (by decide +kernel)
set_option maxRecDepth 20000 in
theorem gX6_learn_J7_fill_53178 : GoodIn wsX6_learn (va_wsS RX6 62 yJ7_fill_53178 wsJ7_fill_53178) := goodIn_app (goodIn_of _ (by decide +kernel)) ggX6_learn_J7_fill_53178
set_option maxRecDepth 20000 in
theorem ggX6_learn_X0_adultsBehind : GoodIn wsX6_learn wsX0_adultsBehind := goodIn_r _ [39, 22, 27, 40, 41, 42, 14, 43, 44, 77, 78, 79, 80, 81, 82, 83, 84, 85, 86, 87, 88] (by decide +kernel) (by decide +kernel)
set_option maxRecDepth 20000 in
theorem gX6_learn_X0_adultsBehind : GoodIn wsX6_learn (wsV RX6 77 RX0 yX0_adultsBehind wsX0_adultsBehind) := goodIn_app (goodIn_of _ (by decide +kernel)) ggX6_learn_X0_adultsBehind
set_option maxRecDepth 20000 in
theorem ggX6_learn_X6_firstAlike : GoodIn wsX6_learn wsX6_firstAlike := goodIn_r _ [49, 9, 65, 66, 67, 68, 69, 70, 71, 72, 73, 74, 75, 76] (by decide +kernel) (by decide +kernel)
set_option maxRecDepth 20000 in
theorem gX6_learn_X6_firstAlike : GoodIn wsX6_learn (wsV RX6 80 RX6 yX6_firstAlike wsX6_firstAlike) := goodIn_app (goodIn_of _ (by decide +kernel)) ggX6_learn_X6_firstAlike
set_option maxRecDepth 20000 in
theorem ggX6_learn_X6_mergedTrail : GoodIn wsX6_learn wsX6_mergedTrail := goodIn_r _ [52] (by decide +kernel) (by decide +kernel)
set_option maxRecDepth 20000 in
theorem gX6_learn_X6_mergedTrail : GoodIn wsX6_learn (va_wsS RX6 83 yX6_mergedTrail wsX6_mergedTrail) := goodIn_app (goodIn_of _ (by decide +kernel)) ggX6_learn_X6_mergedTrail
set_option maxRecDepth 20000 in
theorem ggX6_learn_X6_learnStamps : GoodIn wsX6_learn wsX6_learnStamps := goodIn_r _ [56, 57, 16, 6, 58, 11, 59, 60, 48, 61, 62, 63, 64, 65, 66, 67, 68, 69, 70, 71, 72, 73, 74, 75, 76, 77, 78, 79, 80, 81, 82, 83, 84, 85, 86, 87, 88] (by decide +kernel) (by decide +kernel)
set_option maxRecDepth 20000 in
theorem gX6_learn_X6_learnStamps : GoodIn wsX6_learn (wsV RX6 86 RX6 yX6_learnStamps wsX6_learnStamps) := goodIn_app (goodIn_of _ (by decide +kernel)) ggX6_learn_X6_learnStamps
set_option maxRecDepth 20000 in
theorem ggX6_learnStamps_X6_longer : GoodIn wsX6_learnStamps wsX6_longer := goodIn_r _ [9] (by decide +kernel) (by decide +kernel)
set_option maxRecDepth 20000 in
theorem gX6_learnStamps_X6_longer : GoodIn wsX6_learnStamps (va_wsS RX6 90 yX6_longer wsX6_longer) := goodIn_app (goodIn_of _ (by decide +kernel)) ggX6_learnStamps_X6_longer
set_option maxRecDepth 20000 in
theorem ggX6_learnStamps_X6_fits : GoodIn wsX6_learnStamps wsX6_fits := goodIn_r _ [12] (by decide +kernel) (by decide +kernel)
set_option maxRecDepth 20000 in
theorem gX6_learnStamps_X6_fits : GoodIn wsX6_learnStamps (va_wsS RX6 93 yX6_fits wsX6_fits) := goodIn_app (goodIn_of _ (by decide +kernel)) ggX6_learnStamps_X6_fits
set_option maxRecDepth 20000 in
theorem ggX6_list_X0_actOf : GoodIn wsX6_list wsX0_actOf := goodIn_r _ [15] (by decide +kernel) (by decide +kernel)
set_option maxRecDepth 20000 in
theorem gX6_list_X0_actOf : GoodIn wsX6_list (va_wsS RX6 111 yX0_actOf wsX0_actOf) := goodIn_app (goodIn_of _ (by decide +kernel)) ggX6_list_X0_actOf
set_option maxRecDepth 20000 in
theorem ggX7_init_X4_init : GoodIn wsX7_init wsX4_init := goodIn_r _ [41, 42, 2, 3, 43, 44, 45, 46, 47, 92, 93, 94, 95] (by decide +kernel) (by decide +kernel)
set_option maxRecDepth 20000 in
theorem gX7_init_X4_init : GoodIn wsX7_init (wsX4_init) := ggX7_init_X4_init
set_option maxRecDepth 20000 in
theorem ggX7_init_X0_init : GoodIn wsX7_init wsX0_init := goodIn_r _ [49, 50, 2, 3, 32, 51, 52, 53, 54, 55, 56, 57, 113, 114, 115, 116, 117, 118, 119, 120, 121, 122, 123, 124] (by decide +kernel) (by decide +kernel)
set_option maxRecDepth 20000 in
theorem gX7_init_X0_init_n31 : GoodIn wsX7_init (wsX0_init) := ggX7_init_X0_init
set_option maxRecDepth 20000 in
theorem ggX7_init_X6_init : GoodIn wsX7_init wsX6_init := goodIn_r _ [59, 60, 2, 3, 32, 61, 62, 63, 64, 65, 66, 67, 68, 125, 126, 127, 128, 129, 130, 131, 132, 133, 134, 135, 136] (by decide +kernel) (by decide +kernel)
set_option maxRecDepth 20000 in
theorem gX7_init_X6_init_n38 : GoodIn wsX7_init (wsX6_init) := ggX7_init_X6_init
set_option maxRecDepth 20000 in
theorem ggX7_init_X2_init : GoodIn wsX7_init wsX2_init := goodIn_r _ [70, 71, 2, 3, 72, 32, 73, 74, 75, 76, 77, 78, 79, 137, 138, 139, 140, 141, 142] (by decide +kernel) (by decide +kernel)
set_option maxRecDepth 20000 in
theorem gX7_init_X2_init_n48 : GoodIn wsX7_init (wsX2_init) := ggX7_init_X2_init
set_option maxRecDepth 20000 in
theorem ggX7_init_X1_init : GoodIn wsX7_init wsX1_init := goodIn_r _ [81, 82, 2, 3, 83, 32, 84, 44, 85, 143, 144, 145] (by decide +kernel) (by decide +kernel)
set_option maxRecDepth 20000 in
theorem gX7_init_X1_init_n55 : GoodIn wsX7_init (wsX1_init) := ggX7_init_X1_init
set_option maxRecDepth 20000 in
theorem ggX7_init_X5_init : GoodIn wsX7_init wsX5_init := goodIn_r _ [88, 89, 2, 3, 90, 91, 146, 147, 148] (by decide +kernel) (by decide +kernel)
set_option maxRecDepth 20000 in
theorem gX7_init_X5_init : GoodIn wsX7_init (wsX5_init) := ggX7_init_X5_init
set_option maxRecDepth 20000 in
theorem ggX7_beginFamily_X6_learn : GoodIn wsX7_beginFamily wsX6_learn := goodIn_r _ [10, 11, 12, 13, 14, 15, 16, 17, 18, 19, 20, 21, 22, 23, 24, 25, 26, 27, 28, 29, 30, 31, 32, 33, 34, 35, 36, 37, 38, 39, 40, 41, 42, 43, 44, 45, 46, 47, 48, 49, 50, 51, 52, 53, 54, 55, 56, 57, 9, 58, 59, 60, 61, 62, 63, 64, 65, 66, 67, 68, 69, 70, 71, 72, 73, 105, 106, 107, 108, 109, 110, 111, 112, 113, 114, 115, 116, 117, 118, 119, 120, 121, 122, 123, 124, 125, 126, 127, 128] (by decide +kernel) (by decide +kernel)
set_option maxRecDepth 20000 in
theorem gX7_beginFamily_X6_learn : GoodIn wsX7_beginFamily (wsV RX7 90 RX6 yX6_learn wsX6_learn) := goodIn_app (goodIn_of _ (by decide +kernel)) ggX7_beginFamily_X6_learn
set_option maxRecDepth 20000 in
theorem ggX7_beginFamily_X7_forgetGoal : GoodIn wsX7_beginFamily wsX7_forgetGoal := goodIn_r _ [78, 79, 80, 81, 82, 83, 84, 85, 77, 86, 87, 88, 89, 90, 91, 92, 93, 94, 95, 96, 97, 98, 99, 100, 101, 102, 103, 104, 129, 130, 131, 132] (by decide +kernel) (by decide +kernel)
set_option maxRecDepth 20000 in
theorem gX7_beginFamily_X7_forgetGoal : GoodIn wsX7_beginFamily (wsV RX7 98 RX7 yX7_forgetGoal wsX7_forgetGoal) := goodIn_app (goodIn_of _ (by decide +kernel)) ggX7_beginFamily_X7_forgetGoal
set_option maxRecDepth 20000 in
theorem ggX7_forgetGoal_X7_forgetRisks : GoodIn wsX7_forgetGoal wsX7_forgetRisks := goodIn_r _ [9, 10, 2, 11, 12, 13, 14, 15, 16, 17, 18, 19, 20, 21, 22, 23, 24, 25, 26, 27, 28, 29, 30, 31] (by decide +kernel) (by decide +kernel)
set_option maxRecDepth 20000 in
theorem gX7_forgetGoal_X7_forgetRisks : GoodIn wsX7_forgetGoal (wsV RX7 104 RX7 yX7_forgetRisks wsX7_forgetRisks) := goodIn_app (goodIn_of _ (by decide +kernel)) ggX7_forgetGoal_X7_forgetRisks
set_option maxRecDepth 20000 in
theorem ggX7_countOptions_X6_stateOf : GoodIn wsX7_countOptions wsX6_stateOf := goodIn_r _ [7, 8, 9, 10, 11, 12, 13, 49, 50, 51, 52, 53, 54, 55, 56, 57, 58, 59, 60, 61, 62, 63, 64, 65, 66, 67, 68, 69] (by decide +kernel) (by decide +kernel)
set_option maxRecDepth 20000 in
theorem gX7_countOptions_X6_stateOf : GoodIn wsX7_countOptions (wsV RX7 107 RX6 yX6_stateOf wsX6_stateOf) := goodIn_app (goodIn_of _ (by decide +kernel)) ggX7_countOptions_X6_stateOf
set_option maxRecDepth 20000 in
theorem ggX7_countOptions_X6_list : GoodIn wsX7_countOptions wsX6_list := goodIn_r _ [17, 18, 19, 20, 21, 22, 23, 24, 25, 26, 8, 27, 28, 29, 30, 31, 49, 50, 51, 52, 53, 54, 55, 56, 57, 58, 59, 60] (by decide +kernel) (by decide +kernel)
set_option maxRecDepth 20000 in
theorem gX7_countOptions_X6_list : GoodIn wsX7_countOptions (wsV RX7 111 RX6 yX6_list wsX6_list) := goodIn_app (goodIn_of _ (by decide +kernel)) ggX7_countOptions_X6_list
set_option maxRecDepth 20000 in
theorem ggX7_option_X7_countOptions : GoodIn wsX7_option wsX7_countOptions := goodIn_r _ [7, 1, 8, 9, 10, 11, 12, 13, 14, 15, 16, 17, 18, 19, 20, 21, 22, 23, 24, 25, 26, 27, 28, 29, 30, 31, 32, 33, 34, 35, 36, 37, 38, 39, 40, 41, 42, 43, 44, 45, 46, 47, 48, 49, 50, 51, 52, 53, 54, 55, 56, 57, 58, 59, 60, 61, 62, 63, 64, 65, 66, 67, 68, 69, 70, 71, 72, 73, 74, 75] (by decide +kernel) (by decide +kernel)
set_option maxRecDepth 20000 in
theorem gX7_option_X7_countOptions : GoodIn wsX7_option (wsV RX7 115 RX7 yX7_countOptions wsX7_countOptions) := goodIn_app (goodIn_of _ (by decide +kernel)) ggX7_option_X7_countOptions
set_option maxRecDepth 20000 in
theorem ggX7_here_X2_build : GoodIn wsX7_here wsX2_build := goodIn_r _ [9, 10, 11, 12, 13, 14, 15, 16, 17, 18, 19, 20, 21, 22, 23, 24, 8, 25, 26, 27, 28, 29, 30, 31, 32, 33, 34, 35, 36, 37, 38, 39, 40, 41, 42, 43, 44, 45, 46, 47, 48, 49, 50, 82, 83, 84, 85, 86, 87, 88, 89, 90, 91, 92, 93, 94, 95, 96, 97, 98, 99] (by decide +kernel) (by decide +kernel)
set_option maxRecDepth 20000 in
theorem gX7_here_X2_build : GoodIn wsX7_here (wsV RX7 122 RX2 yX2_build wsX2_build) := goodIn_app (goodIn_of _ (by decide +kernel)) ggX7_here_X2_build
set_option maxRecDepth 20000 in
theorem ggX7_here_X6_stateOf : GoodIn wsX7_here wsX6_stateOf := goodIn_r _ [54, 39, 55, 56, 57, 58, 59, 88, 89, 90, 91, 92, 93, 94, 95, 96, 97, 98, 99, 100, 101, 102, 103, 104, 105, 106, 107, 108] (by decide +kernel) (by decide +kernel)
set_option maxRecDepth 20000 in
theorem gX7_here_X6_stateOf : GoodIn wsX7_here (wsV RX7 107 RX6 yX6_stateOf wsX6_stateOf) := goodIn_app (goodIn_of _ (by decide +kernel)) ggX7_here_X6_stateOf
set_option maxRecDepth 20000 in
theorem ggX7_here_X2_find : GoodIn wsX7_here wsX2_find := goodIn_r _ [63, 64, 11, 82, 83, 84, 85, 86, 87] (by decide +kernel) (by decide +kernel)
set_option maxRecDepth 20000 in
theorem gX7_here_X2_find : GoodIn wsX7_here (wsV RX7 126 RX2 yX2_find wsX2_find) := goodIn_app (goodIn_of _ (by decide +kernel)) ggX7_here_X2_find
set_option maxRecDepth 20000 in
theorem ggX7_prepare_X4_weigh : GoodIn wsX7_prepare wsX4_weigh := goodIn_r _ [9, 10, 11, 12, 13, 14, 15, 16, 17, 18, 19, 20, 21, 22, 8, 23, 24, 25, 26, 100, 101, 102, 103, 104, 105, 106, 107, 108, 109, 110, 111, 79, 80, 81, 82] (by decide +kernel) (by decide +kernel)
set_option maxRecDepth 20000 in
theorem gX7_prepare_X4_weigh : GoodIn wsX7_prepare (wsV RX7 132 RX4 yX4_weigh wsX4_weigh) := goodIn_app (goodIn_of _ (by decide +kernel)) ggX7_prepare_X4_weigh
set_option maxRecDepth 20000 in
theorem ggX7_prepare_X0_goal : GoodIn wsX7_prepare wsX0_goal := goodIn_r _ [30, 31, 32, 33, 17, 34, 35, 36, 37, 38, 39, 40, 41, 42, 43, 44, 100, 101, 102, 103, 104, 105, 106, 107, 108, 109, 110, 111] (by decide +kernel) (by decide +kernel)
set_option maxRecDepth 20000 in
theorem gX7_prepare_X0_goal : GoodIn wsX7_prepare (wsV RX7 136 RX0 yX0_goal wsX0_goal) := goodIn_app (goodIn_of _ (by decide +kernel)) ggX7_prepare_X0_goal
set_option maxRecDepth 20000 in
theorem ggX7_prepare_X2_settle : GoodIn wsX7_prepare wsX2_settle := goodIn_r _ [49, 50, 51, 52, 53, 54, 55, 48, 56, 57, 58, 59, 60, 61, 62, 63, 64, 65, 66, 67, 68, 69, 70, 71, 72, 73, 74, 75, 76, 77, 78, 79, 80, 81, 82, 112, 113, 114, 115, 116, 117] (by decide +kernel) (by decide +kernel)
set_option maxRecDepth 20000 in
theorem gX7_prepare_X2_settle : GoodIn wsX7_prepare (wsV RX7 139 RX2 yX2_settle wsX2_settle) := goodIn_app (goodIn_of _ (by decide +kernel)) ggX7_prepare_X2_settle
set_option maxRecDepth 20000 in
theorem ggX7_canCome_X7_here : GoodIn wsX7_canCome wsX7_here := goodIn_r _ [6, 7, 8, 9, 10, 11, 12, 13, 14, 15, 16, 17, 18, 19, 20, 21, 22, 23, 24, 25, 26, 27, 28, 29, 30, 31, 32, 33, 34, 35, 36, 37, 38, 39, 40, 41, 42, 43, 44, 45, 46, 47, 48, 49, 50, 51, 52, 53, 54, 55, 56, 57, 58, 59, 60, 61, 62, 63, 64, 65, 66, 67, 68, 69, 70, 149, 150, 151, 152, 153, 154, 155, 156, 157, 158, 159, 160, 161, 162, 163, 164, 165, 166, 167, 168, 169, 170, 171, 172, 173, 174, 175, 176, 177, 178, 179, 180, 181, 182, 183, 184, 185, 186, 187, 188, 189, 190, 191, 192] (by decide +kernel) (by decide +kernel)
set_option maxRecDepth 20000 in
theorem gX7_canCome_X7_here : GoodIn wsX7_canCome (wsV RX7 143 RX7 yX7_here wsX7_here) := goodIn_app (goodIn_of _ (by decide +kernel)) ggX7_canCome_X7_here
set_option maxRecDepth 20000 in
theorem ggX7_canCome_X7_prepare : GoodIn wsX7_canCome wsX7_prepare := goodIn_r _ [74, 75, 76, 77, 8, 78, 79, 80, 81, 82, 83, 84, 85, 86, 87, 88, 89, 49, 90, 91, 92, 93, 94, 95, 96, 48, 50, 97, 98, 99, 100, 101, 102, 103, 104, 105, 106, 107, 108, 109, 110, 111, 112, 113, 114, 115, 116, 117, 14, 118, 119, 16, 120, 121, 122, 123, 124, 18, 125, 126, 26, 127, 128, 129, 130, 131, 132, 23, 56, 133, 134, 135, 136, 137, 138, 139, 140, 141, 142, 193, 194, 195, 196, 149, 150, 151, 152, 153, 154, 155, 156, 157, 158, 159, 160, 161, 162, 163, 164, 165, 197, 198, 199, 200, 201, 202, 203, 204, 205, 206, 207, 208, 166, 167, 168, 169, 170, 171] (by decide +kernel) (by decide +kernel)
set_option maxRecDepth 20000 in
theorem gX7_canCome_X7_prepare : GoodIn wsX7_canCome (wsV RX7 146 RX7 yX7_prepare wsX7_prepare) := goodIn_app (goodIn_of _ (by decide +kernel)) ggX7_canCome_X7_prepare
set_option maxRecDepth 20000 in
theorem ggX7_canCome_X4_comes : GoodIn wsX7_canCome wsX4_comes := goodIn_r _ [146, 147, 148, 193, 194, 195, 196] (by decide +kernel) (by decide +kernel)
set_option maxRecDepth 20000 in
theorem gX7_canCome_X4_comes : GoodIn wsX7_canCome (wsV RX7 150 RX4 yX4_comes wsX4_comes) := goodIn_app (goodIn_of _ (by decide +kernel)) ggX7_canCome_X4_comes
set_option maxRecDepth 20000 in
theorem ggX7_leastAbove_X7_here : GoodIn wsX7_leastAbove wsX7_here := goodIn_r _ [5, 6, 7, 8, 9, 10, 11, 12, 13, 14, 15, 16, 17, 18, 19, 20, 21, 22, 23, 24, 25, 26, 27, 28, 29, 30, 31, 32, 33, 34, 35, 36, 37, 38, 39, 40, 41, 42, 43, 44, 45, 46, 47, 48, 49, 50, 51, 52, 53, 54, 55, 56, 57, 58, 59, 60, 61, 62, 63, 64, 65, 66, 67, 68, 69, 147, 148, 149, 150, 151, 152, 153, 154, 155, 156, 157, 158, 159, 160, 161, 162, 163, 164, 165, 166, 167, 168, 169, 170, 171, 172, 173, 174, 175, 176, 177, 178, 179, 180, 181, 182, 183, 184, 185, 186, 187, 188, 189, 190] (by decide +kernel) (by decide +kernel)
set_option maxRecDepth 20000 in
theorem gX7_leastAbove_X7_here : GoodIn wsX7_leastAbove (wsV RX7 143 RX7 yX7_here wsX7_here) := goodIn_app (goodIn_of _ (by decide +kernel)) ggX7_leastAbove_X7_here
set_option maxRecDepth 20000 in
theorem ggX7_leastAbove_X7_prepare : GoodIn wsX7_leastAbove wsX7_prepare := goodIn_r _ [73, 74, 75, 76, 7, 77, 78, 79, 80, 81, 82, 83, 84, 85, 86, 87, 88, 48, 89, 90, 91, 92, 93, 94, 95, 47, 49, 96, 97, 98, 99, 100, 101, 102, 103, 104, 105, 106, 107, 108, 109, 110, 111, 112, 113, 114, 115, 116, 13, 117, 118, 15, 119, 120, 121, 122, 123, 17, 124, 125, 25, 126, 127, 128, 129, 130, 131, 22, 55, 132, 133, 134, 135, 136, 137, 138, 139, 140, 141, 191, 192, 193, 194, 147, 148, 149, 150, 151, 152, 153, 154, 155, 156, 157, 158, 159, 160, 161, 162, 163, 195, 196, 197, 198, 199, 200, 201, 202, 203, 204, 205, 206, 164, 165, 166, 167, 168, 169] (by decide +kernel) (by decide +kernel)
set_option maxRecDepth 20000 in
theorem gX7_leastAbove_X7_prepare : GoodIn wsX7_leastAbove (wsV RX7 146 RX7 yX7_prepare wsX7_prepare) := goodIn_app (goodIn_of _ (by decide +kernel)) ggX7_leastAbove_X7_prepare
set_option maxRecDepth 20000 in
theorem ggX7_leastAbove_X4_above : GoodIn wsX7_leastAbove wsX4_above := goodIn_r _ [145, 146, 191, 192, 193, 194] (by decide +kernel) (by decide +kernel)
set_option maxRecDepth 20000 in
theorem gX7_leastAbove_X4_above : GoodIn wsX7_leastAbove (wsV RX7 154 RX4 yX4_above wsX4_above) := goodIn_app (goodIn_of _ (by decide +kernel)) ggX7_leastAbove_X4_above
set_option maxRecDepth 20000 in
theorem ggX7_least_X7_here : GoodIn wsX7_least wsX7_here := goodIn_r _ [5, 6, 7, 8, 9, 10, 11, 12, 13, 14, 15, 16, 17, 18, 19, 20, 21, 22, 23, 24, 25, 26, 27, 28, 29, 30, 31, 32, 33, 34, 35, 36, 37, 38, 39, 40, 41, 42, 43, 44, 45, 46, 47, 48, 49, 50, 51, 52, 53, 54, 55, 56, 57, 58, 59, 60, 61, 62, 63, 64, 65, 66, 67, 68, 69, 148, 149, 150, 151, 152, 153, 154, 155, 156, 157, 158, 159, 160, 161, 162, 163, 164, 165, 166, 167, 168, 169, 170, 171, 172, 173, 174, 175, 176, 177, 178, 179, 180, 181, 182, 183, 184, 185, 186, 187, 188, 189, 190, 191] (by decide +kernel) (by decide +kernel)
set_option maxRecDepth 20000 in
theorem gX7_least_X7_here : GoodIn wsX7_least (wsV RX7 143 RX7 yX7_here wsX7_here) := goodIn_app (goodIn_of _ (by decide +kernel)) ggX7_least_X7_here
set_option maxRecDepth 20000 in
theorem ggX7_least_X7_prepare : GoodIn wsX7_least wsX7_prepare := goodIn_r _ [73, 74, 75, 76, 7, 77, 78, 79, 80, 81, 82, 83, 84, 85, 86, 87, 88, 48, 89, 90, 91, 92, 93, 94, 95, 47, 49, 96, 97, 98, 99, 100, 101, 102, 103, 104, 105, 106, 107, 108, 109, 110, 111, 112, 113, 114, 115, 116, 13, 117, 118, 15, 119, 120, 121, 122, 123, 17, 124, 125, 25, 126, 127, 128, 129, 130, 131, 22, 55, 132, 133, 134, 135, 136, 137, 138, 139, 140, 141, 192, 193, 194, 195, 148, 149, 150, 151, 152, 153, 154, 155, 156, 157, 158, 159, 160, 161, 162, 163, 164, 196, 197, 198, 199, 200, 201, 202, 203, 204, 205, 206, 207, 165, 166, 167, 168, 169, 170] (by decide +kernel) (by decide +kernel)
set_option maxRecDepth 20000 in
theorem gX7_least_X7_prepare : GoodIn wsX7_least (wsV RX7 146 RX7 yX7_prepare wsX7_prepare) := goodIn_app (goodIn_of _ (by decide +kernel)) ggX7_least_X7_prepare
set_option maxRecDepth 20000 in
theorem ggX7_least_X4_below : GoodIn wsX7_least wsX4_below := goodIn_r _ [145, 146, 147, 192, 193, 194, 195] (by decide +kernel) (by decide +kernel)
set_option maxRecDepth 20000 in
theorem gX7_least_X4_below : GoodIn wsX7_least (wsV RX7 157 RX4 yX4_below wsX4_below) := goodIn_app (goodIn_of _ (by decide +kernel)) ggX7_least_X4_below
set_option maxRecDepth 20000 in
theorem ggX7_rowOf_X7_here : GoodIn wsX7_rowOf wsX7_here := goodIn_r _ [6, 7, 8, 9, 10, 11, 12, 13, 14, 15, 16, 17, 18, 19, 20, 21, 22, 23, 24, 25, 26, 27, 28, 29, 30, 31, 32, 33, 34, 35, 36, 37, 38, 39, 40, 41, 42, 43, 44, 45, 46, 47, 48, 49, 50, 51, 52, 53, 54, 55, 56, 57, 58, 59, 60, 61, 62, 63, 64, 65, 66, 67, 68, 69, 70, 150, 151, 152, 153, 154, 155, 156, 157, 158, 159, 160, 161, 162, 163, 164, 165, 166, 167, 168, 169, 170, 171, 172, 173, 174, 175, 176, 177, 178, 179, 180, 181, 182, 183, 184, 185, 186, 187, 188, 189, 190, 191, 192, 193] (by decide +kernel) (by decide +kernel)
set_option maxRecDepth 20000 in
theorem gX7_rowOf_X7_here : GoodIn wsX7_rowOf (wsV RX7 143 RX7 yX7_here wsX7_here) := goodIn_app (goodIn_of _ (by decide +kernel)) ggX7_rowOf_X7_here
set_option maxRecDepth 20000 in
theorem ggX7_rowOf_X7_prepare : GoodIn wsX7_rowOf wsX7_prepare := goodIn_r _ [74, 75, 76, 77, 8, 78, 79, 80, 81, 82, 83, 84, 85, 86, 87, 88, 89, 49, 90, 91, 92, 93, 94, 95, 96, 48, 50, 97, 98, 99, 100, 101, 102, 103, 104, 105, 106, 107, 108, 109, 110, 111, 112, 113, 114, 115, 116, 117, 14, 118, 119, 16, 120, 121, 122, 123, 124, 18, 125, 126, 26, 127, 128, 129, 130, 131, 132, 23, 56, 133, 134, 135, 136, 137, 138, 139, 140, 141, 142, 194, 195, 196, 197, 150, 151, 152, 153, 154, 155, 156, 157, 158, 159, 160, 161, 162, 163, 164, 165, 166, 198, 199, 200, 201, 202, 203, 204, 205, 206, 207, 208, 209, 167, 168, 169, 170, 171, 172] (by decide +kernel) (by decide +kernel)
set_option maxRecDepth 20000 in
theorem gX7_rowOf_X7_prepare : GoodIn wsX7_rowOf (wsV RX7 146 RX7 yX7_prepare wsX7_prepare) := goodIn_app (goodIn_of _ (by decide +kernel)) ggX7_rowOf_X7_prepare
set_option maxRecDepth 20000 in
theorem ggX7_rowOf_X5_start : GoodIn wsX7_rowOf wsX5_start := goodIn_r _ [147, 148, 149, 210, 211, 212] (by decide +kernel) (by decide +kernel)
set_option maxRecDepth 20000 in
theorem gX7_rowOf_X5_start : GoodIn wsX7_rowOf (wsV RX7 160 RX5 yX5_start wsX5_start) := goodIn_app (goodIn_of _ (by decide +kernel)) ggX7_rowOf_X5_start
set_option maxRecDepth 20000 in
theorem ggX7_actOfRow_X7_rowOf : GoodIn wsX7_actOfRow wsX7_rowOf := goodIn_r _ [5, 6, 7, 8, 9, 4, 10, 11, 12, 13, 14, 15, 16, 17, 18, 19, 20, 21, 22, 23, 24, 25, 26, 27, 28, 29, 30, 31, 32, 33, 34, 35, 36, 37, 38, 39, 40, 41, 42, 43, 44, 45, 46, 47, 48, 49, 50, 51, 52, 53, 54, 55, 56, 57, 58, 59, 60, 61, 62, 63, 64, 65, 66, 67, 68, 69, 70, 71, 72, 73, 74, 75, 76, 77, 78, 79, 80, 81, 82, 83, 84, 85, 86, 87, 88, 89, 90, 91, 92, 93, 94, 95, 96, 97, 98, 99, 100, 101, 102, 103, 104, 105, 106, 107, 108, 109, 110, 111, 112, 113, 114, 115, 116, 117, 118, 119, 120, 121, 122, 123, 124, 125, 126, 127, 128, 129, 130, 131, 132, 133, 134, 135, 136, 137, 138, 139, 140, 141, 142, 143, 144, 145, 146, 147, 148, 149, 150, 151, 152, 153, 170, 171, 172, 173, 174, 175, 176, 177, 178, 179, 180, 181, 182, 183, 184, 185, 186, 187, 188, 189, 190, 191, 192, 193, 194, 195, 196, 197, 198, 199, 200, 201, 202, 203, 204, 205, 206, 207, 208, 209, 210, 211, 212, 213, 214, 215, 216, 217, 218, 219, 220, 221, 222, 223, 224, 225, 226, 227, 228, 229, 230, 231, 232] (by decide +kernel) (by decide +kernel)
set_option maxRecDepth 20000 in
theorem gX7_actOfRow_X7_rowOf : GoodIn wsX7_actOfRow (wsV RX7 163 RX7 yX7_rowOf wsX7_rowOf) := goodIn_app (goodIn_of _ (by decide +kernel)) ggX7_actOfRow_X7_rowOf
set_option maxRecDepth 20000 in
theorem ggX7_actOfRow_X5_skip : GoodIn wsX7_actOfRow wsX5_skip := goodIn_r _ [157, 158, 159, 160, 150, 161, 152, 162, 153, 163, 164, 165, 18, 166, 123, 20, 124, 27, 60, 136, 141, 142, 143, 144, 145, 146, 167, 168, 230, 231, 232, 214, 215, 216, 217, 187, 188, 189, 190, 191, 192] (by decide +kernel) (by decide +kernel)
set_option maxRecDepth 20000 in
theorem gX7_actOfRow_X5_skip : GoodIn wsX7_actOfRow (wsV RX7 167 RX5 yX5_skip wsX5_skip) := goodIn_app (goodIn_of _ (by decide +kernel)) ggX7_actOfRow_X5_skip
set_option maxRecDepth 20000 in
theorem ggX7_actOfRow_X5_take : GoodIn wsX7_actOfRow wsX5_take := goodIn_r _ [161, 152, 162, 153, 163, 164, 165, 18, 166, 123, 20, 124, 27, 60, 136, 141, 142, 143, 144, 145, 146, 167, 168, 230, 231, 232, 214, 215, 216, 217, 187, 188, 189, 190, 191, 192] (by decide +kernel) (by decide +kernel)
set_option maxRecDepth 20000 in
theorem gX7_actOfRow_X5_take : GoodIn wsX7_actOfRow (wsV RX7 170 RX5 yX5_take wsX5_take) := goodIn_app (goodIn_of _ (by decide +kernel)) ggX7_actOfRow_X5_take
set_option maxRecDepth 20000 in
theorem ggX7_countStates_X7_fillWhole : GoodIn wsX7_countStates wsX7_fillWhole := goodIn_r _ [8, 9, 10, 2, 11, 12, 13, 14, 15, 16, 17, 18, 19, 20, 21, 22, 23, 24, 25, 26, 27, 28, 29, 30, 31, 32, 33, 34, 35, 36, 37, 38, 39, 40, 41, 42, 43, 44, 45, 46, 47, 48, 49, 50, 51, 52, 53, 54, 55, 56, 57, 58, 59, 60, 61, 62, 63, 64, 65, 66, 67, 68, 69, 70, 71, 72, 73, 74, 75, 76, 77, 78, 79, 80, 81, 82, 83, 84, 85, 86, 87, 88, 89, 90, 91, 92, 93, 94, 95, 96, 97, 98, 99, 100, 101, 102, 103, 104, 105, 106, 107, 108, 109, 110, 111, 112, 113, 114, 115, 116, 117, 118, 119, 120, 121, 122, 123, 124, 125, 126, 127, 128, 129, 130, 131, 132, 136, 137, 138, 139, 140, 141, 142, 143, 144, 145, 146, 147, 148, 149, 150, 151, 152, 153, 154, 155, 156, 157, 158, 159, 133, 134, 135] (by decide +kernel) (by decide +kernel)
set_option maxRecDepth 20000 in
theorem gX7_countStates_X7_fillWhole : GoodIn wsX7_countStates (wsV RX7 173 RX7 yX7_fillWhole wsX7_fillWhole) := goodIn_app (goodIn_of _ (by decide +kernel)) ggX7_countStates_X7_fillWhole
set_option maxRecDepth 20000 in
theorem ggX7_countHopeful_X7_here : GoodIn wsX7_countHopeful wsX7_here := goodIn_r _ [13, 14, 6, 7, 15, 16, 17, 18, 19, 20, 21, 22, 23, 24, 25, 26, 27, 28, 29, 30, 31, 32, 33, 34, 35, 36, 37, 38, 39, 40, 41, 42, 43, 44, 45, 46, 47, 48, 49, 50, 51, 52, 53, 54, 55, 56, 57, 58, 59, 60, 61, 62, 63, 64, 65, 66, 67, 68, 69, 70, 71, 72, 73, 74, 75, 237, 238, 239, 240, 241, 242, 243, 244, 245, 246, 247, 248, 249, 250, 251, 252, 253, 257, 258, 259, 260, 261, 262, 263, 264, 265, 266, 267, 268, 269, 270, 271, 272, 273, 274, 275, 276, 277, 278, 279, 280, 281, 282, 283] (by decide +kernel) (by decide +kernel)
set_option maxRecDepth 20000 in
theorem gX7_countHopeful_X7_here : GoodIn wsX7_countHopeful (wsV RX7 143 RX7 yX7_here wsX7_here) := goodIn_app (goodIn_of _ (by decide +kernel)) ggX7_countHopeful_X7_here
set_option maxRecDepth 20000 in
theorem ggX7_countHopeful_X7_prepare : GoodIn wsX7_countHopeful wsX7_prepare := goodIn_r _ [79, 80, 81, 82, 6, 83, 84, 85, 86, 87, 88, 89, 90, 91, 92, 93, 94, 54, 95, 96, 97, 98, 99, 100, 101, 53, 55, 102, 103, 104, 105, 106, 107, 108, 109, 110, 111, 112, 113, 114, 115, 116, 117, 118, 119, 120, 121, 122, 19, 123, 124, 21, 125, 126, 127, 128, 129, 23, 130, 131, 31, 132, 133, 134, 135, 136, 137, 28, 61, 138, 139, 140, 141, 142, 143, 144, 145, 146, 147, 284, 285, 286, 287, 237, 238, 239, 240, 241, 242, 243, 244, 245, 246, 247, 248, 249, 250, 251, 252, 253, 288, 289, 290, 291, 292, 293, 294, 295, 296, 297, 298, 299, 257, 258, 259, 260, 261, 262] (by decide +kernel) (by decide +kernel)
set_option maxRecDepth 20000 in
theorem gX7_countHopeful_X7_prepare : GoodIn wsX7_countHopeful (wsV RX7 146 RX7 yX7_prepare wsX7_prepare) := goodIn_app (goodIn_of _ (by decide +kernel)) ggX7_countHopeful_X7_prepare
set_option maxRecDepth 20000 in
theorem ggX7_countHopeful_X7_fillWhole : GoodIn wsX7_countHopeful wsX7_fillWhole := goodIn_r _ [151, 152, 81, 3, 153, 154, 155, 31, 156, 41, 47, 157, 46, 158, 42, 159, 44, 43, 50, 160, 161, 162, 140, 163, 69, 164, 107, 108, 54, 109, 110, 165, 166, 167, 168, 169, 116, 117, 118, 119, 170, 171, 172, 173, 174, 175, 176, 177, 178, 179, 180, 181, 182, 183, 184, 185, 186, 187, 188, 189, 190, 191, 192, 193, 51, 45, 194, 195, 196, 197, 198, 199, 200, 30, 32, 201, 202, 203, 204, 205, 206, 207, 208, 209, 210, 211, 212, 213, 214, 215, 216, 217, 218, 219, 220, 221, 222, 223, 224, 225, 226, 38, 39, 40, 48, 49, 52, 53, 55, 237, 238, 239, 240, 241, 242, 243, 244, 245, 246, 247, 248, 249, 250, 251, 252, 253, 263, 264, 265, 266, 267, 268, 269, 270, 271, 272, 273, 274, 288, 289, 290, 291, 292, 293, 294, 295, 296, 297, 298, 299, 254, 255, 256] (by decide +kernel) (by decide +kernel)
set_option maxRecDepth 20000 in
theorem gX7_countHopeful_X7_fillWhole : GoodIn wsX7_countHopeful (wsV RX7 173 RX7 yX7_fillWhole wsX7_fillWhole) := goodIn_app (goodIn_of _ (by decide +kernel)) ggX7_countHopeful_X7_fillWhole
set_option maxRecDepth 20000 in
theorem ggX7_countHopeful_X6_merged : GoodIn wsX7_countHopeful wsX6_merged := goodIn_r _ [230, 50, 69, 263, 264, 265, 266, 267, 268, 269, 270, 271, 272, 273, 274] (by decide +kernel) (by decide +kernel)
set_option maxRecDepth 20000 in
theorem gX7_countHopeful_X6_merged : GoodIn wsX7_countHopeful (wsV RX7 182 RX6 yX6_merged wsX6_merged) := goodIn_app (goodIn_of _ (by decide +kernel)) ggX7_countHopeful_X6_merged
set_option maxRecDepth 20000 in
theorem ggX7_countHopeful_X2_find : GoodIn wsX7_countHopeful wsX2_find := goodIn_r _ [74, 75, 22, 257, 258, 259, 260, 261, 262] (by decide +kernel) (by decide +kernel)
set_option maxRecDepth 20000 in
theorem gX7_countHopeful_X2_find : GoodIn wsX7_countHopeful (wsV RX7 126 RX2 yX2_find wsX2_find) := goodIn_app (goodIn_of _ (by decide +kernel)) ggX7_countHopeful_X2_find
set_option maxRecDepth 20000 in
theorem ggX7_countHopeful_X4_comes : GoodIn wsX7_countHopeful wsX4_comes := goodIn_r _ [234, 235, 236, 284, 285, 286, 287] (by decide +kernel) (by decide +kernel)
set_option maxRecDepth 20000 in
theorem gX7_countHopeful_X4_comes : GoodIn wsX7_countHopeful (wsV RX7 150 RX4 yX4_comes wsX4_comes) := goodIn_app (goodIn_of _ (by decide +kernel)) ggX7_countHopeful_X4_comes
set_option maxRecDepth 20000 in
theorem ggX7_fillWhole_X6_learn : GoodIn wsX7_fillWhole wsX6_learn := goodIn_r _ [8, 9, 10, 11, 12, 13, 14, 15, 16, 17, 18, 19, 20, 21, 22, 23, 24, 25, 26, 27, 28, 29, 30, 31, 32, 33, 34, 35, 36, 37, 38, 39, 40, 41, 42, 43, 44, 45, 46, 47, 48, 49, 50, 51, 52, 53, 54, 55, 7, 56, 57, 58, 59, 60, 61, 62, 63, 64, 65, 66, 67, 68, 69, 70, 71, 126, 127, 128, 129, 130, 131, 132, 133, 134, 135, 136, 137, 138, 139, 140, 141, 142, 143, 144, 145, 146, 147, 148, 149] (by decide +kernel) (by decide +kernel)
set_option maxRecDepth 20000 in
theorem gX7_fillWhole_X6_learn : GoodIn wsX7_fillWhole (wsV RX7 90 RX6 yX6_learn wsX6_learn) := goodIn_app (goodIn_of _ (by decide +kernel)) ggX7_fillWhole_X6_learn
set_option maxRecDepth 20000 in
theorem ggX7_fillWhole_X6_beginning : GoodIn wsX7_fillWhole wsX6_beginning := goodIn_r _ [74] (by decide +kernel) (by decide +kernel)
set_option maxRecDepth 20000 in
theorem gX7_fillWhole_X6_beginning : GoodIn wsX7_fillWhole (va_wsS RX7 185 yX6_beginning wsX6_beginning) := goodIn_app (goodIn_of _ (by decide +kernel)) ggX7_fillWhole_X6_beginning
set_option maxRecDepth 20000 in
theorem ggX7_fillWhole_X1_fill : GoodIn wsX7_fillWhole wsX1_fill := goodIn_r _ [79, 80, 81, 82, 83, 84, 85, 78, 86, 87, 88, 89, 42, 90, 91, 92, 93, 94, 95, 96, 97, 98, 99, 100, 101, 102, 7, 103, 9, 14, 17, 16, 65, 12, 10, 104, 105, 18, 64, 106, 107, 28, 108, 150, 151, 152, 126, 127, 128, 129, 130, 131, 132, 133, 134, 135, 136, 137] (by decide +kernel) (by decide +kernel)
set_option maxRecDepth 20000 in
theorem gX7_fillWhole_X1_fill : GoodIn wsX7_fillWhole (wsV RX7 188 RX1 yX1_fill wsX1_fill) := goodIn_app (goodIn_of _ (by decide +kernel)) ggX7_fillWhole_X1_fill
set_option maxRecDepth 20000 in
theorem ggX7_soonestJust_X7_findSoonest : GoodIn wsX7_soonestJust wsX7_findSoonest := goodIn_r _ [6, 7, 8, 9, 10, 1, 11, 12, 13, 14, 5, 15, 16, 17, 18, 19, 20, 21, 22, 23, 24, 25, 26, 27, 28, 29, 30, 31, 32, 33, 34, 35, 36, 37, 38, 39, 40, 41, 42, 43, 44, 45, 46, 47, 48, 49, 50, 51, 52, 53, 54, 55, 56, 57, 58, 59, 60, 61, 62, 63, 64, 65, 66, 67, 68, 69, 70, 71, 72, 73, 74, 75, 76, 77, 78, 79, 80, 81, 82, 83, 84, 85, 86, 87, 88, 89, 90, 91, 92, 93, 94, 95, 96, 97, 98, 99, 100, 101, 102, 103, 104, 105, 106, 107, 108, 109, 110, 111, 112, 113, 114, 115, 116, 117, 118, 119, 120, 121, 122, 123, 124, 125, 126, 127, 128, 129, 130, 131, 132, 133, 134, 135, 136, 137, 138, 139, 140, 141, 142, 143, 144, 145, 146, 147, 148, 149, 150, 151, 152, 153, 154, 155, 156, 157, 158, 159, 160, 161, 162, 163, 164, 165, 166, 167, 168, 169, 170, 171, 172, 173, 174, 175, 176, 177, 178, 179, 180, 181, 182, 183, 184, 185, 186, 187, 188, 189, 190, 191, 192, 193, 194, 195, 196] (by decide +kernel) (by decide +kernel)
set_option maxRecDepth 20000 in
theorem gX7_soonestJust_X7_findSoonest : GoodIn wsX7_soonestJust (wsV RX7 192 RX7 yX7_findSoonest wsX7_findSoonest) := goodIn_app (goodIn_of _ (by decide +kernel)) ggX7_soonestJust_X7_findSoonest
set_option maxRecDepth 20000 in
theorem ggX7_soonestOver_X7_findSoonest : GoodIn wsX7_soonestOver wsX7_findSoonest := goodIn_r _ [6, 7, 8, 9, 10, 1, 11, 12, 13, 14, 5, 15, 16, 17, 18, 19, 20, 21, 22, 23, 24, 25, 26, 27, 28, 29, 30, 31, 32, 33, 34, 35, 36, 37, 38, 39, 40, 41, 42, 43, 44, 45, 46, 47, 48, 49, 50, 51, 52, 53, 54, 55, 56, 57, 58, 59, 60, 61, 62, 63, 64, 65, 66, 67, 68, 69, 70, 71, 72, 73, 74, 75, 76, 77, 78, 79, 80, 81, 82, 83, 84, 85, 86, 87, 88, 89, 90, 91, 92, 93, 94, 95, 96, 97, 98, 99, 100, 101, 102, 103, 104, 105, 106, 107, 108, 109, 110, 111, 112, 113, 114, 115, 116, 117, 118, 119, 120, 121, 122, 123, 124, 125, 126, 127, 128, 129, 130, 131, 132, 133, 134, 135, 136, 137, 138, 139, 140, 141, 142, 143, 144, 145, 146, 147, 148, 149, 150, 151, 152, 153, 154, 155, 156, 157, 158, 159, 160, 161, 162, 163, 164, 165, 166, 167, 168, 169, 170, 171, 172, 173, 174, 175, 176, 177, 178, 179, 180, 181, 182, 183, 184, 185, 186, 187, 188, 189, 190, 191, 192, 193, 194, 195, 196] (by decide +kernel) (by decide +kernel)
set_option maxRecDepth 20000 in
theorem gX7_soonestOver_X7_findSoonest : GoodIn wsX7_soonestOver (wsV RX7 192 RX7 yX7_findSoonest wsX7_findSoonest) := goodIn_app (goodIn_of _ (by decide +kernel)) ggX7_soonestOver_X7_findSoonest
set_option maxRecDepth 20000 in
theorem ggX7_findSoonest_X7_here : GoodIn wsX7_findSoonest wsX7_here := goodIn_r _ [11, 12, 4, 13, 14, 15, 16, 17, 18, 19, 20, 21, 22, 23, 24, 25, 26, 27, 28, 29, 30, 31, 32, 33, 34, 35, 36, 37, 38, 39, 40, 41, 42, 43, 44, 45, 46, 47, 48, 49, 50, 51, 52, 53, 54, 55, 56, 57, 58, 59, 60, 61, 62, 63, 64, 65, 66, 67, 68, 69, 70, 71, 72, 73, 74, 133, 134, 135, 136, 137, 138, 139, 140, 141, 142, 143, 144, 145, 146, 147, 148, 149, 150, 151, 152, 153, 154, 155, 156, 157, 158, 159, 160, 161, 162, 163, 164, 165, 166, 167, 168, 169, 170, 171, 172, 173, 174, 175, 176] (by decide +kernel) (by decide +kernel)
set_option maxRecDepth 20000 in
theorem gX7_findSoonest_X7_here : GoodIn wsX7_findSoonest (wsV RX7 143 RX7 yX7_here wsX7_here) := goodIn_app (goodIn_of _ (by decide +kernel)) ggX7_findSoonest_X7_here
set_option maxRecDepth 20000 in
theorem ggX7_findSoonest_X4_weigh : GoodIn wsX7_findSoonest wsX4_weigh := goodIn_r _ [79, 80, 81, 82, 83, 84, 85, 86, 53, 87, 88, 89, 90, 91, 78, 92, 93, 52, 54, 177, 178, 179, 180, 181, 182, 183, 184, 185, 186, 187, 188, 189, 190, 191, 192] (by decide +kernel) (by decide +kernel)
set_option maxRecDepth 20000 in
theorem gX7_findSoonest_X4_weigh : GoodIn wsX7_findSoonest (wsV RX7 132 RX4 yX4_weigh wsX4_weigh) := goodIn_app (goodIn_of _ (by decide +kernel)) ggX7_findSoonest_X4_weigh
set_option maxRecDepth 20000 in
theorem ggX7_findSoonest_X2_spread : GoodIn wsX7_findSoonest wsX2_spread := goodIn_r _ [97, 98, 20, 99, 100, 101, 102, 18, 103, 27, 60, 104, 105, 106, 107, 108, 109, 110, 189, 190, 191, 192, 150, 151, 152, 153, 154, 155] (by decide +kernel) (by decide +kernel)
set_option maxRecDepth 20000 in
theorem gX7_findSoonest_X2_spread : GoodIn wsX7_findSoonest (wsV RX7 195 RX2 yX2_spread wsX2_spread) := goodIn_app (goodIn_of _ (by decide +kernel)) ggX7_findSoonest_X2_spread
set_option maxRecDepth 20000 in
theorem ggX7_findSoonest_J7_fill_53178 : GoodIn wsX7_findSoonest wsJ7_fill_53178 := goodIn_r _ [114] (by decide +kernel) (by decide +kernel)
set_option maxRecDepth 20000 in
theorem gX7_findSoonest_J7_fill_53178 : GoodIn wsX7_findSoonest (va_wsS RX7 198 yJ7_fill_53178 wsJ7_fill_53178) := goodIn_app (goodIn_of _ (by decide +kernel)) ggX7_findSoonest_J7_fill_53178
set_option maxRecDepth 20000 in
theorem ggX7_findSoonest_X2_overAt : GoodIn wsX7_findSoonest wsX2_overAt := goodIn_r _ [118, 20, 22, 119, 120, 30, 121, 150, 151, 152, 153, 154, 155] (by decide +kernel) (by decide +kernel)
set_option maxRecDepth 20000 in
theorem gX7_findSoonest_X2_overAt : GoodIn wsX7_findSoonest (wsV RX7 204 RX2 yX2_overAt wsX2_overAt) := goodIn_app (goodIn_of _ (by decide +kernel)) ggX7_findSoonest_X2_overAt
set_option maxRecDepth 20000 in
theorem ggX7_findSoonest_X4_comes : GoodIn wsX7_findSoonest wsX4_comes := goodIn_r _ [125, 126, 127, 189, 190, 191, 192] (by decide +kernel) (by decide +kernel)
set_option maxRecDepth 20000 in
theorem gX7_findSoonest_X4_comes : GoodIn wsX7_findSoonest (wsV RX7 150 RX4 yX4_comes wsX4_comes) := goodIn_app (goodIn_of _ (by decide +kernel)) ggX7_findSoonest_X4_comes
set_option maxRecDepth 20000 in
theorem ggX7_findSoonest_X4_below : GoodIn wsX7_findSoonest wsX4_below := goodIn_r _ [131, 126, 132, 189, 190, 191, 192] (by decide +kernel) (by decide +kernel)
set_option maxRecDepth 20000 in
theorem gX7_findSoonest_X4_below : GoodIn wsX7_findSoonest (wsV RX7 157 RX4 yX4_below wsX4_below) := goodIn_app (goodIn_of _ (by decide +kernel)) ggX7_findSoonest_X4_below
set_option maxRecDepth 20000 in
theorem ggX7_gain_X7_here : GoodIn wsX7_gain wsX7_here := goodIn_r _ [16, 17, 11, 18, 19, 20, 21, 22, 23, 24, 25, 26, 27, 28, 29, 30, 31, 32, 33, 34, 35, 36, 37, 38, 39, 40, 41, 42, 43, 44, 45, 46, 47, 48, 49, 50, 51, 52, 53, 54, 55, 56, 57, 58, 59, 60, 61, 62, 63, 64, 65, 66, 67, 68, 69, 70, 71, 72, 73, 74, 75, 76, 77, 78, 79, 171, 172, 173, 174, 175, 176, 177, 178, 179, 180, 181, 182, 183, 184, 185, 186, 187, 200, 201, 202, 203, 204, 205, 206, 207, 208, 209, 210, 211, 212, 213, 214, 215, 216, 217, 218, 219, 220, 221, 222, 223, 224, 225, 226] (by decide +kernel) (by decide +kernel)
set_option maxRecDepth 20000 in
theorem gX7_gain_X7_here : GoodIn wsX7_gain (wsV RX7 143 RX7 yX7_here wsX7_here) := goodIn_app (goodIn_of _ (by decide +kernel)) ggX7_gain_X7_here
set_option maxRecDepth 20000 in
theorem ggX7_gain_X0_copyFrom : GoodIn wsX7_gain wsX0_copyFrom := goodIn_r _ [83, 84, 85, 86, 87, 88, 89, 90, 91, 92, 93, 94, 95, 96, 97, 98, 99, 188, 189, 190, 191, 192, 193, 194, 195, 196, 197, 198, 199] (by decide +kernel) (by decide +kernel)
set_option maxRecDepth 20000 in
theorem gX7_gain_X0_copyFrom : GoodIn wsX7_gain (wsV RX7 207 RX0 yX0_copyFrom wsX0_copyFrom) := goodIn_app (goodIn_of _ (by decide +kernel)) ggX7_gain_X0_copyFrom
set_option maxRecDepth 20000 in
theorem ggX7_gain_X7_prepare : GoodIn wsX7_gain wsX7_prepare := goodIn_r _ [103, 104, 2, 105, 11, 106, 107, 108, 109, 110, 111, 112, 113, 114, 115, 116, 117, 58, 118, 89, 97, 119, 120, 121, 122, 57, 59, 123, 124, 125, 126, 127, 128, 129, 130, 87, 131, 132, 133, 134, 96, 135, 136, 137, 138, 139, 140, 141, 23, 142, 143, 25, 144, 145, 146, 147, 148, 27, 149, 150, 35, 151, 152, 153, 154, 155, 156, 32, 65, 157, 158, 6, 159, 160, 161, 162, 163, 164, 165, 227, 228, 229, 230, 171, 172, 173, 174, 175, 176, 177, 178, 179, 180, 181, 182, 183, 184, 185, 186, 187, 188, 189, 190, 191, 192, 193, 194, 195, 196, 197, 198, 199, 200, 201, 202, 203, 204, 205] (by decide +kernel) (by decide +kernel)
set_option maxRecDepth 20000 in
theorem gX7_gain_X7_prepare : GoodIn wsX7_gain (wsV RX7 146 RX7 yX7_prepare wsX7_prepare) := goodIn_app (goodIn_of _ (by decide +kernel)) ggX7_gain_X7_prepare
set_option maxRecDepth 20000 in
theorem ggX7_gain_X4_weigh : GoodIn wsX7_gain wsX4_weigh := goodIn_r _ [110, 111, 112, 113, 114, 115, 116, 117, 58, 118, 89, 97, 119, 120, 109, 121, 122, 57, 59, 188, 189, 190, 191, 192, 193, 194, 195, 196, 197, 198, 199, 227, 228, 229, 230] (by decide +kernel) (by decide +kernel)
set_option maxRecDepth 20000 in
theorem gX7_gain_X4_weigh : GoodIn wsX7_gain (wsV RX7 132 RX4 yX4_weigh wsX4_weigh) := goodIn_app (goodIn_of _ (by decide +kernel)) ggX7_gain_X4_weigh
set_option maxRecDepth 20000 in
theorem ggX7_gain_X0_goal : GoodIn wsX7_gain wsX0_goal := goodIn_r _ [126, 127, 128, 129, 58, 130, 87, 131, 132, 133, 134, 96, 135, 136, 137, 138, 188, 189, 190, 191, 192, 193, 194, 195, 196, 197, 198, 199] (by decide +kernel) (by decide +kernel)
set_option maxRecDepth 20000 in
theorem gX7_gain_X0_goal : GoodIn wsX7_gain (wsV RX7 136 RX0 yX0_goal wsX0_goal) := goodIn_app (goodIn_of _ (by decide +kernel)) ggX7_gain_X0_goal
set_option maxRecDepth 20000 in
theorem ggX7_gain_X2_settle : GoodIn wsX7_gain wsX2_settle := goodIn_r _ [142, 143, 25, 144, 145, 146, 147, 23, 148, 27, 149, 150, 35, 151, 152, 153, 154, 155, 156, 32, 65, 157, 158, 6, 159, 160, 161, 162, 163, 164, 165, 227, 228, 229, 230, 200, 201, 202, 203, 204, 205] (by decide +kernel) (by decide +kernel)
set_option maxRecDepth 20000 in
theorem gX7_gain_X2_settle : GoodIn wsX7_gain (wsV RX7 139 RX2 yX2_settle wsX2_settle) := goodIn_app (goodIn_of _ (by decide +kernel)) ggX7_gain_X2_settle
set_option maxRecDepth 20000 in
theorem ggX7_gain_X4_above : GoodIn wsX7_gain wsX4_above := goodIn_r _ [169, 170, 227, 228, 229, 230] (by decide +kernel) (by decide +kernel)
set_option maxRecDepth 20000 in
theorem gX7_gain_X4_above : GoodIn wsX7_gain (wsV RX7 154 RX4 yX4_above wsX4_above) := goodIn_app (goodIn_of _ (by decide +kernel)) ggX7_gain_X4_above
set_option maxRecDepth 20000 in
theorem ggX7_leastKeen_X0_copyFrom : GoodIn wsX7_leastKeen wsX0_copyFrom := goodIn_r _ [8, 9, 10, 11, 12, 13, 14, 15, 16, 17, 18, 19, 20, 21, 22, 23, 24, 167, 168, 169, 170, 171, 172, 173, 174, 175, 176, 177, 178] (by decide +kernel) (by decide +kernel)
set_option maxRecDepth 20000 in
theorem gX7_leastKeen_X0_copyFrom : GoodIn wsX7_leastKeen (wsV RX7 207 RX0 yX0_copyFrom wsX0_copyFrom) := goodIn_app (goodIn_of _ (by decide +kernel)) ggX7_leastKeen_X0_copyFrom
set_option maxRecDepth 20000 in
theorem ggX7_leastKeen_X7_changedCanCome : GoodIn wsX7_leastKeen wsX7_changedCanCome := goodIn_r _ [29, 30, 1, 31, 32, 33, 34, 35, 36, 37, 38, 39, 40, 41, 42, 43, 44, 45, 46, 47, 48, 49, 50, 51, 52, 53, 54, 55, 56, 7, 57, 12, 58, 59, 60, 61, 20, 62, 63, 64, 65, 66, 67, 68, 69, 70, 71, 72, 73, 19, 74, 75, 76, 23, 77, 78, 79, 80, 81, 82, 83, 84, 85, 86, 87, 88, 89, 90, 91, 92, 93, 94, 95, 96, 97, 98, 99, 100, 101, 102, 103, 104, 105, 106, 107, 108, 109, 110, 111, 112, 21, 113, 114, 115, 116, 117, 118, 119, 120, 121, 122, 123, 124, 125, 126, 127, 128, 129, 130, 131, 132, 133, 134, 135, 136, 137, 138, 139, 140, 141, 142, 143, 144, 145, 146, 147, 148, 149, 150, 151, 152, 153, 154, 155, 156, 157, 158, 159, 160, 161, 162, 163, 164, 165, 166, 179, 180, 181, 182, 183, 184, 185, 186, 187, 188, 189, 190, 167, 168, 169, 170, 171, 172, 173, 174, 175, 176, 177, 178, 191, 192, 193, 194, 195, 196, 197, 198, 199, 200, 201, 202] (by decide +kernel) (by decide +kernel)
set_option maxRecDepth 20000 in
theorem gX7_leastKeen_X7_changedCanCome : GoodIn wsX7_leastKeen (wsV RX7 226 RX7 yX7_changedCanCome wsX7_changedCanCome) := goodIn_app (goodIn_of _ (by decide +kernel)) ggX7_leastKeen_X7_changedCanCome
set_option maxRecDepth 20000 in
theorem ggX7_greatestLooks_X0_copyFrom : GoodIn wsX7_greatestLooks wsX0_copyFrom := goodIn_r _ [8, 9, 10, 11, 12, 13, 14, 15, 16, 17, 18, 19, 20, 21, 22, 23, 24, 167, 168, 169, 170, 171, 172, 173, 174, 175, 176, 177, 178] (by decide +kernel) (by decide +kernel)
set_option maxRecDepth 20000 in
theorem gX7_greatestLooks_X0_copyFrom : GoodIn wsX7_greatestLooks (wsV RX7 207 RX0 yX0_copyFrom wsX0_copyFrom) := goodIn_app (goodIn_of _ (by decide +kernel)) ggX7_greatestLooks_X0_copyFrom
set_option maxRecDepth 20000 in
theorem ggX7_greatestLooks_X7_changedCanCome : GoodIn wsX7_greatestLooks wsX7_changedCanCome := goodIn_r _ [29, 30, 1, 31, 32, 33, 34, 35, 36, 37, 38, 39, 40, 41, 42, 43, 44, 45, 46, 47, 48, 49, 50, 51, 52, 53, 54, 55, 56, 7, 57, 12, 58, 59, 60, 61, 20, 62, 63, 64, 65, 66, 67, 68, 69, 70, 71, 72, 73, 19, 74, 75, 76, 23, 77, 78, 79, 80, 81, 82, 83, 84, 85, 86, 87, 88, 89, 90, 91, 92, 93, 94, 95, 96, 97, 98, 99, 100, 101, 102, 103, 104, 105, 106, 107, 108, 109, 110, 111, 112, 21, 113, 114, 115, 116, 117, 118, 119, 120, 121, 122, 123, 124, 125, 126, 127, 128, 129, 130, 131, 132, 133, 134, 135, 136, 137, 138, 139, 140, 141, 142, 143, 144, 145, 146, 147, 148, 149, 150, 151, 152, 153, 154, 155, 156, 157, 158, 159, 160, 161, 162, 163, 164, 165, 166, 179, 180, 181, 182, 183, 184, 185, 186, 187, 188, 189, 190, 167, 168, 169, 170, 171, 172, 173, 174, 175, 176, 177, 178, 191, 192, 193, 194, 195, 196, 197, 198, 199, 200, 201, 202] (by decide +kernel) (by decide +kernel)
set_option maxRecDepth 20000 in
theorem gX7_greatestLooks_X7_changedCanCome : GoodIn wsX7_greatestLooks (wsV RX7 226 RX7 yX7_changedCanCome wsX7_changedCanCome) := goodIn_app (goodIn_of _ (by decide +kernel)) ggX7_greatestLooks_X7_changedCanCome
set_option maxRecDepth 20000 in
theorem ggX7_changedCanCome_X6_learn : GoodIn wsX7_changedCanCome wsX6_learn := goodIn_r _ [9, 10, 11, 12, 13, 14, 15, 16, 17, 18, 19, 20, 21, 22, 23, 24, 25, 26, 27, 28, 29, 30, 31, 32, 33, 34, 35, 36, 37, 38, 39, 40, 41, 42, 43, 44, 45, 46, 47, 48, 49, 50, 51, 52, 53, 54, 55, 56, 8, 57, 58, 59, 60, 61, 62, 63, 64, 65, 66, 67, 68, 69, 70, 71, 72, 145, 146, 147, 148, 149, 150, 151, 152, 153, 154, 155, 156, 157, 158, 159, 160, 161, 162, 163, 164, 165, 166, 167, 168] (by decide +kernel) (by decide +kernel)
set_option maxRecDepth 20000 in
theorem gX7_changedCanCome_X6_learn : GoodIn wsX7_changedCanCome (wsV RX7 90 RX6 yX6_learn wsX6_learn) := goodIn_app (goodIn_of _ (by decide +kernel)) ggX7_changedCanCome_X6_learn
set_option maxRecDepth 20000 in
theorem ggX7_changedCanCome_X6_stateOf : GoodIn wsX7_changedCanCome wsX6_stateOf := goodIn_r _ [76, 19, 77, 78, 79, 25, 80, 145, 146, 147, 148, 149, 150, 151, 152, 153, 154, 155, 156, 169, 170, 171, 172, 173, 174, 175, 176, 177] (by decide +kernel) (by decide +kernel)
set_option maxRecDepth 20000 in
theorem gX7_changedCanCome_X6_stateOf : GoodIn wsX7_changedCanCome (wsV RX7 107 RX6 yX6_stateOf wsX6_stateOf) := goodIn_app (goodIn_of _ (by decide +kernel)) ggX7_changedCanCome_X6_stateOf
set_option maxRecDepth 20000 in
theorem ggX7_changedCanCome_X0_goal : GoodIn wsX7_changedCanCome wsX0_goal := goodIn_r _ [84, 85, 27, 28, 29, 30, 31, 86, 87, 88, 89, 90, 37, 38, 39, 40, 157, 158, 159, 160, 161, 162, 163, 164, 165, 166, 167, 168] (by decide +kernel) (by decide +kernel)
set_option maxRecDepth 20000 in
theorem gX7_changedCanCome_X0_goal : GoodIn wsX7_changedCanCome (wsV RX7 136 RX0 yX0_goal wsX0_goal) := goodIn_app (goodIn_of _ (by decide +kernel)) ggX7_changedCanCome_X0_goal
set_option maxRecDepth 20000 in
theorem ggX7_changedCanCome_X1_reaches : GoodIn wsX7_changedCanCome wsX1_reaches := goodIn_r _ [95, 96, 97, 98, 99, 100, 101, 94, 102, 103, 104, 105, 43, 106, 107, 108, 109, 110, 111, 112, 8, 113, 114, 115, 116, 117, 118, 119, 120, 121, 122, 10, 15, 18, 17, 66, 13, 11, 123, 124, 19, 65, 125, 126, 29, 127, 178, 179, 180, 145, 146, 147, 148, 149, 150, 151, 152, 153, 154, 155, 156] (by decide +kernel) (by decide +kernel)
set_option maxRecDepth 20000 in
theorem gX7_changedCanCome_X1_reaches : GoodIn wsX7_changedCanCome (wsV RX7 233 RX1 yX1_reaches wsX1_reaches) := goodIn_app (goodIn_of _ (by decide +kernel)) ggX7_changedCanCome_X1_reaches
set_option maxRecDepth 20000 in
theorem ggX8_init_J7_fill_53178 : GoodIn wsX8_init wsJ7_fill_53178 := goodIn_r _ [13] (by decide +kernel) (by decide +kernel)
set_option maxRecDepth 20000 in
theorem gX8_init_J7_fill_53178 : GoodIn wsX8_init (va_wsS RX8 23 yJ7_fill_53178 wsJ7_fill_53178) := goodIn_app (goodIn_of _ (by decide +kernel)) ggX8_init_J7_fill_53178
set_option maxRecDepth 20000 in
theorem ggX8_lay_J7_fill_d0a16 : GoodIn wsX8_lay wsJ7_fill_d0a16 := goodIn_r _ [7] (by decide +kernel) (by decide +kernel)
set_option maxRecDepth 20000 in
theorem gX8_lay_J7_fill_d0a16 : GoodIn wsX8_lay (va_wsS RX8 29 yJ7_fill_d0a16 wsJ7_fill_d0a16) := goodIn_app (goodIn_of _ (by decide +kernel)) ggX8_lay_J7_fill_d0a16
set_option maxRecDepth 20000 in
theorem ggX8_countRows_X8_hasRow : GoodIn wsX8_countRows wsX8_hasRow := goodIn_r _ [5, 6, 7, 8, 9] (by decide +kernel) (by decide +kernel)
set_option maxRecDepth 20000 in
theorem gX8_countRows_X8_hasRow : GoodIn wsX8_countRows (wsV RX8 32 RX8 yX8_hasRow wsX8_hasRow) := goodIn_app (goodIn_of _ (by decide +kernel)) ggX8_countRows_X8_hasRow
set_option maxRecDepth 20000 in
theorem ggX9_readInto_X0_clear : GoodIn wsX9_readInto wsX0_clear := goodIn_r _ [9, 10, 11, 12, 13, 14, 139, 140, 141, 142, 143, 144, 145, 146, 147, 148, 149, 150] (by decide +kernel) (by decide +kernel)
set_option maxRecDepth 20000 in
theorem gX9_readInto_X0_clear : GoodIn wsX9_readInto (wsV RX9 28 RX0 yX0_clear wsX0_clear) := goodIn_app (goodIn_of _ (by decide +kernel)) ggX9_readInto_X0_clear
set_option maxRecDepth 20000 in
theorem ggX9_readInto_X9_step : GoodIn wsX9_readInto wsX9_step := goodIn_r _ [19, 3, 20, 21, 4, 22, 23, 24, 18, 25, 26, 132, 133, 134, 135, 136, 137, 138] (by decide +kernel) (by decide +kernel)
set_option maxRecDepth 20000 in
theorem gX9_readInto_X9_step : GoodIn wsX9_readInto (wsV RX9 33 RX9 yX9_step wsX9_step) := goodIn_app (goodIn_of _ (by decide +kernel)) ggX9_readInto_X9_step
set_option maxRecDepth 20000 in
theorem ggX9_readInto_X9_readLine : GoodIn wsX9_readInto wsX9_readLine := goodIn_r _ [30, 31, 1, 4, 32, 33, 34, 18, 35, 3, 20, 36, 37, 38, 39, 40, 41, 42, 43, 44, 45, 46, 47, 48, 49, 50, 51, 21, 26, 52, 53, 54, 55, 56, 57, 58, 59, 60, 61, 62, 63, 64, 65, 66, 67, 68, 69, 70, 71, 72, 73, 74, 75, 76, 77, 78, 79, 80, 81, 82, 83, 84, 85, 86, 87, 88, 89, 90, 91, 92, 93, 94, 15, 16, 17, 19, 22, 23, 24, 25, 95, 96, 97, 98, 99, 100, 101, 102, 2, 103, 104, 105, 106, 107, 108, 109, 110, 111, 112, 113, 114, 115, 116, 117, 118, 119, 120, 121, 122, 123, 124, 125, 126, 127, 128, 129, 130, 131, 139, 140, 141, 142, 143, 144, 145, 146, 147, 148, 149, 150, 132, 133, 134, 135, 136, 137, 138] (by decide +kernel) (by decide +kernel)
set_option maxRecDepth 20000 in
theorem gX9_readInto_X9_readLine : GoodIn wsX9_readInto (wsV RX9 39 RX9 yX9_readLine wsX9_readLine) := goodIn_app (goodIn_of _ (by decide +kernel)) ggX9_readInto_X9_readLine
set_option maxRecDepth 20000 in
theorem ggX9_readLine_X9_isWord : GoodIn wsX9_readLine wsX9_isWord := goodIn_r _ [8, 3, 9, 10, 11, 12, 13, 14, 15, 16, 17, 18, 19, 20, 21, 22, 23, 24, 25, 7, 26, 27, 28, 29, 30, 31, 32, 33, 34, 35, 36, 37, 38, 39, 40, 41, 42, 43, 44, 45, 46, 47, 48, 49, 50, 51, 52, 53, 54, 55, 56, 57, 58, 59, 60, 61, 62, 63, 64, 65, 130, 131, 132, 133, 134, 135, 136] (by decide +kernel) (by decide +kernel)
set_option maxRecDepth 20000 in
theorem gX9_readLine_X9_isWord : GoodIn wsX9_readLine (wsV RX9 48 RX9 yX9_isWord wsX9_isWord) := goodIn_app (goodIn_of _ (by decide +kernel)) ggX9_readLine_X9_isWord
set_option maxRecDepth 20000 in
theorem ggX9_readLine_X9_readFamily : GoodIn wsX9_readLine wsX9_readFamily := goodIn_r _ [69, 70, 2, 71, 72, 73, 74, 7, 75, 9, 10, 27, 3, 76, 77, 78, 79, 28, 80, 81, 82, 83, 4, 5, 6, 8, 11, 12, 13, 14, 15, 16, 17, 18, 19, 20, 21, 22, 23, 24, 25, 26, 29, 30, 31, 32, 33, 34, 35, 36, 37, 38, 39, 40, 41, 42, 43, 44, 45, 46, 47, 48, 49, 50, 51, 52, 53, 54, 55, 56, 57, 58, 59, 60, 61, 62, 63, 64, 65, 84, 85, 86, 87, 88, 89, 90, 91, 92, 93, 94, 95, 96, 118, 119, 120, 121, 122, 123, 124, 125, 126, 127, 128, 129, 130, 131, 132, 133, 134, 135, 136] (by decide +kernel) (by decide +kernel)
set_option maxRecDepth 20000 in
theorem gX9_readLine_X9_readFamily : GoodIn wsX9_readLine (wsV RX9 52 RX9 yX9_readFamily wsX9_readFamily) := goodIn_app (goodIn_of _ (by decide +kernel)) ggX9_readLine_X9_readFamily
set_option maxRecDepth 20000 in
theorem ggX9_readLine_X9_readPerson : GoodIn wsX9_readLine wsX9_readPerson := goodIn_r _ [100, 101, 102, 103, 104, 105, 2, 3, 84, 85, 86, 7, 87, 10, 88, 72, 73, 74, 75, 9, 27, 76, 77, 78, 79, 28, 80, 81, 82, 83, 4, 5, 6, 8, 11, 12, 13, 14, 15, 16, 17, 18, 19, 20, 21, 22, 23, 24, 25, 26, 29, 30, 31, 32, 33, 34, 35, 36, 37, 38, 39, 40, 41, 42, 43, 44, 45, 46, 47, 48, 49, 50, 51, 52, 53, 54, 55, 56, 57, 58, 59, 60, 61, 62, 63, 64, 65, 89, 90, 91, 92, 93, 94, 95, 96, 106, 107, 108, 109, 118, 119, 120, 121, 122, 123, 124, 125, 126, 127, 128, 129, 130, 131, 132, 133, 134, 135, 136] (by decide +kernel) (by decide +kernel)
set_option maxRecDepth 20000 in
theorem gX9_readLine_X9_readPerson : GoodIn wsX9_readLine (wsV RX9 57 RX9 yX9_readPerson wsX9_readPerson) := goodIn_app (goodIn_of _ (by decide +kernel)) ggX9_readLine_X9_readPerson
set_option maxRecDepth 20000 in
theorem ggX9_readLine_X9_readPost : GoodIn wsX9_readLine wsX9_readPost := goodIn_r _ [113, 114, 115, 116, 117, 84, 85, 86, 7, 87, 2, 10, 88, 72, 73, 74, 75, 9, 27, 3, 76, 77, 78, 79, 28, 80, 81, 82, 83, 4, 5, 6, 8, 11, 12, 13, 14, 15, 16, 17, 18, 19, 20, 21, 22, 23, 24, 25, 26, 29, 30, 31, 32, 33, 34, 35, 36, 37, 38, 39, 40, 41, 42, 43, 44, 45, 46, 47, 48, 49, 50, 51, 52, 53, 54, 55, 56, 57, 58, 59, 60, 61, 62, 63, 64, 65, 89, 90, 91, 92, 93, 94, 95, 96, 118, 119, 120, 121, 122, 123, 124, 125, 126, 127, 128, 129, 130, 131, 132, 133, 134, 135, 136] (by decide +kernel) (by decide +kernel)
set_option maxRecDepth 20000 in
theorem gX9_readLine_X9_readPost : GoodIn wsX9_readLine (wsV RX9 62 RX9 yX9_readPost wsX9_readPost) := goodIn_app (goodIn_of _ (by decide +kernel)) ggX9_readLine_X9_readPost
set_option maxRecDepth 20000 in
theorem ggX9_readLine_X9_fail : GoodIn wsX9_readLine wsX9_fail := goodIn_r _ [87, 2, 10, 88, 130, 131, 132, 133, 134, 135, 136] (by decide +kernel) (by decide +kernel)
set_option maxRecDepth 20000 in
theorem gX9_readLine_X9_fail : GoodIn wsX9_readLine (wsV RX9 65 RX9 yX9_fail wsX9_fail) := goodIn_app (goodIn_of _ (by decide +kernel)) ggX9_readLine_X9_fail
set_option maxRecDepth 20000 in
theorem ggX9_readLine_X9_step : GoodIn wsX9_readLine wsX9_step := goodIn_r _ [75, 9, 10, 27, 3, 76, 77, 78, 7, 79, 28, 130, 131, 132, 133, 134, 135, 136] (by decide +kernel) (by decide +kernel)
set_option maxRecDepth 20000 in
theorem gX9_readLine_X9_step : GoodIn wsX9_readLine (wsV RX9 33 RX9 yX9_step wsX9_step) := goodIn_app (goodIn_of _ (by decide +kernel)) ggX9_readLine_X9_step
set_option maxRecDepth 20000 in
theorem ggX9_readFamily_X9_step : GoodIn wsX9_readFamily wsX9_step := goodIn_r _ [8, 9, 10, 11, 12, 13, 14, 15, 7, 16, 17, 104, 105, 106, 107, 108, 109, 110] (by decide +kernel) (by decide +kernel)
set_option maxRecDepth 20000 in
theorem gX9_readFamily_X9_step : GoodIn wsX9_readFamily (wsV RX9 33 RX9 yX9_step wsX9_step) := goodIn_app (goodIn_of _ (by decide +kernel)) ggX9_readFamily_X9_step
set_option maxRecDepth 20000 in
theorem ggX9_readFamily_X9_numberBehind : GoodIn wsX9_readFamily wsX9_numberBehind := goodIn_r _ [21, 2, 12, 22, 23, 24, 7, 25, 9, 10, 26, 27, 28, 29, 30, 31, 32, 33, 34, 35, 36, 37, 38, 39, 40, 41, 11, 17, 42, 43, 44, 45, 46, 47, 48, 49, 50, 51, 52, 53, 54, 55, 56, 57, 58, 59, 60, 61, 62, 63, 64, 65, 66, 67, 68, 69, 70, 71, 72, 73, 74, 75, 76, 77, 78, 79, 80, 81, 82, 83, 4, 5, 6, 8, 13, 14, 15, 16, 84, 85, 86, 87, 88, 89, 90, 91, 104, 105, 106, 107, 108, 109, 110] (by decide +kernel) (by decide +kernel)
set_option maxRecDepth 20000 in
theorem gX9_readFamily_X9_numberBehind : GoodIn wsX9_readFamily (wsV RX9 71 RX9 yX9_numberBehind wsX9_numberBehind) := goodIn_app (goodIn_of _ (by decide +kernel)) ggX9_readFamily_X9_numberBehind
set_option maxRecDepth 20000 in
theorem ggX9_readFamily_X9_isWord : GoodIn wsX9_readFamily wsX9_isWord := goodIn_r _ [25, 12, 9, 10, 26, 27, 28, 29, 30, 31, 32, 33, 34, 35, 36, 37, 38, 39, 40, 7, 41, 11, 17, 42, 43, 44, 45, 46, 47, 48, 49, 50, 51, 52, 53, 54, 55, 56, 57, 58, 59, 60, 61, 62, 63, 64, 65, 66, 67, 68, 69, 70, 71, 72, 73, 74, 75, 76, 77, 78, 104, 105, 106, 107, 108, 109, 110] (by decide +kernel) (by decide +kernel)
set_option maxRecDepth 20000 in
theorem gX9_readFamily_X9_isWord : GoodIn wsX9_readFamily (wsV RX9 48 RX9 yX9_isWord wsX9_isWord) := goodIn_app (goodIn_of _ (by decide +kernel)) ggX9_readFamily_X9_isWord
set_option maxRecDepth 20000 in
theorem ggX9_readPerson_X9_fail : GoodIn wsX9_readPerson wsX9_fail := goodIn_r _ [12, 6, 13, 14, 111, 112, 113, 114, 115, 116, 117] (by decide +kernel) (by decide +kernel)
set_option maxRecDepth 20000 in
theorem gX9_readPerson_X9_fail : GoodIn wsX9_readPerson (wsV RX9 65 RX9 yX9_fail wsX9_fail) := goodIn_app (goodIn_of _ (by decide +kernel)) ggX9_readPerson_X9_fail
set_option maxRecDepth 20000 in
theorem ggX9_readPerson_X9_step : GoodIn wsX9_readPerson wsX9_step := goodIn_r _ [18, 19, 13, 20, 7, 21, 22, 23, 11, 24, 25, 111, 112, 113, 114, 115, 116, 117] (by decide +kernel) (by decide +kernel)
set_option maxRecDepth 20000 in
theorem gX9_readPerson_X9_step : GoodIn wsX9_readPerson (wsV RX9 33 RX9 yX9_step wsX9_step) := goodIn_app (goodIn_of _ (by decide +kernel)) ggX9_readPerson_X9_step
set_option maxRecDepth 20000 in
theorem ggX9_readPerson_X9_numberBehind : GoodIn wsX9_readPerson wsX9_numberBehind := goodIn_r _ [29, 6, 7, 30, 31, 32, 11, 33, 19, 13, 34, 35, 36, 37, 38, 39, 40, 41, 42, 43, 44, 45, 46, 47, 48, 49, 20, 25, 50, 51, 52, 53, 54, 55, 56, 57, 58, 59, 60, 61, 62, 63, 64, 65, 66, 67, 68, 69, 70, 71, 72, 73, 74, 75, 76, 77, 78, 79, 80, 81, 82, 83, 84, 85, 86, 8, 9, 10, 12, 14, 15, 16, 17, 18, 21, 22, 23, 24, 87, 88, 89, 90, 91, 92, 93, 94, 111, 112, 113, 114, 115, 116, 117] (by decide +kernel) (by decide +kernel)
set_option maxRecDepth 20000 in
theorem gX9_readPerson_X9_numberBehind : GoodIn wsX9_readPerson (wsV RX9 71 RX9 yX9_numberBehind wsX9_numberBehind) := goodIn_app (goodIn_of _ (by decide +kernel)) ggX9_readPerson_X9_numberBehind
set_option maxRecDepth 20000 in
theorem ggX9_readPerson_X9_readMark : GoodIn wsX9_readPerson wsX9_readMark := goodIn_r _ [98, 4, 5, 30, 31, 32, 11, 33, 7, 19, 13, 34, 35, 36, 37, 38, 39, 40, 41, 42, 43, 44, 45, 46, 47, 48, 49, 20, 25, 50, 51, 52, 53, 54, 55, 56, 57, 58, 59, 60, 61, 62, 63, 64, 65, 66, 67, 68, 69, 70, 71, 72, 73, 74, 75, 76, 77, 78, 79, 80, 81, 82, 83, 84, 85, 86, 15, 16, 17, 18, 21, 22, 23, 24, 8, 9, 10, 12, 6, 14, 99, 100, 101, 102, 103, 104, 105, 106, 107, 108, 109, 110, 111, 112, 113, 114, 115, 116, 117] (by decide +kernel) (by decide +kernel)
set_option maxRecDepth 20000 in
theorem gX9_readPerson_X9_readMark : GoodIn wsX9_readPerson (wsV RX9 99 RX9 yX9_readMark wsX9_readMark) := goodIn_app (goodIn_of _ (by decide +kernel)) ggX9_readPerson_X9_readMark
set_option maxRecDepth 20000 in
theorem ggX9_readMark_X9_isWord : GoodIn wsX9_readMark wsX9_isWord := goodIn_r _ [7, 8, 9, 10, 11, 12, 13, 14, 15, 16, 17, 18, 19, 20, 21, 22, 23, 24, 25, 6, 26, 27, 28, 29, 30, 31, 32, 33, 34, 35, 36, 37, 38, 39, 40, 41, 42, 43, 44, 45, 46, 47, 48, 49, 50, 51, 52, 53, 54, 55, 56, 57, 58, 59, 60, 61, 62, 63, 64, 65, 92, 93, 94, 95, 96, 97, 98] (by decide +kernel) (by decide +kernel)
set_option maxRecDepth 20000 in
theorem gX9_readMark_X9_isWord : GoodIn wsX9_readMark (wsV RX9 48 RX9 yX9_isWord wsX9_isWord) := goodIn_app (goodIn_of _ (by decide +kernel)) ggX9_readMark_X9_isWord
set_option maxRecDepth 20000 in
theorem ggX9_readMark_X9_step : GoodIn wsX9_readMark wsX9_step := goodIn_r _ [69, 9, 10, 27, 8, 70, 71, 72, 6, 73, 28, 92, 93, 94, 95, 96, 97, 98] (by decide +kernel) (by decide +kernel)
set_option maxRecDepth 20000 in
theorem gX9_readMark_X9_step : GoodIn wsX9_readMark (wsV RX9 33 RX9 yX9_step wsX9_step) := goodIn_app (goodIn_of _ (by decide +kernel)) ggX9_readMark_X9_step
set_option maxRecDepth 20000 in
theorem ggX9_readMark_X9_fail : GoodIn wsX9_readMark wsX9_fail := goodIn_r _ [77, 78, 10, 79, 92, 93, 94, 95, 96, 97, 98] (by decide +kernel) (by decide +kernel)
set_option maxRecDepth 20000 in
theorem gX9_readMark_X9_fail : GoodIn wsX9_readMark (wsV RX9 65 RX9 yX9_fail wsX9_fail) := goodIn_app (goodIn_of _ (by decide +kernel)) ggX9_readMark_X9_fail
set_option maxRecDepth 20000 in
theorem ggX9_readPost_X9_fail : GoodIn wsX9_readPost wsX9_fail := goodIn_r _ [9, 10, 11, 12, 106, 107, 108, 109, 110, 111, 112] (by decide +kernel) (by decide +kernel)
set_option maxRecDepth 20000 in
theorem gX9_readPost_X9_fail : GoodIn wsX9_readPost (wsV RX9 65 RX9 yX9_fail wsX9_fail) := goodIn_app (goodIn_of _ (by decide +kernel)) ggX9_readPost_X9_fail
set_option maxRecDepth 20000 in
theorem ggX9_readPost_X9_step : GoodIn wsX9_readPost wsX9_step := goodIn_r _ [16, 17, 11, 18, 19, 20, 21, 22, 8, 23, 24, 106, 107, 108, 109, 110, 111, 112] (by decide +kernel) (by decide +kernel)
set_option maxRecDepth 20000 in
theorem gX9_readPost_X9_step : GoodIn wsX9_readPost (wsV RX9 33 RX9 yX9_step wsX9_step) := goodIn_app (goodIn_of _ (by decide +kernel)) ggX9_readPost_X9_step
set_option maxRecDepth 20000 in
theorem ggX9_readPost_X9_numberBehind : GoodIn wsX9_readPost wsX9_numberBehind := goodIn_r _ [28, 10, 19, 29, 30, 31, 8, 32, 17, 11, 33, 34, 35, 36, 37, 38, 39, 40, 41, 42, 43, 44, 45, 46, 47, 48, 18, 24, 49, 50, 51, 52, 53, 54, 55, 56, 57, 58, 59, 60, 61, 62, 63, 64, 65, 66, 67, 68, 69, 70, 71, 72, 73, 74, 75, 76, 77, 78, 79, 80, 81, 82, 83, 84, 85, 5, 6, 7, 9, 12, 13, 14, 15, 16, 20, 21, 22, 23, 86, 87, 88, 89, 90, 91, 92, 93, 106, 107, 108, 109, 110, 111, 112] (by decide +kernel) (by decide +kernel)
set_option maxRecDepth 20000 in
theorem gX9_readPost_X9_numberBehind : GoodIn wsX9_readPost (wsV RX9 71 RX9 yX9_numberBehind wsX9_numberBehind) := goodIn_app (goodIn_of _ (by decide +kernel)) ggX9_readPost_X9_numberBehind
set_option maxRecDepth 20000 in
theorem ggX9_numberBehind_X9_isWord : GoodIn wsX9_numberBehind wsX9_isWord := goodIn_r _ [7, 2, 8, 9, 10, 11, 12, 13, 14, 15, 16, 17, 18, 19, 20, 21, 22, 23, 24, 6, 25, 26, 27, 28, 29, 30, 31, 32, 33, 34, 35, 36, 37, 38, 39, 40, 41, 42, 43, 44, 45, 46, 47, 48, 49, 50, 51, 52, 53, 54, 55, 56, 57, 58, 59, 60, 61, 62, 63, 64, 86, 87, 88, 89, 90, 91, 92] (by decide +kernel) (by decide +kernel)
set_option maxRecDepth 20000 in
theorem gX9_numberBehind_X9_isWord : GoodIn wsX9_numberBehind (wsV RX9 48 RX9 yX9_isWord wsX9_isWord) := goodIn_app (goodIn_of _ (by decide +kernel)) ggX9_numberBehind_X9_isWord
set_option maxRecDepth 20000 in
theorem ggX9_numberBehind_X9_fail : GoodIn wsX9_numberBehind wsX9_fail := goodIn_r _ [68, 1, 9, 69, 86, 87, 88, 89, 90, 91, 92] (by decide +kernel) (by decide +kernel)
set_option maxRecDepth 20000 in
theorem gX9_numberBehind_X9_fail : GoodIn wsX9_numberBehind (wsV RX9 65 RX9 yX9_fail wsX9_fail) := goodIn_app (goodIn_of _ (by decide +kernel)) ggX9_numberBehind_X9_fail
set_option maxRecDepth 20000 in
theorem ggX9_numberBehind_X9_step : GoodIn wsX9_numberBehind wsX9_step := goodIn_r _ [73, 8, 9, 26, 2, 74, 75, 76, 6, 77, 27, 86, 87, 88, 89, 90, 91, 92] (by decide +kernel) (by decide +kernel)
set_option maxRecDepth 20000 in
theorem gX9_numberBehind_X9_step : GoodIn wsX9_numberBehind (wsV RX9 33 RX9 yX9_step wsX9_step) := goodIn_app (goodIn_of _ (by decide +kernel)) ggX9_numberBehind_X9_step
set_option maxRecDepth 20000 in
theorem ggX9_numberBehind_X9_numberHere : GoodIn wsX9_numberBehind wsX9_numberHere := goodIn_r _ [81, 9, 8, 82, 83, 84, 85, 22, 23, 24, 6, 25, 26, 27, 86, 87, 88, 89, 90, 91, 92] (by decide +kernel) (by decide +kernel)
set_option maxRecDepth 20000 in
theorem gX9_numberBehind_X9_numberHere : GoodIn wsX9_numberBehind (wsV RX9 120 RX9 yX9_numberHere wsX9_numberHere) := goodIn_app (goodIn_of _ (by decide +kernel)) ggX9_numberBehind_X9_numberHere
set_option maxRecDepth 20000 in
theorem ggX9_numberHere_X9_byteAt : GoodIn wsX9_numberHere wsX9_byteAt := goodIn_r _ [11, 12, 13, 14, 15, 16, 17, 18, 19, 20] (by decide +kernel) (by decide +kernel)
set_option maxRecDepth 20000 in
theorem gX9_numberHere_X9_byteAt : GoodIn wsX9_numberHere (wsV RX9 127 RX9 yX9_byteAt wsX9_byteAt) := goodIn_app (goodIn_of _ (by decide +kernel)) ggX9_numberHere_X9_byteAt
set_option maxRecDepth 20000 in
theorem ggX9_isWord_J0_length_8abf5 : GoodIn wsX9_isWord wsJ0_length_8abf5 := goodIn_r _ [8, 9, 10, 11, 12, 7, 13, 14, 15] (by decide +kernel) (by decide +kernel)
set_option maxRecDepth 20000 in
theorem gX9_isWord_J0_length_8abf5 : GoodIn wsX9_isWord (wsV RX9 137 RJ0 yJ0_length_8abf5 wsJ0_length_8abf5) := goodIn_app (goodIn_of _ (by decide +kernel)) ggX9_isWord_J0_length_8abf5
set_option maxRecDepth 20000 in
theorem ggX9_isWord_X9_byteAt : GoodIn wsX9_isWord wsX9_byteAt := goodIn_r _ [20, 21, 22, 60, 61, 62, 63, 64, 65, 66] (by decide +kernel) (by decide +kernel)
set_option maxRecDepth 20000 in
theorem gX9_isWord_X9_byteAt : GoodIn wsX9_isWord (wsV RX9 127 RX9 yX9_byteAt wsX9_byteAt) := goodIn_app (goodIn_of _ (by decide +kernel)) ggX9_isWord_X9_byteAt
set_option maxRecDepth 20000 in
theorem ggX9_isWord_J0_charAt_5068e : GoodIn wsX9_isWord wsJ0_charAt_5068e := goodIn_r _ [26, 9, 27, 28, 29, 7, 30, 14, 15, 31, 32, 33, 34, 35, 36, 37, 38, 39, 40, 41, 42, 43, 44, 45, 46, 47, 48, 49, 50, 51, 52, 53, 54, 55, 56, 57, 58, 59] (by decide +kernel) (by decide +kernel)
set_option maxRecDepth 20000 in
theorem gX9_isWord_J0_charAt_5068e : GoodIn wsX9_isWord (wsV RX9 141 RJ0 yJ0_charAt_5068e wsJ0_charAt_5068e) := goodIn_app (goodIn_of _ (by decide +kernel)) ggX9_isWord_J0_charAt_5068e
set_option maxRecDepth 20000 in
theorem ggX9_step_X9_kindAt : GoodIn wsX9_step wsX9_kindAt := goodIn_r _ [9, 3, 10, 11, 12, 13, 14, 15, 16, 17] (by decide +kernel) (by decide +kernel)
set_option maxRecDepth 20000 in
theorem gX9_step_X9_kindAt : GoodIn wsX9_step (wsV RX9 145 RX9 yX9_kindAt wsX9_kindAt) := goodIn_app (goodIn_of _ (by decide +kernel)) ggX9_step_X9_kindAt
set_option maxRecDepth 20000 in
theorem ggX10_init_X10_restart : GoodIn wsX10_init wsX10_restart := goodIn_r _ [12, 13, 14, 15, 16, 17, 18, 7, 19, 20, 21, 22, 23, 24, 25, 26, 27, 28, 29, 30, 31] (by decide +kernel) (by decide +kernel)
set_option maxRecDepth 20000 in
theorem gX10_init_X10_restart : GoodIn wsX10_init (wsV RX10 21 RX10 yX10_restart wsX10_restart) := goodIn_app (goodIn_of _ (by decide +kernel)) ggX10_init_X10_restart
set_option maxRecDepth 20000 in
theorem ggX10_restart_J7_fill_53178 : GoodIn wsX10_restart wsJ7_fill_53178 := goodIn_r _ [11] (by decide +kernel) (by decide +kernel)
set_option maxRecDepth 20000 in
theorem gX10_restart_J7_fill_53178 : GoodIn wsX10_restart (va_wsS RX10 45 yJ7_fill_53178 wsJ7_fill_53178) := goodIn_app (goodIn_of _ (by decide +kernel)) ggX10_restart_J7_fill_53178
set_option maxRecDepth 20000 in
theorem ggX10_replay_X10_restart : GoodIn wsX10_replay wsX10_restart := goodIn_r _ [6, 7, 8, 9, 10, 11, 12, 13, 14, 15, 16, 17, 91, 92, 93, 94, 95, 96, 97, 98, 99] (by decide +kernel) (by decide +kernel)
set_option maxRecDepth 20000 in
theorem gX10_replay_X10_restart : GoodIn wsX10_replay (wsV RX10 21 RX10 yX10_restart wsX10_restart) := goodIn_app (goodIn_of _ (by decide +kernel)) ggX10_replay_X10_restart
set_option maxRecDepth 20000 in
theorem ggX10_replay_X10_tries : GoodIn wsX10_replay wsX10_tries := goodIn_r _ [21, 22, 23, 24, 5, 25, 10, 11, 26, 27, 28, 29, 30, 7, 1, 31, 32, 33, 34, 35, 36, 37, 38, 39, 40, 41, 42, 43, 44, 9, 45, 13, 12, 46, 47, 48, 49, 50, 51, 52, 53, 54, 55, 56, 57, 58, 59, 60, 61, 62, 63, 64, 65, 66, 67, 68, 69, 70, 71, 72, 73, 74, 75, 76, 77, 78, 79, 80, 81, 8, 82, 83, 84, 85, 86, 87, 88, 89, 90, 91, 92, 93, 94, 95, 96, 97, 98, 99, 100, 101, 102, 103, 104, 105, 106, 107, 108, 109, 110, 111] (by decide +kernel) (by decide +kernel)
set_option maxRecDepth 20000 in
theorem gX10_replay_X10_tries : GoodIn wsX10_replay (wsV RX10 57 RX10 yX10_tries wsX10_tries) := goodIn_app (goodIn_of _ (by decide +kernel)) ggX10_replay_X10_tries
set_option maxRecDepth 20000 in
theorem ggX10_hindrance_X0_everyone : GoodIn wsX10_hindrance wsX0_everyone := goodIn_r _ [11, 12, 49, 50, 51, 52, 53, 54, 55, 56, 57, 58, 59, 60] (by decide +kernel) (by decide +kernel)
set_option maxRecDepth 20000 in
theorem gX10_hindrance_X0_everyone : GoodIn wsX10_hindrance (wsV RX10 61 RX0 yX0_everyone wsX0_everyone) := goodIn_app (goodIn_of _ (by decide +kernel)) ggX10_hindrance_X0_everyone
set_option maxRecDepth 20000 in
theorem ggX10_hindrance_X10_isIn : GoodIn wsX10_hindrance wsX10_isIn := goodIn_r _ [16] (by decide +kernel) (by decide +kernel)
set_option maxRecDepth 20000 in
theorem gX10_hindrance_X10_isIn : GoodIn wsX10_hindrance (va_wsS RX10 67 yX10_isIn wsX10_isIn) := goodIn_app (goodIn_of _ (by decide +kernel)) ggX10_hindrance_X10_isIn
set_option maxRecDepth 20000 in
theorem ggX10_hindrance_X0_children : GoodIn wsX10_hindrance wsX0_children := goodIn_r _ [20, 21, 22, 23, 24, 10, 25, 12, 49, 50, 51, 52, 53, 54, 55, 56, 57, 58, 59, 60] (by decide +kernel) (by decide +kernel)
set_option maxRecDepth 20000 in
theorem gX10_hindrance_X0_children : GoodIn wsX10_hindrance (wsV RX10 74 RX0 yX0_children wsX0_children) := goodIn_app (goodIn_of _ (by decide +kernel)) ggX10_hindrance_X0_children
set_option maxRecDepth 20000 in
theorem ggX10_hindrance_X0_adultsBehind : GoodIn wsX10_hindrance wsX0_adultsBehind := goodIn_r _ [29, 12, 21, 30, 31, 32, 33, 34, 35, 49, 50, 51, 52, 53, 54, 55, 56, 57, 58, 59, 60] (by decide +kernel) (by decide +kernel)
set_option maxRecDepth 20000 in
theorem gX10_hindrance_X0_adultsBehind : GoodIn wsX10_hindrance (wsV RX10 77 RX0 yX0_adultsBehind wsX0_adultsBehind) := goodIn_app (goodIn_of _ (by decide +kernel)) ggX10_hindrance_X0_adultsBehind
set_option maxRecDepth 20000 in
theorem ggX10_hindrance_X6_fits : GoodIn wsX10_hindrance wsX6_fits := goodIn_r _ [39] (by decide +kernel) (by decide +kernel)
set_option maxRecDepth 20000 in
theorem gX10_hindrance_X6_fits : GoodIn wsX10_hindrance (va_wsS RX10 84 yX6_fits wsX6_fits) := goodIn_app (goodIn_of _ (by decide +kernel)) ggX10_hindrance_X6_fits
set_option maxRecDepth 20000 in
theorem ggX10_tries_X10_send : GoodIn wsX10_tries wsX10_send := goodIn_r _ [5, 6, 7, 8, 9, 10, 11, 4, 12, 13, 14, 79, 80, 81, 82, 83, 84, 85, 86, 87, 88, 89, 90, 91, 92, 93, 94, 95, 96, 97, 98, 99] (by decide +kernel) (by decide +kernel)
set_option maxRecDepth 20000 in
theorem gX10_tries_X10_send : GoodIn wsX10_tries (wsV RX10 88 RX10 yX10_send wsX10_send) := goodIn_app (goodIn_of _ (by decide +kernel)) ggX10_tries_X10_send
set_option maxRecDepth 20000 in
theorem ggX10_tries_X0_personOf : GoodIn wsX10_tries wsX0_personOf := goodIn_r _ [18] (by decide +kernel) (by decide +kernel)
set_option maxRecDepth 20000 in
theorem gX10_tries_X0_personOf : GoodIn wsX10_tries (va_wsS RX10 92 yX0_personOf wsX0_personOf) := goodIn_app (goodIn_of _ (by decide +kernel)) ggX10_tries_X0_personOf
set_option maxRecDepth 20000 in
theorem ggX10_tries_X0_childOf : GoodIn wsX10_tries wsX0_childOf := goodIn_r _ [21] (by decide +kernel) (by decide +kernel)
set_option maxRecDepth 20000 in
theorem gX10_tries_X0_childOf : GoodIn wsX10_tries (va_wsS RX10 96 yX0_childOf wsX0_childOf) := goodIn_app (goodIn_of _ (by decide +kernel)) ggX10_tries_X0_childOf
set_option maxRecDepth 20000 in
theorem ggX10_tries_X0_postOf : GoodIn wsX10_tries wsX0_postOf := goodIn_r _ [24] (by decide +kernel) (by decide +kernel)
set_option maxRecDepth 20000 in
theorem gX10_tries_X0_postOf : GoodIn wsX10_tries (va_wsS RX10 99 yX0_postOf wsX0_postOf) := goodIn_app (goodIn_of _ (by decide +kernel)) ggX10_tries_X0_postOf
set_option maxRecDepth 20000 in
theorem ggX10_tries_X10_hindrance : GoodIn wsX10_tries wsX10_hindrance := goodIn_r _ [28, 6, 29, 30, 31, 32, 33, 34, 35, 36, 17, 37, 38, 39, 40, 4, 41, 42, 43, 44, 45, 46, 47, 48, 49, 50, 51, 52, 53, 54, 55, 56, 57, 58, 59, 60, 61, 62, 63, 64, 79, 80, 81, 82, 83, 84, 85, 86, 87, 88, 89, 90, 91, 92, 93, 94, 95, 96, 97, 98, 99] (by decide +kernel) (by decide +kernel)
set_option maxRecDepth 20000 in
theorem gX10_tries_X10_hindrance : GoodIn wsX10_tries (wsV RX10 102 RX10 yX10_hindrance wsX10_hindrance) := goodIn_app (goodIn_of _ (by decide +kernel)) ggX10_tries_X10_hindrance
set_option maxRecDepth 20000 in
theorem ggX10_tries_X10_pass : GoodIn wsX10_tries wsX10_pass := goodIn_r _ [68, 69, 70, 6, 32, 29, 7, 71, 72, 31, 73, 74, 17, 75, 9, 10, 11, 4, 12, 13, 14, 76, 77, 63, 78, 79, 80, 81, 82, 83, 84, 85, 86, 87, 88, 89, 90, 91, 92, 93, 94, 95, 96, 97, 98, 99] (by decide +kernel) (by decide +kernel)
set_option maxRecDepth 20000 in
theorem gX10_tries_X10_pass : GoodIn wsX10_tries (wsV RX10 106 RX10 yX10_pass wsX10_pass) := goodIn_app (goodIn_of _ (by decide +kernel)) ggX10_tries_X10_pass
set_option maxRecDepth 20000 in
theorem ggX10_pass_X0_actOf : GoodIn wsX10_pass wsX0_actOf := goodIn_r _ [13] (by decide +kernel) (by decide +kernel)
set_option maxRecDepth 20000 in
theorem gX10_pass_X0_actOf : GoodIn wsX10_pass (va_wsS RX10 110 yX0_actOf wsX0_actOf) := goodIn_app (goodIn_of _ (by decide +kernel)) ggX10_pass_X0_actOf
set_option maxRecDepth 20000 in
theorem ggX10_pass_X10_note : GoodIn wsX10_pass wsX10_note := goodIn_r _ [18, 19, 20, 25, 26, 27, 28, 29, 30, 31, 32, 33] (by decide +kernel) (by decide +kernel)
set_option maxRecDepth 20000 in
theorem gX10_pass_X10_note : GoodIn wsX10_pass (wsV RX10 114 RX10 yX10_note wsX10_note) := goodIn_app (goodIn_of _ (by decide +kernel)) ggX10_pass_X10_note
set_option maxRecDepth 20000 in
theorem ggX10_pass_X6_longer : GoodIn wsX10_pass wsX6_longer := goodIn_r _ [24] (by decide +kernel) (by decide +kernel)
set_option maxRecDepth 20000 in
theorem gX10_pass_X6_longer : GoodIn wsX10_pass (va_wsS RX10 118 yX6_longer wsX6_longer) := goodIn_app (goodIn_of _ (by decide +kernel)) ggX10_pass_X6_longer
set_option maxRecDepth 20000 in
theorem ggX10_send_X10_note : GoodIn wsX10_send wsX10_note := goodIn_r _ [8, 9, 10, 11, 12, 13, 14, 15, 16, 17, 18, 19] (by decide +kernel) (by decide +kernel)
set_option maxRecDepth 20000 in
theorem gX10_send_X10_note : GoodIn wsX10_send (wsV RX10 114 RX10 yX10_note wsX10_note) := goodIn_app (goodIn_of _ (by decide +kernel)) ggX10_send_X10_note
set_option maxRecDepth 20000 in
theorem ggX10_riskTogether_X0_riskOfAct : GoodIn wsX10_riskTogether wsX0_riskOfAct := goodIn_r _ [7, 8, 9, 6, 10, 11, 12, 13, 14, 15, 16, 17, 18, 19, 29, 30, 31, 32, 33, 34, 35, 36, 37, 38, 39, 40] (by decide +kernel) (by decide +kernel)
set_option maxRecDepth 20000 in
theorem gX10_riskTogether_X0_riskOfAct : GoodIn wsX10_riskTogether (wsV RX10 130 RX0 yX0_riskOfAct wsX0_riskOfAct) := goodIn_app (goodIn_of _ (by decide +kernel)) ggX10_riskTogether_X0_riskOfAct
set_option maxRecDepth 20000 in
theorem ggX11_init_X9_init : GoodIn wsX11_init wsX9_init := goodIn_r _ [35, 36, 2, 3, 37, 38, 39, 166, 167, 168, 169, 170, 171, 172] (by decide +kernel) (by decide +kernel)
set_option maxRecDepth 20000 in
theorem gX11_init_X9_init_n9 : GoodIn wsX11_init (wsX9_init) := ggX11_init_X9_init
set_option maxRecDepth 20000 in
theorem ggX11_init_X0_init : GoodIn wsX11_init wsX0_init := goodIn_r _ [41, 42, 2, 3, 43, 44, 45, 46, 47, 48, 49, 50, 184, 185, 186, 187, 188, 189, 190, 191, 192, 193, 194, 195] (by decide +kernel) (by decide +kernel)
set_option maxRecDepth 20000 in
theorem gX11_init_X0_init_n18 : GoodIn wsX11_init (wsX0_init) := ggX11_init_X0_init
set_option maxRecDepth 20000 in
theorem ggX11_init_X10_init : GoodIn wsX11_init wsX10_init := goodIn_r _ [53, 54, 2, 3, 43, 55, 56, 57, 58, 59, 60, 15, 61, 62, 63, 64, 65, 66, 67, 68, 69, 70, 71, 196, 197, 198, 199, 200, 201, 202, 203, 204] (by decide +kernel) (by decide +kernel)
set_option maxRecDepth 20000 in
theorem gX11_init_X10_init : GoodIn wsX11_init (wsX10_init) := ggX11_init_X10_init
set_option maxRecDepth 20000 in
theorem ggX11_init_X7_init : GoodIn wsX11_init wsX7_init := goodIn_r _ [74, 75, 2, 3, 76, 77, 78, 79, 80, 81, 82, 83, 9, 10, 84, 85, 86, 87, 88, 89, 90, 91, 92, 93, 94, 95, 96, 97, 98, 99, 100, 101, 43, 102, 103, 104, 105, 106, 107, 108, 109, 110, 111, 112, 113, 114, 115, 116, 40, 41, 42, 44, 45, 46, 47, 48, 49, 50, 117, 118, 119, 120, 121, 122, 123, 124, 125, 32, 126, 127, 128, 129, 130, 131, 132, 133, 134, 135, 136, 137, 138, 139, 140, 141, 142, 143, 144, 145, 146, 147, 148, 149, 230, 231, 232, 233, 205, 206, 207, 208, 209, 210, 211, 212, 213, 214, 215, 216, 217, 218, 219, 220, 221, 184, 185, 186, 187, 188, 189, 190, 191, 192, 193, 194, 195, 234, 235, 236, 237, 238, 239, 240, 241, 242, 243, 244, 245, 246, 247, 248, 249, 250, 251, 252, 253, 254, 255, 256, 257] (by decide +kernel) (by decide +kernel)
set_option maxRecDepth 20000 in
theorem gX11_init_X7_init : GoodIn wsX11_init (wsX7_init) := ggX11_init_X7_init
set_option maxRecDepth 20000 in
theorem ggX11_init_X3_init : GoodIn wsX11_init wsX3_init := goodIn_r _ [151, 152, 2, 3, 113, 153, 43, 154, 155, 156, 222, 223, 224, 225, 226] (by decide +kernel) (by decide +kernel)
set_option maxRecDepth 20000 in
theorem gX11_init_X3_init_n47 : GoodIn wsX11_init (wsX3_init) := ggX11_init_X3_init
set_option maxRecDepth 20000 in
theorem ggX11_init_X8_init : GoodIn wsX11_init wsX8_init := goodIn_r _ [159, 160, 2, 3, 161, 113, 162, 43, 163, 164, 165, 69, 70, 71, 227, 228, 229] (by decide +kernel) (by decide +kernel)
set_option maxRecDepth 20000 in
theorem gX11_init_X8_init : GoodIn wsX11_init (wsX8_init) := ggX11_init_X8_init
set_option maxRecDepth 20000 in
theorem ggX11_feed_X9_append : GoodIn wsX11_feed wsX9_append := goodIn_r _ [7, 8, 9, 21, 22, 23, 24, 25, 26, 27] (by decide +kernel) (by decide +kernel)
set_option maxRecDepth 20000 in
theorem gX11_feed_X9_append : GoodIn wsX11_feed (wsV RX11 75 RX9 yX9_append wsX9_append) := goodIn_app (goodIn_of _ (by decide +kernel)) ggX11_feed_X9_append
set_option maxRecDepth 20000 in
theorem ggX11_family_X9_readInto : GoodIn wsX11_family wsX9_readInto := goodIn_r _ [13, 14, 15, 16, 17, 18, 19, 20, 21, 22, 23, 24, 25, 26, 27, 28, 29, 30, 12, 31, 32, 33, 34, 35, 36, 37, 38, 39, 40, 41, 42, 43, 44, 45, 46, 47, 48, 49, 50, 51, 52, 53, 54, 55, 56, 57, 58, 59, 60, 61, 62, 63, 64, 65, 66, 67, 68, 69, 70, 71, 72, 73, 74, 75, 76, 77, 78, 79, 80, 81, 82, 83, 84, 85, 86, 87, 88, 89, 90, 91, 92, 93, 94, 95, 96, 97, 98, 99, 100, 101, 102, 103, 104, 105, 106, 107, 108, 109, 110, 111, 112, 113, 114, 115, 116, 117, 118, 119, 120, 121, 122, 123, 124, 125, 126, 127, 128, 129, 130, 131, 132, 133, 134, 135, 136, 137, 138, 139, 140, 141, 142, 143, 268, 269, 270, 271, 272, 273, 274, 275, 276, 277, 278, 279, 280, 281, 282, 283, 284, 285, 286] (by decide +kernel) (by decide +kernel)
set_option maxRecDepth 20000 in
theorem gX11_family_X9_readInto : GoodIn wsX11_family (wsV RX11 79 RX9 yX9_readInto wsX9_readInto) := goodIn_app (goodIn_of _ (by decide +kernel)) ggX11_family_X9_readInto
set_option maxRecDepth 20000 in
theorem ggX11_family_X0_copyFrom : GoodIn wsX11_family wsX0_copyFrom := goodIn_r _ [147, 23, 24, 25, 26, 27, 148, 149, 150, 151, 152, 153, 154, 155, 156, 157, 158, 275, 276, 277, 278, 279, 280, 281, 282, 283, 284, 285, 286] (by decide +kernel) (by decide +kernel)
set_option maxRecDepth 20000 in
theorem gX11_family_X0_copyFrom : GoodIn wsX11_family (wsV RX11 86 RX0 yX0_copyFrom wsX0_copyFrom) := goodIn_app (goodIn_of _ (by decide +kernel)) ggX11_family_X0_copyFrom
set_option maxRecDepth 20000 in
theorem ggX11_family_X10_restart : GoodIn wsX11_family wsX10_restart := goodIn_r _ [163, 164, 165, 166, 167, 168, 169, 170, 171, 172, 173, 174, 287, 288, 289, 290, 291, 292, 293, 294, 295] (by decide +kernel) (by decide +kernel)
set_option maxRecDepth 20000 in
theorem gX11_family_X10_restart : GoodIn wsX11_family (wsV RX11 89 RX10 yX10_restart wsX10_restart) := goodIn_app (goodIn_of _ (by decide +kernel)) ggX11_family_X10_restart
set_option maxRecDepth 20000 in
theorem ggX11_family_X7_beginFamily : GoodIn wsX11_family wsX7_beginFamily := goodIn_r _ [179, 180, 181, 182, 183, 184, 185, 186, 187, 188, 189, 190, 191, 192, 193, 194, 195, 196, 197, 198, 199, 200, 201, 202, 121, 203, 204, 205, 206, 207, 21, 208, 26, 209, 210, 211, 212, 154, 213, 214, 215, 216, 217, 172, 173, 174, 218, 219, 220, 221, 153, 222, 223, 224, 157, 225, 226, 227, 228, 229, 230, 231, 232, 233, 234, 235, 236, 237, 238, 239, 240, 241, 242, 243, 244, 245, 246, 178, 247, 248, 249, 250, 251, 252, 253, 254, 255, 256, 296, 297, 298, 299, 300, 301, 302, 303, 304, 305, 306, 307, 308, 309, 310, 311, 312, 313, 314, 315, 316, 317, 318, 319, 320, 321, 322, 323, 324, 275, 276, 277, 278, 279, 280, 281, 282, 283, 284, 285, 286, 325, 326, 327, 328] (by decide +kernel) (by decide +kernel)
set_option maxRecDepth 20000 in
theorem gX11_family_X7_beginFamily : GoodIn wsX11_family (wsV RX11 92 RX7 yX7_beginFamily wsX7_beginFamily) := goodIn_app (goodIn_of _ (by decide +kernel)) ggX11_family_X7_beginFamily
set_option maxRecDepth 20000 in
theorem ggX11_person_X0_hasPerson : GoodIn wsX11_person wsX0_hasPerson := goodIn_r _ [12, 13, 25, 26, 27, 28, 29, 30, 31, 32, 33, 34, 35, 36] (by decide +kernel) (by decide +kernel)
set_option maxRecDepth 20000 in
theorem gX11_person_X0_hasPerson : GoodIn wsX11_person (wsV RX11 101 RX0 yX0_hasPerson wsX0_hasPerson) := goodIn_app (goodIn_of _ (by decide +kernel)) ggX11_person_X0_hasPerson
set_option maxRecDepth 20000 in
theorem ggX11_post_X0_hasPost : GoodIn wsX11_post wsX0_hasPost := goodIn_r _ [11, 12, 24, 25, 26, 27, 28, 29, 30, 31, 32, 33, 34, 35] (by decide +kernel) (by decide +kernel)
set_option maxRecDepth 20000 in
theorem gX11_post_X0_hasPost : GoodIn wsX11_post (wsV RX11 121 RX0 yX0_hasPost wsX0_hasPost) := goodIn_app (goodIn_of _ (by decide +kernel)) ggX11_post_X0_hasPost
set_option maxRecDepth 20000 in
theorem ggX11_risk_X0_hasPerson : GoodIn wsX11_risk wsX0_hasPerson := goodIn_r _ [6, 7, 30, 31, 32, 33, 34, 35, 36, 37, 38, 39, 40, 41] (by decide +kernel) (by decide +kernel)
set_option maxRecDepth 20000 in
theorem gX11_risk_X0_hasPerson : GoodIn wsX11_risk (wsV RX11 101 RX0 yX0_hasPerson wsX0_hasPerson) := goodIn_app (goodIn_of _ (by decide +kernel)) ggX11_risk_X0_hasPerson
set_option maxRecDepth 20000 in
theorem ggX11_risk_X0_hasPost : GoodIn wsX11_risk wsX0_hasPost := goodIn_r _ [11, 12, 30, 31, 32, 33, 34, 35, 36, 37, 38, 39, 40, 41] (by decide +kernel) (by decide +kernel)
set_option maxRecDepth 20000 in
theorem gX11_risk_X0_hasPost : GoodIn wsX11_risk (wsV RX11 121 RX0 yX0_hasPost wsX0_hasPost) := goodIn_app (goodIn_of _ (by decide +kernel)) ggX11_risk_X0_hasPost
set_option maxRecDepth 20000 in
theorem ggX11_risk_X0_riskOf : GoodIn wsX11_risk wsX0_riskOf := goodIn_r _ [16, 17, 18, 30, 31, 32, 33, 34, 35, 36, 37, 38, 39, 40, 41] (by decide +kernel) (by decide +kernel)
set_option maxRecDepth 20000 in
theorem gX11_risk_X0_riskOf : GoodIn wsX11_risk (wsV RX11 136 RX0 yX0_riskOf wsX0_riskOf) := goodIn_app (goodIn_of _ (by decide +kernel)) ggX11_risk_X0_riskOf
set_option maxRecDepth 20000 in
theorem ggX11_after_X0_hasPost : GoodIn wsX11_after wsX0_hasPost := goodIn_r _ [6, 7, 39, 40, 41, 42, 43, 44, 45, 46, 47, 48, 49, 50] (by decide +kernel) (by decide +kernel)
set_option maxRecDepth 20000 in
theorem gX11_after_X0_hasPost : GoodIn wsX11_after (wsV RX11 121 RX0 yX0_hasPost wsX0_hasPost) := goodIn_app (goodIn_of _ (by decide +kernel)) ggX11_after_X0_hasPost
set_option maxRecDepth 20000 in
theorem ggX11_after_X0_hasPersonOrNone : GoodIn wsX11_after wsX0_hasPersonOrNone := goodIn_r _ [11, 12, 13, 14, 5, 15, 16, 39, 40, 41, 42, 43, 44, 45, 46, 47, 48, 49, 50] (by decide +kernel) (by decide +kernel)
set_option maxRecDepth 20000 in
theorem gX11_after_X0_hasPersonOrNone : GoodIn wsX11_after (wsV RX11 140 RX0 yX0_hasPersonOrNone wsX0_hasPersonOrNone) := goodIn_app (goodIn_of _ (by decide +kernel)) ggX11_after_X0_hasPersonOrNone
set_option maxRecDepth 20000 in
theorem ggX11_after_X0_adultsBehind : GoodIn wsX11_after wsX0_adultsBehind := goodIn_r _ [20, 16, 21, 22, 23, 24, 25, 26, 27, 39, 40, 41, 42, 43, 44, 45, 46, 47, 48, 49, 50] (by decide +kernel) (by decide +kernel)
set_option maxRecDepth 20000 in
theorem gX11_after_X0_adultsBehind : GoodIn wsX11_after (wsV RX11 143 RX0 yX0_adultsBehind wsX0_adultsBehind) := goodIn_app (goodIn_of _ (by decide +kernel)) ggX11_after_X0_adultsBehind
set_option maxRecDepth 20000 in
theorem ggX11_now_X0_isTold : GoodIn wsX11_now wsX0_isTold := goodIn_r _ [11, 12, 56, 57, 58, 59, 60, 61, 62, 63, 64, 65, 66, 67] (by decide +kernel) (by decide +kernel)
set_option maxRecDepth 20000 in
theorem gX11_now_X0_isTold : GoodIn wsX11_now (wsV RX11 146 RX0 yX0_isTold wsX0_isTold) := goodIn_app (goodIn_of _ (by decide +kernel)) ggX11_now_X0_isTold
set_option maxRecDepth 20000 in
theorem ggX11_now_X10_riskTogether : GoodIn wsX11_now wsX10_riskTogether := goodIn_r _ [17, 18, 19, 20, 21, 22, 10, 23, 24, 25, 26, 27, 28, 29, 30, 31, 32, 33, 34, 35, 47, 48, 49, 50, 51, 52, 53, 54, 55, 56, 57, 58, 59, 60, 61, 62, 63, 64, 65, 66, 67] (by decide +kernel) (by decide +kernel)
set_option maxRecDepth 20000 in
theorem gX11_now_X10_riskTogether : GoodIn wsX11_now (wsV RX11 159 RX10 yX10_riskTogether wsX10_riskTogether) := goodIn_app (goodIn_of _ (by decide +kernel)) ggX11_now_X10_riskTogether
set_option maxRecDepth 20000 in
theorem ggX11_stamp_X0_isTold : GoodIn wsX11_stamp wsX0_isTold := goodIn_r _ [9, 10, 31, 32, 33, 34, 35, 36, 37, 38, 39, 40, 41, 42] (by decide +kernel) (by decide +kernel)
set_option maxRecDepth 20000 in
theorem gX11_stamp_X0_isTold : GoodIn wsX11_stamp (wsV RX11 146 RX0 yX0_isTold wsX0_isTold) := goodIn_app (goodIn_of _ (by decide +kernel)) ggX11_stamp_X0_isTold
set_option maxRecDepth 20000 in
theorem ggX11_lies_X0_isTold : GoodIn wsX11_lies wsX0_isTold := goodIn_r _ [7, 8, 27, 28, 29, 30, 31, 32, 33, 34, 35, 36, 37, 38] (by decide +kernel) (by decide +kernel)
set_option maxRecDepth 20000 in
theorem gX11_lies_X0_isTold : GoodIn wsX11_lies (wsV RX11 146 RX0 yX0_isTold wsX0_isTold) := goodIn_app (goodIn_of _ (by decide +kernel)) ggX11_lies_X0_isTold
set_option maxRecDepth 20000 in
theorem ggX11_lies_X10_countLies : GoodIn wsX11_lies wsX10_countLies := goodIn_r _ [13, 14, 15, 39, 40, 41, 42, 43, 44, 45, 46, 47] (by decide +kernel) (by decide +kernel)
set_option maxRecDepth 20000 in
theorem gX11_lies_X10_countLies : GoodIn wsX11_lies (wsV RX11 166 RX10 yX10_countLies wsX10_countLies) := goodIn_app (goodIn_of _ (by decide +kernel)) ggX11_lies_X10_countLies
set_option maxRecDepth 20000 in
theorem ggX11_why_X0_hasCrossing : GoodIn wsX11_why wsX0_hasCrossing := goodIn_r _ [7, 8, 9, 10, 6, 11, 12, 13, 14, 15, 16, 17, 18, 19, 20, 21, 74, 75, 76, 77, 78, 79, 80, 81, 82, 83, 84, 85] (by decide +kernel) (by decide +kernel)
set_option maxRecDepth 20000 in
theorem gX11_why_X0_hasCrossing : GoodIn wsX11_why (wsV RX11 170 RX0 yX0_hasCrossing wsX0_hasCrossing) := goodIn_app (goodIn_of _ (by decide +kernel)) ggX11_why_X0_hasCrossing
set_option maxRecDepth 20000 in
theorem ggX11_why_X10_hindrance : GoodIn wsX11_why wsX10_hindrance := goodIn_r _ [26, 27, 28, 29, 30, 31, 32, 33, 34, 35, 6, 36, 12, 37, 38, 25, 39, 40, 41, 42, 43, 44, 45, 46, 47, 48, 49, 50, 51, 52, 53, 54, 55, 56, 57, 58, 59, 60, 61, 62, 86, 87, 88, 89, 90, 91, 92, 93, 94, 74, 75, 76, 77, 78, 79, 80, 81, 82, 83, 84, 85] (by decide +kernel) (by decide +kernel)
set_option maxRecDepth 20000 in
theorem gX11_why_X10_hindrance : GoodIn wsX11_why (wsV RX11 174 RX10 yX10_hindrance wsX10_hindrance) := goodIn_app (goodIn_of _ (by decide +kernel)) ggX11_why_X10_hindrance
set_option maxRecDepth 20000 in
theorem ggX11_cross_X0_hasCrossing : GoodIn wsX11_cross wsX0_hasCrossing := goodIn_r _ [9, 10, 11, 12, 8, 13, 14, 15, 16, 17, 18, 19, 20, 21, 22, 23, 106, 107, 108, 109, 110, 111, 112, 113, 114, 115, 116, 117] (by decide +kernel) (by decide +kernel)
set_option maxRecDepth 20000 in
theorem gX11_cross_X0_hasCrossing : GoodIn wsX11_cross (wsV RX11 170 RX0 yX0_hasCrossing wsX0_hasCrossing) := goodIn_app (goodIn_of _ (by decide +kernel)) ggX11_cross_X0_hasCrossing
set_option maxRecDepth 20000 in
theorem ggX11_cross_X10_hindrance : GoodIn wsX11_cross wsX10_hindrance := goodIn_r _ [28, 29, 30, 31, 32, 33, 34, 35, 36, 37, 8, 38, 14, 39, 40, 27, 41, 42, 43, 44, 45, 46, 47, 48, 49, 50, 51, 52, 53, 54, 55, 56, 57, 58, 59, 60, 61, 62, 63, 64, 97, 98, 99, 100, 101, 102, 103, 104, 105, 106, 107, 108, 109, 110, 111, 112, 113, 114, 115, 116, 117] (by decide +kernel) (by decide +kernel)
set_option maxRecDepth 20000 in
theorem gX11_cross_X10_hindrance : GoodIn wsX11_cross (wsV RX11 174 RX10 yX10_hindrance wsX10_hindrance) := goodIn_app (goodIn_of _ (by decide +kernel)) ggX11_cross_X10_hindrance
set_option maxRecDepth 20000 in
theorem ggX11_cross_X10_pass : GoodIn wsX11_cross wsX10_pass := goodIn_r _ [68, 69, 70, 29, 33, 30, 71, 72, 73, 32, 74, 75, 8, 76, 77, 78, 79, 27, 80, 81, 82, 83, 84, 63, 85, 97, 98, 99, 100, 101, 102, 103, 104, 105, 106, 107, 108, 109, 110, 111, 112, 113, 114, 115, 116, 117] (by decide +kernel) (by decide +kernel)
set_option maxRecDepth 20000 in
theorem gX11_cross_X10_pass : GoodIn wsX11_cross (wsV RX11 181 RX10 yX10_pass wsX10_pass) := goodIn_app (goodIn_of _ (by decide +kernel)) ggX11_cross_X10_pass
set_option maxRecDepth 20000 in
theorem ggX11_loaf_X0_isTold : GoodIn wsX11_loaf wsX0_isTold := goodIn_r _ [9, 10, 45, 46, 47, 48, 49, 50, 51, 52, 53, 54, 55, 56] (by decide +kernel) (by decide +kernel)
set_option maxRecDepth 20000 in
theorem gX11_loaf_X0_isTold : GoodIn wsX11_loaf (wsV RX11 146 RX0 yX0_isTold wsX0_isTold) := goodIn_app (goodIn_of _ (by decide +kernel)) ggX11_loaf_X0_isTold
set_option maxRecDepth 20000 in
theorem ggX11_loaf_X10_send : GoodIn wsX11_loaf wsX10_send := goodIn_r _ [15, 16, 17, 18, 19, 20, 21, 14, 22, 23, 24, 36, 37, 38, 39, 40, 41, 42, 43, 44, 45, 46, 47, 48, 49, 50, 51, 52, 53, 54, 55, 56] (by decide +kernel) (by decide +kernel)
set_option maxRecDepth 20000 in
theorem gX11_loaf_X10_send : GoodIn wsX11_loaf (wsV RX11 185 RX10 yX10_send wsX10_send) := goodIn_app (goodIn_of _ (by decide +kernel)) ggX11_loaf_X10_send
set_option maxRecDepth 20000 in
theorem ggX11_undo_X0_isTold : GoodIn wsX11_undo wsX0_isTold := goodIn_r _ [8, 9, 123, 124, 125, 126, 127, 128, 129, 130, 131, 132, 133, 134] (by decide +kernel) (by decide +kernel)
set_option maxRecDepth 20000 in
theorem gX11_undo_X0_isTold : GoodIn wsX11_undo (wsV RX11 146 RX0 yX0_isTold wsX0_isTold) := goodIn_app (goodIn_of _ (by decide +kernel)) ggX11_undo_X0_isTold
set_option maxRecDepth 20000 in
theorem ggX11_undo_X10_replay : GoodIn wsX11_undo wsX10_replay := goodIn_r _ [14, 15, 16, 17, 18, 13, 19, 20, 21, 22, 23, 24, 25, 26, 27, 28, 29, 30, 31, 32, 33, 34, 35, 36, 37, 38, 39, 40, 41, 42, 43, 44, 45, 7, 46, 47, 48, 49, 50, 51, 52, 53, 54, 55, 56, 57, 58, 59, 60, 61, 62, 63, 64, 65, 66, 67, 68, 69, 70, 71, 72, 73, 74, 75, 76, 77, 78, 79, 80, 81, 82, 83, 84, 85, 86, 87, 88, 89, 90, 91, 92, 93, 94, 95, 96, 97, 98, 99, 100, 101, 102, 114, 115, 116, 117, 118, 119, 120, 121, 122, 123, 124, 125, 126, 127, 128, 129, 130, 131, 132, 133, 134] (by decide +kernel) (by decide +kernel)
set_option maxRecDepth 20000 in
theorem gX11_undo_X10_replay : GoodIn wsX11_undo (wsV RX11 188 RX10 yX10_replay wsX10_replay) := goodIn_app (goodIn_of _ (by decide +kernel)) ggX11_undo_X10_replay
set_option maxRecDepth 20000 in
theorem ggX11_anew_X0_isTold : GoodIn wsX11_anew wsX0_isTold := goodIn_r _ [8, 9, 46, 47, 48, 49, 50, 51, 52, 53, 54, 55, 56, 57] (by decide +kernel) (by decide +kernel)
set_option maxRecDepth 20000 in
theorem gX11_anew_X0_isTold : GoodIn wsX11_anew (wsV RX11 146 RX0 yX0_isTold wsX0_isTold) := goodIn_app (goodIn_of _ (by decide +kernel)) ggX11_anew_X0_isTold
set_option maxRecDepth 20000 in
theorem ggX11_anew_X10_restart : GoodIn wsX11_anew wsX10_restart := goodIn_r _ [14, 15, 16, 17, 18, 19, 20, 21, 22, 23, 24, 25, 37, 38, 39, 40, 41, 42, 43, 44, 45] (by decide +kernel) (by decide +kernel)
set_option maxRecDepth 20000 in
theorem gX11_anew_X10_restart : GoodIn wsX11_anew (wsV RX11 89 RX10 yX10_restart wsX10_restart) := goodIn_app (goodIn_of _ (by decide +kernel)) ggX11_anew_X10_restart
set_option maxRecDepth 20000 in
theorem ggX11_act_X0_isTold : GoodIn wsX11_act wsX0_isTold := goodIn_r _ [9, 10, 31, 32, 33, 34, 35, 36, 37, 38, 39, 40, 41, 42] (by decide +kernel) (by decide +kernel)
set_option maxRecDepth 20000 in
theorem gX11_act_X0_isTold : GoodIn wsX11_act (wsV RX11 146 RX0 yX0_isTold wsX0_isTold) := goodIn_app (goodIn_of _ (by decide +kernel)) ggX11_act_X0_isTold
set_option maxRecDepth 20000 in
theorem ggX11_acts_X0_isTold : GoodIn wsX11_acts wsX0_isTold := goodIn_r _ [7, 8, 55, 56, 57, 58, 59, 60, 61, 62, 63, 64, 65, 66] (by decide +kernel) (by decide +kernel)
set_option maxRecDepth 20000 in
theorem gX11_acts_X0_isTold : GoodIn wsX11_acts (wsV RX11 146 RX0 yX0_isTold wsX0_isTold) := goodIn_app (goodIn_of _ (by decide +kernel)) ggX11_acts_X0_isTold
set_option maxRecDepth 20000 in
theorem ggX11_acts_X7_countOptions : GoodIn wsX11_acts wsX7_countOptions := goodIn_r _ [13, 14, 15, 16, 17, 18, 19, 20, 21, 22, 23, 24, 25, 26, 27, 28, 29, 30, 31, 32, 33, 34, 35, 36, 37, 38, 39, 40, 41, 42, 6, 43, 67, 68, 69, 70, 71, 72, 73, 74, 75, 76, 77, 78, 79, 80, 81, 82, 83, 84, 85, 86, 87, 88, 89, 90, 91, 92, 93, 94, 95, 96, 97, 98, 99, 100, 101, 102, 103, 104] (by decide +kernel) (by decide +kernel)
set_option maxRecDepth 20000 in
theorem gX11_acts_X7_countOptions : GoodIn wsX11_acts (wsV RX11 195 RX7 yX7_countOptions wsX7_countOptions) := goodIn_app (goodIn_of _ (by decide +kernel)) ggX11_acts_X7_countOptions
set_option maxRecDepth 20000 in
theorem ggX11_may_X0_isTold : GoodIn wsX11_may wsX0_isTold := goodIn_r _ [7, 8, 60, 61, 62, 63, 64, 65, 66, 67, 68, 69, 70, 71] (by decide +kernel) (by decide +kernel)
set_option maxRecDepth 20000 in
theorem gX11_may_X0_isTold : GoodIn wsX11_may (wsV RX11 146 RX0 yX0_isTold wsX0_isTold) := goodIn_app (goodIn_of _ (by decide +kernel)) ggX11_may_X0_isTold
set_option maxRecDepth 20000 in
theorem ggX11_may_X7_option : GoodIn wsX11_may wsX7_option := goodIn_r _ [13, 14, 15, 16, 17, 18, 12, 19, 20, 21, 22, 23, 24, 25, 26, 27, 28, 29, 30, 31, 32, 33, 34, 35, 36, 37, 38, 39, 40, 41, 42, 43, 44, 45, 46, 47, 6, 48, 72, 73, 74, 75, 76, 77, 78, 79, 80, 81, 82, 83, 84, 85, 86, 87, 88, 89, 90, 91, 92, 93, 94, 95, 96, 97, 98, 99, 100, 101, 102, 103, 104, 105, 106, 107, 108, 109] (by decide +kernel) (by decide +kernel)
set_option maxRecDepth 20000 in
theorem gX11_may_X7_option : GoodIn wsX11_may (wsV RX11 198 RX7 yX7_option wsX7_option) := goodIn_app (goodIn_of _ (by decide +kernel)) ggX11_may_X7_option
set_option maxRecDepth 20000 in
theorem ggX11_days_X0_isTold : GoodIn wsX11_days wsX0_isTold := goodIn_r _ [8, 9, 198, 199, 200, 201, 202, 203, 204, 205, 206, 207, 208, 209] (by decide +kernel) (by decide +kernel)
set_option maxRecDepth 20000 in
theorem gX11_days_X0_isTold : GoodIn wsX11_days (wsV RX11 146 RX0 yX0_isTold wsX0_isTold) := goodIn_app (goodIn_of _ (by decide +kernel)) ggX11_days_X0_isTold
set_option maxRecDepth 20000 in
theorem ggX11_days_X7_canCome : GoodIn wsX11_days wsX7_canCome := goodIn_r _ [14, 15, 16, 17, 18, 13, 19, 20, 21, 22, 23, 24, 25, 26, 27, 28, 29, 30, 31, 32, 33, 34, 35, 36, 37, 38, 39, 40, 41, 42, 43, 44, 45, 46, 47, 48, 49, 50, 51, 52, 53, 54, 55, 56, 57, 58, 59, 60, 61, 7, 62, 63, 64, 65, 66, 67, 68, 69, 70, 71, 72, 73, 74, 75, 76, 77, 78, 79, 80, 81, 82, 83, 84, 85, 86, 87, 88, 89, 90, 91, 92, 93, 94, 95, 96, 97, 98, 99, 100, 101, 102, 103, 104, 105, 106, 107, 108, 109, 110, 111, 112, 113, 114, 115, 116, 117, 118, 119, 120, 121, 122, 123, 124, 125, 126, 127, 128, 129, 130, 131, 132, 133, 134, 135, 136, 137, 138, 139, 140, 141, 142, 143, 144, 145, 146, 147, 148, 149, 150, 151, 152, 153, 154, 155, 156, 157, 158, 159, 160, 181, 182, 183, 184, 185, 186, 187, 188, 189, 190, 191, 192, 193, 194, 195, 196, 197, 210, 211, 212, 213, 214, 215, 216, 217, 218, 219, 220, 221, 222, 223, 224, 225, 226, 227, 228, 229, 230, 231, 232, 233, 234, 235, 236, 237, 238, 239, 240, 198, 199, 200, 201, 202, 203, 204, 205, 206, 207, 208, 209] (by decide +kernel) (by decide +kernel)
set_option maxRecDepth 20000 in
theorem gX11_days_X7_canCome : GoodIn wsX11_days (wsV RX11 202 RX7 yX7_canCome wsX7_canCome) := goodIn_app (goodIn_of _ (by decide +kernel)) ggX11_days_X7_canCome
set_option maxRecDepth 20000 in
theorem ggX11_days_X7_least : GoodIn wsX11_days wsX7_least := goodIn_r _ [164, 16, 17, 18, 13, 19, 20, 21, 22, 23, 24, 25, 26, 27, 28, 29, 30, 31, 32, 33, 34, 35, 36, 37, 38, 39, 40, 41, 42, 43, 44, 45, 46, 47, 48, 49, 50, 51, 52, 53, 54, 55, 56, 57, 58, 59, 60, 61, 7, 62, 63, 64, 65, 66, 67, 68, 69, 70, 71, 72, 73, 74, 75, 76, 77, 78, 79, 80, 81, 82, 83, 84, 85, 86, 87, 88, 89, 90, 91, 92, 93, 94, 95, 96, 97, 98, 99, 100, 101, 102, 103, 104, 105, 106, 107, 108, 109, 110, 111, 112, 113, 114, 115, 116, 117, 118, 119, 120, 121, 122, 123, 124, 125, 126, 127, 128, 129, 130, 131, 132, 133, 134, 135, 136, 137, 138, 139, 140, 141, 142, 143, 144, 145, 146, 147, 148, 149, 150, 151, 152, 153, 154, 165, 166, 167, 168, 159, 169, 181, 182, 183, 184, 185, 186, 187, 188, 189, 190, 191, 192, 193, 194, 195, 196, 197, 210, 211, 212, 213, 214, 215, 216, 217, 218, 219, 220, 221, 222, 223, 224, 225, 226, 227, 228, 229, 230, 231, 232, 233, 234, 235, 236, 237, 238, 239, 240, 198, 199, 200, 201, 202, 203, 204, 205, 206, 207, 208, 209] (by decide +kernel) (by decide +kernel)
set_option maxRecDepth 20000 in
theorem gX11_days_X7_least : GoodIn wsX11_days (wsV RX11 209 RX7 yX7_least wsX7_least) := goodIn_app (goodIn_of _ (by decide +kernel)) ggX11_days_X7_least
set_option maxRecDepth 20000 in
theorem ggX11_plan_X0_isTold : GoodIn wsX11_plan wsX0_isTold := goodIn_r _ [8, 9, 210, 211, 212, 213, 214, 215, 216, 217, 218, 219, 220, 221] (by decide +kernel) (by decide +kernel)
set_option maxRecDepth 20000 in
theorem gX11_plan_X0_isTold : GoodIn wsX11_plan (wsV RX11 146 RX0 yX0_isTold wsX0_isTold) := goodIn_app (goodIn_of _ (by decide +kernel)) ggX11_plan_X0_isTold
set_option maxRecDepth 20000 in
theorem ggX11_plan_X7_actOfRow : GoodIn wsX11_plan wsX7_actOfRow := goodIn_r _ [14, 15, 16, 17, 13, 18, 19, 20, 21, 22, 23, 24, 25, 26, 27, 28, 29, 30, 31, 32, 33, 34, 35, 36, 37, 38, 39, 40, 41, 42, 43, 44, 45, 46, 47, 48, 49, 50, 51, 52, 53, 54, 55, 56, 57, 58, 59, 60, 61, 62, 63, 64, 65, 7, 66, 67, 68, 69, 70, 71, 72, 73, 74, 75, 76, 77, 78, 79, 80, 81, 82, 83, 84, 85, 86, 87, 88, 89, 90, 91, 92, 93, 94, 95, 96, 97, 98, 99, 100, 101, 102, 103, 104, 105, 106, 107, 108, 109, 110, 111, 112, 113, 114, 115, 116, 117, 118, 119, 120, 121, 122, 123, 124, 125, 126, 127, 128, 129, 130, 131, 132, 133, 134, 135, 136, 137, 138, 139, 140, 141, 142, 143, 144, 145, 146, 147, 148, 149, 150, 151, 152, 153, 154, 155, 156, 157, 158, 159, 160, 161, 162, 163, 164, 165, 166, 167, 168, 169, 170, 171, 172, 173, 174, 175, 176, 177, 178, 179, 180, 181, 193, 194, 195, 196, 197, 198, 199, 200, 201, 202, 203, 204, 205, 206, 207, 208, 209, 222, 223, 224, 225, 226, 227, 228, 229, 230, 231, 232, 233, 234, 235, 236, 237, 238, 239, 240, 241, 242, 243, 244, 245, 246, 247, 248, 249, 250, 251, 252, 210, 211, 212, 213, 214, 215, 216, 217, 218, 219, 220, 221, 253, 254, 255] (by decide +kernel) (by decide +kernel)
set_option maxRecDepth 20000 in
theorem gX11_plan_X7_actOfRow : GoodIn wsX11_plan (wsV RX11 213 RX7 yX7_actOfRow wsX7_actOfRow) := goodIn_app (goodIn_of _ (by decide +kernel)) ggX11_plan_X7_actOfRow
set_option maxRecDepth 20000 in
theorem ggX11_surest_X0_isTold : GoodIn wsX11_surest wsX0_isTold := goodIn_r _ [8, 9, 197, 198, 199, 200, 201, 202, 203, 204, 205, 206, 207, 208] (by decide +kernel) (by decide +kernel)
set_option maxRecDepth 20000 in
theorem gX11_surest_X0_isTold : GoodIn wsX11_surest (wsV RX11 146 RX0 yX0_isTold wsX0_isTold) := goodIn_app (goodIn_of _ (by decide +kernel)) ggX11_surest_X0_isTold
set_option maxRecDepth 20000 in
theorem ggX11_surest_X7_canCome : GoodIn wsX11_surest wsX7_canCome := goodIn_r _ [14, 15, 16, 17, 18, 13, 19, 20, 21, 22, 23, 24, 25, 26, 27, 28, 29, 30, 31, 32, 33, 34, 35, 36, 37, 38, 39, 40, 41, 42, 43, 44, 45, 46, 47, 48, 49, 50, 51, 52, 53, 54, 55, 56, 57, 58, 59, 60, 61, 7, 62, 63, 64, 65, 66, 67, 68, 69, 70, 71, 72, 73, 74, 75, 76, 77, 78, 79, 80, 81, 82, 83, 84, 85, 86, 87, 88, 89, 90, 91, 92, 93, 94, 95, 96, 97, 98, 99, 100, 101, 102, 103, 104, 105, 106, 107, 108, 109, 110, 111, 112, 113, 114, 115, 116, 117, 118, 119, 120, 121, 122, 123, 124, 125, 126, 127, 128, 129, 130, 131, 132, 133, 134, 135, 136, 137, 138, 139, 140, 141, 142, 143, 144, 145, 146, 147, 148, 149, 150, 151, 152, 153, 154, 155, 156, 157, 158, 159, 160, 180, 181, 182, 183, 184, 185, 186, 187, 188, 189, 190, 191, 192, 193, 194, 195, 196, 209, 210, 211, 212, 213, 214, 215, 216, 217, 218, 219, 220, 221, 222, 223, 224, 225, 226, 227, 228, 229, 230, 231, 232, 233, 234, 235, 236, 237, 238, 239, 197, 198, 199, 200, 201, 202, 203, 204, 205, 206, 207, 208] (by decide +kernel) (by decide +kernel)
set_option maxRecDepth 20000 in
theorem gX11_surest_X7_canCome : GoodIn wsX11_surest (wsV RX11 202 RX7 yX7_canCome wsX7_canCome) := goodIn_app (goodIn_of _ (by decide +kernel)) ggX11_surest_X7_canCome
set_option maxRecDepth 20000 in
theorem ggX11_surest_X7_leastAbove : GoodIn wsX11_surest wsX7_leastAbove := goodIn_r _ [164, 16, 17, 18, 13, 19, 20, 21, 22, 23, 24, 25, 26, 27, 28, 29, 30, 31, 32, 33, 34, 35, 36, 37, 38, 39, 40, 41, 42, 43, 44, 45, 46, 47, 48, 49, 50, 51, 52, 53, 54, 55, 56, 57, 58, 59, 60, 61, 7, 62, 63, 64, 65, 66, 67, 68, 69, 70, 71, 72, 73, 74, 75, 76, 77, 78, 79, 80, 81, 82, 83, 84, 85, 86, 87, 88, 89, 90, 91, 92, 93, 94, 95, 96, 97, 98, 99, 100, 101, 102, 103, 104, 105, 106, 107, 108, 109, 110, 111, 112, 113, 114, 115, 116, 117, 118, 119, 120, 121, 122, 123, 124, 125, 126, 127, 128, 129, 130, 131, 132, 133, 134, 135, 136, 137, 138, 139, 140, 141, 142, 143, 144, 145, 146, 147, 148, 149, 150, 151, 152, 153, 154, 165, 166, 167, 168, 159, 180, 181, 182, 183, 184, 185, 186, 187, 188, 189, 190, 191, 192, 193, 194, 195, 196, 209, 210, 211, 212, 213, 214, 215, 216, 217, 218, 219, 220, 221, 222, 223, 224, 225, 226, 227, 228, 229, 230, 231, 232, 233, 234, 235, 236, 237, 238, 239, 197, 198, 199, 200, 201, 202, 203, 204, 205, 206, 207, 208] (by decide +kernel) (by decide +kernel)
set_option maxRecDepth 20000 in
theorem gX11_surest_X7_leastAbove : GoodIn wsX11_surest (wsV RX11 220 RX7 yX7_leastAbove wsX7_leastAbove) := goodIn_app (goodIn_of _ (by decide +kernel)) ggX11_surest_X7_leastAbove
set_option maxRecDepth 20000 in
theorem ggX11_surely_X0_isTold : GoodIn wsX11_surely wsX0_isTold := goodIn_r _ [8, 9, 210, 211, 212, 213, 214, 215, 216, 217, 218, 219, 220, 221] (by decide +kernel) (by decide +kernel)
set_option maxRecDepth 20000 in
theorem gX11_surely_X0_isTold : GoodIn wsX11_surely (wsV RX11 146 RX0 yX0_isTold wsX0_isTold) := goodIn_app (goodIn_of _ (by decide +kernel)) ggX11_surely_X0_isTold
set_option maxRecDepth 20000 in
theorem ggX11_surely_X7_actOfRow : GoodIn wsX11_surely wsX7_actOfRow := goodIn_r _ [14, 15, 16, 17, 13, 18, 19, 20, 21, 22, 23, 24, 25, 26, 27, 28, 29, 30, 31, 32, 33, 34, 35, 36, 37, 38, 39, 40, 41, 42, 43, 44, 45, 46, 47, 48, 49, 50, 51, 52, 53, 54, 55, 56, 57, 58, 59, 60, 61, 62, 63, 64, 65, 7, 66, 67, 68, 69, 70, 71, 72, 73, 74, 75, 76, 77, 78, 79, 80, 81, 82, 83, 84, 85, 86, 87, 88, 89, 90, 91, 92, 93, 94, 95, 96, 97, 98, 99, 100, 101, 102, 103, 104, 105, 106, 107, 108, 109, 110, 111, 112, 113, 114, 115, 116, 117, 118, 119, 120, 121, 122, 123, 124, 125, 126, 127, 128, 129, 130, 131, 132, 133, 134, 135, 136, 137, 138, 139, 140, 141, 142, 143, 144, 145, 146, 147, 148, 149, 150, 151, 152, 153, 154, 155, 156, 157, 158, 159, 160, 161, 162, 163, 164, 165, 166, 167, 168, 169, 170, 171, 172, 173, 174, 175, 176, 177, 178, 179, 180, 181, 193, 194, 195, 196, 197, 198, 199, 200, 201, 202, 203, 204, 205, 206, 207, 208, 209, 222, 223, 224, 225, 226, 227, 228, 229, 230, 231, 232, 233, 234, 235, 236, 237, 238, 239, 240, 241, 242, 243, 244, 245, 246, 247, 248, 249, 250, 251, 252, 210, 211, 212, 213, 214, 215, 216, 217, 218, 219, 220, 221, 253, 254, 255] (by decide +kernel) (by decide +kernel)
set_option maxRecDepth 20000 in
theorem gX11_surely_X7_actOfRow : GoodIn wsX11_surely (wsV RX11 213 RX7 yX7_actOfRow wsX7_actOfRow) := goodIn_app (goodIn_of _ (by decide +kernel)) ggX11_surely_X7_actOfRow
set_option maxRecDepth 20000 in
theorem ggX11_slowly_X0_isTold : GoodIn wsX11_slowly wsX0_isTold := goodIn_r _ [8, 9, 198, 199, 200, 201, 202, 203, 204, 205, 206, 207, 208, 209] (by decide +kernel) (by decide +kernel)
set_option maxRecDepth 20000 in
theorem gX11_slowly_X0_isTold : GoodIn wsX11_slowly (wsV RX11 146 RX0 yX0_isTold wsX0_isTold) := goodIn_app (goodIn_of _ (by decide +kernel)) ggX11_slowly_X0_isTold
set_option maxRecDepth 20000 in
theorem ggX11_slowly_X7_canCome : GoodIn wsX11_slowly wsX7_canCome := goodIn_r _ [14, 15, 16, 17, 18, 13, 19, 20, 21, 22, 23, 24, 25, 26, 27, 28, 29, 30, 31, 32, 33, 34, 35, 36, 37, 38, 39, 40, 41, 42, 43, 44, 45, 46, 47, 48, 49, 50, 51, 52, 53, 54, 55, 56, 57, 58, 59, 60, 61, 7, 62, 63, 64, 65, 66, 67, 68, 69, 70, 71, 72, 73, 74, 75, 76, 77, 78, 79, 80, 81, 82, 83, 84, 85, 86, 87, 88, 89, 90, 91, 92, 93, 94, 95, 96, 97, 98, 99, 100, 101, 102, 103, 104, 105, 106, 107, 108, 109, 110, 111, 112, 113, 114, 115, 116, 117, 118, 119, 120, 121, 122, 123, 124, 125, 126, 127, 128, 129, 130, 131, 132, 133, 134, 135, 136, 137, 138, 139, 140, 141, 142, 143, 144, 145, 146, 147, 148, 149, 150, 151, 152, 153, 154, 155, 156, 157, 158, 159, 160, 181, 182, 183, 184, 185, 186, 187, 188, 189, 190, 191, 192, 193, 194, 195, 196, 197, 210, 211, 212, 213, 214, 215, 216, 217, 218, 219, 220, 221, 222, 223, 224, 225, 226, 227, 228, 229, 230, 231, 232, 233, 234, 235, 236, 237, 238, 239, 240, 198, 199, 200, 201, 202, 203, 204, 205, 206, 207, 208, 209] (by decide +kernel) (by decide +kernel)
set_option maxRecDepth 20000 in
theorem gX11_slowly_X7_canCome : GoodIn wsX11_slowly (wsV RX11 202 RX7 yX7_canCome wsX7_canCome) := goodIn_app (goodIn_of _ (by decide +kernel)) ggX11_slowly_X7_canCome
set_option maxRecDepth 20000 in
theorem ggX11_slowly_X7_least : GoodIn wsX11_slowly wsX7_least := goodIn_r _ [164, 16, 17, 18, 13, 19, 20, 21, 22, 23, 24, 25, 26, 27, 28, 29, 30, 31, 32, 33, 34, 35, 36, 37, 38, 39, 40, 41, 42, 43, 44, 45, 46, 47, 48, 49, 50, 51, 52, 53, 54, 55, 56, 57, 58, 59, 60, 61, 7, 62, 63, 64, 65, 66, 67, 68, 69, 70, 71, 72, 73, 74, 75, 76, 77, 78, 79, 80, 81, 82, 83, 84, 85, 86, 87, 88, 89, 90, 91, 92, 93, 94, 95, 96, 97, 98, 99, 100, 101, 102, 103, 104, 105, 106, 107, 108, 109, 110, 111, 112, 113, 114, 115, 116, 117, 118, 119, 120, 121, 122, 123, 124, 125, 126, 127, 128, 129, 130, 131, 132, 133, 134, 135, 136, 137, 138, 139, 140, 141, 142, 143, 144, 145, 146, 147, 148, 149, 150, 151, 152, 153, 154, 165, 166, 167, 168, 159, 169, 181, 182, 183, 184, 185, 186, 187, 188, 189, 190, 191, 192, 193, 194, 195, 196, 197, 210, 211, 212, 213, 214, 215, 216, 217, 218, 219, 220, 221, 222, 223, 224, 225, 226, 227, 228, 229, 230, 231, 232, 233, 234, 235, 236, 237, 238, 239, 240, 198, 199, 200, 201, 202, 203, 204, 205, 206, 207, 208, 209] (by decide +kernel) (by decide +kernel)
set_option maxRecDepth 20000 in
theorem gX11_slowly_X7_least : GoodIn wsX11_slowly (wsV RX11 209 RX7 yX7_least wsX7_least) := goodIn_app (goodIn_of _ (by decide +kernel)) ggX11_slowly_X7_least
set_option maxRecDepth 20000 in
theorem ggX11_crossings_X0_isTold : GoodIn wsX11_crossings wsX0_isTold := goodIn_r _ [8, 9, 197, 198, 199, 200, 201, 202, 203, 204, 205, 206, 207, 208] (by decide +kernel) (by decide +kernel)
set_option maxRecDepth 20000 in
theorem gX11_crossings_X0_isTold : GoodIn wsX11_crossings (wsV RX11 146 RX0 yX0_isTold wsX0_isTold) := goodIn_app (goodIn_of _ (by decide +kernel)) ggX11_crossings_X0_isTold
set_option maxRecDepth 20000 in
theorem ggX11_crossings_X7_canCome : GoodIn wsX11_crossings wsX7_canCome := goodIn_r _ [14, 15, 16, 17, 18, 13, 19, 20, 21, 22, 23, 24, 25, 26, 27, 28, 29, 30, 31, 32, 33, 34, 35, 36, 37, 38, 39, 40, 41, 42, 43, 44, 45, 46, 47, 48, 49, 50, 51, 52, 53, 54, 55, 56, 57, 58, 59, 60, 61, 7, 62, 63, 64, 65, 66, 67, 68, 69, 70, 71, 72, 73, 74, 75, 76, 77, 78, 79, 80, 81, 82, 83, 84, 85, 86, 87, 88, 89, 90, 91, 92, 93, 94, 95, 96, 97, 98, 99, 100, 101, 102, 103, 104, 105, 106, 107, 108, 109, 110, 111, 112, 113, 114, 115, 116, 117, 118, 119, 120, 121, 122, 123, 124, 125, 126, 127, 128, 129, 130, 131, 132, 133, 134, 135, 136, 137, 138, 139, 140, 141, 142, 143, 144, 145, 146, 147, 148, 149, 150, 151, 152, 153, 154, 155, 156, 157, 158, 159, 160, 180, 181, 182, 183, 184, 185, 186, 187, 188, 189, 190, 191, 192, 193, 194, 195, 196, 209, 210, 211, 212, 213, 214, 215, 216, 217, 218, 219, 220, 221, 222, 223, 224, 225, 226, 227, 228, 229, 230, 231, 232, 233, 234, 235, 236, 237, 238, 239, 197, 198, 199, 200, 201, 202, 203, 204, 205, 206, 207, 208] (by decide +kernel) (by decide +kernel)
set_option maxRecDepth 20000 in
theorem gX11_crossings_X7_canCome : GoodIn wsX11_crossings (wsV RX11 202 RX7 yX7_canCome wsX7_canCome) := goodIn_app (goodIn_of _ (by decide +kernel)) ggX11_crossings_X7_canCome
set_option maxRecDepth 20000 in
theorem ggX11_crossings_X7_leastAbove : GoodIn wsX11_crossings wsX7_leastAbove := goodIn_r _ [164, 16, 17, 18, 13, 19, 20, 21, 22, 23, 24, 25, 26, 27, 28, 29, 30, 31, 32, 33, 34, 35, 36, 37, 38, 39, 40, 41, 42, 43, 44, 45, 46, 47, 48, 49, 50, 51, 52, 53, 54, 55, 56, 57, 58, 59, 60, 61, 7, 62, 63, 64, 65, 66, 67, 68, 69, 70, 71, 72, 73, 74, 75, 76, 77, 78, 79, 80, 81, 82, 83, 84, 85, 86, 87, 88, 89, 90, 91, 92, 93, 94, 95, 96, 97, 98, 99, 100, 101, 102, 103, 104, 105, 106, 107, 108, 109, 110, 111, 112, 113, 114, 115, 116, 117, 118, 119, 120, 121, 122, 123, 124, 125, 126, 127, 128, 129, 130, 131, 132, 133, 134, 135, 136, 137, 138, 139, 140, 141, 142, 143, 144, 145, 146, 147, 148, 149, 150, 151, 152, 153, 154, 165, 166, 167, 168, 159, 180, 181, 182, 183, 184, 185, 186, 187, 188, 189, 190, 191, 192, 193, 194, 195, 196, 209, 210, 211, 212, 213, 214, 215, 216, 217, 218, 219, 220, 221, 222, 223, 224, 225, 226, 227, 228, 229, 230, 231, 232, 233, 234, 235, 236, 237, 238, 239, 197, 198, 199, 200, 201, 202, 203, 204, 205, 206, 207, 208] (by decide +kernel) (by decide +kernel)
set_option maxRecDepth 20000 in
theorem gX11_crossings_X7_leastAbove : GoodIn wsX11_crossings (wsV RX11 220 RX7 yX7_leastAbove wsX7_leastAbove) := goodIn_app (goodIn_of _ (by decide +kernel)) ggX11_crossings_X7_leastAbove
set_option maxRecDepth 20000 in
theorem ggX11_moves_X0_isTold : GoodIn wsX11_moves wsX0_isTold := goodIn_r _ [8, 9, 198, 199, 200, 201, 202, 203, 204, 205, 206, 207, 208, 209] (by decide +kernel) (by decide +kernel)
set_option maxRecDepth 20000 in
theorem gX11_moves_X0_isTold : GoodIn wsX11_moves (wsV RX11 146 RX0 yX0_isTold wsX0_isTold) := goodIn_app (goodIn_of _ (by decide +kernel)) ggX11_moves_X0_isTold
set_option maxRecDepth 20000 in
theorem ggX11_moves_X7_canCome : GoodIn wsX11_moves wsX7_canCome := goodIn_r _ [14, 15, 16, 17, 18, 13, 19, 20, 21, 22, 23, 24, 25, 26, 27, 28, 29, 30, 31, 32, 33, 34, 35, 36, 37, 38, 39, 40, 41, 42, 43, 44, 45, 46, 47, 48, 49, 50, 51, 52, 53, 54, 55, 56, 57, 58, 59, 60, 61, 7, 62, 63, 64, 65, 66, 67, 68, 69, 70, 71, 72, 73, 74, 75, 76, 77, 78, 79, 80, 81, 82, 83, 84, 85, 86, 87, 88, 89, 90, 91, 92, 93, 94, 95, 96, 97, 98, 99, 100, 101, 102, 103, 104, 105, 106, 107, 108, 109, 110, 111, 112, 113, 114, 115, 116, 117, 118, 119, 120, 121, 122, 123, 124, 125, 126, 127, 128, 129, 130, 131, 132, 133, 134, 135, 136, 137, 138, 139, 140, 141, 142, 143, 144, 145, 146, 147, 148, 149, 150, 151, 152, 153, 154, 155, 156, 157, 158, 159, 160, 181, 182, 183, 184, 185, 186, 187, 188, 189, 190, 191, 192, 193, 194, 195, 196, 197, 210, 211, 212, 213, 214, 215, 216, 217, 218, 219, 220, 221, 222, 223, 224, 225, 226, 227, 228, 229, 230, 231, 232, 233, 234, 235, 236, 237, 238, 239, 240, 198, 199, 200, 201, 202, 203, 204, 205, 206, 207, 208, 209] (by decide +kernel) (by decide +kernel)
set_option maxRecDepth 20000 in
theorem gX11_moves_X7_canCome : GoodIn wsX11_moves (wsV RX11 202 RX7 yX7_canCome wsX7_canCome) := goodIn_app (goodIn_of _ (by decide +kernel)) ggX11_moves_X7_canCome
set_option maxRecDepth 20000 in
theorem ggX11_moves_X7_least : GoodIn wsX11_moves wsX7_least := goodIn_r _ [164, 16, 17, 18, 13, 19, 20, 21, 22, 23, 24, 25, 26, 27, 28, 29, 30, 31, 32, 33, 34, 35, 36, 37, 38, 39, 40, 41, 42, 43, 44, 45, 46, 47, 48, 49, 50, 51, 52, 53, 54, 55, 56, 57, 58, 59, 60, 61, 7, 62, 63, 64, 65, 66, 67, 68, 69, 70, 71, 72, 73, 74, 75, 76, 77, 78, 79, 80, 81, 82, 83, 84, 85, 86, 87, 88, 89, 90, 91, 92, 93, 94, 95, 96, 97, 98, 99, 100, 101, 102, 103, 104, 105, 106, 107, 108, 109, 110, 111, 112, 113, 114, 115, 116, 117, 118, 119, 120, 121, 122, 123, 124, 125, 126, 127, 128, 129, 130, 131, 132, 133, 134, 135, 136, 137, 138, 139, 140, 141, 142, 143, 144, 145, 146, 147, 148, 149, 150, 151, 152, 153, 154, 165, 166, 167, 168, 159, 169, 181, 182, 183, 184, 185, 186, 187, 188, 189, 190, 191, 192, 193, 194, 195, 196, 197, 210, 211, 212, 213, 214, 215, 216, 217, 218, 219, 220, 221, 222, 223, 224, 225, 226, 227, 228, 229, 230, 231, 232, 233, 234, 235, 236, 237, 238, 239, 240, 198, 199, 200, 201, 202, 203, 204, 205, 206, 207, 208, 209] (by decide +kernel) (by decide +kernel)
set_option maxRecDepth 20000 in
theorem gX11_moves_X7_least : GoodIn wsX11_moves (wsV RX11 209 RX7 yX7_least wsX7_least) := goodIn_app (goodIn_of _ (by decide +kernel)) ggX11_moves_X7_least
set_option maxRecDepth 20000 in
theorem ggX11_chance_X0_isTold : GoodIn wsX11_chance wsX0_isTold := goodIn_r _ [9, 10, 218, 219, 220, 221, 222, 223, 224, 225, 226, 227, 228, 229] (by decide +kernel) (by decide +kernel)
set_option maxRecDepth 20000 in
theorem gX11_chance_X0_isTold : GoodIn wsX11_chance (wsV RX11 146 RX0 yX0_isTold wsX0_isTold) := goodIn_app (goodIn_of _ (by decide +kernel)) ggX11_chance_X0_isTold
set_option maxRecDepth 20000 in
theorem ggX11_chance_X7_canCome : GoodIn wsX11_chance wsX7_canCome := goodIn_r _ [15, 16, 17, 18, 19, 14, 20, 21, 22, 23, 24, 25, 26, 27, 28, 29, 30, 31, 32, 33, 34, 35, 36, 37, 38, 39, 40, 41, 42, 43, 44, 45, 46, 47, 48, 49, 50, 51, 52, 53, 54, 55, 56, 57, 58, 59, 60, 61, 62, 8, 63, 64, 65, 66, 67, 68, 69, 70, 71, 72, 73, 74, 75, 76, 77, 78, 79, 80, 81, 82, 83, 84, 85, 86, 87, 88, 89, 90, 91, 92, 93, 94, 95, 96, 97, 98, 99, 100, 101, 102, 103, 104, 105, 106, 107, 108, 109, 110, 111, 112, 113, 114, 115, 116, 117, 118, 119, 120, 121, 122, 123, 124, 125, 126, 127, 128, 129, 130, 131, 132, 133, 134, 135, 136, 137, 138, 139, 140, 141, 142, 143, 144, 145, 146, 147, 148, 149, 150, 151, 152, 153, 154, 155, 156, 157, 158, 159, 160, 161, 230, 231, 232, 233, 234, 235, 236, 237, 238, 239, 240, 241, 242, 243, 244, 245, 246, 247, 248, 249, 250, 251, 252, 253, 254, 255, 256, 257, 258, 259, 260, 261, 262, 263, 264, 265, 266, 267, 268, 269, 270, 271, 272, 273, 274, 275, 276, 277, 218, 219, 220, 221, 222, 223, 224, 225, 226, 227, 228, 229] (by decide +kernel) (by decide +kernel)
set_option maxRecDepth 20000 in
theorem gX11_chance_X7_canCome : GoodIn wsX11_chance (wsV RX11 202 RX7 yX7_canCome wsX7_canCome) := goodIn_app (goodIn_of _ (by decide +kernel)) ggX11_chance_X7_canCome
set_option maxRecDepth 20000 in
theorem ggX11_chance_X11_chanceOfSafest : GoodIn wsX11_chance wsX11_chanceOfSafest := goodIn_r _ [166, 3, 167, 168, 4, 1, 169, 170, 171, 172, 14, 173, 174, 17, 18, 19, 20, 21, 22, 23, 24, 25, 26, 27, 28, 29, 30, 31, 32, 33, 34, 35, 36, 37, 38, 39, 40, 41, 42, 43, 44, 45, 46, 47, 48, 49, 50, 51, 52, 53, 54, 55, 56, 57, 58, 59, 60, 61, 62, 8, 63, 64, 65, 66, 67, 68, 69, 70, 71, 72, 73, 74, 75, 76, 77, 78, 79, 80, 81, 82, 83, 84, 85, 86, 87, 88, 89, 90, 91, 92, 93, 94, 95, 96, 97, 98, 99, 100, 101, 102, 103, 104, 105, 106, 107, 108, 109, 110, 111, 112, 113, 114, 115, 116, 117, 118, 119, 120, 121, 122, 123, 124, 125, 126, 127, 128, 129, 130, 131, 132, 133, 134, 135, 136, 137, 138, 139, 140, 141, 142, 143, 144, 145, 146, 147, 148, 149, 150, 151, 152, 153, 154, 155, 175, 176, 177, 178, 179, 180, 181, 182, 183, 184, 185, 186, 187, 188, 189, 190, 191, 192, 193, 194, 195, 196, 197, 198, 199, 200, 201, 202, 203, 204, 205, 165, 206, 207, 208, 209, 210, 211, 212, 213, 214, 215, 216, 217, 230, 231, 232, 233, 234, 235, 236, 237, 238, 239, 240, 241, 242, 243, 244, 245, 246, 247, 248, 249, 250, 251, 252, 253, 254, 255, 256, 257, 258, 259, 260, 261, 262, 263, 264, 265, 266, 267, 268, 269, 270, 271, 272, 273, 274, 275, 276, 277, 218, 219, 220, 221, 222, 223, 224, 225, 226, 227, 228, 229, 278, 279, 280] (by decide +kernel) (by decide +kernel)
set_option maxRecDepth 20000 in
theorem gX11_chance_X11_chanceOfSafest : GoodIn wsX11_chance (wsV RX11 228 RX11 yX11_chanceOfSafest wsX11_chanceOfSafest) := goodIn_app (goodIn_of _ (by decide +kernel)) ggX11_chance_X11_chanceOfSafest
set_option maxRecDepth 20000 in
theorem ggX11_chanceOfSafest_X7_rowOf : GoodIn wsX11_chanceOfSafest wsX7_rowOf := goodIn_r _ [11, 12, 13, 14, 15, 10, 16, 17, 18, 19, 20, 21, 22, 23, 24, 25, 26, 27, 28, 29, 30, 31, 32, 33, 34, 35, 36, 37, 38, 39, 40, 41, 42, 43, 44, 45, 46, 47, 48, 49, 50, 51, 52, 53, 54, 55, 56, 57, 58, 59, 60, 61, 62, 63, 64, 65, 66, 67, 68, 69, 70, 71, 72, 73, 74, 75, 76, 77, 78, 79, 80, 81, 82, 83, 84, 85, 86, 87, 88, 89, 90, 91, 92, 93, 94, 95, 96, 97, 98, 99, 100, 101, 102, 103, 104, 105, 106, 107, 108, 109, 110, 111, 112, 113, 114, 115, 116, 117, 118, 119, 120, 121, 122, 123, 124, 125, 126, 127, 128, 129, 130, 131, 132, 133, 134, 135, 136, 137, 138, 139, 140, 141, 142, 143, 144, 145, 146, 147, 148, 149, 150, 151, 152, 153, 154, 155, 156, 157, 158, 159, 197, 198, 199, 200, 201, 202, 203, 204, 205, 206, 207, 208, 209, 210, 211, 212, 213, 214, 215, 216, 217, 218, 219, 220, 221, 222, 223, 224, 225, 226, 227, 228, 229, 230, 231, 232, 233, 234, 235, 236, 237, 238, 239, 240, 241, 242, 243, 244, 245, 246, 247, 248, 249, 250, 251, 252, 253, 254, 255, 256, 257, 258, 259] (by decide +kernel) (by decide +kernel)
set_option maxRecDepth 20000 in
theorem gX11_chanceOfSafest_X7_rowOf : GoodIn wsX11_chanceOfSafest (wsV RX11 234 RX7 yX7_rowOf wsX7_rowOf) := goodIn_app (goodIn_of _ (by decide +kernel)) ggX11_chanceOfSafest_X7_rowOf
set_option maxRecDepth 20000 in
theorem ggX11_chanceOfSafest_X5_take : GoodIn wsX11_chanceOfSafest wsX5_take := goodIn_r _ [163, 158, 164, 159, 165, 166, 167, 24, 168, 129, 26, 130, 33, 66, 142, 147, 148, 149, 150, 151, 152, 169, 170, 257, 258, 259, 241, 242, 243, 244, 214, 215, 216, 217, 218, 219] (by decide +kernel) (by decide +kernel)
set_option maxRecDepth 20000 in
theorem gX11_chanceOfSafest_X5_take : GoodIn wsX11_chanceOfSafest (wsV RX11 241 RX5 yX5_take wsX5_take) := goodIn_app (goodIn_of _ (by decide +kernel)) ggX11_chanceOfSafest_X5_take
set_option maxRecDepth 20000 in
theorem ggX11_chanceOfSafest_X0_riskOfAct : GoodIn wsX11_chanceOfSafest wsX0_riskOfAct := goodIn_r _ [174, 175, 176, 59, 177, 178, 179, 180, 181, 98, 99, 100, 101, 102, 245, 246, 247, 248, 249, 250, 251, 252, 253, 254, 255, 256] (by decide +kernel) (by decide +kernel)
set_option maxRecDepth 20000 in
theorem gX11_chanceOfSafest_X0_riskOfAct : GoodIn wsX11_chanceOfSafest (wsV RX11 246 RX0 yX0_riskOfAct wsX0_riskOfAct) := goodIn_app (goodIn_of _ (by decide +kernel)) ggX11_chanceOfSafest_X0_riskOfAct
set_option maxRecDepth 20000 in
theorem ggX11_chanceOfSafest_X11_commonDivisor : GoodIn wsX11_chanceOfSafest wsX11_commonDivisor := goodIn_r _ [185] (by decide +kernel) (by decide +kernel)
set_option maxRecDepth 20000 in
theorem gX11_chanceOfSafest_X11_commonDivisor : GoodIn wsX11_chanceOfSafest (va_wsS RX11 251 yX11_commonDivisor wsX11_commonDivisor) := goodIn_app (goodIn_of _ (by decide +kernel)) ggX11_chanceOfSafest_X11_commonDivisor
set_option maxRecDepth 20000 in
theorem ggX11_states_X0_isTold : GoodIn wsX11_states wsX0_isTold := goodIn_r _ [7, 8, 138, 139, 140, 141, 142, 143, 144, 145, 146, 147, 148, 149] (by decide +kernel) (by decide +kernel)
set_option maxRecDepth 20000 in
theorem gX11_states_X0_isTold : GoodIn wsX11_states (wsV RX11 146 RX0 yX0_isTold wsX0_isTold) := goodIn_app (goodIn_of _ (by decide +kernel)) ggX11_states_X0_isTold
set_option maxRecDepth 20000 in
theorem ggX11_states_X7_countStates : GoodIn wsX11_states wsX7_countStates := goodIn_r _ [13, 14, 15, 16, 17, 18, 19, 12, 20, 21, 22, 23, 24, 25, 26, 27, 28, 29, 30, 31, 32, 33, 34, 35, 36, 37, 38, 39, 40, 41, 42, 43, 44, 45, 46, 6, 47, 48, 49, 50, 51, 52, 53, 54, 55, 56, 57, 58, 59, 60, 61, 62, 63, 64, 65, 66, 67, 68, 69, 70, 71, 72, 73, 74, 75, 76, 77, 78, 79, 80, 81, 82, 83, 84, 85, 86, 87, 88, 89, 90, 91, 92, 93, 94, 95, 96, 97, 98, 99, 100, 101, 102, 103, 104, 105, 106, 107, 108, 109, 110, 111, 112, 113, 114, 115, 116, 117, 118, 119, 120, 121, 122, 123, 124, 125, 126, 150, 151, 152, 153, 154, 155, 156, 157, 158, 159, 160, 161, 162, 163, 164, 165, 166, 167, 168, 169, 170, 171, 172, 173, 174, 175, 176, 177, 178, 179, 180, 181, 138, 139, 140, 141, 142, 143, 144, 145, 146, 147, 148, 149] (by decide +kernel) (by decide +kernel)
set_option maxRecDepth 20000 in
theorem gX11_states_X7_countStates : GoodIn wsX11_states (wsV RX11 255 RX7 yX7_countStates wsX7_countStates) := goodIn_app (goodIn_of _ (by decide +kernel)) ggX11_states_X7_countStates
set_option maxRecDepth 20000 in
theorem ggX11_hopeful_X0_isTold : GoodIn wsX11_hopeful wsX0_isTold := goodIn_r _ [7, 8, 259, 260, 261, 262, 263, 264, 265, 266, 267, 268, 269, 270] (by decide +kernel) (by decide +kernel)
set_option maxRecDepth 20000 in
theorem gX11_hopeful_X0_isTold : GoodIn wsX11_hopeful (wsV RX11 146 RX0 yX0_isTold wsX0_isTold) := goodIn_app (goodIn_of _ (by decide +kernel)) ggX11_hopeful_X0_isTold
set_option maxRecDepth 20000 in
theorem ggX11_hopeful_X7_countHopeful : GoodIn wsX11_hopeful wsX7_countHopeful := goodIn_r _ [13, 14, 15, 16, 17, 18, 19, 20, 21, 22, 23, 24, 12, 25, 26, 27, 28, 29, 30, 31, 32, 33, 34, 35, 36, 37, 38, 39, 40, 41, 42, 43, 44, 45, 46, 47, 48, 49, 50, 51, 52, 53, 54, 55, 56, 57, 58, 59, 60, 61, 62, 63, 64, 65, 6, 66, 67, 68, 69, 70, 71, 72, 73, 74, 75, 76, 77, 78, 79, 80, 81, 82, 83, 84, 85, 86, 87, 88, 89, 90, 91, 92, 93, 94, 95, 96, 97, 98, 99, 100, 101, 102, 103, 104, 105, 106, 107, 108, 109, 110, 111, 112, 113, 114, 115, 116, 117, 118, 119, 120, 121, 122, 123, 124, 125, 126, 127, 128, 129, 130, 131, 132, 133, 134, 135, 136, 137, 138, 139, 140, 141, 142, 143, 144, 145, 146, 147, 148, 149, 150, 151, 152, 153, 154, 155, 156, 157, 158, 159, 160, 161, 162, 163, 164, 165, 166, 167, 168, 169, 170, 171, 172, 173, 174, 175, 176, 177, 178, 179, 180, 181, 182, 183, 184, 185, 186, 187, 188, 189, 190, 191, 192, 193, 194, 195, 196, 197, 198, 199, 200, 201, 202, 203, 204, 205, 206, 207, 208, 209, 210, 211, 212, 213, 214, 215, 216, 217, 218, 219, 220, 221, 222, 223, 224, 225, 226, 227, 228, 229, 230, 231, 232, 233, 234, 235, 236, 237, 238, 239, 240, 241, 242, 243, 244, 245, 246, 247, 271, 272, 273, 274, 275, 276, 277, 278, 279, 280, 281, 282, 283, 284, 285, 286, 287, 288, 289, 290, 291, 292, 293, 294, 295, 296, 297, 298, 299, 300, 301, 302, 303, 304, 305, 306, 307, 308, 309, 310, 311, 312, 313, 314, 315, 316, 317, 318, 319, 320, 321, 259, 260, 261, 262, 263, 264, 265, 266, 267, 268, 269, 270] (by decide +kernel) (by decide +kernel)
set_option maxRecDepth 20000 in
theorem gX11_hopeful_X7_countHopeful : GoodIn wsX11_hopeful (wsV RX11 258 RX7 yX7_countHopeful wsX7_countHopeful) := goodIn_app (goodIn_of _ (by decide +kernel)) ggX11_hopeful_X7_countHopeful
set_option maxRecDepth 20000 in
theorem ggX11_till_X0_isTold : GoodIn wsX11_till wsX0_isTold := goodIn_r _ [7, 8, 164, 165, 166, 167, 168, 169, 170, 171, 172, 173, 174, 175] (by decide +kernel) (by decide +kernel)
set_option maxRecDepth 20000 in
theorem gX11_till_X0_isTold : GoodIn wsX11_till (wsV RX11 146 RX0 yX0_isTold wsX0_isTold) := goodIn_app (goodIn_of _ (by decide +kernel)) ggX11_till_X0_isTold
set_option maxRecDepth 20000 in
theorem ggX11_till_X0_everyone : GoodIn wsX11_till wsX0_everyone := goodIn_r _ [12, 13, 164, 165, 166, 167, 168, 169, 170, 171, 172, 173, 174, 175] (by decide +kernel) (by decide +kernel)
set_option maxRecDepth 20000 in
theorem gX11_till_X0_everyone : GoodIn wsX11_till (wsV RX11 261 RX0 yX0_everyone wsX0_everyone) := goodIn_app (goodIn_of _ (by decide +kernel)) ggX11_till_X0_everyone
set_option maxRecDepth 20000 in
theorem ggX11_till_X7_soonestJust : GoodIn wsX11_till wsX7_soonestJust := goodIn_r _ [18, 19, 20, 21, 22, 17, 23, 24, 25, 26, 27, 28, 29, 30, 31, 32, 33, 34, 35, 36, 37, 38, 39, 40, 41, 42, 43, 44, 45, 46, 47, 48, 49, 50, 51, 52, 53, 54, 55, 56, 57, 58, 59, 60, 61, 62, 63, 64, 65, 66, 67, 68, 69, 70, 71, 72, 73, 6, 74, 75, 76, 77, 78, 79, 80, 81, 82, 83, 84, 85, 86, 87, 88, 89, 90, 91, 92, 93, 94, 95, 96, 97, 98, 99, 100, 101, 102, 103, 104, 105, 106, 107, 108, 109, 110, 111, 112, 113, 114, 115, 116, 117, 118, 119, 120, 121, 122, 123, 124, 125, 126, 127, 128, 129, 130, 131, 132, 133, 134, 135, 136, 137, 138, 139, 140, 141, 142, 143, 144, 145, 146, 147, 148, 149, 150, 151, 152, 176, 177, 178, 179, 180, 181, 182, 183, 184, 185, 186, 187, 188, 189, 190, 191, 192, 193, 194, 195, 196, 197, 198, 199, 200, 201, 202, 203, 204, 205, 206, 207, 208, 209, 210, 211, 212, 213, 214, 215, 216, 217, 218, 219, 164, 165, 166, 167, 168, 169, 170, 171, 172, 173, 174, 175, 220, 221, 222, 223] (by decide +kernel) (by decide +kernel)
set_option maxRecDepth 20000 in
theorem gX11_till_X7_soonestJust : GoodIn wsX11_till (wsV RX11 264 RX7 yX7_soonestJust wsX7_soonestJust) := goodIn_app (goodIn_of _ (by decide +kernel)) ggX11_till_X7_soonestJust
set_option maxRecDepth 20000 in
theorem ggX11_over_X0_hasPerson : GoodIn wsX11_over wsX0_hasPerson := goodIn_r _ [7, 8, 159, 160, 161, 162, 163, 164, 165, 166, 167, 168, 169, 170] (by decide +kernel) (by decide +kernel)
set_option maxRecDepth 20000 in
theorem gX11_over_X0_hasPerson : GoodIn wsX11_over (wsV RX11 101 RX0 yX0_hasPerson wsX0_hasPerson) := goodIn_app (goodIn_of _ (by decide +kernel)) ggX11_over_X0_hasPerson
set_option maxRecDepth 20000 in
theorem ggX11_over_X7_soonestOver : GoodIn wsX11_over wsX7_soonestOver := goodIn_r _ [13, 14, 15, 16, 17, 12, 18, 19, 20, 21, 22, 23, 24, 25, 26, 27, 28, 29, 30, 31, 32, 33, 34, 35, 36, 37, 38, 39, 40, 41, 42, 43, 44, 45, 46, 47, 48, 49, 50, 51, 52, 53, 54, 55, 56, 57, 58, 59, 60, 61, 62, 63, 64, 65, 66, 67, 68, 6, 69, 70, 71, 72, 73, 74, 75, 76, 77, 78, 79, 80, 81, 82, 83, 84, 85, 86, 87, 88, 89, 90, 91, 92, 93, 94, 95, 96, 97, 98, 99, 100, 101, 102, 103, 104, 105, 106, 107, 108, 109, 110, 111, 112, 113, 114, 115, 116, 117, 118, 119, 120, 121, 122, 123, 124, 125, 126, 127, 128, 129, 130, 131, 132, 133, 134, 135, 136, 137, 138, 139, 140, 141, 142, 143, 144, 145, 146, 147, 171, 172, 173, 174, 175, 176, 177, 178, 179, 180, 181, 182, 183, 184, 185, 186, 187, 188, 189, 190, 191, 192, 193, 194, 195, 196, 197, 198, 199, 200, 201, 202, 203, 204, 205, 206, 207, 208, 209, 210, 211, 212, 213, 214, 159, 160, 161, 162, 163, 164, 165, 166, 167, 168, 169, 170, 215, 216, 217, 218] (by decide +kernel) (by decide +kernel)
set_option maxRecDepth 20000 in
theorem gX11_over_X7_soonestOver : GoodIn wsX11_over (wsV RX11 267 RX7 yX7_soonestOver wsX7_soonestOver) := goodIn_app (goodIn_of _ (by decide +kernel)) ggX11_over_X7_soonestOver
set_option maxRecDepth 20000 in
theorem ggX11_never_X0_isTold : GoodIn wsX11_never wsX0_isTold := goodIn_r _ [8, 9, 160, 161, 162, 163, 164, 165, 166, 167, 168, 169, 170, 171] (by decide +kernel) (by decide +kernel)
set_option maxRecDepth 20000 in
theorem gX11_never_X0_isTold : GoodIn wsX11_never (wsV RX11 146 RX0 yX0_isTold wsX0_isTold) := goodIn_app (goodIn_of _ (by decide +kernel)) ggX11_never_X0_isTold
set_option maxRecDepth 20000 in
theorem ggX11_never_X7_soonestOver : GoodIn wsX11_never wsX7_soonestOver := goodIn_r _ [14, 15, 16, 17, 18, 13, 19, 20, 21, 22, 23, 24, 25, 26, 27, 28, 29, 30, 31, 32, 33, 34, 35, 36, 37, 38, 39, 40, 41, 42, 43, 44, 45, 46, 47, 48, 49, 50, 51, 52, 53, 54, 55, 56, 57, 58, 59, 60, 61, 62, 63, 64, 65, 66, 67, 68, 69, 7, 70, 71, 72, 73, 74, 75, 76, 77, 78, 79, 80, 81, 82, 83, 84, 85, 86, 87, 88, 89, 90, 91, 92, 93, 94, 95, 96, 97, 98, 99, 100, 101, 102, 103, 104, 105, 106, 107, 108, 109, 110, 111, 112, 113, 114, 115, 116, 117, 118, 119, 120, 121, 122, 123, 124, 125, 126, 127, 128, 129, 130, 131, 132, 133, 134, 135, 136, 137, 138, 139, 140, 141, 142, 143, 144, 145, 146, 147, 148, 172, 173, 174, 175, 176, 177, 178, 179, 180, 181, 182, 183, 184, 185, 186, 187, 188, 189, 190, 191, 192, 193, 194, 195, 196, 197, 198, 199, 200, 201, 202, 203, 204, 205, 206, 207, 208, 209, 210, 211, 212, 213, 214, 215, 160, 161, 162, 163, 164, 165, 166, 167, 168, 169, 170, 171, 216, 217, 218, 219] (by decide +kernel) (by decide +kernel)
set_option maxRecDepth 20000 in
theorem gX11_never_X7_soonestOver : GoodIn wsX11_never (wsV RX11 267 RX7 yX7_soonestOver wsX7_soonestOver) := goodIn_app (goodIn_of _ (by decide +kernel)) ggX11_never_X7_soonestOver
set_option maxRecDepth 20000 in
theorem ggX11_lost_X0_isTold : GoodIn wsX11_lost wsX0_isTold := goodIn_r _ [8, 9, 221, 222, 223, 224, 225, 226, 227, 228, 229, 230, 231, 232] (by decide +kernel) (by decide +kernel)
set_option maxRecDepth 20000 in
theorem gX11_lost_X0_isTold : GoodIn wsX11_lost (wsV RX11 146 RX0 yX0_isTold wsX0_isTold) := goodIn_app (goodIn_of _ (by decide +kernel)) ggX11_lost_X0_isTold
set_option maxRecDepth 20000 in
theorem ggX11_lost_X7_canCome : GoodIn wsX11_lost wsX7_canCome := goodIn_r _ [14, 15, 16, 17, 18, 13, 19, 20, 21, 22, 23, 24, 25, 26, 27, 28, 29, 30, 31, 32, 33, 34, 35, 36, 37, 38, 39, 40, 41, 42, 43, 44, 45, 46, 47, 48, 49, 50, 51, 52, 53, 54, 55, 56, 57, 58, 59, 60, 61, 7, 62, 63, 64, 65, 66, 67, 68, 69, 70, 71, 72, 73, 74, 75, 76, 77, 78, 79, 80, 81, 82, 83, 84, 85, 86, 87, 88, 89, 90, 91, 92, 93, 94, 95, 96, 97, 98, 99, 100, 101, 102, 103, 104, 105, 106, 107, 108, 109, 110, 111, 112, 113, 114, 115, 116, 117, 118, 119, 120, 121, 122, 123, 124, 125, 126, 127, 128, 129, 130, 131, 132, 133, 134, 135, 136, 137, 138, 139, 140, 141, 142, 143, 144, 145, 146, 147, 148, 149, 150, 151, 152, 153, 154, 155, 156, 157, 158, 159, 160, 204, 205, 206, 207, 208, 209, 210, 211, 212, 213, 214, 215, 216, 217, 218, 219, 220, 233, 234, 235, 236, 237, 238, 239, 240, 241, 242, 243, 244, 245, 246, 247, 248, 249, 250, 251, 252, 253, 254, 255, 256, 257, 258, 259, 260, 261, 262, 263, 221, 222, 223, 224, 225, 226, 227, 228, 229, 230, 231, 232] (by decide +kernel) (by decide +kernel)
set_option maxRecDepth 20000 in
theorem gX11_lost_X7_canCome : GoodIn wsX11_lost (wsV RX11 202 RX7 yX7_canCome wsX7_canCome) := goodIn_app (goodIn_of _ (by decide +kernel)) ggX11_lost_X7_canCome
set_option maxRecDepth 20000 in
theorem ggX11_lost_X7_rowOf : GoodIn wsX11_lost wsX7_rowOf := goodIn_r _ [164, 165, 16, 17, 18, 13, 19, 20, 21, 22, 23, 24, 25, 26, 27, 28, 29, 30, 31, 32, 33, 34, 35, 36, 37, 38, 39, 40, 41, 42, 43, 44, 45, 46, 47, 48, 49, 50, 51, 52, 53, 54, 55, 56, 57, 58, 59, 60, 61, 7, 62, 63, 64, 65, 66, 67, 68, 69, 70, 71, 72, 73, 74, 75, 76, 77, 78, 79, 80, 81, 82, 83, 84, 85, 86, 87, 88, 89, 90, 91, 92, 93, 94, 95, 96, 97, 98, 99, 100, 101, 102, 103, 104, 105, 106, 107, 108, 109, 110, 111, 112, 113, 114, 115, 116, 117, 118, 119, 120, 121, 122, 123, 124, 125, 126, 127, 128, 129, 130, 131, 132, 133, 134, 135, 136, 137, 138, 139, 140, 141, 142, 143, 144, 145, 146, 147, 148, 149, 150, 151, 152, 153, 154, 166, 167, 168, 169, 170, 171, 172, 204, 205, 206, 207, 208, 209, 210, 211, 212, 213, 214, 215, 216, 217, 218, 219, 220, 233, 234, 235, 236, 237, 238, 239, 240, 241, 242, 243, 244, 245, 246, 247, 248, 249, 250, 251, 252, 253, 254, 255, 256, 257, 258, 259, 260, 261, 262, 263, 221, 222, 223, 224, 225, 226, 227, 228, 229, 230, 231, 232, 264, 265, 266] (by decide +kernel) (by decide +kernel)
set_option maxRecDepth 20000 in
theorem gX11_lost_X7_rowOf : GoodIn wsX11_lost (wsV RX11 234 RX7 yX7_rowOf wsX7_rowOf) := goodIn_app (goodIn_of _ (by decide +kernel)) ggX11_lost_X7_rowOf
set_option maxRecDepth 20000 in
theorem ggX11_lost_X5_skip : GoodIn wsX11_lost wsX5_skip := goodIn_r _ [176, 177, 178, 179, 169, 180, 171, 181, 172, 182, 183, 184, 27, 185, 131, 29, 132, 36, 68, 144, 149, 150, 151, 152, 153, 154, 186, 187, 264, 265, 266, 260, 261, 262, 263, 233, 234, 235, 236, 237, 238] (by decide +kernel) (by decide +kernel)
set_option maxRecDepth 20000 in
theorem gX11_lost_X5_skip : GoodIn wsX11_lost (wsV RX11 273 RX5 yX5_skip wsX5_skip) := goodIn_app (goodIn_of _ (by decide +kernel)) ggX11_lost_X5_skip
set_option maxRecDepth 20000 in
theorem ggX11_lost_X5_overNow : GoodIn wsX11_lost wsX5_overNow := goodIn_r _ [191, 181, 172, 192, 134, 135, 27, 136, 29, 31, 137, 138, 39, 139, 264, 265, 266, 233, 234, 235, 236, 237, 238] (by decide +kernel) (by decide +kernel)
set_option maxRecDepth 20000 in
theorem gX11_lost_X5_overNow : GoodIn wsX11_lost (wsV RX11 276 RX5 yX5_overNow wsX5_overNow) := goodIn_app (goodIn_of _ (by decide +kernel)) ggX11_lost_X5_overNow
set_option maxRecDepth 20000 in
theorem ggX11_worst_X0_isTold : GoodIn wsX11_worst wsX0_isTold := goodIn_r _ [9, 10, 226, 227, 228, 229, 230, 231, 232, 233, 234, 235, 236, 237] (by decide +kernel) (by decide +kernel)
set_option maxRecDepth 20000 in
theorem gX11_worst_X0_isTold : GoodIn wsX11_worst (wsV RX11 146 RX0 yX0_isTold wsX0_isTold) := goodIn_app (goodIn_of _ (by decide +kernel)) ggX11_worst_X0_isTold
set_option maxRecDepth 20000 in
theorem ggX11_worst_X7_canCome : GoodIn wsX11_worst wsX7_canCome := goodIn_r _ [15, 16, 17, 18, 19, 14, 20, 21, 22, 23, 24, 25, 26, 27, 28, 29, 30, 31, 32, 33, 34, 35, 36, 37, 38, 39, 40, 41, 42, 43, 44, 45, 46, 47, 48, 49, 50, 51, 52, 53, 54, 55, 56, 57, 58, 59, 60, 61, 62, 8, 63, 64, 65, 66, 67, 68, 69, 70, 71, 72, 73, 74, 75, 76, 77, 78, 79, 80, 81, 82, 83, 84, 85, 86, 87, 88, 89, 90, 91, 92, 93, 94, 95, 96, 97, 98, 99, 100, 101, 102, 103, 104, 105, 106, 107, 108, 109, 110, 111, 112, 113, 114, 115, 116, 117, 118, 119, 120, 121, 122, 123, 124, 125, 126, 127, 128, 129, 130, 131, 132, 133, 134, 135, 136, 137, 138, 139, 140, 141, 142, 143, 144, 145, 146, 147, 148, 149, 150, 151, 152, 153, 154, 155, 156, 157, 158, 159, 160, 161, 209, 210, 211, 212, 213, 214, 215, 216, 217, 218, 219, 220, 221, 222, 223, 224, 225, 238, 239, 240, 241, 242, 243, 244, 245, 246, 247, 248, 249, 250, 251, 252, 253, 254, 255, 256, 257, 258, 259, 260, 261, 262, 263, 264, 265, 266, 267, 268, 226, 227, 228, 229, 230, 231, 232, 233, 234, 235, 236, 237] (by decide +kernel) (by decide +kernel)
set_option maxRecDepth 20000 in
theorem gX11_worst_X7_canCome : GoodIn wsX11_worst (wsV RX11 202 RX7 yX7_canCome wsX7_canCome) := goodIn_app (goodIn_of _ (by decide +kernel)) ggX11_worst_X7_canCome
set_option maxRecDepth 20000 in
theorem ggX11_worst_X7_rowOf : GoodIn wsX11_worst wsX7_rowOf := goodIn_r _ [165, 166, 17, 18, 19, 14, 20, 21, 22, 23, 24, 25, 26, 27, 28, 29, 30, 31, 32, 33, 34, 35, 36, 37, 38, 39, 40, 41, 42, 43, 44, 45, 46, 47, 48, 49, 50, 51, 52, 53, 54, 55, 56, 57, 58, 59, 60, 61, 62, 8, 63, 64, 65, 66, 67, 68, 69, 70, 71, 72, 73, 74, 75, 76, 77, 78, 79, 80, 81, 82, 83, 84, 85, 86, 87, 88, 89, 90, 91, 92, 93, 94, 95, 96, 97, 98, 99, 100, 101, 102, 103, 104, 105, 106, 107, 108, 109, 110, 111, 112, 113, 114, 115, 116, 117, 118, 119, 120, 121, 122, 123, 124, 125, 126, 127, 128, 129, 130, 131, 132, 133, 134, 135, 136, 137, 138, 139, 140, 141, 142, 143, 144, 145, 146, 147, 148, 149, 150, 151, 152, 153, 154, 155, 167, 168, 169, 170, 171, 172, 173, 209, 210, 211, 212, 213, 214, 215, 216, 217, 218, 219, 220, 221, 222, 223, 224, 225, 238, 239, 240, 241, 242, 243, 244, 245, 246, 247, 248, 249, 250, 251, 252, 253, 254, 255, 256, 257, 258, 259, 260, 261, 262, 263, 264, 265, 266, 267, 268, 226, 227, 228, 229, 230, 231, 232, 233, 234, 235, 236, 237, 269, 270, 271] (by decide +kernel) (by decide +kernel)
set_option maxRecDepth 20000 in
theorem gX11_worst_X7_rowOf : GoodIn wsX11_worst (wsV RX11 234 RX7 yX7_rowOf wsX7_rowOf) := goodIn_app (goodIn_of _ (by decide +kernel)) ggX11_worst_X7_rowOf
set_option maxRecDepth 20000 in
theorem ggX11_worst_X0_goal : GoodIn wsX11_worst wsX0_goal := goodIn_r _ [113, 114, 115, 116, 8, 117, 118, 119, 120, 121, 122, 123, 124, 125, 126, 127, 226, 227, 228, 229, 230, 231, 232, 233, 234, 235, 236, 237] (by decide +kernel) (by decide +kernel)
set_option maxRecDepth 20000 in
theorem gX11_worst_X0_goal : GoodIn wsX11_worst (wsV RX11 279 RX0 yX0_goal wsX0_goal) := goodIn_app (goodIn_of _ (by decide +kernel)) ggX11_worst_X0_goal
set_option maxRecDepth 20000 in
theorem ggX11_worst_X5_overNow : GoodIn wsX11_worst wsX5_overNow := goodIn_r _ [178, 179, 173, 180, 135, 136, 28, 137, 30, 32, 138, 139, 40, 140, 269, 270, 271, 238, 239, 240, 241, 242, 243] (by decide +kernel) (by decide +kernel)
set_option maxRecDepth 20000 in
theorem gX11_worst_X5_overNow : GoodIn wsX11_worst (wsV RX11 276 RX5 yX5_overNow wsX5_overNow) := goodIn_app (goodIn_of _ (by decide +kernel)) ggX11_worst_X5_overNow
set_option maxRecDepth 20000 in
theorem ggX11_worst_J6_bitCount_0f7a4 : GoodIn wsX11_worst wsJ6_bitCount_0f7a4 := goodIn_r _ [184, 185, 186, 187] (by decide +kernel) (by decide +kernel)
set_option maxRecDepth 20000 in
theorem gX11_worst_J6_bitCount_0f7a4 : GoodIn wsX11_worst (va_wsS RX11 282 yJ6_bitCount_0f7a4 wsJ6_bitCount_0f7a4) := goodIn_app (goodIn_of _ (by decide +kernel)) ggX11_worst_J6_bitCount_0f7a4
set_option maxRecDepth 20000 in
theorem ggX11_worst_X5_take : GoodIn wsX11_worst wsX5_take := goodIn_r _ [191, 172, 179, 173, 192, 193, 194, 28, 195, 132, 30, 133, 37, 69, 145, 150, 151, 152, 153, 154, 155, 196, 197, 269, 270, 271, 265, 266, 267, 268, 238, 239, 240, 241, 242, 243] (by decide +kernel) (by decide +kernel)
set_option maxRecDepth 20000 in
theorem gX11_worst_X5_take : GoodIn wsX11_worst (wsV RX11 241 RX5 yX5_take wsX5_take) := goodIn_app (goodIn_of _ (by decide +kernel)) ggX11_worst_X5_take
set_option maxRecDepth 20000 in
theorem ggX11_judge_X11_judgeRow : GoodIn wsX11_judge wsX11_judgeRow := goodIn_r _ [7, 8, 9, 10, 11, 1, 12, 13, 14, 6, 15, 16, 17, 18, 19, 20, 21, 22, 23, 24, 25, 26, 27, 28, 29, 30, 31, 32, 33, 34, 35, 36, 37, 38, 39, 40, 41, 42, 43, 44, 45, 46, 47, 48, 49, 50, 51, 52, 53, 54, 55, 56, 57, 58, 59, 60, 61, 62, 63, 64, 65, 66, 67, 68, 69, 70, 71, 72, 73, 74, 75, 76, 77, 78, 79, 80, 81, 82, 83, 84, 85, 86, 87, 88, 89, 90, 91, 92, 93, 94, 95, 96, 97, 98, 99, 100, 101, 102, 103, 104, 105, 106, 107, 108, 109, 110, 111, 112, 113, 114, 115, 116, 117, 118, 119, 120, 121, 122, 123, 124, 125, 126, 127, 128, 129, 130, 131, 132, 133, 134, 135, 136, 137, 138, 139, 140, 141, 142, 143, 144, 145, 146, 147, 148, 149, 150, 151, 152, 153, 154, 155, 156, 166, 167, 168, 169, 170, 171, 172, 173, 174, 175, 176, 177, 178, 179, 180, 157, 158, 159, 160, 161, 162, 163, 164, 165] (by decide +kernel) (by decide +kernel)
set_option maxRecDepth 20000 in
theorem gX11_judge_X11_judgeRow : GoodIn wsX11_judge (wsV RX11 287 RX11 yX11_judgeRow wsX11_judgeRow) := goodIn_app (goodIn_of _ (by decide +kernel)) ggX11_judge_X11_judgeRow
set_option maxRecDepth 20000 in
theorem ggX11_there_X11_judgeRow : GoodIn wsX11_there wsX11_judgeRow := goodIn_r _ [7, 8, 9, 10, 11, 1, 12, 13, 14, 6, 15, 16, 17, 18, 19, 20, 21, 22, 23, 24, 25, 26, 27, 28, 29, 30, 31, 32, 33, 34, 35, 36, 37, 38, 39, 40, 41, 42, 43, 44, 45, 46, 47, 48, 49, 50, 51, 52, 53, 54, 55, 56, 57, 58, 59, 60, 61, 62, 63, 64, 65, 66, 67, 68, 69, 70, 71, 72, 73, 74, 75, 76, 77, 78, 79, 80, 81, 82, 83, 84, 85, 86, 87, 88, 89, 90, 91, 92, 93, 94, 95, 96, 97, 98, 99, 100, 101, 102, 103, 104, 105, 106, 107, 108, 109, 110, 111, 112, 113, 114, 115, 116, 117, 118, 119, 120, 121, 122, 123, 124, 125, 126, 127, 128, 129, 130, 131, 132, 133, 134, 135, 136, 137, 138, 139, 140, 141, 142, 143, 144, 145, 146, 147, 148, 149, 150, 151, 152, 153, 154, 155, 156, 166, 167, 168, 169, 170, 171, 172, 173, 174, 175, 176, 177, 178, 179, 180, 157, 158, 159, 160, 161, 162, 163, 164, 165] (by decide +kernel) (by decide +kernel)
set_option maxRecDepth 20000 in
theorem gX11_there_X11_judgeRow : GoodIn wsX11_there (wsV RX11 287 RX11 yX11_judgeRow wsX11_judgeRow) := goodIn_app (goodIn_of _ (by decide +kernel)) ggX11_there_X11_judgeRow
set_option maxRecDepth 20000 in
theorem ggX11_takes_X11_judgeRow : GoodIn wsX11_takes wsX11_judgeRow := goodIn_r _ [7, 8, 9, 10, 11, 1, 12, 13, 14, 6, 15, 16, 17, 18, 19, 20, 21, 22, 23, 24, 25, 26, 27, 28, 29, 30, 31, 32, 33, 34, 35, 36, 37, 38, 39, 40, 41, 42, 43, 44, 45, 46, 47, 48, 49, 50, 51, 52, 53, 54, 55, 56, 57, 58, 59, 60, 61, 62, 63, 64, 65, 66, 67, 68, 69, 70, 71, 72, 73, 74, 75, 76, 77, 78, 79, 80, 81, 82, 83, 84, 85, 86, 87, 88, 89, 90, 91, 92, 93, 94, 95, 96, 97, 98, 99, 100, 101, 102, 103, 104, 105, 106, 107, 108, 109, 110, 111, 112, 113, 114, 115, 116, 117, 118, 119, 120, 121, 122, 123, 124, 125, 126, 127, 128, 129, 130, 131, 132, 133, 134, 135, 136, 137, 138, 139, 140, 141, 142, 143, 144, 145, 146, 147, 148, 149, 150, 151, 152, 153, 154, 155, 156, 166, 167, 168, 169, 170, 171, 172, 173, 174, 175, 176, 177, 178, 179, 180, 157, 158, 159, 160, 161, 162, 163, 164, 165] (by decide +kernel) (by decide +kernel)
set_option maxRecDepth 20000 in
theorem gX11_takes_X11_judgeRow : GoodIn wsX11_takes (wsV RX11 287 RX11 yX11_judgeRow wsX11_judgeRow) := goodIn_app (goodIn_of _ (by decide +kernel)) ggX11_takes_X11_judgeRow
set_option maxRecDepth 20000 in
theorem ggX11_dares_X11_judgeRow : GoodIn wsX11_dares wsX11_judgeRow := goodIn_r _ [7, 8, 9, 2, 10, 1, 11, 12, 13, 6, 14, 15, 16, 17, 18, 19, 20, 21, 22, 23, 24, 25, 26, 27, 28, 29, 30, 31, 32, 33, 34, 35, 36, 37, 38, 39, 40, 41, 42, 43, 44, 45, 46, 47, 48, 49, 50, 51, 52, 53, 54, 55, 56, 57, 58, 59, 60, 61, 62, 63, 64, 65, 66, 67, 68, 69, 70, 71, 72, 73, 74, 75, 76, 77, 78, 79, 80, 81, 82, 83, 84, 85, 86, 87, 88, 89, 90, 91, 92, 93, 94, 95, 96, 97, 98, 99, 100, 101, 102, 103, 104, 105, 106, 107, 108, 109, 110, 111, 112, 113, 114, 115, 116, 117, 118, 119, 120, 121, 122, 123, 124, 125, 126, 127, 128, 129, 130, 131, 132, 133, 134, 135, 136, 137, 138, 139, 140, 141, 142, 143, 144, 159, 160, 161, 162, 163, 164, 165, 166, 167, 168, 169, 170, 171, 172, 173, 174, 175, 176, 177, 178, 179, 180, 181, 182, 183, 184, 185, 186, 187, 188, 189, 190, 191, 192, 193] (by decide +kernel) (by decide +kernel)
set_option maxRecDepth 20000 in
theorem gX11_dares_X11_judgeRow : GoodIn wsX11_dares (wsV RX11 287 RX11 yX11_judgeRow wsX11_judgeRow) := goodIn_app (goodIn_of _ (by decide +kernel)) ggX11_dares_X11_judgeRow
set_option maxRecDepth 20000 in
theorem ggX11_dares_X10_riskTogether : GoodIn wsX11_dares wsX10_riskTogether := goodIn_r _ [148, 68, 92, 149, 150, 151, 23, 152, 36, 37, 38, 42, 43, 44, 153, 154, 155, 156, 157, 158, 185, 186, 187, 188, 189, 190, 191, 192, 193, 173, 174, 175, 176, 177, 178, 179, 180, 181, 182, 183, 184] (by decide +kernel) (by decide +kernel)
set_option maxRecDepth 20000 in
theorem gX11_dares_X10_riskTogether : GoodIn wsX11_dares (wsV RX11 159 RX10 yX10_riskTogether wsX10_riskTogether) := goodIn_app (goodIn_of _ (by decide +kernel)) ggX11_dares_X10_riskTogether
set_option maxRecDepth 20000 in
theorem ggX11_lied_X11_judgeRow : GoodIn wsX11_lied wsX11_judgeRow := goodIn_r _ [6, 7, 8, 9, 10, 1, 11, 12, 13, 5, 14, 15, 16, 17, 18, 19, 20, 21, 22, 23, 24, 25, 26, 27, 28, 29, 30, 31, 32, 33, 34, 35, 36, 37, 38, 39, 40, 41, 42, 43, 44, 45, 46, 47, 48, 49, 50, 51, 52, 53, 54, 55, 56, 57, 58, 59, 60, 61, 62, 63, 64, 65, 66, 67, 68, 69, 70, 71, 72, 73, 74, 75, 76, 77, 78, 79, 80, 81, 82, 83, 84, 85, 86, 87, 88, 89, 90, 91, 92, 93, 94, 95, 96, 97, 98, 99, 100, 101, 102, 103, 104, 105, 106, 107, 108, 109, 110, 111, 112, 113, 114, 115, 116, 117, 118, 119, 120, 121, 122, 123, 124, 125, 126, 127, 128, 129, 130, 131, 132, 133, 134, 135, 136, 137, 138, 139, 140, 141, 142, 143, 144, 149, 150, 151, 152, 153, 154, 155, 156, 157, 158, 159, 160, 161, 162, 163, 164, 165, 166, 167, 168, 169, 170, 171, 172, 173, 174, 175, 176, 177, 178, 179, 180, 181, 182, 183] (by decide +kernel) (by decide +kernel)
set_option maxRecDepth 20000 in
theorem gX11_lied_X11_judgeRow : GoodIn wsX11_lied (wsV RX11 287 RX11 yX11_judgeRow wsX11_judgeRow) := goodIn_app (goodIn_of _ (by decide +kernel)) ggX11_lied_X11_judgeRow
set_option maxRecDepth 20000 in
theorem ggX11_lied_X10_countLies : GoodIn wsX11_lied wsX10_countLies := goodIn_r _ [148, 69, 136, 175, 176, 177, 178, 179, 180, 181, 182, 183] (by decide +kernel) (by decide +kernel)
set_option maxRecDepth 20000 in
theorem gX11_lied_X10_countLies : GoodIn wsX11_lied (wsV RX11 166 RX10 yX10_countLies wsX10_countLies) := goodIn_app (goodIn_of _ (by decide +kernel)) ggX11_lied_X10_countLies
set_option maxRecDepth 20000 in
theorem ggX11_judgeRow_X11_refusedSlot : GoodIn wsX11_judgeRow wsX11_refusedSlot := goodIn_r _ [10, 1, 3, 11, 12, 13, 14, 15, 16, 17, 18, 19, 20, 21, 22, 23, 24, 25, 26, 141, 142, 143, 144, 145, 146, 147, 148, 149, 150, 151, 155, 156, 157, 158, 159, 160, 161, 162, 163, 164, 165, 166, 152, 153, 154] (by decide +kernel) (by decide +kernel)
set_option maxRecDepth 20000 in
theorem gX11_judgeRow_X11_refusedSlot : GoodIn wsX11_judgeRow (wsV RX11 290 RX11 yX11_refusedSlot wsX11_refusedSlot) := goodIn_app (goodIn_of _ (by decide +kernel)) ggX11_judgeRow_X11_refusedSlot
set_option maxRecDepth 20000 in
theorem ggX11_judgeRow_X0_isAct : GoodIn wsX11_judgeRow wsX0_isAct := goodIn_r _ [30, 31, 32, 33, 19, 34, 35, 36, 37, 38, 39, 40, 41, 42, 43, 44, 45, 46, 47, 48, 49, 50, 51, 52, 53, 54, 55, 56, 57, 58, 155, 156, 157, 158, 159, 160, 161, 162, 163, 164, 165, 166] (by decide +kernel) (by decide +kernel)
set_option maxRecDepth 20000 in
theorem gX11_judgeRow_X0_isAct : GoodIn wsX11_judgeRow (wsV RX11 300 RX0 yX0_isAct wsX0_isAct) := goodIn_app (goodIn_of _ (by decide +kernel)) ggX11_judgeRow_X0_isAct
set_option maxRecDepth 20000 in
theorem ggX11_judgeRow_X10_restart : GoodIn wsX11_judgeRow wsX10_restart := goodIn_r _ [63, 64, 65, 66, 67, 68, 69, 70, 71, 72, 73, 74, 167, 168, 169, 170, 171, 172, 173, 174, 175] (by decide +kernel) (by decide +kernel)
set_option maxRecDepth 20000 in
theorem gX11_judgeRow_X10_restart : GoodIn wsX11_judgeRow (wsV RX11 89 RX10 yX10_restart wsX10_restart) := goodIn_app (goodIn_of _ (by decide +kernel)) ggX11_judgeRow_X10_restart
set_option maxRecDepth 20000 in
theorem ggX11_judgeRow_X10_tries : GoodIn wsX11_judgeRow wsX10_tries := goodIn_r _ [78, 79, 80, 81, 62, 82, 67, 68, 83, 84, 85, 86, 87, 64, 88, 89, 33, 19, 34, 90, 36, 37, 91, 39, 40, 92, 93, 94, 95, 66, 96, 70, 69, 97, 98, 99, 100, 101, 49, 102, 103, 104, 105, 106, 107, 108, 109, 110, 111, 112, 113, 114, 115, 116, 117, 118, 119, 120, 121, 122, 123, 124, 125, 126, 127, 128, 129, 130, 131, 65, 132, 133, 134, 135, 136, 137, 138, 139, 140, 167, 168, 169, 170, 171, 172, 173, 174, 175, 155, 156, 157, 158, 159, 160, 161, 162, 163, 164, 165, 166] (by decide +kernel) (by decide +kernel)
set_option maxRecDepth 20000 in
theorem gX11_judgeRow_X10_tries : GoodIn wsX11_judgeRow (wsV RX11 304 RX10 yX10_tries wsX10_tries) := goodIn_app (goodIn_of _ (by decide +kernel)) ggX11_judgeRow_X10_tries
set_option maxRecDepth 20000 in
theorem ggX11_refusedSlot_X8_exists : GoodIn wsX11_refusedSlot wsX8_exists := goodIn_r _ [7] (by decide +kernel) (by decide +kernel)
set_option maxRecDepth 20000 in
theorem gX11_refusedSlot_X8_exists : GoodIn wsX11_refusedSlot (wsV RX11 308 RX8 yX8_exists wsX8_exists) := goodIn_app (goodIn_of _ (by decide +kernel)) ggX11_refusedSlot_X8_exists
set_option maxRecDepth 20000 in
theorem ggX11_refusedSlot_X0_isTold : GoodIn wsX11_refusedSlot wsX0_isTold := goodIn_r _ [12, 13, 30, 31, 32, 33, 34, 35, 36, 37, 38, 39, 40, 41] (by decide +kernel) (by decide +kernel)
set_option maxRecDepth 20000 in
theorem gX11_refusedSlot_X0_isTold : GoodIn wsX11_refusedSlot (wsV RX11 146 RX0 yX0_isTold wsX0_isTold) := goodIn_app (goodIn_of _ (by decide +kernel)) ggX11_refusedSlot_X0_isTold
set_option maxRecDepth 20000 in
theorem ggX11_refusedSlot_X8_hasRow : GoodIn wsX11_refusedSlot wsX8_hasRow := goodIn_r _ [17, 18, 42, 43, 44] (by decide +kernel) (by decide +kernel)
set_option maxRecDepth 20000 in
theorem gX11_refusedSlot_X8_hasRow : GoodIn wsX11_refusedSlot (wsV RX11 311 RX8 yX8_hasRow wsX8_hasRow) := goodIn_app (goodIn_of _ (by decide +kernel)) ggX11_refusedSlot_X8_hasRow
set_option maxRecDepth 20000 in
theorem ggX11_stamped_X11_refusedStamps : GoodIn wsX11_stamped wsX11_refusedStamps := goodIn_r _ [6, 7, 8, 9, 10, 11, 12, 13, 5, 14, 15, 16, 17, 18, 19, 20, 21, 22, 23, 24, 25, 26, 27, 28, 29, 30, 31, 32, 33, 34, 35, 36, 37, 38, 39, 40, 41, 129, 130, 131, 132, 133, 134, 135, 136, 137, 138, 139, 140, 141, 142, 143, 144, 145, 146, 147, 148, 149, 150, 151, 152, 153, 154] (by decide +kernel) (by decide +kernel)
set_option maxRecDepth 20000 in
theorem gX11_stamped_X11_refusedStamps : GoodIn wsX11_stamped (wsV RX11 314 RX11 yX11_refusedStamps wsX11_refusedStamps) := goodIn_app (goodIn_of _ (by decide +kernel)) ggX11_stamped_X11_refusedStamps
set_option maxRecDepth 20000 in
theorem ggX11_stamped_X11_enterStamps : GoodIn wsX11_stamped wsX11_enterStamps := goodIn_r _ [45, 1, 7, 8, 9, 46, 47, 10, 48, 49, 50, 51, 52, 53, 54, 55, 56, 57, 58, 59, 60, 61, 62, 23, 63, 64, 65, 66, 67, 68, 69, 70, 71, 72, 73, 74, 75, 76, 77, 78, 79, 80, 81, 82, 83, 84, 85, 86, 87, 88, 89, 90, 91, 92, 93, 94, 95, 96, 97, 98, 99, 100, 101, 102, 103, 104, 105, 106, 107, 108, 109, 110, 111, 112, 113, 114, 115, 116, 117, 118, 119, 120, 121, 122, 123, 124, 129, 130, 131, 132, 133, 134, 135, 136, 137, 138, 139, 140, 141, 142, 155, 156, 157, 158, 159, 160, 161, 162, 163, 164, 165, 166, 167, 168, 169, 170, 171, 172, 173, 174, 175, 176, 143, 144, 145, 146, 147, 148, 149, 150, 151, 152, 153, 154, 177, 178, 179, 180, 181, 182, 183, 184, 185, 186, 187, 188] (by decide +kernel) (by decide +kernel)
set_option maxRecDepth 20000 in
theorem gX11_stamped_X11_enterStamps : GoodIn wsX11_stamped (wsV RX11 317 RX11 yX11_enterStamps wsX11_enterStamps) := goodIn_app (goodIn_of _ (by decide +kernel)) ggX11_stamped_X11_enterStamps
set_option maxRecDepth 20000 in
theorem ggX11_stamped_X3_countRows : GoodIn wsX11_stamped wsX3_countRows := goodIn_r _ [128, 53, 172, 173, 174, 175, 176] (by decide +kernel) (by decide +kernel)
set_option maxRecDepth 20000 in
theorem gX11_stamped_X3_countRows : GoodIn wsX11_stamped (wsV RX11 321 RX3 yX3_countRows wsX3_countRows) := goodIn_app (goodIn_of _ (by decide +kernel)) ggX11_stamped_X3_countRows
set_option maxRecDepth 20000 in
theorem ggX11_had_X11_refusedStamps : GoodIn wsX11_had wsX11_refusedStamps := goodIn_r _ [10, 3, 4, 1, 11, 12, 13, 14, 9, 15, 16, 17, 18, 19, 20, 21, 22, 23, 24, 25, 26, 27, 28, 29, 30, 31, 32, 33, 34, 35, 36, 37, 38, 39, 40, 41, 42, 130, 131, 132, 133, 134, 135, 136, 137, 138, 139, 140, 153, 154, 155, 141, 142, 143, 144, 145, 146, 147, 148, 149, 150, 151, 152] (by decide +kernel) (by decide +kernel)
set_option maxRecDepth 20000 in
theorem gX11_had_X11_refusedStamps : GoodIn wsX11_had (wsV RX11 314 RX11 yX11_refusedStamps wsX11_refusedStamps) := goodIn_app (goodIn_of _ (by decide +kernel)) ggX11_had_X11_refusedStamps
set_option maxRecDepth 20000 in
theorem ggX11_had_X11_enterStamps : GoodIn wsX11_had wsX11_enterStamps := goodIn_r _ [46, 5, 3, 4, 1, 47, 48, 11, 49, 50, 51, 52, 53, 54, 55, 56, 57, 58, 59, 60, 61, 62, 63, 24, 64, 65, 66, 67, 68, 69, 70, 71, 72, 73, 74, 75, 76, 77, 78, 79, 80, 81, 82, 83, 84, 85, 86, 87, 88, 89, 90, 91, 92, 93, 94, 95, 96, 97, 98, 99, 100, 101, 102, 103, 104, 105, 106, 107, 108, 109, 110, 111, 112, 113, 114, 115, 116, 117, 118, 119, 120, 121, 122, 123, 124, 125, 130, 131, 132, 133, 134, 135, 136, 137, 138, 139, 140, 153, 154, 155, 156, 157, 158, 159, 160, 161, 162, 163, 164, 165, 166, 167, 168, 169, 170, 171, 172, 173, 174, 175, 176, 177, 141, 142, 143, 144, 145, 146, 147, 148, 149, 150, 151, 152, 178, 179, 180, 181, 182, 183, 184, 185, 186, 187, 188, 189] (by decide +kernel) (by decide +kernel)
set_option maxRecDepth 20000 in
theorem gX11_had_X11_enterStamps : GoodIn wsX11_had (wsV RX11 317 RX11 yX11_enterStamps wsX11_enterStamps) := goodIn_app (goodIn_of _ (by decide +kernel)) ggX11_had_X11_enterStamps
set_option maxRecDepth 20000 in
theorem ggX11_had_X3_countRows : GoodIn wsX11_had wsX3_countRows := goodIn_r _ [129, 54, 173, 174, 175, 176, 177] (by decide +kernel) (by decide +kernel)
set_option maxRecDepth 20000 in
theorem gX11_had_X3_countRows : GoodIn wsX11_had (wsV RX11 321 RX3 yX3_countRows wsX3_countRows) := goodIn_app (goodIn_of _ (by decide +kernel)) ggX11_had_X3_countRows
set_option maxRecDepth 20000 in
theorem ggX11_sure_X11_refusedStamps : GoodIn wsX11_sure wsX11_refusedStamps := goodIn_r _ [6, 7, 8, 9, 10, 11, 12, 13, 5, 14, 15, 16, 17, 18, 19, 20, 21, 22, 23, 24, 25, 26, 27, 28, 29, 30, 31, 32, 33, 34, 35, 36, 37, 38, 39, 40, 41, 133, 134, 135, 136, 137, 138, 139, 140, 141, 142, 143, 144, 145, 146, 147, 148, 149, 150, 151, 152, 153, 154, 155, 156, 157, 158] (by decide +kernel) (by decide +kernel)
set_option maxRecDepth 20000 in
theorem gX11_sure_X11_refusedStamps : GoodIn wsX11_sure (wsV RX11 314 RX11 yX11_refusedStamps wsX11_refusedStamps) := goodIn_app (goodIn_of _ (by decide +kernel)) ggX11_sure_X11_refusedStamps
set_option maxRecDepth 20000 in
theorem ggX11_sure_X11_enterStamps : GoodIn wsX11_sure wsX11_enterStamps := goodIn_r _ [45, 1, 7, 8, 9, 46, 47, 10, 48, 49, 50, 51, 52, 53, 54, 55, 56, 57, 58, 59, 60, 61, 62, 23, 63, 64, 65, 66, 67, 68, 69, 70, 71, 72, 73, 74, 75, 76, 77, 78, 79, 80, 81, 82, 83, 84, 85, 86, 87, 88, 89, 90, 91, 92, 93, 94, 95, 96, 97, 98, 99, 100, 101, 102, 103, 104, 105, 106, 107, 108, 109, 110, 111, 112, 113, 114, 115, 116, 117, 118, 119, 120, 121, 122, 123, 124, 133, 134, 135, 136, 137, 138, 139, 140, 141, 142, 143, 144, 145, 146, 159, 160, 161, 162, 163, 164, 165, 166, 167, 168, 169, 170, 171, 172, 173, 174, 175, 176, 177, 178, 179, 180, 147, 148, 149, 150, 151, 152, 153, 154, 155, 156, 157, 158, 181, 182, 183, 184, 185, 186, 187, 188, 189, 190, 191, 192] (by decide +kernel) (by decide +kernel)
set_option maxRecDepth 20000 in
theorem gX11_sure_X11_enterStamps : GoodIn wsX11_sure (wsV RX11 317 RX11 yX11_enterStamps wsX11_enterStamps) := goodIn_app (goodIn_of _ (by decide +kernel)) ggX11_sure_X11_enterStamps
set_option maxRecDepth 20000 in
theorem ggX11_sure_X3_overInAll : GoodIn wsX11_sure wsX3_overInAll := goodIn_r _ [128, 53, 176, 177, 178, 179, 180] (by decide +kernel) (by decide +kernel)
set_option maxRecDepth 20000 in
theorem gX11_sure_X3_overInAll : GoodIn wsX11_sure (wsV RX11 325 RX3 yX3_overInAll wsX3_overInAll) := goodIn_app (goodIn_of _ (by decide +kernel)) ggX11_sure_X3_overInAll
set_option maxRecDepth 20000 in
theorem ggX11_sure_X3_overInSome : GoodIn wsX11_sure wsX3_overInSome := goodIn_r _ [132, 53, 176, 177, 178, 179, 180] (by decide +kernel) (by decide +kernel)
set_option maxRecDepth 20000 in
theorem gX11_sure_X3_overInSome : GoodIn wsX11_sure (wsV RX11 328 RX3 yX3_overInSome wsX3_overInSome) := goodIn_app (goodIn_of _ (by decide +kernel)) ggX11_sure_X3_overInSome
set_option maxRecDepth 20000 in
theorem ggX11_dared_X11_refusedStamps : GoodIn wsX11_dared wsX11_refusedStamps := goodIn_r _ [6, 7, 8, 9, 10, 11, 12, 13, 5, 14, 15, 16, 17, 18, 19, 20, 21, 22, 23, 24, 25, 26, 27, 28, 29, 30, 31, 32, 33, 34, 35, 36, 37, 38, 39, 40, 41, 129, 130, 131, 132, 133, 134, 135, 136, 137, 138, 139, 140, 141, 142, 143, 144, 145, 146, 147, 148, 149, 150, 151, 152, 153, 154] (by decide +kernel) (by decide +kernel)
set_option maxRecDepth 20000 in
theorem gX11_dared_X11_refusedStamps : GoodIn wsX11_dared (wsV RX11 314 RX11 yX11_refusedStamps wsX11_refusedStamps) := goodIn_app (goodIn_of _ (by decide +kernel)) ggX11_dared_X11_refusedStamps
set_option maxRecDepth 20000 in
theorem ggX11_dared_X11_enterStamps : GoodIn wsX11_dared wsX11_enterStamps := goodIn_r _ [45, 1, 7, 8, 9, 46, 47, 10, 48, 49, 50, 51, 52, 53, 54, 55, 56, 57, 58, 59, 60, 61, 62, 23, 63, 64, 65, 66, 67, 68, 69, 70, 71, 72, 73, 74, 75, 76, 77, 78, 79, 80, 81, 82, 83, 84, 85, 86, 87, 88, 89, 90, 91, 92, 93, 94, 95, 96, 97, 98, 99, 100, 101, 102, 103, 104, 105, 106, 107, 108, 109, 110, 111, 112, 113, 114, 115, 116, 117, 118, 119, 120, 121, 122, 123, 124, 129, 130, 131, 132, 133, 134, 135, 136, 137, 138, 139, 140, 141, 142, 155, 156, 157, 158, 159, 160, 161, 162, 163, 164, 165, 166, 167, 168, 169, 170, 171, 172, 173, 174, 175, 176, 143, 144, 145, 146, 147, 148, 149, 150, 151, 152, 153, 154, 177, 178, 179, 180, 181, 182, 183, 184, 185, 186, 187, 188] (by decide +kernel) (by decide +kernel)
set_option maxRecDepth 20000 in
theorem gX11_dared_X11_enterStamps : GoodIn wsX11_dared (wsV RX11 317 RX11 yX11_enterStamps wsX11_enterStamps) := goodIn_app (goodIn_of _ (by decide +kernel)) ggX11_dared_X11_enterStamps
set_option maxRecDepth 20000 in
theorem ggX11_dared_X3_leastRisk : GoodIn wsX11_dared wsX3_leastRisk := goodIn_r _ [128, 53, 54, 172, 173, 174, 175, 176] (by decide +kernel) (by decide +kernel)
set_option maxRecDepth 20000 in
theorem gX11_dared_X3_leastRisk : GoodIn wsX11_dared (wsV RX11 331 RX3 yX3_leastRisk wsX3_leastRisk) := goodIn_app (goodIn_of _ (by decide +kernel)) ggX11_dared_X3_leastRisk
set_option maxRecDepth 20000 in
theorem ggX11_refusedStamps_X11_refusedSlot : GoodIn wsX11_refusedStamps wsX11_refusedSlot := goodIn_r _ [9, 1, 3, 10, 11, 12, 13, 14, 15, 16, 17, 18, 19, 20, 21, 22, 23, 24, 25, 37, 38, 39, 40, 41, 42, 43, 44, 45, 46, 47, 51, 52, 53, 54, 55, 56, 57, 58, 59, 60, 61, 62, 48, 49, 50] (by decide +kernel) (by decide +kernel)
set_option maxRecDepth 20000 in
theorem gX11_refusedStamps_X11_refusedSlot : GoodIn wsX11_refusedStamps (wsV RX11 290 RX11 yX11_refusedSlot wsX11_refusedSlot) := goodIn_app (goodIn_of _ (by decide +kernel)) ggX11_refusedStamps_X11_refusedSlot
set_option maxRecDepth 20000 in
theorem ggX11_refusedStamps_X0_isStamp : GoodIn wsX11_refusedStamps wsX0_isStamp := goodIn_r _ [29, 30, 31, 32, 33, 34, 18, 35, 36, 51, 52, 53, 54, 55, 56, 57, 58, 59, 60, 61, 62] (by decide +kernel) (by decide +kernel)
set_option maxRecDepth 20000 in
theorem gX11_refusedStamps_X0_isStamp : GoodIn wsX11_refusedStamps (wsV RX11 334 RX0 yX0_isStamp wsX0_isStamp) := goodIn_app (goodIn_of _ (by decide +kernel)) ggX11_refusedStamps_X0_isStamp
set_option maxRecDepth 20000 in
theorem ggX11_enterStamps_X3_open : GoodIn wsX11_enterStamps wsX3_open := goodIn_r _ [12, 13, 14, 15, 16, 17, 18, 19, 117, 118, 119, 120, 121] (by decide +kernel) (by decide +kernel)
set_option maxRecDepth 20000 in
theorem gX11_enterStamps_X3_open : GoodIn wsX11_enterStamps (wsV RX11 337 RX3 yX3_open wsX3_open) := goodIn_app (goodIn_of _ (by decide +kernel)) ggX11_enterStamps_X3_open
set_option maxRecDepth 20000 in
theorem ggX11_enterStamps_X0_everyone : GoodIn wsX11_enterStamps wsX0_everyone := goodIn_r _ [24, 25, 122, 123, 124, 125, 126, 127, 128, 129, 130, 131, 132, 133] (by decide +kernel) (by decide +kernel)
set_option maxRecDepth 20000 in
theorem gX11_enterStamps_X0_everyone : GoodIn wsX11_enterStamps (wsV RX11 261 RX0 yX0_everyone wsX0_everyone) := goodIn_app (goodIn_of _ (by decide +kernel)) ggX11_enterStamps_X0_everyone
set_option maxRecDepth 20000 in
theorem ggX11_enterStamps_X3_enter : GoodIn wsX11_enterStamps wsX3_enter := goodIn_r _ [29, 30, 13, 15, 31, 32, 33, 34, 35, 36, 37, 14, 16, 17, 18, 19, 38, 39, 40, 41, 42, 43, 44, 45, 46, 47, 48, 49, 50, 51, 52, 53, 54, 55, 23, 56, 57, 58, 59, 60, 61, 62, 63, 64, 65, 66, 67, 68, 69, 70, 71, 72, 73, 74, 75, 76, 77, 11, 78, 79, 80, 81, 82, 83, 84, 85, 117, 118, 119, 120, 121, 134, 135, 136, 137, 138, 139, 140, 141, 142, 143, 144, 145, 122, 123, 124, 125, 126, 127, 128, 129, 130, 131, 132, 133] (by decide +kernel) (by decide +kernel)
set_option maxRecDepth 20000 in
theorem gX11_enterStamps_X3_enter : GoodIn wsX11_enterStamps (wsV RX11 344 RX3 yX3_enter wsX3_enter) := goodIn_app (goodIn_of _ (by decide +kernel)) ggX11_enterStamps_X3_enter
set_option maxRecDepth 20000 in
theorem ggX11_alone_X0_hasPost : GoodIn wsX11_alone wsX0_hasPost := goodIn_r _ [7, 8, 20, 21, 22, 23, 24, 25, 26, 27, 28, 29, 30, 31] (by decide +kernel) (by decide +kernel)
set_option maxRecDepth 20000 in
theorem gX11_alone_X0_hasPost : GoodIn wsX11_alone (wsV RX11 121 RX0 yX0_hasPost wsX0_hasPost) := goodIn_app (goodIn_of _ (by decide +kernel)) ggX11_alone_X0_hasPost
set_option maxRecDepth 20000 in
theorem ggX11_worth_X0_hasPerson : GoodIn wsX11_worth wsX0_hasPerson := goodIn_r _ [7, 8, 202, 203, 204, 205, 206, 207, 208, 209, 210, 211, 212, 213] (by decide +kernel) (by decide +kernel)
set_option maxRecDepth 20000 in
theorem gX11_worth_X0_hasPerson : GoodIn wsX11_worth (wsV RX11 101 RX0 yX0_hasPerson wsX0_hasPerson) := goodIn_app (goodIn_of _ (by decide +kernel)) ggX11_worth_X0_hasPerson
set_option maxRecDepth 20000 in
theorem ggX11_worth_X7_canCome : GoodIn wsX11_worth wsX7_canCome := goodIn_r _ [13, 14, 15, 16, 17, 12, 18, 19, 20, 21, 22, 23, 24, 25, 26, 27, 28, 29, 30, 31, 32, 33, 34, 35, 36, 37, 38, 39, 40, 41, 42, 43, 44, 45, 46, 47, 48, 49, 50, 51, 52, 53, 54, 55, 56, 57, 58, 59, 60, 6, 61, 62, 63, 64, 65, 66, 67, 68, 69, 70, 71, 72, 73, 74, 75, 76, 77, 78, 79, 80, 81, 82, 83, 84, 85, 86, 87, 88, 89, 90, 91, 92, 93, 94, 95, 96, 97, 98, 99, 100, 101, 102, 103, 104, 105, 106, 107, 108, 109, 110, 111, 112, 113, 114, 115, 8, 116, 117, 118, 119, 120, 121, 122, 123, 124, 125, 126, 127, 128, 129, 130, 131, 132, 133, 134, 135, 136, 137, 138, 139, 140, 141, 142, 143, 144, 145, 146, 147, 148, 149, 150, 151, 152, 153, 154, 155, 156, 157, 158, 214, 215, 216, 217, 218, 219, 220, 221, 222, 223, 224, 225, 226, 227, 228, 229, 230, 231, 232, 233, 234, 235, 236, 237, 238, 239, 240, 241, 242, 243, 244, 245, 246, 247, 248, 249, 250, 251, 252, 253, 254, 255, 256, 257, 258, 259, 260, 261, 202, 203, 204, 205, 206, 207, 208, 209, 210, 211, 212, 213] (by decide +kernel) (by decide +kernel)
set_option maxRecDepth 20000 in
theorem gX11_worth_X7_canCome : GoodIn wsX11_worth (wsV RX11 202 RX7 yX7_canCome wsX7_canCome) := goodIn_app (goodIn_of _ (by decide +kernel)) ggX11_worth_X7_canCome
set_option maxRecDepth 20000 in
theorem ggX11_worth_X7_gain : GoodIn wsX11_worth wsX7_gain := goodIn_r _ [162, 163, 87, 164, 165, 166, 145, 167, 168, 169, 170, 20, 15, 16, 17, 12, 18, 19, 21, 22, 23, 24, 25, 26, 27, 28, 29, 30, 31, 32, 33, 34, 35, 36, 37, 38, 39, 40, 41, 42, 43, 44, 45, 46, 47, 48, 49, 50, 51, 52, 53, 54, 55, 56, 57, 58, 59, 60, 6, 61, 62, 63, 64, 65, 66, 67, 68, 69, 70, 71, 72, 73, 74, 75, 76, 77, 78, 79, 80, 81, 171, 172, 173, 174, 175, 176, 177, 8, 178, 102, 179, 180, 181, 182, 183, 184, 120, 103, 185, 186, 82, 83, 84, 85, 86, 88, 89, 90, 91, 92, 93, 94, 95, 96, 97, 98, 99, 100, 101, 104, 105, 106, 107, 108, 109, 110, 111, 112, 113, 114, 115, 116, 117, 118, 119, 121, 122, 123, 124, 125, 126, 127, 128, 129, 130, 131, 132, 133, 134, 135, 136, 137, 138, 139, 140, 141, 142, 143, 144, 146, 147, 148, 149, 150, 151, 152, 187, 188, 189, 190, 157, 214, 215, 216, 217, 218, 219, 220, 221, 222, 223, 224, 225, 226, 227, 228, 229, 230, 202, 203, 204, 205, 206, 207, 208, 209, 210, 211, 212, 213, 231, 232, 233, 234, 235, 236, 237, 238, 239, 240, 241, 242, 243, 244, 245, 246, 247, 248, 249, 250, 251, 252, 253, 254, 255, 256, 257, 258, 259, 260, 261] (by decide +kernel) (by decide +kernel)
set_option maxRecDepth 20000 in
theorem gX11_worth_X7_gain : GoodIn wsX11_worth (wsV RX11 348 RX7 yX7_gain wsX7_gain) := goodIn_app (goodIn_of _ (by decide +kernel)) ggX11_worth_X7_gain
set_option maxRecDepth 20000 in
theorem ggX11_whom_X0_isTold : GoodIn wsX11_whom wsX0_isTold := goodIn_r _ [8, 9, 203, 204, 205, 206, 207, 208, 209, 210, 211, 212, 213, 214] (by decide +kernel) (by decide +kernel)
set_option maxRecDepth 20000 in
theorem gX11_whom_X0_isTold : GoodIn wsX11_whom (wsV RX11 146 RX0 yX0_isTold wsX0_isTold) := goodIn_app (goodIn_of _ (by decide +kernel)) ggX11_whom_X0_isTold
set_option maxRecDepth 20000 in
theorem ggX11_whom_X7_canCome : GoodIn wsX11_whom wsX7_canCome := goodIn_r _ [14, 15, 16, 17, 18, 13, 19, 20, 21, 22, 23, 24, 25, 26, 27, 28, 29, 30, 31, 32, 33, 34, 35, 36, 37, 38, 39, 40, 41, 42, 43, 44, 45, 46, 47, 48, 49, 50, 51, 52, 53, 54, 55, 56, 57, 58, 59, 60, 61, 7, 62, 63, 64, 65, 66, 67, 68, 69, 70, 71, 72, 73, 74, 75, 76, 77, 78, 79, 80, 81, 82, 83, 84, 85, 86, 87, 88, 89, 90, 91, 92, 93, 94, 95, 96, 97, 98, 99, 100, 101, 102, 103, 104, 105, 106, 107, 108, 109, 110, 111, 112, 113, 114, 115, 116, 117, 118, 119, 120, 121, 122, 123, 124, 125, 126, 127, 128, 129, 130, 131, 132, 133, 134, 135, 136, 137, 138, 139, 140, 141, 142, 143, 144, 145, 146, 147, 148, 149, 150, 151, 152, 153, 154, 155, 156, 157, 158, 159, 160, 215, 216, 217, 218, 219, 220, 221, 222, 223, 224, 225, 226, 227, 228, 229, 230, 231, 232, 233, 234, 235, 236, 237, 238, 239, 240, 241, 242, 243, 244, 245, 246, 247, 248, 249, 250, 251, 252, 253, 254, 255, 256, 257, 258, 259, 260, 261, 262, 203, 204, 205, 206, 207, 208, 209, 210, 211, 212, 213, 214] (by decide +kernel) (by decide +kernel)
set_option maxRecDepth 20000 in
theorem gX11_whom_X7_canCome : GoodIn wsX11_whom (wsV RX11 202 RX7 yX7_canCome wsX7_canCome) := goodIn_app (goodIn_of _ (by decide +kernel)) ggX11_whom_X7_canCome
set_option maxRecDepth 20000 in
theorem ggX11_whom_X7_gain : GoodIn wsX11_whom wsX7_gain := goodIn_r _ [164, 165, 88, 166, 167, 168, 147, 169, 170, 171, 172, 21, 16, 17, 18, 13, 19, 20, 22, 23, 24, 25, 26, 27, 28, 29, 30, 31, 32, 33, 34, 35, 36, 37, 38, 39, 40, 41, 42, 43, 44, 45, 46, 47, 48, 49, 50, 51, 52, 53, 54, 55, 56, 57, 58, 59, 60, 61, 7, 62, 63, 64, 65, 66, 67, 68, 69, 70, 71, 72, 73, 74, 75, 76, 77, 78, 79, 80, 81, 82, 173, 174, 175, 176, 9, 177, 178, 117, 179, 103, 180, 181, 182, 183, 184, 185, 122, 104, 186, 187, 83, 84, 85, 86, 87, 89, 90, 91, 92, 93, 94, 95, 96, 97, 98, 99, 100, 101, 102, 105, 106, 107, 108, 109, 110, 111, 112, 113, 114, 115, 116, 118, 119, 120, 121, 123, 124, 125, 126, 127, 128, 129, 130, 131, 132, 133, 134, 135, 136, 137, 138, 139, 140, 141, 142, 143, 144, 145, 146, 148, 149, 150, 151, 152, 153, 154, 188, 189, 190, 191, 159, 215, 216, 217, 218, 219, 220, 221, 222, 223, 224, 225, 226, 227, 228, 229, 230, 231, 203, 204, 205, 206, 207, 208, 209, 210, 211, 212, 213, 214, 232, 233, 234, 235, 236, 237, 238, 239, 240, 241, 242, 243, 244, 245, 246, 247, 248, 249, 250, 251, 252, 253, 254, 255, 256, 257, 258, 259, 260, 261, 262] (by decide +kernel) (by decide +kernel)
set_option maxRecDepth 20000 in
theorem gX11_whom_X7_gain : GoodIn wsX11_whom (wsV RX11 348 RX7 yX7_gain wsX7_gain) := goodIn_app (goodIn_of _ (by decide +kernel)) ggX11_whom_X7_gain
set_option maxRecDepth 20000 in
theorem ggX11_blur_X0_hasPost : GoodIn wsX11_blur wsX0_hasPost := goodIn_r _ [7, 8, 171, 172, 173, 174, 175, 176, 177, 178, 179, 180, 181, 182] (by decide +kernel) (by decide +kernel)
set_option maxRecDepth 20000 in
theorem gX11_blur_X0_hasPost : GoodIn wsX11_blur (wsV RX11 121 RX0 yX0_hasPost wsX0_hasPost) := goodIn_app (goodIn_of _ (by decide +kernel)) ggX11_blur_X0_hasPost
set_option maxRecDepth 20000 in
theorem ggX11_blur_X7_leastKeen : GoodIn wsX11_blur wsX7_leastKeen := goodIn_r _ [13, 14, 15, 16, 17, 18, 19, 6, 20, 21, 22, 23, 24, 8, 25, 26, 27, 28, 29, 30, 31, 32, 33, 34, 35, 36, 37, 38, 12, 39, 40, 41, 42, 43, 44, 45, 46, 47, 48, 49, 50, 51, 52, 53, 54, 55, 56, 57, 58, 59, 60, 61, 62, 63, 64, 65, 66, 67, 68, 69, 70, 71, 72, 73, 74, 75, 76, 77, 78, 79, 80, 81, 82, 83, 84, 85, 86, 87, 88, 89, 90, 91, 92, 93, 94, 95, 96, 97, 98, 99, 100, 101, 102, 103, 104, 105, 106, 107, 108, 109, 110, 111, 112, 113, 114, 115, 116, 117, 118, 119, 120, 121, 122, 123, 124, 125, 126, 127, 128, 129, 130, 131, 132, 133, 134, 135, 136, 137, 138, 139, 140, 141, 142, 143, 144, 145, 146, 147, 148, 149, 150, 151, 152, 153, 154, 155, 156, 157, 158, 159, 183, 184, 185, 186, 187, 188, 189, 190, 191, 192, 193, 194, 195, 196, 197, 198, 199, 171, 172, 173, 174, 175, 176, 177, 178, 179, 180, 181, 182, 200, 201, 202, 203, 204, 205, 206, 207, 208, 209, 210, 211, 212, 213, 214, 215, 216, 217, 218, 219, 220, 221, 222, 223] (by decide +kernel) (by decide +kernel)
set_option maxRecDepth 20000 in
theorem gX11_blur_X7_leastKeen : GoodIn wsX11_blur (wsV RX11 351 RX7 yX7_leastKeen wsX7_leastKeen) := goodIn_app (goodIn_of _ (by decide +kernel)) ggX11_blur_X7_leastKeen
set_option maxRecDepth 20000 in
theorem ggX11_looks_X0_hasPost : GoodIn wsX11_looks wsX0_hasPost := goodIn_r _ [7, 8, 171, 172, 173, 174, 175, 176, 177, 178, 179, 180, 181, 182] (by decide +kernel) (by decide +kernel)
set_option maxRecDepth 20000 in
theorem gX11_looks_X0_hasPost : GoodIn wsX11_looks (wsV RX11 121 RX0 yX0_hasPost wsX0_hasPost) := goodIn_app (goodIn_of _ (by decide +kernel)) ggX11_looks_X0_hasPost
set_option maxRecDepth 20000 in
theorem ggX11_looks_X7_greatestLooks : GoodIn wsX11_looks wsX7_greatestLooks := goodIn_r _ [13, 14, 15, 16, 17, 18, 19, 6, 20, 21, 22, 23, 24, 8, 25, 26, 27, 28, 29, 30, 31, 32, 33, 34, 35, 36, 37, 38, 12, 39, 40, 41, 42, 43, 44, 45, 46, 47, 48, 49, 50, 51, 52, 53, 54, 55, 56, 57, 58, 59, 60, 61, 62, 63, 64, 65, 66, 67, 68, 69, 70, 71, 72, 73, 74, 75, 76, 77, 78, 79, 80, 81, 82, 83, 84, 85, 86, 87, 88, 89, 90, 91, 92, 93, 94, 95, 96, 97, 98, 99, 100, 101, 102, 103, 104, 105, 106, 107, 108, 109, 110, 111, 112, 113, 114, 115, 116, 117, 118, 119, 120, 121, 122, 123, 124, 125, 126, 127, 128, 129, 130, 131, 132, 133, 134, 135, 136, 137, 138, 139, 140, 141, 142, 143, 144, 145, 146, 147, 148, 149, 150, 151, 152, 153, 154, 155, 156, 157, 158, 159, 183, 184, 185, 186, 187, 188, 189, 190, 191, 192, 193, 194, 195, 196, 197, 198, 199, 171, 172, 173, 174, 175, 176, 177, 178, 179, 180, 181, 182, 200, 201, 202, 203, 204, 205, 206, 207, 208, 209, 210, 211, 212, 213, 214, 215, 216, 217, 218, 219, 220, 221, 222, 223] (by decide +kernel) (by decide +kernel)
set_option maxRecDepth 20000 in
theorem gX11_looks_X7_greatestLooks : GoodIn wsX11_looks (wsV RX11 354 RX7 yX7_greatestLooks wsX7_greatestLooks) := goodIn_app (goodIn_of _ (by decide +kernel)) ggX11_looks_X7_greatestLooks
set_option maxRecDepth 20000 in
theorem ggX11_drawn_X0_isTold : GoodIn wsX11_drawn wsX0_isTold := goodIn_r _ [8, 9, 249, 250, 251, 252, 253, 254, 255, 256, 257, 258, 259, 260] (by decide +kernel) (by decide +kernel)
set_option maxRecDepth 20000 in
theorem gX11_drawn_X0_isTold : GoodIn wsX11_drawn (wsV RX11 146 RX0 yX0_isTold wsX0_isTold) := goodIn_app (goodIn_of _ (by decide +kernel)) ggX11_drawn_X0_isTold
set_option maxRecDepth 20000 in
theorem ggX11_drawn_X11_isSeed : GoodIn wsX11_drawn wsX11_isSeed := goodIn_r _ [13, 14] (by decide +kernel) (by decide +kernel)
set_option maxRecDepth 20000 in
theorem gX11_drawn_X11_isSeed : GoodIn wsX11_drawn (va_wsS RX11 357 yX11_isSeed wsX11_isSeed) := goodIn_app (goodIn_of _ (by decide +kernel)) ggX11_drawn_X11_isSeed
set_option maxRecDepth 20000 in
theorem ggX11_drawn_X7_canCome : GoodIn wsX11_drawn wsX7_canCome := goodIn_r _ [19, 20, 21, 22, 23, 18, 24, 25, 26, 27, 28, 29, 30, 31, 32, 33, 34, 35, 36, 37, 38, 39, 40, 41, 42, 43, 44, 45, 46, 47, 48, 49, 50, 51, 52, 53, 54, 55, 56, 57, 58, 59, 60, 61, 62, 63, 64, 65, 66, 7, 67, 68, 69, 70, 71, 72, 73, 74, 75, 76, 77, 78, 79, 80, 81, 82, 83, 84, 85, 86, 87, 88, 89, 90, 91, 92, 93, 94, 95, 96, 97, 98, 99, 100, 101, 102, 103, 104, 105, 106, 107, 108, 109, 110, 111, 112, 113, 114, 115, 116, 117, 118, 119, 120, 121, 122, 123, 124, 125, 126, 127, 128, 129, 130, 131, 132, 133, 134, 135, 136, 137, 138, 139, 140, 141, 142, 143, 144, 145, 146, 147, 148, 149, 150, 151, 152, 153, 154, 155, 156, 157, 158, 159, 160, 161, 162, 163, 164, 165, 232, 233, 234, 235, 236, 237, 238, 239, 240, 241, 242, 243, 244, 245, 246, 247, 248, 261, 262, 263, 264, 265, 266, 267, 268, 269, 270, 271, 272, 273, 274, 275, 276, 277, 278, 279, 280, 281, 282, 283, 284, 285, 286, 287, 288, 289, 290, 291, 249, 250, 251, 252, 253, 254, 255, 256, 257, 258, 259, 260] (by decide +kernel) (by decide +kernel)
set_option maxRecDepth 20000 in
theorem gX11_drawn_X7_canCome : GoodIn wsX11_drawn (wsV RX11 202 RX7 yX7_canCome wsX7_canCome) := goodIn_app (goodIn_of _ (by decide +kernel)) ggX11_drawn_X7_canCome
set_option maxRecDepth 20000 in
theorem ggX11_drawn_X11_caughtAt : GoodIn wsX11_drawn wsX11_caughtAt := goodIn_r _ [169, 2, 3, 170, 171, 172, 173, 174, 175, 1, 176, 177, 178, 18, 179, 180, 21, 22, 23, 24, 25, 26, 27, 28, 29, 30, 31, 32, 33, 34, 35, 36, 37, 38, 39, 40, 41, 42, 43, 44, 45, 46, 47, 48, 49, 50, 51, 52, 53, 54, 55, 56, 57, 58, 59, 60, 61, 62, 63, 64, 65, 66, 7, 67, 68, 69, 70, 71, 72, 73, 74, 75, 76, 77, 78, 79, 80, 81, 82, 83, 84, 85, 86, 87, 88, 89, 90, 91, 92, 93, 94, 95, 96, 97, 98, 99, 100, 101, 102, 103, 104, 105, 106, 107, 108, 109, 110, 111, 112, 113, 114, 115, 116, 117, 118, 119, 120, 121, 122, 123, 124, 125, 126, 127, 128, 129, 130, 131, 132, 133, 134, 135, 136, 137, 138, 139, 140, 141, 142, 143, 144, 145, 146, 147, 148, 149, 150, 151, 152, 153, 154, 155, 156, 157, 158, 159, 181, 182, 183, 184, 185, 186, 187, 188, 189, 190, 191, 192, 193, 194, 195, 196, 197, 198, 199, 200, 201, 202, 203, 204, 205, 206, 207, 208, 209, 221, 222, 223, 224, 225, 226, 227, 228, 229, 230, 231, 232, 233, 234, 235, 236, 237, 238, 239, 240, 241, 242, 243, 244, 245, 246, 247, 248, 261, 262, 263, 264, 265, 266, 267, 268, 269, 270, 271, 272, 273, 274, 275, 276, 277, 278, 279, 280, 281, 282, 283, 284, 285, 286, 287, 288, 289, 290, 291, 249, 250, 251, 252, 253, 254, 255, 256, 257, 258, 259, 260, 292, 293, 294] (by decide +kernel) (by decide +kernel)
set_option maxRecDepth 20000 in
theorem gX11_drawn_X11_caughtAt : GoodIn wsX11_drawn (wsV RX11 360 RX11 yX11_caughtAt wsX11_caughtAt) := goodIn_app (goodIn_of _ (by decide +kernel)) ggX11_drawn_X11_caughtAt
set_option maxRecDepth 20000 in
theorem ggX11_drawn_X0_goal : GoodIn wsX11_drawn wsX0_goal := goodIn_r _ [117, 118, 119, 120, 7, 121, 122, 123, 124, 125, 126, 127, 128, 129, 130, 131, 249, 250, 251, 252, 253, 254, 255, 256, 257, 258, 259, 260] (by decide +kernel) (by decide +kernel)
set_option maxRecDepth 20000 in
theorem gX11_drawn_X0_goal : GoodIn wsX11_drawn (wsV RX11 279 RX0 yX0_goal wsX0_goal) := goodIn_app (goodIn_of _ (by decide +kernel)) ggX11_drawn_X0_goal
set_option maxRecDepth 20000 in
theorem ggX11_drawn_X7_rowOf : GoodIn wsX11_drawn wsX7_rowOf := goodIn_r _ [179, 180, 21, 22, 23, 18, 24, 25, 26, 27, 28, 29, 30, 31, 32, 33, 34, 35, 36, 37, 38, 39, 40, 41, 42, 43, 44, 45, 46, 47, 48, 49, 50, 51, 52, 53, 54, 55, 56, 57, 58, 59, 60, 61, 62, 63, 64, 65, 66, 7, 67, 68, 69, 70, 71, 72, 73, 74, 75, 76, 77, 78, 79, 80, 81, 82, 83, 84, 85, 86, 87, 88, 89, 90, 91, 92, 93, 94, 95, 96, 97, 98, 99, 100, 101, 102, 103, 104, 105, 106, 107, 108, 109, 110, 111, 112, 113, 114, 115, 116, 117, 118, 119, 120, 121, 122, 123, 124, 125, 126, 127, 128, 129, 130, 131, 132, 133, 134, 135, 136, 137, 138, 139, 140, 141, 142, 143, 144, 145, 146, 147, 148, 149, 150, 151, 152, 153, 154, 155, 156, 157, 158, 159, 181, 182, 183, 184, 185, 186, 187, 232, 233, 234, 235, 236, 237, 238, 239, 240, 241, 242, 243, 244, 245, 246, 247, 248, 261, 262, 263, 264, 265, 266, 267, 268, 269, 270, 271, 272, 273, 274, 275, 276, 277, 278, 279, 280, 281, 282, 283, 284, 285, 286, 287, 288, 289, 290, 291, 249, 250, 251, 252, 253, 254, 255, 256, 257, 258, 259, 260, 292, 293, 294] (by decide +kernel) (by decide +kernel)
set_option maxRecDepth 20000 in
theorem gX11_drawn_X7_rowOf : GoodIn wsX11_drawn (wsV RX11 234 RX7 yX7_rowOf wsX7_rowOf) := goodIn_app (goodIn_of _ (by decide +kernel)) ggX11_drawn_X7_rowOf
set_option maxRecDepth 20000 in
theorem ggX11_drawn_X5_skip : GoodIn wsX11_drawn wsX5_skip := goodIn_r _ [214, 215, 189, 190, 184, 191, 186, 192, 187, 193, 194, 195, 32, 196, 136, 34, 137, 41, 73, 149, 154, 155, 156, 157, 158, 159, 197, 198, 292, 293, 294, 288, 289, 290, 291, 261, 262, 263, 264, 265, 266] (by decide +kernel) (by decide +kernel)
set_option maxRecDepth 20000 in
theorem gX11_drawn_X5_skip : GoodIn wsX11_drawn (wsV RX11 273 RX5 yX5_skip wsX5_skip) := goodIn_app (goodIn_of _ (by decide +kernel)) ggX11_drawn_X5_skip
set_option maxRecDepth 20000 in
theorem ggX11_drawn_X5_overNow : GoodIn wsX11_drawn wsX5_overNow := goodIn_r _ [219, 192, 187, 220, 139, 140, 32, 141, 34, 36, 142, 143, 44, 144, 292, 293, 294, 261, 262, 263, 264, 265, 266] (by decide +kernel) (by decide +kernel)
set_option maxRecDepth 20000 in
theorem gX11_drawn_X5_overNow : GoodIn wsX11_drawn (wsV RX11 276 RX5 yX5_overNow wsX5_overNow) := goodIn_app (goodIn_of _ (by decide +kernel)) ggX11_drawn_X5_overNow
set_option maxRecDepth 20000 in
theorem ggX11_luck_X0_isTold : GoodIn wsX11_luck wsX0_isTold := goodIn_r _ [7, 8, 221, 222, 223, 224, 225, 226, 227, 228, 229, 230, 231, 232] (by decide +kernel) (by decide +kernel)
set_option maxRecDepth 20000 in
theorem gX11_luck_X0_isTold : GoodIn wsX11_luck (wsV RX11 146 RX0 yX0_isTold wsX0_isTold) := goodIn_app (goodIn_of _ (by decide +kernel)) ggX11_luck_X0_isTold
set_option maxRecDepth 20000 in
theorem ggX11_luck_X11_isSeed : GoodIn wsX11_luck wsX11_isSeed := goodIn_r _ [12, 13] (by decide +kernel) (by decide +kernel)
set_option maxRecDepth 20000 in
theorem gX11_luck_X11_isSeed : GoodIn wsX11_luck (va_wsS RX11 357 yX11_isSeed wsX11_isSeed) := goodIn_app (goodIn_of _ (by decide +kernel)) ggX11_luck_X11_isSeed
set_option maxRecDepth 20000 in
theorem ggX11_luck_X7_canCome : GoodIn wsX11_luck wsX7_canCome := goodIn_r _ [18, 19, 20, 21, 22, 17, 23, 24, 25, 26, 27, 28, 29, 30, 31, 32, 33, 34, 35, 36, 37, 38, 39, 40, 41, 42, 43, 44, 45, 46, 47, 48, 49, 50, 51, 52, 53, 54, 55, 56, 57, 58, 59, 60, 61, 62, 63, 64, 65, 6, 66, 67, 68, 69, 70, 71, 72, 73, 74, 75, 76, 77, 78, 79, 80, 81, 82, 83, 84, 85, 86, 87, 88, 89, 90, 91, 92, 93, 94, 95, 96, 97, 98, 99, 100, 101, 102, 103, 104, 105, 106, 107, 108, 109, 110, 111, 112, 113, 114, 115, 116, 117, 118, 119, 120, 121, 122, 123, 124, 125, 126, 127, 128, 129, 130, 131, 132, 133, 134, 135, 136, 137, 138, 139, 140, 141, 142, 143, 144, 145, 146, 147, 148, 149, 150, 151, 152, 153, 154, 155, 156, 157, 158, 159, 160, 161, 162, 163, 164, 233, 234, 235, 236, 237, 238, 239, 240, 241, 242, 243, 244, 245, 246, 247, 248, 249, 250, 251, 252, 253, 254, 255, 256, 257, 258, 259, 260, 261, 262, 263, 264, 265, 266, 267, 268, 269, 270, 271, 272, 273, 274, 275, 276, 277, 278, 279, 280, 221, 222, 223, 224, 225, 226, 227, 228, 229, 230, 231, 232] (by decide +kernel) (by decide +kernel)
set_option maxRecDepth 20000 in
theorem gX11_luck_X7_canCome : GoodIn wsX11_luck (wsV RX11 202 RX7 yX7_canCome wsX7_canCome) := goodIn_app (goodIn_of _ (by decide +kernel)) ggX11_luck_X7_canCome
set_option maxRecDepth 20000 in
theorem ggX11_luck_X11_caughtAt : GoodIn wsX11_luck wsX11_caughtAt := goodIn_r _ [168, 2, 169, 170, 171, 172, 173, 174, 175, 1, 176, 177, 178, 17, 179, 180, 20, 21, 22, 23, 24, 25, 26, 27, 28, 29, 30, 31, 32, 33, 34, 35, 36, 37, 38, 39, 40, 41, 42, 43, 44, 45, 46, 47, 48, 49, 50, 51, 52, 53, 54, 55, 56, 57, 58, 59, 60, 61, 62, 63, 64, 65, 6, 66, 67, 68, 69, 70, 71, 72, 73, 74, 75, 76, 77, 78, 79, 80, 81, 82, 83, 84, 85, 86, 87, 88, 89, 90, 91, 92, 93, 94, 95, 96, 97, 98, 99, 100, 101, 102, 103, 104, 105, 106, 107, 108, 109, 110, 111, 112, 113, 114, 115, 116, 117, 118, 119, 120, 121, 122, 123, 124, 125, 126, 127, 128, 129, 130, 131, 132, 133, 134, 135, 136, 137, 138, 139, 140, 141, 142, 143, 144, 145, 146, 147, 148, 149, 150, 151, 152, 153, 154, 155, 156, 157, 158, 181, 182, 183, 184, 185, 186, 187, 188, 189, 190, 191, 192, 193, 194, 195, 196, 197, 198, 199, 200, 201, 202, 203, 204, 205, 206, 207, 208, 209, 210, 211, 212, 213, 214, 215, 216, 217, 218, 219, 220, 233, 234, 235, 236, 237, 238, 239, 240, 241, 242, 243, 244, 245, 246, 247, 248, 249, 250, 251, 252, 253, 254, 255, 256, 257, 258, 259, 260, 261, 262, 263, 264, 265, 266, 267, 268, 269, 270, 271, 272, 273, 274, 275, 276, 277, 278, 279, 280, 221, 222, 223, 224, 225, 226, 227, 228, 229, 230, 231, 232, 281, 282, 283] (by decide +kernel) (by decide +kernel)
set_option maxRecDepth 20000 in
theorem gX11_luck_X11_caughtAt : GoodIn wsX11_luck (wsV RX11 360 RX11 yX11_caughtAt wsX11_caughtAt) := goodIn_app (goodIn_of _ (by decide +kernel)) ggX11_luck_X11_caughtAt
set_option maxRecDepth 20000 in
theorem ggX11_caughtAt_X7_rowOf : GoodIn wsX11_caughtAt wsX7_rowOf := goodIn_r _ [14, 15, 16, 17, 18, 13, 19, 20, 21, 22, 23, 24, 25, 26, 27, 28, 29, 30, 31, 32, 33, 34, 35, 36, 37, 38, 39, 40, 41, 42, 43, 44, 45, 46, 47, 48, 49, 50, 51, 52, 53, 54, 55, 56, 57, 58, 59, 60, 61, 62, 63, 64, 65, 66, 67, 68, 69, 70, 71, 72, 73, 74, 75, 76, 77, 78, 79, 80, 81, 82, 83, 84, 85, 86, 87, 88, 89, 90, 91, 92, 93, 94, 95, 96, 97, 98, 99, 100, 101, 102, 103, 104, 105, 106, 107, 108, 109, 110, 111, 112, 113, 114, 115, 116, 117, 118, 119, 120, 121, 122, 123, 124, 125, 126, 127, 128, 129, 130, 131, 132, 133, 134, 135, 136, 137, 138, 139, 140, 141, 142, 143, 144, 145, 146, 147, 148, 149, 150, 151, 152, 153, 154, 155, 156, 157, 158, 159, 160, 161, 162, 196, 197, 198, 199, 200, 201, 202, 203, 204, 205, 206, 207, 208, 209, 210, 211, 212, 213, 214, 215, 216, 217, 218, 219, 220, 221, 222, 223, 224, 225, 226, 227, 228, 229, 230, 231, 232, 233, 234, 235, 236, 237, 238, 239, 240, 241, 242, 243, 244, 245, 246, 247, 248, 249, 250, 251, 252, 253, 254, 255, 256, 257, 258] (by decide +kernel) (by decide +kernel)
set_option maxRecDepth 20000 in
theorem gX11_caughtAt_X7_rowOf : GoodIn wsX11_caughtAt (wsV RX11 234 RX7 yX7_rowOf wsX7_rowOf) := goodIn_app (goodIn_of _ (by decide +kernel)) ggX11_caughtAt_X7_rowOf
set_option maxRecDepth 20000 in
theorem ggX11_caughtAt_X5_take : GoodIn wsX11_caughtAt wsX5_take := goodIn_r _ [166, 161, 167, 162, 168, 169, 170, 27, 171, 132, 29, 133, 36, 69, 145, 150, 151, 152, 153, 154, 155, 172, 173, 256, 257, 258, 240, 241, 242, 243, 213, 214, 215, 216, 217, 218] (by decide +kernel) (by decide +kernel)
set_option maxRecDepth 20000 in
theorem gX11_caughtAt_X5_take : GoodIn wsX11_caughtAt (wsV RX11 241 RX5 yX5_take wsX5_take) := goodIn_app (goodIn_of _ (by decide +kernel)) ggX11_caughtAt_X5_take
set_option maxRecDepth 20000 in
theorem ggX11_caughtAt_X0_riskOfAct : GoodIn wsX11_caughtAt wsX0_riskOfAct := goodIn_r _ [177, 178, 179, 62, 180, 181, 182, 183, 184, 101, 102, 103, 104, 105, 244, 245, 246, 247, 248, 249, 250, 251, 252, 253, 254, 255] (by decide +kernel) (by decide +kernel)
set_option maxRecDepth 20000 in
theorem gX11_caughtAt_X0_riskOfAct : GoodIn wsX11_caughtAt (wsV RX11 246 RX0 yX0_riskOfAct wsX0_riskOfAct) := goodIn_app (goodIn_of _ (by decide +kernel)) ggX11_caughtAt_X0_riskOfAct
set_option maxRecDepth 20000 in
theorem ggX11_grow_X0_hasPerson : GoodIn wsX11_grow wsX0_hasPerson := goodIn_r _ [8, 9, 28, 29, 30, 31, 32, 33, 34, 35, 36, 37, 38, 39] (by decide +kernel) (by decide +kernel)
set_option maxRecDepth 20000 in
theorem gX11_grow_X0_hasPerson : GoodIn wsX11_grow (wsV RX11 101 RX0 yX0_hasPerson wsX0_hasPerson) := goodIn_app (goodIn_of _ (by decide +kernel)) ggX11_grow_X0_hasPerson
set_option maxRecDepth 20000 in
theorem ggX11_grow_X7_forgetRisks : GoodIn wsX11_grow wsX7_forgetRisks := goodIn_r _ [14, 15, 16, 40, 41, 42, 43, 44, 45, 46, 47, 48, 49, 50, 51, 52, 53, 54, 55, 56, 57, 58, 59, 60] (by decide +kernel) (by decide +kernel)
set_option maxRecDepth 20000 in
theorem gX11_grow_X7_forgetRisks : GoodIn wsX11_grow (wsV RX11 372 RX7 yX7_forgetRisks wsX7_forgetRisks) := goodIn_app (goodIn_of _ (by decide +kernel)) ggX11_grow_X7_forgetRisks
set_option maxRecDepth 20000 in
theorem ggX11_guard_X0_hasPost : GoodIn wsX11_guard wsX0_hasPost := goodIn_r _ [8, 9, 28, 29, 30, 31, 32, 33, 34, 35, 36, 37, 38, 39] (by decide +kernel) (by decide +kernel)
set_option maxRecDepth 20000 in
theorem gX11_guard_X0_hasPost : GoodIn wsX11_guard (wsV RX11 121 RX0 yX0_hasPost wsX0_hasPost) := goodIn_app (goodIn_of _ (by decide +kernel)) ggX11_guard_X0_hasPost
set_option maxRecDepth 20000 in
theorem ggX11_guard_X7_forgetRisks : GoodIn wsX11_guard wsX7_forgetRisks := goodIn_r _ [14, 15, 16, 40, 41, 42, 43, 44, 45, 46, 47, 48, 49, 50, 51, 52, 53, 54, 55, 56, 57, 58, 59, 60] (by decide +kernel) (by decide +kernel)
set_option maxRecDepth 20000 in
theorem gX11_guard_X7_forgetRisks : GoodIn wsX11_guard (wsV RX11 372 RX7 yX7_forgetRisks wsX7_forgetRisks) := goodIn_app (goodIn_of _ (by decide +kernel)) ggX11_guard_X7_forgetRisks
set_option maxRecDepth 20000 in
theorem ggX11_stay_X0_hasPerson : GoodIn wsX11_stay wsX0_hasPerson := goodIn_r _ [8, 9, 35, 36, 37, 38, 39, 40, 41, 42, 43, 44, 45, 46] (by decide +kernel) (by decide +kernel)
set_option maxRecDepth 20000 in
theorem gX11_stay_X0_hasPerson : GoodIn wsX11_stay (wsV RX11 101 RX0 yX0_hasPerson wsX0_hasPerson) := goodIn_app (goodIn_of _ (by decide +kernel)) ggX11_stay_X0_hasPerson
set_option maxRecDepth 20000 in
theorem ggX11_stay_X7_forgetGoal : GoodIn wsX11_stay wsX7_forgetGoal := goodIn_r _ [14, 15, 16, 17, 18, 19, 20, 21, 13, 22, 23, 47, 48, 49, 50, 51, 52, 53, 54, 55, 56, 57, 58, 59, 60, 61, 62, 63, 64, 65, 66, 67] (by decide +kernel) (by decide +kernel)
set_option maxRecDepth 20000 in
theorem gX11_stay_X7_forgetGoal : GoodIn wsX11_stay (wsV RX11 375 RX7 yX7_forgetGoal wsX7_forgetGoal) := goodIn_app (goodIn_of _ (by decide +kernel)) ggX11_stay_X7_forgetGoal
set_option maxRecDepth 20000 in
theorem ggX11_count_X0_children : GoodIn wsX11_count wsX0_children := goodIn_r _ [16, 17, 18, 19, 20, 15, 21, 22, 56, 57, 58, 59, 60, 61, 62, 63, 64, 65, 66, 67] (by decide +kernel) (by decide +kernel)
set_option maxRecDepth 20000 in
theorem gX11_count_X0_children : GoodIn wsX11_count (wsV RX11 384 RX0 yX0_children wsX0_children) := goodIn_app (goodIn_of _ (by decide +kernel)) ggX11_count_X0_children
set_option maxRecDepth 20000 in
theorem ggX11_count_J6_bitCount_0f7a4 : GoodIn wsX11_count wsJ6_bitCount_0f7a4 := goodIn_r _ [26, 27, 28, 29] (by decide +kernel) (by decide +kernel)
set_option maxRecDepth 20000 in
theorem gX11_count_J6_bitCount_0f7a4 : GoodIn wsX11_count (va_wsS RX11 282 yJ6_bitCount_0f7a4 wsJ6_bitCount_0f7a4) := goodIn_app (goodIn_of _ (by decide +kernel)) ggX11_count_J6_bitCount_0f7a4
set_option maxRecDepth 20000 in
theorem ggX11_count_X0_staying : GoodIn wsX11_count wsX0_staying := goodIn_r _ [33, 34, 18, 19, 20, 15, 21, 22, 56, 57, 58, 59, 60, 61, 62, 63, 64, 65, 66, 67] (by decide +kernel) (by decide +kernel)
set_option maxRecDepth 20000 in
theorem gX11_count_X0_staying : GoodIn wsX11_count (wsV RX11 387 RX0 yX0_staying wsX0_staying) := goodIn_app (goodIn_of _ (by decide +kernel)) ggX11_count_X0_staying
set_option maxRecDepth 20000 in
theorem ggX11_count_X8_countRows : GoodIn wsX11_count wsX8_countRows := goodIn_r _ [39, 40, 41, 42, 38, 43, 44, 84, 85, 86] (by decide +kernel) (by decide +kernel)
set_option maxRecDepth 20000 in
theorem gX11_count_X8_countRows : GoodIn wsX11_count (wsV RX11 393 RX8 yX8_countRows wsX8_countRows) := goodIn_app (goodIn_of _ (by decide +kernel)) ggX11_count_X8_countRows
set_option maxRecDepth 20000 in
theorem ggX11_image_X0_copyFrom : GoodIn wsX11_image wsX0_copyFrom := goodIn_r _ [10, 11, 12, 13, 14, 15, 16, 17, 18, 19, 20, 21, 22, 23, 24, 25, 26, 53, 54, 55, 56, 57, 58, 59, 60, 61, 62, 63, 64] (by decide +kernel) (by decide +kernel)
set_option maxRecDepth 20000 in
theorem gX11_image_X0_copyFrom : GoodIn wsX11_image (wsV RX11 86 RX0 yX0_copyFrom wsX0_copyFrom) := goodIn_app (goodIn_of _ (by decide +kernel)) ggX11_image_X0_copyFrom
set_option maxRecDepth 20000 in
theorem ggX11_image_X10_copyFrom : GoodIn wsX11_image wsX10_copyFrom := goodIn_r _ [31, 32, 33, 18, 19, 20, 34, 35, 36, 37, 38, 39, 40, 41, 65, 66, 67, 68, 69, 70, 71, 72, 73] (by decide +kernel) (by decide +kernel)
set_option maxRecDepth 20000 in
theorem gX11_image_X10_copyFrom : GoodIn wsX11_image (wsV RX11 395 RX10 yX10_copyFrom wsX10_copyFrom) := goodIn_app (goodIn_of _ (by decide +kernel)) ggX11_image_X10_copyFrom
set_option maxRecDepth 20000 in
theorem ggX11_back_X0_copyFrom : GoodIn wsX11_back wsX0_copyFrom := goodIn_r _ [11, 12, 13, 14, 15, 16, 17, 18, 19, 20, 21, 22, 23, 24, 25, 26, 27, 140, 141, 142, 143, 144, 145, 146, 147, 148, 149, 150, 151] (by decide +kernel) (by decide +kernel)
set_option maxRecDepth 20000 in
theorem gX11_back_X0_copyFrom : GoodIn wsX11_back (wsV RX11 86 RX0 yX0_copyFrom wsX0_copyFrom) := goodIn_app (goodIn_of _ (by decide +kernel)) ggX11_back_X0_copyFrom
set_option maxRecDepth 20000 in
theorem ggX11_back_X10_copyFrom : GoodIn wsX11_back wsX10_copyFrom := goodIn_r _ [32, 33, 34, 19, 20, 21, 35, 36, 37, 38, 39, 40, 41, 42, 152, 153, 154, 155, 156, 157, 158, 159, 160] (by decide +kernel) (by decide +kernel)
set_option maxRecDepth 20000 in
theorem gX11_back_X10_copyFrom : GoodIn wsX11_back (wsV RX11 395 RX10 yX10_copyFrom wsX10_copyFrom) := goodIn_app (goodIn_of _ (by decide +kernel)) ggX11_back_X10_copyFrom
set_option maxRecDepth 20000 in
theorem ggX11_back_X7_beginFamily : GoodIn wsX11_back wsX7_beginFamily := goodIn_r _ [47, 48, 49, 50, 51, 52, 53, 54, 55, 56, 57, 58, 59, 60, 61, 62, 63, 64, 65, 66, 67, 68, 69, 70, 71, 72, 73, 74, 75, 76, 10, 77, 15, 78, 79, 80, 81, 23, 82, 83, 84, 85, 86, 87, 88, 89, 90, 91, 92, 93, 22, 94, 95, 96, 26, 97, 98, 99, 100, 101, 102, 103, 104, 105, 106, 107, 108, 109, 110, 111, 112, 113, 114, 115, 116, 117, 118, 46, 119, 120, 121, 122, 123, 124, 125, 126, 127, 128, 161, 162, 163, 164, 165, 166, 167, 168, 169, 170, 171, 172, 173, 174, 175, 176, 177, 178, 179, 180, 181, 182, 183, 184, 185, 186, 187, 188, 189, 140, 141, 142, 143, 144, 145, 146, 147, 148, 149, 150, 151, 190, 191, 192, 193] (by decide +kernel) (by decide +kernel)
set_option maxRecDepth 20000 in
theorem gX11_back_X7_beginFamily : GoodIn wsX11_back (wsV RX11 92 RX7 yX7_beginFamily wsX7_beginFamily) := goodIn_app (goodIn_of _ (by decide +kernel)) ggX11_back_X7_beginFamily
set_option maxRecDepth 20000 in
theorem ggX11_row_X8_exists : GoodIn wsX11_row wsX8_exists := goodIn_r _ [6] (by decide +kernel) (by decide +kernel)
set_option maxRecDepth 20000 in
theorem gX11_row_X8_exists : GoodIn wsX11_row (wsV RX11 308 RX8 yX8_exists wsX8_exists) := goodIn_app (goodIn_of _ (by decide +kernel)) ggX11_row_X8_exists
set_option maxRecDepth 20000 in
theorem ggX11_row_X8_lay : GoodIn wsX11_row wsX8_lay := goodIn_r _ [10, 11, 12, 13, 14, 15, 16, 17, 29, 30, 31] (by decide +kernel) (by decide +kernel)
set_option maxRecDepth 20000 in
theorem gX11_row_X8_lay : GoodIn wsX11_row (wsV RX11 398 RX8 yX8_lay wsX8_lay) := goodIn_app (goodIn_of _ (by decide +kernel)) ggX11_row_X8_lay
set_option maxRecDepth 20000 in
theorem ggX11_write_X8_exists : GoodIn wsX11_write wsX8_exists := goodIn_r _ [9] (by decide +kernel) (by decide +kernel)
set_option maxRecDepth 20000 in
theorem gX11_write_X8_exists : GoodIn wsX11_write (wsV RX11 308 RX8 yX8_exists wsX8_exists) := goodIn_app (goodIn_of _ (by decide +kernel)) ggX11_write_X8_exists
set_option maxRecDepth 20000 in
theorem ggX11_write_X8_hasRow : GoodIn wsX11_write wsX8_hasRow := goodIn_r _ [13, 14, 29, 30, 31] (by decide +kernel) (by decide +kernel)
set_option maxRecDepth 20000 in
theorem gX11_write_X8_hasRow : GoodIn wsX11_write (wsV RX11 311 RX8 yX8_hasRow wsX8_hasRow) := goodIn_app (goodIn_of _ (by decide +kernel)) ggX11_write_X8_hasRow
set_option maxRecDepth 20000 in
theorem ggX11_write_X8_cut : GoodIn wsX11_write wsX8_cut := goodIn_r _ [17] (by decide +kernel) (by decide +kernel)
set_option maxRecDepth 20000 in
theorem gX11_write_X8_cut : GoodIn wsX11_write (va_wsS RX11 404 yX8_cut wsX8_cut) := goodIn_app (goodIn_of _ (by decide +kernel)) ggX11_write_X8_cut
set_option maxRecDepth 20000 in
theorem ggX11_paste_X8_exists : GoodIn wsX11_paste wsX8_exists := goodIn_r _ [12] (by decide +kernel) (by decide +kernel)
set_option maxRecDepth 20000 in
theorem gX11_paste_X8_exists : GoodIn wsX11_paste (wsV RX11 308 RX8 yX8_exists wsX8_exists) := goodIn_app (goodIn_of _ (by decide +kernel)) ggX11_paste_X8_exists
set_option maxRecDepth 20000 in
theorem ggX11_paste_X8_hasRow : GoodIn wsX11_paste wsX8_hasRow := goodIn_r _ [16, 17, 33, 34, 35] (by decide +kernel) (by decide +kernel)
set_option maxRecDepth 20000 in
theorem gX11_paste_X8_hasRow : GoodIn wsX11_paste (wsV RX11 311 RX8 yX8_hasRow wsX8_hasRow) := goodIn_app (goodIn_of _ (by decide +kernel)) ggX11_paste_X8_hasRow
set_option maxRecDepth 20000 in
theorem ggX11_paste_X8_holds : GoodIn wsX11_paste wsX8_holds := goodIn_r _ [21, 17, 33, 34, 35] (by decide +kernel) (by decide +kernel)
set_option maxRecDepth 20000 in
theorem gX11_paste_X8_holds : GoodIn wsX11_paste (wsV RX11 408 RX8 yX8_holds wsX8_holds) := goodIn_app (goodIn_of _ (by decide +kernel)) ggX11_paste_X8_holds
set_option maxRecDepth 20000 in
theorem ggX12_isSlot_X12_in : GoodIn wsX12_isSlot wsX12_in := goodIn_r _ [5] (by decide +kernel) (by decide +kernel)
set_option maxRecDepth 20000 in
theorem gX12_isSlot_X12_in : GoodIn wsX12_isSlot (va_wsS RX12 93 yX12_in wsX12_in) := goodIn_app (goodIn_of _ (by decide +kernel)) ggX12_isSlot_X12_in
set_option maxRecDepth 20000 in
theorem ggX12_row_X12_isSlot : GoodIn wsX12_row wsX12_isSlot := goodIn_r _ [9, 2, 10, 11, 8, 12] (by decide +kernel) (by decide +kernel)
set_option maxRecDepth 20000 in
theorem gX12_row_X12_isSlot : GoodIn wsX12_row (va_wsS RX12 97 yX12_isSlot wsX12_isSlot) := goodIn_app (goodIn_of _ (by decide +kernel)) ggX12_row_X12_isSlot
set_option maxRecDepth 20000 in
theorem ggX12_row_X12_in : GoodIn wsX12_row wsX12_in := goodIn_r _ [12] (by decide +kernel) (by decide +kernel)
set_option maxRecDepth 20000 in
theorem gX12_row_X12_in : GoodIn wsX12_row (va_wsS RX12 93 yX12_in wsX12_in) := goodIn_app (goodIn_of _ (by decide +kernel)) ggX12_row_X12_in
set_option maxRecDepth 20000 in
theorem ggX12_write_X12_isSlot : GoodIn wsX12_write wsX12_isSlot := goodIn_r _ [8, 9, 10, 11, 7, 12] (by decide +kernel) (by decide +kernel)
set_option maxRecDepth 20000 in
theorem gX12_write_X12_isSlot : GoodIn wsX12_write (va_wsS RX12 97 yX12_isSlot wsX12_isSlot) := goodIn_app (goodIn_of _ (by decide +kernel)) ggX12_write_X12_isSlot
set_option maxRecDepth 20000 in
theorem ggX12_write_X12_in : GoodIn wsX12_write wsX12_in := goodIn_r _ [12] (by decide +kernel) (by decide +kernel)
set_option maxRecDepth 20000 in
theorem gX12_write_X12_in : GoodIn wsX12_write (va_wsS RX12 93 yX12_in wsX12_in) := goodIn_app (goodIn_of _ (by decide +kernel)) ggX12_write_X12_in
set_option maxRecDepth 20000 in
theorem ggX12_write_X12_cut : GoodIn wsX12_write wsX12_cut := goodIn_r _ [15] (by decide +kernel) (by decide +kernel)
set_option maxRecDepth 20000 in
theorem gX12_write_X12_cut : GoodIn wsX12_write (va_wsS RX12 101 yX12_cut wsX12_cut) := goodIn_app (goodIn_of _ (by decide +kernel)) ggX12_write_X12_cut
set_option maxRecDepth 20000 in
theorem ggX12_paste_X12_isSlot : GoodIn wsX12_paste wsX12_isSlot := goodIn_r _ [9, 10, 11, 12, 8, 13] (by decide +kernel) (by decide +kernel)
set_option maxRecDepth 20000 in
theorem gX12_paste_X12_isSlot : GoodIn wsX12_paste (va_wsS RX12 97 yX12_isSlot wsX12_isSlot) := goodIn_app (goodIn_of _ (by decide +kernel)) ggX12_paste_X12_isSlot
set_option maxRecDepth 20000 in
theorem ggX12_feed_X12_four : GoodIn wsX12_feed wsX12_four := goodIn_r _ [7, 8, 2, 9, 10, 11, 12, 13, 14, 15, 16, 17, 18, 19, 20, 21, 22, 23, 24, 25, 26, 27, 28, 29, 30, 31, 32, 33, 34, 35, 36, 37, 38, 39, 40, 41, 42, 43, 44, 45, 46, 47, 48, 49, 50, 51, 52, 53, 54, 55, 56] (by decide +kernel) (by decide +kernel)
set_option maxRecDepth 20000 in
theorem gX12_feed_X12_four : GoodIn wsX12_feed (wsV RX12 108 RX12 yX12_four wsX12_four) := goodIn_app (goodIn_of _ (by decide +kernel)) ggX12_feed_X12_four
set_option maxRecDepth 20000 in
theorem ggX12_end_X12_in : GoodIn wsX12_end wsX12_in := goodIn_r _ [6] (by decide +kernel) (by decide +kernel)
set_option maxRecDepth 20000 in
theorem gX12_end_X12_in : GoodIn wsX12_end (va_wsS RX12 93 yX12_in wsX12_in) := goodIn_app (goodIn_of _ (by decide +kernel)) ggX12_end_X12_in
set_option maxRecDepth 20000 in
theorem ggX12_next_X12_isByte : GoodIn wsX12_next wsX12_isByte := goodIn_r _ [17, 5, 9, 18, 19, 20, 21, 22, 23, 24, 25, 26, 27, 28, 29, 30, 31, 32, 33, 34, 35, 36, 37, 38, 39, 40, 41, 42, 43, 44, 45, 46, 47, 48, 49, 50, 51, 52, 53, 54, 55, 56, 57, 58, 59, 60, 61, 62, 63, 64, 65] (by decide +kernel) (by decide +kernel)
set_option maxRecDepth 20000 in
theorem gX12_next_X12_isByte : GoodIn wsX12_next (wsV RX12 115 RX12 yX12_isByte wsX12_isByte) := goodIn_app (goodIn_of _ (by decide +kernel)) ggX12_next_X12_isByte
set_option maxRecDepth 20000 in
theorem ggX12_takes_X12_is : GoodIn wsX12_takes wsX12_is := goodIn_r _ [5, 6, 7, 8, 27, 28, 29, 30, 31, 32, 33, 34, 35, 36, 37, 38, 39, 40, 41, 42, 43, 44, 45, 46, 47, 48, 49, 50, 51, 52, 53, 54, 55, 56, 57, 58, 59, 60, 61, 62, 63, 64, 65, 66, 67, 68, 69, 70, 71, 72, 73, 74] (by decide +kernel) (by decide +kernel)
set_option maxRecDepth 20000 in
theorem gX12_takes_X12_is : GoodIn wsX12_takes (wsV RX12 146 RX12 yX12_is wsX12_is) := goodIn_app (goodIn_of _ (by decide +kernel)) ggX12_takes_X12_is
set_option maxRecDepth 20000 in
theorem ggX12_takes_X12_next : GoodIn wsX12_takes wsX12_next := goodIn_r _ [12, 13, 14, 15, 8, 16, 7, 17, 18, 19, 20, 21, 22, 23, 24, 25, 4, 26, 27, 28, 29, 30, 31, 32, 33, 34, 35, 36, 37, 38, 39, 40, 41, 42, 43, 44, 45, 46, 47, 48, 49, 50, 51, 52, 53, 54, 55, 56, 57, 58, 59, 60, 61, 62, 63, 64, 65, 66, 67, 68, 69, 70, 71, 72, 73, 74] (by decide +kernel) (by decide +kernel)
set_option maxRecDepth 20000 in
theorem gX12_takes_X12_next : GoodIn wsX12_takes (wsV RX12 150 RX12 yX12_next wsX12_next) := goodIn_app (goodIn_of _ (by decide +kernel)) ggX12_takes_X12_next
set_option maxRecDepth 20000 in
theorem ggX12_asks_X12_takes : GoodIn wsX12_asks wsX12_takes := goodIn_r _ [5, 6, 7, 8, 4, 9, 10, 11, 12, 13, 14, 15, 16, 17, 18, 19, 20, 21, 22, 23, 24, 25, 26, 27, 28, 29, 30, 36, 37, 38, 39, 40, 41, 42, 43, 44, 45, 46, 47, 48, 49, 50, 51, 52, 53, 54, 55, 56, 57, 58, 59, 60, 61, 62, 63, 64, 65, 66, 67, 68, 69, 70, 71, 72, 73, 74, 75, 76, 77, 78, 79, 80, 81, 82, 83] (by decide +kernel) (by decide +kernel)
set_option maxRecDepth 20000 in
theorem gX12_asks_X12_takes : GoodIn wsX12_asks (wsV RX12 153 RX12 yX12_takes wsX12_takes) := goodIn_app (goodIn_of _ (by decide +kernel)) ggX12_asks_X12_takes
set_option maxRecDepth 20000 in
theorem ggX12_asks_X12_fails : GoodIn wsX12_asks wsX12_fails := goodIn_r _ [34, 10, 18, 35, 36, 37, 38, 39, 40, 41, 42, 43, 44, 45, 46, 47, 48, 49, 50, 51, 52, 53, 54, 55, 56, 57, 58, 59, 60, 61, 62, 63, 64, 65, 66, 67, 68, 69, 70, 71, 72, 73, 74, 75, 76, 77, 78, 79, 80, 81, 82, 83] (by decide +kernel) (by decide +kernel)
set_option maxRecDepth 20000 in
theorem gX12_asks_X12_fails : GoodIn wsX12_asks (wsV RX12 156 RX12 yX12_fails wsX12_fails) := goodIn_app (goodIn_of _ (by decide +kernel)) ggX12_asks_X12_fails
set_option maxRecDepth 20000 in
theorem ggX12_number_X12_fails : GoodIn wsX12_number wsX12_fails := goodIn_r _ [8, 1, 9, 10, 31, 32, 33, 34, 35, 36, 37, 38, 39, 40, 41, 42, 43, 44, 45, 46, 47, 48, 49, 50, 51, 52, 53, 54, 55, 56, 57, 58, 59, 60, 61, 62, 63, 64, 65, 66, 67, 68, 69, 70, 71, 72, 73, 74, 75, 76, 77, 78] (by decide +kernel) (by decide +kernel)
set_option maxRecDepth 20000 in
theorem gX12_number_X12_fails : GoodIn wsX12_number (wsV RX12 156 RX12 yX12_fails wsX12_fails) := goodIn_app (goodIn_of _ (by decide +kernel)) ggX12_number_X12_fails
set_option maxRecDepth 20000 in
theorem ggX12_number_X12_in : GoodIn wsX12_number wsX12_in := goodIn_r _ [13] (by decide +kernel) (by decide +kernel)
set_option maxRecDepth 20000 in
theorem gX12_number_X12_in : GoodIn wsX12_number (va_wsS RX12 93 yX12_in wsX12_in) := goodIn_app (goodIn_of _ (by decide +kernel)) ggX12_number_X12_in
set_option maxRecDepth 20000 in
theorem ggX12_number_X12_next : GoodIn wsX12_number wsX12_next := goodIn_r _ [17, 18, 9, 3, 19, 20, 2, 21, 22, 23, 24, 25, 26, 27, 28, 29, 7, 30, 31, 32, 33, 34, 35, 36, 37, 38, 39, 40, 41, 42, 43, 44, 45, 46, 47, 48, 49, 50, 51, 52, 53, 54, 55, 56, 57, 58, 59, 60, 61, 62, 63, 64, 65, 66, 67, 68, 69, 70, 71, 72, 73, 74, 75, 76, 77, 78] (by decide +kernel) (by decide +kernel)
set_option maxRecDepth 20000 in
theorem gX12_number_X12_next : GoodIn wsX12_number (wsV RX12 150 RX12 yX12_next wsX12_next) := goodIn_app (goodIn_of _ (by decide +kernel)) ggX12_number_X12_next
set_option maxRecDepth 20000 in
theorem ggX12_number__X12_asks : GoodIn wsX12_number_ wsX12_asks := goodIn_r _ [5, 6, 7, 8, 4, 9, 10, 11, 12, 13, 14, 15, 16, 17, 18, 19, 20, 21, 22, 23, 24, 25, 26, 27, 28, 29, 30, 31, 32, 33, 34, 35, 36, 37, 38, 39, 47, 48, 49, 50, 51, 52, 53, 54, 55, 56, 57, 58, 59, 60, 61, 62, 63, 64, 65, 66, 67, 68, 69, 70, 71, 72, 73, 74, 75, 76, 77, 78, 79, 80, 81, 82, 83, 84, 85, 86, 87, 88, 89, 90, 91, 92, 93, 94] (by decide +kernel) (by decide +kernel)
set_option maxRecDepth 20000 in
theorem gX12_number__X12_asks : GoodIn wsX12_number_ (wsV RX12 159 RX12 yX12_asks wsX12_asks) := goodIn_app (goodIn_of _ (by decide +kernel)) ggX12_number__X12_asks
set_option maxRecDepth 20000 in
theorem ggX12_number__X12_number : GoodIn wsX12_number_ wsX12_number := goodIn_r _ [43, 14, 15, 23, 35, 36, 37, 4, 38, 22, 39, 44, 45, 46, 17, 18, 19, 20, 21, 16, 24, 25, 26, 27, 28, 29, 30, 31, 32, 33, 34, 47, 48, 49, 50, 51, 52, 53, 54, 55, 56, 57, 58, 59, 60, 61, 62, 63, 64, 65, 66, 67, 68, 69, 70, 71, 72, 73, 74, 75, 76, 77, 78, 79, 80, 81, 82, 83, 84, 85, 86, 87, 88, 89, 90, 91, 92, 93, 94] (by decide +kernel) (by decide +kernel)
set_option maxRecDepth 20000 in
theorem gX12_number__X12_number : GoodIn wsX12_number_ (wsV RX12 163 RX12 yX12_number wsX12_number) := goodIn_app (goodIn_of _ (by decide +kernel)) ggX12_number__X12_number
set_option maxRecDepth 20000 in
theorem ggX12_ends_X12_fails : GoodIn wsX12_ends wsX12_fails := goodIn_r _ [7, 2, 8, 9, 28, 29, 30, 31, 32, 33, 34, 35, 36, 37, 38, 39, 40, 41, 42, 43, 44, 45, 46, 47, 48, 49, 50, 51, 52, 53, 54, 55, 56, 57, 58, 59, 60, 61, 62, 63, 64, 65, 66, 67, 68, 69, 70, 71, 72, 73, 74, 75] (by decide +kernel) (by decide +kernel)
set_option maxRecDepth 20000 in
theorem gX12_ends_X12_fails : GoodIn wsX12_ends (wsV RX12 156 RX12 yX12_fails wsX12_fails) := goodIn_app (goodIn_of _ (by decide +kernel)) ggX12_ends_X12_fails
set_option maxRecDepth 20000 in
theorem ggX12_ends_X12_next : GoodIn wsX12_ends wsX12_next := goodIn_r _ [13, 14, 8, 15, 16, 17, 1, 18, 19, 20, 21, 22, 23, 24, 25, 26, 6, 27, 28, 29, 30, 31, 32, 33, 34, 35, 36, 37, 38, 39, 40, 41, 42, 43, 44, 45, 46, 47, 48, 49, 50, 51, 52, 53, 54, 55, 56, 57, 58, 59, 60, 61, 62, 63, 64, 65, 66, 67, 68, 69, 70, 71, 72, 73, 74, 75] (by decide +kernel) (by decide +kernel)
set_option maxRecDepth 20000 in
theorem gX12_ends_X12_next : GoodIn wsX12_ends (wsV RX12 150 RX12 yX12_next wsX12_next) := goodIn_app (goodIn_of _ (by decide +kernel)) ggX12_ends_X12_next
set_option maxRecDepth 20000 in
theorem ggX12_begins_X12_next : GoodIn wsX12_begins wsX12_next := goodIn_r _ [8, 3, 9, 10, 11, 12, 13, 14, 15, 16, 17, 18, 19, 20, 21, 22, 7, 23, 24, 25, 26, 27, 28, 29, 30, 31, 32, 33, 34, 35, 36, 37, 38, 39, 40, 41, 42, 43, 44, 45, 46, 47, 48, 49, 50, 51, 52, 53, 54, 55, 56, 57, 58, 59, 60, 61, 62, 63, 64, 65, 66, 67, 68, 69, 70, 71] (by decide +kernel) (by decide +kernel)
set_option maxRecDepth 20000 in
theorem gX12_begins_X12_next : GoodIn wsX12_begins (wsV RX12 150 RX12 yX12_next wsX12_next) := goodIn_app (goodIn_of _ (by decide +kernel)) ggX12_begins_X12_next
set_option maxRecDepth 20000 in
theorem ggX12_personLine_X12_hasRead : GoodIn wsX12_personLine wsX12_hasRead := goodIn_r _ [13, 14, 73, 74, 75, 76, 77, 78, 79, 80, 81, 82, 83, 84, 85, 86, 87, 88, 89, 90, 91, 92, 93, 94, 95, 96, 97, 98, 99, 100, 101, 102, 103, 104, 105, 106, 107, 108, 109, 110, 111, 112, 113, 114, 115, 116, 117, 118, 119, 120] (by decide +kernel) (by decide +kernel)
set_option maxRecDepth 20000 in
theorem gX12_personLine_X12_hasRead : GoodIn wsX12_personLine (wsV RX12 170 RX12 yX12_hasRead wsX12_hasRead) := goodIn_app (goodIn_of _ (by decide +kernel)) ggX12_personLine_X12_hasRead
set_option maxRecDepth 20000 in
theorem ggX12_personLine_X12_number_ : GoodIn wsX12_personLine wsX12_number_ := goodIn_r _ [18, 19, 20, 21, 12, 22, 23, 24, 25, 26, 27, 28, 29, 30, 8, 5, 31, 32, 33, 34, 35, 36, 37, 38, 39, 40, 41, 42, 43, 44, 45, 46, 47, 48, 49, 50, 51, 52, 53, 54, 55, 56, 57, 58, 59, 60, 61, 73, 74, 75, 76, 77, 78, 79, 80, 81, 82, 83, 84, 85, 86, 87, 88, 89, 90, 91, 92, 93, 94, 95, 96, 97, 98, 99, 100, 101, 102, 103, 104, 105, 106, 107, 108, 109, 110, 111, 112, 113, 114, 115, 116, 117, 118, 119, 120] (by decide +kernel) (by decide +kernel)
set_option maxRecDepth 20000 in
theorem gX12_personLine_X12_number_ : GoodIn wsX12_personLine (wsV RX12 176 RX12 yX12_number_ wsX12_number_) := goodIn_app (goodIn_of _ (by decide +kernel)) ggX12_personLine_X12_number_
set_option maxRecDepth 20000 in
theorem ggX12_personLine_X12_isGood : GoodIn wsX12_personLine wsX12_isGood := goodIn_r _ [65, 8, 73, 74, 75, 76, 77, 78, 79, 80, 81, 82, 83, 84, 85, 86, 87, 88, 89, 90, 91, 92, 93, 94, 95, 96, 97, 98, 99, 100, 101, 102, 103, 104, 105, 106, 107, 108, 109, 110, 111, 112, 113, 114, 115, 116, 117, 118, 119, 120] (by decide +kernel) (by decide +kernel)
set_option maxRecDepth 20000 in
theorem gX12_personLine_X12_isGood : GoodIn wsX12_personLine (wsV RX12 181 RX12 yX12_isGood wsX12_isGood) := goodIn_app (goodIn_of _ (by decide +kernel)) ggX12_personLine_X12_isGood
set_option maxRecDepth 20000 in
theorem ggX12_personLine_X12_is : GoodIn wsX12_personLine wsX12_is := goodIn_r _ [30, 8, 5, 31, 73, 74, 75, 76, 77, 78, 79, 80, 81, 82, 83, 84, 85, 86, 87, 88, 89, 90, 91, 92, 93, 94, 95, 96, 97, 98, 99, 100, 101, 102, 103, 104, 105, 106, 107, 108, 109, 110, 111, 112, 113, 114, 115, 116, 117, 118, 119, 120] (by decide +kernel) (by decide +kernel)
set_option maxRecDepth 20000 in
theorem gX12_personLine_X12_is : GoodIn wsX12_personLine (wsV RX12 146 RX12 yX12_is wsX12_is) := goodIn_app (goodIn_of _ (by decide +kernel)) ggX12_personLine_X12_is
set_option maxRecDepth 20000 in
theorem ggX12_personLine_X12_isBit : GoodIn wsX12_personLine wsX12_isBit := goodIn_r _ [68] (by decide +kernel) (by decide +kernel)
set_option maxRecDepth 20000 in
theorem gX12_personLine_X12_isBit : GoodIn wsX12_personLine (va_wsS RX12 189 yX12_isBit wsX12_isBit) := goodIn_app (goodIn_of _ (by decide +kernel)) ggX12_personLine_X12_isBit
set_option maxRecDepth 20000 in
theorem ggX12_personLine_X12_fails : GoodIn wsX12_personLine wsX12_fails := goodIn_r _ [53, 8, 37, 54, 73, 74, 75, 76, 77, 78, 79, 80, 81, 82, 83, 84, 85, 86, 87, 88, 89, 90, 91, 92, 93, 94, 95, 96, 97, 98, 99, 100, 101, 102, 103, 104, 105, 106, 107, 108, 109, 110, 111, 112, 113, 114, 115, 116, 117, 118, 119, 120] (by decide +kernel) (by decide +kernel)
set_option maxRecDepth 20000 in
theorem gX12_personLine_X12_fails : GoodIn wsX12_personLine (wsV RX12 156 RX12 yX12_fails wsX12_fails) := goodIn_app (goodIn_of _ (by decide +kernel)) ggX12_personLine_X12_fails
set_option maxRecDepth 20000 in
theorem ggX12_personLine_X12_next : GoodIn wsX12_personLine wsX12_next := goodIn_r _ [35, 36, 37, 38, 31, 39, 5, 40, 41, 42, 43, 44, 45, 46, 47, 48, 12, 49, 73, 74, 75, 76, 77, 78, 79, 80, 81, 82, 83, 84, 85, 86, 87, 88, 89, 90, 91, 92, 93, 94, 95, 96, 97, 98, 99, 100, 101, 102, 103, 104, 105, 106, 107, 108, 109, 110, 111, 112, 113, 114, 115, 116, 117, 118, 119, 120] (by decide +kernel) (by decide +kernel)
set_option maxRecDepth 20000 in
theorem gX12_personLine_X12_next : GoodIn wsX12_personLine (wsV RX12 150 RX12 yX12_next wsX12_next) := goodIn_app (goodIn_of _ (by decide +kernel)) ggX12_personLine_X12_next
set_option maxRecDepth 20000 in
theorem ggX12_personLine_X12_tells : GoodIn wsX12_personLine wsX12_tells := goodIn_r _ [72, 14, 73, 74, 75, 76, 77, 78, 79, 80, 81, 82, 83, 84, 85, 86, 87, 88, 89, 90, 91, 92, 93, 94, 95, 96, 97, 98, 99, 100, 101, 102, 103, 104, 105, 106, 107, 108, 109, 110, 111, 112, 113, 114, 115, 116, 117, 118, 119, 120] (by decide +kernel) (by decide +kernel)
set_option maxRecDepth 20000 in
theorem gX12_personLine_X12_tells : GoodIn wsX12_personLine (wsV RX12 193 RX12 yX12_tells wsX12_tells) := goodIn_app (goodIn_of _ (by decide +kernel)) ggX12_personLine_X12_tells
set_option maxRecDepth 20000 in
theorem ggX12_line_X12_is : GoodIn wsX12_line wsX12_is := goodIn_r _ [12, 3, 13, 14, 83, 84, 85, 86, 87, 88, 89, 90, 91, 92, 93, 94, 95, 96, 97, 98, 99, 100, 101, 102, 103, 104, 105, 106, 107, 108, 109, 110, 111, 112, 113, 114, 115, 116, 117, 118, 119, 120, 121, 122, 123, 124, 125, 126, 127, 128, 129, 130] (by decide +kernel) (by decide +kernel)
set_option maxRecDepth 20000 in
theorem gX12_line_X12_is : GoodIn wsX12_line (wsV RX12 146 RX12 yX12_is wsX12_is) := goodIn_app (goodIn_of _ (by decide +kernel)) ggX12_line_X12_is
set_option maxRecDepth 20000 in
theorem ggX12_line_X12_fails : GoodIn wsX12_line wsX12_fails := goodIn_r _ [18, 3, 19, 20, 83, 84, 85, 86, 87, 88, 89, 90, 91, 92, 93, 94, 95, 96, 97, 98, 99, 100, 101, 102, 103, 104, 105, 106, 107, 108, 109, 110, 111, 112, 113, 114, 115, 116, 117, 118, 119, 120, 121, 122, 123, 124, 125, 126, 127, 128, 129, 130] (by decide +kernel) (by decide +kernel)
set_option maxRecDepth 20000 in
theorem gX12_line_X12_fails : GoodIn wsX12_line (wsV RX12 156 RX12 yX12_fails wsX12_fails) := goodIn_app (goodIn_of _ (by decide +kernel)) ggX12_line_X12_fails
set_option maxRecDepth 20000 in
theorem ggX12_line_X12_hasRead : GoodIn wsX12_line wsX12_hasRead := goodIn_r _ [24, 25, 83, 84, 85, 86, 87, 88, 89, 90, 91, 92, 93, 94, 95, 96, 97, 98, 99, 100, 101, 102, 103, 104, 105, 106, 107, 108, 109, 110, 111, 112, 113, 114, 115, 116, 117, 118, 119, 120, 121, 122, 123, 124, 125, 126, 127, 128, 129, 130] (by decide +kernel) (by decide +kernel)
set_option maxRecDepth 20000 in
theorem gX12_line_X12_hasRead : GoodIn wsX12_line (wsV RX12 170 RX12 yX12_hasRead wsX12_hasRead) := goodIn_app (goodIn_of _ (by decide +kernel)) ggX12_line_X12_hasRead
set_option maxRecDepth 20000 in
theorem ggX12_line_X12_next : GoodIn wsX12_line wsX12_next := goodIn_r _ [29, 30, 19, 31, 14, 32, 13, 33, 34, 35, 36, 37, 38, 39, 40, 41, 11, 42, 83, 84, 85, 86, 87, 88, 89, 90, 91, 92, 93, 94, 95, 96, 97, 98, 99, 100, 101, 102, 103, 104, 105, 106, 107, 108, 109, 110, 111, 112, 113, 114, 115, 116, 117, 118, 119, 120, 121, 122, 123, 124, 125, 126, 127, 128, 129, 130] (by decide +kernel) (by decide +kernel)
set_option maxRecDepth 20000 in
theorem gX12_line_X12_next : GoodIn wsX12_line (wsV RX12 150 RX12 yX12_next wsX12_next) := goodIn_app (goodIn_of _ (by decide +kernel)) ggX12_line_X12_next
set_option maxRecDepth 20000 in
theorem ggX12_line_X12_personLine : GoodIn wsX12_line wsX12_personLine := goodIn_r _ [46, 47, 48, 49, 50, 13, 51, 52, 3, 21, 22, 23, 11, 24, 25, 53, 54, 55, 56, 57, 58, 59, 60, 61, 62, 63, 64, 8, 9, 10, 12, 14, 26, 27, 28, 29, 30, 19, 31, 32, 33, 34, 35, 36, 37, 38, 39, 40, 41, 42, 15, 16, 17, 18, 20, 65, 66, 67, 68, 69, 70, 71, 72, 73, 74, 75, 76, 77, 78, 79, 80, 81, 82, 83, 84, 85, 86, 87, 88, 89, 90, 91, 92, 93, 94, 95, 96, 97, 98, 99, 100, 101, 102, 103, 104, 105, 106, 107, 108, 109, 110, 111, 112, 113, 114, 115, 116, 117, 118, 119, 120, 121, 122, 123, 124, 125, 126, 127, 128, 129, 130] (by decide +kernel) (by decide +kernel)
set_option maxRecDepth 20000 in
theorem gX12_line_X12_personLine : GoodIn wsX12_line (wsV RX12 201 RX12 yX12_personLine wsX12_personLine) := goodIn_app (goodIn_of _ (by decide +kernel)) ggX12_line_X12_personLine
set_option maxRecDepth 20000 in
theorem ggX12_line_X12_number_ : GoodIn wsX12_line wsX12_number_ := goodIn_r _ [56, 57, 58, 59, 11, 60, 61, 62, 63, 64, 8, 9, 10, 12, 3, 13, 14, 26, 27, 28, 29, 30, 19, 31, 32, 33, 34, 35, 36, 37, 38, 39, 40, 41, 42, 15, 16, 17, 18, 20, 65, 66, 67, 68, 69, 70, 71, 83, 84, 85, 86, 87, 88, 89, 90, 91, 92, 93, 94, 95, 96, 97, 98, 99, 100, 101, 102, 103, 104, 105, 106, 107, 108, 109, 110, 111, 112, 113, 114, 115, 116, 117, 118, 119, 120, 121, 122, 123, 124, 125, 126, 127, 128, 129, 130] (by decide +kernel) (by decide +kernel)
set_option maxRecDepth 20000 in
theorem gX12_line_X12_number_ : GoodIn wsX12_line (wsV RX12 176 RX12 yX12_number_ wsX12_number_) := goodIn_app (goodIn_of _ (by decide +kernel)) ggX12_line_X12_number_
set_option maxRecDepth 20000 in
theorem ggX12_line_X12_tells : GoodIn wsX12_line wsX12_tells := goodIn_r _ [82, 25, 83, 84, 85, 86, 87, 88, 89, 90, 91, 92, 93, 94, 95, 96, 97, 98, 99, 100, 101, 102, 103, 104, 105, 106, 107, 108, 109, 110, 111, 112, 113, 114, 115, 116, 117, 118, 119, 120, 121, 122, 123, 124, 125, 126, 127, 128, 129, 130] (by decide +kernel) (by decide +kernel)
set_option maxRecDepth 20000 in
theorem gX12_line_X12_tells : GoodIn wsX12_line (wsV RX12 193 RX12 yX12_tells wsX12_tells) := goodIn_app (goodIn_of _ (by decide +kernel)) ggX12_line_X12_tells
set_option maxRecDepth 20000 in
theorem ggX12_clears_X12_tells : GoodIn wsX12_clears wsX12_tells := goodIn_r _ [6, 7, 8, 9, 10, 11, 12, 13, 14, 15, 16, 17, 18, 19, 20, 21, 22, 23, 24, 25, 26, 27, 28, 29, 30, 31, 32, 33, 34, 35, 36, 37, 38, 39, 40, 41, 42, 43, 44, 45, 46, 47, 48, 49, 50, 51, 52, 53, 54, 55] (by decide +kernel) (by decide +kernel)
set_option maxRecDepth 20000 in
theorem gX12_clears_X12_tells : GoodIn wsX12_clears (wsV RX12 193 RX12 yX12_tells wsX12_tells) := goodIn_app (goodIn_of _ (by decide +kernel)) ggX12_clears_X12_tells
set_option maxRecDepth 20000 in
theorem ggX12_family_X12_clears : GoodIn wsX12_family wsX12_clears := goodIn_r _ [12, 3, 13, 14, 15, 11, 16, 17, 118, 119, 120, 121, 122, 123, 124, 125, 126, 127, 128, 129, 130, 131, 132, 133, 134, 135, 136, 137, 138, 139, 140, 141, 142, 143, 144, 145, 146, 147, 148, 149, 150, 151, 152, 153, 154, 155, 156, 157, 158, 159, 160, 161, 162, 163, 164, 165] (by decide +kernel) (by decide +kernel)
set_option maxRecDepth 20000 in
theorem gX12_family_X12_clears : GoodIn wsX12_family (wsV RX12 210 RX12 yX12_clears wsX12_clears) := goodIn_app (goodIn_of _ (by decide +kernel)) ggX12_family_X12_clears
set_option maxRecDepth 20000 in
theorem ggX12_family_X12_begins : GoodIn wsX12_family wsX12_begins := goodIn_r _ [21, 6, 22, 23, 24, 25, 26, 11, 27, 28, 29, 30, 31, 2, 32, 33, 34, 35, 36, 37, 38, 39, 40, 41, 118, 119, 120, 121, 122, 123, 124, 125, 126, 127, 128, 129, 130, 131, 132, 133, 134, 135, 136, 137, 138, 139, 140, 141, 142, 143, 144, 145, 146, 147, 148, 149, 150, 151, 152, 153, 154, 155, 156, 157, 158, 159, 160, 161, 162, 163, 164, 165] (by decide +kernel) (by decide +kernel)
set_option maxRecDepth 20000 in
theorem gX12_family_X12_begins : GoodIn wsX12_family (wsV RX12 213 RX12 yX12_begins wsX12_begins) := goodIn_app (goodIn_of _ (by decide +kernel)) ggX12_family_X12_begins
set_option maxRecDepth 20000 in
theorem ggX12_family_X12_isGood : GoodIn wsX12_family wsX12_isGood := goodIn_r _ [45, 6, 118, 119, 120, 121, 122, 123, 124, 125, 126, 127, 128, 129, 130, 131, 132, 133, 134, 135, 136, 137, 138, 139, 140, 141, 142, 143, 144, 145, 146, 147, 148, 149, 150, 151, 152, 153, 154, 155, 156, 157, 158, 159, 160, 161, 162, 163, 164, 165] (by decide +kernel) (by decide +kernel)
set_option maxRecDepth 20000 in
theorem gX12_family_X12_isGood : GoodIn wsX12_family (wsV RX12 181 RX12 yX12_isGood wsX12_isGood) := goodIn_app (goodIn_of _ (by decide +kernel)) ggX12_family_X12_isGood
set_option maxRecDepth 20000 in
theorem ggX12_family_X12_asks : GoodIn wsX12_family wsX12_asks := goodIn_r _ [49, 50, 51, 52, 11, 53, 54, 55, 56, 57, 6, 2, 30, 24, 25, 26, 27, 23, 28, 29, 31, 32, 33, 34, 35, 36, 37, 38, 39, 40, 41, 58, 59, 60, 61, 22, 118, 119, 120, 121, 122, 123, 124, 125, 126, 127, 128, 129, 130, 131, 132, 133, 134, 135, 136, 137, 138, 139, 140, 141, 142, 143, 144, 145, 146, 147, 148, 149, 150, 151, 152, 153, 154, 155, 156, 157, 158, 159, 160, 161, 162, 163, 164, 165] (by decide +kernel) (by decide +kernel)
set_option maxRecDepth 20000 in
theorem gX12_family_X12_asks : GoodIn wsX12_family (wsV RX12 159 RX12 yX12_asks wsX12_asks) := goodIn_app (goodIn_of _ (by decide +kernel)) ggX12_family_X12_asks
set_option maxRecDepth 20000 in
theorem ggX12_family_X12_number_ : GoodIn wsX12_family wsX12_number_ := goodIn_r _ [65, 46, 47, 48, 11, 49, 50, 51, 52, 53, 54, 55, 56, 57, 6, 2, 30, 24, 25, 26, 27, 23, 28, 29, 31, 32, 33, 34, 35, 36, 37, 38, 39, 40, 41, 58, 59, 60, 61, 22, 66, 67, 68, 69, 70, 71, 72, 118, 119, 120, 121, 122, 123, 124, 125, 126, 127, 128, 129, 130, 131, 132, 133, 134, 135, 136, 137, 138, 139, 140, 141, 142, 143, 144, 145, 146, 147, 148, 149, 150, 151, 152, 153, 154, 155, 156, 157, 158, 159, 160, 161, 162, 163, 164, 165] (by decide +kernel) (by decide +kernel)
set_option maxRecDepth 20000 in
theorem gX12_family_X12_number_ : GoodIn wsX12_family (wsV RX12 176 RX12 yX12_number_ wsX12_number_) := goodIn_app (goodIn_of _ (by decide +kernel)) ggX12_family_X12_number_
set_option maxRecDepth 20000 in
theorem ggX12_family_X12_tells : GoodIn wsX12_family wsX12_tells := goodIn_r _ [16, 17, 118, 119, 120, 121, 122, 123, 124, 125, 126, 127, 128, 129, 130, 131, 132, 133, 134, 135, 136, 137, 138, 139, 140, 141, 142, 143, 144, 145, 146, 147, 148, 149, 150, 151, 152, 153, 154, 155, 156, 157, 158, 159, 160, 161, 162, 163, 164, 165] (by decide +kernel) (by decide +kernel)
set_option maxRecDepth 20000 in
theorem gX12_family_X12_tells : GoodIn wsX12_family (wsV RX12 193 RX12 yX12_tells wsX12_tells) := goodIn_app (goodIn_of _ (by decide +kernel)) ggX12_family_X12_tells
set_option maxRecDepth 20000 in
theorem ggX12_family_X12_takes : GoodIn wsX12_family wsX12_takes := goodIn_r _ [53, 54, 55, 56, 11, 57, 6, 2, 30, 24, 25, 26, 27, 23, 28, 29, 31, 32, 33, 34, 35, 36, 37, 38, 39, 40, 41, 118, 119, 120, 121, 122, 123, 124, 125, 126, 127, 128, 129, 130, 131, 132, 133, 134, 135, 136, 137, 138, 139, 140, 141, 142, 143, 144, 145, 146, 147, 148, 149, 150, 151, 152, 153, 154, 155, 156, 157, 158, 159, 160, 161, 162, 163, 164, 165] (by decide +kernel) (by decide +kernel)
set_option maxRecDepth 20000 in
theorem gX12_family_X12_takes : GoodIn wsX12_family (wsV RX12 153 RX12 yX12_takes wsX12_takes) := goodIn_app (goodIn_of _ (by decide +kernel)) ggX12_family_X12_takes
set_option maxRecDepth 20000 in
theorem ggX12_family_X12_line : GoodIn wsX12_family wsX12_line := goodIn_r _ [76, 77, 78, 6, 79, 80, 81, 82, 54, 55, 56, 11, 57, 2, 30, 58, 59, 60, 61, 28, 22, 83, 84, 85, 86, 17, 24, 25, 26, 27, 23, 29, 31, 32, 33, 34, 35, 36, 37, 38, 39, 40, 41, 87, 88, 89, 90, 91, 92, 93, 94, 95, 96, 62, 63, 64, 65, 46, 47, 48, 49, 50, 51, 52, 53, 66, 67, 68, 69, 70, 71, 72, 42, 43, 44, 45, 97, 98, 99, 13, 14, 15, 16, 118, 119, 120, 121, 122, 123, 124, 125, 126, 127, 128, 129, 130, 131, 132, 133, 134, 135, 136, 137, 138, 139, 140, 141, 142, 143, 144, 145, 146, 147, 148, 149, 150, 151, 152, 153, 154, 155, 156, 157, 158, 159, 160, 161, 162, 163, 164, 165] (by decide +kernel) (by decide +kernel)
set_option maxRecDepth 20000 in
theorem gX12_family_X12_line : GoodIn wsX12_family (wsV RX12 222 RX12 yX12_line wsX12_line) := goodIn_app (goodIn_of _ (by decide +kernel)) ggX12_family_X12_line
set_option maxRecDepth 20000 in
theorem ggX12_family_X12_ends : GoodIn wsX12_family wsX12_ends := goodIn_r _ [103, 2, 6, 58, 59, 60, 11, 61, 28, 22, 24, 25, 26, 27, 23, 29, 30, 31, 32, 33, 34, 35, 36, 37, 38, 39, 40, 41, 118, 119, 120, 121, 122, 123, 124, 125, 126, 127, 128, 129, 130, 131, 132, 133, 134, 135, 136, 137, 138, 139, 140, 141, 142, 143, 144, 145, 146, 147, 148, 149, 150, 151, 152, 153, 154, 155, 156, 157, 158, 159, 160, 161, 162, 163, 164, 165] (by decide +kernel) (by decide +kernel)
set_option maxRecDepth 20000 in
theorem gX12_family_X12_ends : GoodIn wsX12_family (wsV RX12 225 RX12 yX12_ends wsX12_ends) := goodIn_app (goodIn_of _ (by decide +kernel)) ggX12_family_X12_ends
set_option maxRecDepth 20000 in
theorem ggX12_family_X12_isOver : GoodIn wsX12_family wsX12_isOver := goodIn_r _ [107, 31, 6, 108, 22, 109, 118, 119, 120, 121, 122, 123, 124, 125, 126, 127, 128, 129, 130, 131, 132, 133, 134, 135, 136, 137, 138, 139, 140, 141, 142, 143, 144, 145, 146, 147, 148, 149, 150, 151, 152, 153, 154, 155, 156, 157, 158, 159, 160, 161, 162, 163, 164, 165] (by decide +kernel) (by decide +kernel)
set_option maxRecDepth 20000 in
theorem gX12_family_X12_isOver : GoodIn wsX12_family (wsV RX12 228 RX12 yX12_isOver wsX12_isOver) := goodIn_app (goodIn_of _ (by decide +kernel)) ggX12_family_X12_isOver
set_option maxRecDepth 20000 in
theorem ggX12_family_X12_copyFamily : GoodIn wsX12_family wsX12_copyFamily := goodIn_r _ [113, 3, 17, 91, 93, 79, 114, 115, 116, 11, 117, 118, 119, 120, 121, 122, 123, 124, 125, 126, 127, 128, 129, 130, 131, 132, 133, 134, 135, 136, 137, 138, 139, 140, 141, 142, 143, 144, 145, 146, 147, 148, 149, 150, 151, 152, 153, 154, 155, 156, 157, 158, 159, 160, 161, 162, 163, 164, 165] (by decide +kernel) (by decide +kernel)
set_option maxRecDepth 20000 in
theorem gX12_family_X12_copyFamily : GoodIn wsX12_family (wsV RX12 231 RX12 yX12_copyFamily wsX12_copyFamily) := goodIn_app (goodIn_of _ (by decide +kernel)) ggX12_family_X12_copyFamily
set_option maxRecDepth 20000 in
theorem ggX12_copyFamily_X12_copyRow : GoodIn wsX12_copyFamily wsX12_copyRow := goodIn_r _ [10] (by decide +kernel) (by decide +kernel)
set_option maxRecDepth 20000 in
theorem gX12_copyFamily_X12_copyRow : GoodIn wsX12_copyFamily (va_wsS RX12 234 yX12_copyRow wsX12_copyRow) := goodIn_app (goodIn_of _ (by decide +kernel)) ggX12_copyFamily_X12_copyRow
set_option maxRecDepth 20000 in
theorem ggX12_isPerson_X12_in : GoodIn wsX12_isPerson wsX12_in := goodIn_r _ [5] (by decide +kernel) (by decide +kernel)
set_option maxRecDepth 20000 in
theorem gX12_isPerson_X12_in : GoodIn wsX12_isPerson (va_wsS RX12 93 yX12_in wsX12_in) := goodIn_app (goodIn_of _ (by decide +kernel)) ggX12_isPerson_X12_in
set_option maxRecDepth 20000 in
theorem ggX12_isPost_X12_in : GoodIn wsX12_isPost wsX12_in := goodIn_r _ [5] (by decide +kernel) (by decide +kernel)
set_option maxRecDepth 20000 in
theorem gX12_isPost_X12_in : GoodIn wsX12_isPost (va_wsS RX12 93 yX12_in wsX12_in) := goodIn_app (goodIn_of _ (by decide +kernel)) ggX12_isPost_X12_in
set_option maxRecDepth 20000 in
theorem ggX12_whyElse_X12_isBit : GoodIn wsX12_whyElse wsX12_isBit := goodIn_r _ [7] (by decide +kernel) (by decide +kernel)
set_option maxRecDepth 20000 in
theorem gX12_whyElse_X12_isBit : GoodIn wsX12_whyElse (va_wsS RX12 189 yX12_isBit wsX12_isBit) := goodIn_app (goodIn_of _ (by decide +kernel)) ggX12_whyElse_X12_isBit
set_option maxRecDepth 20000 in
theorem ggX12_whyElse_X12_sideOf : GoodIn wsX12_whyElse wsX12_sideOf := goodIn_r _ [11, 12, 24, 25, 26, 27, 28, 29, 30, 31, 32, 33, 34, 35, 36, 37, 38, 39, 40, 41, 42, 43, 44, 45, 46, 47, 48, 49, 50, 51, 52, 53, 54, 55, 56, 57, 58, 59, 60, 61, 62, 63, 64, 65, 66, 67, 68, 69, 70, 71] (by decide +kernel) (by decide +kernel)
set_option maxRecDepth 20000 in
theorem gX12_whyElse_X12_sideOf : GoodIn wsX12_whyElse (wsV RX12 253 RX12 yX12_sideOf wsX12_sideOf) := goodIn_app (goodIn_of _ (by decide +kernel)) ggX12_whyElse_X12_sideOf
set_option maxRecDepth 20000 in
theorem ggX12_whyElse_X12_noses : GoodIn wsX12_whyElse wsX12_noses := goodIn_r _ [16, 17, 18, 24, 25, 26, 27, 28, 29, 30, 31, 32, 33, 34, 35, 36, 37, 38, 39, 40, 41, 42, 43, 44, 45, 46, 47, 48, 49, 50, 51, 52, 53, 54, 55, 56, 57, 58, 59, 60, 61, 62, 63, 64, 65, 66, 67, 68, 69, 70, 71] (by decide +kernel) (by decide +kernel)
set_option maxRecDepth 20000 in
theorem gX12_whyElse_X12_noses : GoodIn wsX12_whyElse (wsV RX12 256 RX12 yX12_noses wsX12_noses) := goodIn_app (goodIn_of _ (by decide +kernel)) ggX12_whyElse_X12_noses
set_option maxRecDepth 20000 in
theorem ggX12_whyElse_X12_stamps : GoodIn wsX12_whyElse wsX12_stamps := goodIn_r _ [22, 23, 18, 24, 25, 26, 27, 28, 29, 30, 31, 32, 33, 34, 35, 36, 37, 38, 39, 40, 41, 42, 43, 44, 45, 46, 47, 48, 49, 50, 51, 52, 53, 54, 55, 56, 57, 58, 59, 60, 61, 62, 63, 64, 65, 66, 67, 68, 69, 70, 71] (by decide +kernel) (by decide +kernel)
set_option maxRecDepth 20000 in
theorem gX12_whyElse_X12_stamps : GoodIn wsX12_whyElse (wsV RX12 259 RX12 yX12_stamps wsX12_stamps) := goodIn_app (goodIn_of _ (by decide +kernel)) ggX12_whyElse_X12_stamps
set_option maxRecDepth 20000 in
theorem ggX12_whyOf_X12_sideOf : GoodIn wsX12_whyOf wsX12_sideOf := goodIn_r _ [6, 7, 29, 30, 31, 32, 33, 34, 35, 36, 37, 38, 39, 40, 41, 42, 43, 44, 45, 46, 47, 48, 49, 50, 51, 52, 53, 54, 55, 56, 57, 58, 59, 60, 61, 62, 63, 64, 65, 66, 67, 68, 69, 70, 71, 72, 73, 74, 75, 76] (by decide +kernel) (by decide +kernel)
set_option maxRecDepth 20000 in
theorem gX12_whyOf_X12_sideOf : GoodIn wsX12_whyOf (wsV RX12 253 RX12 yX12_sideOf wsX12_sideOf) := goodIn_app (goodIn_of _ (by decide +kernel)) ggX12_whyOf_X12_sideOf
set_option maxRecDepth 20000 in
theorem ggX12_whyOf_X12_whyElse : GoodIn wsX12_whyOf wsX12_whyElse := goodIn_r _ [11, 12, 13, 14, 15, 16, 5, 17, 2, 3, 4, 6, 7, 18, 19, 20, 21, 22, 23, 24, 25, 26, 27, 28, 29, 30, 31, 32, 33, 34, 35, 36, 37, 38, 39, 40, 41, 42, 43, 44, 45, 46, 47, 48, 49, 50, 51, 52, 53, 54, 55, 56, 57, 58, 59, 60, 61, 62, 63, 64, 65, 66, 67, 68, 69, 70, 71, 72, 73, 74, 75, 76] (by decide +kernel) (by decide +kernel)
set_option maxRecDepth 20000 in
theorem gX12_whyOf_X12_whyElse : GoodIn wsX12_whyOf (wsV RX12 262 RX12 yX12_whyElse wsX12_whyElse) := goodIn_app (goodIn_of _ (by decide +kernel)) ggX12_whyOf_X12_whyElse
set_option maxRecDepth 20000 in
theorem ggX12_crosses_X12_sideOf : GoodIn wsX12_crosses wsX12_sideOf := goodIn_r _ [10, 1, 16, 17, 18, 19, 20, 21, 22, 23, 24, 25, 26, 27, 28, 29, 30, 31, 32, 33, 34, 35, 36, 37, 38, 39, 40, 41, 42, 43, 44, 45, 46, 47, 48, 49, 50, 51, 52, 53, 54, 55, 56, 57, 58, 59, 60, 61, 62, 63] (by decide +kernel) (by decide +kernel)
set_option maxRecDepth 20000 in
theorem gX12_crosses_X12_sideOf : GoodIn wsX12_crosses (wsV RX12 253 RX12 yX12_sideOf wsX12_sideOf) := goodIn_app (goodIn_of _ (by decide +kernel)) ggX12_crosses_X12_sideOf
set_option maxRecDepth 20000 in
theorem ggX12_crosses_X12_marks : GoodIn wsX12_crosses wsX12_marks := goodIn_r _ [14, 15, 16, 17, 18, 19, 20, 21, 22, 23, 24, 25, 26, 27, 28, 29, 30, 31, 32, 33, 34, 35, 36, 37, 38, 39, 40, 41, 42, 43, 44, 45, 46, 47, 48, 49, 50, 51, 52, 53, 54, 55, 56, 57, 58, 59, 60, 61, 62, 63] (by decide +kernel) (by decide +kernel)
set_option maxRecDepth 20000 in
theorem gX12_crosses_X12_marks : GoodIn wsX12_crosses (wsV RX12 266 RX12 yX12_marks wsX12_marks) := goodIn_app (goodIn_of _ (by decide +kernel)) ggX12_crosses_X12_marks
set_option maxRecDepth 20000 in
theorem ggX12_mayAct_X12_whyOf : GoodIn wsX12_mayAct wsX12_whyOf := goodIn_r _ [5, 6, 7, 8, 9, 4, 10, 11, 12, 13, 14, 15, 16, 17, 18, 19, 20, 21, 22, 23, 24, 25, 26, 27, 28, 29, 30, 31, 32, 33, 34, 35, 36, 37, 38, 39, 40, 41, 42, 43, 44, 45, 46, 47, 48, 49, 50, 51, 52, 53, 54, 55, 56, 57, 58, 59, 60, 61, 62, 63, 64, 65, 66, 67, 68, 69, 70, 71, 72, 73, 74, 75, 76, 77, 78, 79, 80] (by decide +kernel) (by decide +kernel)
set_option maxRecDepth 20000 in
theorem gX12_mayAct_X12_whyOf : GoodIn wsX12_mayAct (wsV RX12 274 RX12 yX12_whyOf wsX12_whyOf) := goodIn_app (goodIn_of _ (by decide +kernel)) ggX12_mayAct_X12_whyOf
set_option maxRecDepth 20000 in
theorem ggX12_does_X12_crosses : GoodIn wsX12_does wsX12_crosses := goodIn_r _ [6, 7, 1, 8, 9, 10, 11, 12, 13, 5, 14, 15, 16, 17, 18, 19, 20, 21, 22, 23, 24, 25, 26, 27, 28, 29, 30, 31, 32, 33, 34, 35, 36, 37, 38, 39, 40, 41, 42, 43, 44, 45, 46, 47, 48, 49, 50, 51, 52, 53, 54, 55, 56, 57, 58, 59, 60, 61, 62, 63, 64, 65, 66, 67] (by decide +kernel) (by decide +kernel)
set_option maxRecDepth 20000 in
theorem gX12_does_X12_crosses : GoodIn wsX12_does (wsV RX12 278 RX12 yX12_crosses wsX12_crosses) := goodIn_app (goodIn_of _ (by decide +kernel)) ggX12_does_X12_crosses
set_option maxRecDepth 20000 in
theorem ggX12_nextAct_X12_isActNumber : GoodIn wsX12_nextAct wsX12_isActNumber := goodIn_r _ [6, 7, 8, 1, 9, 44, 45, 46, 47, 48, 49, 50, 51, 52, 53, 54, 55, 56, 57, 58, 59, 60, 61, 62, 63, 64, 65, 66, 67, 68, 69, 70, 71, 72, 73, 74, 75, 76, 77, 78, 79, 80, 81, 82, 83, 84, 85, 86, 87, 88, 89, 90, 91] (by decide +kernel) (by decide +kernel)
set_option maxRecDepth 20000 in
theorem gX12_nextAct_X12_isActNumber : GoodIn wsX12_nextAct (wsV RX12 282 RX12 yX12_isActNumber wsX12_isActNumber) := goodIn_app (goodIn_of _ (by decide +kernel)) ggX12_nextAct_X12_isActNumber
set_option maxRecDepth 20000 in
theorem ggX12_nextAct_X12_mayAct : GoodIn wsX12_nextAct wsX12_mayAct := goodIn_r _ [13, 14, 15, 16, 5, 17, 18, 19, 20, 21, 22, 23, 24, 25, 26, 27, 1, 28, 29, 30, 31, 32, 33, 34, 35, 36, 37, 38, 39, 40, 41, 42, 43, 44, 45, 46, 47, 48, 49, 50, 51, 52, 53, 54, 55, 56, 57, 58, 59, 60, 61, 62, 63, 64, 65, 66, 67, 68, 69, 70, 71, 72, 73, 74, 75, 76, 77, 78, 79, 80, 81, 82, 83, 84, 85, 86, 87, 88, 89, 90, 91] (by decide +kernel) (by decide +kernel)
set_option maxRecDepth 20000 in
theorem gX12_nextAct_X12_mayAct : GoodIn wsX12_nextAct (wsV RX12 285 RX12 yX12_mayAct wsX12_mayAct) := goodIn_app (goodIn_of _ (by decide +kernel)) ggX12_nextAct_X12_mayAct
set_option maxRecDepth 20000 in
theorem ggX12_start_X12_begin : GoodIn wsX12_start wsX12_begin := goodIn_r _ [8, 9, 10, 11, 12, 13, 14, 15, 16, 17, 18, 19, 20, 21, 22, 23, 24, 25, 26, 27, 28, 29, 30, 31, 32, 33, 34, 35, 36, 37, 38, 39, 40, 41, 42, 43, 44, 45, 46, 47, 48, 49, 50, 51, 52, 53, 54, 55, 56, 57, 58, 59, 60, 61] (by decide +kernel) (by decide +kernel)
set_option maxRecDepth 20000 in
theorem gX12_start_X12_begin : GoodIn wsX12_start (wsV RX12 288 RX12 yX12_begin wsX12_begin) := goodIn_app (goodIn_of _ (by decide +kernel)) ggX12_start_X12_begin
set_option maxRecDepth 20000 in
theorem ggX12_goes_X12_riskOf : GoodIn wsX12_goes wsX12_riskOf := goodIn_r _ [11, 12, 13, 34, 35, 36, 37, 38, 39, 40, 41, 42, 43, 44, 45, 46, 47, 48, 49, 50, 51, 52, 53, 54, 55, 56, 57, 58, 59, 60, 61, 62, 63, 64, 65, 66, 67, 68, 69, 70, 71, 72, 73, 74, 75, 76, 77, 78, 79, 80, 81] (by decide +kernel) (by decide +kernel)
set_option maxRecDepth 20000 in
theorem gX12_goes_X12_riskOf : GoodIn wsX12_goes (wsV RX12 300 RX12 yX12_riskOf wsX12_riskOf) := goodIn_app (goodIn_of _ (by decide +kernel)) ggX12_goes_X12_riskOf
set_option maxRecDepth 20000 in
theorem ggX12_goes_X12_does : GoodIn wsX12_goes wsX12_does := goodIn_r _ [17, 5, 18, 19, 20, 10, 21, 22, 2, 23, 24, 25, 26, 27, 28, 29, 30, 31, 32, 33, 34, 35, 36, 37, 38, 39, 40, 41, 42, 43, 44, 45, 46, 47, 48, 49, 50, 51, 52, 53, 54, 55, 56, 57, 58, 59, 60, 61, 62, 63, 64, 65, 66, 67, 68, 69, 70, 71, 72, 73, 74, 75, 76, 77, 78, 79, 80, 81] (by decide +kernel) (by decide +kernel)
set_option maxRecDepth 20000 in
theorem gX12_goes_X12_does : GoodIn wsX12_goes (wsV RX12 303 RX12 yX12_does wsX12_does) := goodIn_app (goodIn_of _ (by decide +kernel)) ggX12_goes_X12_does
set_option maxRecDepth 20000 in
theorem ggX12_lays_X12_start : GoodIn wsX12_lays wsX12_start := goodIn_r _ [7, 8, 9, 10, 11, 12, 13, 6, 14, 15, 16, 17, 18, 19, 47, 48, 49, 50, 51, 52, 53, 54, 55, 56, 57, 58, 59, 60, 61, 62, 63, 64, 65, 66, 67, 68, 69, 70, 71, 72, 73, 74, 75, 76, 77, 78, 79, 80, 81, 82, 83, 84, 85, 86, 87, 88, 89, 90, 91, 92, 93, 94] (by decide +kernel) (by decide +kernel)
set_option maxRecDepth 20000 in
theorem gX12_lays_X12_start : GoodIn wsX12_lays (wsV RX12 306 RX12 yX12_start wsX12_start) := goodIn_app (goodIn_of _ (by decide +kernel)) ggX12_lays_X12_start
set_option maxRecDepth 20000 in
theorem ggX12_lays_X12_goes : GoodIn wsX12_lays wsX12_goes := goodIn_r _ [23, 8, 1, 24, 10, 18, 9, 25, 26, 27, 6, 28, 29, 30, 31, 32, 33, 34, 35, 36, 37, 38, 19, 17, 16, 39, 40, 41, 42, 43, 44, 45, 46, 15, 47, 48, 49, 50, 51, 52, 53, 54, 55, 56, 57, 58, 59, 60, 61, 62, 63, 64, 65, 66, 67, 68, 69, 70, 71, 72, 73, 74, 75, 76, 77, 78, 79, 80, 81, 82, 83, 84, 85, 86, 87, 88, 89, 90, 91, 92, 93, 94] (by decide +kernel) (by decide +kernel)
set_option maxRecDepth 20000 in
theorem gX12_lays_X12_goes : GoodIn wsX12_lays (wsV RX12 309 RX12 yX12_goes wsX12_goes) := goodIn_app (goodIn_of _ (by decide +kernel)) ggX12_lays_X12_goes
set_option maxRecDepth 20000 in
theorem ggX12_person_X12_isPerson : GoodIn wsX12_person wsX12_isPerson := goodIn_r _ [11, 5, 12, 13, 10, 14, 61, 62, 63, 64, 65, 66, 67, 68, 69, 70, 71, 72, 73, 74, 75, 76, 77, 78, 79, 80, 81, 82, 83, 84, 85, 86, 87, 88, 89, 90, 91, 92, 93, 94, 95, 96, 97, 98, 99, 100, 101, 102, 103, 104, 105, 106, 107, 108] (by decide +kernel) (by decide +kernel)
set_option maxRecDepth 20000 in
theorem gX12_person_X12_isPerson : GoodIn wsX12_person (wsV RX12 312 RX12 yX12_isPerson wsX12_isPerson) := goodIn_app (goodIn_of _ (by decide +kernel)) ggX12_person_X12_isPerson
set_option maxRecDepth 20000 in
theorem ggX12_person_X12_in : GoodIn wsX12_person wsX12_in := goodIn_r _ [14] (by decide +kernel) (by decide +kernel)
set_option maxRecDepth 20000 in
theorem gX12_person_X12_in : GoodIn wsX12_person (va_wsS RX12 93 yX12_in wsX12_in) := goodIn_app (goodIn_of _ (by decide +kernel)) ggX12_person_X12_in
set_option maxRecDepth 20000 in
theorem ggX12_person_X12_lays : GoodIn wsX12_person wsX12_lays := goodIn_r _ [18, 5, 19, 20, 21, 22, 10, 23, 24, 25, 26, 27, 28, 29, 30, 31, 32, 33, 34, 6, 35, 36, 37, 38, 39, 40, 41, 42, 43, 3, 44, 45, 46, 47, 48, 49, 50, 51, 52, 53, 54, 55, 56, 57, 58, 59, 60, 61, 62, 63, 64, 65, 66, 67, 68, 69, 70, 71, 72, 73, 74, 75, 76, 77, 78, 79, 80, 81, 82, 83, 84, 85, 86, 87, 88, 89, 90, 91, 92, 93, 94, 95, 96, 97, 98, 99, 100, 101, 102, 103, 104, 105, 106, 107, 108] (by decide +kernel) (by decide +kernel)
set_option maxRecDepth 20000 in
theorem gX12_person_X12_lays : GoodIn wsX12_person (wsV RX12 317 RX12 yX12_lays wsX12_lays) := goodIn_app (goodIn_of _ (by decide +kernel)) ggX12_person_X12_lays
set_option maxRecDepth 20000 in
theorem ggX12_post_X12_isPost : GoodIn wsX12_post wsX12_isPost := goodIn_r _ [10, 11, 12, 13, 9, 14, 60, 61, 62, 63, 64, 65, 66, 67, 68, 69, 70, 71, 72, 73, 74, 75, 76, 77, 78, 79, 80, 81, 82, 83, 84, 85, 86, 87, 88, 89, 90, 91, 92, 93, 94, 95, 96, 97, 98, 99, 100, 101, 102, 103, 104, 105, 106, 107] (by decide +kernel) (by decide +kernel)
set_option maxRecDepth 20000 in
theorem gX12_post_X12_isPost : GoodIn wsX12_post (wsV RX12 320 RX12 yX12_isPost wsX12_isPost) := goodIn_app (goodIn_of _ (by decide +kernel)) ggX12_post_X12_isPost
set_option maxRecDepth 20000 in
theorem ggX12_post_X12_in : GoodIn wsX12_post wsX12_in := goodIn_r _ [14] (by decide +kernel) (by decide +kernel)
set_option maxRecDepth 20000 in
theorem gX12_post_X12_in : GoodIn wsX12_post (va_wsS RX12 93 yX12_in wsX12_in) := goodIn_app (goodIn_of _ (by decide +kernel)) ggX12_post_X12_in
set_option maxRecDepth 20000 in
theorem ggX12_post_X12_lays : GoodIn wsX12_post wsX12_lays := goodIn_r _ [18, 11, 19, 20, 21, 22, 9, 23, 24, 25, 26, 27, 28, 29, 30, 31, 5, 4, 32, 33, 34, 35, 36, 37, 38, 39, 40, 41, 42, 43, 3, 44, 45, 46, 47, 48, 49, 50, 51, 52, 53, 54, 55, 56, 57, 58, 59, 60, 61, 62, 63, 64, 65, 66, 67, 68, 69, 70, 71, 72, 73, 74, 75, 76, 77, 78, 79, 80, 81, 82, 83, 84, 85, 86, 87, 88, 89, 90, 91, 92, 93, 94, 95, 96, 97, 98, 99, 100, 101, 102, 103, 104, 105, 106, 107] (by decide +kernel) (by decide +kernel)
set_option maxRecDepth 20000 in
theorem gX12_post_X12_lays : GoodIn wsX12_post (wsV RX12 317 RX12 yX12_lays wsX12_lays) := goodIn_app (goodIn_of _ (by decide +kernel)) ggX12_post_X12_lays
set_option maxRecDepth 20000 in
theorem ggX12_risk_X12_isPerson : GoodIn wsX12_risk wsX12_isPerson := goodIn_r _ [6, 7, 8, 9, 5, 10, 21, 22, 23, 24, 25, 26, 27, 28, 29, 30, 31, 32, 33, 34, 35, 36, 37, 38, 39, 40, 41, 42, 43, 44, 45, 46, 47, 48, 49, 50, 51, 52, 53, 54, 55, 56, 57, 58, 59, 60, 61, 62, 63, 64, 65, 66, 67, 68] (by decide +kernel) (by decide +kernel)
set_option maxRecDepth 20000 in
theorem gX12_risk_X12_isPerson : GoodIn wsX12_risk (wsV RX12 312 RX12 yX12_isPerson wsX12_isPerson) := goodIn_app (goodIn_of _ (by decide +kernel)) ggX12_risk_X12_isPerson
set_option maxRecDepth 20000 in
theorem ggX12_risk_X12_isPost : GoodIn wsX12_risk wsX12_isPost := goodIn_r _ [14, 7, 8, 9, 5, 10, 21, 22, 23, 24, 25, 26, 27, 28, 29, 30, 31, 32, 33, 34, 35, 36, 37, 38, 39, 40, 41, 42, 43, 44, 45, 46, 47, 48, 49, 50, 51, 52, 53, 54, 55, 56, 57, 58, 59, 60, 61, 62, 63, 64, 65, 66, 67, 68] (by decide +kernel) (by decide +kernel)
set_option maxRecDepth 20000 in
theorem gX12_risk_X12_isPost : GoodIn wsX12_risk (wsV RX12 320 RX12 yX12_isPost wsX12_isPost) := goodIn_app (goodIn_of _ (by decide +kernel)) ggX12_risk_X12_isPost
set_option maxRecDepth 20000 in
theorem ggX12_risk_X12_riskOf : GoodIn wsX12_risk wsX12_riskOf := goodIn_r _ [18, 19, 20, 21, 22, 23, 24, 25, 26, 27, 28, 29, 30, 31, 32, 33, 34, 35, 36, 37, 38, 39, 40, 41, 42, 43, 44, 45, 46, 47, 48, 49, 50, 51, 52, 53, 54, 55, 56, 57, 58, 59, 60, 61, 62, 63, 64, 65, 66, 67, 68] (by decide +kernel) (by decide +kernel)
set_option maxRecDepth 20000 in
theorem gX12_risk_X12_riskOf : GoodIn wsX12_risk (wsV RX12 300 RX12 yX12_riskOf wsX12_riskOf) := goodIn_app (goodIn_of _ (by decide +kernel)) ggX12_risk_X12_riskOf
set_option maxRecDepth 20000 in
theorem ggX12_after_X12_isPerson : GoodIn wsX12_after wsX12_isPerson := goodIn_r _ [7, 2, 8, 9, 6, 10, 24, 25, 26, 27, 28, 29, 30, 31, 32, 33, 34, 35, 36, 37, 38, 39, 40, 41, 42, 43, 44, 45, 46, 47, 48, 49, 50, 51, 52, 53, 54, 55, 56, 57, 58, 59, 60, 61, 62, 63, 64, 65, 66, 67, 68, 69, 70, 71] (by decide +kernel) (by decide +kernel)
set_option maxRecDepth 20000 in
theorem gX12_after_X12_isPerson : GoodIn wsX12_after (wsV RX12 312 RX12 yX12_isPerson wsX12_isPerson) := goodIn_app (goodIn_of _ (by decide +kernel)) ggX12_after_X12_isPerson
set_option maxRecDepth 20000 in
theorem ggX12_after_X12_isPost : GoodIn wsX12_after wsX12_isPost := goodIn_r _ [14, 2, 8, 9, 6, 10, 24, 25, 26, 27, 28, 29, 30, 31, 32, 33, 34, 35, 36, 37, 38, 39, 40, 41, 42, 43, 44, 45, 46, 47, 48, 49, 50, 51, 52, 53, 54, 55, 56, 57, 58, 59, 60, 61, 62, 63, 64, 65, 66, 67, 68, 69, 70, 71] (by decide +kernel) (by decide +kernel)
set_option maxRecDepth 20000 in
theorem gX12_after_X12_isPost : GoodIn wsX12_after (wsV RX12 320 RX12 yX12_isPost wsX12_isPost) := goodIn_app (goodIn_of _ (by decide +kernel)) ggX12_after_X12_isPost
set_option maxRecDepth 20000 in
theorem ggX12_after_X12_isBit : GoodIn wsX12_after wsX12_isBit := goodIn_r _ [17] (by decide +kernel) (by decide +kernel)
set_option maxRecDepth 20000 in
theorem gX12_after_X12_isBit : GoodIn wsX12_after (va_wsS RX12 189 yX12_isBit wsX12_isBit) := goodIn_app (goodIn_of _ (by decide +kernel)) ggX12_after_X12_isBit
set_option maxRecDepth 20000 in
theorem ggX12_after_X12_noses : GoodIn wsX12_after wsX12_noses := goodIn_r _ [21, 22, 23, 24, 25, 26, 27, 28, 29, 30, 31, 32, 33, 34, 35, 36, 37, 38, 39, 40, 41, 42, 43, 44, 45, 46, 47, 48, 49, 50, 51, 52, 53, 54, 55, 56, 57, 58, 59, 60, 61, 62, 63, 64, 65, 66, 67, 68, 69, 70, 71] (by decide +kernel) (by decide +kernel)
set_option maxRecDepth 20000 in
theorem gX12_after_X12_noses : GoodIn wsX12_after (wsV RX12 256 RX12 yX12_noses wsX12_noses) := goodIn_app (goodIn_of _ (by decide +kernel)) ggX12_after_X12_noses
set_option maxRecDepth 20000 in
theorem ggX12_now_X12_isFamily : GoodIn wsX12_now wsX12_isFamily := goodIn_r _ [12, 13, 61, 62, 63, 64, 65, 66, 67, 68, 69, 70, 71, 72, 73, 74, 75, 76, 77, 78, 79, 80, 81, 82, 83, 84, 85, 86, 87, 88, 89, 90, 91, 92, 93, 94, 95, 96, 97, 98, 99, 100, 101, 102, 103, 104, 105, 106, 107, 108] (by decide +kernel) (by decide +kernel)
set_option maxRecDepth 20000 in
theorem gX12_now_X12_isFamily : GoodIn wsX12_now (wsV RX12 323 RX12 yX12_isFamily wsX12_isFamily) := goodIn_app (goodIn_of _ (by decide +kernel)) ggX12_now_X12_isFamily
set_option maxRecDepth 20000 in
theorem ggX12_now_X12_in : GoodIn wsX12_now wsX12_in := goodIn_r _ [16] (by decide +kernel) (by decide +kernel)
set_option maxRecDepth 20000 in
theorem gX12_now_X12_in : GoodIn wsX12_now (va_wsS RX12 93 yX12_in wsX12_in) := goodIn_app (goodIn_of _ (by decide +kernel)) ggX12_now_X12_in
set_option maxRecDepth 20000 in
theorem ggX12_now_X12_lays : GoodIn wsX12_now wsX12_lays := goodIn_r _ [20, 21, 22, 23, 24, 25, 11, 26, 5, 7, 6, 27, 28, 29, 30, 31, 32, 33, 4, 3, 34, 35, 36, 37, 38, 39, 40, 41, 42, 43, 44, 45, 46, 47, 48, 49, 50, 51, 52, 53, 54, 55, 56, 57, 58, 59, 60, 61, 62, 63, 64, 65, 66, 67, 68, 69, 70, 71, 72, 73, 74, 75, 76, 77, 78, 79, 80, 81, 82, 83, 84, 85, 86, 87, 88, 89, 90, 91, 92, 93, 94, 95, 96, 97, 98, 99, 100, 101, 102, 103, 104, 105, 106, 107, 108] (by decide +kernel) (by decide +kernel)
set_option maxRecDepth 20000 in
theorem gX12_now_X12_lays : GoodIn wsX12_now (wsV RX12 317 RX12 yX12_lays wsX12_lays) := goodIn_app (goodIn_of _ (by decide +kernel)) ggX12_now_X12_lays
set_option maxRecDepth 20000 in
theorem ggX12_stamp_X12_isFamily : GoodIn wsX12_stamp wsX12_isFamily := goodIn_r _ [8, 9, 60, 61, 62, 63, 64, 65, 66, 67, 68, 69, 70, 71, 72, 73, 74, 75, 76, 77, 78, 79, 80, 81, 82, 83, 84, 85, 86, 87, 88, 89, 90, 91, 92, 93, 94, 95, 96, 97, 98, 99, 100, 101, 102, 103, 104, 105, 106, 107] (by decide +kernel) (by decide +kernel)
set_option maxRecDepth 20000 in
theorem gX12_stamp_X12_isFamily : GoodIn wsX12_stamp (wsV RX12 323 RX12 yX12_isFamily wsX12_isFamily) := goodIn_app (goodIn_of _ (by decide +kernel)) ggX12_stamp_X12_isFamily
set_option maxRecDepth 20000 in
theorem ggX12_stamp_X12_lays : GoodIn wsX12_stamp wsX12_lays := goodIn_r _ [13, 14, 15, 16, 17, 18, 7, 19, 20, 21, 2, 22, 23, 24, 25, 26, 27, 28, 29, 30, 31, 32, 33, 34, 3, 35, 36, 37, 38, 39, 40, 41, 42, 43, 44, 45, 46, 47, 48, 49, 50, 51, 52, 53, 54, 55, 56, 60, 61, 62, 63, 64, 65, 66, 67, 68, 69, 70, 71, 72, 73, 74, 75, 76, 77, 78, 79, 80, 81, 82, 83, 84, 85, 86, 87, 88, 89, 90, 91, 92, 93, 94, 95, 96, 97, 98, 99, 100, 101, 102, 103, 104, 105, 106, 107] (by decide +kernel) (by decide +kernel)
set_option maxRecDepth 20000 in
theorem gX12_stamp_X12_lays : GoodIn wsX12_stamp (wsV RX12 317 RX12 yX12_lays wsX12_lays) := goodIn_app (goodIn_of _ (by decide +kernel)) ggX12_stamp_X12_lays
set_option maxRecDepth 20000 in
theorem ggX12_stamp_X12_in : GoodIn wsX12_stamp wsX12_in := goodIn_r _ [59] (by decide +kernel) (by decide +kernel)
set_option maxRecDepth 20000 in
theorem gX12_stamp_X12_in : GoodIn wsX12_stamp (va_wsS RX12 93 yX12_in wsX12_in) := goodIn_app (goodIn_of _ (by decide +kernel)) ggX12_stamp_X12_in
set_option maxRecDepth 20000 in
theorem ggX12_lies_X12_isFamily : GoodIn wsX12_lies wsX12_isFamily := goodIn_r _ [6, 7, 61, 62, 63, 64, 65, 66, 67, 68, 69, 70, 71, 72, 73, 74, 75, 76, 77, 78, 79, 80, 81, 82, 83, 84, 85, 86, 87, 88, 89, 90, 91, 92, 93, 94, 95, 96, 97, 98, 99, 100, 101, 102, 103, 104, 105, 106, 107, 108] (by decide +kernel) (by decide +kernel)
set_option maxRecDepth 20000 in
theorem gX12_lies_X12_isFamily : GoodIn wsX12_lies (wsV RX12 323 RX12 yX12_isFamily wsX12_isFamily) := goodIn_app (goodIn_of _ (by decide +kernel)) ggX12_lies_X12_isFamily
set_option maxRecDepth 20000 in
theorem ggX12_lies_X12_lays : GoodIn wsX12_lies wsX12_lays := goodIn_r _ [11, 12, 13, 14, 15, 16, 5, 17, 18, 19, 20, 21, 22, 23, 24, 25, 26, 27, 28, 29, 30, 31, 32, 33, 34, 35, 36, 37, 38, 39, 40, 41, 42, 43, 44, 45, 46, 47, 48, 49, 50, 51, 52, 53, 54, 55, 56, 61, 62, 63, 64, 65, 66, 67, 68, 69, 70, 71, 72, 73, 74, 75, 76, 77, 78, 79, 80, 81, 82, 83, 84, 85, 86, 87, 88, 89, 90, 91, 92, 93, 94, 95, 96, 97, 98, 99, 100, 101, 102, 103, 104, 105, 106, 107, 108] (by decide +kernel) (by decide +kernel)
set_option maxRecDepth 20000 in
theorem gX12_lies_X12_lays : GoodIn wsX12_lies (wsV RX12 317 RX12 yX12_lays wsX12_lays) := goodIn_app (goodIn_of _ (by decide +kernel)) ggX12_lies_X12_lays
set_option maxRecDepth 20000 in
theorem ggX12_lies_X12_liesNow : GoodIn wsX12_lies wsX12_liesNow := goodIn_r _ [60, 20, 34, 61, 62, 63, 64, 65, 66, 67, 68, 69, 70, 71, 72, 73, 74, 75, 76, 77, 78, 79, 80, 81, 82, 83, 84, 85, 86, 87, 88, 89, 90, 91, 92, 93, 94, 95, 96, 97, 98, 99, 100, 101, 102, 103, 104, 105, 106, 107, 108] (by decide +kernel) (by decide +kernel)
set_option maxRecDepth 20000 in
theorem gX12_lies_X12_liesNow : GoodIn wsX12_lies (wsV RX12 326 RX12 yX12_liesNow wsX12_liesNow) := goodIn_app (goodIn_of _ (by decide +kernel)) ggX12_lies_X12_liesNow
set_option maxRecDepth 20000 in
theorem ggX12_isCrossing_X12_isPerson : GoodIn wsX12_isCrossing wsX12_isPerson := goodIn_r _ [5, 6, 7, 8, 4, 9, 14, 15, 16, 17, 18, 19, 20, 21, 22, 23, 24, 25, 26, 27, 28, 29, 30, 31, 32, 33, 34, 35, 36, 37, 38, 39, 40, 41, 42, 43, 44, 45, 46, 47, 48, 49, 50, 51, 52, 53, 54, 55, 56, 57, 58, 59, 60, 61] (by decide +kernel) (by decide +kernel)
set_option maxRecDepth 20000 in
theorem gX12_isCrossing_X12_isPerson : GoodIn wsX12_isCrossing (wsV RX12 312 RX12 yX12_isPerson wsX12_isPerson) := goodIn_app (goodIn_of _ (by decide +kernel)) ggX12_isCrossing_X12_isPerson
set_option maxRecDepth 20000 in
theorem ggX12_isCrossing_X12_isPost : GoodIn wsX12_isCrossing wsX12_isPost := goodIn_r _ [13, 6, 7, 8, 4, 9, 14, 15, 16, 17, 18, 19, 20, 21, 22, 23, 24, 25, 26, 27, 28, 29, 30, 31, 32, 33, 34, 35, 36, 37, 38, 39, 40, 41, 42, 43, 44, 45, 46, 47, 48, 49, 50, 51, 52, 53, 54, 55, 56, 57, 58, 59, 60, 61] (by decide +kernel) (by decide +kernel)
set_option maxRecDepth 20000 in
theorem gX12_isCrossing_X12_isPost : GoodIn wsX12_isCrossing (wsV RX12 320 RX12 yX12_isPost wsX12_isPost) := goodIn_app (goodIn_of _ (by decide +kernel)) ggX12_isCrossing_X12_isPost
set_option maxRecDepth 20000 in
theorem ggX12_why_X12_isCrossing : GoodIn wsX12_why wsX12_isCrossing := goodIn_r _ [6, 7, 8, 9, 5, 10, 11, 12, 13, 14, 15, 16, 17, 18, 87, 88, 89, 90, 91, 92, 93, 94, 95, 96, 97, 98, 99, 100, 101, 102, 103, 104, 105, 106, 107, 108, 109, 110, 111, 112, 113, 114, 115, 116, 117, 118, 119, 120, 121, 122, 123, 124, 125, 126, 127, 128, 129, 130, 131, 132, 133, 134] (by decide +kernel) (by decide +kernel)
set_option maxRecDepth 20000 in
theorem gX12_why_X12_isCrossing : GoodIn wsX12_why (wsV RX12 330 RX12 yX12_isCrossing wsX12_isCrossing) := goodIn_app (goodIn_of _ (by decide +kernel)) ggX12_why_X12_isCrossing
set_option maxRecDepth 20000 in
theorem ggX12_why_X12_lays : GoodIn wsX12_why wsX12_lays := goodIn_r _ [22, 11, 23, 24, 25, 26, 5, 27, 28, 29, 30, 31, 32, 33, 34, 35, 36, 37, 38, 39, 40, 41, 42, 43, 44, 45, 46, 47, 48, 49, 50, 51, 52, 53, 54, 55, 56, 57, 58, 59, 60, 61, 62, 63, 64, 65, 66, 87, 88, 89, 90, 91, 92, 93, 94, 95, 96, 97, 98, 99, 100, 101, 102, 103, 104, 105, 106, 107, 108, 109, 110, 111, 112, 113, 114, 115, 116, 117, 118, 119, 120, 121, 122, 123, 124, 125, 126, 127, 128, 129, 130, 131, 132, 133, 134] (by decide +kernel) (by decide +kernel)
set_option maxRecDepth 20000 in
theorem gX12_why_X12_lays : GoodIn wsX12_why (wsV RX12 317 RX12 yX12_lays wsX12_lays) := goodIn_app (goodIn_of _ (by decide +kernel)) ggX12_why_X12_lays
set_option maxRecDepth 20000 in
theorem ggX12_why_X12_whyOf : GoodIn wsX12_why wsX12_whyOf := goodIn_r _ [70, 38, 59, 60, 61, 5, 62, 39, 71, 72, 73, 74, 11, 37, 36, 75, 76, 77, 78, 79, 80, 81, 82, 50, 83, 84, 85, 86, 35, 87, 88, 89, 90, 91, 92, 93, 94, 95, 96, 97, 98, 99, 100, 101, 102, 103, 104, 105, 106, 107, 108, 109, 110, 111, 112, 113, 114, 115, 116, 117, 118, 119, 120, 121, 122, 123, 124, 125, 126, 127, 128, 129, 130, 131, 132, 133, 134] (by decide +kernel) (by decide +kernel)
set_option maxRecDepth 20000 in
theorem gX12_why_X12_whyOf : GoodIn wsX12_why (wsV RX12 274 RX12 yX12_whyOf wsX12_whyOf) := goodIn_app (goodIn_of _ (by decide +kernel)) ggX12_why_X12_whyOf
set_option maxRecDepth 20000 in
theorem ggX12_adds_X12_goes : GoodIn wsX12_adds wsX12_goes := goodIn_r _ [8, 3, 2, 9, 10, 11, 12, 13, 14, 15, 7, 16, 17, 18, 19, 20, 21, 22, 23, 24, 25, 26, 27, 28, 29, 30, 31, 32, 33, 34, 35, 36, 37, 38, 39, 40, 41, 42, 43, 44, 45, 46, 47, 48, 49, 50, 51, 52, 53, 54, 55, 56, 57, 58, 59, 60, 61, 62, 63, 64, 65, 66, 67, 68, 69, 70, 71, 72, 73, 74, 75, 76, 77, 78, 79, 80, 81, 82, 83, 84, 85, 86] (by decide +kernel) (by decide +kernel)
set_option maxRecDepth 20000 in
theorem gX12_adds_X12_goes : GoodIn wsX12_adds (wsV RX12 309 RX12 yX12_goes wsX12_goes) := goodIn_app (goodIn_of _ (by decide +kernel)) ggX12_adds_X12_goes
set_option maxRecDepth 20000 in
theorem ggX12_cross_X12_isCrossing : GoodIn wsX12_cross wsX12_isCrossing := goodIn_r _ [7, 8, 9, 10, 6, 11, 2, 12, 13, 14, 15, 16, 17, 18, 91, 92, 93, 94, 95, 96, 97, 98, 99, 100, 101, 102, 103, 104, 105, 106, 107, 108, 109, 110, 111, 112, 113, 114, 115, 116, 117, 118, 119, 120, 121, 122, 123, 124, 125, 126, 127, 128, 129, 130, 131, 132, 133, 134, 135, 136, 137, 138] (by decide +kernel) (by decide +kernel)
set_option maxRecDepth 20000 in
theorem gX12_cross_X12_isCrossing : GoodIn wsX12_cross (wsV RX12 330 RX12 yX12_isCrossing wsX12_isCrossing) := goodIn_app (goodIn_of _ (by decide +kernel)) ggX12_cross_X12_isCrossing
set_option maxRecDepth 20000 in
theorem ggX12_cross_X12_lays : GoodIn wsX12_cross wsX12_lays := goodIn_r _ [22, 2, 23, 24, 25, 26, 6, 27, 28, 29, 30, 31, 32, 33, 34, 35, 36, 37, 38, 39, 40, 41, 42, 43, 44, 45, 46, 47, 48, 49, 50, 51, 52, 53, 54, 55, 56, 57, 58, 59, 60, 61, 62, 63, 64, 65, 66, 91, 92, 93, 94, 95, 96, 97, 98, 99, 100, 101, 102, 103, 104, 105, 106, 107, 108, 109, 110, 111, 112, 113, 114, 115, 116, 117, 118, 119, 120, 121, 122, 123, 124, 125, 126, 127, 128, 129, 130, 131, 132, 133, 134, 135, 136, 137, 138] (by decide +kernel) (by decide +kernel)
set_option maxRecDepth 20000 in
theorem gX12_cross_X12_lays : GoodIn wsX12_cross (wsV RX12 317 RX12 yX12_lays wsX12_lays) := goodIn_app (goodIn_of _ (by decide +kernel)) ggX12_cross_X12_lays
set_option maxRecDepth 20000 in
theorem ggX12_cross_X12_whyOf : GoodIn wsX12_cross wsX12_whyOf := goodIn_r _ [70, 38, 59, 60, 61, 6, 62, 39, 71, 72, 73, 74, 2, 37, 36, 75, 76, 77, 78, 79, 80, 81, 82, 50, 83, 84, 85, 86, 35, 91, 92, 93, 94, 95, 96, 97, 98, 99, 100, 101, 102, 103, 104, 105, 106, 107, 108, 109, 110, 111, 112, 113, 114, 115, 116, 117, 118, 119, 120, 121, 122, 123, 124, 125, 126, 127, 128, 129, 130, 131, 132, 133, 134, 135, 136, 137, 138] (by decide +kernel) (by decide +kernel)
set_option maxRecDepth 20000 in
theorem gX12_cross_X12_whyOf : GoodIn wsX12_cross (wsV RX12 274 RX12 yX12_whyOf wsX12_whyOf) := goodIn_app (goodIn_of _ (by decide +kernel)) ggX12_cross_X12_whyOf
set_option maxRecDepth 20000 in
theorem ggX12_cross_X12_adds : GoodIn wsX12_cross wsX12_adds := goodIn_r _ [90, 23, 2, 28, 40, 41, 42, 6, 43, 44, 30, 38, 29, 45, 46, 47, 48, 49, 50, 51, 52, 53, 54, 55, 56, 57, 58, 39, 37, 36, 59, 60, 61, 62, 63, 64, 65, 66, 35, 91, 92, 93, 94, 95, 96, 97, 98, 99, 100, 101, 102, 103, 104, 105, 106, 107, 108, 109, 110, 111, 112, 113, 114, 115, 116, 117, 118, 119, 120, 121, 122, 123, 124, 125, 126, 127, 128, 129, 130, 131, 132, 133, 134, 135, 136, 137, 138] (by decide +kernel) (by decide +kernel)
set_option maxRecDepth 20000 in
theorem gX12_cross_X12_adds : GoodIn wsX12_cross (wsV RX12 333 RX12 yX12_adds wsX12_adds) := goodIn_app (goodIn_of _ (by decide +kernel)) ggX12_cross_X12_adds
set_option maxRecDepth 20000 in
theorem ggX12_loaf_X12_isFamily : GoodIn wsX12_loaf wsX12_isFamily := goodIn_r _ [7, 8, 61, 62, 63, 64, 65, 66, 67, 68, 69, 70, 71, 72, 73, 74, 75, 76, 77, 78, 79, 80, 81, 82, 83, 84, 85, 86, 87, 88, 89, 90, 91, 92, 93, 94, 95, 96, 97, 98, 99, 100, 101, 102, 103, 104, 105, 106, 107, 108] (by decide +kernel) (by decide +kernel)
set_option maxRecDepth 20000 in
theorem gX12_loaf_X12_isFamily : GoodIn wsX12_loaf (wsV RX12 323 RX12 yX12_isFamily wsX12_isFamily) := goodIn_app (goodIn_of _ (by decide +kernel)) ggX12_loaf_X12_isFamily
set_option maxRecDepth 20000 in
theorem ggX12_loaf_X12_lays : GoodIn wsX12_loaf wsX12_lays := goodIn_r _ [12, 2, 13, 14, 15, 16, 6, 17, 18, 19, 20, 21, 22, 23, 24, 25, 26, 27, 28, 29, 30, 31, 32, 33, 34, 35, 36, 37, 38, 39, 40, 41, 42, 43, 44, 45, 46, 47, 48, 49, 50, 51, 52, 53, 54, 55, 56, 61, 62, 63, 64, 65, 66, 67, 68, 69, 70, 71, 72, 73, 74, 75, 76, 77, 78, 79, 80, 81, 82, 83, 84, 85, 86, 87, 88, 89, 90, 91, 92, 93, 94, 95, 96, 97, 98, 99, 100, 101, 102, 103, 104, 105, 106, 107, 108] (by decide +kernel) (by decide +kernel)
set_option maxRecDepth 20000 in
theorem gX12_loaf_X12_lays : GoodIn wsX12_loaf (wsV RX12 317 RX12 yX12_lays wsX12_lays) := goodIn_app (goodIn_of _ (by decide +kernel)) ggX12_loaf_X12_lays
set_option maxRecDepth 20000 in
theorem ggX12_loaf_X12_adds : GoodIn wsX12_loaf wsX12_adds := goodIn_r _ [60, 13, 2, 18, 30, 31, 32, 6, 33, 34, 20, 28, 19, 35, 36, 37, 38, 39, 40, 41, 42, 43, 44, 45, 46, 47, 48, 29, 27, 26, 49, 50, 51, 52, 53, 54, 55, 56, 25, 61, 62, 63, 64, 65, 66, 67, 68, 69, 70, 71, 72, 73, 74, 75, 76, 77, 78, 79, 80, 81, 82, 83, 84, 85, 86, 87, 88, 89, 90, 91, 92, 93, 94, 95, 96, 97, 98, 99, 100, 101, 102, 103, 104, 105, 106, 107, 108] (by decide +kernel) (by decide +kernel)
set_option maxRecDepth 20000 in
theorem gX12_loaf_X12_adds : GoodIn wsX12_loaf (wsV RX12 333 RX12 yX12_adds wsX12_adds) := goodIn_app (goodIn_of _ (by decide +kernel)) ggX12_loaf_X12_adds
set_option maxRecDepth 20000 in
theorem ggX12_undo_X12_isFamily : GoodIn wsX12_undo wsX12_isFamily := goodIn_r _ [7, 8, 9, 10, 11, 12, 13, 14, 15, 16, 17, 18, 19, 20, 21, 22, 23, 24, 25, 26, 27, 28, 29, 30, 31, 32, 33, 34, 35, 36, 37, 38, 39, 40, 41, 42, 43, 44, 45, 46, 47, 48, 49, 50, 51, 52, 53, 54, 55, 56] (by decide +kernel) (by decide +kernel)
set_option maxRecDepth 20000 in
theorem gX12_undo_X12_isFamily : GoodIn wsX12_undo (wsV RX12 323 RX12 yX12_isFamily wsX12_isFamily) := goodIn_app (goodIn_of _ (by decide +kernel)) ggX12_undo_X12_isFamily
set_option maxRecDepth 20000 in
theorem ggX12_anew_X12_isFamily : GoodIn wsX12_anew wsX12_isFamily := goodIn_r _ [7, 8, 9, 10, 11, 12, 13, 14, 15, 16, 17, 18, 19, 20, 21, 22, 23, 24, 25, 26, 27, 28, 29, 30, 31, 32, 33, 34, 35, 36, 37, 38, 39, 40, 41, 42, 43, 44, 45, 46, 47, 48, 49, 50, 51, 52, 53, 54, 55, 56] (by decide +kernel) (by decide +kernel)
set_option maxRecDepth 20000 in
theorem gX12_anew_X12_isFamily : GoodIn wsX12_anew (wsV RX12 323 RX12 yX12_isFamily wsX12_isFamily) := goodIn_app (goodIn_of _ (by decide +kernel)) ggX12_anew_X12_isFamily
set_option maxRecDepth 20000 in
theorem ggX12_act_X12_isFamily : GoodIn wsX12_act wsX12_isFamily := goodIn_r _ [8, 9, 13, 14, 15, 16, 17, 18, 19, 20, 21, 22, 23, 24, 25, 26, 27, 28, 29, 30, 31, 32, 33, 34, 35, 36, 37, 38, 39, 40, 41, 42, 43, 44, 45, 46, 47, 48, 49, 50, 51, 52, 53, 54, 55, 56, 57, 58, 59, 60] (by decide +kernel) (by decide +kernel)
set_option maxRecDepth 20000 in
theorem gX12_act_X12_isFamily : GoodIn wsX12_act (wsV RX12 323 RX12 yX12_isFamily wsX12_isFamily) := goodIn_app (goodIn_of _ (by decide +kernel)) ggX12_act_X12_isFamily
set_option maxRecDepth 20000 in
theorem ggX12_act_X12_in : GoodIn wsX12_act wsX12_in := goodIn_r _ [12] (by decide +kernel) (by decide +kernel)
set_option maxRecDepth 20000 in
theorem gX12_act_X12_in : GoodIn wsX12_act (va_wsS RX12 93 yX12_in wsX12_in) := goodIn_app (goodIn_of _ (by decide +kernel)) ggX12_act_X12_in
set_option maxRecDepth 20000 in
theorem ggX12_acts_X12_isFamily : GoodIn wsX12_acts wsX12_isFamily := goodIn_r _ [6, 7, 92, 93, 94, 95, 96, 97, 98, 99, 100, 101, 102, 103, 104, 105, 106, 107, 108, 109, 110, 111, 112, 113, 114, 115, 116, 117, 118, 119, 120, 121, 122, 123, 124, 125, 126, 127, 128, 129, 130, 131, 132, 133, 134, 135, 136, 137, 138, 139] (by decide +kernel) (by decide +kernel)
set_option maxRecDepth 20000 in
theorem gX12_acts_X12_isFamily : GoodIn wsX12_acts (wsV RX12 323 RX12 yX12_isFamily wsX12_isFamily) := goodIn_app (goodIn_of _ (by decide +kernel)) ggX12_acts_X12_isFamily
set_option maxRecDepth 20000 in
theorem ggX12_acts_X12_lays : GoodIn wsX12_acts wsX12_lays := goodIn_r _ [11, 12, 13, 14, 15, 16, 5, 17, 18, 19, 20, 21, 22, 23, 24, 25, 26, 27, 28, 29, 30, 31, 32, 33, 34, 35, 36, 37, 38, 39, 40, 41, 42, 43, 44, 45, 46, 47, 48, 49, 50, 51, 52, 53, 54, 55, 56, 92, 93, 94, 95, 96, 97, 98, 99, 100, 101, 102, 103, 104, 105, 106, 107, 108, 109, 110, 111, 112, 113, 114, 115, 116, 117, 118, 119, 120, 121, 122, 123, 124, 125, 126, 127, 128, 129, 130, 131, 132, 133, 134, 135, 136, 137, 138, 139] (by decide +kernel) (by decide +kernel)
set_option maxRecDepth 20000 in
theorem gX12_acts_X12_lays : GoodIn wsX12_acts (wsV RX12 317 RX12 yX12_lays wsX12_lays) := goodIn_app (goodIn_of _ (by decide +kernel)) ggX12_acts_X12_lays
set_option maxRecDepth 20000 in
theorem ggX12_acts_X12_nextAct : GoodIn wsX12_acts wsX12_nextAct := goodIn_r _ [60, 12, 61, 62, 63, 5, 64, 65, 66, 67, 68, 69, 70, 71, 72, 73, 74, 75, 28, 49, 50, 51, 52, 29, 76, 77, 78, 79, 27, 26, 80, 81, 82, 83, 84, 85, 86, 87, 40, 88, 89, 90, 91, 25, 92, 93, 94, 95, 96, 97, 98, 99, 100, 101, 102, 103, 104, 105, 106, 107, 108, 109, 110, 111, 112, 113, 114, 115, 116, 117, 118, 119, 120, 121, 122, 123, 124, 125, 126, 127, 128, 129, 130, 131, 132, 133, 134, 135, 136, 137, 138, 139] (by decide +kernel) (by decide +kernel)
set_option maxRecDepth 20000 in
theorem gX12_acts_X12_nextAct : GoodIn wsX12_acts (wsV RX12 336 RX12 yX12_nextAct wsX12_nextAct) := goodIn_app (goodIn_of _ (by decide +kernel)) ggX12_acts_X12_nextAct
set_option maxRecDepth 20000 in
theorem ggX12_may_X12_isFamily : GoodIn wsX12_may wsX12_isFamily := goodIn_r _ [6, 7, 92, 93, 94, 95, 96, 97, 98, 99, 100, 101, 102, 103, 104, 105, 106, 107, 108, 109, 110, 111, 112, 113, 114, 115, 116, 117, 118, 119, 120, 121, 122, 123, 124, 125, 126, 127, 128, 129, 130, 131, 132, 133, 134, 135, 136, 137, 138, 139] (by decide +kernel) (by decide +kernel)
set_option maxRecDepth 20000 in
theorem gX12_may_X12_isFamily : GoodIn wsX12_may (wsV RX12 323 RX12 yX12_isFamily wsX12_isFamily) := goodIn_app (goodIn_of _ (by decide +kernel)) ggX12_may_X12_isFamily
set_option maxRecDepth 20000 in
theorem ggX12_may_X12_lays : GoodIn wsX12_may wsX12_lays := goodIn_r _ [11, 12, 13, 14, 15, 16, 5, 17, 18, 19, 20, 21, 22, 23, 24, 25, 26, 27, 28, 29, 30, 31, 32, 33, 34, 35, 36, 37, 38, 39, 40, 41, 42, 43, 44, 45, 46, 47, 48, 49, 50, 51, 52, 53, 54, 55, 56, 92, 93, 94, 95, 96, 97, 98, 99, 100, 101, 102, 103, 104, 105, 106, 107, 108, 109, 110, 111, 112, 113, 114, 115, 116, 117, 118, 119, 120, 121, 122, 123, 124, 125, 126, 127, 128, 129, 130, 131, 132, 133, 134, 135, 136, 137, 138, 139] (by decide +kernel) (by decide +kernel)
set_option maxRecDepth 20000 in
theorem gX12_may_X12_lays : GoodIn wsX12_may (wsV RX12 317 RX12 yX12_lays wsX12_lays) := goodIn_app (goodIn_of _ (by decide +kernel)) ggX12_may_X12_lays
set_option maxRecDepth 20000 in
theorem ggX12_may_X12_nextAct : GoodIn wsX12_may wsX12_nextAct := goodIn_r _ [60, 12, 61, 62, 63, 5, 64, 65, 66, 67, 68, 69, 70, 71, 72, 73, 74, 75, 28, 49, 50, 51, 52, 29, 76, 77, 78, 79, 27, 26, 80, 81, 82, 83, 84, 85, 86, 87, 40, 88, 89, 90, 91, 25, 92, 93, 94, 95, 96, 97, 98, 99, 100, 101, 102, 103, 104, 105, 106, 107, 108, 109, 110, 111, 112, 113, 114, 115, 116, 117, 118, 119, 120, 121, 122, 123, 124, 125, 126, 127, 128, 129, 130, 131, 132, 133, 134, 135, 136, 137, 138, 139] (by decide +kernel) (by decide +kernel)
set_option maxRecDepth 20000 in
theorem gX12_may_X12_nextAct : GoodIn wsX12_may (wsV RX12 336 RX12 yX12_nextAct wsX12_nextAct) := goodIn_app (goodIn_of _ (by decide +kernel)) ggX12_may_X12_nextAct
set_option maxRecDepth 20000 in
theorem ggX12_explores_X12_begin : GoodIn wsX12_explores wsX12_begin := goodIn_r _ [8, 9, 10, 11, 12, 13, 71, 72, 73, 74, 75, 76, 77, 78, 79, 80, 81, 82, 83, 84, 85, 86, 87, 88, 89, 90, 91, 92, 93, 94, 95, 96, 97, 98, 99, 100, 101, 102, 103, 104, 105, 106, 107, 108, 109, 110, 111, 112, 113, 114, 115, 116, 117, 118] (by decide +kernel) (by decide +kernel)
set_option maxRecDepth 20000 in
theorem gX12_explores_X12_begin : GoodIn wsX12_explores (wsV RX12 288 RX12 yX12_begin wsX12_begin) := goodIn_app (goodIn_of _ (by decide +kernel)) ggX12_explores_X12_begin
set_option maxRecDepth 20000 in
theorem ggX12_explores_X12_nextAct : GoodIn wsX12_explores wsX12_nextAct := goodIn_r _ [17, 18, 19, 20, 21, 7, 22, 23, 24, 25, 26, 27, 28, 29, 30, 31, 32, 33, 12, 34, 35, 36, 37, 13, 38, 39, 40, 41, 11, 10, 42, 43, 44, 45, 46, 47, 48, 49, 50, 51, 52, 53, 54, 9, 71, 72, 73, 74, 75, 76, 77, 78, 79, 80, 81, 82, 83, 84, 85, 86, 87, 88, 89, 90, 91, 92, 93, 94, 95, 96, 97, 98, 99, 100, 101, 102, 103, 104, 105, 106, 107, 108, 109, 110, 111, 112, 113, 114, 115, 116, 117, 118] (by decide +kernel) (by decide +kernel)
set_option maxRecDepth 20000 in
theorem gX12_explores_X12_nextAct : GoodIn wsX12_explores (wsV RX12 336 RX12 yX12_nextAct wsX12_nextAct) := goodIn_app (goodIn_of _ (by decide +kernel)) ggX12_explores_X12_nextAct
set_option maxRecDepth 20000 in
theorem ggX12_explores_X12_does : GoodIn wsX12_explores wsX12_does := goodIn_r _ [58, 12, 59, 60, 61, 7, 62, 13, 18, 11, 10, 34, 35, 36, 37, 63, 64, 65, 66, 9, 71, 72, 73, 74, 75, 76, 77, 78, 79, 80, 81, 82, 83, 84, 85, 86, 87, 88, 89, 90, 91, 92, 93, 94, 95, 96, 97, 98, 99, 100, 101, 102, 103, 104, 105, 106, 107, 108, 109, 110, 111, 112, 113, 114, 115, 116, 117, 118] (by decide +kernel) (by decide +kernel)
set_option maxRecDepth 20000 in
theorem gX12_explores_X12_does : GoodIn wsX12_explores (wsV RX12 303 RX12 yX12_does wsX12_does) := goodIn_app (goodIn_of _ (by decide +kernel)) ggX12_explores_X12_does
set_option maxRecDepth 20000 in
theorem ggX12_explores_X12_numberOf : GoodIn wsX12_explores wsX12_numberOf := goodIn_r _ [70, 13, 12, 11, 10, 9, 71, 72, 73, 74, 75, 76, 77, 78, 79, 80, 81, 82, 83, 84, 85, 86, 87, 88, 89, 90, 91, 92, 93, 94, 95, 96, 97, 98, 99, 100, 101, 102, 103, 104, 105, 106, 107, 108, 109, 110, 111, 112, 113, 114, 115, 116, 117, 118] (by decide +kernel) (by decide +kernel)
set_option maxRecDepth 20000 in
theorem gX12_explores_X12_numberOf : GoodIn wsX12_explores (wsV RX12 342 RX12 yX12_numberOf wsX12_numberOf) := goodIn_app (goodIn_of _ (by decide +kernel)) ggX12_explores_X12_numberOf
set_option maxRecDepth 20000 in
theorem ggX12_isSought_X12_isBit : GoodIn wsX12_isSought wsX12_isBit := goodIn_r _ [8] (by decide +kernel) (by decide +kernel)
set_option maxRecDepth 20000 in
theorem gX12_isSought_X12_isBit : GoodIn wsX12_isSought (va_wsS RX12 189 yX12_isBit wsX12_isBit) := goodIn_app (goodIn_of _ (by decide +kernel)) ggX12_isSought_X12_isBit
set_option maxRecDepth 20000 in
theorem ggX12_costOf_X12_riskOf : GoodIn wsX12_costOf wsX12_riskOf := goodIn_r _ [7, 8, 9, 10, 11, 12, 13, 14, 15, 16, 17, 18, 19, 20, 21, 22, 23, 24, 25, 26, 27, 28, 29, 30, 31, 32, 33, 34, 35, 36, 37, 38, 39, 40, 41, 42, 43, 44, 45, 46, 47, 48, 49, 50, 51, 52, 53, 54, 55, 56, 57] (by decide +kernel) (by decide +kernel)
set_option maxRecDepth 20000 in
theorem gX12_costOf_X12_riskOf : GoodIn wsX12_costOf (wsV RX12 300 RX12 yX12_riskOf wsX12_riskOf) := goodIn_app (goodIn_of _ (by decide +kernel)) ggX12_costOf_X12_riskOf
set_option maxRecDepth 20000 in
theorem ggX12_seeks_X12_begin : GoodIn wsX12_seeks wsX12_begin := goodIn_r _ [12, 13, 14, 15, 16, 17, 96, 97, 98, 99, 100, 101, 102, 103, 104, 105, 106, 107, 108, 109, 110, 111, 112, 113, 114, 115, 116, 117, 118, 119, 120, 121, 122, 123, 124, 125, 126, 127, 128, 129, 130, 131, 132, 133, 134, 135, 136, 137, 138, 139, 140, 141, 142, 143] (by decide +kernel) (by decide +kernel)
set_option maxRecDepth 20000 in
theorem gX12_seeks_X12_begin : GoodIn wsX12_seeks (wsV RX12 288 RX12 yX12_begin wsX12_begin) := goodIn_app (goodIn_of _ (by decide +kernel)) ggX12_seeks_X12_begin
set_option maxRecDepth 20000 in
theorem ggX12_seeks_X12_isSought : GoodIn wsX12_seeks wsX12_isSought := goodIn_r _ [21, 1, 17, 2, 22, 23, 24, 11, 25, 96, 97, 98, 99, 100, 101, 102, 103, 104, 105, 106, 107, 108, 109, 110, 111, 112, 113, 114, 115, 116, 117, 118, 119, 120, 121, 122, 123, 124, 125, 126, 127, 128, 129, 130, 131, 132, 133, 134, 135, 136, 137, 138, 139, 140, 141, 142, 143] (by decide +kernel) (by decide +kernel)
set_option maxRecDepth 20000 in
theorem gX12_seeks_X12_isSought : GoodIn wsX12_seeks (wsV RX12 354 RX12 yX12_isSought wsX12_isSought) := goodIn_app (goodIn_of _ (by decide +kernel)) ggX12_seeks_X12_isSought
set_option maxRecDepth 20000 in
theorem ggX12_seeks_X12_betters : GoodIn wsX12_seeks wsX12_betters := goodIn_r _ [29, 6, 8, 9, 10, 11, 12, 13, 14, 15, 16, 17, 30, 31, 32, 33, 22, 34, 35, 36, 37, 38, 39, 40, 41, 42, 43, 44, 45, 46, 47, 48, 49, 50, 51, 52, 53, 54, 55, 56, 23, 24, 25, 57, 58, 59, 60, 61, 62, 63, 64, 65, 66, 67, 68, 69, 70, 7, 71, 72, 73, 74, 75, 76, 77, 78, 79, 80, 81, 82, 83, 84, 85, 86, 87, 88, 89, 90, 3, 91, 92, 93, 94, 95, 96, 97, 98, 99, 100, 101, 102, 103, 104, 105, 106, 107, 108, 109, 110, 111, 112, 113, 114, 115, 116, 117, 118, 119, 120, 121, 122, 123, 124, 125, 126, 127, 128, 129, 130, 131, 132, 133, 134, 135, 136, 137, 138, 139, 140, 141, 142, 143] (by decide +kernel) (by decide +kernel)
set_option maxRecDepth 20000 in
theorem gX12_seeks_X12_betters : GoodIn wsX12_seeks (wsV RX12 358 RX12 yX12_betters wsX12_betters) := goodIn_app (goodIn_of _ (by decide +kernel)) ggX12_seeks_X12_betters
set_option maxRecDepth 20000 in
theorem ggX12_betters_X12_begin : GoodIn wsX12_betters wsX12_begin := goodIn_r _ [6, 7, 8, 9, 10, 11, 84, 85, 86, 87, 88, 89, 90, 91, 92, 93, 94, 95, 96, 97, 98, 99, 100, 101, 102, 103, 104, 105, 106, 107, 108, 109, 110, 111, 112, 113, 114, 115, 116, 117, 118, 119, 120, 121, 122, 123, 124, 125, 126, 127, 128, 129, 130, 131] (by decide +kernel) (by decide +kernel)
set_option maxRecDepth 20000 in
theorem gX12_betters_X12_begin : GoodIn wsX12_betters (wsV RX12 288 RX12 yX12_begin wsX12_begin) := goodIn_app (goodIn_of _ (by decide +kernel)) ggX12_betters_X12_begin
set_option maxRecDepth 20000 in
theorem ggX12_betters_X12_nextAct : GoodIn wsX12_betters wsX12_nextAct := goodIn_r _ [15, 16, 17, 18, 19, 5, 20, 21, 22, 23, 24, 25, 26, 27, 28, 29, 30, 31, 10, 32, 33, 34, 35, 11, 36, 37, 38, 39, 9, 8, 40, 41, 42, 43, 44, 45, 46, 47, 48, 49, 50, 51, 52, 7, 84, 85, 86, 87, 88, 89, 90, 91, 92, 93, 94, 95, 96, 97, 98, 99, 100, 101, 102, 103, 104, 105, 106, 107, 108, 109, 110, 111, 112, 113, 114, 115, 116, 117, 118, 119, 120, 121, 122, 123, 124, 125, 126, 127, 128, 129, 130, 131] (by decide +kernel) (by decide +kernel)
set_option maxRecDepth 20000 in
theorem gX12_betters_X12_nextAct : GoodIn wsX12_betters (wsV RX12 336 RX12 yX12_nextAct wsX12_nextAct) := goodIn_app (goodIn_of _ (by decide +kernel)) ggX12_betters_X12_nextAct
set_option maxRecDepth 20000 in
theorem ggX12_betters_X12_costBy : GoodIn wsX12_betters wsX12_costBy := goodIn_r _ [56, 1, 57, 58, 59, 60, 5, 61, 10, 62, 63, 64, 65, 11, 16, 9, 8, 32, 33, 34, 35, 66, 67, 68, 69, 7, 70, 71, 72, 73, 74, 75, 76, 77, 78, 79, 80, 81, 82, 83, 48, 84, 85, 86, 87, 88, 89, 90, 91, 92, 93, 94, 95, 96, 97, 98, 99, 100, 101, 102, 103, 104, 105, 106, 107, 108, 109, 110, 111, 112, 113, 114, 115, 116, 117, 118, 119, 120, 121, 122, 123, 124, 125, 126, 127, 128, 129, 130, 131] (by decide +kernel) (by decide +kernel)
set_option maxRecDepth 20000 in
theorem gX12_betters_X12_costBy : GoodIn wsX12_betters (wsV RX12 361 RX12 yX12_costBy wsX12_costBy) := goodIn_app (goodIn_of _ (by decide +kernel)) ggX12_betters_X12_costBy
set_option maxRecDepth 20000 in
theorem ggX12_costBy_X12_does : GoodIn wsX12_costBy wsX12_does := goodIn_r _ [7, 8, 9, 10, 11, 6, 12, 13, 14, 15, 16, 17, 18, 19, 20, 21, 22, 23, 24, 25, 41, 42, 43, 44, 45, 46, 47, 48, 49, 50, 51, 52, 53, 54, 55, 56, 57, 58, 59, 60, 61, 62, 63, 64, 65, 66, 67, 68, 69, 70, 71, 72, 73, 74, 75, 76, 77, 78, 79, 80, 81, 82, 83, 84, 85, 86, 87, 88] (by decide +kernel) (by decide +kernel)
set_option maxRecDepth 20000 in
theorem gX12_costBy_X12_does : GoodIn wsX12_costBy (wsV RX12 303 RX12 yX12_does wsX12_does) := goodIn_app (goodIn_of _ (by decide +kernel)) ggX12_costBy_X12_does
set_option maxRecDepth 20000 in
theorem ggX12_costBy_X12_numberOf : GoodIn wsX12_costBy wsX12_numberOf := goodIn_r _ [29, 13, 8, 15, 16, 25, 41, 42, 43, 44, 45, 46, 47, 48, 49, 50, 51, 52, 53, 54, 55, 56, 57, 58, 59, 60, 61, 62, 63, 64, 65, 66, 67, 68, 69, 70, 71, 72, 73, 74, 75, 76, 77, 78, 79, 80, 81, 82, 83, 84, 85, 86, 87, 88] (by decide +kernel) (by decide +kernel)
set_option maxRecDepth 20000 in
theorem gX12_costBy_X12_numberOf : GoodIn wsX12_costBy (wsV RX12 342 RX12 yX12_numberOf wsX12_numberOf) := goodIn_app (goodIn_of _ (by decide +kernel)) ggX12_costBy_X12_numberOf
set_option maxRecDepth 20000 in
theorem ggX12_costBy_X12_costOf : GoodIn wsX12_costBy wsX12_costOf := goodIn_r _ [33, 14, 34, 35, 36, 37, 6, 38, 39, 40, 41, 42, 43, 44, 45, 46, 47, 48, 49, 50, 51, 52, 53, 54, 55, 56, 57, 58, 59, 60, 61, 62, 63, 64, 65, 66, 67, 68, 69, 70, 71, 72, 73, 74, 75, 76, 77, 78, 79, 80, 81, 82, 83, 84, 85, 86, 87, 88] (by decide +kernel) (by decide +kernel)
set_option maxRecDepth 20000 in
theorem gX12_costBy_X12_costOf : GoodIn wsX12_costBy (wsV RX12 364 RX12 yX12_costOf wsX12_costOf) := goodIn_app (goodIn_of _ (by decide +kernel)) ggX12_costBy_X12_costOf
set_option maxRecDepth 20000 in
theorem ggX12_seeksNow_X12_lays : GoodIn wsX12_seeksNow wsX12_lays := goodIn_r _ [6, 7, 8, 9, 10, 11, 5, 12, 13, 14, 15, 16, 17, 18, 19, 20, 21, 22, 23, 24, 25, 26, 27, 28, 29, 30, 31, 32, 33, 34, 35, 36, 37, 38, 39, 40, 41, 42, 43, 44, 45, 46, 47, 48, 49, 50, 51, 122, 123, 124, 125, 126, 127, 128, 129, 130, 131, 132, 133, 134, 135, 136, 137, 138, 139, 140, 141, 142, 143, 144, 145, 146, 147, 148, 149, 150, 151, 152, 153, 154, 155, 156, 157, 158, 159, 160, 161, 162, 163, 164, 165, 166, 167, 168, 169] (by decide +kernel) (by decide +kernel)
set_option maxRecDepth 20000 in
theorem gX12_seeksNow_X12_lays : GoodIn wsX12_seeksNow (wsV RX12 317 RX12 yX12_lays wsX12_lays) := goodIn_app (goodIn_of _ (by decide +kernel)) ggX12_seeksNow_X12_lays
set_option maxRecDepth 20000 in
theorem ggX12_seeksNow_X12_numberOf : GoodIn wsX12_seeksNow wsX12_numberOf := goodIn_r _ [55, 24, 23, 22, 21, 20, 122, 123, 124, 125, 126, 127, 128, 129, 130, 131, 132, 133, 134, 135, 136, 137, 138, 139, 140, 141, 142, 143, 144, 145, 146, 147, 148, 149, 150, 151, 152, 153, 154, 155, 156, 157, 158, 159, 160, 161, 162, 163, 164, 165, 166, 167, 168, 169] (by decide +kernel) (by decide +kernel)
set_option maxRecDepth 20000 in
theorem gX12_seeksNow_X12_numberOf : GoodIn wsX12_seeksNow (wsV RX12 342 RX12 yX12_numberOf wsX12_numberOf) := goodIn_app (goodIn_of _ (by decide +kernel)) ggX12_seeksNow_X12_numberOf
set_option maxRecDepth 20000 in
theorem ggX12_seeksNow_X12_explores : GoodIn wsX12_seeksNow wsX12_explores := goodIn_r _ [59, 60, 61, 62, 16, 17, 18, 5, 19, 20, 21, 22, 23, 24, 63, 64, 65, 66, 7, 67, 68, 69, 70, 71, 72, 73, 74, 75, 76, 77, 78, 79, 80, 81, 44, 45, 46, 47, 82, 83, 84, 85, 86, 87, 88, 89, 90, 91, 92, 93, 35, 94, 95, 96, 97, 36, 37, 38, 39, 40, 41, 42, 43, 48, 49, 50, 51, 52, 53, 54, 55, 122, 123, 124, 125, 126, 127, 128, 129, 130, 131, 132, 133, 134, 135, 136, 137, 138, 139, 140, 141, 142, 143, 144, 145, 146, 147, 148, 149, 150, 151, 152, 153, 154, 155, 156, 157, 158, 159, 160, 161, 162, 163, 164, 165, 166, 167, 168, 169] (by decide +kernel) (by decide +kernel)
set_option maxRecDepth 20000 in
theorem gX12_seeksNow_X12_explores : GoodIn wsX12_seeksNow (wsV RX12 367 RX12 yX12_explores wsX12_explores) := goodIn_app (goodIn_of _ (by decide +kernel)) ggX12_seeksNow_X12_explores
set_option maxRecDepth 20000 in
theorem ggX12_seeksNow_X12_seeks : GoodIn wsX12_seeksNow wsX12_seeks := goodIn_r _ [101, 102, 103, 104, 60, 62, 1, 105, 16, 17, 18, 5, 19, 20, 21, 22, 23, 24, 106, 107, 108, 109, 7, 86, 87, 88, 110, 111, 112, 113, 63, 64, 65, 66, 67, 68, 69, 70, 71, 72, 73, 74, 75, 76, 77, 78, 79, 80, 81, 44, 45, 46, 47, 82, 83, 84, 85, 89, 90, 91, 92, 93, 35, 94, 95, 96, 97, 114, 115, 116, 117, 36, 37, 38, 39, 40, 41, 42, 43, 48, 49, 50, 51, 52, 53, 54, 55, 118, 119, 120, 121, 30, 31, 32, 33, 34, 122, 123, 124, 125, 126, 127, 128, 129, 130, 131, 132, 133, 134, 135, 136, 137, 138, 139, 140, 141, 142, 143, 144, 145, 146, 147, 148, 149, 150, 151, 152, 153, 154, 155, 156, 157, 158, 159, 160, 161, 162, 163, 164, 165, 166, 167, 168, 169] (by decide +kernel) (by decide +kernel)
set_option maxRecDepth 20000 in
theorem gX12_seeksNow_X12_seeks : GoodIn wsX12_seeksNow (wsV RX12 370 RX12 yX12_seeks wsX12_seeks) := goodIn_app (goodIn_of _ (by decide +kernel)) ggX12_seeksNow_X12_seeks
set_option maxRecDepth 20000 in
theorem ggX12_seeksNow_X12_begin : GoodIn wsX12_seeksNow wsX12_begin := goodIn_r _ [19, 20, 21, 22, 23, 24, 122, 123, 124, 125, 126, 127, 128, 129, 130, 131, 132, 133, 134, 135, 136, 137, 138, 139, 140, 141, 142, 143, 144, 145, 146, 147, 148, 149, 150, 151, 152, 153, 154, 155, 156, 157, 158, 159, 160, 161, 162, 163, 164, 165, 166, 167, 168, 169] (by decide +kernel) (by decide +kernel)
set_option maxRecDepth 20000 in
theorem gX12_seeksNow_X12_begin : GoodIn wsX12_seeksNow (wsV RX12 288 RX12 yX12_begin wsX12_begin) := goodIn_app (goodIn_of _ (by decide +kernel)) ggX12_seeksNow_X12_begin
set_option maxRecDepth 20000 in
theorem ggX12_laysRow_X12_numberOf : GoodIn wsX12_laysRow wsX12_numberOf := goodIn_r _ [8, 9, 10, 11, 12, 13, 86, 87, 88, 89, 90, 91, 92, 93, 94, 95, 96, 97, 98, 99, 100, 101, 102, 103, 104, 105, 106, 107, 108, 109, 110, 111, 112, 113, 114, 115, 116, 117, 118, 119, 120, 121, 122, 123, 124, 125, 126, 127, 128, 129, 130, 131, 132, 133] (by decide +kernel) (by decide +kernel)
set_option maxRecDepth 20000 in
theorem gX12_laysRow_X12_numberOf : GoodIn wsX12_laysRow (wsV RX12 342 RX12 yX12_numberOf wsX12_numberOf) := goodIn_app (goodIn_of _ (by decide +kernel)) ggX12_laysRow_X12_numberOf
set_option maxRecDepth 20000 in
theorem ggX12_laysRow_X12_begin : GoodIn wsX12_laysRow wsX12_begin := goodIn_r _ [17, 13, 12, 11, 10, 9, 86, 87, 88, 89, 90, 91, 92, 93, 94, 95, 96, 97, 98, 99, 100, 101, 102, 103, 104, 105, 106, 107, 108, 109, 110, 111, 112, 113, 114, 115, 116, 117, 118, 119, 120, 121, 122, 123, 124, 125, 126, 127, 128, 129, 130, 131, 132, 133] (by decide +kernel) (by decide +kernel)
set_option maxRecDepth 20000 in
theorem gX12_laysRow_X12_begin : GoodIn wsX12_laysRow (wsV RX12 288 RX12 yX12_begin wsX12_begin) := goodIn_app (goodIn_of _ (by decide +kernel)) ggX12_laysRow_X12_begin
set_option maxRecDepth 20000 in
theorem ggX12_laysRow_X12_nextAct : GoodIn wsX12_laysRow wsX12_nextAct := goodIn_r _ [21, 22, 23, 24, 25, 7, 26, 27, 28, 29, 30, 31, 32, 33, 34, 35, 36, 37, 10, 38, 39, 40, 41, 9, 42, 43, 44, 45, 11, 12, 46, 47, 48, 49, 50, 51, 52, 53, 54, 55, 56, 57, 58, 13, 86, 87, 88, 89, 90, 91, 92, 93, 94, 95, 96, 97, 98, 99, 100, 101, 102, 103, 104, 105, 106, 107, 108, 109, 110, 111, 112, 113, 114, 115, 116, 117, 118, 119, 120, 121, 122, 123, 124, 125, 126, 127, 128, 129, 130, 131, 132, 133] (by decide +kernel) (by decide +kernel)
set_option maxRecDepth 20000 in
theorem gX12_laysRow_X12_nextAct : GoodIn wsX12_laysRow (wsV RX12 336 RX12 yX12_nextAct wsX12_nextAct) := goodIn_app (goodIn_of _ (by decide +kernel)) ggX12_laysRow_X12_nextAct
set_option maxRecDepth 20000 in
theorem ggX12_laysRow_X12_costBy : GoodIn wsX12_laysRow wsX12_costBy := goodIn_r _ [62, 2, 63, 64, 65, 66, 7, 67, 10, 68, 69, 70, 71, 9, 22, 11, 12, 38, 39, 40, 41, 72, 73, 74, 75, 13, 4, 5, 6, 8, 76, 77, 78, 79, 80, 81, 82, 83, 84, 85, 54, 86, 87, 88, 89, 90, 91, 92, 93, 94, 95, 96, 97, 98, 99, 100, 101, 102, 103, 104, 105, 106, 107, 108, 109, 110, 111, 112, 113, 114, 115, 116, 117, 118, 119, 120, 121, 122, 123, 124, 125, 126, 127, 128, 129, 130, 131, 132, 133] (by decide +kernel) (by decide +kernel)
set_option maxRecDepth 20000 in
theorem gX12_laysRow_X12_costBy : GoodIn wsX12_laysRow (wsV RX12 361 RX12 yX12_costBy wsX12_costBy) := goodIn_app (goodIn_of _ (by decide +kernel)) ggX12_laysRow_X12_costBy
set_option maxRecDepth 20000 in
theorem ggX12_days_X12_isFamily : GoodIn wsX12_days wsX12_isFamily := goodIn_r _ [7, 8, 132, 133, 134, 135, 136, 137, 138, 139, 140, 141, 142, 143, 144, 145, 146, 147, 148, 149, 150, 151, 152, 153, 154, 155, 156, 157, 158, 159, 160, 161, 162, 163, 164, 165, 166, 167, 168, 169, 170, 171, 172, 173, 174, 175, 176, 177, 178, 179] (by decide +kernel) (by decide +kernel)
set_option maxRecDepth 20000 in
theorem gX12_days_X12_isFamily : GoodIn wsX12_days (wsV RX12 323 RX12 yX12_isFamily wsX12_isFamily) := goodIn_app (goodIn_of _ (by decide +kernel)) ggX12_days_X12_isFamily
set_option maxRecDepth 20000 in
theorem ggX12_days_X12_seeksNow : GoodIn wsX12_days wsX12_seeksNow := goodIn_r _ [12, 13, 14, 15, 16, 6, 17, 18, 19, 20, 21, 22, 23, 24, 25, 26, 27, 28, 29, 30, 31, 32, 33, 34, 35, 36, 37, 38, 39, 40, 41, 42, 43, 44, 45, 46, 47, 48, 49, 50, 51, 52, 53, 54, 55, 56, 57, 58, 59, 60, 61, 62, 63, 64, 65, 66, 67, 68, 69, 70, 71, 72, 73, 74, 75, 76, 77, 78, 79, 80, 81, 82, 83, 84, 85, 86, 87, 88, 89, 90, 91, 92, 93, 94, 95, 96, 97, 98, 99, 100, 101, 102, 103, 104, 105, 106, 107, 108, 109, 110, 111, 112, 113, 114, 115, 2, 116, 117, 118, 119, 120, 121, 122, 123, 124, 125, 126, 127, 128, 129, 130, 131, 132, 133, 134, 135, 136, 137, 138, 139, 140, 141, 142, 143, 144, 145, 146, 147, 148, 149, 150, 151, 152, 153, 154, 155, 156, 157, 158, 159, 160, 161, 162, 163, 164, 165, 166, 167, 168, 169, 170, 171, 172, 173, 174, 175, 176, 177, 178, 179] (by decide +kernel) (by decide +kernel)
set_option maxRecDepth 20000 in
theorem gX12_days_X12_seeksNow : GoodIn wsX12_days (wsV RX12 376 RX12 yX12_seeksNow wsX12_seeksNow) := goodIn_app (goodIn_of _ (by decide +kernel)) ggX12_days_X12_seeksNow
set_option maxRecDepth 20000 in
theorem ggX12_isRow_X12_seeksNow : GoodIn wsX12_isRow wsX12_seeksNow := goodIn_r _ [6, 7, 8, 9, 10, 5, 11, 12, 13, 14, 15, 16, 17, 18, 19, 20, 21, 22, 23, 24, 25, 26, 27, 28, 29, 30, 31, 32, 33, 34, 35, 36, 37, 38, 39, 40, 41, 42, 43, 44, 45, 46, 47, 48, 49, 50, 51, 52, 53, 54, 55, 56, 57, 58, 59, 60, 61, 62, 63, 64, 65, 66, 67, 68, 69, 70, 71, 72, 73, 74, 75, 76, 77, 78, 79, 80, 81, 82, 83, 84, 85, 86, 87, 88, 89, 90, 91, 92, 93, 94, 95, 96, 97, 98, 99, 100, 101, 102, 103, 104, 105, 106, 107, 108, 109, 1, 110, 111, 112, 113, 114, 115, 116, 117, 118, 119, 120, 121, 122, 123, 124, 125, 132, 133, 134, 135, 136, 137, 138, 139, 140, 141, 142, 143, 144, 145, 146, 147, 148, 149, 150, 151, 152, 153, 154, 155, 156, 157, 158, 159, 160, 161, 162, 163, 164, 165, 166, 167, 168, 169, 170, 171, 172, 173, 174, 175, 176, 177, 178, 179] (by decide +kernel) (by decide +kernel)
set_option maxRecDepth 20000 in
theorem gX12_isRow_X12_seeksNow : GoodIn wsX12_isRow (wsV RX12 376 RX12 yX12_seeksNow wsX12_seeksNow) := goodIn_app (goodIn_of _ (by decide +kernel)) ggX12_isRow_X12_seeksNow
set_option maxRecDepth 20000 in
theorem ggX12_isRow_X12_laysRow : GoodIn wsX12_isRow wsX12_laysRow := goodIn_r _ [129, 130, 7, 131, 57, 58, 59, 5, 60, 29, 28, 27, 26, 25, 21, 22, 23, 24, 68, 69, 70, 71, 12, 72, 73, 74, 75, 76, 77, 78, 79, 80, 81, 82, 83, 84, 85, 86, 49, 50, 51, 52, 87, 88, 89, 90, 91, 92, 93, 94, 95, 96, 97, 98, 40, 99, 100, 101, 102, 118, 119, 120, 121, 1, 41, 42, 43, 44, 45, 46, 47, 48, 53, 54, 55, 56, 122, 123, 124, 125, 109, 35, 36, 37, 38, 39, 132, 133, 134, 135, 136, 137, 138, 139, 140, 141, 142, 143, 144, 145, 146, 147, 148, 149, 150, 151, 152, 153, 154, 155, 156, 157, 158, 159, 160, 161, 162, 163, 164, 165, 166, 167, 168, 169, 170, 171, 172, 173, 174, 175, 176, 177, 178, 179] (by decide +kernel) (by decide +kernel)
set_option maxRecDepth 20000 in
theorem gX12_isRow_X12_laysRow : GoodIn wsX12_isRow (wsV RX12 379 RX12 yX12_laysRow wsX12_laysRow) := goodIn_app (goodIn_of _ (by decide +kernel)) ggX12_isRow_X12_laysRow
set_option maxRecDepth 20000 in
theorem ggX12_plan_X12_isFamily : GoodIn wsX12_plan wsX12_isFamily := goodIn_r _ [8, 9, 145, 146, 147, 148, 149, 150, 151, 152, 153, 154, 155, 156, 157, 158, 159, 160, 161, 162, 163, 164, 165, 166, 167, 168, 169, 170, 171, 172, 173, 174, 175, 176, 177, 178, 179, 180, 181, 182, 183, 184, 185, 186, 187, 188, 189, 190, 191, 192] (by decide +kernel) (by decide +kernel)
set_option maxRecDepth 20000 in
theorem gX12_plan_X12_isFamily : GoodIn wsX12_plan (wsV RX12 323 RX12 yX12_isFamily wsX12_isFamily) := goodIn_app (goodIn_of _ (by decide +kernel)) ggX12_plan_X12_isFamily
set_option maxRecDepth 20000 in
theorem ggX12_plan_X12_isRow : GoodIn wsX12_plan wsX12_isRow := goodIn_r _ [13, 14, 15, 16, 17, 7, 18, 19, 20, 21, 22, 23, 24, 25, 26, 27, 28, 29, 30, 31, 32, 33, 34, 35, 36, 37, 38, 39, 40, 41, 42, 43, 44, 45, 46, 47, 48, 49, 50, 51, 52, 53, 54, 55, 56, 57, 58, 59, 60, 61, 62, 63, 64, 65, 66, 67, 68, 69, 70, 71, 72, 73, 74, 75, 76, 77, 78, 79, 80, 81, 82, 83, 84, 85, 86, 87, 88, 89, 90, 91, 92, 93, 94, 95, 96, 97, 98, 99, 100, 101, 102, 103, 104, 105, 106, 107, 108, 109, 110, 111, 112, 113, 114, 115, 116, 117, 118, 119, 120, 121, 122, 123, 124, 125, 126, 127, 128, 129, 130, 131, 132, 133, 134, 135, 136, 137, 138, 139, 140, 141, 2, 3, 145, 146, 147, 148, 149, 150, 151, 152, 153, 154, 155, 156, 157, 158, 159, 160, 161, 162, 163, 164, 165, 166, 167, 168, 169, 170, 171, 172, 173, 174, 175, 176, 177, 178, 179, 180, 181, 182, 183, 184, 185, 186, 187, 188, 189, 190, 191, 192] (by decide +kernel) (by decide +kernel)
set_option maxRecDepth 20000 in
theorem gX12_plan_X12_isRow : GoodIn wsX12_plan (wsV RX12 382 RX12 yX12_isRow wsX12_isRow) := goodIn_app (goodIn_of _ (by decide +kernel)) ggX12_plan_X12_isRow
set_option maxRecDepth 20000 in
theorem ggX12_plan_X12_in : GoodIn wsX12_plan wsX12_in := goodIn_r _ [144] (by decide +kernel) (by decide +kernel)
set_option maxRecDepth 20000 in
theorem gX12_plan_X12_in : GoodIn wsX12_plan (va_wsS RX12 93 yX12_in wsX12_in) := goodIn_app (goodIn_of _ (by decide +kernel)) ggX12_plan_X12_in
set_option maxRecDepth 20000 in
theorem ggX12_surest_X12_isFamily : GoodIn wsX12_surest wsX12_isFamily := goodIn_r _ [7, 8, 132, 133, 134, 135, 136, 137, 138, 139, 140, 141, 142, 143, 144, 145, 146, 147, 148, 149, 150, 151, 152, 153, 154, 155, 156, 157, 158, 159, 160, 161, 162, 163, 164, 165, 166, 167, 168, 169, 170, 171, 172, 173, 174, 175, 176, 177, 178, 179] (by decide +kernel) (by decide +kernel)
set_option maxRecDepth 20000 in
theorem gX12_surest_X12_isFamily : GoodIn wsX12_surest (wsV RX12 323 RX12 yX12_isFamily wsX12_isFamily) := goodIn_app (goodIn_of _ (by decide +kernel)) ggX12_surest_X12_isFamily
set_option maxRecDepth 20000 in
theorem ggX12_surest_X12_seeksNow : GoodIn wsX12_surest wsX12_seeksNow := goodIn_r _ [12, 13, 14, 15, 16, 6, 17, 18, 19, 20, 21, 22, 23, 24, 25, 26, 27, 28, 29, 30, 31, 32, 33, 34, 35, 36, 37, 38, 39, 40, 41, 42, 43, 44, 45, 46, 47, 48, 49, 50, 51, 52, 53, 54, 55, 56, 57, 58, 59, 60, 61, 62, 63, 64, 65, 66, 67, 68, 69, 70, 71, 72, 73, 74, 75, 76, 77, 78, 79, 80, 81, 82, 83, 84, 85, 86, 87, 88, 89, 90, 91, 92, 93, 94, 95, 96, 97, 98, 99, 100, 101, 102, 103, 104, 105, 106, 107, 108, 109, 110, 111, 112, 113, 114, 115, 2, 116, 117, 118, 119, 120, 121, 122, 123, 124, 125, 126, 127, 128, 129, 130, 131, 132, 133, 134, 135, 136, 137, 138, 139, 140, 141, 142, 143, 144, 145, 146, 147, 148, 149, 150, 151, 152, 153, 154, 155, 156, 157, 158, 159, 160, 161, 162, 163, 164, 165, 166, 167, 168, 169, 170, 171, 172, 173, 174, 175, 176, 177, 178, 179] (by decide +kernel) (by decide +kernel)
set_option maxRecDepth 20000 in
theorem gX12_surest_X12_seeksNow : GoodIn wsX12_surest (wsV RX12 376 RX12 yX12_seeksNow wsX12_seeksNow) := goodIn_app (goodIn_of _ (by decide +kernel)) ggX12_surest_X12_seeksNow
set_option maxRecDepth 20000 in
theorem ggX12_surely_X12_isFamily : GoodIn wsX12_surely wsX12_isFamily := goodIn_r _ [8, 9, 145, 146, 147, 148, 149, 150, 151, 152, 153, 154, 155, 156, 157, 158, 159, 160, 161, 162, 163, 164, 165, 166, 167, 168, 169, 170, 171, 172, 173, 174, 175, 176, 177, 178, 179, 180, 181, 182, 183, 184, 185, 186, 187, 188, 189, 190, 191, 192] (by decide +kernel) (by decide +kernel)
set_option maxRecDepth 20000 in
theorem gX12_surely_X12_isFamily : GoodIn wsX12_surely (wsV RX12 323 RX12 yX12_isFamily wsX12_isFamily) := goodIn_app (goodIn_of _ (by decide +kernel)) ggX12_surely_X12_isFamily
set_option maxRecDepth 20000 in
theorem ggX12_surely_X12_isRow : GoodIn wsX12_surely wsX12_isRow := goodIn_r _ [13, 14, 15, 16, 17, 7, 18, 19, 20, 21, 22, 23, 24, 25, 26, 27, 28, 29, 30, 31, 32, 33, 34, 35, 36, 37, 38, 39, 40, 41, 42, 43, 44, 45, 46, 47, 48, 49, 50, 51, 52, 53, 54, 55, 56, 57, 58, 59, 60, 61, 62, 63, 64, 65, 66, 67, 68, 69, 70, 71, 72, 73, 74, 75, 76, 77, 78, 79, 80, 81, 82, 83, 84, 85, 86, 87, 88, 89, 90, 91, 92, 93, 94, 95, 96, 97, 98, 99, 100, 101, 102, 103, 104, 105, 106, 107, 108, 109, 110, 111, 112, 113, 114, 115, 116, 117, 118, 119, 120, 121, 122, 123, 124, 125, 126, 127, 128, 129, 130, 131, 132, 133, 134, 135, 136, 137, 138, 139, 140, 141, 2, 3, 145, 146, 147, 148, 149, 150, 151, 152, 153, 154, 155, 156, 157, 158, 159, 160, 161, 162, 163, 164, 165, 166, 167, 168, 169, 170, 171, 172, 173, 174, 175, 176, 177, 178, 179, 180, 181, 182, 183, 184, 185, 186, 187, 188, 189, 190, 191, 192] (by decide +kernel) (by decide +kernel)
set_option maxRecDepth 20000 in
theorem gX12_surely_X12_isRow : GoodIn wsX12_surely (wsV RX12 382 RX12 yX12_isRow wsX12_isRow) := goodIn_app (goodIn_of _ (by decide +kernel)) ggX12_surely_X12_isRow
set_option maxRecDepth 20000 in
theorem ggX12_surely_X12_in : GoodIn wsX12_surely wsX12_in := goodIn_r _ [144] (by decide +kernel) (by decide +kernel)
set_option maxRecDepth 20000 in
theorem gX12_surely_X12_in : GoodIn wsX12_surely (va_wsS RX12 93 yX12_in wsX12_in) := goodIn_app (goodIn_of _ (by decide +kernel)) ggX12_surely_X12_in
set_option maxRecDepth 20000 in
theorem ggX12_slowly_X12_isFamily : GoodIn wsX12_slowly wsX12_isFamily := goodIn_r _ [7, 8, 132, 133, 134, 135, 136, 137, 138, 139, 140, 141, 142, 143, 144, 145, 146, 147, 148, 149, 150, 151, 152, 153, 154, 155, 156, 157, 158, 159, 160, 161, 162, 163, 164, 165, 166, 167, 168, 169, 170, 171, 172, 173, 174, 175, 176, 177, 178, 179] (by decide +kernel) (by decide +kernel)
set_option maxRecDepth 20000 in
theorem gX12_slowly_X12_isFamily : GoodIn wsX12_slowly (wsV RX12 323 RX12 yX12_isFamily wsX12_isFamily) := goodIn_app (goodIn_of _ (by decide +kernel)) ggX12_slowly_X12_isFamily
set_option maxRecDepth 20000 in
theorem ggX12_slowly_X12_seeksNow : GoodIn wsX12_slowly wsX12_seeksNow := goodIn_r _ [12, 13, 14, 15, 16, 6, 17, 18, 19, 20, 21, 22, 23, 24, 25, 26, 27, 28, 29, 30, 31, 32, 33, 34, 35, 36, 37, 38, 39, 40, 41, 42, 43, 44, 45, 46, 47, 48, 49, 50, 51, 52, 53, 54, 55, 56, 57, 58, 59, 60, 61, 62, 63, 64, 65, 66, 67, 68, 69, 70, 71, 72, 73, 74, 75, 76, 77, 78, 79, 80, 81, 82, 83, 84, 85, 86, 87, 88, 89, 90, 91, 92, 93, 94, 95, 96, 97, 98, 99, 100, 101, 102, 103, 104, 105, 106, 107, 108, 109, 110, 111, 112, 113, 114, 115, 2, 116, 117, 118, 119, 120, 121, 122, 123, 124, 125, 126, 127, 128, 129, 130, 131, 132, 133, 134, 135, 136, 137, 138, 139, 140, 141, 142, 143, 144, 145, 146, 147, 148, 149, 150, 151, 152, 153, 154, 155, 156, 157, 158, 159, 160, 161, 162, 163, 164, 165, 166, 167, 168, 169, 170, 171, 172, 173, 174, 175, 176, 177, 178, 179] (by decide +kernel) (by decide +kernel)
set_option maxRecDepth 20000 in
theorem gX12_slowly_X12_seeksNow : GoodIn wsX12_slowly (wsV RX12 376 RX12 yX12_seeksNow wsX12_seeksNow) := goodIn_app (goodIn_of _ (by decide +kernel)) ggX12_slowly_X12_seeksNow
set_option maxRecDepth 20000 in
theorem ggX12_crossings_X12_isFamily : GoodIn wsX12_crossings wsX12_isFamily := goodIn_r _ [7, 8, 132, 133, 134, 135, 136, 137, 138, 139, 140, 141, 142, 143, 144, 145, 146, 147, 148, 149, 150, 151, 152, 153, 154, 155, 156, 157, 158, 159, 160, 161, 162, 163, 164, 165, 166, 167, 168, 169, 170, 171, 172, 173, 174, 175, 176, 177, 178, 179] (by decide +kernel) (by decide +kernel)
set_option maxRecDepth 20000 in
theorem gX12_crossings_X12_isFamily : GoodIn wsX12_crossings (wsV RX12 323 RX12 yX12_isFamily wsX12_isFamily) := goodIn_app (goodIn_of _ (by decide +kernel)) ggX12_crossings_X12_isFamily
set_option maxRecDepth 20000 in
theorem ggX12_crossings_X12_seeksNow : GoodIn wsX12_crossings wsX12_seeksNow := goodIn_r _ [12, 13, 14, 15, 16, 6, 17, 18, 19, 20, 21, 22, 23, 24, 25, 26, 27, 28, 29, 30, 31, 32, 33, 34, 35, 36, 37, 38, 39, 40, 41, 42, 43, 44, 45, 46, 47, 48, 49, 50, 51, 52, 53, 54, 55, 56, 57, 58, 59, 60, 61, 62, 63, 64, 65, 66, 67, 68, 69, 70, 71, 72, 73, 74, 75, 76, 77, 78, 79, 80, 81, 82, 83, 84, 85, 86, 87, 88, 89, 90, 91, 92, 93, 94, 95, 96, 97, 98, 99, 100, 101, 102, 103, 104, 105, 106, 107, 108, 109, 110, 111, 112, 113, 114, 115, 2, 116, 117, 118, 119, 120, 121, 122, 123, 124, 125, 126, 127, 128, 129, 130, 131, 132, 133, 134, 135, 136, 137, 138, 139, 140, 141, 142, 143, 144, 145, 146, 147, 148, 149, 150, 151, 152, 153, 154, 155, 156, 157, 158, 159, 160, 161, 162, 163, 164, 165, 166, 167, 168, 169, 170, 171, 172, 173, 174, 175, 176, 177, 178, 179] (by decide +kernel) (by decide +kernel)
set_option maxRecDepth 20000 in
theorem gX12_crossings_X12_seeksNow : GoodIn wsX12_crossings (wsV RX12 376 RX12 yX12_seeksNow wsX12_seeksNow) := goodIn_app (goodIn_of _ (by decide +kernel)) ggX12_crossings_X12_seeksNow
set_option maxRecDepth 20000 in
theorem ggX12_moves_X12_isFamily : GoodIn wsX12_moves wsX12_isFamily := goodIn_r _ [7, 8, 132, 133, 134, 135, 136, 137, 138, 139, 140, 141, 142, 143, 144, 145, 146, 147, 148, 149, 150, 151, 152, 153, 154, 155, 156, 157, 158, 159, 160, 161, 162, 163, 164, 165, 166, 167, 168, 169, 170, 171, 172, 173, 174, 175, 176, 177, 178, 179] (by decide +kernel) (by decide +kernel)
set_option maxRecDepth 20000 in
theorem gX12_moves_X12_isFamily : GoodIn wsX12_moves (wsV RX12 323 RX12 yX12_isFamily wsX12_isFamily) := goodIn_app (goodIn_of _ (by decide +kernel)) ggX12_moves_X12_isFamily
set_option maxRecDepth 20000 in
theorem ggX12_moves_X12_seeksNow : GoodIn wsX12_moves wsX12_seeksNow := goodIn_r _ [12, 13, 14, 15, 16, 6, 17, 18, 19, 20, 21, 22, 23, 24, 25, 26, 27, 28, 29, 30, 31, 32, 33, 34, 35, 36, 37, 38, 39, 40, 41, 42, 43, 44, 45, 46, 47, 48, 49, 50, 51, 52, 53, 54, 55, 56, 57, 58, 59, 60, 61, 62, 63, 64, 65, 66, 67, 68, 69, 70, 71, 72, 73, 74, 75, 76, 77, 78, 79, 80, 81, 82, 83, 84, 85, 86, 87, 88, 89, 90, 91, 92, 93, 94, 95, 96, 97, 98, 99, 100, 101, 102, 103, 104, 105, 106, 107, 108, 109, 110, 111, 112, 113, 114, 115, 2, 116, 117, 118, 119, 120, 121, 122, 123, 124, 125, 126, 127, 128, 129, 130, 131, 132, 133, 134, 135, 136, 137, 138, 139, 140, 141, 142, 143, 144, 145, 146, 147, 148, 149, 150, 151, 152, 153, 154, 155, 156, 157, 158, 159, 160, 161, 162, 163, 164, 165, 166, 167, 168, 169, 170, 171, 172, 173, 174, 175, 176, 177, 178, 179] (by decide +kernel) (by decide +kernel)
set_option maxRecDepth 20000 in
theorem gX12_moves_X12_seeksNow : GoodIn wsX12_moves (wsV RX12 376 RX12 yX12_seeksNow wsX12_seeksNow) := goodIn_app (goodIn_of _ (by decide +kernel)) ggX12_moves_X12_seeksNow
set_option maxRecDepth 20000 in
theorem ggX12_common_X12_common : GoodIn wsX12_common wsX12_common := goodIn_r _ [0, 1, 2, 3] (by decide +kernel) (by decide +kernel)
set_option maxRecDepth 20000 in
theorem gX12_common_X12_common : GoodIn wsX12_common (va_wsS RX12 385 yX12_common wsX12_common) := goodIn_app (goodIn_of _ (by decide +kernel)) ggX12_common_X12_common
set_option maxRecDepth 20000 in
theorem ggX12_chance_X12_isFamily : GoodIn wsX12_chance wsX12_isFamily := goodIn_r _ [11, 12, 150, 151, 152, 153, 154, 155, 156, 157, 158, 159, 160, 161, 162, 163, 164, 165, 166, 167, 168, 169, 170, 171, 172, 173, 174, 175, 176, 177, 178, 179, 180, 181, 182, 183, 184, 185, 186, 187, 188, 189, 190, 191, 192, 193, 194, 195, 196, 197] (by decide +kernel) (by decide +kernel)
set_option maxRecDepth 20000 in
theorem gX12_chance_X12_isFamily : GoodIn wsX12_chance (wsV RX12 323 RX12 yX12_isFamily wsX12_isFamily) := goodIn_app (goodIn_of _ (by decide +kernel)) ggX12_chance_X12_isFamily
set_option maxRecDepth 20000 in
theorem ggX12_chance_X12_in : GoodIn wsX12_chance wsX12_in := goodIn_r _ [15] (by decide +kernel) (by decide +kernel)
set_option maxRecDepth 20000 in
theorem gX12_chance_X12_in : GoodIn wsX12_chance (va_wsS RX12 93 yX12_in wsX12_in) := goodIn_app (goodIn_of _ (by decide +kernel)) ggX12_chance_X12_in
set_option maxRecDepth 20000 in
theorem ggX12_chance_X12_isRow : GoodIn wsX12_chance wsX12_isRow := goodIn_r _ [19, 20, 21, 22, 23, 10, 24, 25, 26, 27, 28, 29, 30, 31, 32, 33, 34, 35, 36, 37, 38, 39, 40, 41, 42, 43, 44, 45, 46, 47, 48, 49, 50, 51, 52, 53, 54, 55, 56, 57, 58, 59, 60, 61, 62, 63, 64, 65, 66, 67, 68, 69, 70, 71, 72, 73, 74, 75, 76, 77, 78, 79, 80, 81, 82, 83, 84, 85, 86, 87, 88, 89, 90, 91, 92, 93, 94, 6, 95, 96, 97, 98, 99, 100, 101, 102, 103, 104, 105, 106, 107, 108, 109, 110, 111, 112, 113, 114, 115, 116, 117, 118, 119, 120, 121, 122, 123, 124, 125, 126, 127, 128, 129, 130, 131, 132, 133, 134, 135, 136, 137, 138, 139, 140, 141, 142, 143, 144, 145, 146, 4, 5, 150, 151, 152, 153, 154, 155, 156, 157, 158, 159, 160, 161, 162, 163, 164, 165, 166, 167, 168, 169, 170, 171, 172, 173, 174, 175, 176, 177, 178, 179, 180, 181, 182, 183, 184, 185, 186, 187, 188, 189, 190, 191, 192, 193, 194, 195, 196, 197] (by decide +kernel) (by decide +kernel)
set_option maxRecDepth 20000 in
theorem gX12_chance_X12_isRow : GoodIn wsX12_chance (wsV RX12 382 RX12 yX12_isRow wsX12_isRow) := goodIn_app (goodIn_of _ (by decide +kernel)) ggX12_chance_X12_isRow
set_option maxRecDepth 20000 in
theorem ggX12_chance_X12_riskOf : GoodIn wsX12_chance wsX12_riskOf := goodIn_r _ [56, 57, 58, 150, 151, 152, 153, 154, 155, 156, 157, 158, 159, 160, 161, 162, 163, 164, 165, 166, 167, 168, 169, 170, 171, 172, 173, 174, 175, 176, 177, 178, 179, 180, 181, 182, 183, 184, 185, 186, 187, 188, 189, 190, 191, 192, 193, 194, 195, 196, 197] (by decide +kernel) (by decide +kernel)
set_option maxRecDepth 20000 in
theorem gX12_chance_X12_riskOf : GoodIn wsX12_chance (wsV RX12 300 RX12 yX12_riskOf wsX12_riskOf) := goodIn_app (goodIn_of _ (by decide +kernel)) ggX12_chance_X12_riskOf
set_option maxRecDepth 20000 in
theorem ggX12_chance_X12_common : GoodIn wsX12_chance wsX12_common := goodIn_r _ [149, 147, 148, 10] (by decide +kernel) (by decide +kernel)
set_option maxRecDepth 20000 in
theorem gX12_chance_X12_common : GoodIn wsX12_chance (va_wsS RX12 385 yX12_common wsX12_common) := goodIn_app (goodIn_of _ (by decide +kernel)) ggX12_chance_X12_common
set_option maxRecDepth 20000 in
theorem ggX12_states_X12_isFamily : GoodIn wsX12_states wsX12_isFamily := goodIn_r _ [7, 8, 81, 82, 83, 84, 85, 86, 87, 88, 89, 90, 91, 92, 93, 94, 95, 96, 97, 98, 99, 100, 101, 102, 103, 104, 105, 106, 107, 108, 109, 110, 111, 112, 113, 114, 115, 116, 117, 118, 119, 120, 121, 122, 123, 124, 125, 126, 127, 128] (by decide +kernel) (by decide +kernel)
set_option maxRecDepth 20000 in
theorem gX12_states_X12_isFamily : GoodIn wsX12_states (wsV RX12 323 RX12 yX12_isFamily wsX12_isFamily) := goodIn_app (goodIn_of _ (by decide +kernel)) ggX12_states_X12_isFamily
set_option maxRecDepth 20000 in
theorem ggX12_states_X12_explores : GoodIn wsX12_states wsX12_explores := goodIn_r _ [12, 2, 13, 14, 15, 16, 17, 6, 18, 19, 20, 21, 22, 23, 24, 25, 26, 27, 28, 29, 30, 31, 32, 33, 34, 35, 36, 37, 38, 39, 40, 41, 42, 43, 44, 45, 46, 47, 48, 49, 50, 51, 52, 53, 54, 55, 56, 57, 58, 59, 60, 61, 62, 63, 64, 65, 66, 67, 68, 69, 70, 71, 72, 73, 74, 75, 76, 77, 78, 79, 80, 81, 82, 83, 84, 85, 86, 87, 88, 89, 90, 91, 92, 93, 94, 95, 96, 97, 98, 99, 100, 101, 102, 103, 104, 105, 106, 107, 108, 109, 110, 111, 112, 113, 114, 115, 116, 117, 118, 119, 120, 121, 122, 123, 124, 125, 126, 127, 128] (by decide +kernel) (by decide +kernel)
set_option maxRecDepth 20000 in
theorem gX12_states_X12_explores : GoodIn wsX12_states (wsV RX12 367 RX12 yX12_explores wsX12_explores) := goodIn_app (goodIn_of _ (by decide +kernel)) ggX12_states_X12_explores
set_option maxRecDepth 20000 in
theorem ggX12_hopeful_X12_isFamily : GoodIn wsX12_hopeful wsX12_isFamily := goodIn_r _ [10, 11, 111, 112, 113, 114, 115, 116, 117, 118, 119, 120, 121, 122, 123, 124, 125, 126, 127, 128, 129, 130, 131, 132, 133, 134, 135, 136, 137, 138, 139, 140, 141, 142, 143, 144, 145, 146, 147, 148, 149, 150, 151, 152, 153, 154, 155, 156, 157, 158] (by decide +kernel) (by decide +kernel)
set_option maxRecDepth 20000 in
theorem gX12_hopeful_X12_isFamily : GoodIn wsX12_hopeful (wsV RX12 323 RX12 yX12_isFamily wsX12_isFamily) := goodIn_app (goodIn_of _ (by decide +kernel)) ggX12_hopeful_X12_isFamily
set_option maxRecDepth 20000 in
theorem ggX12_hopeful_X12_explores : GoodIn wsX12_hopeful wsX12_explores := goodIn_r _ [15, 2, 16, 4, 17, 18, 19, 9, 20, 21, 22, 23, 24, 25, 26, 27, 28, 29, 30, 31, 32, 33, 34, 35, 36, 37, 38, 39, 40, 41, 42, 43, 44, 45, 46, 47, 48, 49, 50, 51, 52, 53, 54, 55, 56, 57, 58, 59, 60, 61, 62, 63, 64, 65, 66, 67, 68, 69, 70, 71, 72, 73, 74, 75, 76, 77, 78, 79, 80, 81, 82, 111, 112, 113, 114, 115, 116, 117, 118, 119, 120, 121, 122, 123, 124, 125, 126, 127, 128, 129, 130, 131, 132, 133, 134, 135, 136, 137, 138, 139, 140, 141, 142, 143, 144, 145, 146, 147, 148, 149, 150, 151, 152, 153, 154, 155, 156, 157, 158] (by decide +kernel) (by decide +kernel)
set_option maxRecDepth 20000 in
theorem gX12_hopeful_X12_explores : GoodIn wsX12_hopeful (wsV RX12 367 RX12 yX12_explores wsX12_explores) := goodIn_app (goodIn_of _ (by decide +kernel)) ggX12_hopeful_X12_explores
set_option maxRecDepth 20000 in
theorem ggX12_hopeful_X12_seeks : GoodIn wsX12_hopeful wsX12_seeks := goodIn_r _ [86, 87, 88, 89, 2, 4, 3, 5, 17, 18, 19, 9, 20, 21, 22, 23, 24, 25, 90, 91, 92, 93, 30, 54, 55, 56, 94, 95, 96, 97, 26, 27, 28, 29, 31, 32, 33, 34, 35, 36, 37, 38, 39, 40, 41, 42, 43, 44, 45, 46, 47, 48, 49, 50, 51, 52, 53, 57, 58, 59, 60, 61, 62, 63, 64, 65, 66, 98, 99, 100, 101, 67, 68, 69, 70, 71, 72, 73, 74, 75, 76, 77, 78, 79, 80, 81, 82, 102, 103, 104, 105, 106, 107, 108, 109, 110, 111, 112, 113, 114, 115, 116, 117, 118, 119, 120, 121, 122, 123, 124, 125, 126, 127, 128, 129, 130, 131, 132, 133, 134, 135, 136, 137, 138, 139, 140, 141, 142, 143, 144, 145, 146, 147, 148, 149, 150, 151, 152, 153, 154, 155, 156, 157, 158] (by decide +kernel) (by decide +kernel)
set_option maxRecDepth 20000 in
theorem gX12_hopeful_X12_seeks : GoodIn wsX12_hopeful (wsV RX12 370 RX12 yX12_seeks wsX12_seeks) := goodIn_app (goodIn_of _ (by decide +kernel)) ggX12_hopeful_X12_seeks
set_option maxRecDepth 20000 in
theorem ggX12_isSet_X12_isFamily : GoodIn wsX12_isSet wsX12_isFamily := goodIn_r _ [6, 7, 11, 12, 13, 14, 15, 16, 17, 18, 19, 20, 21, 22, 23, 24, 25, 26, 27, 28, 29, 30, 31, 32, 33, 34, 35, 36, 37, 38, 39, 40, 41, 42, 43, 44, 45, 46, 47, 48, 49, 50, 51, 52, 53, 54, 55, 56, 57, 58] (by decide +kernel) (by decide +kernel)
set_option maxRecDepth 20000 in
theorem gX12_isSet_X12_isFamily : GoodIn wsX12_isSet (wsV RX12 323 RX12 yX12_isFamily wsX12_isFamily) := goodIn_app (goodIn_of _ (by decide +kernel)) ggX12_isSet_X12_isFamily
set_option maxRecDepth 20000 in
theorem ggX12_isSet_X12_in : GoodIn wsX12_isSet wsX12_in := goodIn_r _ [10] (by decide +kernel) (by decide +kernel)
set_option maxRecDepth 20000 in
theorem gX12_isSet_X12_in : GoodIn wsX12_isSet (va_wsS RX12 93 yX12_in wsX12_in) := goodIn_app (goodIn_of _ (by decide +kernel)) ggX12_isSet_X12_in
set_option maxRecDepth 20000 in
theorem ggX12_till_X12_isSet : GoodIn wsX12_till wsX12_isSet := goodIn_r _ [7, 8, 9, 10, 11, 6, 12, 13, 14, 15, 16, 139, 140, 141, 142, 143, 144, 145, 146, 147, 148, 149, 150, 151, 152, 153, 154, 155, 156, 157, 158, 159, 160, 161, 162, 163, 164, 165, 166, 167, 168, 169, 170, 171, 172, 173, 174, 175, 176, 177, 178, 179, 180, 181, 182, 183, 184, 185, 186] (by decide +kernel) (by decide +kernel)
set_option maxRecDepth 20000 in
theorem gX12_till_X12_isSet : GoodIn wsX12_till (wsV RX12 391 RX12 yX12_isSet wsX12_isSet) := goodIn_app (goodIn_of _ (by decide +kernel)) ggX12_till_X12_isSet
set_option maxRecDepth 20000 in
theorem ggX12_till_X12_seeksNow : GoodIn wsX12_till wsX12_seeksNow := goodIn_r _ [20, 21, 22, 23, 24, 6, 25, 8, 26, 27, 28, 29, 30, 31, 32, 33, 34, 35, 36, 37, 38, 39, 40, 41, 42, 43, 44, 45, 46, 47, 48, 49, 50, 51, 52, 53, 54, 55, 56, 57, 58, 59, 60, 61, 62, 63, 64, 65, 66, 67, 68, 69, 70, 71, 72, 73, 74, 75, 76, 77, 78, 79, 80, 81, 82, 83, 84, 85, 86, 87, 88, 89, 90, 91, 92, 93, 94, 95, 96, 97, 98, 99, 100, 101, 102, 103, 104, 105, 106, 107, 108, 109, 110, 111, 112, 113, 114, 115, 116, 117, 118, 119, 120, 121, 122, 2, 123, 124, 125, 126, 127, 128, 129, 130, 131, 132, 133, 134, 135, 136, 137, 138, 139, 140, 141, 142, 143, 144, 145, 146, 147, 148, 149, 150, 151, 152, 153, 154, 155, 156, 157, 158, 159, 160, 161, 162, 163, 164, 165, 166, 167, 168, 169, 170, 171, 172, 173, 174, 175, 176, 177, 178, 179, 180, 181, 182, 183, 184, 185, 186] (by decide +kernel) (by decide +kernel)
set_option maxRecDepth 20000 in
theorem gX12_till_X12_seeksNow : GoodIn wsX12_till (wsV RX12 376 RX12 yX12_seeksNow wsX12_seeksNow) := goodIn_app (goodIn_of _ (by decide +kernel)) ggX12_till_X12_seeksNow
set_option maxRecDepth 20000 in
theorem ggX12_over_X12_isPerson : GoodIn wsX12_over wsX12_isPerson := goodIn_r _ [7, 8, 9, 10, 6, 11, 134, 135, 136, 137, 138, 139, 140, 141, 142, 143, 144, 145, 146, 147, 148, 149, 150, 151, 152, 153, 154, 155, 156, 157, 158, 159, 160, 161, 162, 163, 164, 165, 166, 167, 168, 169, 170, 171, 172, 173, 174, 175, 176, 177, 178, 179, 180, 181] (by decide +kernel) (by decide +kernel)
set_option maxRecDepth 20000 in
theorem gX12_over_X12_isPerson : GoodIn wsX12_over (wsV RX12 312 RX12 yX12_isPerson wsX12_isPerson) := goodIn_app (goodIn_of _ (by decide +kernel)) ggX12_over_X12_isPerson
set_option maxRecDepth 20000 in
theorem ggX12_over_X12_seeksNow : GoodIn wsX12_over wsX12_seeksNow := goodIn_r _ [15, 16, 17, 18, 19, 6, 20, 8, 21, 22, 23, 24, 25, 26, 27, 28, 29, 30, 31, 32, 33, 34, 35, 36, 37, 38, 39, 40, 41, 42, 43, 44, 45, 46, 47, 48, 49, 50, 51, 52, 53, 54, 55, 56, 57, 58, 59, 60, 61, 62, 63, 64, 65, 66, 67, 68, 69, 70, 71, 72, 73, 74, 75, 76, 77, 78, 79, 80, 81, 82, 83, 84, 85, 86, 87, 88, 89, 90, 91, 92, 93, 94, 95, 96, 97, 98, 99, 100, 101, 102, 103, 104, 105, 106, 107, 108, 109, 110, 111, 112, 113, 114, 115, 116, 117, 2, 118, 119, 120, 121, 122, 123, 124, 125, 126, 127, 128, 129, 130, 131, 132, 133, 134, 135, 136, 137, 138, 139, 140, 141, 142, 143, 144, 145, 146, 147, 148, 149, 150, 151, 152, 153, 154, 155, 156, 157, 158, 159, 160, 161, 162, 163, 164, 165, 166, 167, 168, 169, 170, 171, 172, 173, 174, 175, 176, 177, 178, 179, 180, 181] (by decide +kernel) (by decide +kernel)
set_option maxRecDepth 20000 in
theorem gX12_over_X12_seeksNow : GoodIn wsX12_over (wsV RX12 376 RX12 yX12_seeksNow wsX12_seeksNow) := goodIn_app (goodIn_of _ (by decide +kernel)) ggX12_over_X12_seeksNow
set_option maxRecDepth 20000 in
theorem ggX12_never_X12_isFamily : GoodIn wsX12_never wsX12_isFamily := goodIn_r _ [9, 10, 103, 104, 105, 106, 107, 108, 109, 110, 111, 112, 113, 114, 115, 116, 117, 118, 119, 120, 121, 122, 123, 124, 125, 126, 127, 128, 129, 130, 131, 132, 133, 134, 135, 136, 137, 138, 139, 140, 141, 142, 143, 144, 145, 146, 147, 148, 149, 150] (by decide +kernel) (by decide +kernel)
set_option maxRecDepth 20000 in
theorem gX12_never_X12_isFamily : GoodIn wsX12_never (wsV RX12 323 RX12 yX12_isFamily wsX12_isFamily) := goodIn_app (goodIn_of _ (by decide +kernel)) ggX12_never_X12_isFamily
set_option maxRecDepth 20000 in
theorem ggX12_never_X12_lays : GoodIn wsX12_never wsX12_lays := goodIn_r _ [14, 2, 15, 16, 17, 18, 8, 19, 20, 21, 22, 23, 24, 25, 26, 27, 28, 29, 30, 31, 32, 33, 34, 35, 36, 37, 38, 39, 40, 41, 42, 43, 44, 45, 46, 47, 48, 49, 50, 51, 52, 53, 54, 55, 56, 57, 58, 103, 104, 105, 106, 107, 108, 109, 110, 111, 112, 113, 114, 115, 116, 117, 118, 119, 120, 121, 122, 123, 124, 125, 126, 127, 128, 129, 130, 131, 132, 133, 134, 135, 136, 137, 138, 139, 140, 141, 142, 143, 144, 145, 146, 147, 148, 149, 150] (by decide +kernel) (by decide +kernel)
set_option maxRecDepth 20000 in
theorem gX12_never_X12_lays : GoodIn wsX12_never (wsV RX12 317 RX12 yX12_lays wsX12_lays) := goodIn_app (goodIn_of _ (by decide +kernel)) ggX12_never_X12_lays
set_option maxRecDepth 20000 in
theorem ggX12_never_X12_numberOf : GoodIn wsX12_never wsX12_numberOf := goodIn_r _ [62, 31, 30, 29, 28, 27, 103, 104, 105, 106, 107, 108, 109, 110, 111, 112, 113, 114, 115, 116, 117, 118, 119, 120, 121, 122, 123, 124, 125, 126, 127, 128, 129, 130, 131, 132, 133, 134, 135, 136, 137, 138, 139, 140, 141, 142, 143, 144, 145, 146, 147, 148, 149, 150] (by decide +kernel) (by decide +kernel)
set_option maxRecDepth 20000 in
theorem gX12_never_X12_numberOf : GoodIn wsX12_never (wsV RX12 342 RX12 yX12_numberOf wsX12_numberOf) := goodIn_app (goodIn_of _ (by decide +kernel)) ggX12_never_X12_numberOf
set_option maxRecDepth 20000 in
theorem ggX12_never_X12_explores : GoodIn wsX12_never wsX12_explores := goodIn_r _ [66, 3, 67, 4, 23, 24, 25, 8, 26, 27, 28, 29, 30, 31, 68, 69, 70, 71, 2, 72, 73, 74, 75, 76, 77, 78, 79, 80, 81, 82, 83, 84, 85, 86, 51, 52, 53, 54, 87, 88, 89, 90, 91, 92, 93, 94, 95, 96, 97, 98, 42, 99, 100, 101, 102, 43, 44, 45, 46, 47, 48, 49, 50, 55, 56, 57, 58, 59, 60, 61, 62, 103, 104, 105, 106, 107, 108, 109, 110, 111, 112, 113, 114, 115, 116, 117, 118, 119, 120, 121, 122, 123, 124, 125, 126, 127, 128, 129, 130, 131, 132, 133, 134, 135, 136, 137, 138, 139, 140, 141, 142, 143, 144, 145, 146, 147, 148, 149, 150] (by decide +kernel) (by decide +kernel)
set_option maxRecDepth 20000 in
theorem gX12_never_X12_explores : GoodIn wsX12_never (wsV RX12 367 RX12 yX12_explores wsX12_explores) := goodIn_app (goodIn_of _ (by decide +kernel)) ggX12_never_X12_explores
set_option maxRecDepth 20000 in
theorem ggX12_overBehind_X12_lays : GoodIn wsX12_overBehind wsX12_lays := goodIn_r _ [7, 8, 9, 10, 11, 12, 6, 13, 14, 15, 16, 17, 18, 19, 20, 21, 22, 23, 24, 2, 25, 26, 27, 28, 29, 30, 31, 32, 33, 34, 35, 36, 37, 38, 39, 40, 41, 42, 43, 44, 45, 46, 47, 48, 49, 50, 51, 52, 53, 54, 55, 56, 57, 58, 59, 60, 61, 62, 63, 64, 65, 66, 67, 68, 69, 70, 71, 72, 73, 74, 75, 76, 77, 78, 79, 80, 81, 82, 83, 84, 85, 86, 87, 88, 89, 90, 91, 92, 93, 94, 95, 96, 97, 98, 99] (by decide +kernel) (by decide +kernel)
set_option maxRecDepth 20000 in
theorem gX12_overBehind_X12_lays : GoodIn wsX12_overBehind (wsV RX12 317 RX12 yX12_lays wsX12_lays) := goodIn_app (goodIn_of _ (by decide +kernel)) ggX12_overBehind_X12_lays
set_option maxRecDepth 20000 in
theorem ggX12_overBehind_X12_does : GoodIn wsX12_overBehind wsX12_does := goodIn_r _ [39, 24, 40, 41, 42, 6, 43, 2, 8, 23, 22, 44, 45, 46, 47, 48, 49, 50, 51, 21, 52, 53, 54, 55, 56, 57, 58, 59, 60, 61, 62, 63, 64, 65, 66, 67, 68, 69, 70, 71, 72, 73, 74, 75, 76, 77, 78, 79, 80, 81, 82, 83, 84, 85, 86, 87, 88, 89, 90, 91, 92, 93, 94, 95, 96, 97, 98, 99] (by decide +kernel) (by decide +kernel)
set_option maxRecDepth 20000 in
theorem gX12_overBehind_X12_does : GoodIn wsX12_overBehind (wsV RX12 303 RX12 yX12_does wsX12_does) := goodIn_app (goodIn_of _ (by decide +kernel)) ggX12_overBehind_X12_does
set_option maxRecDepth 20000 in
theorem ggX12_lost_X12_isFamily : GoodIn wsX12_lost wsX12_isFamily := goodIn_r _ [7, 8, 146, 147, 148, 149, 150, 151, 152, 153, 154, 155, 156, 157, 158, 159, 160, 161, 162, 163, 164, 165, 166, 167, 168, 169, 170, 171, 172, 173, 174, 175, 176, 177, 178, 179, 180, 181, 182, 183, 184, 185, 186, 187, 188, 189, 190, 191, 192, 193] (by decide +kernel) (by decide +kernel)
set_option maxRecDepth 20000 in
theorem gX12_lost_X12_isFamily : GoodIn wsX12_lost (wsV RX12 323 RX12 yX12_isFamily wsX12_isFamily) := goodIn_app (goodIn_of _ (by decide +kernel)) ggX12_lost_X12_isFamily
set_option maxRecDepth 20000 in
theorem ggX12_lost_X12_isRow : GoodIn wsX12_lost wsX12_isRow := goodIn_r _ [12, 13, 14, 15, 16, 6, 17, 18, 19, 20, 21, 22, 23, 24, 25, 26, 27, 28, 29, 30, 31, 32, 33, 34, 35, 36, 37, 38, 39, 40, 41, 42, 43, 44, 45, 46, 47, 48, 49, 50, 51, 52, 53, 54, 55, 56, 57, 58, 59, 60, 61, 62, 63, 64, 65, 66, 67, 68, 69, 70, 71, 72, 73, 74, 75, 76, 77, 78, 79, 80, 81, 82, 83, 84, 85, 86, 87, 88, 89, 90, 91, 92, 93, 94, 95, 96, 97, 98, 99, 100, 101, 102, 103, 104, 105, 106, 107, 108, 109, 110, 111, 112, 113, 114, 115, 116, 117, 118, 119, 120, 121, 122, 123, 124, 125, 126, 127, 128, 129, 130, 131, 132, 133, 134, 135, 136, 137, 138, 139, 140, 2, 141, 146, 147, 148, 149, 150, 151, 152, 153, 154, 155, 156, 157, 158, 159, 160, 161, 162, 163, 164, 165, 166, 167, 168, 169, 170, 171, 172, 173, 174, 175, 176, 177, 178, 179, 180, 181, 182, 183, 184, 185, 186, 187, 188, 189, 190, 191, 192, 193] (by decide +kernel) (by decide +kernel)
set_option maxRecDepth 20000 in
theorem gX12_lost_X12_isRow : GoodIn wsX12_lost (wsV RX12 382 RX12 yX12_isRow wsX12_isRow) := goodIn_app (goodIn_of _ (by decide +kernel)) ggX12_lost_X12_isRow
set_option maxRecDepth 20000 in
theorem ggX12_lost_X12_overBehind : GoodIn wsX12_lost wsX12_overBehind := goodIn_r _ [145, 141, 40, 19, 20, 21, 6, 22, 23, 24, 25, 26, 27, 28, 29, 30, 31, 32, 33, 34, 35, 36, 37, 38, 39, 41, 42, 43, 44, 45, 46, 47, 48, 49, 50, 51, 52, 53, 54, 55, 56, 57, 58, 59, 60, 61, 62, 63, 64, 65, 66, 67, 146, 147, 148, 149, 150, 151, 152, 153, 154, 155, 156, 157, 158, 159, 160, 161, 162, 163, 164, 165, 166, 167, 168, 169, 170, 171, 172, 173, 174, 175, 176, 177, 178, 179, 180, 181, 182, 183, 184, 185, 186, 187, 188, 189, 190, 191, 192, 193] (by decide +kernel) (by decide +kernel)
set_option maxRecDepth 20000 in
theorem gX12_lost_X12_overBehind : GoodIn wsX12_lost (wsV RX12 394 RX12 yX12_overBehind wsX12_overBehind) := goodIn_app (goodIn_of _ (by decide +kernel)) ggX12_lost_X12_overBehind
set_option maxRecDepth 20000 in
theorem ggX12_worst_X12_isFamily : GoodIn wsX12_worst wsX12_isFamily := goodIn_r _ [8, 9, 149, 150, 151, 152, 153, 154, 155, 156, 157, 158, 159, 160, 161, 162, 163, 164, 165, 166, 167, 168, 169, 170, 171, 172, 173, 174, 175, 176, 177, 178, 179, 180, 181, 182, 183, 184, 185, 186, 187, 188, 189, 190, 191, 192, 193, 194, 195, 196] (by decide +kernel) (by decide +kernel)
set_option maxRecDepth 20000 in
theorem gX12_worst_X12_isFamily : GoodIn wsX12_worst (wsV RX12 323 RX12 yX12_isFamily wsX12_isFamily) := goodIn_app (goodIn_of _ (by decide +kernel)) ggX12_worst_X12_isFamily
set_option maxRecDepth 20000 in
theorem ggX12_worst_X12_isRow : GoodIn wsX12_worst wsX12_isRow := goodIn_r _ [13, 14, 15, 16, 17, 7, 18, 19, 20, 21, 22, 23, 2, 24, 25, 26, 27, 28, 29, 30, 31, 32, 33, 34, 35, 36, 37, 38, 39, 40, 41, 42, 43, 44, 45, 46, 47, 48, 49, 50, 51, 52, 53, 54, 55, 56, 57, 58, 59, 60, 61, 62, 63, 64, 65, 66, 67, 68, 69, 70, 71, 72, 73, 74, 75, 76, 77, 78, 79, 80, 81, 82, 83, 84, 85, 86, 87, 88, 89, 90, 91, 92, 93, 94, 95, 96, 97, 98, 99, 100, 101, 102, 103, 104, 105, 106, 107, 108, 109, 110, 111, 112, 113, 114, 115, 116, 117, 118, 119, 120, 121, 122, 123, 124, 125, 126, 127, 128, 129, 130, 131, 132, 133, 134, 135, 136, 137, 138, 139, 140, 3, 141, 149, 150, 151, 152, 153, 154, 155, 156, 157, 158, 159, 160, 161, 162, 163, 164, 165, 166, 167, 168, 169, 170, 171, 172, 173, 174, 175, 176, 177, 178, 179, 180, 181, 182, 183, 184, 185, 186, 187, 188, 189, 190, 191, 192, 193, 194, 195, 196] (by decide +kernel) (by decide +kernel)
set_option maxRecDepth 20000 in
theorem gX12_worst_X12_isRow : GoodIn wsX12_worst (wsV RX12 382 RX12 yX12_isRow wsX12_isRow) := goodIn_app (goodIn_of _ (by decide +kernel)) ggX12_worst_X12_isRow
set_option maxRecDepth 20000 in
theorem ggX12_worst_X12_overBehind : GoodIn wsX12_worst wsX12_overBehind := goodIn_r _ [145, 141, 40, 20, 21, 22, 7, 23, 2, 24, 25, 26, 27, 28, 29, 30, 31, 32, 33, 34, 35, 36, 37, 38, 39, 41, 42, 43, 44, 45, 46, 47, 48, 49, 50, 51, 52, 53, 54, 55, 56, 57, 58, 59, 60, 61, 62, 63, 64, 65, 66, 67, 149, 150, 151, 152, 153, 154, 155, 156, 157, 158, 159, 160, 161, 162, 163, 164, 165, 166, 167, 168, 169, 170, 171, 172, 173, 174, 175, 176, 177, 178, 179, 180, 181, 182, 183, 184, 185, 186, 187, 188, 189, 190, 191, 192, 193, 194, 195, 196] (by decide +kernel) (by decide +kernel)
set_option maxRecDepth 20000 in
theorem gX12_worst_X12_overBehind : GoodIn wsX12_worst (wsV RX12 394 RX12 yX12_overBehind wsX12_overBehind) := goodIn_app (goodIn_of _ (by decide +kernel)) ggX12_worst_X12_overBehind
set_option maxRecDepth 20000 in
theorem ggX12_worst_X12_sizeOf : GoodIn wsX12_worst wsX12_sizeOf := goodIn_r _ [148] (by decide +kernel) (by decide +kernel)
set_option maxRecDepth 20000 in
theorem gX12_worst_X12_sizeOf : GoodIn wsX12_worst (va_wsS RX12 397 yX12_sizeOf wsX12_sizeOf) := goodIn_app (goodIn_of _ (by decide +kernel)) ggX12_worst_X12_sizeOf
set_option maxRecDepth 20000 in
theorem ggX12_whyNot_X12_isSlot : GoodIn wsX12_whyNot wsX12_isSlot := goodIn_r _ [6, 7, 8, 9, 5, 10] (by decide +kernel) (by decide +kernel)
set_option maxRecDepth 20000 in
theorem gX12_whyNot_X12_isSlot : GoodIn wsX12_whyNot (va_wsS RX12 97 yX12_isSlot wsX12_isSlot) := goodIn_app (goodIn_of _ (by decide +kernel)) ggX12_whyNot_X12_isSlot
set_option maxRecDepth 20000 in
theorem ggX12_whyNot_X12_isFamily : GoodIn wsX12_whyNot wsX12_isFamily := goodIn_r _ [14, 15, 29, 30, 31, 32, 33, 34, 35, 36, 37, 38, 39, 40, 41, 42, 43, 44, 45, 46, 47, 48, 49, 50, 51, 52, 53, 54, 55, 56, 57, 58, 59, 60, 61, 62, 63, 64, 65, 66, 67, 68, 69, 70, 71, 72, 73, 74, 75, 76] (by decide +kernel) (by decide +kernel)
set_option maxRecDepth 20000 in
theorem gX12_whyNot_X12_isFamily : GoodIn wsX12_whyNot (wsV RX12 323 RX12 yX12_isFamily wsX12_isFamily) := goodIn_app (goodIn_of _ (by decide +kernel)) ggX12_whyNot_X12_isFamily
set_option maxRecDepth 20000 in
theorem ggX12_whyNot_X12_cellOf : GoodIn wsX12_whyNot wsX12_cellOf := goodIn_r _ [19, 20, 29, 30, 31, 32, 33, 34, 35, 36, 37, 38, 39, 40, 41, 42, 43, 44, 45, 46, 47, 48, 49, 50, 51, 52, 53, 54, 55, 56, 57, 58, 59, 60, 61, 62, 63, 64, 65, 66, 67, 68, 69, 70, 71, 72, 73, 74, 75, 76] (by decide +kernel) (by decide +kernel)
set_option maxRecDepth 20000 in
theorem gX12_whyNot_X12_cellOf : GoodIn wsX12_whyNot (wsV RX12 400 RX12 yX12_cellOf wsX12_cellOf) := goodIn_app (goodIn_of _ (by decide +kernel)) ggX12_whyNot_X12_cellOf
set_option maxRecDepth 20000 in
theorem ggX12_whyNot_X12_isActNumber : GoodIn wsX12_whyNot wsX12_isActNumber := goodIn_r _ [24, 25, 26, 27, 28, 29, 30, 31, 32, 33, 34, 35, 36, 37, 38, 39, 40, 41, 42, 43, 44, 45, 46, 47, 48, 49, 50, 51, 52, 53, 54, 55, 56, 57, 58, 59, 60, 61, 62, 63, 64, 65, 66, 67, 68, 69, 70, 71, 72, 73, 74, 75, 76] (by decide +kernel) (by decide +kernel)
set_option maxRecDepth 20000 in
theorem gX12_whyNot_X12_isActNumber : GoodIn wsX12_whyNot (wsV RX12 282 RX12 yX12_isActNumber wsX12_isActNumber) := goodIn_app (goodIn_of _ (by decide +kernel)) ggX12_whyNot_X12_isActNumber
set_option maxRecDepth 20000 in
theorem ggX12_judges_X12_start : GoodIn wsX12_judges wsX12_start := goodIn_r _ [6, 7, 8, 9, 10, 11, 12, 5, 13, 14, 15, 16, 17, 18, 76, 77, 78, 79, 80, 81, 82, 83, 84, 85, 86, 87, 88, 89, 90, 91, 92, 93, 94, 95, 96, 97, 98, 99, 100, 101, 102, 103, 104, 105, 106, 107, 108, 109, 110, 111, 112, 113, 114, 115, 116, 117, 118, 119, 120, 121, 122, 123] (by decide +kernel) (by decide +kernel)
set_option maxRecDepth 20000 in
theorem gX12_judges_X12_start : GoodIn wsX12_judges (wsV RX12 306 RX12 yX12_start wsX12_start) := goodIn_app (goodIn_of _ (by decide +kernel)) ggX12_judges_X12_start
set_option maxRecDepth 20000 in
theorem ggX12_judges_X12_cellOf : GoodIn wsX12_judges wsX12_cellOf := goodIn_r _ [22, 23, 76, 77, 78, 79, 80, 81, 82, 83, 84, 85, 86, 87, 88, 89, 90, 91, 92, 93, 94, 95, 96, 97, 98, 99, 100, 101, 102, 103, 104, 105, 106, 107, 108, 109, 110, 111, 112, 113, 114, 115, 116, 117, 118, 119, 120, 121, 122, 123] (by decide +kernel) (by decide +kernel)
set_option maxRecDepth 20000 in
theorem gX12_judges_X12_cellOf : GoodIn wsX12_judges (wsV RX12 400 RX12 yX12_cellOf wsX12_cellOf) := goodIn_app (goodIn_of _ (by decide +kernel)) ggX12_judges_X12_cellOf
set_option maxRecDepth 20000 in
theorem ggX12_judges_X12_mayAct : GoodIn wsX12_judges wsX12_mayAct := goodIn_r _ [27, 28, 29, 30, 5, 31, 17, 32, 33, 34, 35, 18, 36, 37, 38, 39, 40, 16, 15, 41, 42, 43, 44, 45, 46, 47, 48, 49, 50, 51, 52, 53, 14, 76, 77, 78, 79, 80, 81, 82, 83, 84, 85, 86, 87, 88, 89, 90, 91, 92, 93, 94, 95, 96, 97, 98, 99, 100, 101, 102, 103, 104, 105, 106, 107, 108, 109, 110, 111, 112, 113, 114, 115, 116, 117, 118, 119, 120, 121, 122, 123] (by decide +kernel) (by decide +kernel)
set_option maxRecDepth 20000 in
theorem gX12_judges_X12_mayAct : GoodIn wsX12_judges (wsV RX12 285 RX12 yX12_mayAct wsX12_mayAct) := goodIn_app (goodIn_of _ (by decide +kernel)) ggX12_judges_X12_mayAct
set_option maxRecDepth 20000 in
theorem ggX12_judges_X12_goes : GoodIn wsX12_judges wsX12_goes := goodIn_r _ [57, 7, 40, 58, 9, 17, 8, 59, 60, 61, 5, 62, 63, 49, 64, 65, 66, 67, 68, 69, 70, 71, 18, 16, 15, 32, 33, 34, 35, 72, 73, 74, 75, 14, 76, 77, 78, 79, 80, 81, 82, 83, 84, 85, 86, 87, 88, 89, 90, 91, 92, 93, 94, 95, 96, 97, 98, 99, 100, 101, 102, 103, 104, 105, 106, 107, 108, 109, 110, 111, 112, 113, 114, 115, 116, 117, 118, 119, 120, 121, 122, 123] (by decide +kernel) (by decide +kernel)
set_option maxRecDepth 20000 in
theorem gX12_judges_X12_goes : GoodIn wsX12_judges (wsV RX12 309 RX12 yX12_goes wsX12_goes) := goodIn_app (goodIn_of _ (by decide +kernel)) ggX12_judges_X12_goes
set_option maxRecDepth 20000 in
theorem ggX12_judge_X12_whyNot : GoodIn wsX12_judge wsX12_whyNot := goodIn_r _ [6, 7, 8, 9, 10, 5, 11, 12, 13, 14, 15, 16, 17, 18, 19, 20, 21, 22, 23, 24, 25, 26, 27, 28, 29, 30, 31, 32, 33, 105, 106, 107, 108, 109, 110, 111, 112, 113, 114, 115, 116, 117, 118, 119, 120, 121, 122, 123, 124, 125, 126, 127, 128, 129, 130, 131, 132, 133, 134, 135, 136, 137, 138, 139, 140, 141, 142, 143, 144, 145, 146, 147, 148, 149, 150, 151, 152] (by decide +kernel) (by decide +kernel)
set_option maxRecDepth 20000 in
theorem gX12_judge_X12_whyNot : GoodIn wsX12_judge (wsV RX12 404 RX12 yX12_whyNot wsX12_whyNot) := goodIn_app (goodIn_of _ (by decide +kernel)) ggX12_judge_X12_whyNot
set_option maxRecDepth 20000 in
theorem ggX12_judge_X12_judges : GoodIn wsX12_judge wsX12_judges := goodIn_r _ [37, 8, 38, 39, 40, 5, 41, 42, 43, 44, 45, 46, 47, 48, 49, 50, 51, 52, 53, 21, 22, 23, 24, 25, 54, 55, 56, 57, 58, 59, 60, 61, 62, 63, 64, 65, 66, 67, 68, 69, 32, 70, 71, 72, 73, 74, 75, 76, 77, 78, 79, 80, 81, 82, 83, 84, 85, 86, 87, 88, 89, 90, 91, 92, 93, 94, 95, 96, 97, 98, 99, 100, 101, 102, 103, 104, 105, 106, 107, 108, 109, 110, 111, 112, 113, 114, 115, 116, 117, 118, 119, 120, 121, 122, 123, 124, 125, 126, 127, 128, 129, 130, 131, 132, 133, 134, 135, 136, 137, 138, 139, 140, 141, 142, 143, 144, 145, 146, 147, 148, 149, 150, 151, 152] (by decide +kernel) (by decide +kernel)
set_option maxRecDepth 20000 in
theorem gX12_judge_X12_judges : GoodIn wsX12_judge (wsV RX12 407 RX12 yX12_judges wsX12_judges) := goodIn_app (goodIn_of _ (by decide +kernel)) ggX12_judge_X12_judges
set_option maxRecDepth 20000 in
theorem ggX12_judged_X12_whyNot : GoodIn wsX12_judged wsX12_whyNot := goodIn_r _ [9, 10, 11, 12, 13, 8, 14, 15, 16, 17, 18, 19, 20, 21, 22, 23, 24, 25, 26, 27, 28, 29, 30, 31, 32, 33, 34, 35, 36, 109, 110, 111, 112, 113, 114, 115, 116, 117, 118, 119, 120, 121, 122, 123, 124, 125, 126, 127, 128, 129, 130, 131, 132, 133, 134, 135, 136, 137, 138, 139, 140, 141, 142, 143, 144, 145, 146, 147, 148, 149, 150, 151, 152, 153, 154, 155, 156] (by decide +kernel) (by decide +kernel)
set_option maxRecDepth 20000 in
theorem gX12_judged_X12_whyNot : GoodIn wsX12_judged (wsV RX12 404 RX12 yX12_whyNot wsX12_whyNot) := goodIn_app (goodIn_of _ (by decide +kernel)) ggX12_judged_X12_whyNot
set_option maxRecDepth 20000 in
theorem ggX12_judged_X12_judges : GoodIn wsX12_judged wsX12_judges := goodIn_r _ [40, 11, 41, 42, 43, 8, 44, 3, 4, 45, 46, 47, 48, 49, 50, 51, 52, 53, 2, 24, 25, 26, 27, 28, 54, 55, 56, 57, 58, 59, 60, 61, 62, 63, 64, 65, 66, 67, 68, 69, 35, 70, 71, 72, 73, 74, 75, 76, 77, 78, 79, 80, 81, 82, 83, 84, 85, 86, 87, 88, 89, 90, 91, 92, 93, 94, 95, 96, 97, 98, 99, 100, 101, 102, 103, 104, 109, 110, 111, 112, 113, 114, 115, 116, 117, 118, 119, 120, 121, 122, 123, 124, 125, 126, 127, 128, 129, 130, 131, 132, 133, 134, 135, 136, 137, 138, 139, 140, 141, 142, 143, 144, 145, 146, 147, 148, 149, 150, 151, 152, 153, 154, 155, 156] (by decide +kernel) (by decide +kernel)
set_option maxRecDepth 20000 in
theorem gX12_judged_X12_judges : GoodIn wsX12_judged (wsV RX12 407 RX12 yX12_judges wsX12_judges) := goodIn_app (goodIn_of _ (by decide +kernel)) ggX12_judged_X12_judges
set_option maxRecDepth 20000 in
theorem ggX12_judged_X12_liesNow : GoodIn wsX12_judged wsX12_liesNow := goodIn_r _ [108, 45, 87, 109, 110, 111, 112, 113, 114, 115, 116, 117, 118, 119, 120, 121, 122, 123, 124, 125, 126, 127, 128, 129, 130, 131, 132, 133, 134, 135, 136, 137, 138, 139, 140, 141, 142, 143, 144, 145, 146, 147, 148, 149, 150, 151, 152, 153, 154, 155, 156] (by decide +kernel) (by decide +kernel)
set_option maxRecDepth 20000 in
theorem gX12_judged_X12_liesNow : GoodIn wsX12_judged (wsV RX12 326 RX12 yX12_liesNow wsX12_liesNow) := goodIn_app (goodIn_of _ (by decide +kernel)) ggX12_judged_X12_liesNow
set_option maxRecDepth 20000 in
theorem ggX12_there_X12_judged : GoodIn wsX12_there wsX12_judged := goodIn_r _ [5, 6, 7, 8, 9, 10, 11, 12, 4, 13, 14, 15, 16, 17, 18, 19, 20, 21, 22, 23, 24, 25, 26, 27, 28, 29, 30, 31, 32, 33, 34, 35, 36, 37, 38, 39, 40, 41, 42, 43, 44, 45, 46, 47, 48, 49, 50, 51, 52, 53, 54, 55, 56, 57, 58, 59, 60, 61, 62, 63, 64, 65, 66, 67, 68, 69, 70, 71, 72, 73, 74, 75, 76, 77, 78, 79, 80, 81, 82, 83, 84, 85, 86, 87, 88, 89, 90, 91, 92, 93, 94, 95, 96, 97, 98, 99, 100, 101, 102, 103, 104, 105, 106, 107, 108, 109, 110, 111, 112, 113, 114, 115, 116, 117, 118, 119, 120, 121, 122, 123, 124, 125, 126, 127, 128, 129, 130, 131, 132, 133, 134, 135, 136, 137, 138, 139, 140, 141, 142, 143, 144, 145, 146, 147, 148, 149, 150, 151, 152, 153, 154, 155, 156, 157, 158, 159, 160] (by decide +kernel) (by decide +kernel)
set_option maxRecDepth 20000 in
theorem gX12_there_X12_judged : GoodIn wsX12_there (wsV RX12 410 RX12 yX12_judged wsX12_judged) := goodIn_app (goodIn_of _ (by decide +kernel)) ggX12_there_X12_judged
set_option maxRecDepth 20000 in
theorem ggX12_takes__X12_judged : GoodIn wsX12_takes_ wsX12_judged := goodIn_r _ [5, 6, 7, 8, 9, 10, 11, 12, 4, 13, 14, 15, 16, 17, 18, 19, 20, 21, 22, 23, 24, 25, 26, 27, 28, 29, 30, 31, 32, 33, 34, 35, 36, 37, 38, 39, 40, 41, 42, 43, 44, 45, 46, 47, 48, 49, 50, 51, 52, 53, 54, 55, 56, 57, 58, 59, 60, 61, 62, 63, 64, 65, 66, 67, 68, 69, 70, 71, 72, 73, 74, 75, 76, 77, 78, 79, 80, 81, 82, 83, 84, 85, 86, 87, 88, 89, 90, 91, 92, 93, 94, 95, 96, 97, 98, 99, 100, 101, 102, 103, 104, 105, 106, 107, 108, 109, 110, 111, 112, 113, 114, 115, 116, 117, 118, 119, 120, 121, 122, 123, 124, 125, 126, 127, 128, 129, 130, 131, 132, 133, 134, 135, 136, 137, 138, 139, 140, 141, 142, 143, 144, 145, 146, 147, 148, 149, 150, 151, 152, 153, 154, 155, 156, 157, 158, 159, 160] (by decide +kernel) (by decide +kernel)
set_option maxRecDepth 20000 in
theorem gX12_takes__X12_judged : GoodIn wsX12_takes_ (wsV RX12 410 RX12 yX12_judged wsX12_judged) := goodIn_app (goodIn_of _ (by decide +kernel)) ggX12_takes__X12_judged
set_option maxRecDepth 20000 in
theorem ggX12_dares_X12_judged : GoodIn wsX12_dares wsX12_judged := goodIn_r _ [5, 6, 7, 8, 9, 10, 11, 12, 4, 13, 14, 15, 16, 17, 18, 19, 20, 21, 22, 23, 24, 25, 26, 27, 28, 29, 30, 31, 32, 33, 34, 35, 36, 37, 38, 39, 40, 41, 42, 43, 44, 45, 46, 47, 48, 49, 50, 51, 52, 53, 54, 55, 56, 57, 58, 59, 60, 61, 62, 63, 64, 65, 66, 67, 68, 69, 70, 71, 72, 73, 74, 75, 76, 77, 78, 79, 80, 81, 82, 83, 84, 85, 86, 87, 88, 89, 90, 91, 92, 93, 94, 95, 96, 97, 98, 99, 100, 101, 102, 103, 104, 105, 106, 107, 108, 109, 110, 111, 112, 113, 114, 115, 116, 117, 118, 119, 120, 121, 122, 123, 124, 125, 126, 127, 128, 129, 130, 131, 132, 133, 134, 135, 136, 137, 138, 139, 140, 141, 142, 143, 144, 145, 146, 147, 148, 149, 150, 151, 152, 153, 154, 155, 156, 157, 158, 159, 160] (by decide +kernel) (by decide +kernel)
set_option maxRecDepth 20000 in
theorem gX12_dares_X12_judged : GoodIn wsX12_dares (wsV RX12 410 RX12 yX12_judged wsX12_judged) := goodIn_app (goodIn_of _ (by decide +kernel)) ggX12_dares_X12_judged
set_option maxRecDepth 20000 in
theorem ggX12_lied_X12_judged : GoodIn wsX12_lied wsX12_judged := goodIn_r _ [5, 6, 7, 8, 9, 10, 11, 12, 4, 13, 14, 15, 16, 17, 18, 19, 20, 21, 22, 23, 24, 25, 26, 27, 28, 29, 30, 31, 32, 33, 34, 35, 36, 37, 38, 39, 40, 41, 42, 43, 44, 45, 46, 47, 48, 49, 50, 51, 52, 53, 54, 55, 56, 57, 58, 59, 60, 61, 62, 63, 64, 65, 66, 67, 68, 69, 70, 71, 72, 73, 74, 75, 76, 77, 78, 79, 80, 81, 82, 83, 84, 85, 86, 87, 88, 89, 90, 91, 92, 93, 94, 95, 96, 97, 98, 99, 100, 101, 102, 103, 104, 105, 106, 107, 108, 109, 110, 111, 112, 113, 114, 115, 116, 117, 118, 119, 120, 121, 122, 123, 124, 125, 126, 127, 128, 129, 130, 131, 132, 133, 134, 135, 136, 137, 138, 139, 140, 141, 142, 143, 144, 145, 146, 147, 148, 149, 150, 151, 152, 153, 154, 155, 156, 157, 158, 159, 160] (by decide +kernel) (by decide +kernel)
set_option maxRecDepth 20000 in
theorem gX12_lied_X12_judged : GoodIn wsX12_lied (wsV RX12 410 RX12 yX12_judged wsX12_judged) := goodIn_app (goodIn_of _ (by decide +kernel)) ggX12_lied_X12_judged
set_option maxRecDepth 20000 in
theorem ggX12_whyNoStamps_X12_isSlot : GoodIn wsX12_whyNoStamps wsX12_isSlot := goodIn_r _ [9, 10, 11, 12, 8, 13] (by decide +kernel) (by decide +kernel)
set_option maxRecDepth 20000 in
theorem gX12_whyNoStamps_X12_isSlot : GoodIn wsX12_whyNoStamps (va_wsS RX12 97 yX12_isSlot wsX12_isSlot) := goodIn_app (goodIn_of _ (by decide +kernel)) ggX12_whyNoStamps_X12_isSlot
set_option maxRecDepth 20000 in
theorem ggX12_whyNoStamps_X12_isFamily : GoodIn wsX12_whyNoStamps wsX12_isFamily := goodIn_r _ [17, 18, 24, 25, 26, 27, 28, 29, 30, 31, 32, 33, 34, 35, 36, 37, 38, 39, 40, 41, 42, 43, 44, 45, 46, 47, 48, 49, 50, 51, 52, 53, 54, 55, 56, 57, 58, 59, 60, 61, 62, 63, 64, 65, 66, 67, 68, 69, 70, 71] (by decide +kernel) (by decide +kernel)
set_option maxRecDepth 20000 in
theorem gX12_whyNoStamps_X12_isFamily : GoodIn wsX12_whyNoStamps (wsV RX12 323 RX12 yX12_isFamily wsX12_isFamily) := goodIn_app (goodIn_of _ (by decide +kernel)) ggX12_whyNoStamps_X12_isFamily
set_option maxRecDepth 20000 in
theorem ggX12_whyNoStamps_X12_cellOf : GoodIn wsX12_whyNoStamps wsX12_cellOf := goodIn_r _ [22, 23, 24, 25, 26, 27, 28, 29, 30, 31, 32, 33, 34, 35, 36, 37, 38, 39, 40, 41, 42, 43, 44, 45, 46, 47, 48, 49, 50, 51, 52, 53, 54, 55, 56, 57, 58, 59, 60, 61, 62, 63, 64, 65, 66, 67, 68, 69, 70, 71] (by decide +kernel) (by decide +kernel)
set_option maxRecDepth 20000 in
theorem gX12_whyNoStamps_X12_cellOf : GoodIn wsX12_whyNoStamps (wsV RX12 400 RX12 yX12_cellOf wsX12_cellOf) := goodIn_app (goodIn_of _ (by decide +kernel)) ggX12_whyNoStamps_X12_cellOf
set_option maxRecDepth 20000 in
theorem ggX12_whyNoStamps_X12_in : GoodIn wsX12_whyNoStamps wsX12_in := goodIn_r _ [13] (by decide +kernel) (by decide +kernel)
set_option maxRecDepth 20000 in
theorem gX12_whyNoStamps_X12_in : GoodIn wsX12_whyNoStamps (va_wsS RX12 93 yX12_in wsX12_in) := goodIn_app (goodIn_of _ (by decide +kernel)) ggX12_whyNoStamps_X12_in
set_option maxRecDepth 20000 in
theorem ggX12_looksAt_X12_cellOf : GoodIn wsX12_looksAt wsX12_cellOf := goodIn_r _ [7, 8, 9, 10, 11, 12, 13, 14, 15, 16, 17, 18, 19, 20, 21, 22, 23, 24, 25, 26, 27, 28, 29, 30, 31, 32, 33, 34, 35, 36, 37, 38, 39, 40, 41, 42, 43, 44, 45, 46, 47, 48, 49, 50, 51, 52, 53, 54, 55, 56] (by decide +kernel) (by decide +kernel)
set_option maxRecDepth 20000 in
theorem gX12_looksAt_X12_cellOf : GoodIn wsX12_looksAt (wsV RX12 400 RX12 yX12_cellOf wsX12_cellOf) := goodIn_app (goodIn_of _ (by decide +kernel)) ggX12_looksAt_X12_cellOf
set_option maxRecDepth 20000 in
theorem ggX12_completes_X12_kindOf : GoodIn wsX12_completes wsX12_kindOf := goodIn_r _ [16, 7, 9, 10, 57, 58, 59, 60, 61, 62, 63, 64, 65, 66, 67, 68, 69, 70, 71, 72, 73, 74, 75, 76, 77, 78, 79, 80, 81, 82, 83, 84, 85, 86, 87, 88, 89, 90, 91, 92, 93, 94, 95, 96, 97, 98, 99, 100, 101, 102, 103, 104] (by decide +kernel) (by decide +kernel)
set_option maxRecDepth 20000 in
theorem gX12_completes_X12_kindOf : GoodIn wsX12_completes (wsV RX12 415 RX12 yX12_kindOf wsX12_kindOf) := goodIn_app (goodIn_of _ (by decide +kernel)) ggX12_completes_X12_kindOf
set_option maxRecDepth 20000 in
theorem ggX12_completes_X12_looksAt : GoodIn wsX12_completes wsX12_looksAt := goodIn_r _ [20, 8, 21, 22, 23, 24, 15, 25, 26, 57, 58, 59, 60, 61, 62, 63, 64, 65, 66, 67, 68, 69, 70, 71, 72, 73, 74, 75, 76, 77, 78, 79, 80, 81, 82, 83, 84, 85, 86, 87, 88, 89, 90, 91, 92, 93, 94, 95, 96, 97, 98, 99, 100, 101, 102, 103, 104] (by decide +kernel) (by decide +kernel)
set_option maxRecDepth 20000 in
theorem gX12_completes_X12_looksAt : GoodIn wsX12_completes (wsV RX12 418 RX12 yX12_looksAt wsX12_looksAt) := goodIn_app (goodIn_of _ (by decide +kernel)) ggX12_completes_X12_looksAt
set_option maxRecDepth 20000 in
theorem ggX12_completes_X12_cellOf : GoodIn wsX12_completes wsX12_cellOf := goodIn_r _ [25, 26, 57, 58, 59, 60, 61, 62, 63, 64, 65, 66, 67, 68, 69, 70, 71, 72, 73, 74, 75, 76, 77, 78, 79, 80, 81, 82, 83, 84, 85, 86, 87, 88, 89, 90, 91, 92, 93, 94, 95, 96, 97, 98, 99, 100, 101, 102, 103, 104] (by decide +kernel) (by decide +kernel)
set_option maxRecDepth 20000 in
theorem gX12_completes_X12_cellOf : GoodIn wsX12_completes (wsV RX12 400 RX12 yX12_cellOf wsX12_cellOf) := goodIn_app (goodIn_of _ (by decide +kernel)) ggX12_completes_X12_cellOf
set_option maxRecDepth 20000 in
theorem ggX12_completes_X12_sideOf : GoodIn wsX12_completes wsX12_sideOf := goodIn_r _ [30, 7, 57, 58, 59, 60, 61, 62, 63, 64, 65, 66, 67, 68, 69, 70, 71, 72, 73, 74, 75, 76, 77, 78, 79, 80, 81, 82, 83, 84, 85, 86, 87, 88, 89, 90, 91, 92, 93, 94, 95, 96, 97, 98, 99, 100, 101, 102, 103, 104] (by decide +kernel) (by decide +kernel)
set_option maxRecDepth 20000 in
theorem gX12_completes_X12_sideOf : GoodIn wsX12_completes (wsV RX12 253 RX12 yX12_sideOf wsX12_sideOf) := goodIn_app (goodIn_of _ (by decide +kernel)) ggX12_completes_X12_sideOf
set_option maxRecDepth 20000 in
theorem ggX12_completes_X12_isBit : GoodIn wsX12_completes wsX12_isBit := goodIn_r _ [33] (by decide +kernel) (by decide +kernel)
set_option maxRecDepth 20000 in
theorem gX12_completes_X12_isBit : GoodIn wsX12_completes (va_wsS RX12 189 yX12_isBit wsX12_isBit) := goodIn_app (goodIn_of _ (by decide +kernel)) ggX12_completes_X12_isBit
set_option maxRecDepth 20000 in
theorem ggX12_completes_X12_noses : GoodIn wsX12_completes wsX12_noses := goodIn_r _ [37, 38, 21, 57, 58, 59, 60, 61, 62, 63, 64, 65, 66, 67, 68, 69, 70, 71, 72, 73, 74, 75, 76, 77, 78, 79, 80, 81, 82, 83, 84, 85, 86, 87, 88, 89, 90, 91, 92, 93, 94, 95, 96, 97, 98, 99, 100, 101, 102, 103, 104] (by decide +kernel) (by decide +kernel)
set_option maxRecDepth 20000 in
theorem gX12_completes_X12_noses : GoodIn wsX12_completes (wsV RX12 256 RX12 yX12_noses wsX12_noses) := goodIn_app (goodIn_of _ (by decide +kernel)) ggX12_completes_X12_noses
set_option maxRecDepth 20000 in
theorem ggX12_completes_X12_crosses : GoodIn wsX12_completes wsX12_crosses := goodIn_r _ [42, 7, 43, 11, 9, 10, 27, 28, 29, 15, 30, 44, 45, 46, 47, 48, 57, 58, 59, 60, 61, 62, 63, 64, 65, 66, 67, 68, 69, 70, 71, 72, 73, 74, 75, 76, 77, 78, 79, 80, 81, 82, 83, 84, 85, 86, 87, 88, 89, 90, 91, 92, 93, 94, 95, 96, 97, 98, 99, 100, 101, 102, 103, 104] (by decide +kernel) (by decide +kernel)
set_option maxRecDepth 20000 in
theorem gX12_completes_X12_crosses : GoodIn wsX12_completes (wsV RX12 278 RX12 yX12_crosses wsX12_crosses) := goodIn_app (goodIn_of _ (by decide +kernel)) ggX12_completes_X12_crosses
set_option maxRecDepth 20000 in
theorem ggX12_completes_X12_completes : GoodIn wsX12_completes wsX12_completes := goodIn_r _ [0, 1, 2, 3, 4, 5, 6, 7, 8, 9, 10, 11, 12, 13, 14, 15, 16, 17, 18, 19, 20, 21, 22, 23, 24, 25, 26, 27, 28, 29, 30, 31, 32, 33, 34, 35, 36, 37, 38, 39, 40, 41, 42, 43, 44, 45, 46, 47, 48, 49, 50, 51, 52, 53, 54, 55, 56, 57, 58, 59, 60, 61, 62, 63, 64, 65, 66, 67, 68, 69, 70, 71, 72, 73, 74, 75, 76, 77, 78, 79, 80, 81, 82, 83, 84, 85, 86, 87, 88, 89, 90, 91, 92, 93, 94, 95, 96, 97, 98, 99, 100, 101, 102, 103, 104] (by decide +kernel) (by decide +kernel)
set_option maxRecDepth 20000 in
theorem gX12_completes_X12_completes : GoodIn wsX12_completes (wsV RX12 421 RX12 yX12_completes wsX12_completes) := goodIn_app (goodIn_of _ (by decide +kernel)) ggX12_completes_X12_completes
set_option maxRecDepth 20000 in
theorem ggX12_completes_X12_riskOf : GoodIn wsX12_completes wsX12_riskOf := goodIn_r _ [55, 56, 21, 57, 58, 59, 60, 61, 62, 63, 64, 65, 66, 67, 68, 69, 70, 71, 72, 73, 74, 75, 76, 77, 78, 79, 80, 81, 82, 83, 84, 85, 86, 87, 88, 89, 90, 91, 92, 93, 94, 95, 96, 97, 98, 99, 100, 101, 102, 103, 104] (by decide +kernel) (by decide +kernel)
set_option maxRecDepth 20000 in
theorem gX12_completes_X12_riskOf : GoodIn wsX12_completes (wsV RX12 300 RX12 yX12_riskOf wsX12_riskOf) := goodIn_app (goodIn_of _ (by decide +kernel)) ggX12_completes_X12_riskOf
set_option maxRecDepth 20000 in
theorem ggX12_laysStamps_X12_begin : GoodIn wsX12_laysStamps wsX12_begin := goodIn_r _ [8, 9, 10, 11, 12, 13, 64, 65, 66, 67, 68, 69, 70, 71, 72, 73, 74, 75, 76, 77, 78, 79, 80, 81, 82, 83, 84, 85, 86, 87, 88, 89, 90, 91, 92, 93, 94, 95, 96, 97, 98, 99, 100, 101, 102, 103, 104, 105, 106, 107, 108, 109, 110, 111] (by decide +kernel) (by decide +kernel)
set_option maxRecDepth 20000 in
theorem gX12_laysStamps_X12_begin : GoodIn wsX12_laysStamps (wsV RX12 288 RX12 yX12_begin wsX12_begin) := goodIn_app (goodIn_of _ (by decide +kernel)) ggX12_laysStamps_X12_begin
set_option maxRecDepth 20000 in
theorem ggX12_laysStamps_X12_completes : GoodIn wsX12_laysStamps wsX12_completes := goodIn_r _ [17, 2, 18, 19, 20, 21, 22, 13, 23, 11, 10, 24, 25, 26, 27, 7, 28, 29, 30, 31, 32, 33, 34, 35, 36, 37, 38, 39, 40, 41, 42, 43, 44, 45, 46, 47, 48, 49, 50, 51, 52, 53, 54, 12, 55, 56, 57, 58, 9, 14, 15, 16, 59, 60, 61, 62, 63, 64, 65, 66, 67, 68, 69, 70, 71, 72, 73, 74, 75, 76, 77, 78, 79, 80, 81, 82, 83, 84, 85, 86, 87, 88, 89, 90, 91, 92, 93, 94, 95, 96, 97, 98, 99, 100, 101, 102, 103, 104, 105, 106, 107, 108, 109, 110, 111] (by decide +kernel) (by decide +kernel)
set_option maxRecDepth 20000 in
theorem gX12_laysStamps_X12_completes : GoodIn wsX12_laysStamps (wsV RX12 421 RX12 yX12_completes wsX12_completes) := goodIn_app (goodIn_of _ (by decide +kernel)) ggX12_laysStamps_X12_completes
set_option maxRecDepth 20000 in
theorem ggX12_stamped_X12_whyNoStamps : GoodIn wsX12_stamped wsX12_whyNoStamps := goodIn_r _ [7, 8, 9, 10, 11, 12, 13, 14, 6, 15, 16, 17, 18, 19, 20, 21, 22, 23, 24, 25, 26, 27, 28, 29, 87, 88, 89, 90, 91, 92, 93, 94, 95, 96, 97, 98, 99, 100, 101, 102, 103, 104, 105, 106, 107, 108, 109, 110, 111, 112, 113, 114, 115, 116, 117, 118, 119, 120, 121, 122, 123, 124, 125, 126, 127, 128, 129, 130, 131, 132, 133, 134] (by decide +kernel) (by decide +kernel)
set_option maxRecDepth 20000 in
theorem gX12_stamped_X12_whyNoStamps : GoodIn wsX12_stamped (wsV RX12 424 RX12 yX12_whyNoStamps wsX12_whyNoStamps) := goodIn_app (goodIn_of _ (by decide +kernel)) ggX12_stamped_X12_whyNoStamps
set_option maxRecDepth 20000 in
theorem ggX12_stamped_X12_laysStamps : GoodIn wsX12_stamped wsX12_laysStamps := goodIn_r _ [33, 34, 2, 35, 36, 37, 38, 6, 39, 40, 41, 42, 43, 44, 45, 46, 47, 48, 49, 50, 51, 52, 9, 11, 12, 53, 54, 55, 56, 57, 58, 59, 60, 61, 25, 26, 27, 28, 29, 62, 63, 64, 65, 66, 67, 68, 69, 70, 71, 72, 73, 74, 75, 76, 77, 78, 79, 80, 81, 82, 83, 84, 85, 86, 87, 88, 89, 90, 91, 92, 93, 94, 95, 96, 97, 98, 99, 100, 101, 102, 103, 104, 105, 106, 107, 108, 109, 110, 111, 112, 113, 114, 115, 116, 117, 118, 119, 120, 121, 122, 123, 124, 125, 126, 127, 128, 129, 130, 131, 132, 133, 134] (by decide +kernel) (by decide +kernel)
set_option maxRecDepth 20000 in
theorem gX12_stamped_X12_laysStamps : GoodIn wsX12_stamped (wsV RX12 427 RX12 yX12_laysStamps wsX12_laysStamps) := goodIn_app (goodIn_of _ (by decide +kernel)) ggX12_stamped_X12_laysStamps
set_option maxRecDepth 20000 in
theorem ggX12_laysHad_X12_laysStamps : GoodIn wsX12_laysHad wsX12_laysStamps := goodIn_r _ [11, 2, 6, 12, 13, 14, 15, 10, 16, 17, 18, 19, 20, 21, 22, 23, 24, 25, 26, 27, 28, 29, 4, 5, 30, 31, 32, 33, 34, 35, 36, 37, 38, 39, 40, 41, 42, 43, 44, 45, 46, 47, 48, 49, 50, 51, 52, 53, 54, 55, 56, 57, 58, 59, 60, 61, 62, 63, 64, 65, 66, 67, 68, 69, 74, 75, 76, 77, 78, 79, 80, 81, 82, 83, 84, 85, 86, 87, 88, 89, 90, 91, 92, 93, 94, 95, 96, 97, 98, 99, 100, 101, 102, 103, 104, 105, 106, 107, 108, 109, 110, 111, 112, 113, 114, 115, 116, 117, 118, 119, 120, 121] (by decide +kernel) (by decide +kernel)
set_option maxRecDepth 20000 in
theorem gX12_laysHad_X12_laysStamps : GoodIn wsX12_laysHad (wsV RX12 427 RX12 yX12_laysStamps wsX12_laysStamps) := goodIn_app (goodIn_of _ (by decide +kernel)) ggX12_laysHad_X12_laysStamps
set_option maxRecDepth 20000 in
theorem ggX12_laysHad_X12_cellOf : GoodIn wsX12_laysHad wsX12_cellOf := goodIn_r _ [43, 44, 74, 75, 76, 77, 78, 79, 80, 81, 82, 83, 84, 85, 86, 87, 88, 89, 90, 91, 92, 93, 94, 95, 96, 97, 98, 99, 100, 101, 102, 103, 104, 105, 106, 107, 108, 109, 110, 111, 112, 113, 114, 115, 116, 117, 118, 119, 120, 121] (by decide +kernel) (by decide +kernel)
set_option maxRecDepth 20000 in
theorem gX12_laysHad_X12_cellOf : GoodIn wsX12_laysHad (wsV RX12 400 RX12 yX12_cellOf wsX12_cellOf) := goodIn_app (goodIn_of _ (by decide +kernel)) ggX12_laysHad_X12_cellOf
set_option maxRecDepth 20000 in
theorem ggX12_laysHad_X12_goesOn : GoodIn wsX12_laysHad wsX12_goesOn := goodIn_r _ [73, 30, 21, 19, 18, 6, 3, 1, 45, 46, 47, 10, 48, 49, 50, 51, 52, 53, 54, 55, 56, 39, 57, 58, 59, 60, 20, 61, 62, 63, 64, 17, 31, 32, 33, 34, 74, 75, 76, 77, 78, 79, 80, 81, 82, 83, 84, 85, 86, 87, 88, 89, 90, 91, 92, 93, 94, 95, 96, 97, 98, 99, 100, 101, 102, 103, 104, 105, 106, 107, 108, 109, 110, 111, 112, 113, 114, 115, 116, 117, 118, 119, 120, 121] (by decide +kernel) (by decide +kernel)
set_option maxRecDepth 20000 in
theorem gX12_laysHad_X12_goesOn : GoodIn wsX12_laysHad (wsV RX12 430 RX12 yX12_goesOn wsX12_goesOn) := goodIn_app (goodIn_of _ (by decide +kernel)) ggX12_laysHad_X12_goesOn
set_option maxRecDepth 20000 in
theorem ggX12_goesOn_X12_sideOf : GoodIn wsX12_goesOn wsX12_sideOf := goodIn_r _ [12, 2, 36, 37, 38, 39, 40, 41, 42, 43, 44, 45, 46, 47, 48, 49, 50, 51, 52, 53, 54, 55, 56, 57, 58, 59, 60, 61, 62, 63, 64, 65, 66, 67, 68, 69, 70, 71, 72, 73, 74, 75, 76, 77, 78, 79, 80, 81, 82, 83] (by decide +kernel) (by decide +kernel)
set_option maxRecDepth 20000 in
theorem gX12_goesOn_X12_sideOf : GoodIn wsX12_goesOn (wsV RX12 253 RX12 yX12_sideOf wsX12_sideOf) := goodIn_app (goodIn_of _ (by decide +kernel)) ggX12_goesOn_X12_sideOf
set_option maxRecDepth 20000 in
theorem ggX12_goesOn_X12_isBit : GoodIn wsX12_goesOn wsX12_isBit := goodIn_r _ [15] (by decide +kernel) (by decide +kernel)
set_option maxRecDepth 20000 in
theorem gX12_goesOn_X12_isBit : GoodIn wsX12_goesOn (va_wsS RX12 189 yX12_isBit wsX12_isBit) := goodIn_app (goodIn_of _ (by decide +kernel)) ggX12_goesOn_X12_isBit
set_option maxRecDepth 20000 in
theorem ggX12_goesOn_X12_noses : GoodIn wsX12_goesOn wsX12_noses := goodIn_r _ [19, 20, 21, 36, 37, 38, 39, 40, 41, 42, 43, 44, 45, 46, 47, 48, 49, 50, 51, 52, 53, 54, 55, 56, 57, 58, 59, 60, 61, 62, 63, 64, 65, 66, 67, 68, 69, 70, 71, 72, 73, 74, 75, 76, 77, 78, 79, 80, 81, 82, 83] (by decide +kernel) (by decide +kernel)
set_option maxRecDepth 20000 in
theorem gX12_goesOn_X12_noses : GoodIn wsX12_goesOn (wsV RX12 256 RX12 yX12_noses wsX12_noses) := goodIn_app (goodIn_of _ (by decide +kernel)) ggX12_goesOn_X12_noses
set_option maxRecDepth 20000 in
theorem ggX12_goesOn_X12_crosses : GoodIn wsX12_goesOn wsX12_crosses := goodIn_r _ [25, 2, 26, 1, 3, 4, 8, 9, 10, 11, 12, 27, 28, 29, 30, 31, 36, 37, 38, 39, 40, 41, 42, 43, 44, 45, 46, 47, 48, 49, 50, 51, 52, 53, 54, 55, 56, 57, 58, 59, 60, 61, 62, 63, 64, 65, 66, 67, 68, 69, 70, 71, 72, 73, 74, 75, 76, 77, 78, 79, 80, 81, 82, 83] (by decide +kernel) (by decide +kernel)
set_option maxRecDepth 20000 in
theorem gX12_goesOn_X12_crosses : GoodIn wsX12_goesOn (wsV RX12 278 RX12 yX12_crosses wsX12_crosses) := goodIn_app (goodIn_of _ (by decide +kernel)) ggX12_goesOn_X12_crosses
set_option maxRecDepth 20000 in
theorem ggX12_goesOn_X12_kindOf : GoodIn wsX12_goesOn wsX12_kindOf := goodIn_r _ [35, 2, 3, 4, 36, 37, 38, 39, 40, 41, 42, 43, 44, 45, 46, 47, 48, 49, 50, 51, 52, 53, 54, 55, 56, 57, 58, 59, 60, 61, 62, 63, 64, 65, 66, 67, 68, 69, 70, 71, 72, 73, 74, 75, 76, 77, 78, 79, 80, 81, 82, 83] (by decide +kernel) (by decide +kernel)
set_option maxRecDepth 20000 in
theorem gX12_goesOn_X12_kindOf : GoodIn wsX12_goesOn (wsV RX12 415 RX12 yX12_kindOf wsX12_kindOf) := goodIn_app (goodIn_of _ (by decide +kernel)) ggX12_goesOn_X12_kindOf
set_option maxRecDepth 20000 in
theorem ggX12_had_X12_whyNoStamps : GoodIn wsX12_had wsX12_whyNoStamps := goodIn_r _ [8, 9, 2, 10, 11, 12, 13, 14, 7, 15, 16, 17, 18, 19, 20, 21, 22, 23, 24, 25, 26, 27, 28, 29, 97, 98, 99, 100, 101, 102, 103, 104, 105, 106, 107, 108, 109, 110, 111, 112, 113, 114, 115, 116, 117, 118, 119, 120, 121, 122, 123, 124, 125, 126, 127, 128, 129, 130, 131, 132, 133, 134, 135, 136, 137, 138, 139, 140, 141, 142, 143, 144] (by decide +kernel) (by decide +kernel)
set_option maxRecDepth 20000 in
theorem gX12_had_X12_whyNoStamps : GoodIn wsX12_had (wsV RX12 424 RX12 yX12_whyNoStamps wsX12_whyNoStamps) := goodIn_app (goodIn_of _ (by decide +kernel)) ggX12_had_X12_whyNoStamps
set_option maxRecDepth 20000 in
theorem ggX12_had_X12_laysHad : GoodIn wsX12_had wsX12_laysHad := goodIn_r _ [33, 3, 34, 35, 2, 11, 36, 37, 38, 39, 7, 40, 41, 42, 43, 44, 45, 46, 47, 48, 49, 50, 51, 52, 53, 54, 55, 56, 57, 58, 12, 59, 60, 61, 62, 63, 64, 65, 66, 67, 25, 26, 27, 28, 29, 68, 69, 70, 71, 72, 73, 74, 75, 76, 77, 78, 79, 80, 81, 82, 83, 84, 85, 86, 87, 88, 89, 90, 91, 92, 93, 94, 95, 96, 97, 98, 99, 100, 101, 102, 103, 104, 105, 106, 107, 108, 109, 110, 111, 112, 113, 114, 115, 116, 117, 118, 119, 120, 121, 122, 123, 124, 125, 126, 127, 128, 129, 130, 131, 132, 133, 134, 135, 136, 137, 138, 139, 140, 141, 142, 143, 144] (by decide +kernel) (by decide +kernel)
set_option maxRecDepth 20000 in
theorem gX12_had_X12_laysHad : GoodIn wsX12_had (wsV RX12 434 RX12 yX12_laysHad wsX12_laysHad) := goodIn_app (goodIn_of _ (by decide +kernel)) ggX12_had_X12_laysHad
set_option maxRecDepth 20000 in
theorem ggX12_sure_X12_in : GoodIn wsX12_sure wsX12_in := goodIn_r _ [8] (by decide +kernel) (by decide +kernel)
set_option maxRecDepth 20000 in
theorem gX12_sure_X12_in : GoodIn wsX12_sure (va_wsS RX12 93 yX12_in wsX12_in) := goodIn_app (goodIn_of _ (by decide +kernel)) ggX12_sure_X12_in
set_option maxRecDepth 20000 in
theorem ggX12_sure_X12_whyNoStamps : GoodIn wsX12_sure wsX12_whyNoStamps := goodIn_r _ [12, 13, 14, 15, 16, 17, 18, 19, 7, 20, 21, 5, 6, 8, 22, 23, 24, 25, 26, 27, 28, 29, 30, 31, 87, 88, 89, 90, 91, 92, 93, 94, 95, 96, 97, 98, 99, 100, 101, 102, 103, 104, 105, 106, 107, 108, 109, 110, 111, 112, 113, 114, 115, 116, 117, 118, 119, 120, 121, 122, 123, 124, 125, 126, 127, 128, 129, 130, 131, 132, 133, 134] (by decide +kernel) (by decide +kernel)
set_option maxRecDepth 20000 in
theorem gX12_sure_X12_whyNoStamps : GoodIn wsX12_sure (wsV RX12 424 RX12 yX12_whyNoStamps wsX12_whyNoStamps) := goodIn_app (goodIn_of _ (by decide +kernel)) ggX12_sure_X12_whyNoStamps
set_option maxRecDepth 20000 in
theorem ggX12_sure_X12_laysStamps : GoodIn wsX12_sure wsX12_laysStamps := goodIn_r _ [35, 36, 2, 37, 38, 39, 40, 7, 41, 42, 43, 44, 45, 46, 47, 48, 49, 50, 51, 52, 3, 4, 14, 16, 17, 53, 54, 55, 56, 57, 58, 59, 60, 61, 27, 28, 29, 30, 31, 62, 63, 64, 65, 66, 67, 68, 69, 70, 71, 72, 73, 74, 75, 76, 77, 78, 79, 80, 81, 82, 83, 84, 85, 86, 87, 88, 89, 90, 91, 92, 93, 94, 95, 96, 97, 98, 99, 100, 101, 102, 103, 104, 105, 106, 107, 108, 109, 110, 111, 112, 113, 114, 115, 116, 117, 118, 119, 120, 121, 122, 123, 124, 125, 126, 127, 128, 129, 130, 131, 132, 133, 134] (by decide +kernel) (by decide +kernel)
set_option maxRecDepth 20000 in
theorem gX12_sure_X12_laysStamps : GoodIn wsX12_sure (wsV RX12 427 RX12 yX12_laysStamps wsX12_laysStamps) := goodIn_app (goodIn_of _ (by decide +kernel)) ggX12_sure_X12_laysStamps
set_option maxRecDepth 20000 in
theorem ggX12_dared_X12_whyNoStamps : GoodIn wsX12_dared wsX12_whyNoStamps := goodIn_r _ [8, 9, 10, 11, 12, 13, 14, 15, 7, 16, 17, 18, 19, 20, 21, 22, 23, 24, 25, 26, 27, 28, 29, 30, 87, 88, 89, 90, 91, 92, 93, 94, 95, 96, 97, 98, 99, 100, 101, 102, 103, 104, 105, 106, 107, 108, 109, 110, 111, 112, 113, 114, 115, 116, 117, 118, 119, 120, 121, 122, 123, 124, 125, 126, 127, 128, 129, 130, 131, 132, 133, 134] (by decide +kernel) (by decide +kernel)
set_option maxRecDepth 20000 in
theorem gX12_dared_X12_whyNoStamps : GoodIn wsX12_dared (wsV RX12 424 RX12 yX12_whyNoStamps wsX12_whyNoStamps) := goodIn_app (goodIn_of _ (by decide +kernel)) ggX12_dared_X12_whyNoStamps
set_option maxRecDepth 20000 in
theorem ggX12_dared_X12_laysStamps : GoodIn wsX12_dared wsX12_laysStamps := goodIn_r _ [34, 35, 2, 36, 37, 38, 39, 7, 40, 41, 42, 43, 44, 45, 46, 47, 48, 49, 3, 50, 51, 52, 10, 12, 13, 53, 54, 55, 56, 57, 58, 59, 60, 61, 26, 27, 28, 29, 30, 62, 63, 64, 65, 66, 67, 68, 69, 70, 71, 72, 73, 74, 75, 76, 77, 78, 79, 80, 81, 82, 83, 84, 85, 86, 87, 88, 89, 90, 91, 92, 93, 94, 95, 96, 97, 98, 99, 100, 101, 102, 103, 104, 105, 106, 107, 108, 109, 110, 111, 112, 113, 114, 115, 116, 117, 118, 119, 120, 121, 122, 123, 124, 125, 126, 127, 128, 129, 130, 131, 132, 133, 134] (by decide +kernel) (by decide +kernel)
set_option maxRecDepth 20000 in
theorem gX12_dared_X12_laysStamps : GoodIn wsX12_dared (wsV RX12 427 RX12 yX12_laysStamps wsX12_laysStamps) := goodIn_app (goodIn_of _ (by decide +kernel)) ggX12_dared_X12_laysStamps
set_option maxRecDepth 20000 in
theorem ggX12_alone_X12_isPost : GoodIn wsX12_alone wsX12_isPost := goodIn_r _ [8, 9, 10, 11, 7, 12, 13, 14, 15, 16, 17, 18, 19, 20, 21, 22, 23, 24, 25, 26, 27, 28, 29, 30, 31, 32, 33, 34, 35, 36, 37, 38, 39, 40, 41, 42, 43, 44, 45, 46, 47, 48, 49, 50, 51, 52, 53, 54, 55, 56, 57, 58, 59, 60] (by decide +kernel) (by decide +kernel)
set_option maxRecDepth 20000 in
theorem gX12_alone_X12_isPost : GoodIn wsX12_alone (wsV RX12 320 RX12 yX12_isPost wsX12_isPost) := goodIn_app (goodIn_of _ (by decide +kernel)) ggX12_alone_X12_isPost
set_option maxRecDepth 20000 in
theorem ggX12_alone_X12_in : GoodIn wsX12_alone wsX12_in := goodIn_r _ [12] (by decide +kernel) (by decide +kernel)
set_option maxRecDepth 20000 in
theorem gX12_alone_X12_in : GoodIn wsX12_alone (va_wsS RX12 93 yX12_in wsX12_in) := goodIn_app (goodIn_of _ (by decide +kernel)) ggX12_alone_X12_in
set_option maxRecDepth 20000 in
theorem ggX12_surestBy_X12_seeksNow : GoodIn wsX12_surestBy wsX12_seeksNow := goodIn_r _ [7, 8, 9, 10, 11, 6, 12, 13, 14, 15, 16, 17, 18, 19, 20, 21, 22, 23, 24, 25, 26, 27, 28, 29, 30, 31, 32, 33, 34, 35, 36, 37, 38, 39, 1, 40, 41, 42, 43, 44, 45, 46, 47, 48, 49, 50, 51, 52, 53, 54, 55, 56, 57, 58, 59, 60, 61, 62, 63, 64, 65, 66, 67, 68, 69, 70, 71, 72, 73, 74, 75, 76, 77, 78, 79, 80, 81, 82, 83, 84, 85, 86, 87, 88, 89, 90, 91, 92, 93, 94, 95, 96, 97, 98, 99, 100, 101, 102, 103, 104, 105, 106, 107, 108, 109, 2, 110, 111, 112, 113, 114, 115, 116, 117, 118, 119, 120, 121, 122, 123, 124, 125, 126, 127, 128, 129, 130, 131, 132, 133, 134, 135, 136, 137, 138, 139, 140, 141, 142, 143, 144, 145, 146, 147, 148, 149, 150, 151, 152, 153, 154, 155, 156, 157, 158, 159, 160, 161, 162, 163, 164, 165, 166, 167, 168, 169, 170, 171, 172, 173] (by decide +kernel) (by decide +kernel)
set_option maxRecDepth 20000 in
theorem gX12_surestBy_X12_seeksNow : GoodIn wsX12_surestBy (wsV RX12 376 RX12 yX12_seeksNow wsX12_seeksNow) := goodIn_app (goodIn_of _ (by decide +kernel)) ggX12_surestBy_X12_seeksNow
set_option maxRecDepth 20000 in
theorem ggX12_worth_X12_isPerson : GoodIn wsX12_worth wsX12_isPerson := goodIn_r _ [7, 8, 9, 10, 6, 11, 138, 139, 140, 141, 142, 143, 144, 145, 146, 147, 148, 149, 150, 151, 152, 153, 154, 155, 156, 157, 158, 159, 160, 161, 162, 163, 164, 165, 166, 167, 168, 169, 170, 171, 172, 173, 174, 175, 176, 177, 178, 179, 180, 181, 182, 183, 184, 185] (by decide +kernel) (by decide +kernel)
set_option maxRecDepth 20000 in
theorem gX12_worth_X12_isPerson : GoodIn wsX12_worth (wsV RX12 312 RX12 yX12_isPerson wsX12_isPerson) := goodIn_app (goodIn_of _ (by decide +kernel)) ggX12_worth_X12_isPerson
set_option maxRecDepth 20000 in
theorem ggX12_worth_X12_in : GoodIn wsX12_worth wsX12_in := goodIn_r _ [11] (by decide +kernel) (by decide +kernel)
set_option maxRecDepth 20000 in
theorem gX12_worth_X12_in : GoodIn wsX12_worth (va_wsS RX12 93 yX12_in wsX12_in) := goodIn_app (goodIn_of _ (by decide +kernel)) ggX12_worth_X12_in
set_option maxRecDepth 20000 in
theorem ggX12_worth_X12_surestBy : GoodIn wsX12_worth wsX12_surestBy := goodIn_r _ [15, 16, 17, 18, 19, 20, 6, 21, 22, 23, 24, 25, 26, 8, 27, 28, 29, 30, 31, 32, 33, 34, 35, 36, 37, 38, 39, 40, 41, 42, 43, 44, 45, 46, 47, 48, 49, 50, 51, 52, 53, 54, 55, 56, 57, 58, 59, 60, 61, 62, 63, 64, 65, 66, 67, 68, 69, 70, 71, 72, 73, 74, 75, 76, 77, 78, 79, 80, 81, 82, 83, 84, 85, 86, 87, 88, 89, 2, 90, 91, 92, 93, 94, 95, 96, 97, 98, 99, 100, 101, 102, 103, 104, 105, 106, 107, 108, 109, 110, 111, 112, 113, 114, 115, 116, 117, 118, 119, 120, 121, 122, 123, 124, 125, 126, 127, 128, 129, 130, 131, 132, 133, 134, 135, 136, 137, 138, 139, 140, 141, 142, 143, 144, 145, 146, 147, 148, 149, 150, 151, 152, 153, 154, 155, 156, 157, 158, 159, 160, 161, 162, 163, 164, 165, 166, 167, 168, 169, 170, 171, 172, 173, 174, 175, 176, 177, 178, 179, 180, 181, 182, 183, 184, 185] (by decide +kernel) (by decide +kernel)
set_option maxRecDepth 20000 in
theorem gX12_worth_X12_surestBy : GoodIn wsX12_worth (wsV RX12 439 RX12 yX12_surestBy wsX12_surestBy) := goodIn_app (goodIn_of _ (by decide +kernel)) ggX12_worth_X12_surestBy
set_option maxRecDepth 20000 in
theorem ggX12_whom_X12_isFamily : GoodIn wsX12_whom wsX12_isFamily := goodIn_r _ [8, 9, 139, 140, 141, 142, 143, 144, 145, 146, 147, 148, 149, 150, 151, 152, 153, 154, 155, 156, 157, 158, 159, 160, 161, 162, 163, 164, 165, 166, 167, 168, 169, 170, 171, 172, 173, 174, 175, 176, 177, 178, 179, 180, 181, 182, 183, 184, 185, 186] (by decide +kernel) (by decide +kernel)
set_option maxRecDepth 20000 in
theorem gX12_whom_X12_isFamily : GoodIn wsX12_whom (wsV RX12 323 RX12 yX12_isFamily wsX12_isFamily) := goodIn_app (goodIn_of _ (by decide +kernel)) ggX12_whom_X12_isFamily
set_option maxRecDepth 20000 in
theorem ggX12_whom_X12_in : GoodIn wsX12_whom wsX12_in := goodIn_r _ [12] (by decide +kernel) (by decide +kernel)
set_option maxRecDepth 20000 in
theorem gX12_whom_X12_in : GoodIn wsX12_whom (va_wsS RX12 93 yX12_in wsX12_in) := goodIn_app (goodIn_of _ (by decide +kernel)) ggX12_whom_X12_in
set_option maxRecDepth 20000 in
theorem ggX12_whom_X12_surestBy : GoodIn wsX12_whom wsX12_surestBy := goodIn_r _ [16, 17, 18, 19, 20, 21, 7, 22, 23, 24, 25, 26, 27, 3, 28, 29, 30, 31, 32, 33, 34, 35, 36, 37, 38, 39, 40, 41, 42, 43, 44, 45, 46, 47, 48, 49, 50, 51, 52, 53, 54, 55, 56, 57, 58, 59, 60, 61, 62, 63, 64, 65, 66, 67, 68, 69, 70, 71, 72, 73, 74, 75, 76, 77, 78, 79, 80, 81, 82, 83, 84, 85, 86, 87, 88, 89, 90, 2, 91, 92, 93, 94, 95, 96, 97, 98, 99, 100, 101, 102, 103, 104, 105, 106, 107, 108, 109, 110, 111, 112, 113, 114, 115, 116, 117, 118, 119, 120, 121, 122, 123, 124, 125, 126, 127, 128, 129, 130, 131, 132, 133, 134, 135, 136, 137, 138, 139, 140, 141, 142, 143, 144, 145, 146, 147, 148, 149, 150, 151, 152, 153, 154, 155, 156, 157, 158, 159, 160, 161, 162, 163, 164, 165, 166, 167, 168, 169, 170, 171, 172, 173, 174, 175, 176, 177, 178, 179, 180, 181, 182, 183, 184, 185, 186] (by decide +kernel) (by decide +kernel)
set_option maxRecDepth 20000 in
theorem gX12_whom_X12_surestBy : GoodIn wsX12_whom (wsV RX12 439 RX12 yX12_surestBy wsX12_surestBy) := goodIn_app (goodIn_of _ (by decide +kernel)) ggX12_whom_X12_surestBy
set_option maxRecDepth 20000 in
theorem ggX12_isHope_X12_seeksNow : GoodIn wsX12_isHope wsX12_seeksNow := goodIn_r _ [6, 7, 8, 9, 10, 5, 11, 12, 13, 14, 15, 16, 17, 18, 19, 20, 21, 22, 23, 24, 25, 26, 27, 28, 29, 30, 31, 32, 33, 34, 35, 36, 37, 38, 39, 40, 41, 42, 43, 44, 45, 46, 47, 48, 49, 50, 51, 52, 53, 54, 55, 56, 57, 58, 59, 60, 61, 62, 63, 64, 65, 66, 67, 68, 69, 70, 71, 72, 73, 74, 75, 76, 77, 78, 79, 80, 81, 82, 83, 84, 85, 86, 87, 88, 89, 90, 91, 92, 93, 94, 95, 96, 97, 98, 99, 100, 101, 102, 103, 104, 105, 106, 107, 108, 109, 1, 110, 111, 112, 113, 114, 115, 116, 117, 118, 119, 120, 121, 122, 123, 124, 125, 126, 127, 128, 129, 130, 131, 132, 133, 134, 135, 136, 137, 138, 139, 140, 141, 142, 143, 144, 145, 146, 147, 148, 149, 150, 151, 152, 153, 154, 155, 156, 157, 158, 159, 160, 161, 162, 163, 164, 165, 166, 167, 168, 169, 170, 171, 172, 173] (by decide +kernel) (by decide +kernel)
set_option maxRecDepth 20000 in
theorem gX12_isHope_X12_seeksNow : GoodIn wsX12_isHope (wsV RX12 376 RX12 yX12_seeksNow wsX12_seeksNow) := goodIn_app (goodIn_of _ (by decide +kernel)) ggX12_isHope_X12_seeksNow
set_option maxRecDepth 20000 in
theorem ggX12_blur_X12_isPost : GoodIn wsX12_blur wsX12_isPost := goodIn_r _ [7, 8, 9, 10, 6, 11, 138, 139, 140, 141, 142, 143, 144, 145, 146, 147, 148, 149, 150, 151, 152, 153, 154, 155, 156, 157, 158, 159, 160, 161, 162, 163, 164, 165, 166, 167, 168, 169, 170, 171, 172, 173, 174, 175, 176, 177, 178, 179, 180, 181, 182, 183, 184, 185] (by decide +kernel) (by decide +kernel)
set_option maxRecDepth 20000 in
theorem gX12_blur_X12_isPost : GoodIn wsX12_blur (wsV RX12 320 RX12 yX12_isPost wsX12_isPost) := goodIn_app (goodIn_of _ (by decide +kernel)) ggX12_blur_X12_isPost
set_option maxRecDepth 20000 in
theorem ggX12_blur_X12_isHope : GoodIn wsX12_blur wsX12_isHope := goodIn_r _ [15, 16, 17, 18, 19, 6, 20, 21, 22, 23, 24, 25, 8, 26, 27, 28, 29, 30, 31, 32, 33, 34, 35, 36, 37, 38, 39, 40, 41, 42, 43, 44, 45, 46, 47, 48, 49, 50, 51, 52, 2, 53, 54, 55, 56, 57, 58, 59, 60, 61, 62, 63, 64, 65, 66, 67, 68, 69, 70, 71, 72, 73, 74, 75, 76, 77, 78, 79, 80, 81, 82, 83, 84, 85, 86, 87, 88, 89, 90, 91, 92, 93, 94, 95, 96, 97, 98, 99, 100, 101, 102, 103, 104, 105, 106, 107, 108, 109, 110, 111, 112, 113, 114, 115, 116, 117, 118, 119, 120, 121, 122, 123, 124, 125, 126, 127, 128, 129, 130, 131, 132, 133, 134, 135, 136, 137, 138, 139, 140, 141, 142, 143, 144, 145, 146, 147, 148, 149, 150, 151, 152, 153, 154, 155, 156, 157, 158, 159, 160, 161, 162, 163, 164, 165, 166, 167, 168, 169, 170, 171, 172, 173, 174, 175, 176, 177, 178, 179, 180, 181, 182, 183, 184, 185] (by decide +kernel) (by decide +kernel)
set_option maxRecDepth 20000 in
theorem gX12_blur_X12_isHope : GoodIn wsX12_blur (wsV RX12 442 RX12 yX12_isHope wsX12_isHope) := goodIn_app (goodIn_of _ (by decide +kernel)) ggX12_blur_X12_isHope
set_option maxRecDepth 20000 in
theorem ggX12_looks_X12_isPost : GoodIn wsX12_looks wsX12_isPost := goodIn_r _ [7, 8, 9, 10, 6, 11, 138, 139, 140, 141, 142, 143, 144, 145, 146, 147, 148, 149, 150, 151, 152, 153, 154, 155, 156, 157, 158, 159, 160, 161, 162, 163, 164, 165, 166, 167, 168, 169, 170, 171, 172, 173, 174, 175, 176, 177, 178, 179, 180, 181, 182, 183, 184, 185] (by decide +kernel) (by decide +kernel)
set_option maxRecDepth 20000 in
theorem gX12_looks_X12_isPost : GoodIn wsX12_looks (wsV RX12 320 RX12 yX12_isPost wsX12_isPost) := goodIn_app (goodIn_of _ (by decide +kernel)) ggX12_looks_X12_isPost
set_option maxRecDepth 20000 in
theorem ggX12_looks_X12_isHope : GoodIn wsX12_looks wsX12_isHope := goodIn_r _ [15, 16, 17, 18, 19, 6, 20, 21, 22, 23, 24, 25, 8, 26, 27, 28, 29, 30, 31, 32, 33, 34, 35, 36, 37, 38, 39, 40, 41, 42, 43, 44, 45, 46, 47, 48, 49, 50, 51, 52, 2, 53, 54, 55, 56, 57, 58, 59, 60, 61, 62, 63, 64, 65, 66, 67, 68, 69, 70, 71, 72, 73, 74, 75, 76, 77, 78, 79, 80, 81, 82, 83, 84, 85, 86, 87, 88, 89, 90, 91, 92, 93, 94, 95, 96, 97, 98, 99, 100, 101, 102, 103, 104, 105, 106, 107, 108, 109, 110, 111, 112, 113, 114, 115, 116, 117, 118, 119, 120, 121, 122, 123, 124, 125, 126, 127, 128, 129, 130, 131, 132, 133, 134, 135, 136, 137, 138, 139, 140, 141, 142, 143, 144, 145, 146, 147, 148, 149, 150, 151, 152, 153, 154, 155, 156, 157, 158, 159, 160, 161, 162, 163, 164, 165, 166, 167, 168, 169, 170, 171, 172, 173, 174, 175, 176, 177, 178, 179, 180, 181, 182, 183, 184, 185] (by decide +kernel) (by decide +kernel)
set_option maxRecDepth 20000 in
theorem gX12_looks_X12_isHope : GoodIn wsX12_looks (wsV RX12 442 RX12 yX12_isHope wsX12_isHope) := goodIn_app (goodIn_of _ (by decide +kernel)) ggX12_looks_X12_isHope
set_option maxRecDepth 20000 in
theorem ggX12_draws_X12_lays : GoodIn wsX12_draws wsX12_lays := goodIn_r _ [14, 15, 16, 17, 18, 19, 13, 20, 21, 22, 23, 24, 25, 26, 27, 28, 29, 30, 31, 2, 32, 33, 34, 35, 36, 37, 38, 39, 40, 41, 42, 43, 44, 45, 46, 47, 48, 49, 50, 51, 52, 53, 54, 55, 56, 57, 58, 59, 60, 61, 62, 63, 64, 65, 66, 67, 68, 69, 70, 71, 72, 73, 74, 75, 76, 77, 78, 79, 80, 81, 82, 83, 84, 85, 86, 87, 88, 89, 90, 91, 92, 93, 94, 95, 96, 97, 98, 99, 100, 101, 102, 103, 104, 105, 106] (by decide +kernel) (by decide +kernel)
set_option maxRecDepth 20000 in
theorem gX12_draws_X12_lays : GoodIn wsX12_draws (wsV RX12 317 RX12 yX12_lays wsX12_lays) := goodIn_app (goodIn_of _ (by decide +kernel)) ggX12_draws_X12_lays
set_option maxRecDepth 20000 in
theorem ggX12_draws_X12_riskOf : GoodIn wsX12_draws wsX12_riskOf := goodIn_r _ [40, 41, 42, 59, 60, 61, 62, 63, 64, 65, 66, 67, 68, 69, 70, 71, 72, 73, 74, 75, 76, 77, 78, 79, 80, 81, 82, 83, 84, 85, 86, 87, 88, 89, 90, 91, 92, 93, 94, 95, 96, 97, 98, 99, 100, 101, 102, 103, 104, 105, 106] (by decide +kernel) (by decide +kernel)
set_option maxRecDepth 20000 in
theorem gX12_draws_X12_riskOf : GoodIn wsX12_draws (wsV RX12 300 RX12 yX12_riskOf wsX12_riskOf) := goodIn_app (goodIn_of _ (by decide +kernel)) ggX12_draws_X12_riskOf
set_option maxRecDepth 20000 in
theorem ggX12_draws_X12_does : GoodIn wsX12_draws wsX12_does := goodIn_r _ [46, 31, 47, 48, 49, 13, 50, 2, 15, 30, 29, 51, 52, 53, 54, 55, 56, 57, 58, 28, 59, 60, 61, 62, 63, 64, 65, 66, 67, 68, 69, 70, 71, 72, 73, 74, 75, 76, 77, 78, 79, 80, 81, 82, 83, 84, 85, 86, 87, 88, 89, 90, 91, 92, 93, 94, 95, 96, 97, 98, 99, 100, 101, 102, 103, 104, 105, 106] (by decide +kernel) (by decide +kernel)
set_option maxRecDepth 20000 in
theorem gX12_draws_X12_does : GoodIn wsX12_draws (wsV RX12 303 RX12 yX12_does wsX12_does) := goodIn_app (goodIn_of _ (by decide +kernel)) ggX12_draws_X12_does
set_option maxRecDepth 20000 in
theorem ggX12_drawn_X12_isFamily : GoodIn wsX12_drawn wsX12_isFamily := goodIn_r _ [8, 9, 155, 156, 157, 158, 159, 160, 161, 162, 163, 164, 165, 166, 167, 168, 169, 170, 171, 172, 173, 174, 175, 176, 177, 178, 179, 180, 181, 182, 183, 184, 185, 186, 187, 188, 189, 190, 191, 192, 193, 194, 195, 196, 197, 198, 199, 200, 201, 202] (by decide +kernel) (by decide +kernel)
set_option maxRecDepth 20000 in
theorem gX12_drawn_X12_isFamily : GoodIn wsX12_drawn (wsV RX12 323 RX12 yX12_isFamily wsX12_isFamily) := goodIn_app (goodIn_of _ (by decide +kernel)) ggX12_drawn_X12_isFamily
set_option maxRecDepth 20000 in
theorem ggX12_drawn_X12_in : GoodIn wsX12_drawn wsX12_in := goodIn_r _ [12] (by decide +kernel) (by decide +kernel)
set_option maxRecDepth 20000 in
theorem gX12_drawn_X12_in : GoodIn wsX12_drawn (va_wsS RX12 93 yX12_in wsX12_in) := goodIn_app (goodIn_of _ (by decide +kernel)) ggX12_drawn_X12_in
set_option maxRecDepth 20000 in
theorem ggX12_drawn_X12_isRow : GoodIn wsX12_drawn wsX12_isRow := goodIn_r _ [16, 17, 18, 19, 20, 7, 21, 22, 23, 24, 25, 26, 27, 28, 29, 30, 31, 32, 33, 34, 35, 36, 37, 38, 39, 40, 41, 42, 43, 44, 45, 46, 47, 48, 49, 50, 51, 52, 53, 54, 55, 56, 57, 58, 59, 60, 61, 62, 63, 64, 65, 66, 67, 68, 69, 70, 71, 72, 73, 74, 75, 76, 77, 78, 79, 80, 81, 82, 83, 84, 85, 86, 87, 88, 89, 90, 91, 92, 93, 94, 95, 96, 97, 98, 99, 100, 101, 102, 103, 104, 105, 106, 107, 108, 109, 110, 111, 112, 113, 114, 115, 116, 117, 118, 119, 120, 121, 122, 123, 124, 125, 126, 127, 128, 129, 130, 131, 132, 133, 134, 135, 136, 137, 138, 139, 140, 141, 142, 143, 144, 145, 146, 155, 156, 157, 158, 159, 160, 161, 162, 163, 164, 165, 166, 167, 168, 169, 170, 171, 172, 173, 174, 175, 176, 177, 178, 179, 180, 181, 182, 183, 184, 185, 186, 187, 188, 189, 190, 191, 192, 193, 194, 195, 196, 197, 198, 199, 200, 201, 202] (by decide +kernel) (by decide +kernel)
set_option maxRecDepth 20000 in
theorem gX12_drawn_X12_isRow : GoodIn wsX12_drawn (wsV RX12 382 RX12 yX12_isRow wsX12_isRow) := goodIn_app (goodIn_of _ (by decide +kernel)) ggX12_drawn_X12_isRow
set_option maxRecDepth 20000 in
theorem ggX12_drawn_X12_draws : GoodIn wsX12_drawn wsX12_draws := goodIn_r _ [150, 145, 44, 3, 146, 151, 152, 153, 154, 92, 23, 24, 25, 7, 26, 27, 28, 29, 30, 31, 32, 33, 34, 35, 36, 37, 38, 39, 40, 41, 42, 43, 45, 46, 47, 48, 49, 50, 51, 52, 53, 54, 55, 56, 57, 58, 59, 60, 61, 62, 63, 64, 65, 66, 67, 68, 69, 70, 71, 155, 156, 157, 158, 159, 160, 161, 162, 163, 164, 165, 166, 167, 168, 169, 170, 171, 172, 173, 174, 175, 176, 177, 178, 179, 180, 181, 182, 183, 184, 185, 186, 187, 188, 189, 190, 191, 192, 193, 194, 195, 196, 197, 198, 199, 200, 201, 202] (by decide +kernel) (by decide +kernel)
set_option maxRecDepth 20000 in
theorem gX12_drawn_X12_draws : GoodIn wsX12_drawn (wsV RX12 458 RX12 yX12_draws wsX12_draws) := goodIn_app (goodIn_of _ (by decide +kernel)) ggX12_drawn_X12_draws
set_option maxRecDepth 20000 in
theorem ggX12_luck_X12_isFamily : GoodIn wsX12_luck wsX12_isFamily := goodIn_r _ [8, 9, 156, 157, 158, 159, 160, 161, 162, 163, 164, 165, 166, 167, 168, 169, 170, 171, 172, 173, 174, 175, 176, 177, 178, 179, 180, 181, 182, 183, 184, 185, 186, 187, 188, 189, 190, 191, 192, 193, 194, 195, 196, 197, 198, 199, 200, 201, 202, 203] (by decide +kernel) (by decide +kernel)
set_option maxRecDepth 20000 in
theorem gX12_luck_X12_isFamily : GoodIn wsX12_luck (wsV RX12 323 RX12 yX12_isFamily wsX12_isFamily) := goodIn_app (goodIn_of _ (by decide +kernel)) ggX12_luck_X12_isFamily
set_option maxRecDepth 20000 in
theorem ggX12_luck_X12_in : GoodIn wsX12_luck wsX12_in := goodIn_r _ [12] (by decide +kernel) (by decide +kernel)
set_option maxRecDepth 20000 in
theorem gX12_luck_X12_in : GoodIn wsX12_luck (va_wsS RX12 93 yX12_in wsX12_in) := goodIn_app (goodIn_of _ (by decide +kernel)) ggX12_luck_X12_in
set_option maxRecDepth 20000 in
theorem ggX12_luck_X12_isRow : GoodIn wsX12_luck wsX12_isRow := goodIn_r _ [16, 17, 18, 19, 20, 7, 21, 22, 23, 24, 25, 26, 27, 28, 29, 30, 31, 32, 33, 34, 35, 36, 37, 38, 39, 40, 41, 42, 43, 44, 45, 46, 47, 48, 49, 50, 51, 52, 53, 54, 55, 56, 57, 58, 59, 60, 61, 62, 63, 64, 65, 66, 67, 68, 69, 70, 71, 72, 73, 74, 75, 76, 77, 78, 79, 80, 81, 82, 83, 84, 85, 86, 87, 88, 89, 90, 91, 92, 93, 94, 95, 96, 97, 98, 99, 100, 101, 102, 103, 104, 105, 106, 107, 108, 109, 110, 111, 112, 113, 114, 115, 116, 117, 118, 119, 120, 121, 122, 123, 124, 125, 126, 127, 128, 129, 130, 131, 132, 133, 134, 135, 136, 137, 138, 139, 140, 141, 142, 143, 144, 145, 146, 156, 157, 158, 159, 160, 161, 162, 163, 164, 165, 166, 167, 168, 169, 170, 171, 172, 173, 174, 175, 176, 177, 178, 179, 180, 181, 182, 183, 184, 185, 186, 187, 188, 189, 190, 191, 192, 193, 194, 195, 196, 197, 198, 199, 200, 201, 202, 203] (by decide +kernel) (by decide +kernel)
set_option maxRecDepth 20000 in
theorem gX12_luck_X12_isRow : GoodIn wsX12_luck (wsV RX12 382 RX12 yX12_isRow wsX12_isRow) := goodIn_app (goodIn_of _ (by decide +kernel)) ggX12_luck_X12_isRow
set_option maxRecDepth 20000 in
theorem ggX12_luck_X12_draws : GoodIn wsX12_luck wsX12_draws := goodIn_r _ [150, 145, 44, 151, 146, 152, 153, 154, 155, 92, 23, 24, 25, 7, 26, 27, 28, 29, 30, 31, 32, 33, 34, 35, 36, 37, 38, 39, 40, 41, 42, 43, 45, 46, 47, 48, 49, 50, 51, 52, 53, 54, 55, 56, 57, 58, 59, 60, 61, 62, 63, 64, 65, 66, 67, 68, 69, 70, 71, 156, 157, 158, 159, 160, 161, 162, 163, 164, 165, 166, 167, 168, 169, 170, 171, 172, 173, 174, 175, 176, 177, 178, 179, 180, 181, 182, 183, 184, 185, 186, 187, 188, 189, 190, 191, 192, 193, 194, 195, 196, 197, 198, 199, 200, 201, 202, 203] (by decide +kernel) (by decide +kernel)
set_option maxRecDepth 20000 in
theorem gX12_luck_X12_draws : GoodIn wsX12_luck (wsV RX12 458 RX12 yX12_draws wsX12_draws) := goodIn_app (goodIn_of _ (by decide +kernel)) ggX12_luck_X12_draws
set_option maxRecDepth 20000 in
theorem ggX12_grow_X12_isPerson : GoodIn wsX12_grow wsX12_isPerson := goodIn_r _ [8, 9, 10, 11, 7, 12, 13, 14, 15, 16, 17, 18, 19, 20, 21, 22, 23, 24, 25, 26, 27, 28, 29, 30, 31, 32, 33, 34, 35, 36, 37, 38, 39, 40, 41, 42, 43, 44, 45, 46, 47, 48, 49, 50, 51, 52, 53, 54, 55, 56, 57, 58, 59, 60] (by decide +kernel) (by decide +kernel)
set_option maxRecDepth 20000 in
theorem gX12_grow_X12_isPerson : GoodIn wsX12_grow (wsV RX12 312 RX12 yX12_isPerson wsX12_isPerson) := goodIn_app (goodIn_of _ (by decide +kernel)) ggX12_grow_X12_isPerson
set_option maxRecDepth 20000 in
theorem ggX12_grow_X12_in : GoodIn wsX12_grow wsX12_in := goodIn_r _ [12] (by decide +kernel) (by decide +kernel)
set_option maxRecDepth 20000 in
theorem gX12_grow_X12_in : GoodIn wsX12_grow (va_wsS RX12 93 yX12_in wsX12_in) := goodIn_app (goodIn_of _ (by decide +kernel)) ggX12_grow_X12_in
set_option maxRecDepth 20000 in
theorem ggX12_guard_X12_isPost : GoodIn wsX12_guard wsX12_isPost := goodIn_r _ [8, 9, 10, 11, 7, 12, 13, 14, 15, 16, 17, 18, 19, 20, 21, 22, 23, 24, 25, 26, 27, 28, 29, 30, 31, 32, 33, 34, 35, 36, 37, 38, 39, 40, 41, 42, 43, 44, 45, 46, 47, 48, 49, 50, 51, 52, 53, 54, 55, 56, 57, 58, 59, 60] (by decide +kernel) (by decide +kernel)
set_option maxRecDepth 20000 in
theorem gX12_guard_X12_isPost : GoodIn wsX12_guard (wsV RX12 320 RX12 yX12_isPost wsX12_isPost) := goodIn_app (goodIn_of _ (by decide +kernel)) ggX12_guard_X12_isPost
set_option maxRecDepth 20000 in
theorem ggX12_guard_X12_in : GoodIn wsX12_guard wsX12_in := goodIn_r _ [12] (by decide +kernel) (by decide +kernel)
set_option maxRecDepth 20000 in
theorem gX12_guard_X12_in : GoodIn wsX12_guard (va_wsS RX12 93 yX12_in wsX12_in) := goodIn_app (goodIn_of _ (by decide +kernel)) ggX12_guard_X12_in
set_option maxRecDepth 20000 in
theorem ggX12_stay_X12_isPerson : GoodIn wsX12_stay wsX12_isPerson := goodIn_r _ [7, 2, 8, 9, 6, 10, 11, 12, 13, 14, 15, 16, 17, 18, 19, 20, 21, 22, 23, 24, 25, 26, 27, 28, 29, 30, 31, 32, 33, 34, 35, 36, 37, 38, 39, 40, 41, 42, 43, 44, 45, 46, 47, 48, 49, 50, 51, 52, 53, 54, 55, 56, 57, 58] (by decide +kernel) (by decide +kernel)
set_option maxRecDepth 20000 in
theorem gX12_stay_X12_isPerson : GoodIn wsX12_stay (wsV RX12 312 RX12 yX12_isPerson wsX12_isPerson) := goodIn_app (goodIn_of _ (by decide +kernel)) ggX12_stay_X12_isPerson
set_option maxRecDepth 20000 in
theorem ggX12_stay_X12_in : GoodIn wsX12_stay wsX12_in := goodIn_r _ [10] (by decide +kernel) (by decide +kernel)
set_option maxRecDepth 20000 in
theorem gX12_stay_X12_in : GoodIn wsX12_stay (va_wsS RX12 93 yX12_in wsX12_in) := goodIn_app (goodIn_of _ (by decide +kernel)) ggX12_stay_X12_in
set_option maxRecDepth 20000 in
theorem ggX12_count_X12_sizeOf : GoodIn wsX12_count wsX12_sizeOf := goodIn_r _ [9] (by decide +kernel) (by decide +kernel)
set_option maxRecDepth 20000 in
theorem gX12_count_X12_sizeOf : GoodIn wsX12_count (va_wsS RX12 397 yX12_sizeOf wsX12_sizeOf) := goodIn_app (goodIn_of _ (by decide +kernel)) ggX12_count_X12_sizeOf
set_option maxRecDepth 20000 in
theorem ggX12_image_X12_in : GoodIn wsX12_image wsX12_in := goodIn_r _ [7] (by decide +kernel) (by decide +kernel)
set_option maxRecDepth 20000 in
theorem gX12_image_X12_in : GoodIn wsX12_image (va_wsS RX12 93 yX12_in wsX12_in) := goodIn_app (goodIn_of _ (by decide +kernel)) ggX12_image_X12_in
set_option maxRecDepth 20000 in
theorem ggX12_image_X12_copyFamily : GoodIn wsX12_image wsX12_copyFamily := goodIn_r _ [11, 12, 13, 14, 15, 16, 17, 18, 19, 6, 20, 21, 22, 23, 24, 25, 26, 27, 28, 29, 30, 31, 32, 33, 34, 35, 36, 37, 38, 39, 40, 41, 42, 43, 44, 45, 46, 47, 48, 49, 50, 51, 52, 53, 54, 55, 56, 57, 58, 59, 60, 61, 62, 63, 64, 65, 66, 67, 68] (by decide +kernel) (by decide +kernel)
set_option maxRecDepth 20000 in
theorem gX12_image_X12_copyFamily : GoodIn wsX12_image (wsV RX12 231 RX12 yX12_copyFamily wsX12_copyFamily) := goodIn_app (goodIn_of _ (by decide +kernel)) ggX12_image_X12_copyFamily
set_option maxRecDepth 20000 in
theorem ggX12_back_X12_in : GoodIn wsX12_back wsX12_in := goodIn_r _ [7] (by decide +kernel) (by decide +kernel)
set_option maxRecDepth 20000 in
theorem gX12_back_X12_in : GoodIn wsX12_back (va_wsS RX12 93 yX12_in wsX12_in) := goodIn_app (goodIn_of _ (by decide +kernel)) ggX12_back_X12_in
set_option maxRecDepth 20000 in
theorem ggX12_back_X12_copyFamily : GoodIn wsX12_back wsX12_copyFamily := goodIn_r _ [11, 12, 13, 14, 15, 16, 17, 18, 19, 6, 20, 21, 22, 23, 24, 25, 26, 27, 28, 29, 30, 31, 32, 33, 34, 35, 36, 37, 38, 39, 40, 41, 42, 43, 44, 45, 46, 47, 48, 49, 50, 51, 52, 53, 54, 55, 56, 57, 58, 59, 60, 61, 62, 63, 64, 65, 66, 67, 68] (by decide +kernel) (by decide +kernel)
set_option maxRecDepth 20000 in
theorem gX12_back_X12_copyFamily : GoodIn wsX12_back (wsV RX12 231 RX12 yX12_copyFamily wsX12_copyFamily) := goodIn_app (goodIn_of _ (by decide +kernel)) ggX12_back_X12_copyFamily
set_option maxRecDepth 20000 in
theorem ggJ0_length_8abf5_J0_coder_7d493 : GoodIn wsJ0_length_8abf5 wsJ0_coder_7d493 := goodIn_r _ [6, 7, 8] (by decide +kernel) (by decide +kernel)
set_option maxRecDepth 20000 in
theorem gJ0_length_8abf5_J0_coder_7d493 : GoodIn wsJ0_length_8abf5 (wsV RJ0 335 RJ0 yJ0_coder_7d493 wsJ0_coder_7d493) := goodIn_app (goodIn_of _ (by decide +kernel)) ggJ0_length_8abf5_J0_coder_7d493
set_option maxRecDepth 20000 in
theorem ggJ0_charAt_5068e_J0_isLatin1_aae02 : GoodIn wsJ0_charAt_5068e wsJ0_isLatin1_aae02 := goodIn_r _ [6, 7, 8] (by decide +kernel) (by decide +kernel)
set_option maxRecDepth 20000 in
theorem gJ0_charAt_5068e_J0_isLatin1_aae02 : GoodIn wsJ0_charAt_5068e (wsV RJ0 492 RJ0 yJ0_isLatin1_aae02 wsJ0_isLatin1_aae02) := goodIn_app (goodIn_of _ (by decide +kernel)) ggJ0_charAt_5068e_J0_isLatin1_aae02
set_option maxRecDepth 20000 in
theorem ggJ0_charAt_5068e_J1_charAt_3b067 : GoodIn wsJ0_charAt_5068e wsJ1_charAt_3b067 := goodIn_r _ [12, 13, 14, 5, 15, 16, 17, 18, 19, 20] (by decide +kernel) (by decide +kernel)
set_option maxRecDepth 20000 in
theorem gJ0_charAt_5068e_J1_charAt_3b067 : GoodIn wsJ0_charAt_5068e (va_wsS RJ0 495 yJ1_charAt_3b067 wsJ1_charAt_3b067) := goodIn_app (goodIn_of _ (by decide +kernel)) ggJ0_charAt_5068e_J1_charAt_3b067
set_option maxRecDepth 20000 in
theorem ggJ0_charAt_5068e_J2_charAt_3b067 : GoodIn wsJ0_charAt_5068e wsJ2_charAt_3b067 := goodIn_r _ [24, 25, 26, 23, 27, 28, 29, 30, 31, 14, 5, 15, 16, 17, 18, 19, 20, 32, 33, 34, 35, 36, 37] (by decide +kernel) (by decide +kernel)
set_option maxRecDepth 20000 in
theorem gJ0_charAt_5068e_J2_charAt_3b067 : GoodIn wsJ0_charAt_5068e (va_wsS RJ0 498 yJ2_charAt_3b067 wsJ2_charAt_3b067) := goodIn_app (goodIn_of _ (by decide +kernel)) ggJ0_charAt_5068e_J2_charAt_3b067
set_option maxRecDepth 20000 in
theorem ggJ0_checkIndex_df160_J3_checkIndex_8e157 : GoodIn wsJ0_checkIndex_df160 wsJ3_checkIndex_8e157 := goodIn_r _ [5] (by decide +kernel) (by decide +kernel)
set_option maxRecDepth 20000 in
theorem gJ0_checkIndex_df160_J3_checkIndex_8e157 : GoodIn wsJ0_checkIndex_df160 (va_wsS RJ0 1059 yJ3_checkIndex_8e157 wsJ3_checkIndex_8e157) := goodIn_app (goodIn_of _ (by decide +kernel)) ggJ0_checkIndex_df160_J3_checkIndex_8e157
set_option maxRecDepth 20000 in
theorem ggJ1_charAt_3b067_J0_checkIndex_df160 : GoodIn wsJ1_charAt_3b067 wsJ0_checkIndex_df160 := goodIn_r _ [4, 5, 6, 7, 8, 9] (by decide +kernel) (by decide +kernel)
set_option maxRecDepth 20000 in
theorem gJ1_charAt_3b067_J0_checkIndex_df160 : GoodIn wsJ1_charAt_3b067 (va_wsS RJ1 9 yJ0_checkIndex_df160 wsJ0_checkIndex_df160) := goodIn_app (goodIn_of _ (by decide +kernel)) ggJ1_charAt_3b067_J0_checkIndex_df160
set_option maxRecDepth 20000 in
theorem ggJ2_getChar_3b067_J2_length_9d52b : GoodIn wsJ2_getChar_3b067 wsJ2_length_9d52b := goodIn_r _ [7] (by decide +kernel) (by decide +kernel)
set_option maxRecDepth 20000 in
theorem gJ2_getChar_3b067_J2_length_9d52b : GoodIn wsJ2_getChar_3b067 (va_wsS RJ2 48 yJ2_length_9d52b wsJ2_length_9d52b) := goodIn_app (goodIn_of _ (by decide +kernel)) ggJ2_getChar_3b067_J2_length_9d52b
set_option maxRecDepth 20000 in
theorem ggJ2_charAt_3b067_J2_checkIndex_2214a : GoodIn wsJ2_charAt_3b067 wsJ2_checkIndex_2214a := goodIn_r _ [4, 5, 6, 3, 7, 8, 9, 10, 11, 12, 13, 14, 15, 16] (by decide +kernel) (by decide +kernel)
set_option maxRecDepth 20000 in
theorem gJ2_charAt_3b067_J2_checkIndex_2214a : GoodIn wsJ2_charAt_3b067 (va_wsS RJ2 67 yJ2_checkIndex_2214a wsJ2_checkIndex_2214a) := goodIn_app (goodIn_of _ (by decide +kernel)) ggJ2_charAt_3b067_J2_checkIndex_2214a
set_option maxRecDepth 20000 in
theorem ggJ2_charAt_3b067_J2_getChar_3b067 : GoodIn wsJ2_charAt_3b067 wsJ2_getChar_3b067 := goodIn_r _ [19, 20, 21, 22, 5, 6, 3, 7] (by decide +kernel) (by decide +kernel)
set_option maxRecDepth 20000 in
theorem gJ2_charAt_3b067_J2_getChar_3b067 : GoodIn wsJ2_charAt_3b067 (va_wsS RJ2 71 yJ2_getChar_3b067 wsJ2_getChar_3b067) := goodIn_app (goodIn_of _ (by decide +kernel)) ggJ2_charAt_3b067_J2_getChar_3b067
set_option maxRecDepth 20000 in
theorem ggJ2_checkIndex_2214a_J2_length_9d52b : GoodIn wsJ2_checkIndex_2214a wsJ2_length_9d52b := goodIn_r _ [4] (by decide +kernel) (by decide +kernel)
set_option maxRecDepth 20000 in
theorem gJ2_checkIndex_2214a_J2_length_9d52b : GoodIn wsJ2_checkIndex_2214a (va_wsS RJ2 48 yJ2_length_9d52b wsJ2_length_9d52b) := goodIn_app (goodIn_of _ (by decide +kernel)) ggJ2_checkIndex_2214a_J2_length_9d52b
set_option maxRecDepth 20000 in
theorem ggJ2_checkIndex_2214a_J0_checkIndex_df160 : GoodIn wsJ2_checkIndex_2214a wsJ0_checkIndex_df160 := goodIn_r _ [8, 9, 10, 11, 12, 13] (by decide +kernel) (by decide +kernel)
set_option maxRecDepth 20000 in
theorem gJ2_checkIndex_2214a_J0_checkIndex_df160 : GoodIn wsJ2_checkIndex_2214a (va_wsS RJ2 414 yJ0_checkIndex_df160 wsJ0_checkIndex_df160) := goodIn_app (goodIn_of _ (by decide +kernel)) ggJ2_checkIndex_2214a_J0_checkIndex_df160
