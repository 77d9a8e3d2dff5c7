set_option maxRecDepth 20000 in
theorem gL_read_X5_total : GoodIn wsL_read (wsV RL 9 RX5 yX5_total wsX5_total) := goodIn_app (goodIn_of _ (by decide +kernel)) ggL_read_X5_total
set_option maxRecDepth 20000 in
theorem gL_read_X5_box : GoodIn wsL_read (wsV RL 15 RX5 yX5_box wsX5_box) := goodIn_app (goodIn_of _ (by decide +kernel)) ggL_read_X5_box
set_option maxRecDepth 20000 in
theorem gL_read_X5_end : GoodIn wsL_read (wsV RL 18 RX5 yX5_end wsX5_end) := goodIn_app (goodIn_of _ (by decide +kernel)) ggL_read_X5_end
set_option maxRecDepth 20000 in
theorem gL_by_L_overlap : GoodIn wsL_by (va_wsS RL 22 yL_overlap wsL_overlap) := goodIn_app (goodIn_of _ (by decide +kernel)) ggL_by_L_overlap
set_option maxRecDepth 20000 in
theorem gL_isBelow_L_isAcross : GoodIn wsL_isBelow (va_wsS RL 28 yL_isAcross wsL_isAcross) := goodIn_app (goodIn_of _ (by decide +kernel)) ggL_isBelow_L_isAcross
set_option maxRecDepth 20000 in
theorem gL_drawn_X5_total : GoodIn wsL_drawn (wsV RL 9 RX5 yX5_total wsX5_total) := goodIn_app (goodIn_of _ (by decide +kernel)) ggL_drawn_X5_total
set_option maxRecDepth 20000 in
theorem gL_drawn_L_volume : GoodIn wsL_drawn (va_wsS RL 32 yL_volume wsL_volume) := goodIn_app (goodIn_of _ (by decide +kernel)) ggL_drawn_L_volume
set_option maxRecDepth 20000 in
theorem gL_drawn_X5_drawn : GoodIn wsL_drawn (wsV RL 36 RX5 yX5_drawn wsX5_drawn) := goodIn_app (goodIn_of _ (by decide +kernel)) ggL_drawn_X5_drawn
set_option maxRecDepth 20000 in
theorem gL_drawn_X5_box : GoodIn wsL_drawn (wsV RL 15 RX5 yX5_box wsX5_box) := goodIn_app (goodIn_of _ (by decide +kernel)) ggL_drawn_X5_box
set_option maxRecDepth 20000 in
theorem gL_isBox_X5_box : GoodIn wsL_isBox (wsV RL 15 RX5 yX5_box wsX5_box) := goodIn_app (goodIn_of _ (by decide +kernel)) ggL_isBox_X5_box
set_option maxRecDepth 20000 in
theorem gL_isBox_L_isBelow : GoodIn wsL_isBox (va_wsS RL 39 yL_isBelow wsL_isBelow) := goodIn_app (goodIn_of _ (by decide +kernel)) ggL_isBox_L_isBelow
set_option maxRecDepth 20000 in
theorem gL_isBox_X5_pair : GoodIn wsL_isBox (wsV RL 42 RX5 yX5_pair wsX5_pair) := goodIn_app (goodIn_of _ (by decide +kernel)) ggL_isBox_X5_pair
set_option maxRecDepth 20000 in
theorem gL_isBox_L_by : GoodIn wsL_isBox (va_wsS RL 46 yL_by wsL_by) := goodIn_app (goodIn_of _ (by decide +kernel)) ggL_isBox_L_by
set_option maxRecDepth 20000 in
theorem gL_isBox_L_ring : GoodIn wsL_isBox (va_wsS RL 50 yL_ring wsL_ring) := goodIn_app (goodIn_of _ (by decide +kernel)) ggL_isBox_L_ring
set_option maxRecDepth 20000 in
theorem gL_isBox_X5_ofBox : GoodIn wsL_isBox (wsV RL 53 RX5 yX5_ofBox wsX5_ofBox) := goodIn_app (goodIn_of _ (by decide +kernel)) ggL_isBox_X5_ofBox
set_option maxRecDepth 20000 in
theorem gL_isBox_L_volume : GoodIn wsL_isBox (va_wsS RL 32 yL_volume wsL_volume) := goodIn_app (goodIn_of _ (by decide +kernel)) ggL_isBox_L_volume
set_option maxRecDepth 20000 in
theorem gL_isBox_L_ones : GoodIn wsL_isBox (va_wsS RL 56 yL_ones wsL_ones) := goodIn_app (goodIn_of _ (by decide +kernel)) ggL_isBox_L_ones
set_option maxRecDepth 20000 in
theorem gL_isSo_L_read : GoodIn wsL_isSo (va_wsS RL 59 yL_read wsL_read) := goodIn_app (goodIn_of _ (by decide +kernel)) ggL_isSo_L_read
set_option maxRecDepth 20000 in
theorem gL_isSo_L_by : GoodIn wsL_isSo (va_wsS RL 46 yL_by wsL_by) := goodIn_app (goodIn_of _ (by decide +kernel)) ggL_isSo_L_by
set_option maxRecDepth 20000 in
theorem gL_isSo_L_isAcross : GoodIn wsL_isSo (va_wsS RL 28 yL_isAcross wsL_isAcross) := goodIn_app (goodIn_of _ (by decide +kernel)) ggL_isSo_L_isAcross
set_option maxRecDepth 20000 in
theorem gL_isSo_L_overlap : GoodIn wsL_isSo (va_wsS RL 22 yL_overlap wsL_overlap) := goodIn_app (goodIn_of _ (by decide +kernel)) ggL_isSo_L_overlap
set_option maxRecDepth 20000 in
theorem gL_isSo_L_isBox : GoodIn wsL_isSo (va_wsS RL 63 yL_isBox wsL_isBox) := goodIn_app (goodIn_of _ (by decide +kernel)) ggL_isSo_L_isBox
set_option maxRecDepth 20000 in
theorem gL_isSo_L_ring : GoodIn wsL_isSo (va_wsS RL 50 yL_ring wsL_ring) := goodIn_app (goodIn_of _ (by decide +kernel)) ggL_isSo_L_ring
set_option maxRecDepth 20000 in
theorem gL_isSo_X5_box : GoodIn wsL_isSo (wsV RL 15 RX5 yX5_box wsX5_box) := goodIn_app (goodIn_of _ (by decide +kernel)) ggL_isSo_X5_box
set_option maxRecDepth 20000 in
theorem gL_isSo_X5_ofBox : GoodIn wsL_isSo (wsV RL 53 RX5 yX5_ofBox wsX5_ofBox) := goodIn_app (goodIn_of _ (by decide +kernel)) ggL_isSo_X5_ofBox
set_option maxRecDepth 20000 in
theorem gL_isSo_L_ones : GoodIn wsL_isSo (va_wsS RL 56 yL_ones wsL_ones) := goodIn_app (goodIn_of _ (by decide +kernel)) ggL_isSo_L_ones
set_option maxRecDepth 20000 in
theorem gL_isSo_L_volume : GoodIn wsL_isSo (va_wsS RL 32 yL_volume wsL_volume) := goodIn_app (goodIn_of _ (by decide +kernel)) ggL_isSo_L_volume
set_option maxRecDepth 20000 in
theorem gL_isSo_L_drawn : GoodIn wsL_isSo (va_wsS RL 67 yL_drawn wsL_drawn) := goodIn_app (goodIn_of _ (by decide +kernel)) ggL_isSo_L_drawn
set_option maxRecDepth 20000 in
theorem gL_isSo_X5_waitsFor : GoodIn wsL_isSo (wsV RL 70 RX5 yX5_waitsFor wsX5_waitsFor) := goodIn_app (goodIn_of _ (by decide +kernel)) ggL_isSo_X5_waitsFor
set_option maxRecDepth 20000 in
theorem gL_isSo_X5_drawnWithout : GoodIn wsL_isSo (wsV RL 73 RX5 yX5_drawnWithout wsX5_drawnWithout) := goodIn_app (goodIn_of _ (by decide +kernel)) ggL_isSo_X5_drawnWithout
set_option maxRecDepth 20000 in
theorem gL_isSo_X5_total : GoodIn wsL_isSo (wsV RL 9 RX5 yX5_total wsX5_total) := goodIn_app (goodIn_of _ (by decide +kernel)) ggL_isSo_X5_total
set_option maxRecDepth 20000 in
theorem gL_act_X5_total : GoodIn wsL_act (wsV RL 9 RX5 yX5_total wsX5_total) := goodIn_app (goodIn_of _ (by decide +kernel)) ggL_act_X5_total
set_option maxRecDepth 20000 in
theorem gL_act_L_low : GoodIn wsL_act (va_wsS RL 76 yL_low wsL_low) := goodIn_app (goodIn_of _ (by decide +kernel)) ggL_act_L_low
set_option maxRecDepth 20000 in
theorem gL_act_X5_box : GoodIn wsL_act (wsV RL 15 RX5 yX5_box wsX5_box) := goodIn_app (goodIn_of _ (by decide +kernel)) ggL_act_X5_box
set_option maxRecDepth 20000 in
theorem gL_act_X5_remove : GoodIn wsL_act (wsV RL 79 RX5 yX5_remove wsX5_remove) := goodIn_app (goodIn_of _ (by decide +kernel)) ggL_act_X5_remove
set_option maxRecDepth 20000 in
theorem gL_act_X5_add : GoodIn wsL_act (wsV RL 82 RX5 yX5_add wsX5_add) := goodIn_app (goodIn_of _ (by decide +kernel)) ggL_act_X5_add
set_option maxRecDepth 20000 in
theorem gL_act_X5_move : GoodIn wsL_act (wsV RL 86 RX5 yX5_move wsX5_move) := goodIn_app (goodIn_of _ (by decide +kernel)) ggL_act_X5_move
set_option maxRecDepth 20000 in
theorem gL_act_X5_fall : GoodIn wsL_act (wsV RL 90 RX5 yX5_fall wsX5_fall) := goodIn_app (goodIn_of _ (by decide +kernel)) ggL_act_X5_fall
set_option maxRecDepth 20000 in
theorem gL_act_X5_split : GoodIn wsL_act (wsV RL 93 RX5 yX5_split wsX5_split) := goodIn_app (goodIn_of _ (by decide +kernel)) ggL_act_X5_split
set_option maxRecDepth 20000 in
theorem gL_act_X5_breakRing : GoodIn wsL_act (wsV RL 96 RX5 yX5_breakRing wsX5_breakRing) := goodIn_app (goodIn_of _ (by decide +kernel)) ggL_act_X5_breakRing
set_option maxRecDepth 20000 in
theorem gL_act_X5_turn : GoodIn wsL_act (wsV RL 100 RX5 yX5_turn wsX5_turn) := goodIn_app (goodIn_of _ (by decide +kernel)) ggL_act_X5_turn
set_option maxRecDepth 20000 in
theorem gL_act_X5_set : GoodIn wsL_act (wsV RL 103 RX5 yX5_set wsX5_set) := goodIn_app (goodIn_of _ (by decide +kernel)) ggL_act_X5_set
