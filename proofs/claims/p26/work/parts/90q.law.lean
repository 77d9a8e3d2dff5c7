set_option maxRecDepth 20000 in
theorem gL_law_X5_init : GoodIn wsL_law (wsX5_init) := ggL_law_X5_init
set_option maxRecDepth 20000 in
theorem gL_law_L_isSo : GoodIn wsL_law (va_wsS RL 107 yL_isSo wsL_isSo) := goodIn_app (goodIn_of _ (by decide +kernel)) ggL_law_L_isSo
set_option maxRecDepth 20000 in
theorem gL_law_X5_breaks : GoodIn wsL_law (wsV RL 111 RX5 yX5_breaks wsX5_breaks) := goodIn_app (goodIn_of _ (by decide +kernel)) ggL_law_X5_breaks
set_option maxRecDepth 20000 in
theorem gL_law_X5_breakRing : GoodIn wsL_law (wsV RL 96 RX5 yX5_breakRing wsX5_breakRing) := goodIn_app (goodIn_of _ (by decide +kernel)) ggL_law_X5_breakRing
set_option maxRecDepth 20000 in
theorem gL_law_X5_turn : GoodIn wsL_law (wsV RL 100 RX5 yX5_turn wsX5_turn) := goodIn_app (goodIn_of _ (by decide +kernel)) ggL_law_X5_turn
set_option maxRecDepth 20000 in
theorem gL_law_L_cell : GoodIn wsL_law (va_wsS RL 114 yL_cell wsL_cell) := goodIn_app (goodIn_of _ (by decide +kernel)) ggL_law_L_cell
set_option maxRecDepth 20000 in
theorem gL_law_X5_add : GoodIn wsL_law (wsV RL 82 RX5 yX5_add wsX5_add) := goodIn_app (goodIn_of _ (by decide +kernel)) ggL_law_X5_add
set_option maxRecDepth 20000 in
theorem gL_law_X5_pair : GoodIn wsL_law (wsV RL 42 RX5 yX5_pair wsX5_pair) := goodIn_app (goodIn_of _ (by decide +kernel)) ggL_law_X5_pair
set_option maxRecDepth 20000 in
theorem gL_law_X5_total : GoodIn wsL_law (wsV RL 9 RX5 yX5_total wsX5_total) := goodIn_app (goodIn_of _ (by decide +kernel)) ggL_law_X5_total
set_option maxRecDepth 20000 in
theorem gL_law_X5_waitsFor : GoodIn wsL_law (wsV RL 70 RX5 yX5_waitsFor wsX5_waitsFor) := goodIn_app (goodIn_of _ (by decide +kernel)) ggL_law_X5_waitsFor
set_option maxRecDepth 20000 in
theorem gL_law_X5_drawnWithout : GoodIn wsL_law (wsV RL 73 RX5 yX5_drawnWithout wsX5_drawnWithout) := goodIn_app (goodIn_of _ (by decide +kernel)) ggL_law_X5_drawnWithout
set_option maxRecDepth 20000 in
theorem gL_law_L_act : GoodIn wsL_law (va_wsS RL 118 yL_act wsL_act) := goodIn_app (goodIn_of _ (by decide +kernel)) ggL_law_L_act
