set_option maxRecDepth 20000 in
theorem gL_law_X4_elected : GoodIn wsL_law (wsV RL 60 RX4 yX4_elected wsX4_elected) := goodIn_app (goodIn_of _ (by decide +kernel)) ggL_law_X4_elected
set_option maxRecDepth 20000 in
theorem gL_law_X5_elected : GoodIn wsL_law (wsV RL 63 RX5 yX5_elected wsX5_elected) := goodIn_app (goodIn_of _ (by decide +kernel)) ggL_law_X5_elected
set_option maxRecDepth 20000 in
theorem gL_law_X4_keep : GoodIn wsL_law (wsV RL 64 RX4 yX4_keep wsX4_keep) := goodIn_app (goodIn_of _ (by decide +kernel)) ggL_law_X4_keep
set_option maxRecDepth 20000 in
theorem gL_law_X5_keep : GoodIn wsL_law (wsV RL 67 RX5 yX5_keep wsX5_keep) := goodIn_app (goodIn_of _ (by decide +kernel)) ggL_law_X5_keep
set_option maxRecDepth 20000 in
theorem gL_law_X4_lies : GoodIn wsL_law (wsV RL 68 RX4 yX4_lies wsX4_lies) := goodIn_app (goodIn_of _ (by decide +kernel)) ggL_law_X4_lies
set_option maxRecDepth 20000 in
theorem gL_law_X5_lies : GoodIn wsL_law (wsV RL 72 RX5 yX5_lies wsX5_lies) := goodIn_app (goodIn_of _ (by decide +kernel)) ggL_law_X5_lies
set_option maxRecDepth 20000 in
theorem gL_law_X4_sheet : GoodIn wsL_law (wsV RL 73 RX4 yX4_sheet wsX4_sheet) := goodIn_app (goodIn_of _ (by decide +kernel)) ggL_law_X4_sheet
set_option maxRecDepth 20000 in
theorem gL_law_X5_sheet : GoodIn wsL_law (wsV RL 76 RX5 yX5_sheet wsX5_sheet) := goodIn_app (goodIn_of _ (by decide +kernel)) ggL_law_X5_sheet
set_option maxRecDepth 20000 in
theorem gL_law_X4_forge : GoodIn wsL_law (wsV RL 77 RX4 yX4_forge wsX4_forge) := goodIn_app (goodIn_of _ (by decide +kernel)) ggL_law_X4_forge
set_option maxRecDepth 20000 in
theorem gL_law_X5_forge : GoodIn wsL_law (wsV RL 81 RX5 yX5_forge wsX5_forge) := goodIn_app (goodIn_of _ (by decide +kernel)) ggL_law_X5_forge
set_option maxRecDepth 20000 in
theorem gL_law_X4_check : GoodIn wsL_law (wsV RL 82 RX4 yX4_check wsX4_check) := goodIn_app (goodIn_of _ (by decide +kernel)) ggL_law_X4_check
set_option maxRecDepth 20000 in
theorem gL_law_X5_check : GoodIn wsL_law (wsV RL 86 RX5 yX5_check wsX5_check) := goodIn_app (goodIn_of _ (by decide +kernel)) ggL_law_X5_check
set_option maxRecDepth 20000 in
theorem gL_law_X4_prefer : GoodIn wsL_law (wsV RL 87 RX4 yX4_prefer wsX4_prefer) := goodIn_app (goodIn_of _ (by decide +kernel)) ggL_law_X4_prefer
set_option maxRecDepth 20000 in
theorem gL_law_X5_prefer : GoodIn wsL_law (wsV RL 90 RX5 yX5_prefer wsX5_prefer) := goodIn_app (goodIn_of _ (by decide +kernel)) ggL_law_X5_prefer
set_option maxRecDepth 20000 in
theorem gL_law_X4_winner : GoodIn wsL_law (wsV RL 91 RX4 yX4_winner wsX4_winner) := goodIn_app (goodIn_of _ (by decide +kernel)) ggL_law_X4_winner
set_option maxRecDepth 20000 in
theorem gL_law_X5_winner : GoodIn wsL_law (wsV RL 94 RX5 yX5_winner wsX5_winner) := goodIn_app (goodIn_of _ (by decide +kernel)) ggL_law_X5_winner
set_option maxRecDepth 20000 in
theorem gL_law_X4_leads : GoodIn wsL_law (wsV RL 95 RX4 yX4_leads wsX4_leads) := goodIn_app (goodIn_of _ (by decide +kernel)) ggL_law_X4_leads
set_option maxRecDepth 20000 in
theorem gL_law_X5_leads : GoodIn wsL_law (wsV RL 98 RX5 yX5_leads wsX5_leads) := goodIn_app (goodIn_of _ (by decide +kernel)) ggL_law_X5_leads
set_option maxRecDepth 20000 in
theorem gL_law_X4_points : GoodIn wsL_law (wsV RL 99 RX4 yX4_points wsX4_points) := goodIn_app (goodIn_of _ (by decide +kernel)) ggL_law_X4_points
set_option maxRecDepth 20000 in
theorem gL_law_X5_points : GoodIn wsL_law (wsV RL 102 RX5 yX5_points wsX5_points) := goodIn_app (goodIn_of _ (by decide +kernel)) ggL_law_X5_points
set_option maxRecDepth 20000 in
theorem gL_law_X4_told : GoodIn wsL_law (wsV RL 103 RX4 yX4_told wsX4_told) := goodIn_app (goodIn_of _ (by decide +kernel)) ggL_law_X4_told
set_option maxRecDepth 20000 in
theorem gL_law_X5_told : GoodIn wsL_law (wsV RL 106 RX5 yX5_told wsX5_told) := goodIn_app (goodIn_of _ (by decide +kernel)) ggL_law_X5_told
