theorem ggL_law_X11_status : GoodIn wsL_law wsX11_status := (goodIn_app (a := [.code yX11_status cX11_status 1 (some .int)]) ggL_law_X11_status_c (goodIn_app ggL_law_X11_status_1 ggL_law_X11_status_2))
set_option maxRecDepth 20000 in
theorem gL_law_X11_status : GoodIn wsL_law (wsV RL 114 RX11 yX11_status wsX11_status) := goodIn_app (goodIn_of _ (by decide +kernel)) ggL_law_X11_status
