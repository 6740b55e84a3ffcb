set_option maxRecDepth 100000 in
theorem okX0_init : zokM zZ kX0_init = true := by decide +kernel
set_option maxRecDepth 100000 in
theorem okX0_note : zokM zZ kX0_note = true := by decide +kernel
set_option maxRecDepth 100000 in
theorem okX0_backTo : zokM zZ kX0_backTo = true := by decide +kernel
set_option maxRecDepth 100000 in
theorem okX1_init : zokM zZ kX1_init = true := by decide +kernel
set_option maxRecDepth 100000 in
theorem okX1_clear : zokM zZ kX1_clear = true := by decide +kernel
set_option maxRecDepth 100000 in
theorem okX1_openPeriod : zokM zZ kX1_openPeriod = true := by decide +kernel
set_option maxRecDepth 100000 in
theorem okX1_weekdayOf : zokM zZ kX1_weekdayOf = true := by decide +kernel
set_option maxRecDepth 100000 in
theorem okX1_allDays : zokM zZ kX1_allDays = true := by decide +kernel
set_option maxRecDepth 100000 in
theorem okX1_feastNamed : zokM zZ kX1_feastNamed = true := by decide +kernel
set_option maxRecDepth 100000 in
theorem okX1_areMates : zokM zZ kX1_areMates = true := by decide +kernel
set_option maxRecDepth 100000 in
theorem okX1_leader : zokM zZ kX1_leader = true := by decide +kernel
set_option maxRecDepth 100000 in
theorem okX1_jointDays : zokM zZ kX1_jointDays = true := by decide +kernel
set_option maxRecDepth 100000 in
theorem okX1_trainsOn : zokM zZ kX1_trainsOn = true := by decide +kernel
set_option maxRecDepth 100000 in
theorem okX2_init : zokM zZ kX2_init = true := by decide +kernel
set_option maxRecDepth 100000 in
theorem okX2_tokensOf : zokM zZ kX2_tokensOf = true := by decide +kernel
set_option maxRecDepth 100000 in
theorem okX2_work : zokM zZ kX2_work = true := by decide +kernel
set_option maxRecDepth 100000 in
theorem okX2_fewest : zokM zZ kX2_fewest = true := by decide +kernel
set_option maxRecDepth 100000 in
theorem okX2_find : zokM zZ kX2_find = true := by decide +kernel
set_option maxRecDepth 100000 in
theorem okX2_absentWeekdays : zokM zZ kX2_absentWeekdays = true := by decide +kernel
set_option maxRecDepth 100000 in
theorem okX2_search : zokM zZ kX2_search = true := by decide +kernel
set_option maxRecDepth 100000 in
theorem okX2_feastsInside : zokM zZ kX2_feastsInside = true := by decide +kernel
set_option maxRecDepth 100000 in
theorem okX2_prepare : zokM zZ kX2_prepare = true := by decide +kernel
set_option maxRecDepth 100000 in
theorem okX2_feastsAsDays : zokM zZ kX2_feastsAsDays = true := by decide +kernel
set_option maxRecDepth 100000 in
theorem okX2_compare : zokM zZ kX2_compare = true := by decide +kernel
set_option maxRecDepth 100000 in
theorem okX2_fill : zokM zZ kX2_fill = true := by decide +kernel
set_option maxRecDepth 100000 in
theorem okX2_tokensOfDay : zokM zZ kX2_tokensOfDay = true := by decide +kernel
set_option maxRecDepth 100000 in
theorem okX2_stateBehindDay : zokM zZ kX2_stateBehindDay = true := by decide +kernel
set_option maxRecDepth 100000 in
theorem okX2_tokensOfBounds : zokM zZ kX2_tokensOfBounds = true := by decide +kernel
set_option maxRecDepth 100000 in
theorem okX2_offerSpans : zokM zZ kX2_offerSpans = true := by decide +kernel
set_option maxRecDepth 100000 in
theorem okX2_offerPatterns : zokM zZ kX2_offerPatterns = true := by decide +kernel
set_option maxRecDepth 100000 in
theorem okX2_offer : zokM zZ kX2_offer = true := by decide +kernel
set_option maxRecDepth 100000 in
theorem okX2_trace : zokM zZ kX2_trace = true := by decide +kernel
set_option maxRecDepth 100000 in
theorem okX2_traceSpan : zokM zZ kX2_traceSpan = true := by decide +kernel
set_option maxRecDepth 100000 in
theorem okX3_init : zokM zZ kX3_init = true := by decide +kernel
set_option maxRecDepth 100000 in
theorem okX3_kindOf : zokM zZ kX3_kindOf = true := by decide +kernel
set_option maxRecDepth 100000 in
theorem okX4_init : zokM zZ kX4_init = true := by decide +kernel
set_option maxRecDepth 100000 in
theorem okX4_readDesk : zokM zZ kX4_readDesk = true := by decide +kernel
set_option maxRecDepth 100000 in
theorem okX4_readAlone : zokM zZ kX4_readAlone = true := by decide +kernel
set_option maxRecDepth 100000 in
theorem okX4_scan : zokM zZ kX4_scan = true := by decide +kernel
set_option maxRecDepth 100000 in
theorem okX4_kindOfSign : zokM zZ kX4_kindOfSign = true := by decide +kernel
set_option maxRecDepth 100000 in
theorem okX4_openToken : zokM zZ kX4_openToken = true := by decide +kernel
set_option maxRecDepth 100000 in
theorem okX4_widenToken : zokM zZ kX4_widenToken = true := by decide +kernel
set_option maxRecDepth 100000 in
theorem okX4_fail : zokM zZ kX4_fail = true := by decide +kernel
set_option maxRecDepth 100000 in
theorem okX4_step : zokM zZ kX4_step = true := by decide +kernel
set_option maxRecDepth 100000 in
theorem okX4_take : zokM zZ kX4_take = true := by decide +kernel
set_option maxRecDepth 100000 in
theorem okX4_seeNumber : zokM zZ kX4_seeNumber = true := by decide +kernel
set_option maxRecDepth 100000 in
theorem okX4_isWeekday : zokM zZ kX4_isWeekday = true := by decide +kernel
set_option maxRecDepth 100000 in
theorem okX4_readHead : zokM zZ kX4_readHead = true := by decide +kernel
set_option maxRecDepth 100000 in
theorem okX4_readFeast : zokM zZ kX4_readFeast = true := by decide +kernel
set_option maxRecDepth 100000 in
theorem okX4_readFeastDays : zokM zZ kX4_readFeastDays = true := by decide +kernel
set_option maxRecDepth 100000 in
theorem okX4_readTrain : zokM zZ kX4_readTrain = true := by decide +kernel
set_option maxRecDepth 100000 in
theorem okX4_readWording : zokM zZ kX4_readWording = true := by decide +kernel
set_option maxRecDepth 100000 in
theorem okX4_readSpans : zokM zZ kX4_readSpans = true := by decide +kernel
set_option maxRecDepth 100000 in
theorem okX4_readPattern : zokM zZ kX4_readPattern = true := by decide +kernel
set_option maxRecDepth 100000 in
theorem okX4_readBounds : zokM zZ kX4_readBounds = true := by decide +kernel
set_option maxRecDepth 100000 in
theorem okX4_readExceptions : zokM zZ kX4_readExceptions = true := by decide +kernel
set_option maxRecDepth 100000 in
theorem okX4_readEntries : zokM zZ kX4_readEntries = true := by decide +kernel
set_option maxRecDepth 100000 in
theorem okX5_init : zokM zZ kX5_init = true := by decide +kernel
set_option maxRecDepth 100000 in
theorem okX6_init : zokM zZ kX6_init = true := by decide +kernel
