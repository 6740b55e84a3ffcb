set_option maxRecDepth 100000 in
theorem okX9_votedWeekdays : zokM zZ kX9_votedWeekdays = true := by decide +kernel
set_option maxRecDepth 100000 in
theorem okX9_rowStarts : zokM zZ kX9_rowStarts = true := by decide +kernel
set_option maxRecDepth 100000 in
theorem okX9_rowSize : zokM zZ kX9_rowSize = true := by decide +kernel
set_option maxRecDepth 100000 in
theorem okX10_in : zokM zZ kX10_in = true := by decide +kernel
set_option maxRecDepth 100000 in
theorem okX10_has : zokM zZ kX10_has = true := by decide +kernel
set_option maxRecDepth 100000 in
theorem okX10_bitsOf : zokM zZ kX10_bitsOf = true := by decide +kernel
set_option maxRecDepth 100000 in
theorem okX10_flag : zokM zZ kX10_flag = true := by decide +kernel
set_option maxRecDepth 100000 in
theorem okX10_init : zokM zZ kX10_init = true := by decide +kernel
set_option maxRecDepth 100000 in
theorem okX10_feed : zokM zZ kX10_feed = true := by decide +kernel
set_option maxRecDepth 100000 in
theorem okX10_end : zokM zZ kX10_end = true := by decide +kernel
set_option maxRecDepth 100000 in
theorem okX10_isAt : zokM zZ kX10_isAt = true := by decide +kernel
set_option maxRecDepth 100000 in
theorem okX10_next : zokM zZ kX10_next = true := by decide +kernel
set_option maxRecDepth 100000 in
theorem okX10_wordHere : zokM zZ kX10_wordHere = true := by decide +kernel
set_option maxRecDepth 100000 in
theorem okX10_feastHere : zokM zZ kX10_feastHere = true := by decide +kernel
set_option maxRecDepth 100000 in
theorem okX10_faults : zokM zZ kX10_faults = true := by decide +kernel
set_option maxRecDepth 100000 in
theorem okX10_needs : zokM zZ kX10_needs = true := by decide +kernel
set_option maxRecDepth 100000 in
theorem okX10_isSign : zokM zZ kX10_isSign = true := by decide +kernel
set_option maxRecDepth 100000 in
theorem okX10_reads : zokM zZ kX10_reads = true := by decide +kernel
set_option maxRecDepth 100000 in
theorem okX10_isWeekday : zokM zZ kX10_isWeekday = true := by decide +kernel
set_option maxRecDepth 100000 in
theorem okX10_readsWeekday : zokM zZ kX10_readsWeekday = true := by decide +kernel
set_option maxRecDepth 100000 in
theorem okX10_readsDesk : zokM zZ kX10_readsDesk = true := by decide +kernel
set_option maxRecDepth 100000 in
theorem okX10_readsDay : zokM zZ kX10_readsDay = true := by decide +kernel
set_option maxRecDepth 100000 in
theorem okX10_readsFeast : zokM zZ kX10_readsFeast = true := by decide +kernel
set_option maxRecDepth 100000 in
theorem okX10_readsTrain : zokM zZ kX10_readsTrain = true := by decide +kernel
set_option maxRecDepth 100000 in
theorem okX10_readsWording : zokM zZ kX10_readsWording = true := by decide +kernel
set_option maxRecDepth 100000 in
theorem okX10_readsSpans : zokM zZ kX10_readsSpans = true := by decide +kernel
set_option maxRecDepth 100000 in
theorem okX10_readsPattern : zokM zZ kX10_readsPattern = true := by decide +kernel
set_option maxRecDepth 100000 in
theorem okX10_readsBehind : zokM zZ kX10_readsBehind = true := by decide +kernel
set_option maxRecDepth 100000 in
theorem okX10_readsEntries : zokM zZ kX10_readsEntries = true := by decide +kernel
set_option maxRecDepth 100000 in
theorem okX10_begins : zokM zZ kX10_begins = true := by decide +kernel
set_option maxRecDepth 100000 in
theorem okX10_desk : zokM zZ kX10_desk = true := by decide +kernel
set_option maxRecDepth 100000 in
theorem okX10_fault : zokM zZ kX10_fault = true := by decide +kernel
set_option maxRecDepth 100000 in
theorem okX10_count : zokM zZ kX10_count = true := by decide +kernel
set_option maxRecDepth 100000 in
theorem okX10_weekdayOf : zokM zZ kX10_weekdayOf = true := by decide +kernel
set_option maxRecDepth 100000 in
theorem okX10_isDay : zokM zZ kX10_isDay = true := by decide +kernel
set_option maxRecDepth 100000 in
theorem okX10_isTrain : zokM zZ kX10_isTrain = true := by decide +kernel
set_option maxRecDepth 100000 in
theorem okX10_runsOf : zokM zZ kX10_runsOf = true := by decide +kernel
set_option maxRecDepth 100000 in
theorem okX10_whole : zokM zZ kX10_whole = true := by decide +kernel
set_option maxRecDepth 100000 in
theorem okX10_weekday : zokM zZ kX10_weekday = true := by decide +kernel
set_option maxRecDepth 100000 in
theorem okX10_feast : zokM zZ kX10_feast = true := by decide +kernel
set_option maxRecDepth 100000 in
theorem okX10_train : zokM zZ kX10_train = true := by decide +kernel
set_option maxRecDepth 100000 in
theorem okX10_days : zokM zZ kX10_days = true := by decide +kernel
set_option maxRecDepth 100000 in
theorem okX10_runs : zokM zZ kX10_runs = true := by decide +kernel
set_option maxRecDepth 100000 in
theorem okX10_many : zokM zZ kX10_many = true := by decide +kernel
set_option maxRecDepth 100000 in
theorem okX10_daysOf : zokM zZ kX10_daysOf = true := by decide +kernel
set_option maxRecDepth 100000 in
theorem okX10_votes : zokM zZ kX10_votes = true := by decide +kernel
set_option maxRecDepth 100000 in
theorem okX10_voteOf : zokM zZ kX10_voteOf = true := by decide +kernel
set_option maxRecDepth 100000 in
theorem okX10_vote : zokM zZ kX10_vote = true := by decide +kernel
set_option maxRecDepth 100000 in
theorem okX10_strays : zokM zZ kX10_strays = true := by decide +kernel
set_option maxRecDepth 100000 in
theorem okX10_next_ : zokM zZ kX10_next_ = true := by decide +kernel
set_option maxRecDepth 100000 in
theorem okX10_rest : zokM zZ kX10_rest = true := by decide +kernel
set_option maxRecDepth 100000 in
theorem okX10_feastDays : zokM zZ kX10_feastDays = true := by decide +kernel
set_option maxRecDepth 100000 in
theorem okX10_patternCost : zokM zZ kX10_patternCost = true := by decide +kernel
set_option maxRecDepth 100000 in
theorem okX10_modeCost : zokM zZ kX10_modeCost = true := by decide +kernel
set_option maxRecDepth 100000 in
theorem okX10_bareCost : zokM zZ kX10_bareCost = true := by decide +kernel
set_option maxRecDepth 100000 in
theorem okX10_spanCost : zokM zZ kX10_spanCost = true := by decide +kernel
set_option maxRecDepth 100000 in
theorem okX10_endsCost : zokM zZ kX10_endsCost = true := by decide +kernel
set_option maxRecDepth 100000 in
theorem okX10_goesOn : zokM zZ kX10_goesOn = true := by decide +kernel
set_option maxRecDepth 100000 in
theorem okX10_place : zokM zZ kX10_place = true := by decide +kernel
set_option maxRecDepth 100000 in
theorem okX10_weighs : zokM zZ kX10_weighs = true := by decide +kernel
