set_option maxRecDepth 100000 in
theorem okX6_add : zokM zZ kX6_add = true := by decide +kernel
set_option maxRecDepth 100000 in
theorem okX7_init : zokM zZ kX7_init = true := by decide +kernel
set_option maxRecDepth 100000 in
theorem okX7_clear : zokM zZ kX7_clear = true := by decide +kernel
set_option maxRecDepth 100000 in
theorem okX7_addSpan : zokM zZ kX7_addSpan = true := by decide +kernel
set_option maxRecDepth 100000 in
theorem okX8_init : zokM zZ kX8_init = true := by decide +kernel
set_option maxRecDepth 100000 in
theorem okX8_write : zokM zZ kX8_write = true := by decide +kernel
set_option maxRecDepth 100000 in
theorem okX8_writePattern : zokM zZ kX8_writePattern = true := by decide +kernel
set_option maxRecDepth 100000 in
theorem okX8_writeEntries : zokM zZ kX8_writeEntries = true := by decide +kernel
set_option maxRecDepth 100000 in
theorem okX8_putWord : zokM zZ kX8_putWord = true := by decide +kernel
set_option maxRecDepth 100000 in
theorem okX8_putNumber : zokM zZ kX8_putNumber = true := by decide +kernel
set_option maxRecDepth 100000 in
theorem okX8_putBlank : zokM zZ kX8_putBlank = true := by decide +kernel
set_option maxRecDepth 100000 in
theorem okX8_putSign : zokM zZ kX8_putSign = true := by decide +kernel
set_option maxRecDepth 100000 in
theorem okX9_init : zokM zZ kX9_init = true := by decide +kernel
set_option maxRecDepth 100000 in
theorem okX9_feed : zokM zZ kX9_feed = true := by decide +kernel
set_option maxRecDepth 100000 in
theorem okX9_end : zokM zZ kX9_end = true := by decide +kernel
set_option maxRecDepth 100000 in
theorem okX9_desk : zokM zZ kX9_desk = true := by decide +kernel
set_option maxRecDepth 100000 in
theorem okX9_fault : zokM zZ kX9_fault = true := by decide +kernel
set_option maxRecDepth 100000 in
theorem okX9_count : zokM zZ kX9_count = true := by decide +kernel
set_option maxRecDepth 100000 in
theorem okX9_weekday : zokM zZ kX9_weekday = true := by decide +kernel
set_option maxRecDepth 100000 in
theorem okX9_feast : zokM zZ kX9_feast = true := by decide +kernel
set_option maxRecDepth 100000 in
theorem okX9_train : zokM zZ kX9_train = true := by decide +kernel
set_option maxRecDepth 100000 in
theorem okX9_days : zokM zZ kX9_days = true := by decide +kernel
set_option maxRecDepth 100000 in
theorem okX9_runs : zokM zZ kX9_runs = true := by decide +kernel
set_option maxRecDepth 100000 in
theorem okX9_many : zokM zZ kX9_many = true := by decide +kernel
set_option maxRecDepth 100000 in
theorem okX9_votes : zokM zZ kX9_votes = true := by decide +kernel
set_option maxRecDepth 100000 in
theorem okX9_vote : zokM zZ kX9_vote = true := by decide +kernel
set_option maxRecDepth 100000 in
theorem okX9_strays : zokM zZ kX9_strays = true := by decide +kernel
set_option maxRecDepth 100000 in
theorem okX9_next : zokM zZ kX9_next = true := by decide +kernel
set_option maxRecDepth 100000 in
theorem okX9_rest : zokM zZ kX9_rest = true := by decide +kernel
set_option maxRecDepth 100000 in
theorem okX9_words : zokM zZ kX9_words = true := by decide +kernel
set_option maxRecDepth 100000 in
theorem okX9_length : zokM zZ kX9_length = true := by decide +kernel
set_option maxRecDepth 100000 in
theorem okX9_sign : zokM zZ kX9_sign = true := by decide +kernel
set_option maxRecDepth 100000 in
theorem okX9_ways : zokM zZ kX9_ways = true := by decide +kernel
set_option maxRecDepth 100000 in
theorem okX9_spans : zokM zZ kX9_spans = true := by decide +kernel
set_option maxRecDepth 100000 in
theorem okX9_span : zokM zZ kX9_span = true := by decide +kernel
set_option maxRecDepth 100000 in
theorem okX9_nots : zokM zZ kX9_nots = true := by decide +kernel
set_option maxRecDepth 100000 in
theorem okX9_alsos : zokM zZ kX9_alsos = true := by decide +kernel
set_option maxRecDepth 100000 in
theorem okX9_within : zokM zZ kX9_within = true := by decide +kernel
set_option maxRecDepth 100000 in
theorem okX9_plain : zokM zZ kX9_plain = true := by decide +kernel
set_option maxRecDepth 100000 in
theorem okX9_other : zokM zZ kX9_other = true := by decide +kernel
set_option maxRecDepth 100000 in
theorem okX9_shift : zokM zZ kX9_shift = true := by decide +kernel
set_option maxRecDepth 100000 in
theorem okX9_least : zokM zZ kX9_least = true := by decide +kernel
set_option maxRecDepth 100000 in
theorem okX9_tells : zokM zZ kX9_tells = true := by decide +kernel
set_option maxRecDepth 100000 in
theorem okX9_told : zokM zZ kX9_told = true := by decide +kernel
set_option maxRecDepth 100000 in
theorem okX9_worse : zokM zZ kX9_worse = true := by decide +kernel
set_option maxRecDepth 100000 in
theorem okX9_shares : zokM zZ kX9_shares = true := by decide +kernel
set_option maxRecDepth 100000 in
theorem okX9_same : zokM zZ kX9_same = true := by decide +kernel
set_option maxRecDepth 100000 in
theorem okX9_join : zokM zZ kX9_join = true := by decide +kernel
set_option maxRecDepth 100000 in
theorem okX9_joint : zokM zZ kX9_joint = true := by decide +kernel
set_option maxRecDepth 100000 in
theorem okX9_twice : zokM zZ kX9_twice = true := by decide +kernel
set_option maxRecDepth 100000 in
theorem okX9_saved : zokM zZ kX9_saved = true := by decide +kernel
set_option maxRecDepth 100000 in
theorem okX9_crowd : zokM zZ kX9_crowd = true := by decide +kernel
set_option maxRecDepth 100000 in
theorem okX9_full : zokM zZ kX9_full = true := by decide +kernel
set_option maxRecDepth 100000 in
theorem okX9_flips : zokM zZ kX9_flips = true := by decide +kernel
set_option maxRecDepth 100000 in
theorem okX9_sets : zokM zZ kX9_sets = true := by decide +kernel
set_option maxRecDepth 100000 in
theorem okX9_merges : zokM zZ kX9_merges = true := by decide +kernel
set_option maxRecDepth 100000 in
theorem okX9_undo : zokM zZ kX9_undo = true := by decide +kernel
set_option maxRecDepth 100000 in
theorem okX9_anew : zokM zZ kX9_anew = true := by decide +kernel
set_option maxRecDepth 100000 in
theorem okX9_isTrain : zokM zZ kX9_isTrain = true := by decide +kernel
set_option maxRecDepth 100000 in
theorem okX9_isDay : zokM zZ kX9_isDay = true := by decide +kernel
