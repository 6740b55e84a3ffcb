set_option maxRecDepth 100000 in
theorem okX10_begins_ : zokM zZ kX10_begins_ = true := by decide +kernel
set_option maxRecDepth 100000 in
theorem okX10_canStand : zokM zZ kX10_canStand = true := by decide +kernel
set_option maxRecDepth 100000 in
theorem okX10_solves : zokM zZ kX10_solves = true := by decide +kernel
set_option maxRecDepth 100000 in
theorem okX10_withinOf : zokM zZ kX10_withinOf = true := by decide +kernel
set_option maxRecDepth 100000 in
theorem okX10_weighsWithin : zokM zZ kX10_weighsWithin = true := by decide +kernel
set_option maxRecDepth 100000 in
theorem okX10_chooses : zokM zZ kX10_chooses = true := by decide +kernel
set_option maxRecDepth 100000 in
theorem okX10_goesBare : zokM zZ kX10_goesBare = true := by decide +kernel
set_option maxRecDepth 100000 in
theorem okX10_costOf : zokM zZ kX10_costOf = true := by decide +kernel
set_option maxRecDepth 100000 in
theorem okX10_begun : zokM zZ kX10_begun = true := by decide +kernel
set_option maxRecDepth 100000 in
theorem okX10_takes : zokM zZ kX10_takes = true := by decide +kernel
set_option maxRecDepth 100000 in
theorem okX10_rests : zokM zZ kX10_rests = true := by decide +kernel
set_option maxRecDepth 100000 in
theorem okX10_words : zokM zZ kX10_words = true := by decide +kernel
set_option maxRecDepth 100000 in
theorem okX10_ways : zokM zZ kX10_ways = true := by decide +kernel
set_option maxRecDepth 100000 in
theorem okX10_sign : zokM zZ kX10_sign = true := by decide +kernel
set_option maxRecDepth 100000 in
theorem okX10_blank : zokM zZ kX10_blank = true := by decide +kernel
set_option maxRecDepth 100000 in
theorem okX10_says : zokM zZ kX10_says = true := by decide +kernel
set_option maxRecDepth 100000 in
theorem okX10_saysNumber : zokM zZ kX10_saysNumber = true := by decide +kernel
set_option maxRecDepth 100000 in
theorem okX10_saysPattern : zokM zZ kX10_saysPattern = true := by decide +kernel
set_option maxRecDepth 100000 in
theorem okX10_saysEntries : zokM zZ kX10_saysEntries = true := by decide +kernel
set_option maxRecDepth 100000 in
theorem okX10_writes : zokM zZ kX10_writes = true := by decide +kernel
set_option maxRecDepth 100000 in
theorem okX10_length : zokM zZ kX10_length = true := by decide +kernel
set_option maxRecDepth 100000 in
theorem okX10_sign_ : zokM zZ kX10_sign_ = true := by decide +kernel
set_option maxRecDepth 100000 in
theorem okX10_spans : zokM zZ kX10_spans = true := by decide +kernel
set_option maxRecDepth 100000 in
theorem okX10_span : zokM zZ kX10_span = true := by decide +kernel
set_option maxRecDepth 100000 in
theorem okX10_nots : zokM zZ kX10_nots = true := by decide +kernel
set_option maxRecDepth 100000 in
theorem okX10_alsos : zokM zZ kX10_alsos = true := by decide +kernel
set_option maxRecDepth 100000 in
theorem okX10_within : zokM zZ kX10_within = true := by decide +kernel
set_option maxRecDepth 100000 in
theorem okX10_plain : zokM zZ kX10_plain = true := by decide +kernel
set_option maxRecDepth 100000 in
theorem okX10_other : zokM zZ kX10_other = true := by decide +kernel
set_option maxRecDepth 100000 in
theorem okX10_shift : zokM zZ kX10_shift = true := by decide +kernel
set_option maxRecDepth 100000 in
theorem okX10_least : zokM zZ kX10_least = true := by decide +kernel
set_option maxRecDepth 100000 in
theorem okX10_readsAlone : zokM zZ kX10_readsAlone = true := by decide +kernel
set_option maxRecDepth 100000 in
theorem okX10_tells : zokM zZ kX10_tells = true := by decide +kernel
set_option maxRecDepth 100000 in
theorem okX10_told : zokM zZ kX10_told = true := by decide +kernel
set_option maxRecDepth 100000 in
theorem okX10_worse : zokM zZ kX10_worse = true := by decide +kernel
set_option maxRecDepth 100000 in
theorem okX10_shares : zokM zZ kX10_shares = true := by decide +kernel
set_option maxRecDepth 100000 in
theorem okX10_same : zokM zZ kX10_same = true := by decide +kernel
set_option maxRecDepth 100000 in
theorem okX10_isJoined : zokM zZ kX10_isJoined = true := by decide +kernel
set_option maxRecDepth 100000 in
theorem okX10_joinOf : zokM zZ kX10_joinOf = true := by decide +kernel
set_option maxRecDepth 100000 in
theorem okX10_jointOf : zokM zZ kX10_jointOf = true := by decide +kernel
set_option maxRecDepth 100000 in
theorem okX10_join : zokM zZ kX10_join = true := by decide +kernel
set_option maxRecDepth 100000 in
theorem okX10_joint : zokM zZ kX10_joint = true := by decide +kernel
set_option maxRecDepth 100000 in
theorem okX10_twice : zokM zZ kX10_twice = true := by decide +kernel
set_option maxRecDepth 100000 in
theorem okX10_saved : zokM zZ kX10_saved = true := by decide +kernel
set_option maxRecDepth 100000 in
theorem okX10_crowdOf : zokM zZ kX10_crowdOf = true := by decide +kernel
set_option maxRecDepth 100000 in
theorem okX10_crowd : zokM zZ kX10_crowd = true := by decide +kernel
set_option maxRecDepth 100000 in
theorem okX10_full : zokM zZ kX10_full = true := by decide +kernel
set_option maxRecDepth 100000 in
theorem okX10_keeps : zokM zZ kX10_keeps = true := by decide +kernel
set_option maxRecDepth 100000 in
theorem okX10_goesBack : zokM zZ kX10_goesBack = true := by decide +kernel
set_option maxRecDepth 100000 in
theorem okX10_flips : zokM zZ kX10_flips = true := by decide +kernel
set_option maxRecDepth 100000 in
theorem okX10_sets : zokM zZ kX10_sets = true := by decide +kernel
set_option maxRecDepth 100000 in
theorem okX10_merges : zokM zZ kX10_merges = true := by decide +kernel
set_option maxRecDepth 100000 in
theorem okX10_undo : zokM zZ kX10_undo = true := by decide +kernel
set_option maxRecDepth 100000 in
theorem okX10_anew : zokM zZ kX10_anew = true := by decide +kernel
set_option maxRecDepth 100000 in
theorem okJ6_numberOfTrailingZeros_0f7a4 : zokM zZ kJ6_numberOfTrailingZeros_0f7a4 = true := by decide +kernel
set_option maxRecDepth 100000 in
theorem okJ6_bitCount_0f7a4 : zokM zZ kJ6_bitCount_0f7a4 = true := by decide +kernel
