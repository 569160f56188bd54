def wsX7_brazenAsNow_r2 : List Cond := [Cond.fieldLink RX7 102 "BlushBankModel" "incidents" "I", Cond.fieldLink RX7 23 "BlushBankModel" "tripWeeks" "[I", Cond.fieldLink RX7 20 "BlushBankModel" "tripOnes" "[I", Cond.fieldLink RX7 105 "BlushBankModel" "occasions" "I", Cond.fieldLink RX7 32 "BlushBankModel" "askWeeks" "[I", Cond.fieldLink RX7 99 "BlushBankModel" "people" "I", Cond.methodLink RX7 195 yX7_blushOf, Cond.instanceMethod yX7_blushOf, Cond.selects RX7 yX7_blushOf yX7_blushOf, Cond.code yX7_blushOf cX7_blushOf 4 (some .int), Cond.fieldLink RX7 26 "BlushBankModel" "tripSizes" "[I", Cond.methodLink RX7 182 yX7_of, Cond.instanceMethod yX7_of, Cond.selects RX7 yX7_of yX7_of, Cond.code yX7_of cX7_of 3 (some .int), Cond.methodLink RX7 188 yX7_more, Cond.instanceMethod yX7_more, Cond.selects RX7 yX7_more yX7_more, Cond.code yX7_more cX7_more 5 none, Cond.methodLink RX7 198 yX7_isAskedOf, Cond.instanceMethod yX7_isAskedOf, Cond.selects RX7 yX7_isAskedOf yX7_isAskedOf, Cond.code yX7_isAskedOf cX7_isAskedOf 7 none, Cond.fieldLink RX7 29 "BlushBankModel" "askOnes" "[I"]
def wsX7_brazenAsNow_r3 : List Cond := [Cond.fieldLink RX7 35 "BlushBankModel" "askMany" "[I", Cond.methodLink RX7 185 yX7_least, Cond.static yX7_least, Cond.code yX7_least cX7_least 2 (some .int), Cond.methodLink RX7 207 yX7_brazenMore, Cond.instanceMethod yX7_brazenMore, Cond.selects RX7 yX7_brazenMore yX7_brazenMore, Cond.code yX7_brazenMore cX7_brazenMore 3 (some .int)]
def wsX7_brazenAsNow : List Cond := .code yX7_brazenAsNow cX7_brazenAsNow 1 (some .int) :: ((wsX7_brazenAsNow_r1 ++ (wsX7_brazenAsNow_r2 ++ wsX7_brazenAsNow_r3)) ++ wsX70)
def wsX7_gift_r1 : List Cond := [Cond.constantLong RX7 222 (99), Cond.fieldLink RX7 99 "BlushBankModel" "people" "I", Cond.methodLink RX7 110 yX7_in, Cond.static yX7_in, Cond.initialized RX7, Cond.code yX7_in cX7_in 6 (some .boolean), Cond.methodLink RX7 234 yX7_isPart, Cond.static yX7_isPart, Cond.code yX7_isPart cX7_isPart 1 (some .boolean), Cond.methodLink RX7 270 yX7_brazenAsNow, Cond.instanceMethod yX7_brazenAsNow, Cond.selects RX7 yX7_brazenAsNow yX7_brazenAsNow, Cond.code yX7_brazenAsNow cX7_brazenAsNow 1 (some .int), Cond.methodLink RX7 217 yX7_starts, Cond.instanceMethod yX7_starts, Cond.selects RX7 yX7_starts yX7_starts, Cond.code yX7_starts cX7_starts 2 none, Cond.fieldLink RX7 13 "BlushBankModel" "at" "[I", Cond.fieldLink RX7 7 "BlushBankModel" "st" "[I", Cond.methodLink RX7 253 yX7_weeksLeft, Cond.instanceMethod yX7_weeksLeft, Cond.selects RX7 yX7_weeksLeft yX7_weeksLeft, Cond.code yX7_weeksLeft cX7_weeksLeft 1 (some .int), Cond.methodLink RX7 244 yX7_brazenIn]
def wsX7_gift_r2 : List Cond := [Cond.instanceMethod yX7_brazenIn, Cond.selects RX7 yX7_brazenIn yX7_brazenIn, Cond.code yX7_brazenIn cX7_brazenIn 2 (some .int), Cond.methodLink RX7 204 yX7_weeksGo, Cond.instanceMethod yX7_weeksGo, Cond.selects RX7 yX7_weeksGo yX7_weeksGo, Cond.code yX7_weeksGo cX7_weeksGo 3 none, Cond.methodLink RX7 201 yX7_weekGoes, Cond.instanceMethod yX7_weekGoes, Cond.selects RX7 yX7_weekGoes yX7_weekGoes, Cond.code yX7_weekGoes cX7_weekGoes 3 none, Cond.fieldLink RX7 192 "BlushBankModel" "brazenNow" "I", Cond.fieldLink RX7 102 "BlushBankModel" "incidents" "I", Cond.fieldLink RX7 23 "BlushBankModel" "tripWeeks" "[I", Cond.fieldLink RX7 20 "BlushBankModel" "tripOnes" "[I", Cond.fieldLink RX7 105 "BlushBankModel" "occasions" "I", Cond.fieldLink RX7 32 "BlushBankModel" "askWeeks" "[I", Cond.methodLink RX7 195 yX7_blushOf, Cond.instanceMethod yX7_blushOf, Cond.selects RX7 yX7_blushOf yX7_blushOf, Cond.code yX7_blushOf cX7_blushOf 4 (some .int), Cond.fieldLink RX7 26 "BlushBankModel" "tripSizes" "[I", Cond.methodLink RX7 182 yX7_of, Cond.instanceMethod yX7_of]
def wsX7_gift_r3 : List Cond := [Cond.selects RX7 yX7_of yX7_of, Cond.code yX7_of cX7_of 3 (some .int), Cond.methodLink RX7 188 yX7_more, Cond.instanceMethod yX7_more, Cond.selects RX7 yX7_more yX7_more, Cond.code yX7_more cX7_more 5 none, Cond.methodLink RX7 198 yX7_isAskedOf, Cond.instanceMethod yX7_isAskedOf, Cond.selects RX7 yX7_isAskedOf yX7_isAskedOf, Cond.code yX7_isAskedOf cX7_isAskedOf 7 none, Cond.fieldLink RX7 29 "BlushBankModel" "askOnes" "[I", Cond.fieldLink RX7 35 "BlushBankModel" "askMany" "[I", Cond.methodLink RX7 185 yX7_least, Cond.static yX7_least, Cond.code yX7_least cX7_least 2 (some .int), Cond.methodLink RX7 207 yX7_brazenMore, Cond.instanceMethod yX7_brazenMore, Cond.selects RX7 yX7_brazenMore yX7_brazenMore, Cond.code yX7_brazenMore cX7_brazenMore 3 (some .int)]
def wsX7_gift : List Cond := .code yX7_gift cX7_gift 7 (some .int) :: ((wsX7_gift_r1 ++ (wsX7_gift_r2 ++ wsX7_gift_r3)) ++ wsX70)
def wsX7_told_r1 : List Cond := [Cond.fieldLink RX7 99 "BlushBankModel" "people" "I", Cond.fieldLink RX7 62 "BlushBankModel" "often" "[I", Cond.methodLink RX7 210 yX7_isOne, Cond.instanceMethod yX7_isOne, Cond.selects RX7 yX7_isOne yX7_isOne, Cond.initialized RX7, Cond.code yX7_isOne cX7_isOne 2 (some .boolean), Cond.methodLink RX7 110 yX7_in, Cond.static yX7_in, Cond.code yX7_in cX7_in 6 (some .boolean), Cond.methodLink RX7 234 yX7_isPart, Cond.static yX7_isPart, Cond.code yX7_isPart cX7_isPart 1 (some .boolean), Cond.methodLink RX7 270 yX7_brazenAsNow, Cond.instanceMethod yX7_brazenAsNow, Cond.selects RX7 yX7_brazenAsNow yX7_brazenAsNow, Cond.code yX7_brazenAsNow cX7_brazenAsNow 1 (some .int), Cond.methodLink RX7 217 yX7_starts, Cond.instanceMethod yX7_starts, Cond.selects RX7 yX7_starts yX7_starts, Cond.code yX7_starts cX7_starts 2 none, Cond.fieldLink RX7 13 "BlushBankModel" "at" "[I", Cond.fieldLink RX7 7 "BlushBankModel" "st" "[I", Cond.methodLink RX7 253 yX7_weeksLeft]
def wsX7_told_r2 : List Cond := [Cond.instanceMethod yX7_weeksLeft, Cond.selects RX7 yX7_weeksLeft yX7_weeksLeft, Cond.code yX7_weeksLeft cX7_weeksLeft 1 (some .int), Cond.methodLink RX7 244 yX7_brazenIn, Cond.instanceMethod yX7_brazenIn, Cond.selects RX7 yX7_brazenIn yX7_brazenIn, Cond.code yX7_brazenIn cX7_brazenIn 2 (some .int), Cond.methodLink RX7 204 yX7_weeksGo, Cond.instanceMethod yX7_weeksGo, Cond.selects RX7 yX7_weeksGo yX7_weeksGo, Cond.code yX7_weeksGo cX7_weeksGo 3 none, Cond.methodLink RX7 201 yX7_weekGoes, Cond.instanceMethod yX7_weekGoes, Cond.selects RX7 yX7_weekGoes yX7_weekGoes, Cond.code yX7_weekGoes cX7_weekGoes 3 none, Cond.fieldLink RX7 192 "BlushBankModel" "brazenNow" "I", Cond.fieldLink RX7 102 "BlushBankModel" "incidents" "I", Cond.fieldLink RX7 23 "BlushBankModel" "tripWeeks" "[I", Cond.fieldLink RX7 20 "BlushBankModel" "tripOnes" "[I", Cond.fieldLink RX7 105 "BlushBankModel" "occasions" "I", Cond.fieldLink RX7 32 "BlushBankModel" "askWeeks" "[I", Cond.methodLink RX7 195 yX7_blushOf, Cond.instanceMethod yX7_blushOf, Cond.selects RX7 yX7_blushOf yX7_blushOf]
def wsX7_told_r3 : List Cond := [Cond.code yX7_blushOf cX7_blushOf 4 (some .int), Cond.fieldLink RX7 26 "BlushBankModel" "tripSizes" "[I", Cond.methodLink RX7 182 yX7_of, Cond.instanceMethod yX7_of, Cond.selects RX7 yX7_of yX7_of, Cond.code yX7_of cX7_of 3 (some .int), Cond.methodLink RX7 188 yX7_more, Cond.instanceMethod yX7_more, Cond.selects RX7 yX7_more yX7_more, Cond.code yX7_more cX7_more 5 none, Cond.methodLink RX7 198 yX7_isAskedOf, Cond.instanceMethod yX7_isAskedOf, Cond.selects RX7 yX7_isAskedOf yX7_isAskedOf, Cond.code yX7_isAskedOf cX7_isAskedOf 7 none, Cond.fieldLink RX7 29 "BlushBankModel" "askOnes" "[I", Cond.fieldLink RX7 35 "BlushBankModel" "askMany" "[I", Cond.methodLink RX7 185 yX7_least, Cond.static yX7_least, Cond.code yX7_least cX7_least 2 (some .int), Cond.methodLink RX7 207 yX7_brazenMore, Cond.instanceMethod yX7_brazenMore, Cond.selects RX7 yX7_brazenMore yX7_brazenMore, Cond.code yX7_brazenMore cX7_brazenMore 3 (some .int), Cond.methodLink RX7 228 yX7_rumoured]
def wsX7_told_r4 : List Cond := [Cond.instanceMethod yX7_rumoured, Cond.selects RX7 yX7_rumoured yX7_rumoured, Cond.code yX7_rumoured cX7_rumoured 5 (some .int), Cond.methodLink RX7 224 yX7_flag, Cond.static yX7_flag, Cond.code yX7_flag cX7_flag 1 (some .int)]
def wsX7_told : List Cond := .code yX7_told cX7_told 6 (some .int) :: ((wsX7_told_r1 ++ (wsX7_told_r2 ++ (wsX7_told_r3 ++ wsX7_told_r4))) ++ wsX70)
def wsX7_whisper_r1 : List Cond := [Cond.fieldLink RX7 99 "BlushBankModel" "people" "I", Cond.methodLink RX7 234 yX7_isPart, Cond.static yX7_isPart, Cond.initialized RX7, Cond.code yX7_isPart cX7_isPart 1 (some .boolean), Cond.methodLink RX7 110 yX7_in, Cond.static yX7_in, Cond.code yX7_in cX7_in 6 (some .boolean), Cond.methodLink RX7 270 yX7_brazenAsNow, Cond.instanceMethod yX7_brazenAsNow, Cond.selects RX7 yX7_brazenAsNow yX7_brazenAsNow, Cond.code yX7_brazenAsNow cX7_brazenAsNow 1 (some .int), Cond.methodLink RX7 217 yX7_starts, Cond.instanceMethod yX7_starts, Cond.selects RX7 yX7_starts yX7_starts, Cond.code yX7_starts cX7_starts 2 none, Cond.fieldLink RX7 13 "BlushBankModel" "at" "[I", Cond.fieldLink RX7 7 "BlushBankModel" "st" "[I", Cond.methodLink RX7 253 yX7_weeksLeft, Cond.instanceMethod yX7_weeksLeft, Cond.selects RX7 yX7_weeksLeft yX7_weeksLeft, Cond.code yX7_weeksLeft cX7_weeksLeft 1 (some .int), Cond.methodLink RX7 244 yX7_brazenIn, Cond.instanceMethod yX7_brazenIn]
def wsX7_whisper_r2 : List Cond := [Cond.selects RX7 yX7_brazenIn yX7_brazenIn, Cond.code yX7_brazenIn cX7_brazenIn 2 (some .int), Cond.methodLink RX7 204 yX7_weeksGo, Cond.instanceMethod yX7_weeksGo, Cond.selects RX7 yX7_weeksGo yX7_weeksGo, Cond.code yX7_weeksGo cX7_weeksGo 3 none, Cond.methodLink RX7 201 yX7_weekGoes, Cond.instanceMethod yX7_weekGoes, Cond.selects RX7 yX7_weekGoes yX7_weekGoes, Cond.code yX7_weekGoes cX7_weekGoes 3 none, Cond.fieldLink RX7 192 "BlushBankModel" "brazenNow" "I", Cond.fieldLink RX7 102 "BlushBankModel" "incidents" "I", Cond.fieldLink RX7 23 "BlushBankModel" "tripWeeks" "[I", Cond.fieldLink RX7 20 "BlushBankModel" "tripOnes" "[I", Cond.fieldLink RX7 105 "BlushBankModel" "occasions" "I", Cond.fieldLink RX7 32 "BlushBankModel" "askWeeks" "[I", Cond.methodLink RX7 195 yX7_blushOf, Cond.instanceMethod yX7_blushOf, Cond.selects RX7 yX7_blushOf yX7_blushOf, Cond.code yX7_blushOf cX7_blushOf 4 (some .int), Cond.fieldLink RX7 26 "BlushBankModel" "tripSizes" "[I", Cond.methodLink RX7 182 yX7_of, Cond.instanceMethod yX7_of, Cond.selects RX7 yX7_of yX7_of]
def wsX7_whisper_r3 : List Cond := [Cond.code yX7_of cX7_of 3 (some .int), Cond.methodLink RX7 188 yX7_more, Cond.instanceMethod yX7_more, Cond.selects RX7 yX7_more yX7_more, Cond.code yX7_more cX7_more 5 none, Cond.methodLink RX7 198 yX7_isAskedOf, Cond.instanceMethod yX7_isAskedOf, Cond.selects RX7 yX7_isAskedOf yX7_isAskedOf, Cond.code yX7_isAskedOf cX7_isAskedOf 7 none, Cond.fieldLink RX7 29 "BlushBankModel" "askOnes" "[I", Cond.fieldLink RX7 35 "BlushBankModel" "askMany" "[I", Cond.methodLink RX7 185 yX7_least, Cond.static yX7_least, Cond.code yX7_least cX7_least 2 (some .int), Cond.methodLink RX7 207 yX7_brazenMore, Cond.instanceMethod yX7_brazenMore, Cond.selects RX7 yX7_brazenMore yX7_brazenMore, Cond.code yX7_brazenMore cX7_brazenMore 3 (some .int), Cond.methodLink RX7 228 yX7_rumoured, Cond.instanceMethod yX7_rumoured, Cond.selects RX7 yX7_rumoured yX7_rumoured, Cond.code yX7_rumoured cX7_rumoured 5 (some .int), Cond.methodLink RX7 224 yX7_flag, Cond.static yX7_flag]
def wsX7_whisper_r4 : List Cond := [Cond.code yX7_flag cX7_flag 1 (some .int)]
def wsX7_whisper : List Cond := .code yX7_whisper cX7_whisper 6 (some .int) :: ((wsX7_whisper_r1 ++ (wsX7_whisper_r2 ++ (wsX7_whisper_r3 ++ wsX7_whisper_r4))) ++ wsX70)
def wsX7_note : List Cond := .code yX7_note cX7_note 5 (some .int) :: ([.constantLong RX7 237 (9), .fieldLink RX7 7 "BlushBankModel" "st" "[I", .methodLink RX7 210 yX7_isOne, .instanceMethod yX7_isOne, .selects RX7 yX7_isOne yX7_isOne, .initialized RX7, .code yX7_isOne cX7_isOne 2 (some .boolean), .fieldLink RX7 99 "BlushBankModel" "people" "I", .methodLink RX7 110 yX7_in, .static yX7_in, .code yX7_in cX7_in 6 (some .boolean), .methodLink RX7 224 yX7_flag, .static yX7_flag, .code yX7_flag cX7_flag 1 (some .int)] ++ wsX70)
def wsX7_forget : List Cond := .code yX7_forget cX7_forget 2 (some .int) :: ([.fieldLink RX7 7 "BlushBankModel" "st" "[I", .methodLink RX7 110 yX7_in, .static yX7_in, .initialized RX7, .code yX7_in cX7_in 6 (some .boolean), .methodLink RX7 239 yX7_becomes, .instanceMethod yX7_becomes, .selects RX7 yX7_becomes yX7_becomes, .code yX7_becomes cX7_becomes 4 (some .int)] ++ wsX70)
def wsX7_fitsTo_r1 : List Cond := [Cond.fieldLink RX7 13 "BlushBankModel" "at" "[I", Cond.fieldLink RX7 7 "BlushBankModel" "st" "[I", Cond.fieldLink RX7 192 "BlushBankModel" "brazenNow" "I", Cond.methodLink RX7 247 yX7_isPlan, Cond.instanceMethod yX7_isPlan, Cond.selects RX7 yX7_isPlan yX7_isPlan, Cond.initialized RX7, Cond.code yX7_isPlan cX7_isPlan 4 (some .boolean), Cond.fieldLink RX7 102 "BlushBankModel" "incidents" "I", Cond.fieldLink RX7 23 "BlushBankModel" "tripWeeks" "[I", Cond.methodLink RX7 250 yX7_startsBy, Cond.instanceMethod yX7_startsBy, Cond.selects RX7 yX7_startsBy yX7_startsBy, Cond.code yX7_startsBy cX7_startsBy 2 none, Cond.methodLink RX7 217 yX7_starts, Cond.instanceMethod yX7_starts, Cond.selects RX7 yX7_starts yX7_starts, Cond.code yX7_starts cX7_starts 2 none, Cond.methodLink RX7 253 yX7_weeksLeft, Cond.instanceMethod yX7_weeksLeft, Cond.selects RX7 yX7_weeksLeft yX7_weeksLeft, Cond.code yX7_weeksLeft cX7_weeksLeft 1 (some .int), Cond.methodLink RX7 201 yX7_weekGoes, Cond.instanceMethod yX7_weekGoes]
def wsX7_fitsTo_r2 : List Cond := [Cond.selects RX7 yX7_weekGoes yX7_weekGoes, Cond.code yX7_weekGoes cX7_weekGoes 3 none, Cond.fieldLink RX7 20 "BlushBankModel" "tripOnes" "[I", Cond.fieldLink RX7 105 "BlushBankModel" "occasions" "I", Cond.fieldLink RX7 32 "BlushBankModel" "askWeeks" "[I", Cond.fieldLink RX7 99 "BlushBankModel" "people" "I", Cond.methodLink RX7 195 yX7_blushOf, Cond.instanceMethod yX7_blushOf, Cond.selects RX7 yX7_blushOf yX7_blushOf, Cond.code yX7_blushOf cX7_blushOf 4 (some .int), Cond.fieldLink RX7 26 "BlushBankModel" "tripSizes" "[I", Cond.methodLink RX7 182 yX7_of, Cond.instanceMethod yX7_of, Cond.selects RX7 yX7_of yX7_of, Cond.code yX7_of cX7_of 3 (some .int), Cond.methodLink RX7 188 yX7_more, Cond.instanceMethod yX7_more, Cond.selects RX7 yX7_more yX7_more, Cond.code yX7_more cX7_more 5 none, Cond.methodLink RX7 198 yX7_isAskedOf, Cond.instanceMethod yX7_isAskedOf, Cond.selects RX7 yX7_isAskedOf yX7_isAskedOf, Cond.code yX7_isAskedOf cX7_isAskedOf 7 none, Cond.fieldLink RX7 29 "BlushBankModel" "askOnes" "[I"]
def wsX7_fitsTo_r3 : List Cond := [Cond.fieldLink RX7 35 "BlushBankModel" "askMany" "[I", Cond.methodLink RX7 185 yX7_least, Cond.static yX7_least, Cond.code yX7_least cX7_least 2 (some .int)]
def wsX7_fitsTo : List Cond := .code yX7_fitsTo cX7_fitsTo 7 (some .boolean) :: ((wsX7_fitsTo_r1 ++ (wsX7_fitsTo_r2 ++ wsX7_fitsTo_r3)) ++ wsX70)
def wsX7_fits_r1 : List Cond := [Cond.constantLong RX7 173 (3), Cond.fieldLink RX7 102 "BlushBankModel" "incidents" "I", Cond.methodLink RX7 110 yX7_in, Cond.static yX7_in, Cond.initialized RX7, Cond.code yX7_in cX7_in 6 (some .boolean), Cond.methodLink RX7 273 yX7_fitsTo, Cond.instanceMethod yX7_fitsTo, Cond.selects RX7 yX7_fitsTo yX7_fitsTo, Cond.code yX7_fitsTo cX7_fitsTo 7 (some .boolean), Cond.fieldLink RX7 13 "BlushBankModel" "at" "[I", Cond.fieldLink RX7 7 "BlushBankModel" "st" "[I", Cond.fieldLink RX7 192 "BlushBankModel" "brazenNow" "I", Cond.methodLink RX7 247 yX7_isPlan, Cond.instanceMethod yX7_isPlan, Cond.selects RX7 yX7_isPlan yX7_isPlan, Cond.code yX7_isPlan cX7_isPlan 4 (some .boolean), Cond.fieldLink RX7 23 "BlushBankModel" "tripWeeks" "[I", Cond.methodLink RX7 250 yX7_startsBy, Cond.instanceMethod yX7_startsBy, Cond.selects RX7 yX7_startsBy yX7_startsBy, Cond.code yX7_startsBy cX7_startsBy 2 none, Cond.methodLink RX7 217 yX7_starts, Cond.instanceMethod yX7_starts]
def wsX7_fits_r2 : List Cond := [Cond.selects RX7 yX7_starts yX7_starts, Cond.code yX7_starts cX7_starts 2 none, Cond.methodLink RX7 253 yX7_weeksLeft, Cond.instanceMethod yX7_weeksLeft, Cond.selects RX7 yX7_weeksLeft yX7_weeksLeft, Cond.code yX7_weeksLeft cX7_weeksLeft 1 (some .int), Cond.methodLink RX7 201 yX7_weekGoes, Cond.instanceMethod yX7_weekGoes, Cond.selects RX7 yX7_weekGoes yX7_weekGoes, Cond.code yX7_weekGoes cX7_weekGoes 3 none, Cond.fieldLink RX7 20 "BlushBankModel" "tripOnes" "[I", Cond.fieldLink RX7 105 "BlushBankModel" "occasions" "I", Cond.fieldLink RX7 32 "BlushBankModel" "askWeeks" "[I", Cond.fieldLink RX7 99 "BlushBankModel" "people" "I", Cond.methodLink RX7 195 yX7_blushOf, Cond.instanceMethod yX7_blushOf, Cond.selects RX7 yX7_blushOf yX7_blushOf, Cond.code yX7_blushOf cX7_blushOf 4 (some .int), Cond.fieldLink RX7 26 "BlushBankModel" "tripSizes" "[I", Cond.methodLink RX7 182 yX7_of, Cond.instanceMethod yX7_of, Cond.selects RX7 yX7_of yX7_of, Cond.code yX7_of cX7_of 3 (some .int), Cond.methodLink RX7 188 yX7_more]
def wsX7_fits_r3 : List Cond := [Cond.instanceMethod yX7_more, Cond.selects RX7 yX7_more yX7_more, Cond.code yX7_more cX7_more 5 none, Cond.methodLink RX7 198 yX7_isAskedOf, Cond.instanceMethod yX7_isAskedOf, Cond.selects RX7 yX7_isAskedOf yX7_isAskedOf, Cond.code yX7_isAskedOf cX7_isAskedOf 7 none, Cond.fieldLink RX7 29 "BlushBankModel" "askOnes" "[I", Cond.fieldLink RX7 35 "BlushBankModel" "askMany" "[I", Cond.methodLink RX7 185 yX7_least, Cond.static yX7_least, Cond.code yX7_least cX7_least 2 (some .int)]
def wsX7_fits : List Cond := .code yX7_fits cX7_fits 8 (some .int) :: ((wsX7_fits_r1 ++ (wsX7_fits_r2 ++ wsX7_fits_r3)) ++ wsX70)
def wsX7_drift_r1 : List Cond := [Cond.constantLong RX7 242 (20), Cond.fieldLink RX7 99 "BlushBankModel" "people" "I", Cond.constant RX7 276 (1103515245), Cond.fieldLink RX7 13 "BlushBankModel" "at" "[I", Cond.methodLink RX7 110 yX7_in, Cond.static yX7_in, Cond.initialized RX7, Cond.code yX7_in cX7_in 6 (some .boolean), Cond.methodLink RX7 234 yX7_isPart, Cond.static yX7_isPart, Cond.code yX7_isPart cX7_isPart 1 (some .boolean), Cond.methodLink RX7 217 yX7_starts, Cond.instanceMethod yX7_starts, Cond.selects RX7 yX7_starts yX7_starts, Cond.code yX7_starts cX7_starts 2 none, Cond.fieldLink RX7 7 "BlushBankModel" "st" "[I", Cond.methodLink RX7 182 yX7_of, Cond.instanceMethod yX7_of, Cond.selects RX7 yX7_of yX7_of, Cond.code yX7_of cX7_of 3 (some .int), Cond.methodLink RX7 185 yX7_least, Cond.static yX7_least, Cond.code yX7_least cX7_least 2 (some .int), Cond.methodLink RX7 201 yX7_weekGoes]
def wsX7_drift_r2 : List Cond := [Cond.instanceMethod yX7_weekGoes, Cond.selects RX7 yX7_weekGoes yX7_weekGoes, Cond.code yX7_weekGoes cX7_weekGoes 3 none, Cond.fieldLink RX7 192 "BlushBankModel" "brazenNow" "I", Cond.fieldLink RX7 102 "BlushBankModel" "incidents" "I", Cond.fieldLink RX7 23 "BlushBankModel" "tripWeeks" "[I", Cond.fieldLink RX7 20 "BlushBankModel" "tripOnes" "[I", Cond.fieldLink RX7 105 "BlushBankModel" "occasions" "I", Cond.fieldLink RX7 32 "BlushBankModel" "askWeeks" "[I", Cond.methodLink RX7 195 yX7_blushOf, Cond.instanceMethod yX7_blushOf, Cond.selects RX7 yX7_blushOf yX7_blushOf, Cond.code yX7_blushOf cX7_blushOf 4 (some .int), Cond.fieldLink RX7 26 "BlushBankModel" "tripSizes" "[I", Cond.methodLink RX7 188 yX7_more, Cond.instanceMethod yX7_more, Cond.selects RX7 yX7_more yX7_more, Cond.code yX7_more cX7_more 5 none, Cond.methodLink RX7 198 yX7_isAskedOf, Cond.instanceMethod yX7_isAskedOf, Cond.selects RX7 yX7_isAskedOf yX7_isAskedOf, Cond.code yX7_isAskedOf cX7_isAskedOf 7 none, Cond.fieldLink RX7 29 "BlushBankModel" "askOnes" "[I", Cond.fieldLink RX7 35 "BlushBankModel" "askMany" "[I"]
def wsX7_drift_r3 : List Cond := [Cond.methodLink RX7 207 yX7_brazenMore, Cond.instanceMethod yX7_brazenMore, Cond.selects RX7 yX7_brazenMore yX7_brazenMore, Cond.code yX7_brazenMore cX7_brazenMore 3 (some .int), Cond.methodLink RX7 263 yX7_allOf, Cond.instanceMethod yX7_allOf, Cond.selects RX7 yX7_allOf yX7_allOf, Cond.code yX7_allOf cX7_allOf 4 (some .int)]
def wsX7_drift : List Cond := .code yX7_drift cX7_drift 7 (some .int) :: ((wsX7_drift_r1 ++ (wsX7_drift_r2 ++ wsX7_drift_r3)) ++ wsX70)
def wsX7_copies : List Cond := .code yX7_copies cX7_copies 4 none :: ([.fieldLink RX7 7 "BlushBankModel" "st" "[I"] ++ wsX70)
def wsX7_keep : List Cond := .code yX7_keep cX7_keep 3 (some .int) :: ([.fieldLink RX7 16 "BlushBankModel" "isKept" "[Z", .methodLink RX7 110 yX7_in, .static yX7_in, .initialized RX7, .code yX7_in cX7_in 6 (some .boolean), .methodLink RX7 224 yX7_flag, .static yX7_flag, .code yX7_flag cX7_flag 1 (some .int), .methodLink RX7 277 yX7_copies, .instanceMethod yX7_copies, .selects RX7 yX7_copies yX7_copies, .code yX7_copies cX7_copies 4 none, .fieldLink RX7 7 "BlushBankModel" "st" "[I"] ++ wsX70)
def wsX7_back : List Cond := .code yX7_back cX7_back 2 (some .int) :: ([.fieldLink RX7 16 "BlushBankModel" "isKept" "[Z", .fieldLink RX7 7 "BlushBankModel" "st" "[I", .methodLink RX7 110 yX7_in, .static yX7_in, .initialized RX7, .code yX7_in cX7_in 6 (some .boolean), .methodLink RX7 277 yX7_copies, .instanceMethod yX7_copies, .selects RX7 yX7_copies yX7_copies, .code yX7_copies cX7_copies 4 none] ++ wsX70)
def wsX7_isSheet : List Cond := .code yX7_isSheet cX7_isSheet 2 (some .boolean) :: ([.constantLong RX7 173 (3), .constantLong RX7 220 (2), .methodLink RX7 110 yX7_in, .static yX7_in, .initialized RX7, .code yX7_in cX7_in 6 (some .boolean)])
def wsX7_sheet : List Cond := .code yX7_sheet cX7_sheet 5 (some .int) :: ([.fieldLink RX7 65 "BlushBankModel" "lanes" "[I", .fieldLink RX7 68 "BlushBankModel" "sizes" "[I", .fieldLink RX7 71 "BlushBankModel" "cells" "[I", .methodLink RX7 281 yX7_isSheet, .static yX7_isSheet, .initialized RX7, .code yX7_isSheet cX7_isSheet 2 (some .boolean), .constantLong RX7 173 (3), .constantLong RX7 220 (2), .methodLink RX7 110 yX7_in, .static yX7_in, .code yX7_in cX7_in 6 (some .boolean)] ++ wsX70)
def wsX7_lay : List Cond := .code yX7_lay cX7_lay 4 (some .int) :: ([.fieldLink RX7 65 "BlushBankModel" "lanes" "[I", .fieldLink RX7 68 "BlushBankModel" "sizes" "[I", .fieldLink RX7 71 "BlushBankModel" "cells" "[I", .methodLink RX7 281 yX7_isSheet, .static yX7_isSheet, .initialized RX7, .code yX7_isSheet cX7_isSheet 2 (some .boolean), .constantLong RX7 173 (3), .constantLong RX7 220 (2), .methodLink RX7 110 yX7_in, .static yX7_in, .code yX7_in cX7_in 6 (some .boolean)] ++ wsX70)
def wsX7_read_r1 : List Cond := [Cond.constantLong RX7 242 (20), Cond.fieldLink RX7 74 "BlushBankModel" "had" "[I", Cond.fieldLink RX7 7 "BlushBankModel" "st" "[I", Cond.fieldLink RX7 65 "BlushBankModel" "lanes" "[I", Cond.fieldLink RX7 68 "BlushBankModel" "sizes" "[I", Cond.fieldLink RX7 71 "BlushBankModel" "cells" "[I", Cond.fieldLink RX7 288 "BlushBankModel" "torn" "I", Cond.methodLink RX7 281 yX7_isSheet, Cond.static yX7_isSheet, Cond.initialized RX7, Cond.code yX7_isSheet cX7_isSheet 2 (some .boolean), Cond.constantLong RX7 173 (3), Cond.constantLong RX7 220 (2), Cond.methodLink RX7 110 yX7_in, Cond.static yX7_in, Cond.code yX7_in cX7_in 6 (some .boolean), Cond.methodLink RX7 285 yX7_draw, Cond.instanceMethod yX7_draw, Cond.selects RX7 yX7_draw yX7_draw, Cond.code yX7_draw cX7_draw 3 (some .int), Cond.constantLong RX7 222 (99), Cond.methodLink RX7 210 yX7_isOne, Cond.instanceMethod yX7_isOne, Cond.selects RX7 yX7_isOne yX7_isOne]
def wsX7_read_r2 : List Cond := [Cond.code yX7_isOne cX7_isOne 2 (some .boolean), Cond.fieldLink RX7 99 "BlushBankModel" "people" "I"]
def wsX7_read : List Cond := .code yX7_read cX7_read 11 (some .int) :: ((wsX7_read_r1 ++ wsX7_read_r2) ++ wsX70)
def wsX7_torn : List Cond := .code yX7_torn cX7_torn 1 (some .int) :: ([.fieldLink RX7 288 "BlushBankModel" "torn" "I"] ++ wsX70)
def wsX7_count : List Cond := .code yX7_count cX7_count 2 (some .int) :: ([.fieldLink RX7 7 "BlushBankModel" "st" "[I", .fieldLink RX7 16 "BlushBankModel" "isKept" "[Z", .fieldLink RX7 114 "BlushBankModel" "taped" "I", .fieldLink RX7 65 "BlushBankModel" "lanes" "[I", .fieldLink RX7 68 "BlushBankModel" "sizes" "[I", .methodLink RX7 217 yX7_starts, .instanceMethod yX7_starts, .selects RX7 yX7_starts yX7_starts, .initialized RX7, .code yX7_starts cX7_starts 2 none, .fieldLink RX7 13 "BlushBankModel" "at" "[I", .methodLink RX7 263 yX7_allOf, .instanceMethod yX7_allOf, .selects RX7 yX7_allOf yX7_allOf, .code yX7_allOf cX7_allOf 4 (some .int), .fieldLink RX7 99 "BlushBankModel" "people" "I", .methodLink RX7 182 yX7_of, .instanceMethod yX7_of, .selects RX7 yX7_of yX7_of, .code yX7_of cX7_of 3 (some .int), .methodLink RX7 224 yX7_flag, .static yX7_flag, .code yX7_flag cX7_flag 1 (some .int)] ++ wsX70)
def wsJ9_min_7cf53 : List Cond := .code yJ9_min_7cf53 cJ9_min_7cf53 2 (some .int) :: ([])
set_option maxRecDepth 20000 in
theorem ggX0_init_X1_init : GoodIn wsX0_init wsX1_init := goodIn_r _ [13, 14, 2, 3, 15, 16, 17, 18, 19, 20, 21, 22, 29, 30, 31, 32, 33, 34, 35, 36, 37, 38, 39] (by decide +kernel) (by decide +kernel)
set_option maxRecDepth 20000 in
theorem gX0_init_X1_init_n9 : GoodIn wsX0_init (wsX1_init) := ggX0_init_X1_init
set_option maxRecDepth 20000 in
theorem ggX0_init_X2_init : GoodIn wsX0_init wsX2_init := goodIn_r _ [24, 25, 2, 3, 15, 26, 27, 28, 43, 44, 45, 46] (by decide +kernel) (by decide +kernel)
set_option maxRecDepth 20000 in
theorem gX0_init_X2_init_n18 : GoodIn wsX0_init (wsX2_init) := ggX0_init_X2_init
theorem dX0_init_0 : decode cX0_init 0 = .ok (.aload_n 0, 1) := by decide +kernel
theorem dX0_init_1 : decode cX0_init 1 = .ok (.invokespecial 1, 3) := by decide +kernel
theorem dX0_init_4 : decode cX0_init 4 = .ok (.aload_n 0, 1) := by decide +kernel
theorem dX0_init_5 : decode cX0_init 5 = .ok (.new 7, 3) := by decide +kernel
theorem dX0_init_8 : decode cX0_init 8 = .ok (.dup, 1) := by decide +kernel
theorem dX0_init_9 : decode cX0_init 9 = .ok (.invokespecial 9, 3) := by decide +kernel
theorem dX0_init_12 : decode cX0_init 12 = .ok (.putfield 10, 3) := by decide +kernel
theorem dX0_init_15 : decode cX0_init 15 = .ok (.aload_n 0, 1) := by decide +kernel
theorem dX0_init_16 : decode cX0_init 16 = .ok (.new 16, 3) := by decide +kernel
theorem dX0_init_19 : decode cX0_init 19 = .ok (.dup, 1) := by decide +kernel
theorem dX0_init_20 : decode cX0_init 20 = .ok (.invokespecial 18, 3) := by decide +kernel
theorem dX0_init_23 : decode cX0_init 23 = .ok (.putfield 19, 3) := by decide +kernel
theorem dX0_init_26 : decode cX0_init 26 = .ok (.return_, 1) := by decide +kernel
theorem dX1_init_0 : decode cX1_init 0 = .ok (.aload_n 0, 1) := by decide +kernel
theorem dX1_init_1 : decode cX1_init 1 = .ok (.invokespecial 3, 3) := by decide +kernel
theorem dX1_init_4 : decode cX1_init 4 = .ok (.aload_n 0, 1) := by decide +kernel
theorem dX1_init_5 : decode cX1_init 5 = .ok (.iconst 4, 1) := by decide +kernel
theorem dX1_init_6 : decode cX1_init 6 = .ok (.newarray .int, 2) := by decide +kernel
theorem dX1_init_8 : decode cX1_init 8 = .ok (.putfield 9, 3) := by decide +kernel
theorem dX1_init_11 : decode cX1_init 11 = .ok (.aload_n 0, 1) := by decide +kernel
theorem dX1_init_12 : decode cX1_init 12 = .ok (.iconst 4, 1) := by decide +kernel
theorem dX1_init_13 : decode cX1_init 13 = .ok (.newarray .int, 2) := by decide +kernel
theorem dX1_init_15 : decode cX1_init 15 = .ok (.putfield 15, 3) := by decide +kernel
theorem dX1_init_18 : decode cX1_init 18 = .ok (.aload_n 0, 1) := by decide +kernel
theorem dX1_init_19 : decode cX1_init 19 = .ok (.iconst 4, 1) := by decide +kernel
theorem dX1_init_20 : decode cX1_init 20 = .ok (.newarray .int, 2) := by decide +kernel
theorem dX1_init_22 : decode cX1_init 22 = .ok (.putfield 18, 3) := by decide +kernel
theorem dX1_init_25 : decode cX1_init 25 = .ok (.aload_n 0, 1) := by decide +kernel
theorem dX1_init_26 : decode cX1_init 26 = .ok (.iconst 4, 1) := by decide +kernel
theorem dX1_init_27 : decode cX1_init 27 = .ok (.newarray .int, 2) := by decide +kernel
theorem dX1_init_29 : decode cX1_init 29 = .ok (.putfield 21, 3) := by decide +kernel
theorem dX1_init_32 : decode cX1_init 32 = .ok (.aload_n 0, 1) := by decide +kernel
theorem dX1_init_33 : decode cX1_init 33 = .ok (.bipush 6, 2) := by decide +kernel
theorem dX1_init_35 : decode cX1_init 35 = .ok (.newarray .int, 2) := by decide +kernel
theorem dX1_init_37 : decode cX1_init 37 = .ok (.putfield 24, 3) := by decide +kernel
theorem dX1_init_40 : decode cX1_init 40 = .ok (.aload_n 0, 1) := by decide +kernel
theorem dX1_init_41 : decode cX1_init 41 = .ok (.iconst 1, 1) := by decide +kernel
theorem dX1_init_42 : decode cX1_init 42 = .ok (.putfield 27, 3) := by decide +kernel
theorem dX1_init_45 : decode cX1_init 45 = .ok (.aload_n 0, 1) := by decide +kernel
theorem dX1_init_46 : decode cX1_init 46 = .ok (.bipush 20, 2) := by decide +kernel
theorem dX1_init_48 : decode cX1_init 48 = .ok (.putfield 31, 3) := by decide +kernel
theorem dX1_init_51 : decode cX1_init 51 = .ok (.return_, 1) := by decide +kernel
theorem dX1_copyFrom_0 : decode cX1_copyFrom 0 = .ok (.aload_n 0, 1) := by decide +kernel
theorem dX1_copyFrom_1 : decode cX1_copyFrom 1 = .ok (.aload_n 1, 1) := by decide +kernel
theorem dX1_copyFrom_2 : decode cX1_copyFrom 2 = .ok (.getfield 34, 3) := by decide +kernel
theorem dX1_copyFrom_5 : decode cX1_copyFrom 5 = .ok (.putfield 34, 3) := by decide +kernel
theorem dX1_copyFrom_8 : decode cX1_copyFrom 8 = .ok (.aload_n 1, 1) := by decide +kernel
theorem dX1_copyFrom_9 : decode cX1_copyFrom 9 = .ok (.getfield 9, 3) := by decide +kernel
theorem dX1_copyFrom_12 : decode cX1_copyFrom 12 = .ok (.iconst 0, 1) := by decide +kernel
theorem dX1_copyFrom_13 : decode cX1_copyFrom 13 = .ok (.aload_n 0, 1) := by decide +kernel
theorem dX1_copyFrom_14 : decode cX1_copyFrom 14 = .ok (.getfield 9, 3) := by decide +kernel
theorem dX1_copyFrom_17 : decode cX1_copyFrom 17 = .ok (.iconst 0, 1) := by decide +kernel
theorem dX1_copyFrom_18 : decode cX1_copyFrom 18 = .ok (.iconst 4, 1) := by decide +kernel
theorem dX1_copyFrom_19 : decode cX1_copyFrom 19 = .ok (.invokestatic 37, 3) := by decide +kernel
theorem dX1_copyFrom_22 : decode cX1_copyFrom 22 = .ok (.aload_n 1, 1) := by decide +kernel
theorem dX1_copyFrom_23 : decode cX1_copyFrom 23 = .ok (.getfield 15, 3) := by decide +kernel
theorem dX1_copyFrom_26 : decode cX1_copyFrom 26 = .ok (.iconst 0, 1) := by decide +kernel
theorem dX1_copyFrom_27 : decode cX1_copyFrom 27 = .ok (.aload_n 0, 1) := by decide +kernel
theorem dX1_copyFrom_28 : decode cX1_copyFrom 28 = .ok (.getfield 15, 3) := by decide +kernel
theorem dX1_copyFrom_31 : decode cX1_copyFrom 31 = .ok (.iconst 0, 1) := by decide +kernel
theorem dX1_copyFrom_32 : decode cX1_copyFrom 32 = .ok (.iconst 4, 1) := by decide +kernel
theorem dX1_copyFrom_33 : decode cX1_copyFrom 33 = .ok (.invokestatic 37, 3) := by decide +kernel
theorem dX1_copyFrom_36 : decode cX1_copyFrom 36 = .ok (.aload_n 1, 1) := by decide +kernel
theorem dX1_copyFrom_37 : decode cX1_copyFrom 37 = .ok (.getfield 18, 3) := by decide +kernel
theorem dX1_copyFrom_40 : decode cX1_copyFrom 40 = .ok (.iconst 0, 1) := by decide +kernel
theorem dX1_copyFrom_41 : decode cX1_copyFrom 41 = .ok (.aload_n 0, 1) := by decide +kernel
theorem dX1_copyFrom_42 : decode cX1_copyFrom 42 = .ok (.getfield 18, 3) := by decide +kernel
theorem dX1_copyFrom_45 : decode cX1_copyFrom 45 = .ok (.iconst 0, 1) := by decide +kernel
theorem dX1_copyFrom_46 : decode cX1_copyFrom 46 = .ok (.iconst 4, 1) := by decide +kernel
theorem dX1_copyFrom_47 : decode cX1_copyFrom 47 = .ok (.invokestatic 37, 3) := by decide +kernel
theorem dX1_copyFrom_50 : decode cX1_copyFrom 50 = .ok (.aload_n 1, 1) := by decide +kernel
theorem dX1_copyFrom_51 : decode cX1_copyFrom 51 = .ok (.getfield 21, 3) := by decide +kernel
theorem dX1_copyFrom_54 : decode cX1_copyFrom 54 = .ok (.iconst 0, 1) := by decide +kernel
theorem dX1_copyFrom_55 : decode cX1_copyFrom 55 = .ok (.aload_n 0, 1) := by decide +kernel
theorem dX1_copyFrom_56 : decode cX1_copyFrom 56 = .ok (.getfield 21, 3) := by decide +kernel
theorem dX1_copyFrom_59 : decode cX1_copyFrom 59 = .ok (.iconst 0, 1) := by decide +kernel
theorem dX1_copyFrom_60 : decode cX1_copyFrom 60 = .ok (.iconst 4, 1) := by decide +kernel
theorem dX1_copyFrom_61 : decode cX1_copyFrom 61 = .ok (.invokestatic 37, 3) := by decide +kernel
theorem dX1_copyFrom_64 : decode cX1_copyFrom 64 = .ok (.aload_n 1, 1) := by decide +kernel
theorem dX1_copyFrom_65 : decode cX1_copyFrom 65 = .ok (.getfield 24, 3) := by decide +kernel
theorem dX1_copyFrom_68 : decode cX1_copyFrom 68 = .ok (.iconst 0, 1) := by decide +kernel
theorem dX1_copyFrom_69 : decode cX1_copyFrom 69 = .ok (.aload_n 0, 1) := by decide +kernel
theorem dX1_copyFrom_70 : decode cX1_copyFrom 70 = .ok (.getfield 24, 3) := by decide +kernel
theorem dX1_copyFrom_73 : decode cX1_copyFrom 73 = .ok (.iconst 0, 1) := by decide +kernel
theorem dX1_copyFrom_74 : decode cX1_copyFrom 74 = .ok (.bipush 6, 2) := by decide +kernel
theorem dX1_copyFrom_76 : decode cX1_copyFrom 76 = .ok (.invokestatic 37, 3) := by decide +kernel
theorem dX1_copyFrom_79 : decode cX1_copyFrom 79 = .ok (.aload_n 0, 1) := by decide +kernel
theorem dX1_copyFrom_80 : decode cX1_copyFrom 80 = .ok (.aload_n 1, 1) := by decide +kernel
theorem dX1_copyFrom_81 : decode cX1_copyFrom 81 = .ok (.getfield 43, 3) := by decide +kernel
theorem dX1_copyFrom_84 : decode cX1_copyFrom 84 = .ok (.putfield 43, 3) := by decide +kernel
theorem dX1_copyFrom_87 : decode cX1_copyFrom 87 = .ok (.aload_n 0, 1) := by decide +kernel
theorem dX1_copyFrom_88 : decode cX1_copyFrom 88 = .ok (.aload_n 1, 1) := by decide +kernel
theorem dX1_copyFrom_89 : decode cX1_copyFrom 89 = .ok (.getfield 27, 3) := by decide +kernel
theorem dX1_copyFrom_92 : decode cX1_copyFrom 92 = .ok (.putfield 27, 3) := by decide +kernel
theorem dX1_copyFrom_95 : decode cX1_copyFrom 95 = .ok (.aload_n 0, 1) := by decide +kernel
theorem dX1_copyFrom_96 : decode cX1_copyFrom 96 = .ok (.aload_n 1, 1) := by decide +kernel
theorem dX1_copyFrom_97 : decode cX1_copyFrom 97 = .ok (.getfield 31, 3) := by decide +kernel
theorem dX1_copyFrom_100 : decode cX1_copyFrom 100 = .ok (.putfield 31, 3) := by decide +kernel
theorem dX1_copyFrom_103 : decode cX1_copyFrom 103 = .ok (.aload_n 0, 1) := by decide +kernel
theorem dX1_copyFrom_104 : decode cX1_copyFrom 104 = .ok (.aload_n 1, 1) := by decide +kernel
theorem dX1_copyFrom_105 : decode cX1_copyFrom 105 = .ok (.getfield 46, 3) := by decide +kernel
theorem dX1_copyFrom_108 : decode cX1_copyFrom 108 = .ok (.putfield 46, 3) := by decide +kernel
theorem dX1_copyFrom_111 : decode cX1_copyFrom 111 = .ok (.aload_n 0, 1) := by decide +kernel
theorem dX1_copyFrom_112 : decode cX1_copyFrom 112 = .ok (.aload_n 1, 1) := by decide +kernel
theorem dX1_copyFrom_113 : decode cX1_copyFrom 113 = .ok (.getfield 49, 3) := by decide +kernel
theorem dX1_copyFrom_116 : decode cX1_copyFrom 116 = .ok (.putfield 49, 3) := by decide +kernel
theorem dX1_copyFrom_119 : decode cX1_copyFrom 119 = .ok (.return_, 1) := by decide +kernel
theorem dX1_isDeposited_0 : decode cX1_isDeposited 0 = .ok (.aload_n 0, 1) := by decide +kernel
theorem dX1_isDeposited_1 : decode cX1_isDeposited 1 = .ok (.getfield 43, 3) := by decide +kernel
theorem dX1_isDeposited_4 : decode cX1_isDeposited 4 = .ok (.iload_n 1, 1) := by decide +kernel
theorem dX1_isDeposited_5 : decode cX1_isDeposited 5 = .ok (.ishr, 1) := by decide +kernel
theorem dX1_isDeposited_6 : decode cX1_isDeposited 6 = .ok (.iconst 1, 1) := by decide +kernel
theorem dX1_isDeposited_7 : decode cX1_isDeposited 7 = .ok (.iand, 1) := by decide +kernel
theorem dX1_isDeposited_8 : decode cX1_isDeposited 8 = .ok (.iconst 1, 1) := by decide +kernel
theorem dX1_isDeposited_9 : decode cX1_isDeposited 9 = .ok (.if_icmp .ne 7, 3) := by decide +kernel
theorem dX1_isDeposited_12 : decode cX1_isDeposited 12 = .ok (.iconst 1, 1) := by decide +kernel
theorem dX1_isDeposited_13 : decode cX1_isDeposited 13 = .ok (.goto 4, 3) := by decide +kernel
theorem dX1_isDeposited_16 : decode cX1_isDeposited 16 = .ok (.iconst 0, 1) := by decide +kernel
theorem dX1_isDeposited_17 : decode cX1_isDeposited 17 = .ok (.ireturn, 1) := by decide +kernel
theorem dX1_blushOf_0 : decode cX1_blushOf 0 = .ok (.aload_n 1, 1) := by decide +kernel
theorem dX1_blushOf_1 : decode cX1_blushOf 1 = .ok (.getfield 52, 3) := by decide +kernel
theorem dX1_blushOf_4 : decode cX1_blushOf 4 = .ok (.iload_n 2, 1) := by decide +kernel
theorem dX1_blushOf_5 : decode cX1_blushOf 5 = .ok (.iaload, 1) := by decide +kernel
theorem dX1_blushOf_6 : decode cX1_blushOf 6 = .ok (.aload_n 0, 1) := by decide +kernel
theorem dX1_blushOf_7 : decode cX1_blushOf 7 = .ok (.getfield 24, 3) := by decide +kernel
theorem dX1_blushOf_10 : decode cX1_blushOf 10 = .ok (.iload_n 2, 1) := by decide +kernel
theorem dX1_blushOf_11 : decode cX1_blushOf 11 = .ok (.iaload, 1) := by decide +kernel
theorem dX1_blushOf_12 : decode cX1_blushOf 12 = .ok (.iadd, 1) := by decide +kernel
theorem dX1_blushOf_13 : decode cX1_blushOf 13 = .ok (.istore_n 3, 1) := by decide +kernel
theorem dX1_blushOf_14 : decode cX1_blushOf 14 = .ok (.aload_n 0, 1) := by decide +kernel
theorem dX1_blushOf_15 : decode cX1_blushOf 15 = .ok (.getfield 9, 3) := by decide +kernel
theorem dX1_blushOf_18 : decode cX1_blushOf 18 = .ok (.aload_n 1, 1) := by decide +kernel
theorem dX1_blushOf_19 : decode cX1_blushOf 19 = .ok (.getfield 57, 3) := by decide +kernel
theorem dX1_blushOf_22 : decode cX1_blushOf 22 = .ok (.iload_n 2, 1) := by decide +kernel
theorem dX1_blushOf_23 : decode cX1_blushOf 23 = .ok (.iaload, 1) := by decide +kernel
theorem dX1_blushOf_24 : decode cX1_blushOf 24 = .ok (.iaload, 1) := by decide +kernel
theorem dX1_blushOf_25 : decode cX1_blushOf 25 = .ok (.lookupswitch 35 #[(1, 27), (3, 31)], 27) := by decide +kernel
theorem dX1_blushOf_52 : decode cX1_blushOf 52 = .ok (.iconst 2, 1) := by decide +kernel
theorem dX1_blushOf_53 : decode cX1_blushOf 53 = .ok (.iload_n 3, 1) := by decide +kernel
theorem dX1_blushOf_54 : decode cX1_blushOf 54 = .ok (.imul, 1) := by decide +kernel
theorem dX1_blushOf_55 : decode cX1_blushOf 55 = .ok (.ireturn, 1) := by decide +kernel
theorem dX1_blushOf_56 : decode cX1_blushOf 56 = .ok (.iload_n 3, 1) := by decide +kernel
theorem dX1_blushOf_57 : decode cX1_blushOf 57 = .ok (.iconst 2, 1) := by decide +kernel
theorem dX1_blushOf_58 : decode cX1_blushOf 58 = .ok (.idiv, 1) := by decide +kernel
theorem dX1_blushOf_59 : decode cX1_blushOf 59 = .ok (.ireturn, 1) := by decide +kernel
theorem dX1_blushOf_60 : decode cX1_blushOf 60 = .ok (.iload_n 3, 1) := by decide +kernel
theorem dX1_blushOf_61 : decode cX1_blushOf 61 = .ok (.ireturn, 1) := by decide +kernel
theorem dX1_putInHand_0 : decode cX1_putInHand 0 = .ok (.aload_n 0, 1) := by decide +kernel
theorem dX1_putInHand_1 : decode cX1_putInHand 1 = .ok (.getfield 15, 3) := by decide +kernel
theorem dX1_putInHand_4 : decode cX1_putInHand 4 = .ok (.iload_n 1, 1) := by decide +kernel
theorem dX1_putInHand_5 : decode cX1_putInHand 5 = .ok (.sipush 999, 3) := by decide +kernel
theorem dX1_putInHand_8 : decode cX1_putInHand 8 = .ok (.aload_n 0, 1) := by decide +kernel
theorem dX1_putInHand_9 : decode cX1_putInHand 9 = .ok (.getfield 15, 3) := by decide +kernel
theorem dX1_putInHand_12 : decode cX1_putInHand 12 = .ok (.iload_n 1, 1) := by decide +kernel
theorem dX1_putInHand_13 : decode cX1_putInHand 13 = .ok (.iaload, 1) := by decide +kernel
theorem dX1_putInHand_14 : decode cX1_putInHand 14 = .ok (.iload_n 2, 1) := by decide +kernel
theorem dX1_putInHand_15 : decode cX1_putInHand 15 = .ok (.iadd, 1) := by decide +kernel
theorem dX1_putInHand_16 : decode cX1_putInHand 16 = .ok (.invokestatic 60, 3) := by decide +kernel
theorem dX1_putInHand_19 : decode cX1_putInHand 19 = .ok (.iastore, 1) := by decide +kernel
theorem dX1_putInHand_20 : decode cX1_putInHand 20 = .ok (.return_, 1) := by decide +kernel
theorem dX1_putAtBank_0 : decode cX1_putAtBank 0 = .ok (.aload_n 0, 1) := by decide +kernel
theorem dX1_putAtBank_1 : decode cX1_putAtBank 1 = .ok (.getfield 18, 3) := by decide +kernel
theorem dX1_putAtBank_4 : decode cX1_putAtBank 4 = .ok (.iload_n 1, 1) := by decide +kernel
theorem dX1_putAtBank_5 : decode cX1_putAtBank 5 = .ok (.sipush 999, 3) := by decide +kernel
theorem dX1_putAtBank_8 : decode cX1_putAtBank 8 = .ok (.aload_n 0, 1) := by decide +kernel
theorem dX1_putAtBank_9 : decode cX1_putAtBank 9 = .ok (.getfield 18, 3) := by decide +kernel
theorem dX1_putAtBank_12 : decode cX1_putAtBank 12 = .ok (.iload_n 1, 1) := by decide +kernel
theorem dX1_putAtBank_13 : decode cX1_putAtBank 13 = .ok (.iaload, 1) := by decide +kernel
theorem dX1_putAtBank_14 : decode cX1_putAtBank 14 = .ok (.iload_n 2, 1) := by decide +kernel
theorem dX1_putAtBank_15 : decode cX1_putAtBank 15 = .ok (.iadd, 1) := by decide +kernel
theorem dX1_putAtBank_16 : decode cX1_putAtBank 16 = .ok (.invokestatic 60, 3) := by decide +kernel
theorem dX1_putAtBank_19 : decode cX1_putAtBank 19 = .ok (.iastore, 1) := by decide +kernel
theorem dX1_putAtBank_20 : decode cX1_putAtBank 20 = .ok (.return_, 1) := by decide +kernel
set_option maxRecDepth 20000 in
theorem ggX1_takeOut_X6_isWithin : GoodIn wsX1_takeOut wsX6_isWithin := goodIn_r _ [7] (by decide +kernel) (by decide +kernel)
set_option maxRecDepth 20000 in
theorem gX1_takeOut_X6_isWithin_n66 : GoodIn wsX1_takeOut (wsX6_isWithin) := ggX1_takeOut_X6_isWithin
theorem dX1_takeOut_0 : decode cX1_takeOut 0 = .ok (.iload_n 1, 1) := by decide +kernel
theorem dX1_takeOut_1 : decode cX1_takeOut 1 = .ok (.ifCond .lt 20, 3) := by decide +kernel
theorem dX1_takeOut_4 : decode cX1_takeOut 4 = .ok (.iload_n 1, 1) := by decide +kernel
theorem dX1_takeOut_5 : decode cX1_takeOut 5 = .ok (.aload_n 0, 1) := by decide +kernel
theorem dX1_takeOut_6 : decode cX1_takeOut 6 = .ok (.getfield 34, 3) := by decide +kernel
theorem dX1_takeOut_9 : decode cX1_takeOut 9 = .ok (.if_icmp .ge 12, 3) := by decide +kernel
theorem dX1_takeOut_12 : decode cX1_takeOut 12 = .ok (.iload_n 2, 1) := by decide +kernel
theorem dX1_takeOut_13 : decode cX1_takeOut 13 = .ok (.bipush 99, 2) := by decide +kernel
theorem dX1_takeOut_15 : decode cX1_takeOut 15 = .ok (.invokestatic 66, 3) := by decide +kernel
theorem dX1_takeOut_18 : decode cX1_takeOut 18 = .ok (.ifCond .ne 5, 3) := by decide +kernel
theorem dX1_takeOut_21 : decode cX1_takeOut 21 = .ok (.iconst (-1), 1) := by decide +kernel
theorem dX1_takeOut_22 : decode cX1_takeOut 22 = .ok (.ireturn, 1) := by decide +kernel
theorem dX1_takeOut_23 : decode cX1_takeOut 23 = .ok (.aload_n 0, 1) := by decide +kernel
theorem dX1_takeOut_24 : decode cX1_takeOut 24 = .ok (.getfield 18, 3) := by decide +kernel
theorem dX1_takeOut_27 : decode cX1_takeOut 27 = .ok (.iload_n 1, 1) := by decide +kernel
theorem dX1_takeOut_28 : decode cX1_takeOut 28 = .ok (.iaload, 1) := by decide +kernel
theorem dX1_takeOut_29 : decode cX1_takeOut 29 = .ok (.iload_n 2, 1) := by decide +kernel
theorem dX1_takeOut_30 : decode cX1_takeOut 30 = .ok (.if_icmp .lt 11, 3) := by decide +kernel
theorem dX1_takeOut_33 : decode cX1_takeOut 33 = .ok (.aload_n 0, 1) := by decide +kernel
theorem dX1_takeOut_34 : decode cX1_takeOut 34 = .ok (.getfield 31, 3) := by decide +kernel
theorem dX1_takeOut_37 : decode cX1_takeOut 37 = .ok (.iload_n 2, 1) := by decide +kernel
theorem dX1_takeOut_38 : decode cX1_takeOut 38 = .ok (.if_icmp .ge 6, 3) := by decide +kernel
theorem dX1_takeOut_41 : decode cX1_takeOut 41 = .ok (.bipush (-2), 2) := by decide +kernel
theorem dX1_takeOut_43 : decode cX1_takeOut 43 = .ok (.ireturn, 1) := by decide +kernel
theorem dX1_takeOut_44 : decode cX1_takeOut 44 = .ok (.aload_n 0, 1) := by decide +kernel
theorem dX1_takeOut_45 : decode cX1_takeOut 45 = .ok (.getfield 15, 3) := by decide +kernel
theorem dX1_takeOut_48 : decode cX1_takeOut 48 = .ok (.iload_n 1, 1) := by decide +kernel
theorem dX1_takeOut_49 : decode cX1_takeOut 49 = .ok (.iaload, 1) := by decide +kernel
theorem dX1_takeOut_50 : decode cX1_takeOut 50 = .ok (.iload_n 2, 1) := by decide +kernel
theorem dX1_takeOut_51 : decode cX1_takeOut 51 = .ok (.iadd, 1) := by decide +kernel
theorem dX1_takeOut_52 : decode cX1_takeOut 52 = .ok (.sipush 999, 3) := by decide +kernel
theorem dX1_takeOut_55 : decode cX1_takeOut 55 = .ok (.if_icmp .le 6, 3) := by decide +kernel
theorem dX1_takeOut_58 : decode cX1_takeOut 58 = .ok (.bipush (-3), 2) := by decide +kernel
theorem dX1_takeOut_60 : decode cX1_takeOut 60 = .ok (.ireturn, 1) := by decide +kernel
theorem dX1_takeOut_61 : decode cX1_takeOut 61 = .ok (.aload_n 0, 1) := by decide +kernel
theorem dX1_takeOut_62 : decode cX1_takeOut 62 = .ok (.getfield 18, 3) := by decide +kernel
theorem dX1_takeOut_65 : decode cX1_takeOut 65 = .ok (.iload_n 1, 1) := by decide +kernel
theorem dX1_takeOut_66 : decode cX1_takeOut 66 = .ok (.dup2, 1) := by decide +kernel
theorem dX1_takeOut_67 : decode cX1_takeOut 67 = .ok (.iaload, 1) := by decide +kernel
theorem dX1_takeOut_68 : decode cX1_takeOut 68 = .ok (.iload_n 2, 1) := by decide +kernel
theorem dX1_takeOut_69 : decode cX1_takeOut 69 = .ok (.isub, 1) := by decide +kernel
theorem dX1_takeOut_70 : decode cX1_takeOut 70 = .ok (.iastore, 1) := by decide +kernel
theorem dX1_takeOut_71 : decode cX1_takeOut 71 = .ok (.aload_n 0, 1) := by decide +kernel
theorem dX1_takeOut_72 : decode cX1_takeOut 72 = .ok (.dup, 1) := by decide +kernel
theorem dX1_takeOut_73 : decode cX1_takeOut 73 = .ok (.getfield 31, 3) := by decide +kernel
theorem dX1_takeOut_76 : decode cX1_takeOut 76 = .ok (.iload_n 2, 1) := by decide +kernel
theorem dX1_takeOut_77 : decode cX1_takeOut 77 = .ok (.isub, 1) := by decide +kernel
theorem dX1_takeOut_78 : decode cX1_takeOut 78 = .ok (.putfield 31, 3) := by decide +kernel
theorem dX1_takeOut_81 : decode cX1_takeOut 81 = .ok (.aload_n 0, 1) := by decide +kernel
theorem dX1_takeOut_82 : decode cX1_takeOut 82 = .ok (.getfield 15, 3) := by decide +kernel
theorem dX1_takeOut_85 : decode cX1_takeOut 85 = .ok (.iload_n 1, 1) := by decide +kernel
theorem dX1_takeOut_86 : decode cX1_takeOut 86 = .ok (.dup2, 1) := by decide +kernel
theorem dX1_takeOut_87 : decode cX1_takeOut 87 = .ok (.iaload, 1) := by decide +kernel
theorem dX1_takeOut_88 : decode cX1_takeOut 88 = .ok (.iload_n 2, 1) := by decide +kernel
theorem dX1_takeOut_89 : decode cX1_takeOut 89 = .ok (.iadd, 1) := by decide +kernel
theorem dX1_takeOut_90 : decode cX1_takeOut 90 = .ok (.iastore, 1) := by decide +kernel
theorem dX1_takeOut_91 : decode cX1_takeOut 91 = .ok (.aload_n 0, 1) := by decide +kernel
theorem dX1_takeOut_92 : decode cX1_takeOut 92 = .ok (.getfield 31, 3) := by decide +kernel
theorem dX1_takeOut_95 : decode cX1_takeOut 95 = .ok (.ireturn, 1) := by decide +kernel
theorem dX1_spreadRumour_0 : decode cX1_spreadRumour 0 = .ok (.iconst 0, 1) := by decide +kernel
theorem dX1_spreadRumour_1 : decode cX1_spreadRumour 1 = .ok (.istore_n 3, 1) := by decide +kernel
theorem dX1_spreadRumour_2 : decode cX1_spreadRumour 2 = .ok (.iconst 0, 1) := by decide +kernel
theorem dX1_spreadRumour_3 : decode cX1_spreadRumour 3 = .ok (.istore 4, 2) := by decide +kernel
theorem dX1_spreadRumour_5 : decode cX1_spreadRumour 5 = .ok (.iload 4, 2) := by decide +kernel
theorem dX1_spreadRumour_7 : decode cX1_spreadRumour 7 = .ok (.aload_n 1, 1) := by decide +kernel
theorem dX1_spreadRumour_8 : decode cX1_spreadRumour 8 = .ok (.getfield 70, 3) := by decide +kernel
theorem dX1_spreadRumour_11 : decode cX1_spreadRumour 11 = .ok (.if_icmp .ge 58, 3) := by decide +kernel
theorem dX1_spreadRumour_14 : decode cX1_spreadRumour 14 = .ok (.aload_n 1, 1) := by decide +kernel
theorem dX1_spreadRumour_15 : decode cX1_spreadRumour 15 = .ok (.getfield 57, 3) := by decide +kernel
theorem dX1_spreadRumour_18 : decode cX1_spreadRumour 18 = .ok (.iload 4, 2) := by decide +kernel
theorem dX1_spreadRumour_20 : decode cX1_spreadRumour 20 = .ok (.iaload, 1) := by decide +kernel
theorem dX1_spreadRumour_21 : decode cX1_spreadRumour 21 = .ok (.iload_n 2, 1) := by decide +kernel
theorem dX1_spreadRumour_22 : decode cX1_spreadRumour 22 = .ok (.if_icmp .ne 41, 3) := by decide +kernel
theorem dX1_spreadRumour_25 : decode cX1_spreadRumour 25 = .ok (.aload_n 1, 1) := by decide +kernel
theorem dX1_spreadRumour_26 : decode cX1_spreadRumour 26 = .ok (.getfield 73, 3) := by decide +kernel
theorem dX1_spreadRumour_29 : decode cX1_spreadRumour 29 = .ok (.iload 4, 2) := by decide +kernel
theorem dX1_spreadRumour_31 : decode cX1_spreadRumour 31 = .ok (.iaload, 1) := by decide +kernel
theorem dX1_spreadRumour_32 : decode cX1_spreadRumour 32 = .ok (.aload_n 0, 1) := by decide +kernel
theorem dX1_spreadRumour_33 : decode cX1_spreadRumour 33 = .ok (.getfield 46, 3) := by decide +kernel
theorem dX1_spreadRumour_36 : decode cX1_spreadRumour 36 = .ok (.if_icmp .lt 27, 3) := by decide +kernel
theorem dX1_spreadRumour_39 : decode cX1_spreadRumour 39 = .ok (.aload_n 0, 1) := by decide +kernel
theorem dX1_spreadRumour_40 : decode cX1_spreadRumour 40 = .ok (.getfield 24, 3) := by decide +kernel
theorem dX1_spreadRumour_43 : decode cX1_spreadRumour 43 = .ok (.iload 4, 2) := by decide +kernel
theorem dX1_spreadRumour_45 : decode cX1_spreadRumour 45 = .ok (.iaload, 1) := by decide +kernel
theorem dX1_spreadRumour_46 : decode cX1_spreadRumour 46 = .ok (.bipush 9, 2) := by decide +kernel
theorem dX1_spreadRumour_48 : decode cX1_spreadRumour 48 = .ok (.if_icmp .eq 15, 3) := by decide +kernel
theorem dX1_spreadRumour_51 : decode cX1_spreadRumour 51 = .ok (.aload_n 0, 1) := by decide +kernel
theorem dX1_spreadRumour_52 : decode cX1_spreadRumour 52 = .ok (.getfield 24, 3) := by decide +kernel
theorem dX1_spreadRumour_55 : decode cX1_spreadRumour 55 = .ok (.iload 4, 2) := by decide +kernel
theorem dX1_spreadRumour_57 : decode cX1_spreadRumour 57 = .ok (.bipush 9, 2) := by decide +kernel
theorem dX1_spreadRumour_59 : decode cX1_spreadRumour 59 = .ok (.iastore, 1) := by decide +kernel
theorem dX1_spreadRumour_60 : decode cX1_spreadRumour 60 = .ok (.iinc 3 1, 3) := by decide +kernel
theorem dX1_spreadRumour_63 : decode cX1_spreadRumour 63 = .ok (.iinc 4 1, 3) := by decide +kernel
theorem dX1_spreadRumour_66 : decode cX1_spreadRumour 66 = .ok (.goto (-61), 3) := by decide +kernel
theorem dX1_spreadRumour_69 : decode cX1_spreadRumour 69 = .ok (.iload_n 3, 1) := by decide +kernel
theorem dX1_spreadRumour_70 : decode cX1_spreadRumour 70 = .ok (.ireturn, 1) := by decide +kernel
set_option maxRecDepth 20000 in
theorem ggX1_passWeeks_X1_passWeek : GoodIn wsX1_passWeeks wsX1_passWeek := goodIn_r _ [5, 6, 7, 8, 9, 10, 11, 12, 13, 14, 15, 16, 4, 17, 18, 19, 20, 21, 22, 23, 24, 25, 26, 27, 28, 29, 30, 31, 32, 33, 34, 35, 36, 37, 38, 39, 40, 41, 42, 43, 44, 45, 46, 47, 48, 49, 50, 51, 52, 53, 54, 55, 56, 57, 58, 59, 60, 61, 62, 63, 64, 65, 66, 67, 68, 69, 70, 71, 72, 73, 74, 75] (by decide +kernel) (by decide +kernel)
set_option maxRecDepth 20000 in
theorem gX1_passWeeks_X1_passWeek : GoodIn wsX1_passWeeks (wsV RX1 76 RX1 yX1_passWeek wsX1_passWeek) := goodIn_app (goodIn_of _ (by decide +kernel)) ggX1_passWeeks_X1_passWeek
theorem dX1_passWeeks_0 : decode cX1_passWeeks 0 = .ok (.iconst 0, 1) := by decide +kernel
theorem dX1_passWeeks_1 : decode cX1_passWeeks 1 = .ok (.istore_n 3, 1) := by decide +kernel
theorem dX1_passWeeks_2 : decode cX1_passWeeks 2 = .ok (.iconst 0, 1) := by decide +kernel
theorem dX1_passWeeks_3 : decode cX1_passWeeks 3 = .ok (.istore 4, 2) := by decide +kernel
theorem dX1_passWeeks_5 : decode cX1_passWeeks 5 = .ok (.iload 4, 2) := by decide +kernel
theorem dX1_passWeeks_7 : decode cX1_passWeeks 7 = .ok (.iload_n 2, 1) := by decide +kernel
theorem dX1_passWeeks_8 : decode cX1_passWeeks 8 = .ok (.if_icmp .ge 17, 3) := by decide +kernel
theorem dX1_passWeeks_11 : decode cX1_passWeeks 11 = .ok (.iload_n 3, 1) := by decide +kernel
theorem dX1_passWeeks_12 : decode cX1_passWeeks 12 = .ok (.aload_n 0, 1) := by decide +kernel
theorem dX1_passWeeks_13 : decode cX1_passWeeks 13 = .ok (.aload_n 1, 1) := by decide +kernel
theorem dX1_passWeeks_14 : decode cX1_passWeeks 14 = .ok (.invokevirtual 76, 3) := by decide +kernel
theorem dX1_passWeeks_17 : decode cX1_passWeeks 17 = .ok (.iadd, 1) := by decide +kernel
theorem dX1_passWeeks_18 : decode cX1_passWeeks 18 = .ok (.istore_n 3, 1) := by decide +kernel
theorem dX1_passWeeks_19 : decode cX1_passWeeks 19 = .ok (.iinc 4 1, 3) := by decide +kernel
theorem dX1_passWeeks_22 : decode cX1_passWeeks 22 = .ok (.goto (-17), 3) := by decide +kernel
theorem dX1_passWeeks_25 : decode cX1_passWeeks 25 = .ok (.iload_n 3, 1) := by decide +kernel
theorem dX1_passWeeks_26 : decode cX1_passWeeks 26 = .ok (.ireturn, 1) := by decide +kernel
set_option maxRecDepth 20000 in
theorem ggX1_passToLastWeek_X1_passWeek : GoodIn wsX1_passToLastWeek wsX1_passWeek := goodIn_r _ [6, 7, 8, 9, 1, 10, 11, 12, 13, 14, 15, 16, 5, 17, 18, 19, 20, 21, 22, 23, 24, 25, 26, 27, 28, 29, 30, 31, 32, 33, 34, 35, 36, 37, 38, 39, 40, 41, 42, 43, 44, 45, 46, 47, 48, 49, 50, 51, 52, 53, 54, 55, 56, 57, 58, 59, 60, 61, 62, 63, 64, 65, 66, 67, 68, 69, 70, 71, 72, 73, 74, 75] (by decide +kernel) (by decide +kernel)
set_option maxRecDepth 20000 in
theorem gX1_passToLastWeek_X1_passWeek : GoodIn wsX1_passToLastWeek (wsV RX1 76 RX1 yX1_passWeek wsX1_passWeek) := goodIn_app (goodIn_of _ (by decide +kernel)) ggX1_passToLastWeek_X1_passWeek
theorem dX1_passToLastWeek_0 : decode cX1_passToLastWeek 0 = .ok (.iconst 0, 1) := by decide +kernel
theorem dX1_passToLastWeek_1 : decode cX1_passToLastWeek 1 = .ok (.istore_n 2, 1) := by decide +kernel
theorem dX1_passToLastWeek_2 : decode cX1_passToLastWeek 2 = .ok (.aload_n 0, 1) := by decide +kernel
theorem dX1_passToLastWeek_3 : decode cX1_passToLastWeek 3 = .ok (.getfield 46, 3) := by decide +kernel
theorem dX1_passToLastWeek_6 : decode cX1_passToLastWeek 6 = .ok (.istore_n 3, 1) := by decide +kernel
theorem dX1_passToLastWeek_7 : decode cX1_passToLastWeek 7 = .ok (.iload_n 3, 1) := by decide +kernel
theorem dX1_passToLastWeek_8 : decode cX1_passToLastWeek 8 = .ok (.bipush 9, 2) := by decide +kernel
theorem dX1_passToLastWeek_10 : decode cX1_passToLastWeek 10 = .ok (.if_icmp .gt 17, 3) := by decide +kernel
theorem dX1_passToLastWeek_13 : decode cX1_passToLastWeek 13 = .ok (.iload_n 2, 1) := by decide +kernel
theorem dX1_passToLastWeek_14 : decode cX1_passToLastWeek 14 = .ok (.aload_n 0, 1) := by decide +kernel
theorem dX1_passToLastWeek_15 : decode cX1_passToLastWeek 15 = .ok (.aload_n 1, 1) := by decide +kernel
theorem dX1_passToLastWeek_16 : decode cX1_passToLastWeek 16 = .ok (.invokevirtual 76, 3) := by decide +kernel
theorem dX1_passToLastWeek_19 : decode cX1_passToLastWeek 19 = .ok (.iadd, 1) := by decide +kernel
theorem dX1_passToLastWeek_20 : decode cX1_passToLastWeek 20 = .ok (.istore_n 2, 1) := by decide +kernel
theorem dX1_passToLastWeek_21 : decode cX1_passToLastWeek 21 = .ok (.iinc 3 1, 3) := by decide +kernel
theorem dX1_passToLastWeek_24 : decode cX1_passToLastWeek 24 = .ok (.goto (-17), 3) := by decide +kernel
theorem dX1_passToLastWeek_27 : decode cX1_passToLastWeek 27 = .ok (.iload_n 2, 1) := by decide +kernel
theorem dX1_passToLastWeek_28 : decode cX1_passToLastWeek 28 = .ok (.ireturn, 1) := by decide +kernel
set_option maxRecDepth 20000 in
theorem ggX1_passWeek_X1_befall : GoodIn wsX1_passWeek wsX1_befall := goodIn_r _ [13, 14, 15, 16, 17, 12, 18, 19, 20, 21, 22, 23, 24, 25, 26, 27, 28, 29, 30, 31, 32, 33, 34, 35, 36, 37, 38, 39, 40, 64, 65, 66, 67, 68, 69, 70, 71, 53, 54, 55, 56, 57, 58, 59, 60, 61, 62, 63] (by decide +kernel) (by decide +kernel)
set_option maxRecDepth 20000 in
theorem gX1_passWeek_X1_befall : GoodIn wsX1_passWeek (wsV RX1 80 RX1 yX1_befall wsX1_befall) := goodIn_app (goodIn_of _ (by decide +kernel)) ggX1_passWeek_X1_befall
set_option maxRecDepth 20000 in
theorem ggX1_passWeek_X1_meets : GoodIn wsX1_passWeek wsX1_meets := goodIn_r _ [44, 40, 32, 33, 34, 35, 31, 45, 21, 46, 1, 53, 54, 55, 56, 57, 58, 59, 60, 61, 62, 63] (by decide +kernel) (by decide +kernel)
set_option maxRecDepth 20000 in
theorem gX1_passWeek_X1_meets : GoodIn wsX1_passWeek (wsV RX1 96 RX1 yX1_meets wsX1_meets) := goodIn_app (goodIn_of _ (by decide +kernel)) ggX1_passWeek_X1_meets
set_option maxRecDepth 20000 in
theorem ggX1_passWeek_X1_closeWeek : GoodIn wsX1_passWeek wsX1_closeWeek := goodIn_r _ [50, 51, 40, 31, 52, 45, 32, 33, 34, 35, 4, 27, 28, 29, 12, 30, 53, 54, 55, 56, 57, 58, 59, 60, 61, 62, 63] (by decide +kernel) (by decide +kernel)
set_option maxRecDepth 20000 in
theorem gX1_passWeek_X1_closeWeek : GoodIn wsX1_passWeek (wsV RX1 99 RX1 yX1_closeWeek wsX1_closeWeek) := goodIn_app (goodIn_of _ (by decide +kernel)) ggX1_passWeek_X1_closeWeek
theorem dX1_passWeek_0 : decode cX1_passWeek 0 = .ok (.aload_n 0, 1) := by decide +kernel
theorem dX1_passWeek_1 : decode cX1_passWeek 1 = .ok (.iconst 0, 1) := by decide +kernel
theorem dX1_passWeek_2 : decode cX1_passWeek 2 = .ok (.putfield 49, 3) := by decide +kernel
theorem dX1_passWeek_5 : decode cX1_passWeek 5 = .ok (.iconst 0, 1) := by decide +kernel
theorem dX1_passWeek_6 : decode cX1_passWeek 6 = .ok (.istore_n 2, 1) := by decide +kernel
theorem dX1_passWeek_7 : decode cX1_passWeek 7 = .ok (.iload_n 2, 1) := by decide +kernel
theorem dX1_passWeek_8 : decode cX1_passWeek 8 = .ok (.aload_n 1, 1) := by decide +kernel
theorem dX1_passWeek_9 : decode cX1_passWeek 9 = .ok (.getfield 70, 3) := by decide +kernel
theorem dX1_passWeek_12 : decode cX1_passWeek 12 = .ok (.if_icmp .ge 28, 3) := by decide +kernel
theorem dX1_passWeek_15 : decode cX1_passWeek 15 = .ok (.aload_n 1, 1) := by decide +kernel
theorem dX1_passWeek_16 : decode cX1_passWeek 16 = .ok (.getfield 73, 3) := by decide +kernel
theorem dX1_passWeek_19 : decode cX1_passWeek 19 = .ok (.iload_n 2, 1) := by decide +kernel
theorem dX1_passWeek_20 : decode cX1_passWeek 20 = .ok (.iaload, 1) := by decide +kernel
theorem dX1_passWeek_21 : decode cX1_passWeek 21 = .ok (.aload_n 0, 1) := by decide +kernel
theorem dX1_passWeek_22 : decode cX1_passWeek 22 = .ok (.getfield 46, 3) := by decide +kernel
theorem dX1_passWeek_25 : decode cX1_passWeek 25 = .ok (.if_icmp .ne 9, 3) := by decide +kernel
theorem dX1_passWeek_28 : decode cX1_passWeek 28 = .ok (.aload_n 0, 1) := by decide +kernel
theorem dX1_passWeek_29 : decode cX1_passWeek 29 = .ok (.aload_n 1, 1) := by decide +kernel
theorem dX1_passWeek_30 : decode cX1_passWeek 30 = .ok (.iload_n 2, 1) := by decide +kernel
theorem dX1_passWeek_31 : decode cX1_passWeek 31 = .ok (.invokevirtual 80, 3) := by decide +kernel
theorem dX1_passWeek_34 : decode cX1_passWeek 34 = .ok (.iinc 2 1, 3) := by decide +kernel
theorem dX1_passWeek_37 : decode cX1_passWeek 37 = .ok (.goto (-30), 3) := by decide +kernel
theorem dX1_passWeek_40 : decode cX1_passWeek 40 = .ok (.iconst 0, 1) := by decide +kernel
theorem dX1_passWeek_41 : decode cX1_passWeek 41 = .ok (.istore_n 2, 1) := by decide +kernel
theorem dX1_passWeek_42 : decode cX1_passWeek 42 = .ok (.iconst 0, 1) := by decide +kernel
theorem dX1_passWeek_43 : decode cX1_passWeek 43 = .ok (.istore_n 3, 1) := by decide +kernel
theorem dX1_passWeek_44 : decode cX1_passWeek 44 = .ok (.iload_n 3, 1) := by decide +kernel
theorem dX1_passWeek_45 : decode cX1_passWeek 45 = .ok (.aload_n 1, 1) := by decide +kernel
theorem dX1_passWeek_46 : decode cX1_passWeek 46 = .ok (.getfield 84, 3) := by decide +kernel
theorem dX1_passWeek_49 : decode cX1_passWeek 49 = .ok (.if_icmp .ge 44, 3) := by decide +kernel
theorem dX1_passWeek_52 : decode cX1_passWeek 52 = .ok (.aload_n 1, 1) := by decide +kernel
theorem dX1_passWeek_53 : decode cX1_passWeek 53 = .ok (.getfield 87, 3) := by decide +kernel
theorem dX1_passWeek_56 : decode cX1_passWeek 56 = .ok (.iload_n 3, 1) := by decide +kernel
theorem dX1_passWeek_57 : decode cX1_passWeek 57 = .ok (.iaload, 1) := by decide +kernel
theorem dX1_passWeek_58 : decode cX1_passWeek 58 = .ok (.aload_n 0, 1) := by decide +kernel
theorem dX1_passWeek_59 : decode cX1_passWeek 59 = .ok (.getfield 46, 3) := by decide +kernel
theorem dX1_passWeek_62 : decode cX1_passWeek 62 = .ok (.if_icmp .ne 25, 3) := by decide +kernel
theorem dX1_passWeek_65 : decode cX1_passWeek 65 = .ok (.aload_n 0, 1) := by decide +kernel
theorem dX1_passWeek_66 : decode cX1_passWeek 66 = .ok (.aload_n 1, 1) := by decide +kernel
theorem dX1_passWeek_67 : decode cX1_passWeek 67 = .ok (.getfield 90, 3) := by decide +kernel
theorem dX1_passWeek_70 : decode cX1_passWeek 70 = .ok (.iload_n 3, 1) := by decide +kernel
theorem dX1_passWeek_71 : decode cX1_passWeek 71 = .ok (.iaload, 1) := by decide +kernel
theorem dX1_passWeek_72 : decode cX1_passWeek 72 = .ok (.aload_n 1, 1) := by decide +kernel
theorem dX1_passWeek_73 : decode cX1_passWeek 73 = .ok (.getfield 93, 3) := by decide +kernel
theorem dX1_passWeek_76 : decode cX1_passWeek 76 = .ok (.iload_n 3, 1) := by decide +kernel
theorem dX1_passWeek_77 : decode cX1_passWeek 77 = .ok (.iaload, 1) := by decide +kernel
theorem dX1_passWeek_78 : decode cX1_passWeek 78 = .ok (.invokevirtual 96, 3) := by decide +kernel
theorem dX1_passWeek_81 : decode cX1_passWeek 81 = .ok (.ifCond .ne 6, 3) := by decide +kernel
theorem dX1_passWeek_84 : decode cX1_passWeek 84 = .ok (.iinc 2 1, 3) := by decide +kernel
theorem dX1_passWeek_87 : decode cX1_passWeek 87 = .ok (.iinc 3 1, 3) := by decide +kernel
theorem dX1_passWeek_90 : decode cX1_passWeek 90 = .ok (.goto (-46), 3) := by decide +kernel
theorem dX1_passWeek_93 : decode cX1_passWeek 93 = .ok (.aload_n 0, 1) := by decide +kernel
theorem dX1_passWeek_94 : decode cX1_passWeek 94 = .ok (.invokevirtual 99, 3) := by decide +kernel
theorem dX1_passWeek_97 : decode cX1_passWeek 97 = .ok (.iload_n 2, 1) := by decide +kernel
theorem dX1_passWeek_98 : decode cX1_passWeek 98 = .ok (.ireturn, 1) := by decide +kernel
set_option maxRecDepth 20000 in
theorem ggX1_befall_X1_blushOf : GoodIn wsX1_befall wsX1_blushOf := goodIn_r _ [6, 7, 8, 9, 1, 29, 30, 31, 32, 33, 34, 35, 36, 37, 38, 39, 40, 41, 42, 43, 44, 45, 46, 47] (by decide +kernel) (by decide +kernel)
set_option maxRecDepth 20000 in
theorem gX1_befall_X1_blushOf : GoodIn wsX1_befall (wsV RX1 102 RX1 yX1_blushOf wsX1_blushOf) := goodIn_app (goodIn_of _ (by decide +kernel)) ggX1_befall_X1_blushOf
set_option maxRecDepth 20000 in
theorem ggX1_befall_X1_isDeposited : GoodIn wsX1_befall wsX1_isDeposited := goodIn_r _ [13, 14, 37, 38, 39, 40, 41, 42, 43, 44, 45, 46, 47] (by decide +kernel) (by decide +kernel)
set_option maxRecDepth 20000 in
theorem gX1_befall_X1_isDeposited : GoodIn wsX1_befall (wsV RX1 106 RX1 yX1_isDeposited wsX1_isDeposited) := goodIn_app (goodIn_of _ (by decide +kernel)) ggX1_befall_X1_isDeposited
set_option maxRecDepth 20000 in
theorem ggX1_befall_X1_putAtBank : GoodIn wsX1_befall wsX1_putAtBank := goodIn_r _ [18, 19, 20, 21, 22, 23, 37, 38, 39, 40, 41, 42, 43, 44, 45, 46, 47] (by decide +kernel) (by decide +kernel)
set_option maxRecDepth 20000 in
theorem gX1_befall_X1_putAtBank : GoodIn wsX1_befall (wsV RX1 110 RX1 yX1_putAtBank wsX1_putAtBank) := goodIn_app (goodIn_of _ (by decide +kernel)) ggX1_befall_X1_putAtBank
set_option maxRecDepth 20000 in
theorem ggX1_befall_X1_putInHand : GoodIn wsX1_befall wsX1_putInHand := goodIn_r _ [27, 28, 20, 21, 22, 23, 37, 38, 39, 40, 41, 42, 43, 44, 45, 46, 47] (by decide +kernel) (by decide +kernel)
set_option maxRecDepth 20000 in
theorem gX1_befall_X1_putInHand : GoodIn wsX1_befall (wsV RX1 114 RX1 yX1_putInHand wsX1_putInHand) := goodIn_app (goodIn_of _ (by decide +kernel)) ggX1_befall_X1_putInHand
theorem dX1_befall_0 : decode cX1_befall 0 = .ok (.aload_n 0, 1) := by decide +kernel
theorem dX1_befall_1 : decode cX1_befall 1 = .ok (.aload_n 1, 1) := by decide +kernel
theorem dX1_befall_2 : decode cX1_befall 2 = .ok (.iload_n 2, 1) := by decide +kernel
theorem dX1_befall_3 : decode cX1_befall 3 = .ok (.invokevirtual 102, 3) := by decide +kernel
theorem dX1_befall_6 : decode cX1_befall 6 = .ok (.istore_n 3, 1) := by decide +kernel
theorem dX1_befall_7 : decode cX1_befall 7 = .ok (.aload_n 0, 1) := by decide +kernel
theorem dX1_befall_8 : decode cX1_befall 8 = .ok (.iload_n 2, 1) := by decide +kernel
theorem dX1_befall_9 : decode cX1_befall 9 = .ok (.invokevirtual 106, 3) := by decide +kernel
theorem dX1_befall_12 : decode cX1_befall 12 = .ok (.ifCond .eq 17, 3) := by decide +kernel
theorem dX1_befall_15 : decode cX1_befall 15 = .ok (.aload_n 0, 1) := by decide +kernel
theorem dX1_befall_16 : decode cX1_befall 16 = .ok (.aload_n 1, 1) := by decide +kernel
theorem dX1_befall_17 : decode cX1_befall 17 = .ok (.getfield 57, 3) := by decide +kernel
theorem dX1_befall_20 : decode cX1_befall 20 = .ok (.iload_n 2, 1) := by decide +kernel
theorem dX1_befall_21 : decode cX1_befall 21 = .ok (.iaload, 1) := by decide +kernel
theorem dX1_befall_22 : decode cX1_befall 22 = .ok (.iload_n 3, 1) := by decide +kernel
theorem dX1_befall_23 : decode cX1_befall 23 = .ok (.invokevirtual 110, 3) := by decide +kernel
theorem dX1_befall_26 : decode cX1_befall 26 = .ok (.goto 14, 3) := by decide +kernel
theorem dX1_befall_29 : decode cX1_befall 29 = .ok (.aload_n 0, 1) := by decide +kernel
theorem dX1_befall_30 : decode cX1_befall 30 = .ok (.aload_n 1, 1) := by decide +kernel
theorem dX1_befall_31 : decode cX1_befall 31 = .ok (.getfield 57, 3) := by decide +kernel
theorem dX1_befall_34 : decode cX1_befall 34 = .ok (.iload_n 2, 1) := by decide +kernel
theorem dX1_befall_35 : decode cX1_befall 35 = .ok (.iaload, 1) := by decide +kernel
theorem dX1_befall_36 : decode cX1_befall 36 = .ok (.iload_n 3, 1) := by decide +kernel
theorem dX1_befall_37 : decode cX1_befall 37 = .ok (.invokevirtual 114, 3) := by decide +kernel
theorem dX1_befall_40 : decode cX1_befall 40 = .ok (.return_, 1) := by decide +kernel
theorem dX1_meets_0 : decode cX1_meets 0 = .ok (.aload_n 0, 1) := by decide +kernel
theorem dX1_meets_1 : decode cX1_meets 1 = .ok (.getfield 15, 3) := by decide +kernel
theorem dX1_meets_4 : decode cX1_meets 4 = .ok (.iload_n 1, 1) := by decide +kernel
theorem dX1_meets_5 : decode cX1_meets 5 = .ok (.iaload, 1) := by decide +kernel
theorem dX1_meets_6 : decode cX1_meets 6 = .ok (.iload_n 2, 1) := by decide +kernel
theorem dX1_meets_7 : decode cX1_meets 7 = .ok (.invokestatic 60, 3) := by decide +kernel
theorem dX1_meets_10 : decode cX1_meets 10 = .ok (.istore_n 3, 1) := by decide +kernel
theorem dX1_meets_11 : decode cX1_meets 11 = .ok (.iload_n 2, 1) := by decide +kernel
theorem dX1_meets_12 : decode cX1_meets 12 = .ok (.iload_n 3, 1) := by decide +kernel
theorem dX1_meets_13 : decode cX1_meets 13 = .ok (.isub, 1) := by decide +kernel
theorem dX1_meets_14 : decode cX1_meets 14 = .ok (.aload_n 0, 1) := by decide +kernel
theorem dX1_meets_15 : decode cX1_meets 15 = .ok (.getfield 18, 3) := by decide +kernel
theorem dX1_meets_18 : decode cX1_meets 18 = .ok (.iload_n 1, 1) := by decide +kernel
theorem dX1_meets_19 : decode cX1_meets 19 = .ok (.iaload, 1) := by decide +kernel
theorem dX1_meets_20 : decode cX1_meets 20 = .ok (.aload_n 0, 1) := by decide +kernel
theorem dX1_meets_21 : decode cX1_meets 21 = .ok (.getfield 31, 3) := by decide +kernel
theorem dX1_meets_24 : decode cX1_meets 24 = .ok (.invokestatic 60, 3) := by decide +kernel
theorem dX1_meets_27 : decode cX1_meets 27 = .ok (.invokestatic 60, 3) := by decide +kernel
theorem dX1_meets_30 : decode cX1_meets 30 = .ok (.istore 4, 2) := by decide +kernel
theorem dX1_meets_32 : decode cX1_meets 32 = .ok (.iload_n 2, 1) := by decide +kernel
theorem dX1_meets_33 : decode cX1_meets 33 = .ok (.iload_n 3, 1) := by decide +kernel
theorem dX1_meets_34 : decode cX1_meets 34 = .ok (.isub, 1) := by decide +kernel
theorem dX1_meets_35 : decode cX1_meets 35 = .ok (.iload 4, 2) := by decide +kernel
theorem dX1_meets_37 : decode cX1_meets 37 = .ok (.isub, 1) := by decide +kernel
theorem dX1_meets_38 : decode cX1_meets 38 = .ok (.istore 5, 2) := by decide +kernel
theorem dX1_meets_40 : decode cX1_meets 40 = .ok (.iconst 0, 1) := by decide +kernel
theorem dX1_meets_41 : decode cX1_meets 41 = .ok (.istore 6, 2) := by decide +kernel
theorem dX1_meets_43 : decode cX1_meets 43 = .ok (.aload_n 0, 1) := by decide +kernel
theorem dX1_meets_44 : decode cX1_meets 44 = .ok (.getfield 9, 3) := by decide +kernel
theorem dX1_meets_47 : decode cX1_meets 47 = .ok (.iload_n 1, 1) := by decide +kernel
theorem dX1_meets_48 : decode cX1_meets 48 = .ok (.iaload, 1) := by decide +kernel
theorem dX1_meets_49 : decode cX1_meets 49 = .ok (.iconst 2, 1) := by decide +kernel
theorem dX1_meets_50 : decode cX1_meets 50 = .ok (.if_icmp .ne 28, 3) := by decide +kernel
theorem dX1_meets_53 : decode cX1_meets 53 = .ok (.aload_n 0, 1) := by decide +kernel
theorem dX1_meets_54 : decode cX1_meets 54 = .ok (.getfield 18, 3) := by decide +kernel
theorem dX1_meets_57 : decode cX1_meets 57 = .ok (.iload_n 1, 1) := by decide +kernel
theorem dX1_meets_58 : decode cX1_meets 58 = .ok (.iaload, 1) := by decide +kernel
theorem dX1_meets_59 : decode cX1_meets 59 = .ok (.iload 4, 2) := by decide +kernel
theorem dX1_meets_61 : decode cX1_meets 61 = .ok (.if_icmp .ne 17, 3) := by decide +kernel
theorem dX1_meets_64 : decode cX1_meets 64 = .ok (.iload 5, 2) := by decide +kernel
theorem dX1_meets_66 : decode cX1_meets 66 = .ok (.aload_n 0, 1) := by decide +kernel
theorem dX1_meets_67 : decode cX1_meets 67 = .ok (.getfield 31, 3) := by decide +kernel
theorem dX1_meets_70 : decode cX1_meets 70 = .ok (.iload 4, 2) := by decide +kernel
theorem dX1_meets_72 : decode cX1_meets 72 = .ok (.isub, 1) := by decide +kernel
theorem dX1_meets_73 : decode cX1_meets 73 = .ok (.invokestatic 60, 3) := by decide +kernel
theorem dX1_meets_76 : decode cX1_meets 76 = .ok (.istore 6, 2) := by decide +kernel
theorem dX1_meets_78 : decode cX1_meets 78 = .ok (.iload 6, 2) := by decide +kernel
theorem dX1_meets_80 : decode cX1_meets 80 = .ok (.iload 5, 2) := by decide +kernel
theorem dX1_meets_82 : decode cX1_meets 82 = .ok (.if_icmp .ge 27, 3) := by decide +kernel
theorem dX1_meets_85 : decode cX1_meets 85 = .ok (.aload_n 0, 1) := by decide +kernel
theorem dX1_meets_86 : decode cX1_meets 86 = .ok (.getfield 21, 3) := by decide +kernel
theorem dX1_meets_89 : decode cX1_meets 89 = .ok (.iload_n 1, 1) := by decide +kernel
theorem dX1_meets_90 : decode cX1_meets 90 = .ok (.dup2, 1) := by decide +kernel
theorem dX1_meets_91 : decode cX1_meets 91 = .ok (.iaload, 1) := by decide +kernel
theorem dX1_meets_92 : decode cX1_meets 92 = .ok (.iconst 1, 1) := by decide +kernel
theorem dX1_meets_93 : decode cX1_meets 93 = .ok (.iadd, 1) := by decide +kernel
theorem dX1_meets_94 : decode cX1_meets 94 = .ok (.iastore, 1) := by decide +kernel
theorem dX1_meets_95 : decode cX1_meets 95 = .ok (.aload_n 0, 1) := by decide +kernel
theorem dX1_meets_96 : decode cX1_meets 96 = .ok (.dup, 1) := by decide +kernel
theorem dX1_meets_97 : decode cX1_meets 97 = .ok (.getfield 49, 3) := by decide +kernel
theorem dX1_meets_100 : decode cX1_meets 100 = .ok (.iconst 1, 1) := by decide +kernel
theorem dX1_meets_101 : decode cX1_meets 101 = .ok (.iload_n 1, 1) := by decide +kernel
theorem dX1_meets_102 : decode cX1_meets 102 = .ok (.ishl, 1) := by decide +kernel
theorem dX1_meets_103 : decode cX1_meets 103 = .ok (.ior, 1) := by decide +kernel
theorem dX1_meets_104 : decode cX1_meets 104 = .ok (.putfield 49, 3) := by decide +kernel
theorem dX1_meets_107 : decode cX1_meets 107 = .ok (.iconst 0, 1) := by decide +kernel
theorem dX1_meets_108 : decode cX1_meets 108 = .ok (.ireturn, 1) := by decide +kernel
theorem dX1_meets_109 : decode cX1_meets 109 = .ok (.aload_n 0, 1) := by decide +kernel
theorem dX1_meets_110 : decode cX1_meets 110 = .ok (.getfield 15, 3) := by decide +kernel
theorem dX1_meets_113 : decode cX1_meets 113 = .ok (.iload_n 1, 1) := by decide +kernel
theorem dX1_meets_114 : decode cX1_meets 114 = .ok (.dup2, 1) := by decide +kernel
theorem dX1_meets_115 : decode cX1_meets 115 = .ok (.iaload, 1) := by decide +kernel
theorem dX1_meets_116 : decode cX1_meets 116 = .ok (.iload_n 3, 1) := by decide +kernel
theorem dX1_meets_117 : decode cX1_meets 117 = .ok (.isub, 1) := by decide +kernel
theorem dX1_meets_118 : decode cX1_meets 118 = .ok (.iastore, 1) := by decide +kernel
theorem dX1_meets_119 : decode cX1_meets 119 = .ok (.aload_n 0, 1) := by decide +kernel
theorem dX1_meets_120 : decode cX1_meets 120 = .ok (.getfield 18, 3) := by decide +kernel
theorem dX1_meets_123 : decode cX1_meets 123 = .ok (.iload_n 1, 1) := by decide +kernel
theorem dX1_meets_124 : decode cX1_meets 124 = .ok (.dup2, 1) := by decide +kernel
theorem dX1_meets_125 : decode cX1_meets 125 = .ok (.iaload, 1) := by decide +kernel
theorem dX1_meets_126 : decode cX1_meets 126 = .ok (.iload 4, 2) := by decide +kernel
theorem dX1_meets_128 : decode cX1_meets 128 = .ok (.isub, 1) := by decide +kernel
theorem dX1_meets_129 : decode cX1_meets 129 = .ok (.iastore, 1) := by decide +kernel
theorem dX1_meets_130 : decode cX1_meets 130 = .ok (.aload_n 0, 1) := by decide +kernel
theorem dX1_meets_131 : decode cX1_meets 131 = .ok (.dup, 1) := by decide +kernel
theorem dX1_meets_132 : decode cX1_meets 132 = .ok (.getfield 31, 3) := by decide +kernel
theorem dX1_meets_135 : decode cX1_meets 135 = .ok (.iload 4, 2) := by decide +kernel
theorem dX1_meets_137 : decode cX1_meets 137 = .ok (.iload 6, 2) := by decide +kernel
theorem dX1_meets_139 : decode cX1_meets 139 = .ok (.iadd, 1) := by decide +kernel
theorem dX1_meets_140 : decode cX1_meets 140 = .ok (.isub, 1) := by decide +kernel
theorem dX1_meets_141 : decode cX1_meets 141 = .ok (.putfield 31, 3) := by decide +kernel
theorem dX1_meets_144 : decode cX1_meets 144 = .ok (.iconst 1, 1) := by decide +kernel
theorem dX1_meets_145 : decode cX1_meets 145 = .ok (.ireturn, 1) := by decide +kernel
set_option maxRecDepth 20000 in
theorem ggX1_closeWeek_X1_putAtBank : GoodIn wsX1_closeWeek wsX1_putAtBank := goodIn_r _ [15, 3, 6, 7, 8, 9, 16, 17, 18, 19, 20, 21, 22, 23, 24, 25, 26] (by decide +kernel) (by decide +kernel)
set_option maxRecDepth 20000 in
theorem gX1_closeWeek_X1_putAtBank : GoodIn wsX1_closeWeek (wsV RX1 110 RX1 yX1_putAtBank wsX1_putAtBank) := goodIn_app (goodIn_of _ (by decide +kernel)) ggX1_closeWeek_X1_putAtBank
theorem dX1_closeWeek_0 : decode cX1_closeWeek 0 = .ok (.iconst 0, 1) := by decide +kernel
theorem dX1_closeWeek_1 : decode cX1_closeWeek 1 = .ok (.istore_n 1, 1) := by decide +kernel
theorem dX1_closeWeek_2 : decode cX1_closeWeek 2 = .ok (.iload_n 1, 1) := by decide +kernel
theorem dX1_closeWeek_3 : decode cX1_closeWeek 3 = .ok (.aload_n 0, 1) := by decide +kernel
theorem dX1_closeWeek_4 : decode cX1_closeWeek 4 = .ok (.getfield 34, 3) := by decide +kernel
theorem dX1_closeWeek_7 : decode cX1_closeWeek 7 = .ok (.if_icmp .ge 49, 3) := by decide +kernel
theorem dX1_closeWeek_10 : decode cX1_closeWeek 10 = .ok (.aload_n 0, 1) := by decide +kernel
theorem dX1_closeWeek_11 : decode cX1_closeWeek 11 = .ok (.getfield 15, 3) := by decide +kernel
theorem dX1_closeWeek_14 : decode cX1_closeWeek 14 = .ok (.iload_n 1, 1) := by decide +kernel
theorem dX1_closeWeek_15 : decode cX1_closeWeek 15 = .ok (.dup2, 1) := by decide +kernel
theorem dX1_closeWeek_16 : decode cX1_closeWeek 16 = .ok (.iaload, 1) := by decide +kernel
theorem dX1_closeWeek_17 : decode cX1_closeWeek 17 = .ok (.aload_n 0, 1) := by decide +kernel
theorem dX1_closeWeek_18 : decode cX1_closeWeek 18 = .ok (.getfield 15, 3) := by decide +kernel
theorem dX1_closeWeek_21 : decode cX1_closeWeek 21 = .ok (.iload_n 1, 1) := by decide +kernel
theorem dX1_closeWeek_22 : decode cX1_closeWeek 22 = .ok (.iaload, 1) := by decide +kernel
theorem dX1_closeWeek_23 : decode cX1_closeWeek 23 = .ok (.bipush 9, 2) := by decide +kernel
theorem dX1_closeWeek_25 : decode cX1_closeWeek 25 = .ok (.iadd, 1) := by decide +kernel
theorem dX1_closeWeek_26 : decode cX1_closeWeek 26 = .ok (.bipush 10, 2) := by decide +kernel
theorem dX1_closeWeek_28 : decode cX1_closeWeek 28 = .ok (.idiv, 1) := by decide +kernel
theorem dX1_closeWeek_29 : decode cX1_closeWeek 29 = .ok (.isub, 1) := by decide +kernel
theorem dX1_closeWeek_30 : decode cX1_closeWeek 30 = .ok (.iastore, 1) := by decide +kernel
theorem dX1_closeWeek_31 : decode cX1_closeWeek 31 = .ok (.aload_n 0, 1) := by decide +kernel
theorem dX1_closeWeek_32 : decode cX1_closeWeek 32 = .ok (.iload_n 1, 1) := by decide +kernel
theorem dX1_closeWeek_33 : decode cX1_closeWeek 33 = .ok (.aload_n 0, 1) := by decide +kernel
theorem dX1_closeWeek_34 : decode cX1_closeWeek 34 = .ok (.getfield 18, 3) := by decide +kernel
theorem dX1_closeWeek_37 : decode cX1_closeWeek 37 = .ok (.iload_n 1, 1) := by decide +kernel
theorem dX1_closeWeek_38 : decode cX1_closeWeek 38 = .ok (.iaload, 1) := by decide +kernel
theorem dX1_closeWeek_39 : decode cX1_closeWeek 39 = .ok (.aload_n 0, 1) := by decide +kernel
theorem dX1_closeWeek_40 : decode cX1_closeWeek 40 = .ok (.getfield 27, 3) := by decide +kernel
theorem dX1_closeWeek_43 : decode cX1_closeWeek 43 = .ok (.imul, 1) := by decide +kernel
theorem dX1_closeWeek_44 : decode cX1_closeWeek 44 = .ok (.bipush 10, 2) := by decide +kernel
theorem dX1_closeWeek_46 : decode cX1_closeWeek 46 = .ok (.idiv, 1) := by decide +kernel
theorem dX1_closeWeek_47 : decode cX1_closeWeek 47 = .ok (.invokevirtual 110, 3) := by decide +kernel
theorem dX1_closeWeek_50 : decode cX1_closeWeek 50 = .ok (.iinc 1 1, 3) := by decide +kernel
theorem dX1_closeWeek_53 : decode cX1_closeWeek 53 = .ok (.goto (-51), 3) := by decide +kernel
theorem dX1_closeWeek_56 : decode cX1_closeWeek 56 = .ok (.aload_n 0, 1) := by decide +kernel
theorem dX1_closeWeek_57 : decode cX1_closeWeek 57 = .ok (.bipush 99, 2) := by decide +kernel
theorem dX1_closeWeek_59 : decode cX1_closeWeek 59 = .ok (.aload_n 0, 1) := by decide +kernel
theorem dX1_closeWeek_60 : decode cX1_closeWeek 60 = .ok (.getfield 31, 3) := by decide +kernel
theorem dX1_closeWeek_63 : decode cX1_closeWeek 63 = .ok (.iconst 1, 1) := by decide +kernel
theorem dX1_closeWeek_64 : decode cX1_closeWeek 64 = .ok (.iadd, 1) := by decide +kernel
theorem dX1_closeWeek_65 : decode cX1_closeWeek 65 = .ok (.invokestatic 60, 3) := by decide +kernel
theorem dX1_closeWeek_68 : decode cX1_closeWeek 68 = .ok (.putfield 31, 3) := by decide +kernel
theorem dX1_closeWeek_71 : decode cX1_closeWeek 71 = .ok (.aload_n 0, 1) := by decide +kernel
theorem dX1_closeWeek_72 : decode cX1_closeWeek 72 = .ok (.dup, 1) := by decide +kernel
theorem dX1_closeWeek_73 : decode cX1_closeWeek 73 = .ok (.getfield 46, 3) := by decide +kernel
theorem dX1_closeWeek_76 : decode cX1_closeWeek 76 = .ok (.iconst 1, 1) := by decide +kernel
theorem dX1_closeWeek_77 : decode cX1_closeWeek 77 = .ok (.iadd, 1) := by decide +kernel
theorem dX1_closeWeek_78 : decode cX1_closeWeek 78 = .ok (.putfield 46, 3) := by decide +kernel
theorem dX1_closeWeek_81 : decode cX1_closeWeek 81 = .ok (.return_, 1) := by decide +kernel
set_option maxRecDepth 20000 in
theorem ggX1_runToCounter_X1_putInHand : GoodIn wsX1_runToCounter wsX1_putInHand := goodIn_r _ [8, 9, 10, 11, 12, 13, 14, 15, 16, 17, 18, 19, 20, 21, 22, 23, 24] (by decide +kernel) (by decide +kernel)
set_option maxRecDepth 20000 in
theorem gX1_runToCounter_X1_putInHand : GoodIn wsX1_runToCounter (wsV RX1 114 RX1 yX1_putInHand wsX1_putInHand) := goodIn_app (goodIn_of _ (by decide +kernel)) ggX1_runToCounter_X1_putInHand
theorem dX1_runToCounter_0 : decode cX1_runToCounter 0 = .ok (.iconst 0, 1) := by decide +kernel
theorem dX1_runToCounter_1 : decode cX1_runToCounter 1 = .ok (.istore_n 1, 1) := by decide +kernel
theorem dX1_runToCounter_2 : decode cX1_runToCounter 2 = .ok (.iload_n 1, 1) := by decide +kernel
theorem dX1_runToCounter_3 : decode cX1_runToCounter 3 = .ok (.aload_n 0, 1) := by decide +kernel
theorem dX1_runToCounter_4 : decode cX1_runToCounter 4 = .ok (.getfield 34, 3) := by decide +kernel
theorem dX1_runToCounter_7 : decode cX1_runToCounter 7 = .ok (.if_icmp .ge 55, 3) := by decide +kernel
theorem dX1_runToCounter_10 : decode cX1_runToCounter 10 = .ok (.aload_n 0, 1) := by decide +kernel
theorem dX1_runToCounter_11 : decode cX1_runToCounter 11 = .ok (.getfield 18, 3) := by decide +kernel
theorem dX1_runToCounter_14 : decode cX1_runToCounter 14 = .ok (.iload_n 1, 1) := by decide +kernel
theorem dX1_runToCounter_15 : decode cX1_runToCounter 15 = .ok (.iaload, 1) := by decide +kernel
theorem dX1_runToCounter_16 : decode cX1_runToCounter 16 = .ok (.aload_n 0, 1) := by decide +kernel
theorem dX1_runToCounter_17 : decode cX1_runToCounter 17 = .ok (.getfield 31, 3) := by decide +kernel
theorem dX1_runToCounter_20 : decode cX1_runToCounter 20 = .ok (.if_icmp .gt 36, 3) := by decide +kernel
theorem dX1_runToCounter_23 : decode cX1_runToCounter 23 = .ok (.aload_n 0, 1) := by decide +kernel
theorem dX1_runToCounter_24 : decode cX1_runToCounter 24 = .ok (.dup, 1) := by decide +kernel
theorem dX1_runToCounter_25 : decode cX1_runToCounter 25 = .ok (.getfield 31, 3) := by decide +kernel
theorem dX1_runToCounter_28 : decode cX1_runToCounter 28 = .ok (.aload_n 0, 1) := by decide +kernel
theorem dX1_runToCounter_29 : decode cX1_runToCounter 29 = .ok (.getfield 18, 3) := by decide +kernel
theorem dX1_runToCounter_32 : decode cX1_runToCounter 32 = .ok (.iload_n 1, 1) := by decide +kernel
theorem dX1_runToCounter_33 : decode cX1_runToCounter 33 = .ok (.iaload, 1) := by decide +kernel
theorem dX1_runToCounter_34 : decode cX1_runToCounter 34 = .ok (.isub, 1) := by decide +kernel
theorem dX1_runToCounter_35 : decode cX1_runToCounter 35 = .ok (.putfield 31, 3) := by decide +kernel
theorem dX1_runToCounter_38 : decode cX1_runToCounter 38 = .ok (.aload_n 0, 1) := by decide +kernel
theorem dX1_runToCounter_39 : decode cX1_runToCounter 39 = .ok (.iload_n 1, 1) := by decide +kernel
theorem dX1_runToCounter_40 : decode cX1_runToCounter 40 = .ok (.aload_n 0, 1) := by decide +kernel
theorem dX1_runToCounter_41 : decode cX1_runToCounter 41 = .ok (.getfield 18, 3) := by decide +kernel
theorem dX1_runToCounter_44 : decode cX1_runToCounter 44 = .ok (.iload_n 1, 1) := by decide +kernel
theorem dX1_runToCounter_45 : decode cX1_runToCounter 45 = .ok (.iaload, 1) := by decide +kernel
theorem dX1_runToCounter_46 : decode cX1_runToCounter 46 = .ok (.invokevirtual 114, 3) := by decide +kernel
theorem dX1_runToCounter_49 : decode cX1_runToCounter 49 = .ok (.aload_n 0, 1) := by decide +kernel
theorem dX1_runToCounter_50 : decode cX1_runToCounter 50 = .ok (.getfield 18, 3) := by decide +kernel
theorem dX1_runToCounter_53 : decode cX1_runToCounter 53 = .ok (.iload_n 1, 1) := by decide +kernel
theorem dX1_runToCounter_54 : decode cX1_runToCounter 54 = .ok (.iconst 0, 1) := by decide +kernel
theorem dX1_runToCounter_55 : decode cX1_runToCounter 55 = .ok (.iastore, 1) := by decide +kernel
theorem dX1_runToCounter_56 : decode cX1_runToCounter 56 = .ok (.iinc 1 1, 3) := by decide +kernel
theorem dX1_runToCounter_59 : decode cX1_runToCounter 59 = .ok (.goto (-57), 3) := by decide +kernel
theorem dX1_runToCounter_62 : decode cX1_runToCounter 62 = .ok (.return_, 1) := by decide +kernel
theorem dX1_whoHasNothingThere_0 : decode cX1_whoHasNothingThere 0 = .ok (.iconst 0, 1) := by decide +kernel
theorem dX1_whoHasNothingThere_1 : decode cX1_whoHasNothingThere 1 = .ok (.istore_n 1, 1) := by decide +kernel
theorem dX1_whoHasNothingThere_2 : decode cX1_whoHasNothingThere 2 = .ok (.iconst 0, 1) := by decide +kernel
theorem dX1_whoHasNothingThere_3 : decode cX1_whoHasNothingThere 3 = .ok (.istore_n 2, 1) := by decide +kernel
theorem dX1_whoHasNothingThere_4 : decode cX1_whoHasNothingThere 4 = .ok (.iload_n 2, 1) := by decide +kernel
theorem dX1_whoHasNothingThere_5 : decode cX1_whoHasNothingThere 5 = .ok (.aload_n 0, 1) := by decide +kernel
theorem dX1_whoHasNothingThere_6 : decode cX1_whoHasNothingThere 6 = .ok (.getfield 34, 3) := by decide +kernel
theorem dX1_whoHasNothingThere_9 : decode cX1_whoHasNothingThere 9 = .ok (.if_icmp .ge 24, 3) := by decide +kernel
theorem dX1_whoHasNothingThere_12 : decode cX1_whoHasNothingThere 12 = .ok (.aload_n 0, 1) := by decide +kernel
theorem dX1_whoHasNothingThere_13 : decode cX1_whoHasNothingThere 13 = .ok (.getfield 18, 3) := by decide +kernel
theorem dX1_whoHasNothingThere_16 : decode cX1_whoHasNothingThere 16 = .ok (.iload_n 2, 1) := by decide +kernel
theorem dX1_whoHasNothingThere_17 : decode cX1_whoHasNothingThere 17 = .ok (.iaload, 1) := by decide +kernel
theorem dX1_whoHasNothingThere_18 : decode cX1_whoHasNothingThere 18 = .ok (.ifCond .ne 9, 3) := by decide +kernel
theorem dX1_whoHasNothingThere_21 : decode cX1_whoHasNothingThere 21 = .ok (.iload_n 1, 1) := by decide +kernel
theorem dX1_whoHasNothingThere_22 : decode cX1_whoHasNothingThere 22 = .ok (.iconst 1, 1) := by decide +kernel
theorem dX1_whoHasNothingThere_23 : decode cX1_whoHasNothingThere 23 = .ok (.iload_n 2, 1) := by decide +kernel
theorem dX1_whoHasNothingThere_24 : decode cX1_whoHasNothingThere 24 = .ok (.ishl, 1) := by decide +kernel
theorem dX1_whoHasNothingThere_25 : decode cX1_whoHasNothingThere 25 = .ok (.ior, 1) := by decide +kernel
theorem dX1_whoHasNothingThere_26 : decode cX1_whoHasNothingThere 26 = .ok (.istore_n 1, 1) := by decide +kernel
theorem dX1_whoHasNothingThere_27 : decode cX1_whoHasNothingThere 27 = .ok (.iinc 2 1, 3) := by decide +kernel
theorem dX1_whoHasNothingThere_30 : decode cX1_whoHasNothingThere 30 = .ok (.goto (-26), 3) := by decide +kernel
theorem dX1_whoHasNothingThere_33 : decode cX1_whoHasNothingThere 33 = .ok (.iload_n 1, 1) := by decide +kernel
theorem dX1_whoHasNothingThere_34 : decode cX1_whoHasNothingThere 34 = .ok (.ireturn, 1) := by decide +kernel
theorem dX1_sumInHand_0 : decode cX1_sumInHand 0 = .ok (.iconst 0, 1) := by decide +kernel
theorem dX1_sumInHand_1 : decode cX1_sumInHand 1 = .ok (.istore_n 1, 1) := by decide +kernel
theorem dX1_sumInHand_2 : decode cX1_sumInHand 2 = .ok (.iconst 0, 1) := by decide +kernel
theorem dX1_sumInHand_3 : decode cX1_sumInHand 3 = .ok (.istore_n 2, 1) := by decide +kernel
theorem dX1_sumInHand_4 : decode cX1_sumInHand 4 = .ok (.iload_n 2, 1) := by decide +kernel
theorem dX1_sumInHand_5 : decode cX1_sumInHand 5 = .ok (.aload_n 0, 1) := by decide +kernel
theorem dX1_sumInHand_6 : decode cX1_sumInHand 6 = .ok (.getfield 34, 3) := by decide +kernel
theorem dX1_sumInHand_9 : decode cX1_sumInHand 9 = .ok (.if_icmp .ge 18, 3) := by decide +kernel
theorem dX1_sumInHand_12 : decode cX1_sumInHand 12 = .ok (.iload_n 1, 1) := by decide +kernel
theorem dX1_sumInHand_13 : decode cX1_sumInHand 13 = .ok (.aload_n 0, 1) := by decide +kernel
theorem dX1_sumInHand_14 : decode cX1_sumInHand 14 = .ok (.getfield 15, 3) := by decide +kernel
theorem dX1_sumInHand_17 : decode cX1_sumInHand 17 = .ok (.iload_n 2, 1) := by decide +kernel
theorem dX1_sumInHand_18 : decode cX1_sumInHand 18 = .ok (.iaload, 1) := by decide +kernel
theorem dX1_sumInHand_19 : decode cX1_sumInHand 19 = .ok (.iadd, 1) := by decide +kernel
theorem dX1_sumInHand_20 : decode cX1_sumInHand 20 = .ok (.istore_n 1, 1) := by decide +kernel
theorem dX1_sumInHand_21 : decode cX1_sumInHand 21 = .ok (.iinc 2 1, 3) := by decide +kernel
theorem dX1_sumInHand_24 : decode cX1_sumInHand 24 = .ok (.goto (-20), 3) := by decide +kernel
theorem dX1_sumInHand_27 : decode cX1_sumInHand 27 = .ok (.iload_n 1, 1) := by decide +kernel
theorem dX1_sumInHand_28 : decode cX1_sumInHand 28 = .ok (.ireturn, 1) := by decide +kernel
theorem dX1_sumAtBank_0 : decode cX1_sumAtBank 0 = .ok (.iconst 0, 1) := by decide +kernel
theorem dX1_sumAtBank_1 : decode cX1_sumAtBank 1 = .ok (.istore_n 1, 1) := by decide +kernel
theorem dX1_sumAtBank_2 : decode cX1_sumAtBank 2 = .ok (.iconst 0, 1) := by decide +kernel
theorem dX1_sumAtBank_3 : decode cX1_sumAtBank 3 = .ok (.istore_n 2, 1) := by decide +kernel
theorem dX1_sumAtBank_4 : decode cX1_sumAtBank 4 = .ok (.iload_n 2, 1) := by decide +kernel
theorem dX1_sumAtBank_5 : decode cX1_sumAtBank 5 = .ok (.aload_n 0, 1) := by decide +kernel
theorem dX1_sumAtBank_6 : decode cX1_sumAtBank 6 = .ok (.getfield 34, 3) := by decide +kernel
theorem dX1_sumAtBank_9 : decode cX1_sumAtBank 9 = .ok (.if_icmp .ge 18, 3) := by decide +kernel
theorem dX1_sumAtBank_12 : decode cX1_sumAtBank 12 = .ok (.iload_n 1, 1) := by decide +kernel
theorem dX1_sumAtBank_13 : decode cX1_sumAtBank 13 = .ok (.aload_n 0, 1) := by decide +kernel
theorem dX1_sumAtBank_14 : decode cX1_sumAtBank 14 = .ok (.getfield 18, 3) := by decide +kernel
theorem dX1_sumAtBank_17 : decode cX1_sumAtBank 17 = .ok (.iload_n 2, 1) := by decide +kernel
theorem dX1_sumAtBank_18 : decode cX1_sumAtBank 18 = .ok (.iaload, 1) := by decide +kernel
theorem dX1_sumAtBank_19 : decode cX1_sumAtBank 19 = .ok (.iadd, 1) := by decide +kernel
theorem dX1_sumAtBank_20 : decode cX1_sumAtBank 20 = .ok (.istore_n 1, 1) := by decide +kernel
theorem dX1_sumAtBank_21 : decode cX1_sumAtBank 21 = .ok (.iinc 2 1, 3) := by decide +kernel
theorem dX1_sumAtBank_24 : decode cX1_sumAtBank 24 = .ok (.goto (-20), 3) := by decide +kernel
theorem dX1_sumAtBank_27 : decode cX1_sumAtBank 27 = .ok (.iload_n 1, 1) := by decide +kernel
theorem dX1_sumAtBank_28 : decode cX1_sumAtBank 28 = .ok (.ireturn, 1) := by decide +kernel
theorem dX2_init_0 : decode cX2_init 0 = .ok (.aload_n 0, 1) := by decide +kernel
theorem dX2_init_1 : decode cX2_init 1 = .ok (.invokespecial 3, 3) := by decide +kernel
theorem dX2_init_4 : decode cX2_init 4 = .ok (.aload_n 0, 1) := by decide +kernel
theorem dX2_init_5 : decode cX2_init 5 = .ok (.bipush 6, 2) := by decide +kernel
theorem dX2_init_7 : decode cX2_init 7 = .ok (.newarray .int, 2) := by decide +kernel
theorem dX2_init_9 : decode cX2_init 9 = .ok (.putfield 9, 3) := by decide +kernel
theorem dX2_init_12 : decode cX2_init 12 = .ok (.aload_n 0, 1) := by decide +kernel
theorem dX2_init_13 : decode cX2_init 13 = .ok (.bipush 6, 2) := by decide +kernel
theorem dX2_init_15 : decode cX2_init 15 = .ok (.newarray .int, 2) := by decide +kernel
theorem dX2_init_17 : decode cX2_init 17 = .ok (.putfield 15, 3) := by decide +kernel
theorem dX2_init_20 : decode cX2_init 20 = .ok (.aload_n 0, 1) := by decide +kernel
theorem dX2_init_21 : decode cX2_init 21 = .ok (.bipush 6, 2) := by decide +kernel
theorem dX2_init_23 : decode cX2_init 23 = .ok (.newarray .int, 2) := by decide +kernel
theorem dX2_init_25 : decode cX2_init 25 = .ok (.putfield 18, 3) := by decide +kernel
theorem dX2_init_28 : decode cX2_init 28 = .ok (.return_, 1) := by decide +kernel
theorem dX2_append_0 : decode cX2_append 0 = .ok (.aload_n 0, 1) := by decide +kernel
theorem dX2_append_1 : decode cX2_append 1 = .ok (.getfield 21, 3) := by decide +kernel
theorem dX2_append_4 : decode cX2_append 4 = .ok (.bipush 6, 2) := by decide +kernel
theorem dX2_append_6 : decode cX2_append 6 = .ok (.if_icmp .lt 6, 3) := by decide +kernel
theorem dX2_append_9 : decode cX2_append 9 = .ok (.bipush (-3), 2) := by decide +kernel
theorem dX2_append_11 : decode cX2_append 11 = .ok (.ireturn, 1) := by decide +kernel
theorem dX2_append_12 : decode cX2_append 12 = .ok (.aload_n 0, 1) := by decide +kernel
theorem dX2_append_13 : decode cX2_append 13 = .ok (.getfield 9, 3) := by decide +kernel
