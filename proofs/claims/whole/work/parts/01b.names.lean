def wsX11_singNow : List Cond := .code yX11_singNow cX11_singNow 3 (some .boolean) :: ([.fieldLink RX11 80 "TuneAndWordsModel" "deed" "[I", .fieldLink RX11 83 "TuneAndWordsModel" "deedOften" "[I", .methodLink RX11 274 yX11_canSing, .instanceMethod yX11_canSing, .selects RX11 yX11_canSing yX11_canSing, .initialized RX11, .code yX11_canSing cX11_canSing 3 (some .boolean), .methodLink RX11 183 yX11_whoHas, .instanceMethod yX11_whoHas, .selects RX11 yX11_whoHas yX11_whoHas, .code yX11_whoHas cX11_whoHas 6 (some .int), .methodLink RX11 145 yX11_bitAt, .instanceMethod yX11_bitAt, .selects RX11 yX11_bitAt yX11_bitAt, .code yX11_bitAt cX11_bitAt 5 (some .int), .fieldLink RX11 24 "TuneAndWordsModel" "have" "[I", .methodLink RX11 135 yX11_rowOf, .static yX11_rowOf, .code yX11_rowOf cX11_rowOf 3 (some .int)] ++ wsX110)
def wsX11_begin_r1 : List Cond := [Cond.fieldLink RX11 80 "TuneAndWordsModel" "deed" "[I", Cond.fieldLink RX11 83 "TuneAndWordsModel" "deedOften" "[I", Cond.methodLink RX11 142 yX11_isLine, Cond.instanceMethod yX11_isLine, Cond.selects RX11 yX11_isLine yX11_isLine, Cond.initialized RX11, Cond.code yX11_isLine cX11_isLine 2 (some .boolean), Cond.fieldLink RX11 9 "TuneAndWordsModel" "lined1" "[I", Cond.methodLink RX11 122 yX11_isSong, Cond.static yX11_isSong, Cond.code yX11_isSong cX11_isSong 1 (some .boolean), Cond.methodLink RX11 118 yX11_in, Cond.static yX11_in, Cond.code yX11_in cX11_in 3 (some .boolean), Cond.methodLink RX11 331 yX11_singNow, Cond.instanceMethod yX11_singNow, Cond.selects RX11 yX11_singNow yX11_singNow, Cond.code yX11_singNow cX11_singNow 3 (some .boolean), Cond.methodLink RX11 274 yX11_canSing, Cond.instanceMethod yX11_canSing, Cond.selects RX11 yX11_canSing yX11_canSing, Cond.code yX11_canSing cX11_canSing 3 (some .boolean), Cond.methodLink RX11 183 yX11_whoHas, Cond.instanceMethod yX11_whoHas]
def wsX11_begin_r2 : List Cond := [Cond.selects RX11 yX11_whoHas yX11_whoHas, Cond.code yX11_whoHas cX11_whoHas 6 (some .int), Cond.methodLink RX11 145 yX11_bitAt, Cond.instanceMethod yX11_bitAt, Cond.selects RX11 yX11_bitAt yX11_bitAt, Cond.code yX11_bitAt cX11_bitAt 5 (some .int), Cond.fieldLink RX11 24 "TuneAndWordsModel" "have" "[I", Cond.methodLink RX11 135 yX11_rowOf, Cond.static yX11_rowOf, Cond.code yX11_rowOf cX11_rowOf 3 (some .int)]
def wsX11_begin : List Cond := .code yX11_begin cX11_begin 3 (some .int) :: ((wsX11_begin_r1 ++ wsX11_begin_r2) ++ wsX110)
def wsX11_on_r1 : List Cond := [Cond.fieldLink RX11 80 "TuneAndWordsModel" "deed" "[I", Cond.fieldLink RX11 68 "TuneAndWordsModel" "sungOften" "[I", Cond.fieldLink RX11 83 "TuneAndWordsModel" "deedOften" "[I", Cond.methodLink RX11 280 yX11_nextOf, Cond.instanceMethod yX11_nextOf, Cond.selects RX11 yX11_nextOf yX11_nextOf, Cond.initialized RX11, Cond.code yX11_nextOf cX11_nextOf 8 (some .int), Cond.fieldLink RX11 9 "TuneAndWordsModel" "lined1" "[I", Cond.fieldLink RX11 262 "TuneAndWordsModel" "nextBy" "I", Cond.methodLink RX11 145 yX11_bitAt, Cond.instanceMethod yX11_bitAt, Cond.selects RX11 yX11_bitAt yX11_bitAt, Cond.code yX11_bitAt cX11_bitAt 5 (some .int), Cond.fieldLink RX11 24 "TuneAndWordsModel" "have" "[I", Cond.methodLink RX11 135 yX11_rowOf, Cond.static yX11_rowOf, Cond.code yX11_rowOf cX11_rowOf 3 (some .int), Cond.methodLink RX11 259 yX11_comesTo, Cond.instanceMethod yX11_comesTo, Cond.selects RX11 yX11_comesTo yX11_comesTo, Cond.code yX11_comesTo cX11_comesTo 9 (some .int), Cond.fieldLink RX11 15 "TuneAndWordsModel" "tune" "[I", Cond.fieldLink RX11 18 "TuneAndWordsModel" "word" "[I"]
def wsX11_on_r2 : List Cond := [Cond.fieldLink RX11 21 "TuneAndWordsModel" "rhyme" "[I", Cond.fieldLink RX11 252 "TuneAndWordsModel" "hasLaw" "Z", Cond.fieldLink RX11 62 "TuneAndWordsModel" "facts" "[I", Cond.fieldLink RX11 27 "TuneAndWordsModel" "sure1" "[I", Cond.methodLink RX11 256 yX11_gives, Cond.instanceMethod yX11_gives, Cond.selects RX11 yX11_gives yX11_gives, Cond.code yX11_gives cX11_gives 4 (some .int), Cond.fieldLink RX11 52 "TuneAndWordsModel" "lineMany" "[I", Cond.fieldLink RX11 55 "TuneAndWordsModel" "testEnd" "[S", Cond.fieldLink RX11 59 "TuneAndWordsModel" "lineEnd" "[S", Cond.methodLink RX11 246 yX11_worked, Cond.instanceMethod yX11_worked, Cond.selects RX11 yX11_worked yX11_worked, Cond.code yX11_worked cX11_worked 7 (some .int), Cond.fieldLink RX11 46 "TuneAndWordsModel" "act" "[B", Cond.fieldLink RX11 65 "TuneAndWordsModel" "pile" "[I", Cond.fieldLink RX11 49 "TuneAndWordsModel" "with" "[I", Cond.methodLink RX11 243 yX11_twoOf, Cond.static yX11_twoOf, Cond.code yX11_twoOf cX11_twoOf 3 (some .int), Cond.methodLink RX11 331 yX11_singNow, Cond.instanceMethod yX11_singNow, Cond.selects RX11 yX11_singNow yX11_singNow]
def wsX11_on_r3 : List Cond := [Cond.code yX11_singNow cX11_singNow 3 (some .boolean), Cond.methodLink RX11 274 yX11_canSing, Cond.instanceMethod yX11_canSing, Cond.selects RX11 yX11_canSing yX11_canSing, Cond.code yX11_canSing cX11_canSing 3 (some .boolean), Cond.methodLink RX11 183 yX11_whoHas, Cond.instanceMethod yX11_whoHas, Cond.selects RX11 yX11_whoHas yX11_whoHas, Cond.code yX11_whoHas cX11_whoHas 6 (some .int)]
def wsX11_on : List Cond := .code yX11_on cX11_on 2 (some .int) :: ((wsX11_on_r1 ++ (wsX11_on_r2 ++ wsX11_on_r3)) ++ wsX110)
def wsX11_led : List Cond := .code yX11_led cX11_led 2 (some .int) :: ([.fieldLink RX11 80 "TuneAndWordsModel" "deed" "[I", .methodLink RX11 118 yX11_in, .static yX11_in, .initialized RX11, .code yX11_in cX11_in 3 (some .boolean)] ++ wsX110)
def wsX11_image : List Cond := .code yX11_image cX11_image 2 (some .int) :: ([.fieldLink RX11 334 "TuneAndWordsModel" "hasImage" "Z", .fieldLink RX11 86 "TuneAndWordsModel" "imageDeed" "[I", .fieldLink RX11 80 "TuneAndWordsModel" "deed" "[I", .fieldLink RX11 89 "TuneAndWordsModel" "imageOften" "[I", .fieldLink RX11 83 "TuneAndWordsModel" "deedOften" "[I", .fieldLink RX11 92 "TuneAndWordsModel" "imageHave" "[I", .fieldLink RX11 24 "TuneAndWordsModel" "have" "[I"] ++ wsX110)
def wsX11_back : List Cond := .code yX11_back cX11_back 2 (some .int) :: ([.fieldLink RX11 334 "TuneAndWordsModel" "hasImage" "Z", .fieldLink RX11 80 "TuneAndWordsModel" "deed" "[I", .fieldLink RX11 86 "TuneAndWordsModel" "imageDeed" "[I", .fieldLink RX11 83 "TuneAndWordsModel" "deedOften" "[I", .fieldLink RX11 89 "TuneAndWordsModel" "imageOften" "[I", .fieldLink RX11 24 "TuneAndWordsModel" "have" "[I", .fieldLink RX11 92 "TuneAndWordsModel" "imageHave" "[I"] ++ wsX110)
def wsX11_isBody : List Cond := .code yX11_isBody cX11_isBody 2 (some .boolean) :: ([.fieldLink RX11 337 "TuneAndWordsModel" "bodies" "I", .methodLink RX11 118 yX11_in, .static yX11_in, .initialized RX11, .code yX11_in cX11_in 3 (some .boolean)] ++ wsX110)
def wsX11_ran : List Cond := .code yX11_ran cX11_ran 2 none :: ([.fieldLink RX11 340 "TuneAndWordsModel" "traces" "I", .fieldLink RX11 98 "TuneAndWordsModel" "traced" "[I"] ++ wsX110)
def wsX11_trace : List Cond := .code yX11_trace cX11_trace 2 (some .int) :: ([.fieldLink RX11 340 "TuneAndWordsModel" "traces" "I", .fieldLink RX11 98 "TuneAndWordsModel" "traced" "[I"] ++ wsX110)
def wsX11_body : List Cond := .code yX11_body cX11_body 2 (some .int) :: ([.fieldLink RX11 337 "TuneAndWordsModel" "bodies" "I", .fieldLink RX11 95 "TuneAndWordsModel" "kind" "[I", .methodLink RX11 118 yX11_in, .static yX11_in, .initialized RX11, .code yX11_in cX11_in 3 (some .boolean)] ++ wsX110)
def wsX11_isUnder : List Cond := .code yX11_isUnder cX11_isUnder 2 (some .boolean) :: ([])
def wsX11_plainBegins : List Cond := .code yX11_plainBegins cX11_plainBegins 3 (some .int) :: ([.methodLink RX11 343 yX11_ran, .instanceMethod yX11_ran, .selects RX11 yX11_ran yX11_ran, .initialized RX11, .code yX11_ran cX11_ran 2 none, .fieldLink RX11 340 "TuneAndWordsModel" "traces" "I", .fieldLink RX11 98 "TuneAndWordsModel" "traced" "[I"] ++ wsX110)
def wsX11_wholeBegins : List Cond := .code yX11_wholeBegins cX11_wholeBegins 3 (some .int) :: ([.methodLink RX11 343 yX11_ran, .instanceMethod yX11_ran, .selects RX11 yX11_ran yX11_ran, .initialized RX11, .code yX11_ran cX11_ran 2 none, .fieldLink RX11 340 "TuneAndWordsModel" "traces" "I", .fieldLink RX11 98 "TuneAndWordsModel" "traced" "[I", .methodLink RX11 347 yX11_plainBegins, .instanceMethod yX11_plainBegins, .selects RX11 yX11_plainBegins yX11_plainBegins, .code yX11_plainBegins cX11_plainBegins 3 (some .int)] ++ wsX110)
def wsX11_beginning : List Cond := .code yX11_beginning cX11_beginning 3 (some .int) :: ([.fieldLink RX11 95 "TuneAndWordsModel" "kind" "[I", .methodLink RX11 350 yX11_isUnder, .static yX11_isUnder, .initialized RX11, .code yX11_isUnder cX11_isUnder 2 (some .boolean), .methodLink RX11 343 yX11_ran, .instanceMethod yX11_ran, .selects RX11 yX11_ran yX11_ran, .code yX11_ran cX11_ran 2 none, .fieldLink RX11 340 "TuneAndWordsModel" "traces" "I", .fieldLink RX11 98 "TuneAndWordsModel" "traced" "[I", .methodLink RX11 347 yX11_plainBegins, .instanceMethod yX11_plainBegins, .selects RX11 yX11_plainBegins yX11_plainBegins, .code yX11_plainBegins cX11_plainBegins 3 (some .int), .methodLink RX11 353 yX11_wholeBegins, .instanceMethod yX11_wholeBegins, .selects RX11 yX11_wholeBegins yX11_wholeBegins, .code yX11_wholeBegins cX11_wholeBegins 3 (some .int)] ++ wsX110)
def wsX11_plainHums : List Cond := .code yX11_plainHums cX11_plainHums 3 (some .int) :: ([.methodLink RX11 343 yX11_ran, .instanceMethod yX11_ran, .selects RX11 yX11_ran yX11_ran, .initialized RX11, .code yX11_ran cX11_ran 2 none, .fieldLink RX11 340 "TuneAndWordsModel" "traces" "I", .fieldLink RX11 98 "TuneAndWordsModel" "traced" "[I", .methodLink RX11 356 yX11_beginning, .instanceMethod yX11_beginning, .selects RX11 yX11_beginning yX11_beginning, .code yX11_beginning cX11_beginning 3 (some .int), .fieldLink RX11 95 "TuneAndWordsModel" "kind" "[I", .methodLink RX11 350 yX11_isUnder, .static yX11_isUnder, .code yX11_isUnder cX11_isUnder 2 (some .boolean), .methodLink RX11 347 yX11_plainBegins, .instanceMethod yX11_plainBegins, .selects RX11 yX11_plainBegins yX11_plainBegins, .code yX11_plainBegins cX11_plainBegins 3 (some .int), .methodLink RX11 353 yX11_wholeBegins, .instanceMethod yX11_wholeBegins, .selects RX11 yX11_wholeBegins yX11_wholeBegins, .code yX11_wholeBegins cX11_wholeBegins 3 (some .int)] ++ wsX110)
def wsX11_wordedHums_r1 : List Cond := [Cond.methodLink RX11 343 yX11_ran, Cond.instanceMethod yX11_ran, Cond.selects RX11 yX11_ran yX11_ran, Cond.initialized RX11, Cond.code yX11_ran cX11_ran 2 none, Cond.fieldLink RX11 340 "TuneAndWordsModel" "traces" "I", Cond.fieldLink RX11 98 "TuneAndWordsModel" "traced" "[I", Cond.methodLink RX11 359 yX11_plainHums, Cond.instanceMethod yX11_plainHums, Cond.selects RX11 yX11_plainHums yX11_plainHums, Cond.code yX11_plainHums cX11_plainHums 3 (some .int), Cond.methodLink RX11 356 yX11_beginning, Cond.instanceMethod yX11_beginning, Cond.selects RX11 yX11_beginning yX11_beginning, Cond.code yX11_beginning cX11_beginning 3 (some .int), Cond.fieldLink RX11 95 "TuneAndWordsModel" "kind" "[I", Cond.methodLink RX11 350 yX11_isUnder, Cond.static yX11_isUnder, Cond.code yX11_isUnder cX11_isUnder 2 (some .boolean), Cond.methodLink RX11 347 yX11_plainBegins, Cond.instanceMethod yX11_plainBegins, Cond.selects RX11 yX11_plainBegins yX11_plainBegins, Cond.code yX11_plainBegins cX11_plainBegins 3 (some .int), Cond.methodLink RX11 353 yX11_wholeBegins]
def wsX11_wordedHums_r2 : List Cond := [Cond.instanceMethod yX11_wholeBegins, Cond.selects RX11 yX11_wholeBegins yX11_wholeBegins, Cond.code yX11_wholeBegins cX11_wholeBegins 3 (some .int)]
def wsX11_wordedHums : List Cond := .code yX11_wordedHums cX11_wordedHums 3 (some .int) :: ((wsX11_wordedHums_r1 ++ wsX11_wordedHums_r2) ++ wsX110)
def wsX11_plainSays : List Cond := .code yX11_plainSays cX11_plainSays 3 (some .int) :: ([.methodLink RX11 343 yX11_ran, .instanceMethod yX11_ran, .selects RX11 yX11_ran yX11_ran, .initialized RX11, .code yX11_ran cX11_ran 2 none, .fieldLink RX11 340 "TuneAndWordsModel" "traces" "I", .fieldLink RX11 98 "TuneAndWordsModel" "traced" "[I"] ++ wsX110)
def wsX11_rhymedSays : List Cond := .code yX11_rhymedSays cX11_rhymedSays 3 (some .int) :: ([.methodLink RX11 343 yX11_ran, .instanceMethod yX11_ran, .selects RX11 yX11_ran yX11_ran, .initialized RX11, .code yX11_ran cX11_ran 2 none, .fieldLink RX11 340 "TuneAndWordsModel" "traces" "I", .fieldLink RX11 98 "TuneAndWordsModel" "traced" "[I", .methodLink RX11 368 yX11_plainSays, .instanceMethod yX11_plainSays, .selects RX11 yX11_plainSays yX11_plainSays, .code yX11_plainSays cX11_plainSays 3 (some .int)] ++ wsX110)
def wsX11_saying_r1 : List Cond := [Cond.fieldLink RX11 95 "TuneAndWordsModel" "kind" "[I", Cond.methodLink RX11 343 yX11_ran, Cond.instanceMethod yX11_ran, Cond.selects RX11 yX11_ran yX11_ran, Cond.initialized RX11, Cond.code yX11_ran cX11_ran 2 none, Cond.fieldLink RX11 340 "TuneAndWordsModel" "traces" "I", Cond.fieldLink RX11 98 "TuneAndWordsModel" "traced" "[I", Cond.methodLink RX11 371 yX11_rhymedSays, Cond.instanceMethod yX11_rhymedSays, Cond.selects RX11 yX11_rhymedSays yX11_rhymedSays, Cond.code yX11_rhymedSays cX11_rhymedSays 3 (some .int), Cond.methodLink RX11 368 yX11_plainSays, Cond.instanceMethod yX11_plainSays, Cond.selects RX11 yX11_plainSays yX11_plainSays, Cond.code yX11_plainSays cX11_plainSays 3 (some .int), Cond.methodLink RX11 356 yX11_beginning, Cond.instanceMethod yX11_beginning, Cond.selects RX11 yX11_beginning yX11_beginning, Cond.code yX11_beginning cX11_beginning 3 (some .int), Cond.methodLink RX11 350 yX11_isUnder, Cond.static yX11_isUnder, Cond.code yX11_isUnder cX11_isUnder 2 (some .boolean), Cond.methodLink RX11 347 yX11_plainBegins]
def wsX11_saying_r2 : List Cond := [Cond.instanceMethod yX11_plainBegins, Cond.selects RX11 yX11_plainBegins yX11_plainBegins, Cond.code yX11_plainBegins cX11_plainBegins 3 (some .int), Cond.methodLink RX11 353 yX11_wholeBegins, Cond.instanceMethod yX11_wholeBegins, Cond.selects RX11 yX11_wholeBegins yX11_wholeBegins, Cond.code yX11_wholeBegins cX11_wholeBegins 3 (some .int)]
def wsX11_saying : List Cond := .code yX11_saying cX11_saying 4 (some .int) :: ((wsX11_saying_r1 ++ wsX11_saying_r2) ++ wsX110)
def wsX11_humming_r1 : List Cond := [Cond.fieldLink RX11 95 "TuneAndWordsModel" "kind" "[I", Cond.methodLink RX11 350 yX11_isUnder, Cond.static yX11_isUnder, Cond.initialized RX11, Cond.code yX11_isUnder cX11_isUnder 2 (some .boolean), Cond.methodLink RX11 343 yX11_ran, Cond.instanceMethod yX11_ran, Cond.selects RX11 yX11_ran yX11_ran, Cond.code yX11_ran cX11_ran 2 none, Cond.fieldLink RX11 340 "TuneAndWordsModel" "traces" "I", Cond.fieldLink RX11 98 "TuneAndWordsModel" "traced" "[I", Cond.methodLink RX11 362 yX11_wordedHums, Cond.instanceMethod yX11_wordedHums, Cond.selects RX11 yX11_wordedHums yX11_wordedHums, Cond.code yX11_wordedHums cX11_wordedHums 3 (some .int), Cond.methodLink RX11 359 yX11_plainHums, Cond.instanceMethod yX11_plainHums, Cond.selects RX11 yX11_plainHums yX11_plainHums, Cond.code yX11_plainHums cX11_plainHums 3 (some .int), Cond.methodLink RX11 356 yX11_beginning, Cond.instanceMethod yX11_beginning, Cond.selects RX11 yX11_beginning yX11_beginning, Cond.code yX11_beginning cX11_beginning 3 (some .int), Cond.methodLink RX11 347 yX11_plainBegins]
def wsX11_humming_r2 : List Cond := [Cond.instanceMethod yX11_plainBegins, Cond.selects RX11 yX11_plainBegins yX11_plainBegins, Cond.code yX11_plainBegins cX11_plainBegins 3 (some .int), Cond.methodLink RX11 353 yX11_wholeBegins, Cond.instanceMethod yX11_wholeBegins, Cond.selects RX11 yX11_wholeBegins yX11_wholeBegins, Cond.code yX11_wholeBegins cX11_wholeBegins 3 (some .int), Cond.methodLink RX11 365 yX11_saying, Cond.instanceMethod yX11_saying, Cond.selects RX11 yX11_saying yX11_saying, Cond.code yX11_saying cX11_saying 4 (some .int), Cond.methodLink RX11 371 yX11_rhymedSays, Cond.instanceMethod yX11_rhymedSays, Cond.selects RX11 yX11_rhymedSays yX11_rhymedSays, Cond.code yX11_rhymedSays cX11_rhymedSays 3 (some .int), Cond.methodLink RX11 368 yX11_plainSays, Cond.instanceMethod yX11_plainSays, Cond.selects RX11 yX11_plainSays yX11_plainSays, Cond.code yX11_plainSays cX11_plainSays 3 (some .int)]
def wsX11_humming : List Cond := .code yX11_humming cX11_humming 4 (some .int) :: ((wsX11_humming_r1 ++ wsX11_humming_r2) ++ wsX110)
def wsX11_plainTells_r1 : List Cond := [Cond.methodLink RX11 343 yX11_ran, Cond.instanceMethod yX11_ran, Cond.selects RX11 yX11_ran yX11_ran, Cond.initialized RX11, Cond.code yX11_ran cX11_ran 2 none, Cond.fieldLink RX11 340 "TuneAndWordsModel" "traces" "I", Cond.fieldLink RX11 98 "TuneAndWordsModel" "traced" "[I", Cond.methodLink RX11 374 yX11_humming, Cond.instanceMethod yX11_humming, Cond.selects RX11 yX11_humming yX11_humming, Cond.code yX11_humming cX11_humming 4 (some .int), Cond.fieldLink RX11 95 "TuneAndWordsModel" "kind" "[I", Cond.methodLink RX11 350 yX11_isUnder, Cond.static yX11_isUnder, Cond.code yX11_isUnder cX11_isUnder 2 (some .boolean), Cond.methodLink RX11 362 yX11_wordedHums, Cond.instanceMethod yX11_wordedHums, Cond.selects RX11 yX11_wordedHums yX11_wordedHums, Cond.code yX11_wordedHums cX11_wordedHums 3 (some .int), Cond.methodLink RX11 359 yX11_plainHums, Cond.instanceMethod yX11_plainHums, Cond.selects RX11 yX11_plainHums yX11_plainHums, Cond.code yX11_plainHums cX11_plainHums 3 (some .int), Cond.methodLink RX11 356 yX11_beginning]
def wsX11_plainTells_r2 : List Cond := [Cond.instanceMethod yX11_beginning, Cond.selects RX11 yX11_beginning yX11_beginning, Cond.code yX11_beginning cX11_beginning 3 (some .int), Cond.methodLink RX11 347 yX11_plainBegins, Cond.instanceMethod yX11_plainBegins, Cond.selects RX11 yX11_plainBegins yX11_plainBegins, Cond.code yX11_plainBegins cX11_plainBegins 3 (some .int), Cond.methodLink RX11 353 yX11_wholeBegins, Cond.instanceMethod yX11_wholeBegins, Cond.selects RX11 yX11_wholeBegins yX11_wholeBegins, Cond.code yX11_wholeBegins cX11_wholeBegins 3 (some .int), Cond.methodLink RX11 365 yX11_saying, Cond.instanceMethod yX11_saying, Cond.selects RX11 yX11_saying yX11_saying, Cond.code yX11_saying cX11_saying 4 (some .int), Cond.methodLink RX11 371 yX11_rhymedSays, Cond.instanceMethod yX11_rhymedSays, Cond.selects RX11 yX11_rhymedSays yX11_rhymedSays, Cond.code yX11_rhymedSays cX11_rhymedSays 3 (some .int), Cond.methodLink RX11 368 yX11_plainSays, Cond.instanceMethod yX11_plainSays, Cond.selects RX11 yX11_plainSays yX11_plainSays, Cond.code yX11_plainSays cX11_plainSays 3 (some .int)]
def wsX11_plainTells : List Cond := .code yX11_plainTells cX11_plainTells 4 (some .int) :: ((wsX11_plainTells_r1 ++ wsX11_plainTells_r2) ++ wsX110)
def wsX11_telling_r1 : List Cond := [Cond.fieldLink RX11 95 "TuneAndWordsModel" "kind" "[I", Cond.methodLink RX11 343 yX11_ran, Cond.instanceMethod yX11_ran, Cond.selects RX11 yX11_ran yX11_ran, Cond.initialized RX11, Cond.code yX11_ran cX11_ran 2 none, Cond.fieldLink RX11 340 "TuneAndWordsModel" "traces" "I", Cond.fieldLink RX11 98 "TuneAndWordsModel" "traced" "[I", Cond.methodLink RX11 377 yX11_plainTells, Cond.instanceMethod yX11_plainTells, Cond.selects RX11 yX11_plainTells yX11_plainTells, Cond.code yX11_plainTells cX11_plainTells 4 (some .int), Cond.methodLink RX11 374 yX11_humming, Cond.instanceMethod yX11_humming, Cond.selects RX11 yX11_humming yX11_humming, Cond.code yX11_humming cX11_humming 4 (some .int), Cond.methodLink RX11 350 yX11_isUnder, Cond.static yX11_isUnder, Cond.code yX11_isUnder cX11_isUnder 2 (some .boolean), Cond.methodLink RX11 362 yX11_wordedHums, Cond.instanceMethod yX11_wordedHums, Cond.selects RX11 yX11_wordedHums yX11_wordedHums, Cond.code yX11_wordedHums cX11_wordedHums 3 (some .int), Cond.methodLink RX11 359 yX11_plainHums]
def wsX11_telling_r2 : List Cond := [Cond.instanceMethod yX11_plainHums, Cond.selects RX11 yX11_plainHums yX11_plainHums, Cond.code yX11_plainHums cX11_plainHums 3 (some .int), Cond.methodLink RX11 356 yX11_beginning, Cond.instanceMethod yX11_beginning, Cond.selects RX11 yX11_beginning yX11_beginning, Cond.code yX11_beginning cX11_beginning 3 (some .int), Cond.methodLink RX11 347 yX11_plainBegins, Cond.instanceMethod yX11_plainBegins, Cond.selects RX11 yX11_plainBegins yX11_plainBegins, Cond.code yX11_plainBegins cX11_plainBegins 3 (some .int), Cond.methodLink RX11 353 yX11_wholeBegins, Cond.instanceMethod yX11_wholeBegins, Cond.selects RX11 yX11_wholeBegins yX11_wholeBegins, Cond.code yX11_wholeBegins cX11_wholeBegins 3 (some .int), Cond.methodLink RX11 365 yX11_saying, Cond.instanceMethod yX11_saying, Cond.selects RX11 yX11_saying yX11_saying, Cond.code yX11_saying cX11_saying 4 (some .int), Cond.methodLink RX11 371 yX11_rhymedSays, Cond.instanceMethod yX11_rhymedSays, Cond.selects RX11 yX11_rhymedSays yX11_rhymedSays, Cond.code yX11_rhymedSays cX11_rhymedSays 3 (some .int), Cond.methodLink RX11 368 yX11_plainSays]
def wsX11_telling_r3 : List Cond := [Cond.instanceMethod yX11_plainSays, Cond.selects RX11 yX11_plainSays yX11_plainSays, Cond.code yX11_plainSays cX11_plainSays 3 (some .int)]
def wsX11_telling : List Cond := .code yX11_telling cX11_telling 3 (some .int) :: ((wsX11_telling_r1 ++ (wsX11_telling_r2 ++ wsX11_telling_r3)) ++ wsX110)
def wsX11_act_r1 : List Cond := [Cond.fieldLink RX11 340 "TuneAndWordsModel" "traces" "I", Cond.methodLink RX11 380 yX11_isBody, Cond.instanceMethod yX11_isBody, Cond.selects RX11 yX11_isBody yX11_isBody, Cond.initialized RX11, Cond.code yX11_isBody cX11_isBody 2 (some .boolean), Cond.fieldLink RX11 337 "TuneAndWordsModel" "bodies" "I", Cond.methodLink RX11 118 yX11_in, Cond.static yX11_in, Cond.code yX11_in cX11_in 3 (some .boolean), Cond.methodLink RX11 356 yX11_beginning, Cond.instanceMethod yX11_beginning, Cond.selects RX11 yX11_beginning yX11_beginning, Cond.code yX11_beginning cX11_beginning 3 (some .int), Cond.fieldLink RX11 95 "TuneAndWordsModel" "kind" "[I", Cond.methodLink RX11 350 yX11_isUnder, Cond.static yX11_isUnder, Cond.code yX11_isUnder cX11_isUnder 2 (some .boolean), Cond.methodLink RX11 343 yX11_ran, Cond.instanceMethod yX11_ran, Cond.selects RX11 yX11_ran yX11_ran, Cond.code yX11_ran cX11_ran 2 none, Cond.fieldLink RX11 98 "TuneAndWordsModel" "traced" "[I", Cond.methodLink RX11 347 yX11_plainBegins]
def wsX11_act_r2 : List Cond := [Cond.instanceMethod yX11_plainBegins, Cond.selects RX11 yX11_plainBegins yX11_plainBegins, Cond.code yX11_plainBegins cX11_plainBegins 3 (some .int), Cond.methodLink RX11 353 yX11_wholeBegins, Cond.instanceMethod yX11_wholeBegins, Cond.selects RX11 yX11_wholeBegins yX11_wholeBegins, Cond.code yX11_wholeBegins cX11_wholeBegins 3 (some .int), Cond.methodLink RX11 374 yX11_humming, Cond.instanceMethod yX11_humming, Cond.selects RX11 yX11_humming yX11_humming, Cond.code yX11_humming cX11_humming 4 (some .int), Cond.methodLink RX11 362 yX11_wordedHums, Cond.instanceMethod yX11_wordedHums, Cond.selects RX11 yX11_wordedHums yX11_wordedHums, Cond.code yX11_wordedHums cX11_wordedHums 3 (some .int), Cond.methodLink RX11 359 yX11_plainHums, Cond.instanceMethod yX11_plainHums, Cond.selects RX11 yX11_plainHums yX11_plainHums, Cond.code yX11_plainHums cX11_plainHums 3 (some .int), Cond.methodLink RX11 365 yX11_saying, Cond.instanceMethod yX11_saying, Cond.selects RX11 yX11_saying yX11_saying, Cond.code yX11_saying cX11_saying 4 (some .int), Cond.methodLink RX11 371 yX11_rhymedSays]
def wsX11_act_r3 : List Cond := [Cond.instanceMethod yX11_rhymedSays, Cond.selects RX11 yX11_rhymedSays yX11_rhymedSays, Cond.code yX11_rhymedSays cX11_rhymedSays 3 (some .int), Cond.methodLink RX11 368 yX11_plainSays, Cond.instanceMethod yX11_plainSays, Cond.selects RX11 yX11_plainSays yX11_plainSays, Cond.code yX11_plainSays cX11_plainSays 3 (some .int), Cond.methodLink RX11 383 yX11_telling, Cond.instanceMethod yX11_telling, Cond.selects RX11 yX11_telling yX11_telling, Cond.code yX11_telling cX11_telling 3 (some .int), Cond.methodLink RX11 377 yX11_plainTells, Cond.instanceMethod yX11_plainTells, Cond.selects RX11 yX11_plainTells yX11_plainTells, Cond.code yX11_plainTells cX11_plainTells 4 (some .int)]
def wsX11_act : List Cond := .code yX11_act cX11_act 4 (some .int) :: ((wsX11_act_r1 ++ (wsX11_act_r2 ++ wsX11_act_r3)) ++ wsX110)
def wsX11_count : List Cond := .code yX11_count cX11_count 2 (some .int) :: ([.fieldLink RX11 9 "TuneAndWordsModel" "lined1" "[I", .fieldLink RX11 186 "TuneAndWordsModel" "taped" "I", .fieldLink RX11 166 "TuneAndWordsModel" "doneMany" "I", .fieldLink RX11 337 "TuneAndWordsModel" "bodies" "I", .fieldLink RX11 340 "TuneAndWordsModel" "traces" "I", .methodLink RX11 328 yX11_bitsLeft, .instanceMethod yX11_bitsLeft, .selects RX11 yX11_bitsLeft yX11_bitsLeft, .initialized RX11, .code yX11_bitsLeft cX11_bitsLeft 4 (some .int), .fieldLink RX11 24 "TuneAndWordsModel" "have" "[I", .methodLink RX11 324 yX11_bitsOf, .static yX11_bitsOf, .code yX11_bitsOf cX11_bitsOf 3 (some .int)] ++ wsX110)
def wsX11_keep : List Cond := .code yX11_keep cX11_keep 3 (some .int) :: ([.fieldLink RX11 101 "TuneAndWordsModel" "holds" "[I", .methodLink RX11 130 yX11_isShelf, .static yX11_isShelf, .initialized RX11, .code yX11_isShelf cX11_isShelf 1 (some .boolean), .methodLink RX11 118 yX11_in, .static yX11_in, .code yX11_in cX11_in 3 (some .boolean), .methodLink RX11 380 yX11_isBody, .instanceMethod yX11_isBody, .selects RX11 yX11_isBody yX11_isBody, .code yX11_isBody cX11_isBody 2 (some .boolean), .fieldLink RX11 337 "TuneAndWordsModel" "bodies" "I"] ++ wsX110)
def wsX11_row : List Cond := .code yX11_row cX11_row 5 (some .int) :: ([.fieldLink RX11 101 "TuneAndWordsModel" "holds" "[I", .fieldLink RX11 104 "TuneAndWordsModel" "size" "[I", .fieldLink RX11 107 "TuneAndWordsModel" "elements" "[J", .methodLink RX11 130 yX11_isShelf, .static yX11_isShelf, .initialized RX11, .code yX11_isShelf cX11_isShelf 1 (some .boolean), .methodLink RX11 118 yX11_in, .static yX11_in, .code yX11_in cX11_in 3 (some .boolean)] ++ wsX110)
def wsX11_whyNoPlace : List Cond := .code yX11_whyNoPlace cX11_whyNoPlace 3 (some .int) :: ([.fieldLink RX11 101 "TuneAndWordsModel" "holds" "[I", .fieldLink RX11 104 "TuneAndWordsModel" "size" "[I", .methodLink RX11 130 yX11_isShelf, .static yX11_isShelf, .initialized RX11, .code yX11_isShelf cX11_isShelf 1 (some .boolean), .methodLink RX11 118 yX11_in, .static yX11_in, .code yX11_in cX11_in 3 (some .boolean)] ++ wsX110)
def wsX11_put : List Cond := .code yX11_put cX11_put 7 (some .int) :: ([.fieldLink RX11 101 "TuneAndWordsModel" "holds" "[I", .fieldLink RX11 107 "TuneAndWordsModel" "elements" "[J", .methodLink RX11 386 yX11_whyNoPlace, .instanceMethod yX11_whyNoPlace, .selects RX11 yX11_whyNoPlace yX11_whyNoPlace, .initialized RX11, .code yX11_whyNoPlace cX11_whyNoPlace 3 (some .int), .fieldLink RX11 104 "TuneAndWordsModel" "size" "[I", .methodLink RX11 130 yX11_isShelf, .static yX11_isShelf, .code yX11_isShelf cX11_isShelf 1 (some .boolean), .methodLink RX11 118 yX11_in, .static yX11_in, .code yX11_in cX11_in 3 (some .boolean)] ++ wsX110)
def wsX11_element : List Cond := .code yX11_element cX11_element 3 (some .long) :: ([.constantLong RX11 316 (-9223372036854775808), .fieldLink RX11 107 "TuneAndWordsModel" "elements" "[J", .methodLink RX11 386 yX11_whyNoPlace, .instanceMethod yX11_whyNoPlace, .selects RX11 yX11_whyNoPlace yX11_whyNoPlace, .initialized RX11, .code yX11_whyNoPlace cX11_whyNoPlace 3 (some .int), .fieldLink RX11 101 "TuneAndWordsModel" "holds" "[I", .fieldLink RX11 104 "TuneAndWordsModel" "size" "[I", .methodLink RX11 130 yX11_isShelf, .static yX11_isShelf, .code yX11_isShelf cX11_isShelf 1 (some .boolean), .methodLink RX11 118 yX11_in, .static yX11_in, .code yX11_in cX11_in 3 (some .boolean)] ++ wsX110)
def wsX11_shift : List Cond := .code yX11_shift cX11_shift 7 (some .int) :: ([.fieldLink RX11 101 "TuneAndWordsModel" "holds" "[I", .fieldLink RX11 104 "TuneAndWordsModel" "size" "[I", .fieldLink RX11 111 "TuneAndWordsModel" "shifted" "[J", .fieldLink RX11 107 "TuneAndWordsModel" "elements" "[J", .methodLink RX11 130 yX11_isShelf, .static yX11_isShelf, .initialized RX11, .code yX11_isShelf cX11_isShelf 1 (some .boolean), .methodLink RX11 118 yX11_in, .static yX11_in, .code yX11_in cX11_in 3 (some .boolean)] ++ wsX110)
def wsX11_taken : List Cond := .code yX11_taken cX11_taken 3 (some .int) :: ([.fieldLink RX11 101 "TuneAndWordsModel" "holds" "[I", .fieldLink RX11 95 "TuneAndWordsModel" "kind" "[I", .methodLink RX11 130 yX11_isShelf, .static yX11_isShelf, .initialized RX11, .code yX11_isShelf cX11_isShelf 1 (some .boolean), .methodLink RX11 118 yX11_in, .static yX11_in, .code yX11_in cX11_in 3 (some .boolean), .methodLink RX11 350 yX11_isUnder, .static yX11_isUnder, .code yX11_isUnder cX11_isUnder 2 (some .boolean)] ++ wsX110)
def wsJ9_max_7cf53 : List Cond := .code yJ9_max_7cf53 cJ9_max_7cf53 2 (some .int) :: ([])
def wsJ9_min_7cf53 : List Cond := .code yJ9_min_7cf53 cJ9_min_7cf53 2 (some .int) :: ([])
def wsL_law_r1 : List Cond := [Cond.classLink RL 7 RX10, Cond.instantiable RX10 12, Cond.initialized RX10, Cond.classLink RL 10 RX11, Cond.instantiable RX11 50, Cond.initialized RX11, Cond.constantLong RL 147 (4294967295), Cond.methodLink RL 9 yX10_init, Cond.instanceMethod yX10_init, Cond.code yX10_init cX10_init 3 none, Cond.methodLink RX10 1 objectInit, Cond.instanceMethod objectInit, Cond.code objectInit ⟨#[0xb1]⟩ 1 none, Cond.classLink RX10 9 RX8, Cond.fieldLink RX10 11 "TuneAndWords" "songs" "[LTuneAndWords$Song;", Cond.classLink RX10 15 RX2, Cond.instantiable RX2 6, Cond.initialized RX2, Cond.fieldLink RX10 18 "TuneAndWords" "changes" "LTuneAndWords$Changes;", Cond.classLink RX10 22 RX0, Cond.instantiable RX0 5, Cond.initialized RX0, Cond.fieldLink RX10 25 "TuneAndWords" "acts" "LTuneAndWords$Acts;", Cond.classLink RX10 29 RX6]
def wsL_law_r2 : List Cond := [Cond.fieldLink RX10 31 "TuneAndWords" "shelves" "[LTuneAndWords$Shelf;", Cond.classLink RX10 35 RX5, Cond.instantiable RX5 7, Cond.initialized RX5, Cond.fieldLink RX10 38 "TuneAndWords" "spareLaw" "LTuneAndWords$Law;", Cond.instantiable RX8 5, Cond.initialized RX8, Cond.instantiable RX6 5, Cond.initialized RX6, Cond.classLink RX10 44 RX3, Cond.instantiable RX3 3, Cond.initialized RX3, Cond.fieldLink RX10 49 "TuneAndWords" "choir" "LTuneAndWords$Choir;", Cond.classLink RX10 53 RX7, Cond.instantiable RX7 8, Cond.initialized RX7, Cond.fieldLink RX10 58 "TuneAndWords" "thought" "LTuneAndWords$Singing;", Cond.classLink RX10 62 RX4, Cond.instantiable RX4 5, Cond.initialized RX4, Cond.fieldLink RX10 65 "TuneAndWords" "deed" "LTuneAndWords$Deed;", Cond.fieldLink RX10 69 "TuneAndWords" "deedOfImage" "LTuneAndWords$Deed;", Cond.classLink RX10 72 RX9, Cond.instantiable RX9 5]
def wsL_law_r3 : List Cond := [Cond.initialized RX9, Cond.fieldLink RX10 74 "TuneAndWords$Choir" "law" "LTuneAndWords$Law;", Cond.fieldLink RX10 78 "TuneAndWords" "tape" "LTuneAndWords$Tape;", Cond.instanceMethod yX2_init, Cond.code yX2_init cX2_init 1 none, Cond.methodLink RX2 1 objectInit, Cond.arrayClass .int, Cond.fieldLink RX2 9 "TuneAndWords$Changes" "numbers" "[I", Cond.fieldLink RX2 13 "TuneAndWords$Changes" "whats" "[I", Cond.fieldLink RX2 16 "TuneAndWords$Changes" "befores" "[I", Cond.fieldLink RX2 19 "TuneAndWords$Changes" "afters" "[I", Cond.instanceMethod yX0_init, Cond.code yX0_init cX0_init 1 none, Cond.methodLink RX0 3 objectInit, Cond.fieldLink RX0 11 "TuneAndWords$Acts" "kinds" "[I", Cond.fieldLink RX0 15 "TuneAndWords$Acts" "trace" "[I", Cond.instanceMethod yX5_init, Cond.code yX5_init cX5_init 1 none, Cond.methodLink RX5 3 objectInit, Cond.fieldLink RX5 11 "TuneAndWords$Law" "steps" "[I", Cond.fieldLink RX5 15 "TuneAndWords$Law" "with" "[I", Cond.fieldLink RX5 18 "TuneAndWords$Law" "stack" "[I", Cond.fieldLink RX5 21 "TuneAndWords$Law" "names" "[I", Cond.fieldLink RX5 24 "TuneAndWords$Law" "given" "[I"]
def wsL_law_r4 : List Cond := [Cond.fieldLink RX5 27 "TuneAndWords$Law" "isGiven" "[I", Cond.instanceMethod yX8_init, Cond.code yX8_init cX8_init 1 none, Cond.methodLink RX8 3 objectInit, Cond.fieldLink RX8 9 "TuneAndWords$Song" "parts" "[I", Cond.fieldLink RX8 15 "TuneAndWords$Song" "havers" "[I", Cond.fieldLink RX8 18 "TuneAndWords$Song" "haversAside" "[I", Cond.fieldLink RX8 21 "TuneAndWords$Song" "haversOfImage" "[I", Cond.instanceMethod yX6_init, Cond.code yX6_init cX6_init 1 none, Cond.methodLink RX6 3 objectInit, Cond.arrayClass .long, Cond.fieldLink RX6 9 "TuneAndWords$Shelf" "cells" "[J", Cond.fieldLink RX6 15 "TuneAndWords$Shelf" "holds" "I", Cond.methodLink RX10 46 yX3_init, Cond.instanceMethod yX3_init, Cond.code yX3_init cX3_init 2 none, Cond.methodLink RX3 3 objectInit, Cond.fieldLink RX3 9 "TuneAndWords$Choir" "sure" "[I", Cond.fieldLink RX3 15 "TuneAndWords$Choir" "law" "LTuneAndWords$Law;", Cond.methodLink RX10 55 yX7_init, Cond.instanceMethod yX7_init, Cond.code yX7_init cX7_init 2 none, Cond.methodLink RX7 3 objectInit]
def wsL_law_r5 : List Cond := [Cond.fieldLink RX7 9 "TuneAndWords$Singing" "lines" "[I", Cond.fieldLink RX7 15 "TuneAndWords$Singing" "by" "[I", Cond.fieldLink RX7 18 "TuneAndWords$Singing" "times" "[I", Cond.fieldLink RX7 21 "TuneAndWords$Singing" "outcome" "I", Cond.fieldLink RX7 25 "TuneAndWords$Singing" "song" "LTuneAndWords$Song;", Cond.methodLink RX10 64 yX4_init, Cond.instanceMethod yX4_init, Cond.code yX4_init cX4_init 2 none, Cond.methodLink RX4 3 objectInit, Cond.classLink RX4 9 RX7, Cond.fieldLink RX4 14 "TuneAndWords$Deed" "singing" "LTuneAndWords$Singing;", Cond.methodLink RX4 11 yX7_init, Cond.methodLink RX10 77 yX9_init, Cond.instanceMethod yX9_init, Cond.code yX9_init cX9_init 2 none, Cond.methodLink RX9 3 objectInit, Cond.fieldLink RX9 9 "TuneAndWords$Tape" "bytes" "[I", Cond.fieldLink RX9 15 "TuneAndWords$Tape" "law" "LTuneAndWords$Law;", Cond.methodLink RX10 84 yJ0_length_8abf5, Cond.instanceMethod yJ0_length_8abf5, Cond.selects RJ0 yJ0_length_8abf5 yJ0_length_8abf5, Cond.initialized RJ0, Cond.code yJ0_length_8abf5 cJ0_length_8abf5 1 (some .int), Cond.fieldLink RJ0 9 "java/lang/String" "value" "[B"]
def wsL_law_r6 : List Cond := [Cond.methodLink RJ0 335 yJ0_coder_7d493, Cond.instanceMethod yJ0_coder_7d493, Cond.selects RJ0 yJ0_coder_7d493 yJ0_coder_7d493, Cond.code yJ0_coder_7d493 cJ0_coder_7d493 1 (some .byte), Cond.fieldLink RJ0 38 "java/lang/String" "COMPACT_STRINGS" "Z", Cond.fieldLink RJ0 15 "java/lang/String" "coder" "B", Cond.methodLink RX10 90 yJ0_charAt_5068e, Cond.instanceMethod yJ0_charAt_5068e, Cond.selects RJ0 yJ0_charAt_5068e yJ0_charAt_5068e, Cond.code yJ0_charAt_5068e cJ0_charAt_5068e 2 (some .char), Cond.methodLink RJ0 492 yJ0_isLatin1_aae02, Cond.instanceMethod yJ0_isLatin1_aae02, Cond.selects RJ0 yJ0_isLatin1_aae02 yJ0_isLatin1_aae02, Cond.code yJ0_isLatin1_aae02 cJ0_isLatin1_aae02 1 (some .boolean), Cond.methodLink RJ0 495 yJ1_charAt_3b067, Cond.static yJ1_charAt_3b067, Cond.initialized RJ1, Cond.code yJ1_charAt_3b067 cJ1_charAt_3b067 2 (some .char), Cond.methodLink RJ1 9 yJ0_checkIndex_df160, Cond.static yJ0_checkIndex_df160, Cond.code yJ0_checkIndex_df160 cJ0_checkIndex_df160 2 none, Cond.fieldLink RJ0 1053 "jdk/internal/util/Preconditions" "SIOOBE_FORMATTER" "Ljava/util/function/BiFunction;", Cond.methodLink RJ0 1059 yJ3_checkIndex_8e157, Cond.static yJ3_checkIndex_8e157]
def wsL_law_r7 : List Cond := [Cond.initialized RJ3, Cond.code yJ3_checkIndex_8e157 cJ3_checkIndex_8e157 3 (some .int), Cond.methodLink RJ0 498 yJ2_charAt_3b067, Cond.static yJ2_charAt_3b067, Cond.initialized RJ2, Cond.code yJ2_charAt_3b067 cJ2_charAt_3b067 2 (some .char), Cond.methodLink RJ2 67 yJ2_checkIndex_2214a, Cond.static yJ2_checkIndex_2214a, Cond.code yJ2_checkIndex_2214a cJ2_checkIndex_2214a 2 none, Cond.methodLink RJ2 48 yJ2_length_9d52b, Cond.static yJ2_length_9d52b, Cond.code yJ2_length_9d52b cJ2_length_9d52b 1 (some .int), Cond.methodLink RJ2 414 yJ0_checkIndex_df160, Cond.methodLink RJ2 71 yJ2_getChar_3b067, Cond.static yJ2_getChar_3b067, Cond.code yJ2_getChar_3b067 cJ2_getChar_3b067 2 (some .char), Cond.fieldLink RJ2 44 "java/lang/StringUTF16" "$assertionsDisabled" "Z", Cond.fieldLink RJ2 59 "java/lang/StringUTF16" "HI_BYTE_SHIFT" "I", Cond.fieldLink RJ2 63 "java/lang/StringUTF16" "LO_BYTE_SHIFT" "I", Cond.methodLink RX10 94 yX9_take, Cond.instanceMethod yX9_take, Cond.selects RX9 yX9_take yX9_take, Cond.code yX9_take cX9_take 2 none, Cond.fieldLink RX9 19 "TuneAndWords$Tape" "length" "I"]
def wsL_law_r8 : List Cond := [Cond.methodLink RX9 23 yX9_isFull, Cond.instanceMethod yX9_isFull, Cond.selects RX9 yX9_isFull yX9_isFull, Cond.code yX9_isFull cX9_isFull 1 (some .boolean), Cond.methodLink RX9 27 yX1_set, Cond.static yX1_set, Cond.initialized RX1, Cond.code yX1_set cX1_set 3 none, Cond.methodLink RX10 98 yX9_readInto, Cond.instanceMethod yX9_readInto, Cond.selects RX9 yX9_readInto yX9_readInto, Cond.code yX9_readInto cX9_readInto 3 (some .int), Cond.fieldLink RX9 38 "TuneAndWords$Tape" "place" "I", Cond.fieldLink RX9 41 "TuneAndWords$Tape" "failed" "Z", Cond.methodLink RX9 33 yX5_clear, Cond.instanceMethod yX5_clear, Cond.selects RX5 yX5_clear yX5_clear, Cond.code yX5_clear cX5_clear 1 none, Cond.fieldLink RX5 30 "TuneAndWords$Law" "size" "I", Cond.methodLink RX5 34 yJ7_fill_53178, Cond.static yJ7_fill_53178, Cond.initialized RJ7, Cond.code yJ7_fill_53178 cJ7_fill_53178 4 none, Cond.methodLink RX9 45 yX9_readLine]
def wsL_law_r9 : List Cond := [Cond.instanceMethod yX9_readLine, Cond.selects RX9 yX9_readLine yX9_readLine, Cond.code yX9_readLine cX9_readLine 2 none, Cond.methodLink RX9 56 yX9_readTerms, Cond.instanceMethod yX9_readTerms, Cond.selects RX9 yX9_readTerms yX9_readTerms, Cond.code yX9_readTerms cX9_readTerms 5 none, Cond.methodLink RX9 70 yX9_readOperand, Cond.instanceMethod yX9_readOperand, Cond.selects RX9 yX9_readOperand yX9_readOperand, Cond.methodLink RX9 48 yX9_peek, Cond.instanceMethod yX9_peek, Cond.selects RX9 yX9_peek yX9_peek, Cond.code yX9_peek cX9_peek 1 (some .int), Cond.methodLink RX9 52 yX1_at, Cond.static yX1_at, Cond.code yX1_at cX1_at 2 (some .int), Cond.methodLink RX9 73 yX9_levelOf, Cond.static yX9_levelOf, Cond.code yX9_levelOf cX9_levelOf 1 (some .int), Cond.methodLink RX9 60 yX5_add, Cond.instanceMethod yX5_add, Cond.selects RX5 yX5_add yX5_add, Cond.code yX5_add cX5_add 3 none]
def wsL_law_r10 : List Cond := [Cond.code yX9_readOperand cX9_readOperand 3 none, Cond.methodLink RX9 77 yX9_readNumber, Cond.instanceMethod yX9_readNumber, Cond.selects RX9 yX9_readNumber yX9_readNumber, Cond.code yX9_readNumber cX9_readNumber 3 none, Cond.methodLink RX9 80 yX9_nameOf, Cond.static yX9_nameOf, Cond.code yX9_nameOf cX9_nameOf 1 (some .int), Cond.methodLink RX9 63 yX5_size, Cond.instanceMethod yX5_size, Cond.selects RX5 yX5_size yX5_size, Cond.code yX5_size cX5_size 1 (some .int), Cond.methodLink RX9 66 yX5_leadOn, Cond.instanceMethod yX5_leadOn, Cond.selects RX5 yX5_leadOn yX5_leadOn, Cond.code yX5_leadOn cX5_leadOn 2 none, Cond.methodLink RX5 40 yX1_set, Cond.methodLink RL 12 yX11_init, Cond.instanceMethod yX11_init, Cond.code yX11_init cX11_init 1 none, Cond.methodLink RX11 3 objectInit, Cond.fieldLink RX11 9 "TuneAndWordsModel" "lined1" "[I", Cond.fieldLink RX11 15 "TuneAndWordsModel" "tune" "[I", Cond.fieldLink RX11 18 "TuneAndWordsModel" "word" "[I"]
def wsL_law_r11 : List Cond := [Cond.fieldLink RX11 21 "TuneAndWordsModel" "rhyme" "[I", Cond.fieldLink RX11 24 "TuneAndWordsModel" "have" "[I", Cond.fieldLink RX11 27 "TuneAndWordsModel" "sure1" "[I", Cond.fieldLink RX11 30 "TuneAndWordsModel" "changeOf" "[I", Cond.fieldLink RX11 33 "TuneAndWordsModel" "changeAt" "[I", Cond.fieldLink RX11 36 "TuneAndWordsModel" "before" "[I", Cond.fieldLink RX11 39 "TuneAndWordsModel" "behind" "[I", Cond.arrayClass .byte, Cond.fieldLink RX11 42 "TuneAndWordsModel" "tape" "[B", Cond.fieldLink RX11 46 "TuneAndWordsModel" "act" "[B", Cond.fieldLink RX11 49 "TuneAndWordsModel" "with" "[I", Cond.fieldLink RX11 52 "TuneAndWordsModel" "lineMany" "[I", Cond.arrayClass .short, Cond.fieldLink RX11 55 "TuneAndWordsModel" "testEnd" "[S", Cond.fieldLink RX11 59 "TuneAndWordsModel" "lineEnd" "[S", Cond.fieldLink RX11 62 "TuneAndWordsModel" "facts" "[I", Cond.fieldLink RX11 65 "TuneAndWordsModel" "pile" "[I", Cond.fieldLink RX11 68 "TuneAndWordsModel" "sungOften" "[I", Cond.fieldLink RX11 71 "TuneAndWordsModel" "came" "[I", Cond.fieldLink RX11 74 "TuneAndWordsModel" "broughtBy" "[I", Cond.fieldLink RX11 77 "TuneAndWordsModel" "keptHave" "[I", Cond.fieldLink RX11 80 "TuneAndWordsModel" "deed" "[I", Cond.fieldLink RX11 83 "TuneAndWordsModel" "deedOften" "[I", Cond.fieldLink RX11 86 "TuneAndWordsModel" "imageDeed" "[I"]
def wsL_law_r12 : List Cond := [Cond.fieldLink RX11 89 "TuneAndWordsModel" "imageOften" "[I", Cond.fieldLink RX11 92 "TuneAndWordsModel" "imageHave" "[I", Cond.fieldLink RX11 95 "TuneAndWordsModel" "kind" "[I", Cond.fieldLink RX11 98 "TuneAndWordsModel" "traced" "[I", Cond.fieldLink RX11 101 "TuneAndWordsModel" "holds" "[I", Cond.fieldLink RX11 104 "TuneAndWordsModel" "size" "[I", Cond.fieldLink RX11 107 "TuneAndWordsModel" "elements" "[J", Cond.fieldLink RX11 111 "TuneAndWordsModel" "shifted" "[J", Cond.methodLink RL 13 yX10_line, Cond.instanceMethod yX10_line, Cond.selects RX10 yX10_line yX10_line, Cond.code yX10_line cX10_line 7 (some .int), Cond.methodLink RX10 102 yX10_songAt, Cond.instanceMethod yX10_songAt, Cond.selects RX10 yX10_songAt yX10_songAt, Cond.code yX10_songAt cX10_songAt 2 (some (.object "TuneAndWords$Song")), Cond.methodLink RX10 140 yX10_isOf, Cond.static yX10_isOf, Cond.code yX10_isOf cX10_isOf 2 (some .boolean), Cond.methodLink RX10 106 yX8_mayBe, Cond.static yX8_mayBe, Cond.code yX8_mayBe cX8_mayBe 3 (some .boolean), Cond.methodLink RX10 110 yX8_isFull, Cond.instanceMethod yX8_isFull]
def wsL_law_r13 : List Cond := [Cond.selects RX8 yX8_isFull yX8_isFull, Cond.code yX8_isFull cX8_isFull 1 (some .boolean), Cond.fieldLink RX8 28 "TuneAndWords$Song" "size" "I", Cond.methodLink RX10 114 yX8_addLine, Cond.instanceMethod yX8_addLine, Cond.selects RX8 yX8_addLine yX8_addLine, Cond.code yX8_addLine cX8_addLine 4 (some .int), Cond.methodLink RX8 32 yX8_setPart, Cond.instanceMethod yX8_setPart, Cond.selects RX8 yX8_setPart yX8_setPart, Cond.code yX8_setPart cX8_setPart 4 none, Cond.methodLink RX8 42 yX1_set, Cond.methodLink RL 17 yX11_line, Cond.instanceMethod yX11_line, Cond.selects RX11 yX11_line yX11_line, Cond.code yX11_line cX11_line 3 (some .int), Cond.methodLink RX11 122 yX11_isSong, Cond.static yX11_isSong, Cond.code yX11_isSong cX11_isSong 1 (some .boolean), Cond.methodLink RX11 118 yX11_in, Cond.static yX11_in, Cond.code yX11_in cX11_in 3 (some .boolean), Cond.methodLink RX11 126 yX11_addLine, Cond.instanceMethod yX11_addLine]
def wsL_law_r14 : List Cond := [Cond.selects RX11 yX11_addLine yX11_addLine, Cond.code yX11_addLine cX11_addLine 6 (some .int), Cond.methodLink RL 18 yX10_lines, Cond.instanceMethod yX10_lines, Cond.selects RX10 yX10_lines yX10_lines, Cond.code yX10_lines cX10_lines 12 (some .int), Cond.methodLink RX10 118 yX10_shelfAt, Cond.instanceMethod yX10_shelfAt, Cond.selects RX10 yX10_shelfAt yX10_shelfAt, Cond.code yX10_shelfAt cX10_shelfAt 2 (some (.object "TuneAndWords$Shelf")), Cond.methodLink RX10 122 yX6_isEmpty, Cond.instanceMethod yX6_isEmpty, Cond.selects RX6 yX6_isEmpty yX6_isEmpty, Cond.code yX6_isEmpty cX6_isEmpty 1 (some .boolean), Cond.methodLink RX10 125 yX6_isRowOfBytes, Cond.instanceMethod yX6_isRowOfBytes, Cond.selects RX6 yX6_isRowOfBytes yX6_isRowOfBytes, Cond.code yX6_isRowOfBytes cX6_isRowOfBytes 1 (some .boolean), Cond.fieldLink RX6 22 "TuneAndWords$Shelf" "sort" "I", Cond.methodLink RX6 40 yX6_isRow, Cond.instanceMethod yX6_isRow, Cond.selects RX6 yX6_isRow yX6_isRow, Cond.code yX6_isRow cX6_isRow 1 (some .boolean), Cond.methodLink RX10 128 yX6_length]
def wsL_law_r15 : List Cond := [Cond.instanceMethod yX6_length, Cond.selects RX6 yX6_length yX6_length, Cond.code yX6_length cX6_length 1 (some .int), Cond.fieldLink RX6 31 "TuneAndWords$Shelf" "length" "I", Cond.methodLink RX10 129 yX6_isPlace, Cond.instanceMethod yX6_isPlace, Cond.selects RX6 yX6_isPlace yX6_isPlace, Cond.code yX6_isPlace cX6_isPlace 2 (some .boolean), Cond.methodLink RX10 133 yX6_small, Cond.instanceMethod yX6_small, Cond.selects RX6 yX6_small yX6_small, Cond.code yX6_small cX6_small 2 (some .int), Cond.methodLink RX6 50 yX6_cell, Cond.instanceMethod yX6_cell, Cond.selects RX6 yX6_cell yX6_cell, Cond.code yX6_cell cX6_cell 2 (some .long), Cond.methodLink RL 22 yX11_lines, Cond.instanceMethod yX11_lines, Cond.selects RX11 yX11_lines yX11_lines, Cond.code yX11_lines cX11_lines 9 (some .int), Cond.constantLong RX11 133 (2), Cond.methodLink RX11 130 yX11_isShelf, Cond.static yX11_isShelf, Cond.code yX11_isShelf cX11_isShelf 1 (some .boolean)]
def wsL_law_r16 : List Cond := [Cond.methodLink RL 23 yX10_has, Cond.instanceMethod yX10_has, Cond.selects RX10 yX10_has yX10_has, Cond.code yX10_has cX10_has 8 (some .int), Cond.methodLink RX10 137 yX10_songWithLine, Cond.instanceMethod yX10_songWithLine, Cond.selects RX10 yX10_songWithLine yX10_songWithLine, Cond.code yX10_songWithLine cX10_songWithLine 3 (some (.object "TuneAndWords$Song")), Cond.methodLink RX10 144 yX10_lineOf, Cond.static yX10_lineOf, Cond.code yX10_lineOf cX10_lineOf 1 (some .int), Cond.methodLink RX10 235 yX8_isLine, Cond.instanceMethod yX8_isLine, Cond.selects RX8 yX8_isLine yX8_isLine, Cond.code yX8_isLine cX8_isLine 2 (some .boolean), Cond.methodLink RX10 147 yX8_bit, Cond.static yX8_bit, Cond.code yX8_bit cX8_bit 3 (some .int), Cond.methodLink RX10 150 yX8_isHad, Cond.instanceMethod yX8_isHad, Cond.selects RX8 yX8_isHad yX8_isHad, Cond.code yX8_isHad cX8_isHad 2 (some .boolean), Cond.methodLink RX8 36 yX1_at, Cond.methodLink RX8 46 yX8_singerOf]
def wsL_law_r17 : List Cond := [Cond.static yX8_singerOf, Cond.code yX8_singerOf cX8_singerOf 1 (some .int), Cond.methodLink RX10 153 yX8_setHad, Cond.instanceMethod yX8_setHad, Cond.selects RX8 yX8_setHad yX8_setHad, Cond.code yX8_setHad cX8_setHad 6 none, Cond.methodLink RL 26 yX11_has, Cond.instanceMethod yX11_has, Cond.selects RX11 yX11_has yX11_has, Cond.code yX11_has cX11_has 6 (some .int), Cond.methodLink RX11 139 yX11_isSinger, Cond.static yX11_isSinger, Cond.code yX11_isSinger cX11_isSinger 1 (some .boolean), Cond.methodLink RX11 142 yX11_isLine, Cond.instanceMethod yX11_isLine, Cond.selects RX11 yX11_isLine yX11_isLine, Cond.code yX11_isLine cX11_isLine 2 (some .boolean), Cond.methodLink RX11 145 yX11_bitAt, Cond.instanceMethod yX11_bitAt, Cond.selects RX11 yX11_bitAt yX11_bitAt, Cond.code yX11_bitAt cX11_bitAt 5 (some .int), Cond.methodLink RX11 135 yX11_rowOf, Cond.static yX11_rowOf, Cond.code yX11_rowOf cX11_rowOf 3 (some .int)]
def wsL_law_r18 : List Cond := [Cond.methodLink RX11 148 yX11_give, Cond.instanceMethod yX11_give, Cond.selects RX11 yX11_give yX11_give, Cond.code yX11_give cX11_give 7 none, Cond.methodLink RL 27 yX10_mend, Cond.instanceMethod yX10_mend, Cond.selects RX10 yX10_mend yX10_mend, Cond.code yX10_mend cX10_mend 5 (some .int), Cond.methodLink RX10 157 yX10_isMendable, Cond.instanceMethod yX10_isMendable, Cond.selects RX10 yX10_isMendable yX10_isMendable, Cond.code yX10_isMendable cX10_isMendable 3 (some .boolean), Cond.methodLink RX10 160 yX10_numbersFor, Cond.static yX10_numbersFor, Cond.code yX10_numbersFor cX10_numbersFor 1 (some .int), Cond.methodLink RX10 163 yX10_told, Cond.instanceMethod yX10_told, Cond.selects RX10 yX10_told yX10_told, Cond.code yX10_told cX10_told 4 (some .int), Cond.fieldLink RX10 417 "TuneAndWords$Choir" "sure" "[I", Cond.fieldLink RX10 277 "TuneAndWords" "forgets" "I", Cond.methodLink RX10 421 yX1_at, Cond.methodLink RX10 260 yX8_part, Cond.instanceMethod yX8_part]
def wsL_law_r19 : List Cond := [Cond.selects RX8 yX8_part yX8_part, Cond.code yX8_part cX8_part 3 (some .int), Cond.methodLink RX10 167 yX2_add, Cond.instanceMethod yX2_add, Cond.selects RX2 yX2_add yX2_add, Cond.code yX2_add cX2_add 5 none, Cond.fieldLink RX2 22 "TuneAndWords$Changes" "done" "I", Cond.fieldLink RX2 35 "TuneAndWords$Changes" "kept" "I", Cond.methodLink RX2 26 yX2_forgetFirst, Cond.instanceMethod yX2_forgetFirst, Cond.selects RX2 yX2_forgetFirst yX2_forgetFirst, Cond.code yX2_forgetFirst cX2_forgetFirst 1 none, Cond.methodLink RX2 38 arraycopyName, Cond.native arraycopyName, Cond.static arraycopyName, Cond.initialized "java/lang/System", Cond.methodLink RX2 29 yX1_set, Cond.methodLink RX10 171 yX10_become, Cond.instanceMethod yX10_become, Cond.selects RX10 yX10_become yX10_become, Cond.code yX10_become cX10_become 5 none, Cond.methodLink RX10 427 yX1_set, Cond.methodLink RX10 431 yX8_setPart, Cond.methodLink RL 31 yX11_mend]
def wsL_law_r20 : List Cond := [Cond.instanceMethod yX11_mend, Cond.selects RX11 yX11_mend yX11_mend, Cond.code yX11_mend cX11_mend 4 (some .int), Cond.methodLink RX11 173 yX11_isOne, Cond.instanceMethod yX11_isOne, Cond.selects RX11 yX11_isOne yX11_isOne, Cond.code yX11_isOne cX11_isOne 3 (some .boolean), Cond.methodLink RX11 177 yX11_mayBe, Cond.static yX11_mayBe, Cond.code yX11_mayBe cX11_mayBe 2 (some .boolean), Cond.methodLink RX11 180 yX11_changes, Cond.instanceMethod yX11_changes, Cond.selects RX11 yX11_changes yX11_changes, Cond.code yX11_changes cX11_changes 6 (some .int), Cond.fieldLink RX11 163 "TuneAndWordsModel" "undoneMany" "I", Cond.fieldLink RX11 166 "TuneAndWordsModel" "doneMany" "I", Cond.methodLink RX11 159 yX11_valueAt, Cond.instanceMethod yX11_valueAt, Cond.selects RX11 yX11_valueAt yX11_valueAt, Cond.code yX11_valueAt cX11_valueAt 3 (some .int), Cond.fieldLink RX11 156 "TuneAndWordsModel" "forgets" "I", Cond.methodLink RX11 152 yX11_spotAt, Cond.static yX11_spotAt, Cond.code yX11_spotAt cX11_spotAt 1 (some .int)]
def wsL_law_r21 : List Cond := [Cond.methodLink RX11 169 yX11_lays, Cond.instanceMethod yX11_lays, Cond.selects RX11 yX11_lays yX11_lays, Cond.code yX11_lays cX11_lays 4 none, Cond.methodLink RL 32 yX10_of, Cond.instanceMethod yX10_of, Cond.selects RX10 yX10_of yX10_of, Cond.code yX10_of cX10_of 4 (some .int), Cond.methodLink RX10 175 yX8_size, Cond.instanceMethod yX8_size, Cond.selects RX8 yX8_size yX8_size, Cond.code yX8_size cX8_size 1 (some .int), Cond.methodLink RX10 178 yX8_havers, Cond.instanceMethod yX8_havers, Cond.selects RX8 yX8_havers yX8_havers, Cond.code yX8_havers cX8_havers 3 (some .int), Cond.methodLink RL 35 yX11_of, Cond.instanceMethod yX11_of, Cond.selects RX11 yX11_of yX11_of, Cond.code yX11_of cX11_of 3 (some .int), Cond.methodLink RX11 183 yX11_whoHas, Cond.instanceMethod yX11_whoHas, Cond.selects RX11 yX11_whoHas yX11_whoHas, Cond.code yX11_whoHas cX11_whoHas 6 (some .int)]
def wsL_law_r22 : List Cond := [Cond.methodLink RL 36 yX10_feed, Cond.instanceMethod yX10_feed, Cond.selects RX10 yX10_feed yX10_feed, Cond.code yX10_feed cX10_feed 2 (some .int), Cond.methodLink RX10 181 yX9_isFull, Cond.methodLink RX10 182 yX9_length, Cond.instanceMethod yX9_length, Cond.selects RX9 yX9_length yX9_length, Cond.code yX9_length cX9_length 1 (some .int), Cond.methodLink RL 40 yX11_feed, Cond.instanceMethod yX11_feed, Cond.selects RX11 yX11_feed yX11_feed, Cond.code yX11_feed cX11_feed 2 (some .int), Cond.fieldLink RX11 186 "TuneAndWordsModel" "taped" "I", Cond.methodLink RL 41 yX10_law, Cond.instanceMethod yX10_law, Cond.selects RX10 yX10_law yX10_law, Cond.code yX10_law cX10_law 3 (some .int), Cond.methodLink RL 45 yX11_law, Cond.instanceMethod yX11_law, Cond.selects RX11 yX11_law yX11_law, Cond.code yX11_law cX11_law 2 (some .int), Cond.fieldLink RX11 252 "TuneAndWordsModel" "hasLaw" "Z", Cond.methodLink RX11 249 yX11_readText]
def wsL_law_r23 : List Cond := [Cond.instanceMethod yX11_readText, Cond.selects RX11 yX11_readText yX11_readText, Cond.code yX11_readText cX11_readText 3 (some .int), Cond.fieldLink RX11 189 "TuneAndWordsModel" "here" "I", Cond.fieldLink RX11 192 "TuneAndWordsModel" "fault" "I", Cond.fieldLink RX11 198 "TuneAndWordsModel" "open" "I", Cond.fieldLink RX11 195 "TuneAndWordsModel" "laid" "I", Cond.methodLink RX11 240 yX11_oneLine, Cond.instanceMethod yX11_oneLine, Cond.selects RX11 yX11_oneLine yX11_oneLine, Cond.code yX11_oneLine cX11_oneLine 2 none, Cond.methodLink RX11 222 yX11_either, Cond.instanceMethod yX11_either, Cond.selects RX11 yX11_either yX11_either, Cond.code yX11_either cX11_either 1 none, Cond.methodLink RX11 237 yX11_both, Cond.instanceMethod yX11_both, Cond.selects RX11 yX11_both yX11_both, Cond.methodLink RX11 204 yX11_look, Cond.instanceMethod yX11_look, Cond.selects RX11 yX11_look yX11_look, Cond.code yX11_look cX11_look 1 (some .int), Cond.methodLink RX11 208 yX11_addStep, Cond.instanceMethod yX11_addStep]
def wsL_law_r24 : List Cond := [Cond.selects RX11 yX11_addStep yX11_addStep, Cond.code yX11_addStep cX11_addStep 3 none, Cond.code yX11_both cX11_both 1 none, Cond.methodLink RX11 234 yX11_compared, Cond.instanceMethod yX11_compared, Cond.selects RX11 yX11_compared yX11_compared, Cond.code yX11_compared cX11_compared 2 none, Cond.methodLink RX11 231 yX11_sum, Cond.instanceMethod yX11_sum, Cond.selects RX11 yX11_sum yX11_sum, Cond.code yX11_operand cX11_operand 2 none, Cond.methodLink RX11 212 yX11_nameOf, Cond.static yX11_nameOf, Cond.code yX11_nameOf cX11_nameOf 1 (some .int), Cond.methodLink RX11 215 yX11_opens, Cond.instanceMethod yX11_opens, Cond.selects RX11 yX11_opens yX11_opens, Cond.code yX11_opens cX11_opens 1 (some .boolean), Cond.methodLink RX11 201 yX11_faulty, Cond.instanceMethod yX11_faulty, Cond.selects RX11 yX11_faulty yX11_faulty, Cond.code yX11_faulty cX11_faulty 1 none, Cond.methodLink RX11 219 yX11_operand, Cond.instanceMethod yX11_operand]
def wsL_law_r25 : List Cond := [Cond.selects RX11 yX11_operand yX11_operand, Cond.methodLink RX11 225 yX11_figure, Cond.instanceMethod yX11_figure, Cond.selects RX11 yX11_figure yX11_figure, Cond.code yX11_figure cX11_figure 3 none, Cond.code yX11_product cX11_product 2 none, Cond.code yX11_sum cX11_sum 2 none, Cond.methodLink RX11 228 yX11_product, Cond.instanceMethod yX11_product, Cond.selects RX11 yX11_product yX11_product, Cond.methodLink RL 46 yX10_sing, Cond.instanceMethod yX10_sing, Cond.selects RX10 yX10_sing yX10_sing, Cond.code yX10_sing cX10_sing 4 (some .int), Cond.methodLink RX10 183 yX3_goThrough, Cond.instanceMethod yX3_goThrough, Cond.selects RX3 yX3_goThrough yX3_goThrough, Cond.code yX3_goThrough cX3_goThrough 5 none, Cond.methodLink RX3 65 yX3_start, Cond.instanceMethod yX3_start, Cond.selects RX3 yX3_start yX3_start, Cond.code yX3_start cX3_start 4 none, Cond.methodLink RX3 19 yX7_clear, Cond.instanceMethod yX7_clear]
def wsL_law_r26 : List Cond := [Cond.selects RX7 yX7_clear yX7_clear, Cond.code yX7_clear cX7_clear 2 none, Cond.fieldLink RX7 29 "TuneAndWords$Singing" "sung" "I", Cond.fieldLink RX7 32 "TuneAndWords$Singing" "right" "I", Cond.fieldLink RX7 35 "TuneAndWords$Singing" "where" "I", Cond.methodLink RX7 38 yJ7_fill_53178, Cond.methodLink RX3 25 yX8_canBeSung, Cond.instanceMethod yX8_canBeSung, Cond.selects RX8 yX8_canBeSung yX8_canBeSung, Cond.code yX8_canBeSung cX8_canBeSung 2 (some .boolean), Cond.methodLink RX8 60 yX8_havers, Cond.methodLink RX3 31 yX7_add, Cond.instanceMethod yX7_add, Cond.selects RX7 yX7_add yX7_add, Cond.code yX7_add cX7_add 3 none, Cond.methodLink RX7 44 yX7_last, Cond.instanceMethod yX7_last, Cond.selects RX7 yX7_last yX7_last, Cond.code yX7_last cX7_last 1 (some .int), Cond.methodLink RX7 54 yX1_at, Cond.methodLink RX7 48 yX1_set, Cond.methodLink RX3 35 yX7_comeOut, Cond.instanceMethod yX7_comeOut, Cond.selects RX7 yX7_comeOut yX7_comeOut]
def wsL_law_r27 : List Cond := [Cond.code yX7_comeOut cX7_comeOut 3 none, Cond.methodLink RX3 38 yX7_isGoing, Cond.instanceMethod yX7_isGoing, Cond.selects RX7 yX7_isGoing yX7_isGoing, Cond.code yX7_isGoing cX7_isGoing 1 (some .boolean), Cond.methodLink RX3 69 yX3_goOn, Cond.instanceMethod yX3_goOn, Cond.selects RX3 yX3_goOn yX3_goOn, Cond.code yX3_goOn cX3_goOn 2 none, Cond.methodLink RX3 42 yX7_size, Cond.instanceMethod yX7_size, Cond.selects RX7 yX7_size yX7_size, Cond.code yX7_size cX7_size 1 (some .int), Cond.methodLink RX3 46 yX7_last, Cond.methodLink RX3 49 yX3_comesUp, Cond.instanceMethod yX3_comesUp, Cond.selects RX3 yX3_comesUp yX3_comesUp, Cond.code yX3_comesUp cX3_comesUp 12 (some .int), Cond.fieldLink RX3 61 "TuneAndWords$Choir" "broughtUpBy" "I", Cond.methodLink RX3 57 yX7_song, Cond.instanceMethod yX7_song, Cond.selects RX7 yX7_song yX7_song, Cond.code yX7_song cX7_song 1 (some (.object "TuneAndWords$Song")), Cond.methodLink RX3 79 yX8_size]
def wsL_law_r28 : List Cond := [Cond.methodLink RX3 80 yX8_minds, Cond.instanceMethod yX8_minds, Cond.selects RX8 yX8_minds yX8_minds, Cond.code yX8_minds cX8_minds 2 (some .int), Cond.methodLink RX3 84 yX8_likeness, Cond.instanceMethod yX8_likeness, Cond.selects RX8 yX8_likeness yX8_likeness, Cond.code yX8_likeness cX8_likeness 5 (some .int), Cond.methodLink RX8 68 yX8_part, Cond.methodLink RX3 88 yX7_timesSung, Cond.instanceMethod yX7_timesSung, Cond.selects RX7 yX7_timesSung yX7_timesSung, Cond.code yX7_timesSung cX7_timesSung 2 (some .int), Cond.methodLink RX3 91 yX5_gives, Cond.instanceMethod yX5_gives, Cond.selects RX5 yX5_gives yX5_gives, Cond.code yX5_gives cX5_gives 5 (some .int), Cond.methodLink RX5 46 yX5_work, Cond.instanceMethod yX5_work, Cond.selects RX5 yX5_work yX5_work, Cond.code yX5_work cX5_work 7 (some .int), Cond.methodLink RX5 50 yX1_at, Cond.methodLink RX5 54 yX5_both, Cond.static yX5_both]
def wsL_law_r29 : List Cond := [Cond.code yX5_both cX5_both 3 (some .int), Cond.methodLink RX3 53 yX3_goOnTo, Cond.instanceMethod yX3_goOnTo, Cond.selects RX3 yX3_goOnTo yX3_goOnTo, Cond.code yX3_goOnTo cX3_goOnTo 3 none, Cond.methodLink RX10 187 yX7_size, Cond.methodLink RX10 188 yX7_outcome, Cond.instanceMethod yX7_outcome, Cond.selects RX7 yX7_outcome yX7_outcome, Cond.code yX7_outcome cX7_outcome 1 (some .int), Cond.methodLink RX10 191 yX7_where, Cond.instanceMethod yX7_where, Cond.selects RX7 yX7_where yX7_where, Cond.code yX7_where cX7_where 1 (some .int), Cond.methodLink RX10 194 yX7_right, Cond.instanceMethod yX7_right, Cond.selects RX7 yX7_right yX7_right, Cond.code yX7_right cX7_right 1 (some .int), Cond.methodLink RL 49 yX11_sing, Cond.instanceMethod yX11_sing, Cond.selects RX11 yX11_sing yX11_sing, Cond.code yX11_sing cX11_sing 3 (some .int), Cond.fieldLink RX11 268 "TuneAndWordsModel" "cameMany" "I", Cond.fieldLink RX11 277 "TuneAndWordsModel" "cameOut" "I"]
def wsL_law_r30 : List Cond := [Cond.fieldLink RX11 271 "TuneAndWordsModel" "whereOut" "I", Cond.methodLink RX11 283 yX11_rightFrom, Cond.instanceMethod yX11_rightFrom, Cond.selects RX11 yX11_rightFrom yX11_rightFrom, Cond.code yX11_rightFrom cX11_rightFrom 5 (some .int), Cond.methodLink RX11 265 yX11_beginSinging, Cond.instanceMethod yX11_beginSinging, Cond.selects RX11 yX11_beginSinging yX11_beginSinging, Cond.code yX11_beginSinging cX11_beginSinging 2 none, Cond.methodLink RX11 274 yX11_canSing, Cond.instanceMethod yX11_canSing, Cond.selects RX11 yX11_canSing yX11_canSing, Cond.code yX11_canSing cX11_canSing 3 (some .boolean), Cond.methodLink RX11 280 yX11_nextOf, Cond.instanceMethod yX11_nextOf, Cond.selects RX11 yX11_nextOf yX11_nextOf, Cond.code yX11_nextOf cX11_nextOf 8 (some .int), Cond.fieldLink RX11 262 "TuneAndWordsModel" "nextBy" "I", Cond.methodLink RX11 259 yX11_comesTo, Cond.instanceMethod yX11_comesTo, Cond.selects RX11 yX11_comesTo yX11_comesTo, Cond.code yX11_comesTo cX11_comesTo 9 (some .int), Cond.methodLink RX11 256 yX11_gives, Cond.instanceMethod yX11_gives]
def wsL_law_r31 : List Cond := [Cond.selects RX11 yX11_gives yX11_gives, Cond.code yX11_gives cX11_gives 4 (some .int), Cond.methodLink RX11 246 yX11_worked, Cond.instanceMethod yX11_worked, Cond.selects RX11 yX11_worked yX11_worked, Cond.code yX11_worked cX11_worked 7 (some .int), Cond.methodLink RX11 243 yX11_twoOf, Cond.static yX11_twoOf, Cond.code yX11_twoOf cX11_twoOf 3 (some .int), Cond.methodLink RX11 286 yX11_goSinging, Cond.instanceMethod yX11_goSinging, Cond.selects RX11 yX11_goSinging yX11_goSinging, Cond.code yX11_goSinging cX11_goSinging 5 none, Cond.methodLink RL 50 yX10_sung, Cond.instanceMethod yX10_sung, Cond.selects RX10 yX10_sung yX10_sung, Cond.code yX10_sung cX10_sung 5 (some .int), Cond.methodLink RX10 197 yX7_lineAt, Cond.instanceMethod yX7_lineAt, Cond.selects RX7 yX7_lineAt yX7_lineAt, Cond.code yX7_lineAt cX7_lineAt 2 (some .int), Cond.methodLink RX10 200 yX7_broughtUpBy, Cond.instanceMethod yX7_broughtUpBy, Cond.selects RX7 yX7_broughtUpBy yX7_broughtUpBy]
def wsL_law_r32 : List Cond := [Cond.code yX7_broughtUpBy cX7_broughtUpBy 2 (some .int), Cond.methodLink RL 53 yX11_sung, Cond.instanceMethod yX11_sung, Cond.selects RX11 yX11_sung yX11_sung, Cond.code yX11_sung cX11_sung 4 (some .int), Cond.methodLink RL 54 yX10_runUp, Cond.instanceMethod yX10_runUp, Cond.selects RX10 yX10_runUp yX10_runUp, Cond.code yX10_runUp cX10_runUp 10 (some .int), Cond.methodLink RX10 203 yX3_rightFrom, Cond.instanceMethod yX3_rightFrom, Cond.selects RX3 yX3_rightFrom yX3_rightFrom, Cond.code yX3_rightFrom cX3_rightFrom 5 (some .int), Cond.methodLink RX3 73 yX7_isRight, Cond.instanceMethod yX7_isRight, Cond.selects RX7 yX7_isRight yX7_isRight, Cond.code yX7_isRight cX7_isRight 1 (some .boolean), Cond.methodLink RX3 76 yX7_right, Cond.methodLink RX10 207 yX8_canBeSung, Cond.methodLink RL 57 yX11_runUp, Cond.instanceMethod yX11_runUp, Cond.selects RX11 yX11_runUp yX11_runUp, Cond.code yX11_runUp cX11_runUp 10 (some .int), Cond.methodLink RL 58 yX10_oneBit]
def wsL_law_r33 : List Cond := [Cond.instanceMethod yX10_oneBit, Cond.selects RX10 yX10_oneBit yX10_oneBit, Cond.code yX10_oneBit cX10_oneBit 8 (some .int), Cond.methodLink RX10 210 yX8_isLacked, Cond.instanceMethod yX8_isLacked, Cond.selects RX8 yX8_isLacked yX8_isLacked, Cond.code yX8_isLacked cX8_isLacked 2 (some .boolean), Cond.methodLink RX8 50 yX8_lineOf, Cond.static yX8_lineOf, Cond.code yX8_lineOf cX8_lineOf 1 (some .int), Cond.methodLink RX8 53 yX8_isLine, Cond.methodLink RX8 57 yX8_isHad, Cond.methodLink RX10 213 yX8_singerOf, Cond.methodLink RX10 216 yX8_lineOf, Cond.methodLink RX10 217 yX8_whichOf, Cond.static yX8_whichOf, Cond.code yX8_whichOf cX8_whichOf 1 (some .int), Cond.methodLink RL 61 yX11_oneBit, Cond.instanceMethod yX11_oneBit, Cond.selects RX11 yX11_oneBit yX11_oneBit, Cond.code yX11_oneBit cX11_oneBit 7 (some .int), Cond.methodLink RX11 289 yX11_bitsFor, Cond.instanceMethod yX11_bitsFor, Cond.selects RX11 yX11_bitsFor yX11_bitsFor]
def wsL_law_r34 : List Cond := [Cond.code yX11_bitsFor cX11_bitsFor 2 (some .int), Cond.methodLink RX11 292 yX11_bitOf, Cond.instanceMethod yX11_bitOf, Cond.selects RX11 yX11_bitOf yX11_bitOf, Cond.code yX11_bitOf cX11_bitOf 3 (some .int), Cond.methodLink RX11 295 yX11_giveBit, Cond.instanceMethod yX11_giveBit, Cond.selects RX11 yX11_giveBit yX11_giveBit, Cond.code yX11_giveBit cX11_giveBit 4 none, Cond.methodLink RL 62 yX10_fewest, Cond.instanceMethod yX10_fewest, Cond.selects RX10 yX10_fewest yX10_fewest, Cond.code yX10_fewest cX10_fewest 3 (some .int), Cond.methodLink RX10 220 yX10_fewestBehind, Cond.static yX10_fewestBehind, Cond.code yX10_fewestBehind cX10_fewestBehind 10 (some .int), Cond.methodLink RL 65 yX11_fewest, Cond.instanceMethod yX11_fewest, Cond.selects RX11 yX11_fewest yX11_fewest, Cond.code yX11_fewest cX11_fewest 3 (some .int), Cond.methodLink RX11 301 yX11_isWholeBy, Cond.instanceMethod yX11_isWholeBy, Cond.selects RX11 yX11_isWholeBy yX11_isWholeBy, Cond.code yX11_isWholeBy cX11_isWholeBy 6 (some .boolean)]
def wsL_law_r35 : List Cond := [Cond.methodLink RX11 298 yX11_isWhole, Cond.instanceMethod yX11_isWhole, Cond.selects RX11 yX11_isWhole yX11_isWhole, Cond.code yX11_isWhole cX11_isWhole 2 (some .boolean), Cond.methodLink RL 66 yX10_evenings, Cond.instanceMethod yX10_evenings, Cond.selects RX10 yX10_evenings yX10_evenings, Cond.code yX10_evenings cX10_evenings 7 (some .int), Cond.methodLink RL 69 yX11_evenings, Cond.instanceMethod yX11_evenings, Cond.selects RX11 yX11_evenings yX11_evenings, Cond.code yX11_evenings cX11_evenings 6 (some .int), Cond.methodLink RL 70 yX10_which, Cond.instanceMethod yX10_which, Cond.selects RX10 yX10_which yX10_which, Cond.code yX10_which cX10_which 6 (some .int), Cond.methodLink RX10 224 yX6_refusalOfBytes, Cond.instanceMethod yX6_refusalOfBytes, Cond.selects RX6 yX6_refusalOfBytes yX6_refusalOfBytes, Cond.code yX6_refusalOfBytes cX6_refusalOfBytes 1 (some .int), Cond.methodLink RX6 44 yX6_isEmpty, Cond.methodLink RX6 47 yX6_isRowOfBytes, Cond.methodLink RX10 227 yX8_placeOf, Cond.instanceMethod yX8_placeOf]
def wsL_law_r36 : List Cond := [Cond.selects RX8 yX8_placeOf yX8_placeOf, Cond.code yX8_placeOf cX8_placeOf 4 (some .int), Cond.methodLink RX8 71 yX6_length, Cond.methodLink RX8 77 yX6_small, Cond.methodLink RL 73 yX11_which, Cond.instanceMethod yX11_which, Cond.selects RX11 yX11_which yX11_which, Cond.code yX11_which cX11_which 4 (some .int), Cond.methodLink RX11 307 yX11_rowFault, Cond.instanceMethod yX11_rowFault, Cond.selects RX11 yX11_rowFault yX11_rowFault, Cond.code yX11_rowFault cX11_rowFault 2 (some .int), Cond.methodLink RX11 310 yX11_fromOf, Cond.instanceMethod yX11_fromOf, Cond.selects RX11 yX11_fromOf yX11_fromOf, Cond.code yX11_fromOf cX11_fromOf 6 (some .int), Cond.methodLink RX11 304 yX11_byteAt, Cond.instanceMethod yX11_byteAt, Cond.selects RX11 yX11_byteAt yX11_byteAt, Cond.code yX11_byteAt cX11_byteAt 3 (some .int), Cond.methodLink RL 74 yX10_from, Cond.instanceMethod yX10_from, Cond.selects RX10 yX10_from yX10_from, Cond.code yX10_from cX10_from 6 (some .int)]
def wsL_law_r37 : List Cond := [Cond.methodLink RL 77 yX11_from, Cond.instanceMethod yX11_from, Cond.selects RX11 yX11_from yX11_from, Cond.code yX11_from cX11_from 3 (some .int), Cond.methodLink RL 78 yX10_judge, Cond.instanceMethod yX10_judge, Cond.selects RX10 yX10_judge yX10_judge, Cond.code yX10_judge cX10_judge 6 (some .int), Cond.methodLink RX10 231 yX10_firstNotSo, Cond.instanceMethod yX10_firstNotSo, Cond.selects RX10 yX10_firstNotSo yX10_firstNotSo, Cond.code yX10_firstNotSo cX10_firstNotSo 4 (some .int), Cond.methodLink RX10 238 yX3_start, Cond.methodLink RX10 241 yX3_goOn, Cond.methodLink RL 81 yX11_judge, Cond.instanceMethod yX11_judge, Cond.selects RX11 yX11_judge yX11_judge, Cond.code yX11_judge cX11_judge 3 (some .int), Cond.methodLink RX11 313 yX11_wrongIn, Cond.instanceMethod yX11_wrongIn, Cond.selects RX11 yX11_wrongIn yX11_wrongIn, Cond.code yX11_wrongIn cX11_wrongIn 4 (some .int), Cond.methodLink RL 82 yX10_lacked, Cond.instanceMethod yX10_lacked]
def wsL_law_r38 : List Cond := [Cond.selects RX10 yX10_lacked yX10_lacked, Cond.code yX10_lacked cX10_lacked 9 (some .long), Cond.constantLong RX10 247 (-9223372036854775808), Cond.methodLink RX10 249 yX10_mayHaveLacked, Cond.instanceMethod yX10_mayHaveLacked, Cond.selects RX10 yX10_mayHaveLacked yX10_mayHaveLacked, Cond.code yX10_mayHaveLacked cX10_mayHaveLacked 10 (some .boolean), Cond.methodLink RL 86 yX11_lacked, Cond.instanceMethod yX11_lacked, Cond.selects RX11 yX11_lacked yX11_lacked, Cond.code yX11_lacked cX11_lacked 9 (some .long), Cond.constantLong RX11 316 (-9223372036854775808), Cond.methodLink RL 87 yX10_two, Cond.instanceMethod yX10_two, Cond.selects RX10 yX10_two yX10_two, Cond.code yX10_two cX10_two 11 (some .int), Cond.methodLink RX10 253 yX8_alikeFrom, Cond.instanceMethod yX8_alikeFrom, Cond.selects RX8 yX8_alikeFrom yX8_alikeFrom, Cond.code yX8_alikeFrom cX8_alikeFrom 5 (some .int), Cond.methodLink RL 90 yX11_two, Cond.instanceMethod yX11_two, Cond.selects RX11 yX11_two yX11_two, Cond.code yX11_two cX11_two 11 (some .int)]
def wsL_law_r39 : List Cond := [Cond.methodLink RX11 318 yX11_areTwo, Cond.static yX11_areTwo, Cond.code yX11_areTwo cX11_areTwo 1 (some .boolean), Cond.methodLink RL 91 yX10_mixed, Cond.instanceMethod yX10_mixed, Cond.selects RX10 yX10_mixed yX10_mixed, Cond.code yX10_mixed cX10_mixed 8 (some .int), Cond.methodLink RX10 257 yX8_tunesHad, Cond.instanceMethod yX8_tunesHad, Cond.selects RX8 yX8_tunesHad yX8_tunesHad, Cond.code yX8_tunesHad cX8_tunesHad 3 (some .int), Cond.methodLink RL 94 yX11_mixed, Cond.instanceMethod yX11_mixed, Cond.selects RX11 yX11_mixed yX11_mixed, Cond.code yX11_mixed cX11_mixed 4 (some .int), Cond.methodLink RX11 321 yX11_meets, Cond.instanceMethod yX11_meets, Cond.selects RX11 yX11_meets yX11_meets, Cond.code yX11_meets cX11_meets 4 (some .boolean), Cond.methodLink RL 95 yX10_drawn, Cond.instanceMethod yX10_drawn, Cond.selects RX10 yX10_drawn yX10_drawn, Cond.code yX10_drawn cX10_drawn 9 (some .int), Cond.methodLink RX10 263 yX8_setAside]
def wsL_law_r40 : List Cond := [Cond.instanceMethod yX8_setAside, Cond.selects RX8 yX8_setAside yX8_setAside, Cond.code yX8_setAside cX8_setAside 1 none, Cond.methodLink RX8 80 yX1_copy, Cond.static yX1_copy, Cond.code yX1_copy cX1_copy 2 none, Cond.methodLink RX1 7 Lib.Math.min.name, Cond.static Lib.Math.min.name, Cond.initialized "java/lang/Math", Cond.code Lib.Math.min.name Lib.Math.min.code 2 (some .int), Cond.methodLink RX1 13 arraycopyName, Cond.methodLink RX10 266 yX10_forgetBy, Cond.instanceMethod yX10_forgetBy, Cond.selects RX10 yX10_forgetBy yX10_forgetBy, Cond.code yX10_forgetBy cX10_forgetBy 5 (some .int), Cond.constant RX10 276 (1103515245), Cond.methodLink RX10 270 yX8_bitsHad, Cond.instanceMethod yX8_bitsHad, Cond.selects RX8 yX8_bitsHad yX8_bitsHad, Cond.code yX8_bitsHad cX8_bitsHad 3 (some .int), Cond.methodLink RX8 63 yJ6_bitCount_0f7a4, Cond.static yJ6_bitCount_0f7a4, Cond.initialized RJ6, Cond.code yJ6_bitCount_0f7a4 cJ6_bitCount_0f7a4 1 (some .int)]
def wsL_law_r41 : List Cond := [Cond.constant RJ6 265 (1431655765), Cond.constant RJ6 266 (858993459), Cond.constant RJ6 267 (252645135), Cond.methodLink RX10 273 yX8_takeBack, Cond.instanceMethod yX8_takeBack, Cond.selects RX8 yX8_takeBack yX8_takeBack, Cond.code yX8_takeBack cX8_takeBack 1 none, Cond.methodLink RL 98 yX11_drawn, Cond.instanceMethod yX11_drawn, Cond.selects RX11 yX11_drawn yX11_drawn, Cond.code yX11_drawn cX11_drawn 9 (some .int), Cond.constant RX11 327 (1103515245), Cond.methodLink RX11 328 yX11_bitsLeft, Cond.instanceMethod yX11_bitsLeft, Cond.selects RX11 yX11_bitsLeft yX11_bitsLeft, Cond.code yX11_bitsLeft cX11_bitsLeft 4 (some .int), Cond.methodLink RX11 324 yX11_bitsOf, Cond.static yX11_bitsOf, Cond.code yX11_bitsOf cX11_bitsOf 3 (some .int), Cond.methodLink RL 99 yX10_begin, Cond.instanceMethod yX10_begin, Cond.selects RX10 yX10_begin yX10_begin, Cond.code yX10_begin cX10_begin 3 (some .int), Cond.fieldLink RX10 284 "TuneAndWords$Deed" "singing" "LTuneAndWords$Singing;"]
def wsL_law_r42 : List Cond := [Cond.methodLink RX10 281 yX4_isOn, Cond.instanceMethod yX4_isOn, Cond.selects RX4 yX4_isOn yX4_isOn, Cond.code yX4_isOn cX4_isOn 1 (some .boolean), Cond.methodLink RX4 20 yX7_isGoing, Cond.methodLink RX10 287 yX4_tellBegun, Cond.instanceMethod yX4_tellBegun, Cond.selects RX4 yX4_tellBegun yX4_tellBegun, Cond.code yX4_tellBegun cX4_tellBegun 1 none, Cond.fieldLink RX4 24 "TuneAndWords$Deed" "singings" "I", Cond.methodLink RX4 28 yX4_tellGoneOn, Cond.instanceMethod yX4_tellGoneOn, Cond.selects RX4 yX4_tellGoneOn yX4_tellGoneOn, Cond.code yX4_tellGoneOn cX4_tellGoneOn 1 none, Cond.fieldLink RX4 35 "TuneAndWords$Deed" "sticks" "I", Cond.fieldLink RX4 41 "TuneAndWords$Deed" "linesSung" "I", Cond.fieldLink RX4 44 "TuneAndWords$Deed" "longest" "I", Cond.methodLink RX4 50 Lib.Math.max.name, Cond.static Lib.Math.max.name, Cond.code Lib.Math.max.name Lib.Math.max.code 2 (some .int), Cond.methodLink RX4 31 yX7_outcome, Cond.methodLink RX4 38 yX4_isOn, Cond.methodLink RX4 47 yX7_size, Cond.methodLink RL 102 yX11_begin]
def wsL_law_r43 : List Cond := [Cond.instanceMethod yX11_begin, Cond.selects RX11 yX11_begin yX11_begin, Cond.code yX11_begin cX11_begin 3 (some .int), Cond.methodLink RX11 331 yX11_singNow, Cond.instanceMethod yX11_singNow, Cond.selects RX11 yX11_singNow yX11_singNow, Cond.code yX11_singNow cX11_singNow 3 (some .boolean), Cond.methodLink RL 103 yX10_on, Cond.instanceMethod yX10_on, Cond.selects RX10 yX10_on yX10_on, Cond.code yX10_on cX10_on 2 (some .int), Cond.methodLink RX10 290 yX4_tellGoneOn, Cond.methodLink RX10 293 yX7_last, Cond.methodLink RL 106 yX11_on, Cond.instanceMethod yX11_on, Cond.selects RX11 yX11_on yX11_on, Cond.code yX11_on cX11_on 2 (some .int), Cond.methodLink RL 107 yX10_led, Cond.instanceMethod yX10_led, Cond.selects RX10 yX10_led yX10_led, Cond.code yX10_led cX10_led 2 (some .int), Cond.fieldLink RX10 296 "TuneAndWords$Deed" "singings" "I", Cond.fieldLink RX10 299 "TuneAndWords$Deed" "linesSung" "I", Cond.fieldLink RX10 302 "TuneAndWords$Deed" "sticks" "I"]
def wsL_law_r44 : List Cond := [Cond.fieldLink RX10 305 "TuneAndWords$Deed" "longest" "I", Cond.methodLink RL 110 yX11_led, Cond.instanceMethod yX11_led, Cond.selects RX11 yX11_led yX11_led, Cond.code yX11_led cX11_led 2 (some .int), Cond.methodLink RL 111 yX10_image, Cond.instanceMethod yX10_image, Cond.selects RX10 yX10_image yX10_image, Cond.code yX10_image cX10_image 2 (some .int), Cond.fieldLink RX10 315 "TuneAndWords" "imageKept" "Z", Cond.methodLink RX10 308 yX8_keepImage, Cond.instanceMethod yX8_keepImage, Cond.selects RX8 yX8_keepImage yX8_keepImage, Cond.code yX8_keepImage cX8_keepImage 1 none, Cond.methodLink RX10 311 yX4_copyFrom, Cond.instanceMethod yX4_copyFrom, Cond.selects RX4 yX4_copyFrom yX4_copyFrom, Cond.code yX4_copyFrom cX4_copyFrom 2 none, Cond.methodLink RX4 56 yX7_copyFrom, Cond.instanceMethod yX7_copyFrom, Cond.selects RX7 yX7_copyFrom yX7_copyFrom, Cond.code yX7_copyFrom cX7_copyFrom 2 none, Cond.methodLink RX7 58 yX1_copy, Cond.methodLink RL 114 yX11_image]
def wsL_law_r45 : List Cond := [Cond.instanceMethod yX11_image, Cond.selects RX11 yX11_image yX11_image, Cond.code yX11_image cX11_image 2 (some .int), Cond.fieldLink RX11 334 "TuneAndWordsModel" "hasImage" "Z", Cond.methodLink RL 115 yX10_back, Cond.instanceMethod yX10_back, Cond.selects RX10 yX10_back yX10_back, Cond.code yX10_back cX10_back 2 (some .int), Cond.methodLink RX10 319 yX8_layImageBack, Cond.instanceMethod yX8_layImageBack, Cond.selects RX8 yX8_layImageBack yX8_layImageBack, Cond.code yX8_layImageBack cX8_layImageBack 1 none, Cond.methodLink RL 118 yX11_back, Cond.instanceMethod yX11_back, Cond.selects RX11 yX11_back yX11_back, Cond.code yX11_back cX11_back 2 (some .int), Cond.methodLink RL 119 yX10_undo, Cond.instanceMethod yX10_undo, Cond.selects RX10 yX10_undo yX10_undo, Cond.code yX10_undo cX10_undo 2 (some .int), Cond.methodLink RX10 322 yX2_undoable, Cond.instanceMethod yX2_undoable, Cond.selects RX2 yX2_undoable yX2_undoable, Cond.code yX2_undoable cX2_undoable 1 (some .int)]
def wsL_law_r46 : List Cond := [Cond.methodLink RX10 325 yX2_stepBack, Cond.instanceMethod yX2_stepBack, Cond.selects RX2 yX2_stepBack yX2_stepBack, Cond.code yX2_stepBack cX2_stepBack 1 (some .int), Cond.methodLink RX10 328 yX2_number, Cond.instanceMethod yX2_number, Cond.selects RX2 yX2_number yX2_number, Cond.code yX2_number cX2_number 2 (some .int), Cond.methodLink RX2 44 yX1_at, Cond.methodLink RX10 331 yX2_what, Cond.instanceMethod yX2_what, Cond.selects RX2 yX2_what yX2_what, Cond.code yX2_what cX2_what 2 (some .int), Cond.methodLink RX10 334 yX2_before, Cond.instanceMethod yX2_before, Cond.selects RX2 yX2_before yX2_before, Cond.code yX2_before cX2_before 2 (some .int), Cond.methodLink RL 122 yX11_undo, Cond.instanceMethod yX11_undo, Cond.selects RX11 yX11_undo yX11_undo, Cond.code yX11_undo cX11_undo 1 (some .int), Cond.methodLink RL 123 yX10_redo, Cond.instanceMethod yX10_redo, Cond.selects RX10 yX10_redo yX10_redo]
def wsL_law_r47 : List Cond := [Cond.code yX10_redo cX10_redo 2 (some .int), Cond.methodLink RX10 337 yX2_redoable, Cond.instanceMethod yX2_redoable, Cond.selects RX2 yX2_redoable yX2_redoable, Cond.code yX2_redoable cX2_redoable 1 (some .int), Cond.methodLink RX10 340 yX2_stepAhead, Cond.instanceMethod yX2_stepAhead, Cond.selects RX2 yX2_stepAhead yX2_stepAhead, Cond.code yX2_stepAhead cX2_stepAhead 1 (some .int), Cond.methodLink RX10 343 yX2_after, Cond.instanceMethod yX2_after, Cond.selects RX2 yX2_after yX2_after, Cond.code yX2_after cX2_after 2 (some .int), Cond.methodLink RL 126 yX11_redo, Cond.instanceMethod yX11_redo, Cond.selects RX11 yX11_redo yX11_redo, Cond.code yX11_redo cX11_redo 1 (some .int), Cond.methodLink RL 127 yX10_body, Cond.instanceMethod yX10_body, Cond.selects RX10 yX10_body yX10_body, Cond.code yX10_body cX10_body 2 (some .int), Cond.methodLink RX10 346 yX0_isKind, Cond.static yX0_isKind, Cond.code yX0_isKind cX0_isKind 1 (some .boolean)]
def wsL_law_r48 : List Cond := [Cond.methodLink RX10 349 yX0_isFull, Cond.instanceMethod yX0_isFull, Cond.selects RX0 yX0_isFull yX0_isFull, Cond.code yX0_isFull cX0_isFull 1 (some .boolean), Cond.fieldLink RX0 29 "TuneAndWords$Acts" "size" "I", Cond.methodLink RX10 350 yX0_addBody, Cond.instanceMethod yX0_addBody, Cond.selects RX0 yX0_addBody yX0_addBody, Cond.code yX0_addBody cX0_addBody 2 (some .int), Cond.methodLink RX0 33 yX1_set, Cond.methodLink RL 130 yX11_body, Cond.instanceMethod yX11_body, Cond.selects RX11 yX11_body yX11_body, Cond.code yX11_body cX11_body 2 (some .int), Cond.fieldLink RX11 337 "TuneAndWordsModel" "bodies" "I", Cond.methodLink RL 131 yX10_act, Cond.instanceMethod yX10_act, Cond.selects RX10 yX10_act yX10_act, Cond.code yX10_act cX10_act 4 (some .int), Cond.methodLink RX10 353 yX0_perform, Cond.instanceMethod yX0_perform, Cond.selects RX0 yX0_perform yX0_perform, Cond.code yX0_perform cX0_perform 4 (some .int), Cond.fieldLink RX0 43 "TuneAndWords$Acts" "ran" "I"]
def wsL_law_r49 : List Cond := [Cond.fieldLink RX0 56 "TuneAndWords$Acts" "acting" "I", Cond.methodLink RX0 52 yX0_isBody, Cond.instanceMethod yX0_isBody, Cond.selects RX0 yX0_isBody yX0_isBody, Cond.code yX0_isBody cX0_isBody 2 (some .boolean), Cond.methodLink RX0 59 yX0_run, Cond.instanceMethod yX0_run, Cond.selects RX0 yX0_run yX0_run, Cond.code yX0_run cX0_run 4 (some .int), Cond.methodLink RX0 63 yX0_kindOf, Cond.instanceMethod yX0_kindOf, Cond.selects RX0 yX0_kindOf yX0_kindOf, Cond.code yX0_kindOf cX0_kindOf 2 (some .int), Cond.methodLink RX0 39 yX1_at, Cond.methodLink RX0 66 yX0_runFrom, Cond.instanceMethod yX0_runFrom, Cond.selects RX0 yX0_runFrom yX0_runFrom, Cond.code yX0_runFrom cX0_runFrom 7 (some .int), Cond.methodLink RX0 70 yX0_ownBody, Cond.static yX0_ownBody, Cond.code yX0_ownBody cX0_ownBody 2 (some .int), Cond.fieldLink RX0 76 "TuneAndWords$Acts" "OWN_BODY" "[I", Cond.methodLink RX0 22 yX0_nextAbove, Cond.static yX0_nextAbove]
def wsL_law_r50 : List Cond := [Cond.code yX0_nextAbove cX0_nextAbove 1 (some .int), Cond.fieldLink RX0 26 "TuneAndWords$Acts" "ABOVE" "[I", Cond.methodLink RX0 73 yX0_worked, Cond.instanceMethod yX0_worked, Cond.selects RX0 yX0_worked yX0_worked, Cond.code yX0_worked cX0_worked 5 (some .int), Cond.methodLink RL 134 yX11_act, Cond.instanceMethod yX11_act, Cond.selects RX11 yX11_act yX11_act, Cond.code yX11_act cX11_act 4 (some .int), Cond.fieldLink RX11 340 "TuneAndWordsModel" "traces" "I", Cond.methodLink RX11 380 yX11_isBody, Cond.instanceMethod yX11_isBody, Cond.selects RX11 yX11_isBody yX11_isBody, Cond.code yX11_isBody cX11_isBody 2 (some .boolean), Cond.methodLink RX11 356 yX11_beginning, Cond.instanceMethod yX11_beginning, Cond.selects RX11 yX11_beginning yX11_beginning, Cond.code yX11_beginning cX11_beginning 3 (some .int), Cond.methodLink RX11 350 yX11_isUnder, Cond.static yX11_isUnder, Cond.code yX11_isUnder cX11_isUnder 2 (some .boolean), Cond.methodLink RX11 343 yX11_ran, Cond.instanceMethod yX11_ran]
def wsL_law_r51 : List Cond := [Cond.selects RX11 yX11_ran yX11_ran, Cond.code yX11_ran cX11_ran 2 none, Cond.methodLink RX11 347 yX11_plainBegins, Cond.instanceMethod yX11_plainBegins, Cond.selects RX11 yX11_plainBegins yX11_plainBegins, Cond.code yX11_plainBegins cX11_plainBegins 3 (some .int), Cond.methodLink RX11 353 yX11_wholeBegins, Cond.instanceMethod yX11_wholeBegins, Cond.selects RX11 yX11_wholeBegins yX11_wholeBegins, Cond.code yX11_wholeBegins cX11_wholeBegins 3 (some .int), Cond.methodLink RX11 374 yX11_humming, Cond.instanceMethod yX11_humming, Cond.selects RX11 yX11_humming yX11_humming, Cond.code yX11_humming cX11_humming 4 (some .int), Cond.methodLink RX11 362 yX11_wordedHums, Cond.instanceMethod yX11_wordedHums, Cond.selects RX11 yX11_wordedHums yX11_wordedHums, Cond.code yX11_wordedHums cX11_wordedHums 3 (some .int), Cond.methodLink RX11 359 yX11_plainHums, Cond.instanceMethod yX11_plainHums, Cond.selects RX11 yX11_plainHums yX11_plainHums, Cond.code yX11_plainHums cX11_plainHums 3 (some .int), Cond.methodLink RX11 365 yX11_saying, Cond.instanceMethod yX11_saying]
def wsL_law_r52 : List Cond := [Cond.selects RX11 yX11_saying yX11_saying, Cond.code yX11_saying cX11_saying 4 (some .int), Cond.methodLink RX11 371 yX11_rhymedSays, Cond.instanceMethod yX11_rhymedSays, Cond.selects RX11 yX11_rhymedSays yX11_rhymedSays, Cond.code yX11_rhymedSays cX11_rhymedSays 3 (some .int), Cond.methodLink RX11 368 yX11_plainSays, Cond.instanceMethod yX11_plainSays, Cond.selects RX11 yX11_plainSays yX11_plainSays, Cond.code yX11_plainSays cX11_plainSays 3 (some .int), Cond.methodLink RX11 383 yX11_telling, Cond.instanceMethod yX11_telling, Cond.selects RX11 yX11_telling yX11_telling, Cond.code yX11_telling cX11_telling 3 (some .int), Cond.methodLink RX11 377 yX11_plainTells, Cond.instanceMethod yX11_plainTells, Cond.selects RX11 yX11_plainTells yX11_plainTells, Cond.code yX11_plainTells cX11_plainTells 4 (some .int), Cond.methodLink RL 135 yX10_trace, Cond.instanceMethod yX10_trace, Cond.selects RX10 yX10_trace yX10_trace, Cond.code yX10_trace cX10_trace 2 (some .int), Cond.methodLink RX10 356 yX0_traced, Cond.instanceMethod yX0_traced]
def wsL_law_r53 : List Cond := [Cond.selects RX0 yX0_traced yX0_traced, Cond.code yX0_traced cX0_traced 2 (some .int), Cond.methodLink RX0 46 Lib.Math.min.name, Cond.methodLink RL 138 yX11_trace, Cond.instanceMethod yX11_trace, Cond.selects RX11 yX11_trace yX11_trace, Cond.code yX11_trace cX11_trace 2 (some .int), Cond.methodLink RL 139 yX10_keep, Cond.instanceMethod yX10_keep, Cond.selects RX10 yX10_keep yX10_keep, Cond.code yX10_keep cX10_keep 4 (some .int), Cond.methodLink RX10 359 yX0_isBody, Cond.methodLink RX10 362 yX6_holdNothing, Cond.instanceMethod yX6_holdNothing, Cond.selects RX6 yX6_holdNothing yX6_holdNothing, Cond.code yX6_holdNothing cX6_holdNothing 1 none, Cond.methodLink RX10 365 yX6_holdBody, Cond.instanceMethod yX6_holdBody, Cond.selects RX6 yX6_holdBody yX6_holdBody, Cond.code yX6_holdBody cX6_holdBody 2 none, Cond.fieldLink RX6 19 "TuneAndWords$Shelf" "body" "I", Cond.methodLink RL 142 yX11_keep, Cond.instanceMethod yX11_keep, Cond.selects RX11 yX11_keep yX11_keep]
def wsL_law_r54 : List Cond := [Cond.code yX11_keep cX11_keep 3 (some .int), Cond.methodLink RL 143 yX10_row, Cond.instanceMethod yX10_row, Cond.selects RX10 yX10_row yX10_row, Cond.code yX10_row cX10_row 5 (some .int), Cond.methodLink RX10 368 yX6_holdRow, Cond.instanceMethod yX6_holdRow, Cond.selects RX6 yX6_holdRow yX6_holdRow, Cond.code yX6_holdRow cX6_holdRow 3 none, Cond.methodLink RX6 25 Lib.Math.min.name, Cond.methodLink RX6 34 yJ7_fill_d0a16, Cond.static yJ7_fill_d0a16, Cond.code yJ7_fill_d0a16 cJ7_fill_d0a16 5 none, Cond.methodLink RL 146 yX11_row, Cond.instanceMethod yX11_row, Cond.selects RX11 yX11_row yX11_row, Cond.code yX11_row cX11_row 5 (some .int), Cond.methodLink RL 149 yX10_put, Cond.instanceMethod yX10_put, Cond.selects RX10 yX10_put yX10_put, Cond.code yX10_put cX10_put 7 (some .int), Cond.methodLink RX10 372 yX6_refusalOfRow, Cond.instanceMethod yX6_refusalOfRow, Cond.selects RX6 yX6_refusalOfRow yX6_refusalOfRow]
def wsL_law_r55 : List Cond := [Cond.code yX6_refusalOfRow cX6_refusalOfRow 1 (some .int), Cond.methodLink RX10 375 yX6_become, Cond.instanceMethod yX6_become, Cond.selects RX6 yX6_become yX6_become, Cond.code yX6_become cX6_become 4 none, Cond.methodLink RX6 54 yX6_lowestOf, Cond.instanceMethod yX6_lowestOf, Cond.selects RX6 yX6_lowestOf yX6_lowestOf, Cond.code yX6_lowestOf cX6_lowestOf 3 (some .long), Cond.methodLink RL 153 yX11_put, Cond.instanceMethod yX11_put, Cond.selects RX11 yX11_put yX11_put, Cond.code yX11_put cX11_put 7 (some .int), Cond.methodLink RX11 386 yX11_whyNoPlace, Cond.instanceMethod yX11_whyNoPlace, Cond.selects RX11 yX11_whyNoPlace yX11_whyNoPlace, Cond.code yX11_whyNoPlace cX11_whyNoPlace 3 (some .int), Cond.methodLink RL 154 yX10_element, Cond.instanceMethod yX10_element, Cond.selects RX10 yX10_element yX10_element, Cond.code yX10_element cX10_element 4 (some .long), Cond.methodLink RX10 378 yX6_isRow, Cond.methodLink RX10 381 yX6_cell, Cond.methodLink RL 157 yX11_element]
def wsL_law_r56 : List Cond := [Cond.instanceMethod yX11_element, Cond.selects RX11 yX11_element yX11_element, Cond.code yX11_element cX11_element 3 (some .long), Cond.methodLink RL 158 yX10_shift, Cond.instanceMethod yX10_shift, Cond.selects RX10 yX10_shift yX10_shift, Cond.code yX10_shift cX10_shift 8 (some .int), Cond.methodLink RX10 385 yX6_isRowLike, Cond.instanceMethod yX6_isRowLike, Cond.selects RX6 yX6_isRowLike yX6_isRowLike, Cond.code yX6_isRowLike cX6_isRowLike 2 (some .boolean), Cond.methodLink RX10 389 yX6_hasStretch, Cond.instanceMethod yX6_hasStretch, Cond.selects RX6 yX6_hasStretch yX6_hasStretch, Cond.code yX6_hasStretch cX6_hasStretch 3 (some .boolean), Cond.methodLink RX10 392 yX6_copyTo, Cond.instanceMethod yX6_copyTo, Cond.selects RX6 yX6_copyTo yX6_copyTo, Cond.code yX6_copyTo cX6_copyTo 5 none, Cond.methodLink RX6 62 arraycopyName, Cond.methodLink RX6 58 yX6_hasStretch, Cond.methodLink RL 162 yX11_shift, Cond.instanceMethod yX11_shift, Cond.selects RX11 yX11_shift yX11_shift]
def wsL_law_r57 : List Cond := [Cond.code yX11_shift cX11_shift 7 (some .int), Cond.methodLink RL 163 yX10_taken, Cond.instanceMethod yX10_taken, Cond.selects RX10 yX10_taken yX10_taken, Cond.code yX10_taken cX10_taken 5 (some .int), Cond.methodLink RX10 396 yX6_bodyHeld, Cond.instanceMethod yX6_bodyHeld, Cond.selects RX6 yX6_bodyHeld yX6_bodyHeld, Cond.code yX6_bodyHeld cX6_bodyHeld 1 (some .int), Cond.methodLink RX10 399 yX0_kindOf, Cond.methodLink RX10 402 yX0_isUnder, Cond.static yX0_isUnder, Cond.code yX0_isUnder cX0_isUnder 4 (some .boolean), Cond.methodLink RL 166 yX11_taken, Cond.instanceMethod yX11_taken, Cond.selects RX11 yX11_taken yX11_taken, Cond.code yX11_taken cX11_taken 3 (some .int), Cond.methodLink RL 167 yX10_count, Cond.instanceMethod yX10_count, Cond.selects RX10 yX10_count yX10_count, Cond.code yX10_count cX10_count 2 (some .int), Cond.methodLink RX10 405 yX10_linesOfAll, Cond.instanceMethod yX10_linesOfAll, Cond.selects RX10 yX10_linesOfAll yX10_linesOfAll]
def wsL_law_r58 : List Cond := [Cond.code yX10_linesOfAll cX10_linesOfAll 3 (some .int), Cond.methodLink RX10 408 yX10_bitsOfAll, Cond.instanceMethod yX10_bitsOfAll, Cond.selects RX10 yX10_bitsOfAll yX10_bitsOfAll, Cond.code yX10_bitsOfAll cX10_bitsOfAll 3 (some .int), Cond.methodLink RX10 411 yX0_bodies, Cond.instanceMethod yX0_bodies, Cond.selects RX0 yX0_bodies yX0_bodies, Cond.code yX0_bodies cX0_bodies 1 (some .int), Cond.methodLink RX10 414 yX0_ran, Cond.instanceMethod yX0_ran, Cond.selects RX0 yX0_ran yX0_ran, Cond.code yX0_ran cX0_ran 1 (some .int), Cond.methodLink RL 170 yX11_count, Cond.instanceMethod yX11_count, Cond.selects RX11 yX11_count yX11_count, Cond.code yX11_count cX11_count 2 (some .int)]
def wsL_law : List Cond := (wsL_law_r1 ++ (wsL_law_r2 ++ (wsL_law_r3 ++ (wsL_law_r4 ++ (wsL_law_r5 ++ (wsL_law_r6 ++ (wsL_law_r7 ++ (wsL_law_r8 ++ (wsL_law_r9 ++ (wsL_law_r10 ++ (wsL_law_r11 ++ (wsL_law_r12 ++ (wsL_law_r13 ++ (wsL_law_r14 ++ (wsL_law_r15 ++ (wsL_law_r16 ++ (wsL_law_r17 ++ (wsL_law_r18 ++ (wsL_law_r19 ++ (wsL_law_r20 ++ (wsL_law_r21 ++ (wsL_law_r22 ++ (wsL_law_r23 ++ (wsL_law_r24 ++ (wsL_law_r25 ++ (wsL_law_r26 ++ (wsL_law_r27 ++ (wsL_law_r28 ++ (wsL_law_r29 ++ (wsL_law_r30 ++ (wsL_law_r31 ++ (wsL_law_r32 ++ (wsL_law_r33 ++ (wsL_law_r34 ++ (wsL_law_r35 ++ (wsL_law_r36 ++ (wsL_law_r37 ++ (wsL_law_r38 ++ (wsL_law_r39 ++ (wsL_law_r40 ++ (wsL_law_r41 ++ (wsL_law_r42 ++ (wsL_law_r43 ++ (wsL_law_r44 ++ (wsL_law_r45 ++ (wsL_law_r46 ++ (wsL_law_r47 ++ (wsL_law_r48 ++ (wsL_law_r49 ++ (wsL_law_r50 ++ (wsL_law_r51 ++ (wsL_law_r52 ++ (wsL_law_r53 ++ (wsL_law_r54 ++ (wsL_law_r55 ++ (wsL_law_r56 ++ (wsL_law_r57 ++ wsL_law_r58))))))))))))))))))))))))))))))))))))))))))))))))))))))))) ++ wsX100 ++ wsX110 ++ wsX20 ++ wsX00 ++ wsX50 ++ wsX80 ++ wsX60 ++ wsX30 ++ wsX70 ++ wsX40 ++ wsX90 ++ ([] : List Cond)
set_option maxRecDepth 20000 in
theorem wsL_law_in : ∀ w ∈ wsL_law, w ∈ lw_tbl := fun w h => (goodIn_p wsL_law [105, 108, 115, 141, 165, 192, 213, 236, 254, 285, 314, 336, 340, 346, 350, 353, 356, 361, 364, 367, 370, 374, 384, 388, 391, 395, 399, 402, 406, 410, 418, 421, 435, 429, 414, 425, 432, 439, 443, 1149, 486, 490, 493, 496, 501, 505, 509, 1305, 1308, 1311, 1315, 514, 518, 522, 526, 530, 534, 538, 542, 546, 1319, 1322, 550, 554, 557, 561, 564, 568, 572, 576, 1327, 1330, 1334, 1338, 1341, 1345, 580, 584, 587, 591, 596, 600, 604, 612, 1364, 1368, 1371, 1375, 1379, 1356, 1353, 618, 622, 626, 1383, 1387, 630, 635, 1391, 639, 1395, 1399, 1403, 1407, 1431, 1438, 1411, 1415, 1427, 1434, 1442, 1446, 1450, 1423, 1419, 643, 647, 651, 655, 660, 665, 669, 675, 679, 683, 687, 692, 696, 701, 705, 710, 714, 718, 722, 726, 731, 735, 739, 1454, 1458, 1462, 1466, 1470, 1474, 1478, 1482, 1485, 1489, 743, 747, 751, 1493, 755, 759, 763, 1497, 769, 773, 776, 783, 1501, 1505, 1509, 1513, 787, 790, 1517, 1521, 1525, 794, 1529, 798, 802, 808, 1533, 1537, 1541, 1545, 814, 1549, 818, 822, 1553, 1557, 828, 833, 1561, 837, 841, 1566, 1569, 845, 849, 1573, 1577, 853, 857, 860, 863, 868, 873, 876, 883, 1581, 1586, 1589, 887, 891, 896, 900, 906, 1593, 1597, 910, 1601, 916, 1605, 920, 924, 928, 932, 1609, 937, 941, 1613, 945, 949, 953, 957, 962, 966, 1349, 970, 974, 978, 982, 1360, 986, 989, 994, 998, 1621, 1003, 1007, 1011, 1015, 1019, 1024, 1027, 1032, 1038, 1625, 1629, 1633, 1636, 1640, 1644, 1648, 1652, 1656, 1660, 1664, 1668, 1672, 1676, 1680, 1042, 1046, 1617, 1051, 1056, 1060, 1688, 1064, 1068, 1072, 1692, 1076, 1080, 1084, 1088, 1696, 1700, 1092, 1704, 1098, 1102, 1106, 1110, 1708, 1116, 1120, 1124, 1712, 1128, 1132, 1136, 1140, 1144, 1684] (by decide +kernel) (by decide +kernel) w h).1
theorem inlX0 : ∀ w ∈ wsX00, w ∈ wsL_law := fun _ h => List.mem_append_left _ (List.mem_append_left _ (List.mem_append_left _ (List.mem_append_left _ (List.mem_append_left _ (List.mem_append_left _ (List.mem_append_left _ (List.mem_append_left _ (List.mem_append_right _ h))))))))
theorem inX0 : ∀ w ∈ wsX00, w ∈ lw_tbl := fun w h => wsL_law_in w (inlX0 w h)
theorem inX1 : ∀ w ∈ wsX10, w ∈ lw_tbl := by decide +kernel
theorem inlX2 : ∀ w ∈ wsX20, w ∈ wsL_law := fun _ h => List.mem_append_left _ (List.mem_append_left _ (List.mem_append_left _ (List.mem_append_left _ (List.mem_append_left _ (List.mem_append_left _ (List.mem_append_left _ (List.mem_append_left _ (List.mem_append_left _ (List.mem_append_right _ h)))))))))
theorem inX2 : ∀ w ∈ wsX20, w ∈ lw_tbl := fun w h => wsL_law_in w (inlX2 w h)
theorem inlX3 : ∀ w ∈ wsX30, w ∈ wsL_law := fun _ h => List.mem_append_left _ (List.mem_append_left _ (List.mem_append_left _ (List.mem_append_left _ (List.mem_append_right _ h))))
theorem inX3 : ∀ w ∈ wsX30, w ∈ lw_tbl := fun w h => wsL_law_in w (inlX3 w h)
theorem inlX4 : ∀ w ∈ wsX40, w ∈ wsL_law := fun _ h => List.mem_append_left _ (List.mem_append_left _ (List.mem_append_right _ h))
theorem inX4 : ∀ w ∈ wsX40, w ∈ lw_tbl := fun w h => wsL_law_in w (inlX4 w h)
theorem inlX5 : ∀ w ∈ wsX50, w ∈ wsL_law := fun _ h => List.mem_append_left _ (List.mem_append_left _ (List.mem_append_left _ (List.mem_append_left _ (List.mem_append_left _ (List.mem_append_left _ (List.mem_append_left _ (List.mem_append_right _ h)))))))
theorem inX5 : ∀ w ∈ wsX50, w ∈ lw_tbl := fun w h => wsL_law_in w (inlX5 w h)
theorem inlX6 : ∀ w ∈ wsX60, w ∈ wsL_law := fun _ h => List.mem_append_left _ (List.mem_append_left _ (List.mem_append_left _ (List.mem_append_left _ (List.mem_append_left _ (List.mem_append_right _ h)))))
theorem inX6 : ∀ w ∈ wsX60, w ∈ lw_tbl := fun w h => wsL_law_in w (inlX6 w h)
theorem inlX7 : ∀ w ∈ wsX70, w ∈ wsL_law := fun _ h => List.mem_append_left _ (List.mem_append_left _ (List.mem_append_left _ (List.mem_append_right _ h)))
theorem inX7 : ∀ w ∈ wsX70, w ∈ lw_tbl := fun w h => wsL_law_in w (inlX7 w h)
theorem inlX8 : ∀ w ∈ wsX80, w ∈ wsL_law := fun _ h => List.mem_append_left _ (List.mem_append_left _ (List.mem_append_left _ (List.mem_append_left _ (List.mem_append_left _ (List.mem_append_left _ (List.mem_append_right _ h))))))
theorem inX8 : ∀ w ∈ wsX80, w ∈ lw_tbl := fun w h => wsL_law_in w (inlX8 w h)
theorem inlX9 : ∀ w ∈ wsX90, w ∈ wsL_law := fun _ h => List.mem_append_left _ (List.mem_append_right _ h)
theorem inX9 : ∀ w ∈ wsX90, w ∈ lw_tbl := fun w h => wsL_law_in w (inlX9 w h)
theorem inlX10 : ∀ w ∈ wsX100, w ∈ wsL_law := fun _ h => List.mem_append_left _ (List.mem_append_left _ (List.mem_append_left _ (List.mem_append_left _ (List.mem_append_left _ (List.mem_append_left _ (List.mem_append_left _ (List.mem_append_left _ (List.mem_append_left _ (List.mem_append_left _ (List.mem_append_left _ (List.mem_append_right _ h)))))))))))
theorem inX10 : ∀ w ∈ wsX100, w ∈ lw_tbl := fun w h => wsL_law_in w (inlX10 w h)
theorem inlX11 : ∀ w ∈ wsX110, w ∈ wsL_law := fun _ h => List.mem_append_left _ (List.mem_append_left _ (List.mem_append_left _ (List.mem_append_left _ (List.mem_append_left _ (List.mem_append_left _ (List.mem_append_left _ (List.mem_append_left _ (List.mem_append_left _ (List.mem_append_left _ (List.mem_append_right _ h))))))))))
theorem inX11 : ∀ w ∈ wsX110, w ∈ lw_tbl := fun w h => wsL_law_in w (inlX11 w h)
theorem inJx145de : ∀ w ∈ wsJx145de0, w ∈ lw_tbl := by decide +kernel
theorem inJx9f9b0 : ∀ w ∈ wsJx9f9b00, w ∈ lw_tbl := by decide +kernel
theorem inJxb160c : ∀ w ∈ wsJxb160c0, w ∈ lw_tbl := by decide +kernel
theorem inJ6 : ∀ w ∈ wsJ60, w ∈ lw_tbl := by decide +kernel
theorem inJ9 : ∀ w ∈ wsJ90, w ∈ lw_tbl := by decide +kernel
theorem inJ0 : ∀ w ∈ wsJ00, w ∈ lw_tbl := by decide +kernel
theorem inJ1 : ∀ w ∈ wsJ10, w ∈ lw_tbl := by decide +kernel
theorem inJ2 : ∀ w ∈ wsJ20, w ∈ lw_tbl := by decide +kernel
theorem inJ10 : ∀ w ∈ wsJ100, w ∈ lw_tbl := by decide +kernel
theorem inJxfd54e : ∀ w ∈ wsJxfd54e0, w ∈ lw_tbl := by decide +kernel
theorem inJx3cf43 : ∀ w ∈ wsJx3cf430, w ∈ lw_tbl := by decide +kernel
theorem inJ7 : ∀ w ∈ wsJ70, w ∈ lw_tbl := by decide +kernel
theorem inJ3 : ∀ w ∈ wsJ30, w ∈ lw_tbl := by decide +kernel
theorem dX0_init_0 : decode cX0_init 0 = .ok (.aload_n 0, 1) := by decide +kernel
theorem dX0_init_1 : decode cX0_init 1 = .ok (.invokespecial 3, 3) := by decide +kernel
theorem dX0_init_4 : decode cX0_init 4 = .ok (.aload_n 0, 1) := by decide +kernel
theorem dX0_init_5 : decode cX0_init 5 = .ok (.bipush 50, 2) := by decide +kernel
theorem dX0_init_7 : decode cX0_init 7 = .ok (.newarray .int, 2) := by decide +kernel
theorem dX0_init_9 : decode cX0_init 9 = .ok (.putfield 11, 3) := by decide +kernel
theorem dX0_init_12 : decode cX0_init 12 = .ok (.aload_n 0, 1) := by decide +kernel
theorem dX0_init_13 : decode cX0_init 13 = .ok (.bipush 24, 2) := by decide +kernel
theorem dX0_init_15 : decode cX0_init 15 = .ok (.newarray .int, 2) := by decide +kernel
theorem dX0_init_17 : decode cX0_init 17 = .ok (.putfield 15, 3) := by decide +kernel
theorem dX0_init_20 : decode cX0_init 20 = .ok (.return_, 1) := by decide +kernel
set_option maxRecDepth 20000 in
theorem ggX0_isKind_X10_isOf : GoodIn wsX0_isKind wsX10_isOf := goodIn_r _ [3] (by decide +kernel) (by decide +kernel)
set_option maxRecDepth 20000 in
theorem gX0_isKind_X10_isOf_n18 : GoodIn wsX0_isKind (wsX10_isOf) := ggX0_isKind_X10_isOf
theorem dX0_isKind_0 : decode cX0_isKind 0 = .ok (.iload_n 0, 1) := by decide +kernel
theorem dX0_isKind_1 : decode cX0_isKind 1 = .ok (.bipush 8, 2) := by decide +kernel
theorem dX0_isKind_3 : decode cX0_isKind 3 = .ok (.invokestatic 18, 3) := by decide +kernel
theorem dX0_isKind_6 : decode cX0_isKind 6 = .ok (.ireturn, 1) := by decide +kernel
set_option maxRecDepth 20000 in
theorem ggX0_isUnder_X0_nextAbove : GoodIn wsX0_isUnder wsX0_nextAbove := goodIn_r _ [4, 5, 6, 7, 8] (by decide +kernel) (by decide +kernel)
set_option maxRecDepth 20000 in
theorem gX0_isUnder_X0_nextAbove : GoodIn wsX0_isUnder (va_wsS RX0 22 yX0_nextAbove wsX0_nextAbove) := goodIn_app (goodIn_of _ (by decide +kernel)) ggX0_isUnder_X0_nextAbove
theorem dX0_isUnder_0 : decode cX0_isUnder 0 = .ok (.iload_n 0, 1) := by decide +kernel
theorem dX0_isUnder_1 : decode cX0_isUnder 1 = .ok (.istore_n 2, 1) := by decide +kernel
theorem dX0_isUnder_2 : decode cX0_isUnder 2 = .ok (.iconst 0, 1) := by decide +kernel
theorem dX0_isUnder_3 : decode cX0_isUnder 3 = .ok (.istore_n 3, 1) := by decide +kernel
theorem dX0_isUnder_4 : decode cX0_isUnder 4 = .ok (.iload_n 3, 1) := by decide +kernel
theorem dX0_isUnder_5 : decode cX0_isUnder 5 = .ok (.bipush 8, 2) := by decide +kernel
theorem dX0_isUnder_7 : decode cX0_isUnder 7 = .ok (.if_icmp .ge 25, 3) := by decide +kernel
theorem dX0_isUnder_10 : decode cX0_isUnder 10 = .ok (.iload_n 2, 1) := by decide +kernel
theorem dX0_isUnder_11 : decode cX0_isUnder 11 = .ok (.ifCond .lt 21, 3) := by decide +kernel
theorem dX0_isUnder_14 : decode cX0_isUnder 14 = .ok (.iload_n 2, 1) := by decide +kernel
theorem dX0_isUnder_15 : decode cX0_isUnder 15 = .ok (.iload_n 1, 1) := by decide +kernel
theorem dX0_isUnder_16 : decode cX0_isUnder 16 = .ok (.if_icmp .ne 5, 3) := by decide +kernel
theorem dX0_isUnder_19 : decode cX0_isUnder 19 = .ok (.iconst 1, 1) := by decide +kernel
theorem dX0_isUnder_20 : decode cX0_isUnder 20 = .ok (.ireturn, 1) := by decide +kernel
theorem dX0_isUnder_21 : decode cX0_isUnder 21 = .ok (.iload_n 2, 1) := by decide +kernel
theorem dX0_isUnder_22 : decode cX0_isUnder 22 = .ok (.invokestatic 22, 3) := by decide +kernel
theorem dX0_isUnder_25 : decode cX0_isUnder 25 = .ok (.istore_n 2, 1) := by decide +kernel
theorem dX0_isUnder_26 : decode cX0_isUnder 26 = .ok (.iinc 3 1, 3) := by decide +kernel
theorem dX0_isUnder_29 : decode cX0_isUnder 29 = .ok (.goto (-25), 3) := by decide +kernel
theorem dX0_isUnder_32 : decode cX0_isUnder 32 = .ok (.iconst 0, 1) := by decide +kernel
theorem dX0_isUnder_33 : decode cX0_isUnder 33 = .ok (.ireturn, 1) := by decide +kernel
set_option maxRecDepth 20000 in
theorem ggX0_nextAbove_X10_isOf : GoodIn wsX0_nextAbove wsX10_isOf := goodIn_r _ [4] (by decide +kernel) (by decide +kernel)
set_option maxRecDepth 20000 in
theorem gX0_nextAbove_X10_isOf_n18 : GoodIn wsX0_nextAbove (wsX10_isOf) := ggX0_nextAbove_X10_isOf
theorem dX0_nextAbove_0 : decode cX0_nextAbove 0 = .ok (.iload_n 0, 1) := by decide +kernel
theorem dX0_nextAbove_1 : decode cX0_nextAbove 1 = .ok (.getstatic 26, 3) := by decide +kernel
theorem dX0_nextAbove_4 : decode cX0_nextAbove 4 = .ok (.arraylength, 1) := by decide +kernel
theorem dX0_nextAbove_5 : decode cX0_nextAbove 5 = .ok (.invokestatic 18, 3) := by decide +kernel
theorem dX0_nextAbove_8 : decode cX0_nextAbove 8 = .ok (.ifCond .eq 11, 3) := by decide +kernel
theorem dX0_nextAbove_11 : decode cX0_nextAbove 11 = .ok (.getstatic 26, 3) := by decide +kernel
theorem dX0_nextAbove_14 : decode cX0_nextAbove 14 = .ok (.iload_n 0, 1) := by decide +kernel
theorem dX0_nextAbove_15 : decode cX0_nextAbove 15 = .ok (.iaload, 1) := by decide +kernel
theorem dX0_nextAbove_16 : decode cX0_nextAbove 16 = .ok (.goto 4, 3) := by decide +kernel
theorem dX0_nextAbove_19 : decode cX0_nextAbove 19 = .ok (.iconst (-1), 1) := by decide +kernel
theorem dX0_nextAbove_20 : decode cX0_nextAbove 20 = .ok (.ireturn, 1) := by decide +kernel
theorem dX0_isFull_0 : decode cX0_isFull 0 = .ok (.aload_n 0, 1) := by decide +kernel
theorem dX0_isFull_1 : decode cX0_isFull 1 = .ok (.getfield 29, 3) := by decide +kernel
theorem dX0_isFull_4 : decode cX0_isFull 4 = .ok (.bipush 50, 2) := by decide +kernel
theorem dX0_isFull_6 : decode cX0_isFull 6 = .ok (.if_icmp .lt 7, 3) := by decide +kernel
theorem dX0_isFull_9 : decode cX0_isFull 9 = .ok (.iconst 1, 1) := by decide +kernel
theorem dX0_isFull_10 : decode cX0_isFull 10 = .ok (.goto 4, 3) := by decide +kernel
theorem dX0_isFull_13 : decode cX0_isFull 13 = .ok (.iconst 0, 1) := by decide +kernel
theorem dX0_isFull_14 : decode cX0_isFull 14 = .ok (.ireturn, 1) := by decide +kernel
set_option maxRecDepth 20000 in
theorem ggX0_addBody_X1_set : GoodIn wsX0_addBody wsX1_set := goodIn_r _ [6] (by decide +kernel) (by decide +kernel)
set_option maxRecDepth 20000 in
theorem gX0_addBody_X1_set : GoodIn wsX0_addBody (va_wsS RX0 33 yX1_set wsX1_set) := goodIn_app (goodIn_of _ (by decide +kernel)) ggX0_addBody_X1_set
theorem dX0_addBody_0 : decode cX0_addBody 0 = .ok (.aload_n 0, 1) := by decide +kernel
theorem dX0_addBody_1 : decode cX0_addBody 1 = .ok (.getfield 11, 3) := by decide +kernel
theorem dX0_addBody_4 : decode cX0_addBody 4 = .ok (.aload_n 0, 1) := by decide +kernel
theorem dX0_addBody_5 : decode cX0_addBody 5 = .ok (.getfield 29, 3) := by decide +kernel
theorem dX0_addBody_8 : decode cX0_addBody 8 = .ok (.iload_n 1, 1) := by decide +kernel
theorem dX0_addBody_9 : decode cX0_addBody 9 = .ok (.invokestatic 33, 3) := by decide +kernel
theorem dX0_addBody_12 : decode cX0_addBody 12 = .ok (.aload_n 0, 1) := by decide +kernel
theorem dX0_addBody_13 : decode cX0_addBody 13 = .ok (.dup, 1) := by decide +kernel
theorem dX0_addBody_14 : decode cX0_addBody 14 = .ok (.getfield 29, 3) := by decide +kernel
theorem dX0_addBody_17 : decode cX0_addBody 17 = .ok (.iconst 1, 1) := by decide +kernel
theorem dX0_addBody_18 : decode cX0_addBody 18 = .ok (.iadd, 1) := by decide +kernel
theorem dX0_addBody_19 : decode cX0_addBody 19 = .ok (.putfield 29, 3) := by decide +kernel
theorem dX0_addBody_22 : decode cX0_addBody 22 = .ok (.aload_n 0, 1) := by decide +kernel
theorem dX0_addBody_23 : decode cX0_addBody 23 = .ok (.getfield 29, 3) := by decide +kernel
theorem dX0_addBody_26 : decode cX0_addBody 26 = .ok (.iconst 1, 1) := by decide +kernel
theorem dX0_addBody_27 : decode cX0_addBody 27 = .ok (.isub, 1) := by decide +kernel
theorem dX0_addBody_28 : decode cX0_addBody 28 = .ok (.ireturn, 1) := by decide +kernel
set_option maxRecDepth 20000 in
theorem ggX0_isBody_X10_isOf : GoodIn wsX0_isBody wsX10_isOf := goodIn_r _ [4] (by decide +kernel) (by decide +kernel)
set_option maxRecDepth 20000 in
theorem gX0_isBody_X10_isOf_n18 : GoodIn wsX0_isBody (wsX10_isOf) := ggX0_isBody_X10_isOf
theorem dX0_isBody_0 : decode cX0_isBody 0 = .ok (.iload_n 1, 1) := by decide +kernel
theorem dX0_isBody_1 : decode cX0_isBody 1 = .ok (.aload_n 0, 1) := by decide +kernel
theorem dX0_isBody_2 : decode cX0_isBody 2 = .ok (.getfield 29, 3) := by decide +kernel
theorem dX0_isBody_5 : decode cX0_isBody 5 = .ok (.invokestatic 18, 3) := by decide +kernel
theorem dX0_isBody_8 : decode cX0_isBody 8 = .ok (.ireturn, 1) := by decide +kernel
set_option maxRecDepth 20000 in
theorem ggX0_kindOf_X1_at : GoodIn wsX0_kindOf wsX1_at := goodIn_r _ [5] (by decide +kernel) (by decide +kernel)
set_option maxRecDepth 20000 in
theorem gX0_kindOf_X1_at : GoodIn wsX0_kindOf (va_wsS RX0 39 yX1_at wsX1_at) := goodIn_app (goodIn_of _ (by decide +kernel)) ggX0_kindOf_X1_at
theorem dX0_kindOf_0 : decode cX0_kindOf 0 = .ok (.aload_n 0, 1) := by decide +kernel
theorem dX0_kindOf_1 : decode cX0_kindOf 1 = .ok (.getfield 11, 3) := by decide +kernel
theorem dX0_kindOf_4 : decode cX0_kindOf 4 = .ok (.iload_n 1, 1) := by decide +kernel
theorem dX0_kindOf_5 : decode cX0_kindOf 5 = .ok (.invokestatic 39, 3) := by decide +kernel
theorem dX0_kindOf_8 : decode cX0_kindOf 8 = .ok (.ireturn, 1) := by decide +kernel
theorem dX0_bodies_0 : decode cX0_bodies 0 = .ok (.aload_n 0, 1) := by decide +kernel
theorem dX0_bodies_1 : decode cX0_bodies 1 = .ok (.getfield 29, 3) := by decide +kernel
theorem dX0_bodies_4 : decode cX0_bodies 4 = .ok (.ireturn, 1) := by decide +kernel
theorem dX0_ran_0 : decode cX0_ran 0 = .ok (.aload_n 0, 1) := by decide +kernel
theorem dX0_ran_1 : decode cX0_ran 1 = .ok (.getfield 43, 3) := by decide +kernel
theorem dX0_ran_4 : decode cX0_ran 4 = .ok (.ireturn, 1) := by decide +kernel
set_option maxRecDepth 20000 in
theorem ggX0_traced_X10_isOf : GoodIn wsX0_traced wsX10_isOf := goodIn_r _ [9] (by decide +kernel) (by decide +kernel)
set_option maxRecDepth 20000 in
theorem gX0_traced_X10_isOf_n18 : GoodIn wsX0_traced (wsX10_isOf) := ggX0_traced_X10_isOf
set_option maxRecDepth 20000 in
theorem ggX0_traced_X1_at : GoodIn wsX0_traced wsX1_at := goodIn_r _ [13] (by decide +kernel) (by decide +kernel)
set_option maxRecDepth 20000 in
theorem gX0_traced_X1_at : GoodIn wsX0_traced (va_wsS RX0 39 yX1_at wsX1_at) := goodIn_app (goodIn_of _ (by decide +kernel)) ggX0_traced_X1_at
theorem dX0_traced_0 : decode cX0_traced 0 = .ok (.iload_n 1, 1) := by decide +kernel
theorem dX0_traced_1 : decode cX0_traced 1 = .ok (.aload_n 0, 1) := by decide +kernel
theorem dX0_traced_2 : decode cX0_traced 2 = .ok (.getfield 43, 3) := by decide +kernel
theorem dX0_traced_5 : decode cX0_traced 5 = .ok (.bipush 24, 2) := by decide +kernel
theorem dX0_traced_7 : decode cX0_traced 7 = .ok (.invokestatic 46, 3) := by decide +kernel
theorem dX0_traced_10 : decode cX0_traced 10 = .ok (.invokestatic 18, 3) := by decide +kernel
theorem dX0_traced_13 : decode cX0_traced 13 = .ok (.ifCond .eq 14, 3) := by decide +kernel
theorem dX0_traced_16 : decode cX0_traced 16 = .ok (.aload_n 0, 1) := by decide +kernel
theorem dX0_traced_17 : decode cX0_traced 17 = .ok (.getfield 15, 3) := by decide +kernel
theorem dX0_traced_20 : decode cX0_traced 20 = .ok (.iload_n 1, 1) := by decide +kernel
theorem dX0_traced_21 : decode cX0_traced 21 = .ok (.invokestatic 39, 3) := by decide +kernel
theorem dX0_traced_24 : decode cX0_traced 24 = .ok (.goto 4, 3) := by decide +kernel
theorem dX0_traced_27 : decode cX0_traced 27 = .ok (.iconst (-1), 1) := by decide +kernel
theorem dX0_traced_28 : decode cX0_traced 28 = .ok (.ireturn, 1) := by decide +kernel
set_option maxRecDepth 20000 in
theorem ggX0_perform_X0_isBody : GoodIn wsX0_perform wsX0_isBody := goodIn_r _ [7, 8, 9, 10, 11, 45, 46, 47, 48, 49] (by decide +kernel) (by decide +kernel)
set_option maxRecDepth 20000 in
theorem gX0_perform_X0_isBody : GoodIn wsX0_perform (wsV RX0 52 RX0 yX0_isBody wsX0_isBody) := goodIn_app (goodIn_of _ (by decide +kernel)) ggX0_perform_X0_isBody
set_option maxRecDepth 20000 in
theorem ggX0_perform_X10_isOf : GoodIn wsX0_perform wsX10_isOf := goodIn_r _ [11] (by decide +kernel) (by decide +kernel)
set_option maxRecDepth 20000 in
theorem gX0_perform_X10_isOf_n18 : GoodIn wsX0_perform (wsX10_isOf) := ggX0_perform_X10_isOf
set_option maxRecDepth 20000 in
theorem ggX0_perform_X0_run : GoodIn wsX0_perform wsX0_run := goodIn_r _ [15, 2, 16, 17, 18, 6, 19, 20, 21, 22, 23, 24, 25, 26, 27, 28, 29, 1, 30, 31, 32, 33, 34, 35, 36, 37, 9, 10, 11, 38, 39, 40, 41, 42, 43, 44, 12, 13, 14, 45, 46, 47, 48, 49] (by decide +kernel) (by decide +kernel)
set_option maxRecDepth 20000 in
theorem gX0_perform_X0_run : GoodIn wsX0_perform (wsV RX0 59 RX0 yX0_run wsX0_run) := goodIn_app (goodIn_of _ (by decide +kernel)) ggX0_perform_X0_run
theorem dX0_perform_0 : decode cX0_perform 0 = .ok (.aload_n 0, 1) := by decide +kernel
theorem dX0_perform_1 : decode cX0_perform 1 = .ok (.iconst 0, 1) := by decide +kernel
theorem dX0_perform_2 : decode cX0_perform 2 = .ok (.putfield 43, 3) := by decide +kernel
theorem dX0_perform_5 : decode cX0_perform 5 = .ok (.aload_n 0, 1) := by decide +kernel
theorem dX0_perform_6 : decode cX0_perform 6 = .ok (.iload_n 1, 1) := by decide +kernel
theorem dX0_perform_7 : decode cX0_perform 7 = .ok (.invokevirtual 52, 3) := by decide +kernel
theorem dX0_perform_10 : decode cX0_perform 10 = .ok (.ifCond .eq 11, 3) := by decide +kernel
theorem dX0_perform_13 : decode cX0_perform 13 = .ok (.iload_n 2, 1) := by decide +kernel
theorem dX0_perform_14 : decode cX0_perform 14 = .ok (.iconst 4, 1) := by decide +kernel
theorem dX0_perform_15 : decode cX0_perform 15 = .ok (.invokestatic 18, 3) := by decide +kernel
theorem dX0_perform_18 : decode cX0_perform 18 = .ok (.ifCond .ne 5, 3) := by decide +kernel
theorem dX0_perform_21 : decode cX0_perform 21 = .ok (.iconst 0, 1) := by decide +kernel
theorem dX0_perform_22 : decode cX0_perform 22 = .ok (.ireturn, 1) := by decide +kernel
theorem dX0_perform_23 : decode cX0_perform 23 = .ok (.aload_n 0, 1) := by decide +kernel
theorem dX0_perform_24 : decode cX0_perform 24 = .ok (.iload_n 1, 1) := by decide +kernel
theorem dX0_perform_25 : decode cX0_perform 25 = .ok (.putfield 56, 3) := by decide +kernel
theorem dX0_perform_28 : decode cX0_perform 28 = .ok (.aload_n 0, 1) := by decide +kernel
theorem dX0_perform_29 : decode cX0_perform 29 = .ok (.iload_n 2, 1) := by decide +kernel
theorem dX0_perform_30 : decode cX0_perform 30 = .ok (.iload_n 3, 1) := by decide +kernel
theorem dX0_perform_31 : decode cX0_perform 31 = .ok (.iconst 0, 1) := by decide +kernel
theorem dX0_perform_32 : decode cX0_perform 32 = .ok (.invokevirtual 59, 3) := by decide +kernel
theorem dX0_perform_35 : decode cX0_perform 35 = .ok (.ireturn, 1) := by decide +kernel
set_option maxRecDepth 20000 in
theorem ggX0_run_X0_kindOf : GoodIn wsX0_run wsX0_kindOf := goodIn_r _ [6, 7, 8, 9, 10, 11, 39, 40, 41, 42, 43] (by decide +kernel) (by decide +kernel)
set_option maxRecDepth 20000 in
theorem gX0_run_X0_kindOf : GoodIn wsX0_run (wsV RX0 63 RX0 yX0_kindOf wsX0_kindOf) := goodIn_app (goodIn_of _ (by decide +kernel)) ggX0_run_X0_kindOf
set_option maxRecDepth 20000 in
theorem ggX0_run_X0_runFrom : GoodIn wsX0_run wsX0_runFrom := goodIn_r _ [15, 16, 17, 18, 19, 5, 20, 21, 8, 9, 10, 11, 22, 23, 24, 25, 26, 27, 28, 29, 30, 31, 32, 33, 34, 0, 1, 2, 3, 4, 6, 7, 12, 13, 14, 35, 36, 37, 38, 39, 40, 41, 42, 43] (by decide +kernel) (by decide +kernel)
set_option maxRecDepth 20000 in
theorem gX0_run_X0_runFrom : GoodIn wsX0_run (wsV RX0 66 RX0 yX0_runFrom wsX0_runFrom) := goodIn_app (goodIn_of _ (by decide +kernel)) ggX0_run_X0_runFrom
theorem dX0_run_0 : decode cX0_run 0 = .ok (.aload_n 0, 1) := by decide +kernel
theorem dX0_run_1 : decode cX0_run 1 = .ok (.aload_n 0, 1) := by decide +kernel
theorem dX0_run_2 : decode cX0_run 2 = .ok (.aload_n 0, 1) := by decide +kernel
theorem dX0_run_3 : decode cX0_run 3 = .ok (.getfield 56, 3) := by decide +kernel
theorem dX0_run_6 : decode cX0_run 6 = .ok (.invokevirtual 63, 3) := by decide +kernel
theorem dX0_run_9 : decode cX0_run 9 = .ok (.iload_n 1, 1) := by decide +kernel
theorem dX0_run_10 : decode cX0_run 10 = .ok (.iload_n 2, 1) := by decide +kernel
theorem dX0_run_11 : decode cX0_run 11 = .ok (.iload_n 3, 1) := by decide +kernel
theorem dX0_run_12 : decode cX0_run 12 = .ok (.invokevirtual 66, 3) := by decide +kernel
theorem dX0_run_15 : decode cX0_run 15 = .ok (.ireturn, 1) := by decide +kernel
set_option maxRecDepth 20000 in
theorem ggX0_runFrom_X0_ownBody : GoodIn wsX0_runFrom wsX0_ownBody := goodIn_r _ [6, 7, 8, 9, 10, 11] (by decide +kernel) (by decide +kernel)
set_option maxRecDepth 20000 in
theorem gX0_runFrom_X0_ownBody : GoodIn wsX0_runFrom (va_wsS RX0 70 yX0_ownBody wsX0_ownBody) := goodIn_app (goodIn_of _ (by decide +kernel)) ggX0_runFrom_X0_ownBody
set_option maxRecDepth 20000 in
theorem ggX0_runFrom_X0_nextAbove : GoodIn wsX0_runFrom wsX0_nextAbove := goodIn_r _ [14, 15, 16, 17, 18] (by decide +kernel) (by decide +kernel)
set_option maxRecDepth 20000 in
theorem gX0_runFrom_X0_nextAbove : GoodIn wsX0_runFrom (va_wsS RX0 22 yX0_nextAbove wsX0_nextAbove) := goodIn_app (goodIn_of _ (by decide +kernel)) ggX0_runFrom_X0_nextAbove
set_option maxRecDepth 20000 in
theorem ggX0_runFrom_X1_set : GoodIn wsX0_runFrom wsX1_set := goodIn_r _ [21] (by decide +kernel) (by decide +kernel)
set_option maxRecDepth 20000 in
theorem gX0_runFrom_X1_set : GoodIn wsX0_runFrom (va_wsS RX0 33 yX1_set wsX1_set) := goodIn_app (goodIn_of _ (by decide +kernel)) ggX0_runFrom_X1_set
set_option maxRecDepth 20000 in
theorem ggX0_runFrom_X0_worked : GoodIn wsX0_runFrom wsX0_worked := goodIn_r _ [35, 26, 36, 37, 38, 5, 32, 33, 34, 25, 27, 28, 29, 30, 31, 8, 9, 10, 11, 0, 1, 2, 3, 4, 6, 7, 12, 13, 14, 15, 16, 17, 18, 19, 20, 21, 22, 23, 24, 39, 40, 41, 42, 43] (by decide +kernel) (by decide +kernel)
set_option maxRecDepth 20000 in
theorem gX0_runFrom_X0_worked : GoodIn wsX0_runFrom (wsV RX0 73 RX0 yX0_worked wsX0_worked) := goodIn_app (goodIn_of _ (by decide +kernel)) ggX0_runFrom_X0_worked
theorem dX0_runFrom_0 : decode cX0_runFrom 0 = .ok (.iload 4, 2) := by decide +kernel
theorem dX0_runFrom_2 : decode cX0_runFrom 2 = .ok (.bipush 40, 2) := by decide +kernel
theorem dX0_runFrom_4 : decode cX0_runFrom 4 = .ok (.if_icmp .lt 5, 3) := by decide +kernel
theorem dX0_runFrom_7 : decode cX0_runFrom 7 = .ok (.iconst 0, 1) := by decide +kernel
theorem dX0_runFrom_8 : decode cX0_runFrom 8 = .ok (.ireturn, 1) := by decide +kernel
theorem dX0_runFrom_9 : decode cX0_runFrom 9 = .ok (.iload_n 1, 1) := by decide +kernel
theorem dX0_runFrom_10 : decode cX0_runFrom 10 = .ok (.istore 5, 2) := by decide +kernel
theorem dX0_runFrom_12 : decode cX0_runFrom 12 = .ok (.iconst 0, 1) := by decide +kernel
theorem dX0_runFrom_13 : decode cX0_runFrom 13 = .ok (.istore 6, 2) := by decide +kernel
theorem dX0_runFrom_15 : decode cX0_runFrom 15 = .ok (.iload 6, 2) := by decide +kernel
theorem dX0_runFrom_17 : decode cX0_runFrom 17 = .ok (.bipush 8, 2) := by decide +kernel
theorem dX0_runFrom_19 : decode cX0_runFrom 19 = .ok (.if_icmp .ge 25, 3) := by decide +kernel
theorem dX0_runFrom_22 : decode cX0_runFrom 22 = .ok (.iload 5, 2) := by decide +kernel
theorem dX0_runFrom_24 : decode cX0_runFrom 24 = .ok (.iload_n 2, 1) := by decide +kernel
theorem dX0_runFrom_25 : decode cX0_runFrom 25 = .ok (.invokestatic 70, 3) := by decide +kernel
theorem dX0_runFrom_28 : decode cX0_runFrom 28 = .ok (.ifCond .ne 16, 3) := by decide +kernel
theorem dX0_runFrom_31 : decode cX0_runFrom 31 = .ok (.iload 5, 2) := by decide +kernel
theorem dX0_runFrom_33 : decode cX0_runFrom 33 = .ok (.invokestatic 22, 3) := by decide +kernel
theorem dX0_runFrom_36 : decode cX0_runFrom 36 = .ok (.istore 5, 2) := by decide +kernel
theorem dX0_runFrom_38 : decode cX0_runFrom 38 = .ok (.iinc 6 1, 3) := by decide +kernel
theorem dX0_runFrom_41 : decode cX0_runFrom 41 = .ok (.goto (-26), 3) := by decide +kernel
theorem dX0_runFrom_44 : decode cX0_runFrom 44 = .ok (.iload 5, 2) := by decide +kernel
theorem dX0_runFrom_46 : decode cX0_runFrom 46 = .ok (.iload_n 2, 1) := by decide +kernel
theorem dX0_runFrom_47 : decode cX0_runFrom 47 = .ok (.invokestatic 70, 3) := by decide +kernel
theorem dX0_runFrom_50 : decode cX0_runFrom 50 = .ok (.istore 6, 2) := by decide +kernel
theorem dX0_runFrom_52 : decode cX0_runFrom 52 = .ok (.aload_n 0, 1) := by decide +kernel
theorem dX0_runFrom_53 : decode cX0_runFrom 53 = .ok (.getfield 15, 3) := by decide +kernel
theorem dX0_runFrom_56 : decode cX0_runFrom 56 = .ok (.aload_n 0, 1) := by decide +kernel
theorem dX0_runFrom_57 : decode cX0_runFrom 57 = .ok (.getfield 43, 3) := by decide +kernel
theorem dX0_runFrom_60 : decode cX0_runFrom 60 = .ok (.iload 6, 2) := by decide +kernel
theorem dX0_runFrom_62 : decode cX0_runFrom 62 = .ok (.invokestatic 33, 3) := by decide +kernel
theorem dX0_runFrom_65 : decode cX0_runFrom 65 = .ok (.aload_n 0, 1) := by decide +kernel
theorem dX0_runFrom_66 : decode cX0_runFrom 66 = .ok (.dup, 1) := by decide +kernel
theorem dX0_runFrom_67 : decode cX0_runFrom 67 = .ok (.getfield 43, 3) := by decide +kernel
theorem dX0_runFrom_70 : decode cX0_runFrom 70 = .ok (.iconst 1, 1) := by decide +kernel
theorem dX0_runFrom_71 : decode cX0_runFrom 71 = .ok (.iadd, 1) := by decide +kernel
theorem dX0_runFrom_72 : decode cX0_runFrom 72 = .ok (.putfield 43, 3) := by decide +kernel
theorem dX0_runFrom_75 : decode cX0_runFrom 75 = .ok (.aload_n 0, 1) := by decide +kernel
theorem dX0_runFrom_76 : decode cX0_runFrom 76 = .ok (.iload 6, 2) := by decide +kernel
theorem dX0_runFrom_78 : decode cX0_runFrom 78 = .ok (.iload 5, 2) := by decide +kernel
theorem dX0_runFrom_80 : decode cX0_runFrom 80 = .ok (.invokestatic 22, 3) := by decide +kernel
theorem dX0_runFrom_83 : decode cX0_runFrom 83 = .ok (.iload_n 3, 1) := by decide +kernel
theorem dX0_runFrom_84 : decode cX0_runFrom 84 = .ok (.iload 4, 2) := by decide +kernel
theorem dX0_runFrom_86 : decode cX0_runFrom 86 = .ok (.iconst 1, 1) := by decide +kernel
theorem dX0_runFrom_87 : decode cX0_runFrom 87 = .ok (.iadd, 1) := by decide +kernel
theorem dX0_runFrom_88 : decode cX0_runFrom 88 = .ok (.invokevirtual 73, 3) := by decide +kernel
theorem dX0_runFrom_91 : decode cX0_runFrom 91 = .ok (.ireturn, 1) := by decide +kernel
set_option maxRecDepth 20000 in
theorem ggX0_ownBody_X1_at : GoodIn wsX0_ownBody wsX1_at := goodIn_r _ [5] (by decide +kernel) (by decide +kernel)
set_option maxRecDepth 20000 in
theorem gX0_ownBody_X1_at : GoodIn wsX0_ownBody (va_wsS RX0 39 yX1_at wsX1_at) := goodIn_app (goodIn_of _ (by decide +kernel)) ggX0_ownBody_X1_at
theorem dX0_ownBody_0 : decode cX0_ownBody 0 = .ok (.getstatic 76, 3) := by decide +kernel
theorem dX0_ownBody_3 : decode cX0_ownBody 3 = .ok (.iload_n 0, 1) := by decide +kernel
theorem dX0_ownBody_4 : decode cX0_ownBody 4 = .ok (.iconst 4, 1) := by decide +kernel
theorem dX0_ownBody_5 : decode cX0_ownBody 5 = .ok (.imul, 1) := by decide +kernel
theorem dX0_ownBody_6 : decode cX0_ownBody 6 = .ok (.iload_n 1, 1) := by decide +kernel
theorem dX0_ownBody_7 : decode cX0_ownBody 7 = .ok (.iadd, 1) := by decide +kernel
theorem dX0_ownBody_8 : decode cX0_ownBody 8 = .ok (.invokestatic 39, 3) := by decide +kernel
theorem dX0_ownBody_11 : decode cX0_ownBody 11 = .ok (.ireturn, 1) := by decide +kernel
set_option maxRecDepth 20000 in
theorem ggX0_worked_X0_run : GoodIn wsX0_worked wsX0_run := goodIn_r _ [9, 1, 10, 11, 12, 5, 13, 14, 15, 16, 17, 18, 6, 7, 8, 19, 20, 21, 22, 23, 24, 25, 26, 27, 28, 29, 30, 31, 32, 33, 34, 35, 36, 37, 38, 0, 2, 3, 4, 39, 40, 41, 42, 43] (by decide +kernel) (by decide +kernel)
set_option maxRecDepth 20000 in
theorem gX0_worked_X0_run : GoodIn wsX0_worked (wsV RX0 59 RX0 yX0_run wsX0_run) := goodIn_app (goodIn_of _ (by decide +kernel)) ggX0_worked_X0_run
set_option maxRecDepth 20000 in
theorem ggX0_worked_X0_runFrom : GoodIn wsX0_worked wsX0_runFrom := goodIn_r _ [19, 20, 21, 22, 23, 5, 24, 25, 15, 16, 17, 18, 26, 27, 28, 29, 30, 31, 32, 33, 34, 35, 36, 37, 38, 9, 1, 10, 11, 12, 13, 14, 6, 7, 8, 0, 2, 3, 4, 39, 40, 41, 42, 43] (by decide +kernel) (by decide +kernel)
set_option maxRecDepth 20000 in
theorem gX0_worked_X0_runFrom : GoodIn wsX0_worked (wsV RX0 66 RX0 yX0_runFrom wsX0_runFrom) := goodIn_app (goodIn_of _ (by decide +kernel)) ggX0_worked_X0_runFrom
theorem dX0_worked_0 : decode cX0_worked 0 = .ok (.iload_n 1, 1) := by decide +kernel
theorem dX0_worked_1 : decode cX0_worked 1 = .ok (.lookupswitch 299 #[(1, 123), (2, 130), (10, 148), (11, 159), (20, 166), (30, 178), (40, 189), (41, 201), (50, 213), (60, 225), (61, 244), (70, 256), (80, 268), (81, 287)], 123) := by decide +kernel
theorem dX0_worked_124 : decode cX0_worked 124 = .ok (.iload_n 3, 1) := by decide +kernel
theorem dX0_worked_125 : decode cX0_worked 125 = .ok (.aload_n 0, 1) := by decide +kernel
theorem dX0_worked_126 : decode cX0_worked 126 = .ok (.getfield 56, 3) := by decide +kernel
theorem dX0_worked_129 : decode cX0_worked 129 = .ok (.iadd, 1) := by decide +kernel
theorem dX0_worked_130 : decode cX0_worked 130 = .ok (.ireturn, 1) := by decide +kernel
theorem dX0_worked_131 : decode cX0_worked 131 = .ok (.aload_n 0, 1) := by decide +kernel
theorem dX0_worked_132 : decode cX0_worked 132 = .ok (.iconst 1, 1) := by decide +kernel
theorem dX0_worked_133 : decode cX0_worked 133 = .ok (.iload_n 3, 1) := by decide +kernel
theorem dX0_worked_134 : decode cX0_worked 134 = .ok (.iload 4, 2) := by decide +kernel
theorem dX0_worked_136 : decode cX0_worked 136 = .ok (.invokevirtual 59, 3) := by decide +kernel
theorem dX0_worked_139 : decode cX0_worked 139 = .ok (.aload_n 0, 1) := by decide +kernel
theorem dX0_worked_140 : decode cX0_worked 140 = .ok (.iconst 2, 1) := by decide +kernel
theorem dX0_worked_141 : decode cX0_worked 141 = .ok (.iconst 1, 1) := by decide +kernel
theorem dX0_worked_142 : decode cX0_worked 142 = .ok (.iload 4, 2) := by decide +kernel
theorem dX0_worked_144 : decode cX0_worked 144 = .ok (.invokevirtual 59, 3) := by decide +kernel
theorem dX0_worked_147 : decode cX0_worked 147 = .ok (.isub, 1) := by decide +kernel
theorem dX0_worked_148 : decode cX0_worked 148 = .ok (.ireturn, 1) := by decide +kernel
theorem dX0_worked_149 : decode cX0_worked 149 = .ok (.aload_n 0, 1) := by decide +kernel
theorem dX0_worked_150 : decode cX0_worked 150 = .ok (.iconst 0, 1) := by decide +kernel
theorem dX0_worked_151 : decode cX0_worked 151 = .ok (.iload_n 3, 1) := by decide +kernel
theorem dX0_worked_152 : decode cX0_worked 152 = .ok (.iload 4, 2) := by decide +kernel
theorem dX0_worked_154 : decode cX0_worked 154 = .ok (.invokevirtual 59, 3) := by decide +kernel
theorem dX0_worked_157 : decode cX0_worked 157 = .ok (.iconst 2, 1) := by decide +kernel
theorem dX0_worked_158 : decode cX0_worked 158 = .ok (.imul, 1) := by decide +kernel
theorem dX0_worked_159 : decode cX0_worked 159 = .ok (.ireturn, 1) := by decide +kernel
theorem dX0_worked_160 : decode cX0_worked 160 = .ok (.iload_n 3, 1) := by decide +kernel
theorem dX0_worked_161 : decode cX0_worked 161 = .ok (.aload_n 0, 1) := by decide +kernel
theorem dX0_worked_162 : decode cX0_worked 162 = .ok (.getfield 56, 3) := by decide +kernel
theorem dX0_worked_165 : decode cX0_worked 165 = .ok (.ixor, 1) := by decide +kernel
theorem dX0_worked_166 : decode cX0_worked 166 = .ok (.ireturn, 1) := by decide +kernel
theorem dX0_worked_167 : decode cX0_worked 167 = .ok (.aload_n 0, 1) := by decide +kernel
theorem dX0_worked_168 : decode cX0_worked 168 = .ok (.iload_n 2, 1) := by decide +kernel
theorem dX0_worked_169 : decode cX0_worked 169 = .ok (.iconst 0, 1) := by decide +kernel
theorem dX0_worked_170 : decode cX0_worked 170 = .ok (.iload_n 3, 1) := by decide +kernel
theorem dX0_worked_171 : decode cX0_worked 171 = .ok (.iload 4, 2) := by decide +kernel
theorem dX0_worked_173 : decode cX0_worked 173 = .ok (.invokevirtual 66, 3) := by decide +kernel
theorem dX0_worked_176 : decode cX0_worked 176 = .ok (.iconst 3, 1) := by decide +kernel
theorem dX0_worked_177 : decode cX0_worked 177 = .ok (.iadd, 1) := by decide +kernel
theorem dX0_worked_178 : decode cX0_worked 178 = .ok (.ireturn, 1) := by decide +kernel
theorem dX0_worked_179 : decode cX0_worked 179 = .ok (.aload_n 0, 1) := by decide +kernel
theorem dX0_worked_180 : decode cX0_worked 180 = .ok (.iload_n 2, 1) := by decide +kernel
theorem dX0_worked_181 : decode cX0_worked 181 = .ok (.iconst 1, 1) := by decide +kernel
theorem dX0_worked_182 : decode cX0_worked 182 = .ok (.iload_n 3, 1) := by decide +kernel
theorem dX0_worked_183 : decode cX0_worked 183 = .ok (.iload 4, 2) := by decide +kernel
theorem dX0_worked_185 : decode cX0_worked 185 = .ok (.invokevirtual 66, 3) := by decide +kernel
theorem dX0_worked_188 : decode cX0_worked 188 = .ok (.ineg, 1) := by decide +kernel
theorem dX0_worked_189 : decode cX0_worked 189 = .ok (.ireturn, 1) := by decide +kernel
theorem dX0_worked_190 : decode cX0_worked 190 = .ok (.aload_n 0, 1) := by decide +kernel
theorem dX0_worked_191 : decode cX0_worked 191 = .ok (.iload_n 2, 1) := by decide +kernel
theorem dX0_worked_192 : decode cX0_worked 192 = .ok (.iconst 2, 1) := by decide +kernel
theorem dX0_worked_193 : decode cX0_worked 193 = .ok (.iload_n 3, 1) := by decide +kernel
theorem dX0_worked_194 : decode cX0_worked 194 = .ok (.iload 4, 2) := by decide +kernel
theorem dX0_worked_196 : decode cX0_worked 196 = .ok (.invokevirtual 66, 3) := by decide +kernel
theorem dX0_worked_199 : decode cX0_worked 199 = .ok (.iconst 3, 1) := by decide +kernel
theorem dX0_worked_200 : decode cX0_worked 200 = .ok (.imul, 1) := by decide +kernel
theorem dX0_worked_201 : decode cX0_worked 201 = .ok (.ireturn, 1) := by decide +kernel
theorem dX0_worked_202 : decode cX0_worked 202 = .ok (.aload_n 0, 1) := by decide +kernel
theorem dX0_worked_203 : decode cX0_worked 203 = .ok (.iload_n 2, 1) := by decide +kernel
theorem dX0_worked_204 : decode cX0_worked 204 = .ok (.iconst 1, 1) := by decide +kernel
theorem dX0_worked_205 : decode cX0_worked 205 = .ok (.iload_n 3, 1) := by decide +kernel
theorem dX0_worked_206 : decode cX0_worked 206 = .ok (.iconst 1, 1) := by decide +kernel
theorem dX0_worked_207 : decode cX0_worked 207 = .ok (.iadd, 1) := by decide +kernel
theorem dX0_worked_208 : decode cX0_worked 208 = .ok (.iload 4, 2) := by decide +kernel
theorem dX0_worked_210 : decode cX0_worked 210 = .ok (.invokevirtual 66, 3) := by decide +kernel
theorem dX0_worked_213 : decode cX0_worked 213 = .ok (.ireturn, 1) := by decide +kernel
theorem dX0_worked_214 : decode cX0_worked 214 = .ok (.aload_n 0, 1) := by decide +kernel
theorem dX0_worked_215 : decode cX0_worked 215 = .ok (.iload_n 2, 1) := by decide +kernel
theorem dX0_worked_216 : decode cX0_worked 216 = .ok (.iconst 3, 1) := by decide +kernel
theorem dX0_worked_217 : decode cX0_worked 217 = .ok (.iload_n 3, 1) := by decide +kernel
theorem dX0_worked_218 : decode cX0_worked 218 = .ok (.iload 4, 2) := by decide +kernel
theorem dX0_worked_220 : decode cX0_worked 220 = .ok (.invokevirtual 66, 3) := by decide +kernel
theorem dX0_worked_223 : decode cX0_worked 223 = .ok (.iconst 5, 1) := by decide +kernel
theorem dX0_worked_224 : decode cX0_worked 224 = .ok (.ixor, 1) := by decide +kernel
theorem dX0_worked_225 : decode cX0_worked 225 = .ok (.ireturn, 1) := by decide +kernel
theorem dX0_worked_226 : decode cX0_worked 226 = .ok (.aload_n 0, 1) := by decide +kernel
theorem dX0_worked_227 : decode cX0_worked 227 = .ok (.iload_n 2, 1) := by decide +kernel
theorem dX0_worked_228 : decode cX0_worked 228 = .ok (.iconst 2, 1) := by decide +kernel
theorem dX0_worked_229 : decode cX0_worked 229 = .ok (.iload_n 3, 1) := by decide +kernel
theorem dX0_worked_230 : decode cX0_worked 230 = .ok (.iload 4, 2) := by decide +kernel
theorem dX0_worked_232 : decode cX0_worked 232 = .ok (.invokevirtual 66, 3) := by decide +kernel
theorem dX0_worked_235 : decode cX0_worked 235 = .ok (.aload_n 0, 1) := by decide +kernel
theorem dX0_worked_236 : decode cX0_worked 236 = .ok (.iconst 0, 1) := by decide +kernel
theorem dX0_worked_237 : decode cX0_worked 237 = .ok (.iconst 2, 1) := by decide +kernel
theorem dX0_worked_238 : decode cX0_worked 238 = .ok (.iload 4, 2) := by decide +kernel
theorem dX0_worked_240 : decode cX0_worked 240 = .ok (.invokevirtual 59, 3) := by decide +kernel
theorem dX0_worked_243 : decode cX0_worked 243 = .ok (.isub, 1) := by decide +kernel
theorem dX0_worked_244 : decode cX0_worked 244 = .ok (.ireturn, 1) := by decide +kernel
theorem dX0_worked_245 : decode cX0_worked 245 = .ok (.aload_n 0, 1) := by decide +kernel
theorem dX0_worked_246 : decode cX0_worked 246 = .ok (.iload_n 2, 1) := by decide +kernel
theorem dX0_worked_247 : decode cX0_worked 247 = .ok (.iconst 3, 1) := by decide +kernel
theorem dX0_worked_248 : decode cX0_worked 248 = .ok (.iload_n 3, 1) := by decide +kernel
theorem dX0_worked_249 : decode cX0_worked 249 = .ok (.iload 4, 2) := by decide +kernel
theorem dX0_worked_251 : decode cX0_worked 251 = .ok (.invokevirtual 66, 3) := by decide +kernel
theorem dX0_worked_254 : decode cX0_worked 254 = .ok (.iconst 1, 1) := by decide +kernel
theorem dX0_worked_255 : decode cX0_worked 255 = .ok (.iadd, 1) := by decide +kernel
theorem dX0_worked_256 : decode cX0_worked 256 = .ok (.ireturn, 1) := by decide +kernel
theorem dX0_worked_257 : decode cX0_worked 257 = .ok (.aload_n 0, 1) := by decide +kernel
theorem dX0_worked_258 : decode cX0_worked 258 = .ok (.iload_n 2, 1) := by decide +kernel
theorem dX0_worked_259 : decode cX0_worked 259 = .ok (.iconst 0, 1) := by decide +kernel
theorem dX0_worked_260 : decode cX0_worked 260 = .ok (.iload_n 3, 1) := by decide +kernel
theorem dX0_worked_261 : decode cX0_worked 261 = .ok (.iload 4, 2) := by decide +kernel
theorem dX0_worked_263 : decode cX0_worked 263 = .ok (.invokevirtual 66, 3) := by decide +kernel
theorem dX0_worked_266 : decode cX0_worked 266 = .ok (.iconst 2, 1) := by decide +kernel
theorem dX0_worked_267 : decode cX0_worked 267 = .ok (.imul, 1) := by decide +kernel
theorem dX0_worked_268 : decode cX0_worked 268 = .ok (.ireturn, 1) := by decide +kernel
theorem dX0_worked_269 : decode cX0_worked 269 = .ok (.aload_n 0, 1) := by decide +kernel
theorem dX0_worked_270 : decode cX0_worked 270 = .ok (.iload_n 2, 1) := by decide +kernel
theorem dX0_worked_271 : decode cX0_worked 271 = .ok (.iconst 1, 1) := by decide +kernel
theorem dX0_worked_272 : decode cX0_worked 272 = .ok (.iload_n 3, 1) := by decide +kernel
theorem dX0_worked_273 : decode cX0_worked 273 = .ok (.iload 4, 2) := by decide +kernel
theorem dX0_worked_275 : decode cX0_worked 275 = .ok (.invokevirtual 66, 3) := by decide +kernel
theorem dX0_worked_278 : decode cX0_worked 278 = .ok (.aload_n 0, 1) := by decide +kernel
theorem dX0_worked_279 : decode cX0_worked 279 = .ok (.iconst 2, 1) := by decide +kernel
theorem dX0_worked_280 : decode cX0_worked 280 = .ok (.iconst 2, 1) := by decide +kernel
theorem dX0_worked_281 : decode cX0_worked 281 = .ok (.iload 4, 2) := by decide +kernel
theorem dX0_worked_283 : decode cX0_worked 283 = .ok (.invokevirtual 59, 3) := by decide +kernel
theorem dX0_worked_286 : decode cX0_worked 286 = .ok (.iadd, 1) := by decide +kernel
theorem dX0_worked_287 : decode cX0_worked 287 = .ok (.ireturn, 1) := by decide +kernel
theorem dX0_worked_288 : decode cX0_worked 288 = .ok (.aload_n 0, 1) := by decide +kernel
theorem dX0_worked_289 : decode cX0_worked 289 = .ok (.iload_n 2, 1) := by decide +kernel
theorem dX0_worked_290 : decode cX0_worked 290 = .ok (.iconst 0, 1) := by decide +kernel
theorem dX0_worked_291 : decode cX0_worked 291 = .ok (.iload_n 3, 1) := by decide +kernel
theorem dX0_worked_292 : decode cX0_worked 292 = .ok (.iload 4, 2) := by decide +kernel
theorem dX0_worked_294 : decode cX0_worked 294 = .ok (.invokevirtual 66, 3) := by decide +kernel
theorem dX0_worked_297 : decode cX0_worked 297 = .ok (.iconst 1, 1) := by decide +kernel
theorem dX0_worked_298 : decode cX0_worked 298 = .ok (.isub, 1) := by decide +kernel
theorem dX0_worked_299 : decode cX0_worked 299 = .ok (.ireturn, 1) := by decide +kernel
theorem dX0_worked_300 : decode cX0_worked 300 = .ok (.iconst 0, 1) := by decide +kernel
theorem dX0_worked_301 : decode cX0_worked 301 = .ok (.ireturn, 1) := by decide +kernel
theorem dX1_at_0 : decode cX1_at 0 = .ok (.iload_n 1, 1) := by decide +kernel
theorem dX1_at_1 : decode cX1_at 1 = .ok (.ifCond .lt 15, 3) := by decide +kernel
theorem dX1_at_4 : decode cX1_at 4 = .ok (.iload_n 1, 1) := by decide +kernel
theorem dX1_at_5 : decode cX1_at 5 = .ok (.aload_n 0, 1) := by decide +kernel
theorem dX1_at_6 : decode cX1_at 6 = .ok (.arraylength, 1) := by decide +kernel
theorem dX1_at_7 : decode cX1_at 7 = .ok (.if_icmp .ge 9, 3) := by decide +kernel
theorem dX1_at_10 : decode cX1_at 10 = .ok (.aload_n 0, 1) := by decide +kernel
theorem dX1_at_11 : decode cX1_at 11 = .ok (.iload_n 1, 1) := by decide +kernel
theorem dX1_at_12 : decode cX1_at 12 = .ok (.iaload, 1) := by decide +kernel
theorem dX1_at_13 : decode cX1_at 13 = .ok (.goto 4, 3) := by decide +kernel
theorem dX1_at_16 : decode cX1_at 16 = .ok (.iconst 0, 1) := by decide +kernel
theorem dX1_at_17 : decode cX1_at 17 = .ok (.ireturn, 1) := by decide +kernel
theorem dX1_set_0 : decode cX1_set 0 = .ok (.iload_n 1, 1) := by decide +kernel
theorem dX1_set_1 : decode cX1_set 1 = .ok (.ifCond .lt 13, 3) := by decide +kernel
theorem dX1_set_4 : decode cX1_set 4 = .ok (.iload_n 1, 1) := by decide +kernel
theorem dX1_set_5 : decode cX1_set 5 = .ok (.aload_n 0, 1) := by decide +kernel
theorem dX1_set_6 : decode cX1_set 6 = .ok (.arraylength, 1) := by decide +kernel
theorem dX1_set_7 : decode cX1_set 7 = .ok (.if_icmp .ge 7, 3) := by decide +kernel
theorem dX1_set_10 : decode cX1_set 10 = .ok (.aload_n 0, 1) := by decide +kernel
theorem dX1_set_11 : decode cX1_set 11 = .ok (.iload_n 1, 1) := by decide +kernel
theorem dX1_set_12 : decode cX1_set 12 = .ok (.iload_n 2, 1) := by decide +kernel
theorem dX1_set_13 : decode cX1_set 13 = .ok (.iastore, 1) := by decide +kernel
theorem dX1_set_14 : decode cX1_set 14 = .ok (.return_, 1) := by decide +kernel
theorem dX1_copy_0 : decode cX1_copy 0 = .ok (.aload_n 0, 1) := by decide +kernel
theorem dX1_copy_1 : decode cX1_copy 1 = .ok (.iconst 0, 1) := by decide +kernel
theorem dX1_copy_2 : decode cX1_copy 2 = .ok (.aload_n 1, 1) := by decide +kernel
theorem dX1_copy_3 : decode cX1_copy 3 = .ok (.iconst 0, 1) := by decide +kernel
theorem dX1_copy_4 : decode cX1_copy 4 = .ok (.aload_n 0, 1) := by decide +kernel
theorem dX1_copy_5 : decode cX1_copy 5 = .ok (.arraylength, 1) := by decide +kernel
theorem dX1_copy_6 : decode cX1_copy 6 = .ok (.aload_n 1, 1) := by decide +kernel
theorem dX1_copy_7 : decode cX1_copy 7 = .ok (.arraylength, 1) := by decide +kernel
theorem dX1_copy_8 : decode cX1_copy 8 = .ok (.invokestatic 7, 3) := by decide +kernel
theorem dX1_copy_11 : decode cX1_copy 11 = .ok (.invokestatic 13, 3) := by decide +kernel
theorem dX1_copy_14 : decode cX1_copy 14 = .ok (.return_, 1) := by decide +kernel
theorem dX2_init_0 : decode cX2_init 0 = .ok (.aload_n 0, 1) := by decide +kernel
theorem dX2_init_1 : decode cX2_init 1 = .ok (.invokespecial 1, 3) := by decide +kernel
theorem dX2_init_4 : decode cX2_init 4 = .ok (.aload_n 0, 1) := by decide +kernel
theorem dX2_init_5 : decode cX2_init 5 = .ok (.bipush 40, 2) := by decide +kernel
theorem dX2_init_7 : decode cX2_init 7 = .ok (.newarray .int, 2) := by decide +kernel
theorem dX2_init_9 : decode cX2_init 9 = .ok (.putfield 9, 3) := by decide +kernel
theorem dX2_init_12 : decode cX2_init 12 = .ok (.aload_n 0, 1) := by decide +kernel
theorem dX2_init_13 : decode cX2_init 13 = .ok (.bipush 40, 2) := by decide +kernel
theorem dX2_init_15 : decode cX2_init 15 = .ok (.newarray .int, 2) := by decide +kernel
theorem dX2_init_17 : decode cX2_init 17 = .ok (.putfield 13, 3) := by decide +kernel
theorem dX2_init_20 : decode cX2_init 20 = .ok (.aload_n 0, 1) := by decide +kernel
theorem dX2_init_21 : decode cX2_init 21 = .ok (.bipush 40, 2) := by decide +kernel
theorem dX2_init_23 : decode cX2_init 23 = .ok (.newarray .int, 2) := by decide +kernel
theorem dX2_init_25 : decode cX2_init 25 = .ok (.putfield 16, 3) := by decide +kernel
theorem dX2_init_28 : decode cX2_init 28 = .ok (.aload_n 0, 1) := by decide +kernel
theorem dX2_init_29 : decode cX2_init 29 = .ok (.bipush 40, 2) := by decide +kernel
theorem dX2_init_31 : decode cX2_init 31 = .ok (.newarray .int, 2) := by decide +kernel
theorem dX2_init_33 : decode cX2_init 33 = .ok (.putfield 19, 3) := by decide +kernel
theorem dX2_init_36 : decode cX2_init 36 = .ok (.return_, 1) := by decide +kernel
set_option maxRecDepth 20000 in
theorem ggX2_add_X2_forgetFirst : GoodIn wsX2_add wsX2_forgetFirst := goodIn_r _ [11, 2, 12, 13, 14, 15, 3, 4, 5, 1, 20, 21, 22, 23, 24, 25] (by decide +kernel) (by decide +kernel)
set_option maxRecDepth 20000 in
theorem gX2_add_X2_forgetFirst : GoodIn wsX2_add (wsV RX2 26 RX2 yX2_forgetFirst wsX2_forgetFirst) := goodIn_app (goodIn_of _ (by decide +kernel)) ggX2_add_X2_forgetFirst
set_option maxRecDepth 20000 in
theorem ggX2_add_X1_set : GoodIn wsX2_add wsX1_set := goodIn_r _ [19] (by decide +kernel) (by decide +kernel)
set_option maxRecDepth 20000 in
theorem gX2_add_X1_set : GoodIn wsX2_add (va_wsS RX2 29 yX1_set wsX1_set) := goodIn_app (goodIn_of _ (by decide +kernel)) ggX2_add_X1_set
theorem dX2_add_0 : decode cX2_add 0 = .ok (.aload_n 0, 1) := by decide +kernel
theorem dX2_add_1 : decode cX2_add 1 = .ok (.getfield 22, 3) := by decide +kernel
theorem dX2_add_4 : decode cX2_add 4 = .ok (.bipush 40, 2) := by decide +kernel
theorem dX2_add_6 : decode cX2_add 6 = .ok (.if_icmp .lt 7, 3) := by decide +kernel
theorem dX2_add_9 : decode cX2_add 9 = .ok (.aload_n 0, 1) := by decide +kernel
theorem dX2_add_10 : decode cX2_add 10 = .ok (.invokevirtual 26, 3) := by decide +kernel
theorem dX2_add_13 : decode cX2_add 13 = .ok (.aload_n 0, 1) := by decide +kernel
theorem dX2_add_14 : decode cX2_add 14 = .ok (.getfield 9, 3) := by decide +kernel
theorem dX2_add_17 : decode cX2_add 17 = .ok (.aload_n 0, 1) := by decide +kernel
theorem dX2_add_18 : decode cX2_add 18 = .ok (.getfield 22, 3) := by decide +kernel
theorem dX2_add_21 : decode cX2_add 21 = .ok (.iload_n 1, 1) := by decide +kernel
theorem dX2_add_22 : decode cX2_add 22 = .ok (.invokestatic 29, 3) := by decide +kernel
theorem dX2_add_25 : decode cX2_add 25 = .ok (.aload_n 0, 1) := by decide +kernel
theorem dX2_add_26 : decode cX2_add 26 = .ok (.getfield 13, 3) := by decide +kernel
theorem dX2_add_29 : decode cX2_add 29 = .ok (.aload_n 0, 1) := by decide +kernel
theorem dX2_add_30 : decode cX2_add 30 = .ok (.getfield 22, 3) := by decide +kernel
theorem dX2_add_33 : decode cX2_add 33 = .ok (.iload_n 2, 1) := by decide +kernel
theorem dX2_add_34 : decode cX2_add 34 = .ok (.invokestatic 29, 3) := by decide +kernel
theorem dX2_add_37 : decode cX2_add 37 = .ok (.aload_n 0, 1) := by decide +kernel
theorem dX2_add_38 : decode cX2_add 38 = .ok (.getfield 16, 3) := by decide +kernel
theorem dX2_add_41 : decode cX2_add 41 = .ok (.aload_n 0, 1) := by decide +kernel
theorem dX2_add_42 : decode cX2_add 42 = .ok (.getfield 22, 3) := by decide +kernel
theorem dX2_add_45 : decode cX2_add 45 = .ok (.iload_n 3, 1) := by decide +kernel
theorem dX2_add_46 : decode cX2_add 46 = .ok (.invokestatic 29, 3) := by decide +kernel
theorem dX2_add_49 : decode cX2_add 49 = .ok (.aload_n 0, 1) := by decide +kernel
theorem dX2_add_50 : decode cX2_add 50 = .ok (.getfield 19, 3) := by decide +kernel
theorem dX2_add_53 : decode cX2_add 53 = .ok (.aload_n 0, 1) := by decide +kernel
theorem dX2_add_54 : decode cX2_add 54 = .ok (.getfield 22, 3) := by decide +kernel
theorem dX2_add_57 : decode cX2_add 57 = .ok (.iload 4, 2) := by decide +kernel
theorem dX2_add_59 : decode cX2_add 59 = .ok (.invokestatic 29, 3) := by decide +kernel
theorem dX2_add_62 : decode cX2_add 62 = .ok (.aload_n 0, 1) := by decide +kernel
theorem dX2_add_63 : decode cX2_add 63 = .ok (.dup, 1) := by decide +kernel
theorem dX2_add_64 : decode cX2_add 64 = .ok (.getfield 22, 3) := by decide +kernel
theorem dX2_add_67 : decode cX2_add 67 = .ok (.iconst 1, 1) := by decide +kernel
theorem dX2_add_68 : decode cX2_add 68 = .ok (.iadd, 1) := by decide +kernel
theorem dX2_add_69 : decode cX2_add 69 = .ok (.putfield 22, 3) := by decide +kernel
theorem dX2_add_72 : decode cX2_add 72 = .ok (.aload_n 0, 1) := by decide +kernel
theorem dX2_add_73 : decode cX2_add 73 = .ok (.aload_n 0, 1) := by decide +kernel
theorem dX2_add_74 : decode cX2_add 74 = .ok (.getfield 22, 3) := by decide +kernel
theorem dX2_add_77 : decode cX2_add 77 = .ok (.putfield 35, 3) := by decide +kernel
theorem dX2_add_80 : decode cX2_add 80 = .ok (.return_, 1) := by decide +kernel
theorem dX2_forgetFirst_0 : decode cX2_forgetFirst 0 = .ok (.aload_n 0, 1) := by decide +kernel
theorem dX2_forgetFirst_1 : decode cX2_forgetFirst 1 = .ok (.getfield 9, 3) := by decide +kernel
theorem dX2_forgetFirst_4 : decode cX2_forgetFirst 4 = .ok (.iconst 1, 1) := by decide +kernel
theorem dX2_forgetFirst_5 : decode cX2_forgetFirst 5 = .ok (.aload_n 0, 1) := by decide +kernel
theorem dX2_forgetFirst_6 : decode cX2_forgetFirst 6 = .ok (.getfield 9, 3) := by decide +kernel
theorem dX2_forgetFirst_9 : decode cX2_forgetFirst 9 = .ok (.iconst 0, 1) := by decide +kernel
theorem dX2_forgetFirst_10 : decode cX2_forgetFirst 10 = .ok (.bipush 39, 2) := by decide +kernel
theorem dX2_forgetFirst_12 : decode cX2_forgetFirst 12 = .ok (.invokestatic 38, 3) := by decide +kernel
theorem dX2_forgetFirst_15 : decode cX2_forgetFirst 15 = .ok (.aload_n 0, 1) := by decide +kernel
theorem dX2_forgetFirst_16 : decode cX2_forgetFirst 16 = .ok (.getfield 13, 3) := by decide +kernel
theorem dX2_forgetFirst_19 : decode cX2_forgetFirst 19 = .ok (.iconst 1, 1) := by decide +kernel
theorem dX2_forgetFirst_20 : decode cX2_forgetFirst 20 = .ok (.aload_n 0, 1) := by decide +kernel
theorem dX2_forgetFirst_21 : decode cX2_forgetFirst 21 = .ok (.getfield 13, 3) := by decide +kernel
theorem dX2_forgetFirst_24 : decode cX2_forgetFirst 24 = .ok (.iconst 0, 1) := by decide +kernel
theorem dX2_forgetFirst_25 : decode cX2_forgetFirst 25 = .ok (.bipush 39, 2) := by decide +kernel
theorem dX2_forgetFirst_27 : decode cX2_forgetFirst 27 = .ok (.invokestatic 38, 3) := by decide +kernel
theorem dX2_forgetFirst_30 : decode cX2_forgetFirst 30 = .ok (.aload_n 0, 1) := by decide +kernel
theorem dX2_forgetFirst_31 : decode cX2_forgetFirst 31 = .ok (.getfield 16, 3) := by decide +kernel
theorem dX2_forgetFirst_34 : decode cX2_forgetFirst 34 = .ok (.iconst 1, 1) := by decide +kernel
theorem dX2_forgetFirst_35 : decode cX2_forgetFirst 35 = .ok (.aload_n 0, 1) := by decide +kernel
theorem dX2_forgetFirst_36 : decode cX2_forgetFirst 36 = .ok (.getfield 16, 3) := by decide +kernel
theorem dX2_forgetFirst_39 : decode cX2_forgetFirst 39 = .ok (.iconst 0, 1) := by decide +kernel
theorem dX2_forgetFirst_40 : decode cX2_forgetFirst 40 = .ok (.bipush 39, 2) := by decide +kernel
theorem dX2_forgetFirst_42 : decode cX2_forgetFirst 42 = .ok (.invokestatic 38, 3) := by decide +kernel
theorem dX2_forgetFirst_45 : decode cX2_forgetFirst 45 = .ok (.aload_n 0, 1) := by decide +kernel
theorem dX2_forgetFirst_46 : decode cX2_forgetFirst 46 = .ok (.getfield 19, 3) := by decide +kernel
theorem dX2_forgetFirst_49 : decode cX2_forgetFirst 49 = .ok (.iconst 1, 1) := by decide +kernel
theorem dX2_forgetFirst_50 : decode cX2_forgetFirst 50 = .ok (.aload_n 0, 1) := by decide +kernel
theorem dX2_forgetFirst_51 : decode cX2_forgetFirst 51 = .ok (.getfield 19, 3) := by decide +kernel
theorem dX2_forgetFirst_54 : decode cX2_forgetFirst 54 = .ok (.iconst 0, 1) := by decide +kernel
theorem dX2_forgetFirst_55 : decode cX2_forgetFirst 55 = .ok (.bipush 39, 2) := by decide +kernel
theorem dX2_forgetFirst_57 : decode cX2_forgetFirst 57 = .ok (.invokestatic 38, 3) := by decide +kernel
theorem dX2_forgetFirst_60 : decode cX2_forgetFirst 60 = .ok (.aload_n 0, 1) := by decide +kernel
theorem dX2_forgetFirst_61 : decode cX2_forgetFirst 61 = .ok (.bipush 39, 2) := by decide +kernel
theorem dX2_forgetFirst_63 : decode cX2_forgetFirst 63 = .ok (.putfield 22, 3) := by decide +kernel
theorem dX2_forgetFirst_66 : decode cX2_forgetFirst 66 = .ok (.return_, 1) := by decide +kernel
theorem dX2_undoable_0 : decode cX2_undoable 0 = .ok (.aload_n 0, 1) := by decide +kernel
theorem dX2_undoable_1 : decode cX2_undoable 1 = .ok (.getfield 22, 3) := by decide +kernel
theorem dX2_undoable_4 : decode cX2_undoable 4 = .ok (.ireturn, 1) := by decide +kernel
theorem dX2_redoable_0 : decode cX2_redoable 0 = .ok (.aload_n 0, 1) := by decide +kernel
theorem dX2_redoable_1 : decode cX2_redoable 1 = .ok (.getfield 35, 3) := by decide +kernel
theorem dX2_redoable_4 : decode cX2_redoable 4 = .ok (.aload_n 0, 1) := by decide +kernel
theorem dX2_redoable_5 : decode cX2_redoable 5 = .ok (.getfield 22, 3) := by decide +kernel
theorem dX2_redoable_8 : decode cX2_redoable 8 = .ok (.isub, 1) := by decide +kernel
theorem dX2_redoable_9 : decode cX2_redoable 9 = .ok (.ireturn, 1) := by decide +kernel
theorem dX2_stepBack_0 : decode cX2_stepBack 0 = .ok (.aload_n 0, 1) := by decide +kernel
theorem dX2_stepBack_1 : decode cX2_stepBack 1 = .ok (.getfield 22, 3) := by decide +kernel
theorem dX2_stepBack_4 : decode cX2_stepBack 4 = .ok (.ifCond .le 13, 3) := by decide +kernel
theorem dX2_stepBack_7 : decode cX2_stepBack 7 = .ok (.aload_n 0, 1) := by decide +kernel
theorem dX2_stepBack_8 : decode cX2_stepBack 8 = .ok (.dup, 1) := by decide +kernel
theorem dX2_stepBack_9 : decode cX2_stepBack 9 = .ok (.getfield 22, 3) := by decide +kernel
theorem dX2_stepBack_12 : decode cX2_stepBack 12 = .ok (.iconst 1, 1) := by decide +kernel
theorem dX2_stepBack_13 : decode cX2_stepBack 13 = .ok (.isub, 1) := by decide +kernel
theorem dX2_stepBack_14 : decode cX2_stepBack 14 = .ok (.putfield 22, 3) := by decide +kernel
theorem dX2_stepBack_17 : decode cX2_stepBack 17 = .ok (.aload_n 0, 1) := by decide +kernel
theorem dX2_stepBack_18 : decode cX2_stepBack 18 = .ok (.getfield 22, 3) := by decide +kernel
theorem dX2_stepBack_21 : decode cX2_stepBack 21 = .ok (.ireturn, 1) := by decide +kernel
theorem dX2_stepAhead_0 : decode cX2_stepAhead 0 = .ok (.aload_n 0, 1) := by decide +kernel
theorem dX2_stepAhead_1 : decode cX2_stepAhead 1 = .ok (.getfield 22, 3) := by decide +kernel
theorem dX2_stepAhead_4 : decode cX2_stepAhead 4 = .ok (.aload_n 0, 1) := by decide +kernel
theorem dX2_stepAhead_5 : decode cX2_stepAhead 5 = .ok (.getfield 35, 3) := by decide +kernel
theorem dX2_stepAhead_8 : decode cX2_stepAhead 8 = .ok (.if_icmp .ge 13, 3) := by decide +kernel
theorem dX2_stepAhead_11 : decode cX2_stepAhead 11 = .ok (.aload_n 0, 1) := by decide +kernel
theorem dX2_stepAhead_12 : decode cX2_stepAhead 12 = .ok (.dup, 1) := by decide +kernel
theorem dX2_stepAhead_13 : decode cX2_stepAhead 13 = .ok (.getfield 22, 3) := by decide +kernel
theorem dX2_stepAhead_16 : decode cX2_stepAhead 16 = .ok (.iconst 1, 1) := by decide +kernel
theorem dX2_stepAhead_17 : decode cX2_stepAhead 17 = .ok (.iadd, 1) := by decide +kernel
theorem dX2_stepAhead_18 : decode cX2_stepAhead 18 = .ok (.putfield 22, 3) := by decide +kernel
theorem dX2_stepAhead_21 : decode cX2_stepAhead 21 = .ok (.aload_n 0, 1) := by decide +kernel
theorem dX2_stepAhead_22 : decode cX2_stepAhead 22 = .ok (.getfield 22, 3) := by decide +kernel
theorem dX2_stepAhead_25 : decode cX2_stepAhead 25 = .ok (.iconst 1, 1) := by decide +kernel
theorem dX2_stepAhead_26 : decode cX2_stepAhead 26 = .ok (.isub, 1) := by decide +kernel
theorem dX2_stepAhead_27 : decode cX2_stepAhead 27 = .ok (.ireturn, 1) := by decide +kernel
set_option maxRecDepth 20000 in
theorem ggX2_number_X1_at : GoodIn wsX2_number wsX1_at := goodIn_r _ [5] (by decide +kernel) (by decide +kernel)
set_option maxRecDepth 20000 in
theorem gX2_number_X1_at : GoodIn wsX2_number (va_wsS RX2 44 yX1_at wsX1_at) := goodIn_app (goodIn_of _ (by decide +kernel)) ggX2_number_X1_at
theorem dX2_number_0 : decode cX2_number 0 = .ok (.aload_n 0, 1) := by decide +kernel
theorem dX2_number_1 : decode cX2_number 1 = .ok (.getfield 9, 3) := by decide +kernel
theorem dX2_number_4 : decode cX2_number 4 = .ok (.iload_n 1, 1) := by decide +kernel
theorem dX2_number_5 : decode cX2_number 5 = .ok (.invokestatic 44, 3) := by decide +kernel
theorem dX2_number_8 : decode cX2_number 8 = .ok (.ireturn, 1) := by decide +kernel
set_option maxRecDepth 20000 in
theorem ggX2_what_X1_at : GoodIn wsX2_what wsX1_at := goodIn_r _ [5] (by decide +kernel) (by decide +kernel)
set_option maxRecDepth 20000 in
theorem gX2_what_X1_at : GoodIn wsX2_what (va_wsS RX2 44 yX1_at wsX1_at) := goodIn_app (goodIn_of _ (by decide +kernel)) ggX2_what_X1_at
theorem dX2_what_0 : decode cX2_what 0 = .ok (.aload_n 0, 1) := by decide +kernel
theorem dX2_what_1 : decode cX2_what 1 = .ok (.getfield 13, 3) := by decide +kernel
theorem dX2_what_4 : decode cX2_what 4 = .ok (.iload_n 1, 1) := by decide +kernel
theorem dX2_what_5 : decode cX2_what 5 = .ok (.invokestatic 44, 3) := by decide +kernel
theorem dX2_what_8 : decode cX2_what 8 = .ok (.ireturn, 1) := by decide +kernel
set_option maxRecDepth 20000 in
theorem ggX2_before_X1_at : GoodIn wsX2_before wsX1_at := goodIn_r _ [5] (by decide +kernel) (by decide +kernel)
set_option maxRecDepth 20000 in
theorem gX2_before_X1_at : GoodIn wsX2_before (va_wsS RX2 44 yX1_at wsX1_at) := goodIn_app (goodIn_of _ (by decide +kernel)) ggX2_before_X1_at
theorem dX2_before_0 : decode cX2_before 0 = .ok (.aload_n 0, 1) := by decide +kernel
theorem dX2_before_1 : decode cX2_before 1 = .ok (.getfield 16, 3) := by decide +kernel
theorem dX2_before_4 : decode cX2_before 4 = .ok (.iload_n 1, 1) := by decide +kernel
theorem dX2_before_5 : decode cX2_before 5 = .ok (.invokestatic 44, 3) := by decide +kernel
theorem dX2_before_8 : decode cX2_before 8 = .ok (.ireturn, 1) := by decide +kernel
set_option maxRecDepth 20000 in
theorem ggX2_after_X1_at : GoodIn wsX2_after wsX1_at := goodIn_r _ [5] (by decide +kernel) (by decide +kernel)
set_option maxRecDepth 20000 in
theorem gX2_after_X1_at : GoodIn wsX2_after (va_wsS RX2 44 yX1_at wsX1_at) := goodIn_app (goodIn_of _ (by decide +kernel)) ggX2_after_X1_at
theorem dX2_after_0 : decode cX2_after 0 = .ok (.aload_n 0, 1) := by decide +kernel
theorem dX2_after_1 : decode cX2_after 1 = .ok (.getfield 19, 3) := by decide +kernel
theorem dX2_after_4 : decode cX2_after 4 = .ok (.iload_n 1, 1) := by decide +kernel
theorem dX2_after_5 : decode cX2_after 5 = .ok (.invokestatic 44, 3) := by decide +kernel
theorem dX2_after_8 : decode cX2_after 8 = .ok (.ireturn, 1) := by decide +kernel
theorem dX3_init_0 : decode cX3_init 0 = .ok (.aload_n 0, 1) := by decide +kernel
theorem dX3_init_1 : decode cX3_init 1 = .ok (.invokespecial 3, 3) := by decide +kernel
theorem dX3_init_4 : decode cX3_init 4 = .ok (.aload_n 0, 1) := by decide +kernel
theorem dX3_init_5 : decode cX3_init 5 = .ok (.iconst 4, 1) := by decide +kernel
theorem dX3_init_6 : decode cX3_init 6 = .ok (.newarray .int, 2) := by decide +kernel
theorem dX3_init_8 : decode cX3_init 8 = .ok (.dup, 1) := by decide +kernel
theorem dX3_init_9 : decode cX3_init 9 = .ok (.iconst 0, 1) := by decide +kernel
theorem dX3_init_10 : decode cX3_init 10 = .ok (.iconst 5, 1) := by decide +kernel
theorem dX3_init_11 : decode cX3_init 11 = .ok (.iastore, 1) := by decide +kernel
theorem dX3_init_12 : decode cX3_init 12 = .ok (.dup, 1) := by decide +kernel
theorem dX3_init_13 : decode cX3_init 13 = .ok (.iconst 1, 1) := by decide +kernel
theorem dX3_init_14 : decode cX3_init 14 = .ok (.iconst 5, 1) := by decide +kernel
theorem dX3_init_15 : decode cX3_init 15 = .ok (.iastore, 1) := by decide +kernel
theorem dX3_init_16 : decode cX3_init 16 = .ok (.dup, 1) := by decide +kernel
theorem dX3_init_17 : decode cX3_init 17 = .ok (.iconst 2, 1) := by decide +kernel
theorem dX3_init_18 : decode cX3_init 18 = .ok (.iconst 5, 1) := by decide +kernel
theorem dX3_init_19 : decode cX3_init 19 = .ok (.iastore, 1) := by decide +kernel
theorem dX3_init_20 : decode cX3_init 20 = .ok (.dup, 1) := by decide +kernel
theorem dX3_init_21 : decode cX3_init 21 = .ok (.iconst 3, 1) := by decide +kernel
theorem dX3_init_22 : decode cX3_init 22 = .ok (.iconst 5, 1) := by decide +kernel
theorem dX3_init_23 : decode cX3_init 23 = .ok (.iastore, 1) := by decide +kernel
theorem dX3_init_24 : decode cX3_init 24 = .ok (.putfield 9, 3) := by decide +kernel
theorem dX3_init_27 : decode cX3_init 27 = .ok (.aload_n 0, 1) := by decide +kernel
theorem dX3_init_28 : decode cX3_init 28 = .ok (.aload_n 1, 1) := by decide +kernel
theorem dX3_init_29 : decode cX3_init 29 = .ok (.putfield 15, 3) := by decide +kernel
theorem dX3_init_32 : decode cX3_init 32 = .ok (.return_, 1) := by decide +kernel
set_option maxRecDepth 20000 in
theorem ggX3_start_X7_clear : GoodIn wsX3_start wsX7_clear := goodIn_r _ [5, 6, 7, 8, 9, 10, 11, 12, 13, 14, 15, 48, 49, 50, 51, 52, 53, 54, 55] (by decide +kernel) (by decide +kernel)
set_option maxRecDepth 20000 in
theorem gX3_start_X7_clear : GoodIn wsX3_start (wsV RX3 19 RX7 yX7_clear wsX7_clear) := goodIn_app (goodIn_of _ (by decide +kernel)) ggX3_start_X7_clear
set_option maxRecDepth 20000 in
theorem ggX3_start_X8_canBeSung : GoodIn wsX3_start wsX8_canBeSung := goodIn_r _ [20, 21, 22, 23, 19, 24, 25, 26, 27, 28, 29, 56, 57, 58, 59, 60] (by decide +kernel) (by decide +kernel)
set_option maxRecDepth 20000 in
theorem gX3_start_X8_canBeSung : GoodIn wsX3_start (wsV RX3 25 RX8 yX8_canBeSung wsX8_canBeSung) := goodIn_app (goodIn_of _ (by decide +kernel)) ggX3_start_X8_canBeSung
set_option maxRecDepth 20000 in
theorem ggX3_start_X7_add : GoodIn wsX3_start wsX7_add := goodIn_r _ [33, 8, 7, 34, 35, 11, 36, 37, 38, 4, 39, 40, 27, 28, 29, 41, 42, 43, 48, 49, 50, 51, 52, 53, 54, 55] (by decide +kernel) (by decide +kernel)
set_option maxRecDepth 20000 in
theorem gX3_start_X7_add : GoodIn wsX3_start (wsV RX3 31 RX7 yX7_add wsX7_add) := goodIn_app (goodIn_of _ (by decide +kernel)) ggX3_start_X7_add
set_option maxRecDepth 20000 in
theorem ggX3_start_X7_comeOut : GoodIn wsX3_start wsX7_comeOut := goodIn_r _ [47, 9, 10, 48, 49, 50, 51, 52, 53, 54, 55] (by decide +kernel) (by decide +kernel)
set_option maxRecDepth 20000 in
theorem gX3_start_X7_comeOut : GoodIn wsX3_start (wsV RX3 35 RX7 yX7_comeOut wsX7_comeOut) := goodIn_app (goodIn_of _ (by decide +kernel)) ggX3_start_X7_comeOut
theorem dX3_start_0 : decode cX3_start 0 = .ok (.aload_n 1, 1) := by decide +kernel
theorem dX3_start_1 : decode cX3_start 1 = .ok (.aload_n 2, 1) := by decide +kernel
theorem dX3_start_2 : decode cX3_start 2 = .ok (.invokevirtual 19, 3) := by decide +kernel
theorem dX3_start_5 : decode cX3_start 5 = .ok (.aload_n 2, 1) := by decide +kernel
theorem dX3_start_6 : decode cX3_start 6 = .ok (.iload_n 3, 1) := by decide +kernel
theorem dX3_start_7 : decode cX3_start 7 = .ok (.invokevirtual 25, 3) := by decide +kernel
theorem dX3_start_10 : decode cX3_start 10 = .ok (.ifCond .eq 13, 3) := by decide +kernel
theorem dX3_start_13 : decode cX3_start 13 = .ok (.aload_n 1, 1) := by decide +kernel
theorem dX3_start_14 : decode cX3_start 14 = .ok (.iload_n 3, 1) := by decide +kernel
theorem dX3_start_15 : decode cX3_start 15 = .ok (.bipush (-2), 2) := by decide +kernel
theorem dX3_start_17 : decode cX3_start 17 = .ok (.invokevirtual 31, 3) := by decide +kernel
theorem dX3_start_20 : decode cX3_start 20 = .ok (.goto 9, 3) := by decide +kernel
theorem dX3_start_23 : decode cX3_start 23 = .ok (.aload_n 1, 1) := by decide +kernel
theorem dX3_start_24 : decode cX3_start 24 = .ok (.iconst 1, 1) := by decide +kernel
theorem dX3_start_25 : decode cX3_start 25 = .ok (.iload_n 3, 1) := by decide +kernel
theorem dX3_start_26 : decode cX3_start 26 = .ok (.invokevirtual 35, 3) := by decide +kernel
theorem dX3_start_29 : decode cX3_start 29 = .ok (.return_, 1) := by decide +kernel
set_option maxRecDepth 20000 in
theorem ggX3_goOn_X7_isGoing : GoodIn wsX3_goOn wsX7_isGoing := goodIn_r _ [5, 6, 108, 109, 110, 111, 112, 113, 114, 115] (by decide +kernel) (by decide +kernel)
set_option maxRecDepth 20000 in
theorem gX3_goOn_X7_isGoing : GoodIn wsX3_goOn (wsV RX3 38 RX7 yX7_isGoing wsX7_isGoing) := goodIn_app (goodIn_of _ (by decide +kernel)) ggX3_goOn_X7_isGoing
set_option maxRecDepth 20000 in
theorem ggX3_goOn_X7_size : GoodIn wsX3_goOn wsX7_size := goodIn_r _ [10, 11, 108, 109, 110, 111, 112, 113, 114, 115] (by decide +kernel) (by decide +kernel)
set_option maxRecDepth 20000 in
theorem gX3_goOn_X7_size : GoodIn wsX3_goOn (wsV RX3 42 RX7 yX7_size wsX7_size) := goodIn_app (goodIn_of _ (by decide +kernel)) ggX3_goOn_X7_size
set_option maxRecDepth 20000 in
theorem ggX3_goOn_X7_last : GoodIn wsX3_goOn wsX7_last := goodIn_r _ [15, 16, 11, 17, 18, 19, 20, 108, 109, 110, 111, 112, 113, 114, 115] (by decide +kernel) (by decide +kernel)
set_option maxRecDepth 20000 in
theorem gX3_goOn_X7_last : GoodIn wsX3_goOn (wsV RX3 46 RX7 yX7_last wsX7_last) := goodIn_app (goodIn_of _ (by decide +kernel)) ggX3_goOn_X7_last
set_option maxRecDepth 20000 in
theorem ggX3_goOn_X7_comeOut : GoodIn wsX3_goOn wsX7_comeOut := goodIn_r _ [24, 6, 25, 108, 109, 110, 111, 112, 113, 114, 115] (by decide +kernel) (by decide +kernel)
set_option maxRecDepth 20000 in
theorem gX3_goOn_X7_comeOut : GoodIn wsX3_goOn (wsV RX3 35 RX7 yX7_comeOut wsX7_comeOut) := goodIn_app (goodIn_of _ (by decide +kernel)) ggX3_goOn_X7_comeOut
set_option maxRecDepth 20000 in
theorem ggX3_goOn_X3_comesUp : GoodIn wsX3_goOn wsX3_comesUp := goodIn_r _ [30, 31, 32, 33, 34, 35, 36, 4, 37, 38, 12, 13, 14, 15, 16, 11, 17, 18, 19, 20, 39, 40, 41, 42, 43, 44, 45, 46, 47, 48, 49, 50, 51, 52, 53, 54, 55, 56, 57, 58, 59, 60, 61, 62, 63, 64, 65, 66, 67, 68, 69, 70, 71, 72, 73, 74, 75, 76, 77, 78, 79, 80, 81, 82, 83, 84, 85, 86, 87, 88, 89, 90, 91, 116, 117, 118, 108, 109, 110, 111, 112, 113, 114, 115, 119, 120, 121, 122, 123, 124, 125, 126, 127, 128, 129, 130] (by decide +kernel) (by decide +kernel)
set_option maxRecDepth 20000 in
theorem gX3_goOn_X3_comesUp : GoodIn wsX3_goOn (wsV RX3 49 RX3 yX3_comesUp wsX3_comesUp) := goodIn_app (goodIn_of _ (by decide +kernel)) ggX3_goOn_X3_comesUp
set_option maxRecDepth 20000 in
theorem ggX3_goOn_X3_goOnTo : GoodIn wsX3_goOn wsX3_goOnTo := goodIn_r _ [95, 33, 12, 13, 14, 4, 15, 16, 11, 17, 18, 19, 20, 21, 22, 23, 24, 6, 25, 34, 35, 36, 37, 38, 96, 97, 98, 42, 99, 49, 50, 51, 52, 53, 54, 100, 101, 102, 103, 104, 105, 68, 106, 107, 86, 87, 116, 117, 118, 108, 109, 110, 111, 112, 113, 114, 115, 119, 120, 121, 122, 123] (by decide +kernel) (by decide +kernel)
set_option maxRecDepth 20000 in
theorem gX3_goOn_X3_goOnTo : GoodIn wsX3_goOn (wsV RX3 53 RX3 yX3_goOnTo wsX3_goOnTo) := goodIn_app (goodIn_of _ (by decide +kernel)) ggX3_goOn_X3_goOnTo
theorem dX3_goOn_0 : decode cX3_goOn 0 = .ok (.aload_n 1, 1) := by decide +kernel
theorem dX3_goOn_1 : decode cX3_goOn 1 = .ok (.invokevirtual 38, 3) := by decide +kernel
theorem dX3_goOn_4 : decode cX3_goOn 4 = .ok (.ifCond .ne 4, 3) := by decide +kernel
theorem dX3_goOn_7 : decode cX3_goOn 7 = .ok (.return_, 1) := by decide +kernel
theorem dX3_goOn_8 : decode cX3_goOn 8 = .ok (.aload_n 1, 1) := by decide +kernel
theorem dX3_goOn_9 : decode cX3_goOn 9 = .ok (.invokevirtual 42, 3) := by decide +kernel
theorem dX3_goOn_12 : decode cX3_goOn 12 = .ok (.bipush 60, 2) := by decide +kernel
theorem dX3_goOn_14 : decode cX3_goOn 14 = .ok (.if_icmp .lt 15, 3) := by decide +kernel
theorem dX3_goOn_17 : decode cX3_goOn 17 = .ok (.aload_n 1, 1) := by decide +kernel
theorem dX3_goOn_18 : decode cX3_goOn 18 = .ok (.iconst 2, 1) := by decide +kernel
theorem dX3_goOn_19 : decode cX3_goOn 19 = .ok (.aload_n 1, 1) := by decide +kernel
theorem dX3_goOn_20 : decode cX3_goOn 20 = .ok (.invokevirtual 46, 3) := by decide +kernel
theorem dX3_goOn_23 : decode cX3_goOn 23 = .ok (.invokevirtual 35, 3) := by decide +kernel
theorem dX3_goOn_26 : decode cX3_goOn 26 = .ok (.goto 13, 3) := by decide +kernel
theorem dX3_goOn_29 : decode cX3_goOn 29 = .ok (.aload_n 0, 1) := by decide +kernel
theorem dX3_goOn_30 : decode cX3_goOn 30 = .ok (.aload_n 1, 1) := by decide +kernel
theorem dX3_goOn_31 : decode cX3_goOn 31 = .ok (.aload_n 0, 1) := by decide +kernel
theorem dX3_goOn_32 : decode cX3_goOn 32 = .ok (.aload_n 1, 1) := by decide +kernel
theorem dX3_goOn_33 : decode cX3_goOn 33 = .ok (.invokevirtual 49, 3) := by decide +kernel
theorem dX3_goOn_36 : decode cX3_goOn 36 = .ok (.invokevirtual 53, 3) := by decide +kernel
theorem dX3_goOn_39 : decode cX3_goOn 39 = .ok (.return_, 1) := by decide +kernel
set_option maxRecDepth 20000 in
theorem ggX3_goOnTo_X7_last : GoodIn wsX3_goOnTo wsX7_last := goodIn_r _ [6, 7, 8, 9, 10, 11, 12, 49, 50, 51, 52, 53, 54, 55, 56] (by decide +kernel) (by decide +kernel)
set_option maxRecDepth 20000 in
theorem gX3_goOnTo_X7_last : GoodIn wsX3_goOnTo (wsV RX3 46 RX7 yX7_last wsX7_last) := goodIn_app (goodIn_of _ (by decide +kernel)) ggX3_goOnTo_X7_last
set_option maxRecDepth 20000 in
theorem ggX3_goOnTo_X7_comeOut : GoodIn wsX3_goOnTo wsX7_comeOut := goodIn_r _ [16, 17, 18, 49, 50, 51, 52, 53, 54, 55, 56] (by decide +kernel) (by decide +kernel)
set_option maxRecDepth 20000 in
theorem gX3_goOnTo_X7_comeOut : GoodIn wsX3_goOnTo (wsV RX3 35 RX7 yX7_comeOut wsX7_comeOut) := goodIn_app (goodIn_of _ (by decide +kernel)) ggX3_goOnTo_X7_comeOut
set_option maxRecDepth 20000 in
theorem ggX3_goOnTo_X7_song : GoodIn wsX3_goOnTo wsX7_song := goodIn_r _ [22, 23, 49, 50, 51, 52, 53, 54, 55, 56] (by decide +kernel) (by decide +kernel)
set_option maxRecDepth 20000 in
theorem gX3_goOnTo_X7_song : GoodIn wsX3_goOnTo (wsV RX3 57 RX7 yX7_song wsX7_song) := goodIn_app (goodIn_of _ (by decide +kernel)) ggX3_goOnTo_X7_song
set_option maxRecDepth 20000 in
theorem ggX3_goOnTo_X8_canBeSung : GoodIn wsX3_goOnTo wsX8_canBeSung := goodIn_r _ [28, 29, 30, 31, 27, 32, 33, 34, 10, 11, 12, 57, 58, 59, 60, 61] (by decide +kernel) (by decide +kernel)
set_option maxRecDepth 20000 in
theorem gX3_goOnTo_X8_canBeSung : GoodIn wsX3_goOnTo (wsV RX3 25 RX8 yX8_canBeSung wsX8_canBeSung) := goodIn_app (goodIn_of _ (by decide +kernel)) ggX3_goOnTo_X8_canBeSung
set_option maxRecDepth 20000 in
theorem ggX3_goOnTo_X7_add : GoodIn wsX3_goOnTo wsX7_add := goodIn_r _ [38, 39, 8, 7, 40, 41, 42, 3, 4, 5, 6, 9, 10, 11, 12, 43, 44, 45, 49, 50, 51, 52, 53, 54, 55, 56] (by decide +kernel) (by decide +kernel)
set_option maxRecDepth 20000 in
theorem gX3_goOnTo_X7_add : GoodIn wsX3_goOnTo (wsV RX3 31 RX7 yX7_add wsX7_add) := goodIn_app (goodIn_of _ (by decide +kernel)) ggX3_goOnTo_X7_add
theorem dX3_goOnTo_0 : decode cX3_goOnTo 0 = .ok (.iload_n 2, 1) := by decide +kernel
theorem dX3_goOnTo_1 : decode cX3_goOnTo 1 = .ok (.ifCond .ge 15, 3) := by decide +kernel
theorem dX3_goOnTo_4 : decode cX3_goOnTo 4 = .ok (.aload_n 1, 1) := by decide +kernel
theorem dX3_goOnTo_5 : decode cX3_goOnTo 5 = .ok (.iconst 0, 1) := by decide +kernel
theorem dX3_goOnTo_6 : decode cX3_goOnTo 6 = .ok (.aload_n 1, 1) := by decide +kernel
theorem dX3_goOnTo_7 : decode cX3_goOnTo 7 = .ok (.invokevirtual 46, 3) := by decide +kernel
theorem dX3_goOnTo_10 : decode cX3_goOnTo 10 = .ok (.invokevirtual 35, 3) := by decide +kernel
theorem dX3_goOnTo_13 : decode cX3_goOnTo 13 = .ok (.goto 32, 3) := by decide +kernel
theorem dX3_goOnTo_16 : decode cX3_goOnTo 16 = .ok (.aload_n 1, 1) := by decide +kernel
theorem dX3_goOnTo_17 : decode cX3_goOnTo 17 = .ok (.invokevirtual 57, 3) := by decide +kernel
theorem dX3_goOnTo_20 : decode cX3_goOnTo 20 = .ok (.iload_n 2, 1) := by decide +kernel
theorem dX3_goOnTo_21 : decode cX3_goOnTo 21 = .ok (.invokevirtual 25, 3) := by decide +kernel
theorem dX3_goOnTo_24 : decode cX3_goOnTo 24 = .ok (.ifCond .ne 12, 3) := by decide +kernel
theorem dX3_goOnTo_27 : decode cX3_goOnTo 27 = .ok (.aload_n 1, 1) := by decide +kernel
theorem dX3_goOnTo_28 : decode cX3_goOnTo 28 = .ok (.iconst 1, 1) := by decide +kernel
theorem dX3_goOnTo_29 : decode cX3_goOnTo 29 = .ok (.iload_n 2, 1) := by decide +kernel
theorem dX3_goOnTo_30 : decode cX3_goOnTo 30 = .ok (.invokevirtual 35, 3) := by decide +kernel
theorem dX3_goOnTo_33 : decode cX3_goOnTo 33 = .ok (.goto 12, 3) := by decide +kernel
theorem dX3_goOnTo_36 : decode cX3_goOnTo 36 = .ok (.aload_n 1, 1) := by decide +kernel
theorem dX3_goOnTo_37 : decode cX3_goOnTo 37 = .ok (.iload_n 2, 1) := by decide +kernel
theorem dX3_goOnTo_38 : decode cX3_goOnTo 38 = .ok (.aload_n 0, 1) := by decide +kernel
theorem dX3_goOnTo_39 : decode cX3_goOnTo 39 = .ok (.getfield 61, 3) := by decide +kernel
theorem dX3_goOnTo_42 : decode cX3_goOnTo 42 = .ok (.invokevirtual 31, 3) := by decide +kernel
theorem dX3_goOnTo_45 : decode cX3_goOnTo 45 = .ok (.return_, 1) := by decide +kernel
set_option maxRecDepth 20000 in
theorem ggX3_goThrough_X3_start : GoodIn wsX3_goThrough wsX3_start := goodIn_r _ [5, 6, 7, 8, 9, 10, 11, 12, 13, 14, 15, 16, 17, 18, 19, 20, 21, 22, 23, 24, 25, 26, 27, 28, 29, 30, 31, 32, 33, 34, 35, 36, 37, 38, 39, 40, 41, 42, 43, 44, 45, 46, 47, 48, 49, 50, 51, 52, 124, 125, 126, 127, 128, 129, 130, 131, 132, 133, 134, 135, 136] (by decide +kernel) (by decide +kernel)
set_option maxRecDepth 20000 in
theorem gX3_goThrough_X3_start : GoodIn wsX3_goThrough (wsV RX3 65 RX3 yX3_start wsX3_start) := goodIn_app (goodIn_of _ (by decide +kernel)) ggX3_goThrough_X3_start
set_option maxRecDepth 20000 in
theorem ggX3_goThrough_X7_isGoing : GoodIn wsX3_goThrough wsX7_isGoing := goodIn_r _ [56, 14, 124, 125, 126, 127, 128, 129, 130, 131] (by decide +kernel) (by decide +kernel)
set_option maxRecDepth 20000 in
theorem gX3_goThrough_X7_isGoing : GoodIn wsX3_goThrough (wsV RX3 38 RX7 yX7_isGoing wsX7_isGoing) := goodIn_app (goodIn_of _ (by decide +kernel)) ggX3_goThrough_X7_isGoing
set_option maxRecDepth 20000 in
theorem ggX3_goThrough_X3_goOn : GoodIn wsX3_goThrough wsX3_goOn := goodIn_r _ [60, 53, 54, 55, 9, 56, 14, 61, 62, 63, 64, 12, 65, 42, 43, 44, 39, 45, 32, 33, 34, 49, 50, 51, 52, 15, 66, 67, 68, 4, 69, 70, 71, 72, 73, 74, 75, 76, 11, 77, 78, 79, 24, 80, 81, 82, 83, 84, 85, 26, 27, 28, 29, 30, 31, 86, 87, 88, 89, 90, 91, 92, 93, 94, 95, 96, 97, 98, 16, 99, 100, 101, 102, 103, 104, 105, 106, 107, 108, 109, 110, 111, 112, 113, 114, 115, 47, 48, 116, 117, 118, 119, 120, 121, 122, 123, 21, 22, 23, 25, 35, 36, 37, 38, 13, 40, 41, 46, 124, 125, 126, 127, 128, 129, 130, 131, 137, 138, 139, 132, 133, 134, 135, 136, 140, 141, 142, 143, 144, 145, 146] (by decide +kernel) (by decide +kernel)
set_option maxRecDepth 20000 in
theorem gX3_goThrough_X3_goOn : GoodIn wsX3_goThrough (wsV RX3 69 RX3 yX3_goOn wsX3_goOn) := goodIn_app (goodIn_of _ (by decide +kernel)) ggX3_goThrough_X3_goOn
theorem dX3_goThrough_0 : decode cX3_goThrough 0 = .ok (.aload_n 0, 1) := by decide +kernel
theorem dX3_goThrough_1 : decode cX3_goThrough 1 = .ok (.aload_n 1, 1) := by decide +kernel
theorem dX3_goThrough_2 : decode cX3_goThrough 2 = .ok (.aload_n 2, 1) := by decide +kernel
theorem dX3_goThrough_3 : decode cX3_goThrough 3 = .ok (.iload_n 3, 1) := by decide +kernel
theorem dX3_goThrough_4 : decode cX3_goThrough 4 = .ok (.invokevirtual 65, 3) := by decide +kernel
theorem dX3_goThrough_7 : decode cX3_goThrough 7 = .ok (.iconst 0, 1) := by decide +kernel
theorem dX3_goThrough_8 : decode cX3_goThrough 8 = .ok (.istore 4, 2) := by decide +kernel
theorem dX3_goThrough_10 : decode cX3_goThrough 10 = .ok (.iload 4, 2) := by decide +kernel
theorem dX3_goThrough_12 : decode cX3_goThrough 12 = .ok (.bipush 60, 2) := by decide +kernel
theorem dX3_goThrough_14 : decode cX3_goThrough 14 = .ok (.if_icmp .ge 21, 3) := by decide +kernel
theorem dX3_goThrough_17 : decode cX3_goThrough 17 = .ok (.aload_n 1, 1) := by decide +kernel
theorem dX3_goThrough_18 : decode cX3_goThrough 18 = .ok (.invokevirtual 38, 3) := by decide +kernel
theorem dX3_goThrough_21 : decode cX3_goThrough 21 = .ok (.ifCond .eq 14, 3) := by decide +kernel
theorem dX3_goThrough_24 : decode cX3_goThrough 24 = .ok (.aload_n 0, 1) := by decide +kernel
theorem dX3_goThrough_25 : decode cX3_goThrough 25 = .ok (.aload_n 1, 1) := by decide +kernel
theorem dX3_goThrough_26 : decode cX3_goThrough 26 = .ok (.invokevirtual 69, 3) := by decide +kernel
theorem dX3_goThrough_29 : decode cX3_goThrough 29 = .ok (.iinc 4 1, 3) := by decide +kernel
theorem dX3_goThrough_32 : decode cX3_goThrough 32 = .ok (.goto (-22), 3) := by decide +kernel
theorem dX3_goThrough_35 : decode cX3_goThrough 35 = .ok (.return_, 1) := by decide +kernel
set_option maxRecDepth 20000 in
theorem ggX3_rightFrom_X3_start : GoodIn wsX3_rightFrom wsX3_start := goodIn_r _ [5, 6, 7, 8, 9, 10, 11, 12, 13, 14, 15, 16, 17, 18, 19, 20, 21, 22, 23, 24, 25, 26, 27, 28, 29, 30, 31, 32, 33, 34, 35, 36, 37, 38, 39, 40, 41, 42, 43, 44, 45, 46, 47, 48, 49, 50, 51, 52, 132, 133, 134, 135, 136, 137, 138, 139, 140, 141, 142, 143, 144] (by decide +kernel) (by decide +kernel)
set_option maxRecDepth 20000 in
theorem gX3_rightFrom_X3_start : GoodIn wsX3_rightFrom (wsV RX3 65 RX3 yX3_start wsX3_start) := goodIn_app (goodIn_of _ (by decide +kernel)) ggX3_rightFrom_X3_start
set_option maxRecDepth 20000 in
theorem ggX3_rightFrom_X7_isGoing : GoodIn wsX3_rightFrom wsX7_isGoing := goodIn_r _ [56, 14, 132, 133, 134, 135, 136, 137, 138, 139] (by decide +kernel) (by decide +kernel)
set_option maxRecDepth 20000 in
theorem gX3_rightFrom_X7_isGoing : GoodIn wsX3_rightFrom (wsV RX3 38 RX7 yX7_isGoing wsX7_isGoing) := goodIn_app (goodIn_of _ (by decide +kernel)) ggX3_rightFrom_X7_isGoing
set_option maxRecDepth 20000 in
theorem ggX3_rightFrom_X7_isRight : GoodIn wsX3_rightFrom wsX7_isRight := goodIn_r _ [60, 13, 12, 132, 133, 134, 135, 136, 137, 138, 139] (by decide +kernel) (by decide +kernel)
set_option maxRecDepth 20000 in
theorem gX3_rightFrom_X7_isRight : GoodIn wsX3_rightFrom (wsV RX3 73 RX7 yX7_isRight wsX7_isRight) := goodIn_app (goodIn_of _ (by decide +kernel)) ggX3_rightFrom_X7_isRight
set_option maxRecDepth 20000 in
theorem ggX3_rightFrom_X3_goOn : GoodIn wsX3_rightFrom wsX3_goOn := goodIn_r _ [64, 53, 54, 55, 9, 56, 14, 65, 66, 67, 68, 12, 69, 42, 43, 44, 39, 45, 32, 33, 34, 49, 50, 51, 52, 15, 70, 71, 72, 4, 73, 74, 75, 76, 77, 78, 79, 80, 11, 81, 82, 83, 24, 84, 85, 86, 87, 88, 89, 26, 27, 28, 29, 30, 31, 90, 91, 92, 93, 94, 95, 96, 97, 98, 99, 100, 101, 102, 16, 103, 104, 105, 106, 107, 108, 109, 110, 111, 112, 113, 114, 115, 116, 117, 118, 119, 47, 48, 120, 121, 122, 123, 124, 125, 126, 127, 21, 22, 23, 25, 35, 36, 37, 38, 13, 40, 41, 46, 132, 133, 134, 135, 136, 137, 138, 139, 145, 146, 147, 140, 141, 142, 143, 144, 148, 149, 150, 151, 152, 153, 154] (by decide +kernel) (by decide +kernel)
set_option maxRecDepth 20000 in
theorem gX3_rightFrom_X3_goOn : GoodIn wsX3_rightFrom (wsV RX3 69 RX3 yX3_goOn wsX3_goOn) := goodIn_app (goodIn_of _ (by decide +kernel)) ggX3_rightFrom_X3_goOn
set_option maxRecDepth 20000 in
theorem ggX3_rightFrom_X7_right : GoodIn wsX3_rightFrom wsX7_right := goodIn_r _ [131, 13, 132, 133, 134, 135, 136, 137, 138, 139] (by decide +kernel) (by decide +kernel)
set_option maxRecDepth 20000 in
theorem gX3_rightFrom_X7_right : GoodIn wsX3_rightFrom (wsV RX3 76 RX7 yX7_right wsX7_right) := goodIn_app (goodIn_of _ (by decide +kernel)) ggX3_rightFrom_X7_right
theorem dX3_rightFrom_0 : decode cX3_rightFrom 0 = .ok (.aload_n 0, 1) := by decide +kernel
theorem dX3_rightFrom_1 : decode cX3_rightFrom 1 = .ok (.aload_n 1, 1) := by decide +kernel
theorem dX3_rightFrom_2 : decode cX3_rightFrom 2 = .ok (.aload_n 2, 1) := by decide +kernel
theorem dX3_rightFrom_3 : decode cX3_rightFrom 3 = .ok (.iload_n 3, 1) := by decide +kernel
theorem dX3_rightFrom_4 : decode cX3_rightFrom 4 = .ok (.invokevirtual 65, 3) := by decide +kernel
theorem dX3_rightFrom_7 : decode cX3_rightFrom 7 = .ok (.iconst 0, 1) := by decide +kernel
theorem dX3_rightFrom_8 : decode cX3_rightFrom 8 = .ok (.istore 4, 2) := by decide +kernel
theorem dX3_rightFrom_10 : decode cX3_rightFrom 10 = .ok (.iload 4, 2) := by decide +kernel
theorem dX3_rightFrom_12 : decode cX3_rightFrom 12 = .ok (.bipush 12, 2) := by decide +kernel
theorem dX3_rightFrom_14 : decode cX3_rightFrom 14 = .ok (.if_icmp .ge 28, 3) := by decide +kernel
theorem dX3_rightFrom_17 : decode cX3_rightFrom 17 = .ok (.aload_n 1, 1) := by decide +kernel
theorem dX3_rightFrom_18 : decode cX3_rightFrom 18 = .ok (.invokevirtual 38, 3) := by decide +kernel
theorem dX3_rightFrom_21 : decode cX3_rightFrom 21 = .ok (.ifCond .eq 21, 3) := by decide +kernel
theorem dX3_rightFrom_24 : decode cX3_rightFrom 24 = .ok (.aload_n 1, 1) := by decide +kernel
theorem dX3_rightFrom_25 : decode cX3_rightFrom 25 = .ok (.invokevirtual 73, 3) := by decide +kernel
theorem dX3_rightFrom_28 : decode cX3_rightFrom 28 = .ok (.ifCond .eq 14, 3) := by decide +kernel
theorem dX3_rightFrom_31 : decode cX3_rightFrom 31 = .ok (.aload_n 0, 1) := by decide +kernel
theorem dX3_rightFrom_32 : decode cX3_rightFrom 32 = .ok (.aload_n 1, 1) := by decide +kernel
theorem dX3_rightFrom_33 : decode cX3_rightFrom 33 = .ok (.invokevirtual 69, 3) := by decide +kernel
theorem dX3_rightFrom_36 : decode cX3_rightFrom 36 = .ok (.iinc 4 1, 3) := by decide +kernel
theorem dX3_rightFrom_39 : decode cX3_rightFrom 39 = .ok (.goto (-29), 3) := by decide +kernel
theorem dX3_rightFrom_42 : decode cX3_rightFrom 42 = .ok (.aload_n 1, 1) := by decide +kernel
theorem dX3_rightFrom_43 : decode cX3_rightFrom 43 = .ok (.invokevirtual 76, 3) := by decide +kernel
theorem dX3_rightFrom_46 : decode cX3_rightFrom 46 = .ok (.ireturn, 1) := by decide +kernel
set_option maxRecDepth 20000 in
theorem ggX3_comesUp_X7_song : GoodIn wsX3_comesUp wsX7_song := goodIn_r _ [8, 9, 76, 77, 78, 79, 80, 81, 82, 83] (by decide +kernel) (by decide +kernel)
set_option maxRecDepth 20000 in
theorem gX3_comesUp_X7_song : GoodIn wsX3_comesUp (wsV RX3 57 RX7 yX7_song wsX7_song) := goodIn_app (goodIn_of _ (by decide +kernel)) ggX3_comesUp_X7_song
set_option maxRecDepth 20000 in
theorem ggX3_comesUp_X7_last : GoodIn wsX3_comesUp wsX7_last := goodIn_r _ [13, 14, 15, 16, 17, 18, 19, 76, 77, 78, 79, 80, 81, 82, 83] (by decide +kernel) (by decide +kernel)
set_option maxRecDepth 20000 in
theorem gX3_comesUp_X7_last : GoodIn wsX3_comesUp (wsV RX3 46 RX7 yX7_last wsX7_last) := goodIn_app (goodIn_of _ (by decide +kernel)) ggX3_comesUp_X7_last
set_option maxRecDepth 20000 in
theorem ggX3_comesUp_X8_size : GoodIn wsX3_comesUp wsX8_size := goodIn_r _ [24, 25, 84, 85, 86, 87, 88] (by decide +kernel) (by decide +kernel)
set_option maxRecDepth 20000 in
theorem gX3_comesUp_X8_size : GoodIn wsX3_comesUp (wsV RX3 79 RX8 yX8_size wsX8_size) := goodIn_app (goodIn_of _ (by decide +kernel)) ggX3_comesUp_X8_size
set_option maxRecDepth 20000 in
theorem ggX3_comesUp_X8_minds : GoodIn wsX3_comesUp wsX8_minds := goodIn_r _ [29, 30, 31, 32, 23, 33, 34, 35, 17, 18, 19, 84, 85, 86, 87, 88] (by decide +kernel) (by decide +kernel)
set_option maxRecDepth 20000 in
theorem gX3_comesUp_X8_minds : GoodIn wsX3_comesUp (wsV RX3 80 RX8 yX8_minds wsX8_minds) := goodIn_app (goodIn_of _ (by decide +kernel)) ggX3_comesUp_X8_minds
set_option maxRecDepth 20000 in
theorem ggX3_comesUp_X8_likeness : GoodIn wsX3_comesUp wsX8_likeness := goodIn_r _ [39, 40, 41, 42, 23, 43, 44, 35, 17, 18, 19, 84, 85, 86, 87, 88] (by decide +kernel) (by decide +kernel)
set_option maxRecDepth 20000 in
theorem gX3_comesUp_X8_likeness : GoodIn wsX3_comesUp (wsV RX3 84 RX8 yX8_likeness wsX8_likeness) := goodIn_app (goodIn_of _ (by decide +kernel)) ggX3_comesUp_X8_likeness
set_option maxRecDepth 20000 in
theorem ggX3_comesUp_X7_timesSung : GoodIn wsX3_comesUp wsX7_timesSung := goodIn_r _ [48, 49, 16, 17, 18, 19, 76, 77, 78, 79, 80, 81, 82, 83] (by decide +kernel) (by decide +kernel)
set_option maxRecDepth 20000 in
theorem gX3_comesUp_X7_timesSung : GoodIn wsX3_comesUp (wsV RX3 88 RX7 yX7_timesSung wsX7_timesSung) := goodIn_app (goodIn_of _ (by decide +kernel)) ggX3_comesUp_X7_timesSung
set_option maxRecDepth 20000 in
theorem ggX3_comesUp_X5_gives : GoodIn wsX3_comesUp wsX5_gives := goodIn_r _ [54, 55, 56, 57, 58, 59, 53, 60, 61, 62, 63, 64, 65, 66, 67, 18, 68, 69, 17, 19, 70, 71, 72, 89, 90, 91, 92, 93, 94, 95] (by decide +kernel) (by decide +kernel)
set_option maxRecDepth 20000 in
theorem gX3_comesUp_X5_gives : GoodIn wsX3_comesUp (wsV RX3 91 RX5 yX5_gives wsX5_gives) := goodIn_app (goodIn_of _ (by decide +kernel)) ggX3_comesUp_X5_gives
theorem dX3_comesUp_0 : decode cX3_comesUp 0 = .ok (.aload_n 1, 1) := by decide +kernel
theorem dX3_comesUp_1 : decode cX3_comesUp 1 = .ok (.invokevirtual 57, 3) := by decide +kernel
theorem dX3_comesUp_4 : decode cX3_comesUp 4 = .ok (.astore_n 2, 1) := by decide +kernel
theorem dX3_comesUp_5 : decode cX3_comesUp 5 = .ok (.aload_n 1, 1) := by decide +kernel
theorem dX3_comesUp_6 : decode cX3_comesUp 6 = .ok (.invokevirtual 46, 3) := by decide +kernel
theorem dX3_comesUp_9 : decode cX3_comesUp 9 = .ok (.istore_n 3, 1) := by decide +kernel
theorem dX3_comesUp_10 : decode cX3_comesUp 10 = .ok (.iconst 0, 1) := by decide +kernel
theorem dX3_comesUp_11 : decode cX3_comesUp 11 = .ok (.istore 4, 2) := by decide +kernel
theorem dX3_comesUp_13 : decode cX3_comesUp 13 = .ok (.bipush (-2), 2) := by decide +kernel
theorem dX3_comesUp_15 : decode cX3_comesUp 15 = .ok (.istore 5, 2) := by decide +kernel
theorem dX3_comesUp_17 : decode cX3_comesUp 17 = .ok (.iconst 0, 1) := by decide +kernel
theorem dX3_comesUp_18 : decode cX3_comesUp 18 = .ok (.istore 6, 2) := by decide +kernel
theorem dX3_comesUp_20 : decode cX3_comesUp 20 = .ok (.iload 6, 2) := by decide +kernel
theorem dX3_comesUp_22 : decode cX3_comesUp 22 = .ok (.aload_n 2, 1) := by decide +kernel
theorem dX3_comesUp_23 : decode cX3_comesUp 23 = .ok (.invokevirtual 79, 3) := by decide +kernel
theorem dX3_comesUp_26 : decode cX3_comesUp 26 = .ok (.if_icmp .ge 125, 3) := by decide +kernel
theorem dX3_comesUp_29 : decode cX3_comesUp 29 = .ok (.iload 6, 2) := by decide +kernel
theorem dX3_comesUp_31 : decode cX3_comesUp 31 = .ok (.iload_n 3, 1) := by decide +kernel
theorem dX3_comesUp_32 : decode cX3_comesUp 32 = .ok (.if_icmp .ne 7, 3) := by decide +kernel
theorem dX3_comesUp_35 : decode cX3_comesUp 35 = .ok (.iconst 0, 1) := by decide +kernel
theorem dX3_comesUp_36 : decode cX3_comesUp 36 = .ok (.goto 9, 3) := by decide +kernel
theorem dX3_comesUp_39 : decode cX3_comesUp 39 = .ok (.aload_n 2, 1) := by decide +kernel
theorem dX3_comesUp_40 : decode cX3_comesUp 40 = .ok (.iload 6, 2) := by decide +kernel
theorem dX3_comesUp_42 : decode cX3_comesUp 42 = .ok (.invokevirtual 80, 3) := by decide +kernel
theorem dX3_comesUp_45 : decode cX3_comesUp 45 = .ok (.istore 7, 2) := by decide +kernel
theorem dX3_comesUp_47 : decode cX3_comesUp 47 = .ok (.iload 7, 2) := by decide +kernel
theorem dX3_comesUp_49 : decode cX3_comesUp 49 = .ok (.ifCond .ne 6, 3) := by decide +kernel
theorem dX3_comesUp_52 : decode cX3_comesUp 52 = .ok (.goto 93, 3) := by decide +kernel
theorem dX3_comesUp_55 : decode cX3_comesUp 55 = .ok (.aload_n 2, 1) := by decide +kernel
theorem dX3_comesUp_56 : decode cX3_comesUp 56 = .ok (.iload_n 3, 1) := by decide +kernel
theorem dX3_comesUp_57 : decode cX3_comesUp 57 = .ok (.iload 6, 2) := by decide +kernel
theorem dX3_comesUp_59 : decode cX3_comesUp 59 = .ok (.invokevirtual 84, 3) := by decide +kernel
theorem dX3_comesUp_62 : decode cX3_comesUp 62 = .ok (.istore 8, 2) := by decide +kernel
theorem dX3_comesUp_64 : decode cX3_comesUp 64 = .ok (.aload_n 1, 1) := by decide +kernel
theorem dX3_comesUp_65 : decode cX3_comesUp 65 = .ok (.iload 6, 2) := by decide +kernel
theorem dX3_comesUp_67 : decode cX3_comesUp 67 = .ok (.invokevirtual 88, 3) := by decide +kernel
theorem dX3_comesUp_70 : decode cX3_comesUp 70 = .ok (.istore 9, 2) := by decide +kernel
theorem dX3_comesUp_72 : decode cX3_comesUp 72 = .ok (.iconst 0, 1) := by decide +kernel
theorem dX3_comesUp_73 : decode cX3_comesUp 73 = .ok (.istore 10, 2) := by decide +kernel
theorem dX3_comesUp_75 : decode cX3_comesUp 75 = .ok (.iload 10, 2) := by decide +kernel
theorem dX3_comesUp_77 : decode cX3_comesUp 77 = .ok (.aload_n 0, 1) := by decide +kernel
theorem dX3_comesUp_78 : decode cX3_comesUp 78 = .ok (.getfield 9, 3) := by decide +kernel
theorem dX3_comesUp_81 : decode cX3_comesUp 81 = .ok (.arraylength, 1) := by decide +kernel
theorem dX3_comesUp_82 : decode cX3_comesUp 82 = .ok (.if_icmp .ge 63, 3) := by decide +kernel
theorem dX3_comesUp_85 : decode cX3_comesUp 85 = .ok (.iload 7, 2) := by decide +kernel
theorem dX3_comesUp_87 : decode cX3_comesUp 87 = .ok (.iload 10, 2) := by decide +kernel
theorem dX3_comesUp_89 : decode cX3_comesUp 89 = .ok (.ishr, 1) := by decide +kernel
theorem dX3_comesUp_90 : decode cX3_comesUp 90 = .ok (.iconst 1, 1) := by decide +kernel
theorem dX3_comesUp_91 : decode cX3_comesUp 91 = .ok (.iand, 1) := by decide +kernel
theorem dX3_comesUp_92 : decode cX3_comesUp 92 = .ok (.ifCond .ne 6, 3) := by decide +kernel
theorem dX3_comesUp_95 : decode cX3_comesUp 95 = .ok (.goto 44, 3) := by decide +kernel
theorem dX3_comesUp_98 : decode cX3_comesUp 98 = .ok (.aload_n 0, 1) := by decide +kernel
theorem dX3_comesUp_99 : decode cX3_comesUp 99 = .ok (.getfield 15, 3) := by decide +kernel
theorem dX3_comesUp_102 : decode cX3_comesUp 102 = .ok (.iload 8, 2) := by decide +kernel
theorem dX3_comesUp_104 : decode cX3_comesUp 104 = .ok (.aload_n 0, 1) := by decide +kernel
theorem dX3_comesUp_105 : decode cX3_comesUp 105 = .ok (.getfield 9, 3) := by decide +kernel
theorem dX3_comesUp_108 : decode cX3_comesUp 108 = .ok (.iload 10, 2) := by decide +kernel
theorem dX3_comesUp_110 : decode cX3_comesUp 110 = .ok (.iaload, 1) := by decide +kernel
theorem dX3_comesUp_111 : decode cX3_comesUp 111 = .ok (.iload 9, 2) := by decide +kernel
theorem dX3_comesUp_113 : decode cX3_comesUp 113 = .ok (.invokevirtual 91, 3) := by decide +kernel
theorem dX3_comesUp_116 : decode cX3_comesUp 116 = .ok (.istore 11, 2) := by decide +kernel
theorem dX3_comesUp_118 : decode cX3_comesUp 118 = .ok (.iload 11, 2) := by decide +kernel
theorem dX3_comesUp_120 : decode cX3_comesUp 120 = .ok (.iload 4, 2) := by decide +kernel
theorem dX3_comesUp_122 : decode cX3_comesUp 122 = .ok (.if_icmp .le 17, 3) := by decide +kernel
theorem dX3_comesUp_125 : decode cX3_comesUp 125 = .ok (.iload 11, 2) := by decide +kernel
theorem dX3_comesUp_127 : decode cX3_comesUp 127 = .ok (.istore 4, 2) := by decide +kernel
theorem dX3_comesUp_129 : decode cX3_comesUp 129 = .ok (.iload 6, 2) := by decide +kernel
theorem dX3_comesUp_131 : decode cX3_comesUp 131 = .ok (.istore 5, 2) := by decide +kernel
theorem dX3_comesUp_133 : decode cX3_comesUp 133 = .ok (.aload_n 0, 1) := by decide +kernel
theorem dX3_comesUp_134 : decode cX3_comesUp 134 = .ok (.iload 10, 2) := by decide +kernel
theorem dX3_comesUp_136 : decode cX3_comesUp 136 = .ok (.putfield 61, 3) := by decide +kernel
theorem dX3_comesUp_139 : decode cX3_comesUp 139 = .ok (.iinc 10 1, 3) := by decide +kernel
theorem dX3_comesUp_142 : decode cX3_comesUp 142 = .ok (.goto (-67), 3) := by decide +kernel
theorem dX3_comesUp_145 : decode cX3_comesUp 145 = .ok (.iinc 6 1, 3) := by decide +kernel
theorem dX3_comesUp_148 : decode cX3_comesUp 148 = .ok (.goto (-128), 3) := by decide +kernel
theorem dX3_comesUp_151 : decode cX3_comesUp 151 = .ok (.iload 5, 2) := by decide +kernel
theorem dX3_comesUp_153 : decode cX3_comesUp 153 = .ok (.ireturn, 1) := by decide +kernel
set_option maxRecDepth 20000 in
theorem ggX4_init_X7_init : GoodIn wsX4_init wsX7_init := goodIn_r _ [10, 11, 2, 3, 12, 13, 14, 15, 16, 17, 18, 19, 20, 21, 22, 23, 24, 25] (by decide +kernel) (by decide +kernel)
set_option maxRecDepth 20000 in
theorem gX4_init_X7_init : GoodIn wsX4_init (wsX7_init) := ggX4_init_X7_init
theorem dX4_init_0 : decode cX4_init 0 = .ok (.aload_n 0, 1) := by decide +kernel
theorem dX4_init_1 : decode cX4_init 1 = .ok (.invokespecial 3, 3) := by decide +kernel
theorem dX4_init_4 : decode cX4_init 4 = .ok (.aload_n 0, 1) := by decide +kernel
theorem dX4_init_5 : decode cX4_init 5 = .ok (.new 9, 3) := by decide +kernel
theorem dX4_init_8 : decode cX4_init 8 = .ok (.dup, 1) := by decide +kernel
theorem dX4_init_9 : decode cX4_init 9 = .ok (.aload_n 1, 1) := by decide +kernel
theorem dX4_init_10 : decode cX4_init 10 = .ok (.invokespecial 11, 3) := by decide +kernel
theorem dX4_init_13 : decode cX4_init 13 = .ok (.putfield 14, 3) := by decide +kernel
theorem dX4_init_16 : decode cX4_init 16 = .ok (.return_, 1) := by decide +kernel
set_option maxRecDepth 20000 in
theorem ggX4_isOn_X7_isGoing : GoodIn wsX4_isOn wsX7_isGoing := goodIn_r _ [6, 7, 13, 14, 15, 16, 17, 18, 19, 20] (by decide +kernel) (by decide +kernel)
set_option maxRecDepth 20000 in
theorem gX4_isOn_X7_isGoing : GoodIn wsX4_isOn (wsV RX4 20 RX7 yX7_isGoing wsX7_isGoing) := goodIn_app (goodIn_of _ (by decide +kernel)) ggX4_isOn_X7_isGoing
theorem dX4_isOn_0 : decode cX4_isOn 0 = .ok (.aload_n 0, 1) := by decide +kernel
theorem dX4_isOn_1 : decode cX4_isOn 1 = .ok (.getfield 14, 3) := by decide +kernel
theorem dX4_isOn_4 : decode cX4_isOn 4 = .ok (.invokevirtual 20, 3) := by decide +kernel
theorem dX4_isOn_7 : decode cX4_isOn 7 = .ok (.ireturn, 1) := by decide +kernel
set_option maxRecDepth 20000 in
theorem ggX4_tellBegun_X4_tellGoneOn : GoodIn wsX4_tellBegun wsX4_tellGoneOn := goodIn_r _ [6, 7, 8, 9, 10, 11, 12, 13, 14, 15, 16, 17, 18, 19, 20, 21, 22, 23, 5, 24, 25, 26, 27, 28, 29, 30, 31, 32, 33, 34, 35, 36, 37, 38, 39, 40, 41, 42, 43, 44, 45, 46] (by decide +kernel) (by decide +kernel)
set_option maxRecDepth 20000 in
theorem gX4_tellBegun_X4_tellGoneOn : GoodIn wsX4_tellBegun (wsV RX4 28 RX4 yX4_tellGoneOn wsX4_tellGoneOn) := goodIn_app (goodIn_of _ (by decide +kernel)) ggX4_tellBegun_X4_tellGoneOn
theorem dX4_tellBegun_0 : decode cX4_tellBegun 0 = .ok (.aload_n 0, 1) := by decide +kernel
theorem dX4_tellBegun_1 : decode cX4_tellBegun 1 = .ok (.dup, 1) := by decide +kernel
theorem dX4_tellBegun_2 : decode cX4_tellBegun 2 = .ok (.getfield 24, 3) := by decide +kernel
theorem dX4_tellBegun_5 : decode cX4_tellBegun 5 = .ok (.iconst 1, 1) := by decide +kernel
theorem dX4_tellBegun_6 : decode cX4_tellBegun 6 = .ok (.iadd, 1) := by decide +kernel
theorem dX4_tellBegun_7 : decode cX4_tellBegun 7 = .ok (.putfield 24, 3) := by decide +kernel
theorem dX4_tellBegun_10 : decode cX4_tellBegun 10 = .ok (.aload_n 0, 1) := by decide +kernel
theorem dX4_tellBegun_11 : decode cX4_tellBegun 11 = .ok (.invokevirtual 28, 3) := by decide +kernel
theorem dX4_tellBegun_14 : decode cX4_tellBegun 14 = .ok (.return_, 1) := by decide +kernel
set_option maxRecDepth 20000 in
theorem ggX4_tellGoneOn_X7_outcome : GoodIn wsX4_tellGoneOn wsX7_outcome := goodIn_r _ [13, 14, 34, 35, 36, 37, 38, 39, 40, 41] (by decide +kernel) (by decide +kernel)
set_option maxRecDepth 20000 in
theorem gX4_tellGoneOn_X7_outcome : GoodIn wsX4_tellGoneOn (wsV RX4 31 RX7 yX7_outcome wsX7_outcome) := goodIn_app (goodIn_of _ (by decide +kernel)) ggX4_tellGoneOn_X7_outcome
set_option maxRecDepth 20000 in
theorem ggX4_tellGoneOn_X4_isOn : GoodIn wsX4_tellGoneOn wsX4_isOn := goodIn_r _ [19, 1, 20, 21, 22, 12, 23, 14, 29, 30, 31, 32, 33, 34, 35, 36, 37, 38, 39, 40, 41] (by decide +kernel) (by decide +kernel)
set_option maxRecDepth 20000 in
theorem gX4_tellGoneOn_X4_isOn : GoodIn wsX4_tellGoneOn (wsV RX4 38 RX4 yX4_isOn wsX4_isOn) := goodIn_app (goodIn_of _ (by decide +kernel)) ggX4_tellGoneOn_X4_isOn
set_option maxRecDepth 20000 in
theorem ggX4_tellGoneOn_X7_size : GoodIn wsX4_tellGoneOn wsX7_size := goodIn_r _ [27, 28, 34, 35, 36, 37, 38, 39, 40, 41] (by decide +kernel) (by decide +kernel)
set_option maxRecDepth 20000 in
theorem gX4_tellGoneOn_X7_size : GoodIn wsX4_tellGoneOn (wsV RX4 47 RX7 yX7_size wsX7_size) := goodIn_app (goodIn_of _ (by decide +kernel)) ggX4_tellGoneOn_X7_size
theorem dX4_tellGoneOn_0 : decode cX4_tellGoneOn 0 = .ok (.aload_n 0, 1) := by decide +kernel
theorem dX4_tellGoneOn_1 : decode cX4_tellGoneOn 1 = .ok (.getfield 14, 3) := by decide +kernel
theorem dX4_tellGoneOn_4 : decode cX4_tellGoneOn 4 = .ok (.invokevirtual 31, 3) := by decide +kernel
theorem dX4_tellGoneOn_7 : decode cX4_tellGoneOn 7 = .ok (.iconst 1, 1) := by decide +kernel
theorem dX4_tellGoneOn_8 : decode cX4_tellGoneOn 8 = .ok (.if_icmp .ne 13, 3) := by decide +kernel
theorem dX4_tellGoneOn_11 : decode cX4_tellGoneOn 11 = .ok (.aload_n 0, 1) := by decide +kernel
theorem dX4_tellGoneOn_12 : decode cX4_tellGoneOn 12 = .ok (.dup, 1) := by decide +kernel
theorem dX4_tellGoneOn_13 : decode cX4_tellGoneOn 13 = .ok (.getfield 35, 3) := by decide +kernel
theorem dX4_tellGoneOn_16 : decode cX4_tellGoneOn 16 = .ok (.iconst 1, 1) := by decide +kernel
theorem dX4_tellGoneOn_17 : decode cX4_tellGoneOn 17 = .ok (.iadd, 1) := by decide +kernel
theorem dX4_tellGoneOn_18 : decode cX4_tellGoneOn 18 = .ok (.putfield 35, 3) := by decide +kernel
theorem dX4_tellGoneOn_21 : decode cX4_tellGoneOn 21 = .ok (.aload_n 0, 1) := by decide +kernel
theorem dX4_tellGoneOn_22 : decode cX4_tellGoneOn 22 = .ok (.invokevirtual 38, 3) := by decide +kernel
theorem dX4_tellGoneOn_25 : decode cX4_tellGoneOn 25 = .ok (.ifCond .ne 4, 3) := by decide +kernel
theorem dX4_tellGoneOn_28 : decode cX4_tellGoneOn 28 = .ok (.return_, 1) := by decide +kernel
theorem dX4_tellGoneOn_29 : decode cX4_tellGoneOn 29 = .ok (.aload_n 0, 1) := by decide +kernel
theorem dX4_tellGoneOn_30 : decode cX4_tellGoneOn 30 = .ok (.dup, 1) := by decide +kernel
theorem dX4_tellGoneOn_31 : decode cX4_tellGoneOn 31 = .ok (.getfield 41, 3) := by decide +kernel
theorem dX4_tellGoneOn_34 : decode cX4_tellGoneOn 34 = .ok (.iconst 1, 1) := by decide +kernel
theorem dX4_tellGoneOn_35 : decode cX4_tellGoneOn 35 = .ok (.iadd, 1) := by decide +kernel
theorem dX4_tellGoneOn_36 : decode cX4_tellGoneOn 36 = .ok (.putfield 41, 3) := by decide +kernel
theorem dX4_tellGoneOn_39 : decode cX4_tellGoneOn 39 = .ok (.aload_n 0, 1) := by decide +kernel
theorem dX4_tellGoneOn_40 : decode cX4_tellGoneOn 40 = .ok (.aload_n 0, 1) := by decide +kernel
theorem dX4_tellGoneOn_41 : decode cX4_tellGoneOn 41 = .ok (.getfield 44, 3) := by decide +kernel
theorem dX4_tellGoneOn_44 : decode cX4_tellGoneOn 44 = .ok (.aload_n 0, 1) := by decide +kernel
theorem dX4_tellGoneOn_45 : decode cX4_tellGoneOn 45 = .ok (.getfield 14, 3) := by decide +kernel
theorem dX4_tellGoneOn_48 : decode cX4_tellGoneOn 48 = .ok (.invokevirtual 47, 3) := by decide +kernel
theorem dX4_tellGoneOn_51 : decode cX4_tellGoneOn 51 = .ok (.invokestatic 50, 3) := by decide +kernel
theorem dX4_tellGoneOn_54 : decode cX4_tellGoneOn 54 = .ok (.putfield 44, 3) := by decide +kernel
theorem dX4_tellGoneOn_57 : decode cX4_tellGoneOn 57 = .ok (.return_, 1) := by decide +kernel
set_option maxRecDepth 20000 in
theorem ggX4_copyFrom_X7_copyFrom : GoodIn wsX4_copyFrom wsX7_copyFrom := goodIn_r _ [10, 11, 12, 13, 14, 15, 16, 17, 18, 19, 20, 21, 22, 23, 24, 25, 26, 27, 28, 29, 30, 36, 37, 38, 39, 40, 41, 42, 43] (by decide +kernel) (by decide +kernel)
set_option maxRecDepth 20000 in
theorem gX4_copyFrom_X7_copyFrom : GoodIn wsX4_copyFrom (wsV RX4 56 RX7 yX7_copyFrom wsX7_copyFrom) := goodIn_app (goodIn_of _ (by decide +kernel)) ggX4_copyFrom_X7_copyFrom
theorem dX4_copyFrom_0 : decode cX4_copyFrom 0 = .ok (.aload_n 0, 1) := by decide +kernel
theorem dX4_copyFrom_1 : decode cX4_copyFrom 1 = .ok (.getfield 14, 3) := by decide +kernel
theorem dX4_copyFrom_4 : decode cX4_copyFrom 4 = .ok (.aload_n 1, 1) := by decide +kernel
theorem dX4_copyFrom_5 : decode cX4_copyFrom 5 = .ok (.getfield 14, 3) := by decide +kernel
theorem dX4_copyFrom_8 : decode cX4_copyFrom 8 = .ok (.invokevirtual 56, 3) := by decide +kernel
theorem dX4_copyFrom_11 : decode cX4_copyFrom 11 = .ok (.aload_n 0, 1) := by decide +kernel
theorem dX4_copyFrom_12 : decode cX4_copyFrom 12 = .ok (.aload_n 1, 1) := by decide +kernel
theorem dX4_copyFrom_13 : decode cX4_copyFrom 13 = .ok (.getfield 24, 3) := by decide +kernel
theorem dX4_copyFrom_16 : decode cX4_copyFrom 16 = .ok (.putfield 24, 3) := by decide +kernel
theorem dX4_copyFrom_19 : decode cX4_copyFrom 19 = .ok (.aload_n 0, 1) := by decide +kernel
theorem dX4_copyFrom_20 : decode cX4_copyFrom 20 = .ok (.aload_n 1, 1) := by decide +kernel
theorem dX4_copyFrom_21 : decode cX4_copyFrom 21 = .ok (.getfield 41, 3) := by decide +kernel
theorem dX4_copyFrom_24 : decode cX4_copyFrom 24 = .ok (.putfield 41, 3) := by decide +kernel
theorem dX4_copyFrom_27 : decode cX4_copyFrom 27 = .ok (.aload_n 0, 1) := by decide +kernel
theorem dX4_copyFrom_28 : decode cX4_copyFrom 28 = .ok (.aload_n 1, 1) := by decide +kernel
theorem dX4_copyFrom_29 : decode cX4_copyFrom 29 = .ok (.getfield 35, 3) := by decide +kernel
theorem dX4_copyFrom_32 : decode cX4_copyFrom 32 = .ok (.putfield 35, 3) := by decide +kernel
theorem dX4_copyFrom_35 : decode cX4_copyFrom 35 = .ok (.aload_n 0, 1) := by decide +kernel
theorem dX4_copyFrom_36 : decode cX4_copyFrom 36 = .ok (.aload_n 1, 1) := by decide +kernel
theorem dX4_copyFrom_37 : decode cX4_copyFrom 37 = .ok (.getfield 44, 3) := by decide +kernel
theorem dX4_copyFrom_40 : decode cX4_copyFrom 40 = .ok (.putfield 44, 3) := by decide +kernel
theorem dX4_copyFrom_43 : decode cX4_copyFrom 43 = .ok (.return_, 1) := by decide +kernel
theorem dX5_init_0 : decode cX5_init 0 = .ok (.aload_n 0, 1) := by decide +kernel
theorem dX5_init_1 : decode cX5_init 1 = .ok (.invokespecial 3, 3) := by decide +kernel
theorem dX5_init_4 : decode cX5_init 4 = .ok (.aload_n 0, 1) := by decide +kernel
theorem dX5_init_5 : decode cX5_init 5 = .ok (.sipush 128, 3) := by decide +kernel
theorem dX5_init_8 : decode cX5_init 8 = .ok (.newarray .int, 2) := by decide +kernel
theorem dX5_init_10 : decode cX5_init 10 = .ok (.putfield 11, 3) := by decide +kernel
theorem dX5_init_13 : decode cX5_init 13 = .ok (.aload_n 0, 1) := by decide +kernel
theorem dX5_init_14 : decode cX5_init 14 = .ok (.sipush 128, 3) := by decide +kernel
theorem dX5_init_17 : decode cX5_init 17 = .ok (.newarray .int, 2) := by decide +kernel
theorem dX5_init_19 : decode cX5_init 19 = .ok (.putfield 15, 3) := by decide +kernel
theorem dX5_init_22 : decode cX5_init 22 = .ok (.aload_n 0, 1) := by decide +kernel
theorem dX5_init_23 : decode cX5_init 23 = .ok (.sipush 128, 3) := by decide +kernel
theorem dX5_init_26 : decode cX5_init 26 = .ok (.newarray .int, 2) := by decide +kernel
theorem dX5_init_28 : decode cX5_init 28 = .ok (.putfield 18, 3) := by decide +kernel
theorem dX5_init_31 : decode cX5_init 31 = .ok (.aload_n 0, 1) := by decide +kernel
theorem dX5_init_32 : decode cX5_init 32 = .ok (.bipush 6, 2) := by decide +kernel
theorem dX5_init_34 : decode cX5_init 34 = .ok (.newarray .int, 2) := by decide +kernel
theorem dX5_init_36 : decode cX5_init 36 = .ok (.putfield 21, 3) := by decide +kernel
theorem dX5_init_39 : decode cX5_init 39 = .ok (.aload_n 0, 1) := by decide +kernel
theorem dX5_init_40 : decode cX5_init 40 = .ok (.sipush 640, 3) := by decide +kernel
theorem dX5_init_43 : decode cX5_init 43 = .ok (.newarray .int, 2) := by decide +kernel
theorem dX5_init_45 : decode cX5_init 45 = .ok (.putfield 24, 3) := by decide +kernel
theorem dX5_init_48 : decode cX5_init 48 = .ok (.aload_n 0, 1) := by decide +kernel
theorem dX5_init_49 : decode cX5_init 49 = .ok (.sipush 640, 3) := by decide +kernel
theorem dX5_init_52 : decode cX5_init 52 = .ok (.newarray .int, 2) := by decide +kernel
theorem dX5_init_54 : decode cX5_init 54 = .ok (.putfield 27, 3) := by decide +kernel
theorem dX5_init_57 : decode cX5_init 57 = .ok (.return_, 1) := by decide +kernel
set_option maxRecDepth 20000 in
theorem ggX5_clear_J7_fill_53178 : GoodIn wsX5_clear wsJ7_fill_53178 := goodIn_r _ [6] (by decide +kernel) (by decide +kernel)
set_option maxRecDepth 20000 in
theorem gX5_clear_J7_fill_53178 : GoodIn wsX5_clear (va_wsS RX5 34 yJ7_fill_53178 wsJ7_fill_53178) := goodIn_app (goodIn_of _ (by decide +kernel)) ggX5_clear_J7_fill_53178
theorem dX5_clear_0 : decode cX5_clear 0 = .ok (.aload_n 0, 1) := by decide +kernel
theorem dX5_clear_1 : decode cX5_clear 1 = .ok (.iconst 0, 1) := by decide +kernel
theorem dX5_clear_2 : decode cX5_clear 2 = .ok (.putfield 30, 3) := by decide +kernel
theorem dX5_clear_5 : decode cX5_clear 5 = .ok (.aload_n 0, 1) := by decide +kernel
theorem dX5_clear_6 : decode cX5_clear 6 = .ok (.getfield 27, 3) := by decide +kernel
theorem dX5_clear_9 : decode cX5_clear 9 = .ok (.iconst 0, 1) := by decide +kernel
theorem dX5_clear_10 : decode cX5_clear 10 = .ok (.invokestatic 34, 3) := by decide +kernel
theorem dX5_clear_13 : decode cX5_clear 13 = .ok (.return_, 1) := by decide +kernel
theorem dX5_add_0 : decode cX5_add 0 = .ok (.aload_n 0, 1) := by decide +kernel
theorem dX5_add_1 : decode cX5_add 1 = .ok (.getfield 30, 3) := by decide +kernel
theorem dX5_add_4 : decode cX5_add 4 = .ok (.aload_n 0, 1) := by decide +kernel
theorem dX5_add_5 : decode cX5_add 5 = .ok (.getfield 11, 3) := by decide +kernel
theorem dX5_add_8 : decode cX5_add 8 = .ok (.arraylength, 1) := by decide +kernel
theorem dX5_add_9 : decode cX5_add 9 = .ok (.if_icmp .ge 15, 3) := by decide +kernel
theorem dX5_add_12 : decode cX5_add 12 = .ok (.aload_n 0, 1) := by decide +kernel
theorem dX5_add_13 : decode cX5_add 13 = .ok (.getfield 30, 3) := by decide +kernel
theorem dX5_add_16 : decode cX5_add 16 = .ok (.aload_n 0, 1) := by decide +kernel
theorem dX5_add_17 : decode cX5_add 17 = .ok (.getfield 15, 3) := by decide +kernel
theorem dX5_add_20 : decode cX5_add 20 = .ok (.arraylength, 1) := by decide +kernel
theorem dX5_add_21 : decode cX5_add 21 = .ok (.if_icmp .lt 4, 3) := by decide +kernel
theorem dX5_add_24 : decode cX5_add 24 = .ok (.return_, 1) := by decide +kernel
theorem dX5_add_25 : decode cX5_add 25 = .ok (.aload_n 0, 1) := by decide +kernel
theorem dX5_add_26 : decode cX5_add 26 = .ok (.getfield 11, 3) := by decide +kernel
theorem dX5_add_29 : decode cX5_add 29 = .ok (.aload_n 0, 1) := by decide +kernel
theorem dX5_add_30 : decode cX5_add 30 = .ok (.getfield 30, 3) := by decide +kernel
theorem dX5_add_33 : decode cX5_add 33 = .ok (.iload_n 1, 1) := by decide +kernel
theorem dX5_add_34 : decode cX5_add 34 = .ok (.iastore, 1) := by decide +kernel
theorem dX5_add_35 : decode cX5_add 35 = .ok (.aload_n 0, 1) := by decide +kernel
theorem dX5_add_36 : decode cX5_add 36 = .ok (.getfield 15, 3) := by decide +kernel
theorem dX5_add_39 : decode cX5_add 39 = .ok (.aload_n 0, 1) := by decide +kernel
theorem dX5_add_40 : decode cX5_add 40 = .ok (.getfield 30, 3) := by decide +kernel
theorem dX5_add_43 : decode cX5_add 43 = .ok (.iload_n 2, 1) := by decide +kernel
theorem dX5_add_44 : decode cX5_add 44 = .ok (.iastore, 1) := by decide +kernel
theorem dX5_add_45 : decode cX5_add 45 = .ok (.aload_n 0, 1) := by decide +kernel
theorem dX5_add_46 : decode cX5_add 46 = .ok (.dup, 1) := by decide +kernel
theorem dX5_add_47 : decode cX5_add 47 = .ok (.getfield 30, 3) := by decide +kernel
theorem dX5_add_50 : decode cX5_add 50 = .ok (.iconst 1, 1) := by decide +kernel
theorem dX5_add_51 : decode cX5_add 51 = .ok (.iadd, 1) := by decide +kernel
theorem dX5_add_52 : decode cX5_add 52 = .ok (.putfield 30, 3) := by decide +kernel
theorem dX5_add_55 : decode cX5_add 55 = .ok (.return_, 1) := by decide +kernel
theorem dX5_size_0 : decode cX5_size 0 = .ok (.aload_n 0, 1) := by decide +kernel
theorem dX5_size_1 : decode cX5_size 1 = .ok (.getfield 30, 3) := by decide +kernel
theorem dX5_size_4 : decode cX5_size 4 = .ok (.ireturn, 1) := by decide +kernel
set_option maxRecDepth 20000 in
theorem ggX5_leadOn_X1_set : GoodIn wsX5_leadOn wsX1_set := goodIn_r _ [6] (by decide +kernel) (by decide +kernel)
set_option maxRecDepth 20000 in
theorem gX5_leadOn_X1_set : GoodIn wsX5_leadOn (va_wsS RX5 40 yX1_set wsX1_set) := goodIn_app (goodIn_of _ (by decide +kernel)) ggX5_leadOn_X1_set
theorem dX5_leadOn_0 : decode cX5_leadOn 0 = .ok (.aload_n 0, 1) := by decide +kernel
theorem dX5_leadOn_1 : decode cX5_leadOn 1 = .ok (.getfield 15, 3) := by decide +kernel
theorem dX5_leadOn_4 : decode cX5_leadOn 4 = .ok (.iload_n 1, 1) := by decide +kernel
theorem dX5_leadOn_5 : decode cX5_leadOn 5 = .ok (.aload_n 0, 1) := by decide +kernel
theorem dX5_leadOn_6 : decode cX5_leadOn 6 = .ok (.getfield 30, 3) := by decide +kernel
theorem dX5_leadOn_9 : decode cX5_leadOn 9 = .ok (.invokestatic 40, 3) := by decide +kernel
theorem dX5_leadOn_12 : decode cX5_leadOn 12 = .ok (.return_, 1) := by decide +kernel
set_option maxRecDepth 20000 in
theorem ggX5_gives_X5_work : GoodIn wsX5_gives wsX5_work := goodIn_r _ [7, 8, 9, 10, 11, 12, 13, 14, 15, 16, 17, 18, 19, 20, 21, 6, 22, 23, 24, 25, 26, 27, 28, 29] (by decide +kernel) (by decide +kernel)
set_option maxRecDepth 20000 in
theorem gX5_gives_X5_work : GoodIn wsX5_gives (wsV RX5 46 RX5 yX5_work wsX5_work) := goodIn_app (goodIn_of _ (by decide +kernel)) ggX5_gives_X5_work
theorem dX5_gives_0 : decode cX5_gives 0 = .ok (.iload_n 3, 1) := by decide +kernel
theorem dX5_gives_1 : decode cX5_gives 1 = .ok (.bipush 10, 2) := by decide +kernel
theorem dX5_gives_3 : decode cX5_gives 3 = .ok (.imul, 1) := by decide +kernel
theorem dX5_gives_4 : decode cX5_gives 4 = .ok (.iload_n 2, 1) := by decide +kernel
theorem dX5_gives_5 : decode cX5_gives 5 = .ok (.iadd, 1) := by decide +kernel
theorem dX5_gives_6 : decode cX5_gives 6 = .ok (.bipush 16, 2) := by decide +kernel
theorem dX5_gives_8 : decode cX5_gives 8 = .ok (.imul, 1) := by decide +kernel
theorem dX5_gives_9 : decode cX5_gives 9 = .ok (.iload_n 1, 1) := by decide +kernel
theorem dX5_gives_10 : decode cX5_gives 10 = .ok (.iadd, 1) := by decide +kernel
theorem dX5_gives_11 : decode cX5_gives 11 = .ok (.istore 4, 2) := by decide +kernel
theorem dX5_gives_13 : decode cX5_gives 13 = .ok (.iload 4, 2) := by decide +kernel
theorem dX5_gives_15 : decode cX5_gives 15 = .ok (.ifCond .lt 23, 3) := by decide +kernel
theorem dX5_gives_18 : decode cX5_gives 18 = .ok (.iload 4, 2) := by decide +kernel
theorem dX5_gives_20 : decode cX5_gives 20 = .ok (.aload_n 0, 1) := by decide +kernel
theorem dX5_gives_21 : decode cX5_gives 21 = .ok (.getfield 24, 3) := by decide +kernel
theorem dX5_gives_24 : decode cX5_gives 24 = .ok (.arraylength, 1) := by decide +kernel
theorem dX5_gives_25 : decode cX5_gives 25 = .ok (.if_icmp .ge 13, 3) := by decide +kernel
theorem dX5_gives_28 : decode cX5_gives 28 = .ok (.iload 4, 2) := by decide +kernel
theorem dX5_gives_30 : decode cX5_gives 30 = .ok (.aload_n 0, 1) := by decide +kernel
theorem dX5_gives_31 : decode cX5_gives 31 = .ok (.getfield 27, 3) := by decide +kernel
theorem dX5_gives_34 : decode cX5_gives 34 = .ok (.arraylength, 1) := by decide +kernel
theorem dX5_gives_35 : decode cX5_gives 35 = .ok (.if_icmp .lt 11, 3) := by decide +kernel
theorem dX5_gives_38 : decode cX5_gives 38 = .ok (.aload_n 0, 1) := by decide +kernel
theorem dX5_gives_39 : decode cX5_gives 39 = .ok (.iload_n 1, 1) := by decide +kernel
theorem dX5_gives_40 : decode cX5_gives 40 = .ok (.iload_n 2, 1) := by decide +kernel
theorem dX5_gives_41 : decode cX5_gives 41 = .ok (.iload_n 3, 1) := by decide +kernel
theorem dX5_gives_42 : decode cX5_gives 42 = .ok (.invokevirtual 46, 3) := by decide +kernel
theorem dX5_gives_45 : decode cX5_gives 45 = .ok (.ireturn, 1) := by decide +kernel
theorem dX5_gives_46 : decode cX5_gives 46 = .ok (.aload_n 0, 1) := by decide +kernel
theorem dX5_gives_47 : decode cX5_gives 47 = .ok (.getfield 27, 3) := by decide +kernel
theorem dX5_gives_50 : decode cX5_gives 50 = .ok (.iload 4, 2) := by decide +kernel
theorem dX5_gives_52 : decode cX5_gives 52 = .ok (.iaload, 1) := by decide +kernel
theorem dX5_gives_53 : decode cX5_gives 53 = .ok (.ifCond .ne 25, 3) := by decide +kernel
theorem dX5_gives_56 : decode cX5_gives 56 = .ok (.aload_n 0, 1) := by decide +kernel
theorem dX5_gives_57 : decode cX5_gives 57 = .ok (.getfield 24, 3) := by decide +kernel
theorem dX5_gives_60 : decode cX5_gives 60 = .ok (.iload 4, 2) := by decide +kernel
theorem dX5_gives_62 : decode cX5_gives 62 = .ok (.aload_n 0, 1) := by decide +kernel
theorem dX5_gives_63 : decode cX5_gives 63 = .ok (.iload_n 1, 1) := by decide +kernel
theorem dX5_gives_64 : decode cX5_gives 64 = .ok (.iload_n 2, 1) := by decide +kernel
theorem dX5_gives_65 : decode cX5_gives 65 = .ok (.iload_n 3, 1) := by decide +kernel
theorem dX5_gives_66 : decode cX5_gives 66 = .ok (.invokevirtual 46, 3) := by decide +kernel
theorem dX5_gives_69 : decode cX5_gives 69 = .ok (.iastore, 1) := by decide +kernel
theorem dX5_gives_70 : decode cX5_gives 70 = .ok (.aload_n 0, 1) := by decide +kernel
theorem dX5_gives_71 : decode cX5_gives 71 = .ok (.getfield 27, 3) := by decide +kernel
theorem dX5_gives_74 : decode cX5_gives 74 = .ok (.iload 4, 2) := by decide +kernel
theorem dX5_gives_76 : decode cX5_gives 76 = .ok (.iconst 1, 1) := by decide +kernel
theorem dX5_gives_77 : decode cX5_gives 77 = .ok (.iastore, 1) := by decide +kernel
theorem dX5_gives_78 : decode cX5_gives 78 = .ok (.aload_n 0, 1) := by decide +kernel
theorem dX5_gives_79 : decode cX5_gives 79 = .ok (.getfield 24, 3) := by decide +kernel
theorem dX5_gives_82 : decode cX5_gives 82 = .ok (.iload 4, 2) := by decide +kernel
theorem dX5_gives_84 : decode cX5_gives 84 = .ok (.iaload, 1) := by decide +kernel
theorem dX5_gives_85 : decode cX5_gives 85 = .ok (.ireturn, 1) := by decide +kernel
set_option maxRecDepth 20000 in
theorem ggX5_work_X1_set : GoodIn wsX5_work wsX1_set := goodIn_r _ [9] (by decide +kernel) (by decide +kernel)
set_option maxRecDepth 20000 in
theorem gX5_work_X1_set : GoodIn wsX5_work (va_wsS RX5 40 yX1_set wsX1_set) := goodIn_app (goodIn_of _ (by decide +kernel)) ggX5_work_X1_set
set_option maxRecDepth 20000 in
theorem ggX5_work_X1_at : GoodIn wsX5_work wsX1_at := goodIn_r _ [12] (by decide +kernel) (by decide +kernel)
set_option maxRecDepth 20000 in
theorem gX5_work_X1_at : GoodIn wsX5_work (va_wsS RX5 50 yX1_at wsX1_at) := goodIn_app (goodIn_of _ (by decide +kernel)) ggX5_work_X1_at
set_option maxRecDepth 20000 in
theorem ggX5_work_X5_both : GoodIn wsX5_work wsX5_both := goodIn_r _ [16] (by decide +kernel) (by decide +kernel)
set_option maxRecDepth 20000 in
theorem gX5_work_X5_both : GoodIn wsX5_work (va_wsS RX5 54 yX5_both wsX5_both) := goodIn_app (goodIn_of _ (by decide +kernel)) ggX5_work_X5_both
theorem dX5_work_0 : decode cX5_work 0 = .ok (.iconst 0, 1) := by decide +kernel
theorem dX5_work_1 : decode cX5_work 1 = .ok (.istore 4, 2) := by decide +kernel
theorem dX5_work_3 : decode cX5_work 3 = .ok (.iload 4, 2) := by decide +kernel
theorem dX5_work_5 : decode cX5_work 5 = .ok (.iconst 4, 1) := by decide +kernel
theorem dX5_work_6 : decode cX5_work 6 = .ok (.if_icmp .ge 24, 3) := by decide +kernel
theorem dX5_work_9 : decode cX5_work 9 = .ok (.aload_n 0, 1) := by decide +kernel
theorem dX5_work_10 : decode cX5_work 10 = .ok (.getfield 21, 3) := by decide +kernel
theorem dX5_work_13 : decode cX5_work 13 = .ok (.iload 4, 2) := by decide +kernel
theorem dX5_work_15 : decode cX5_work 15 = .ok (.iload_n 1, 1) := by decide +kernel
theorem dX5_work_16 : decode cX5_work 16 = .ok (.iload 4, 2) := by decide +kernel
theorem dX5_work_18 : decode cX5_work 18 = .ok (.ishr, 1) := by decide +kernel
theorem dX5_work_19 : decode cX5_work 19 = .ok (.iconst 1, 1) := by decide +kernel
theorem dX5_work_20 : decode cX5_work 20 = .ok (.iand, 1) := by decide +kernel
theorem dX5_work_21 : decode cX5_work 21 = .ok (.invokestatic 40, 3) := by decide +kernel
theorem dX5_work_24 : decode cX5_work 24 = .ok (.iinc 4 1, 3) := by decide +kernel
theorem dX5_work_27 : decode cX5_work 27 = .ok (.goto (-24), 3) := by decide +kernel
theorem dX5_work_30 : decode cX5_work 30 = .ok (.aload_n 0, 1) := by decide +kernel
theorem dX5_work_31 : decode cX5_work 31 = .ok (.getfield 21, 3) := by decide +kernel
theorem dX5_work_34 : decode cX5_work 34 = .ok (.iconst 4, 1) := by decide +kernel
theorem dX5_work_35 : decode cX5_work 35 = .ok (.iload_n 2, 1) := by decide +kernel
theorem dX5_work_36 : decode cX5_work 36 = .ok (.invokestatic 40, 3) := by decide +kernel
theorem dX5_work_39 : decode cX5_work 39 = .ok (.aload_n 0, 1) := by decide +kernel
theorem dX5_work_40 : decode cX5_work 40 = .ok (.getfield 21, 3) := by decide +kernel
theorem dX5_work_43 : decode cX5_work 43 = .ok (.iconst 5, 1) := by decide +kernel
theorem dX5_work_44 : decode cX5_work 44 = .ok (.iload_n 3, 1) := by decide +kernel
theorem dX5_work_45 : decode cX5_work 45 = .ok (.invokestatic 40, 3) := by decide +kernel
theorem dX5_work_48 : decode cX5_work 48 = .ok (.iconst 2, 1) := by decide +kernel
theorem dX5_work_49 : decode cX5_work 49 = .ok (.istore 4, 2) := by decide +kernel
theorem dX5_work_51 : decode cX5_work 51 = .ok (.iconst 0, 1) := by decide +kernel
theorem dX5_work_52 : decode cX5_work 52 = .ok (.istore 5, 2) := by decide +kernel
theorem dX5_work_54 : decode cX5_work 54 = .ok (.iconst 0, 1) := by decide +kernel
theorem dX5_work_55 : decode cX5_work 55 = .ok (.istore 6, 2) := by decide +kernel
theorem dX5_work_57 : decode cX5_work 57 = .ok (.iload 6, 2) := by decide +kernel
theorem dX5_work_59 : decode cX5_work 59 = .ok (.aload_n 0, 1) := by decide +kernel
theorem dX5_work_60 : decode cX5_work 60 = .ok (.getfield 30, 3) := by decide +kernel
theorem dX5_work_63 : decode cX5_work 63 = .ok (.if_icmp .ge 294, 3) := by decide +kernel
theorem dX5_work_66 : decode cX5_work 66 = .ok (.iload 6, 2) := by decide +kernel
theorem dX5_work_68 : decode cX5_work 68 = .ok (.aload_n 0, 1) := by decide +kernel
theorem dX5_work_69 : decode cX5_work 69 = .ok (.getfield 11, 3) := by decide +kernel
theorem dX5_work_72 : decode cX5_work 72 = .ok (.arraylength, 1) := by decide +kernel
theorem dX5_work_73 : decode cX5_work 73 = .ok (.if_icmp .ge 284, 3) := by decide +kernel
theorem dX5_work_76 : decode cX5_work 76 = .ok (.iload 6, 2) := by decide +kernel
theorem dX5_work_78 : decode cX5_work 78 = .ok (.aload_n 0, 1) := by decide +kernel
theorem dX5_work_79 : decode cX5_work 79 = .ok (.getfield 15, 3) := by decide +kernel
theorem dX5_work_82 : decode cX5_work 82 = .ok (.arraylength, 1) := by decide +kernel
theorem dX5_work_83 : decode cX5_work 83 = .ok (.if_icmp .ge 274, 3) := by decide +kernel
theorem dX5_work_86 : decode cX5_work 86 = .ok (.iload 4, 2) := by decide +kernel
theorem dX5_work_88 : decode cX5_work 88 = .ok (.iconst 2, 1) := by decide +kernel
theorem dX5_work_89 : decode cX5_work 89 = .ok (.if_icmp .lt 13, 3) := by decide +kernel
theorem dX5_work_92 : decode cX5_work 92 = .ok (.iload 4, 2) := by decide +kernel
theorem dX5_work_94 : decode cX5_work 94 = .ok (.aload_n 0, 1) := by decide +kernel
theorem dX5_work_95 : decode cX5_work 95 = .ok (.getfield 18, 3) := by decide +kernel
theorem dX5_work_98 : decode cX5_work 98 = .ok (.arraylength, 1) := by decide +kernel
theorem dX5_work_99 : decode cX5_work 99 = .ok (.if_icmp .lt 5, 3) := by decide +kernel
theorem dX5_work_102 : decode cX5_work 102 = .ok (.iconst 0, 1) := by decide +kernel
theorem dX5_work_103 : decode cX5_work 103 = .ok (.ireturn, 1) := by decide +kernel
theorem dX5_work_104 : decode cX5_work 104 = .ok (.iload 6, 2) := by decide +kernel
theorem dX5_work_106 : decode cX5_work 106 = .ok (.iload 5, 2) := by decide +kernel
theorem dX5_work_108 : decode cX5_work 108 = .ok (.if_icmp .ge 6, 3) := by decide +kernel
theorem dX5_work_111 : decode cX5_work 111 = .ok (.goto 240, 3) := by decide +kernel
theorem dX5_work_114 : decode cX5_work 114 = .ok (.aload_n 0, 1) := by decide +kernel
theorem dX5_work_115 : decode cX5_work 115 = .ok (.getfield 11, 3) := by decide +kernel
theorem dX5_work_118 : decode cX5_work 118 = .ok (.iload 6, 2) := by decide +kernel
theorem dX5_work_120 : decode cX5_work 120 = .ok (.iaload, 1) := by decide +kernel
theorem dX5_work_121 : decode cX5_work 121 = .ok (.lookupswitch 192 #[(33, 128), (48, 59), (59, 157), (63, 167), (97, 79), (126, 106)], 59) := by decide +kernel
theorem dX5_work_180 : decode cX5_work 180 = .ok (.aload_n 0, 1) := by decide +kernel
theorem dX5_work_181 : decode cX5_work 181 = .ok (.getfield 18, 3) := by decide +kernel
theorem dX5_work_184 : decode cX5_work 184 = .ok (.iload 4, 2) := by decide +kernel
theorem dX5_work_186 : decode cX5_work 186 = .ok (.iinc 4 1, 3) := by decide +kernel
theorem dX5_work_189 : decode cX5_work 189 = .ok (.aload_n 0, 1) := by decide +kernel
theorem dX5_work_190 : decode cX5_work 190 = .ok (.getfield 15, 3) := by decide +kernel
theorem dX5_work_193 : decode cX5_work 193 = .ok (.iload 6, 2) := by decide +kernel
theorem dX5_work_195 : decode cX5_work 195 = .ok (.iaload, 1) := by decide +kernel
theorem dX5_work_196 : decode cX5_work 196 = .ok (.iastore, 1) := by decide +kernel
theorem dX5_work_197 : decode cX5_work 197 = .ok (.goto 154, 3) := by decide +kernel
theorem dX5_work_200 : decode cX5_work 200 = .ok (.aload_n 0, 1) := by decide +kernel
theorem dX5_work_201 : decode cX5_work 201 = .ok (.getfield 18, 3) := by decide +kernel
theorem dX5_work_204 : decode cX5_work 204 = .ok (.iload 4, 2) := by decide +kernel
theorem dX5_work_206 : decode cX5_work 206 = .ok (.iinc 4 1, 3) := by decide +kernel
theorem dX5_work_209 : decode cX5_work 209 = .ok (.aload_n 0, 1) := by decide +kernel
theorem dX5_work_210 : decode cX5_work 210 = .ok (.getfield 21, 3) := by decide +kernel
theorem dX5_work_213 : decode cX5_work 213 = .ok (.aload_n 0, 1) := by decide +kernel
theorem dX5_work_214 : decode cX5_work 214 = .ok (.getfield 15, 3) := by decide +kernel
theorem dX5_work_217 : decode cX5_work 217 = .ok (.iload 6, 2) := by decide +kernel
theorem dX5_work_219 : decode cX5_work 219 = .ok (.iaload, 1) := by decide +kernel
theorem dX5_work_220 : decode cX5_work 220 = .ok (.invokestatic 50, 3) := by decide +kernel
theorem dX5_work_223 : decode cX5_work 223 = .ok (.iastore, 1) := by decide +kernel
theorem dX5_work_224 : decode cX5_work 224 = .ok (.goto 127, 3) := by decide +kernel
theorem dX5_work_227 : decode cX5_work 227 = .ok (.aload_n 0, 1) := by decide +kernel
theorem dX5_work_228 : decode cX5_work 228 = .ok (.getfield 18, 3) := by decide +kernel
theorem dX5_work_231 : decode cX5_work 231 = .ok (.iload 4, 2) := by decide +kernel
theorem dX5_work_233 : decode cX5_work 233 = .ok (.iconst 1, 1) := by decide +kernel
theorem dX5_work_234 : decode cX5_work 234 = .ok (.isub, 1) := by decide +kernel
theorem dX5_work_235 : decode cX5_work 235 = .ok (.aload_n 0, 1) := by decide +kernel
theorem dX5_work_236 : decode cX5_work 236 = .ok (.getfield 18, 3) := by decide +kernel
theorem dX5_work_239 : decode cX5_work 239 = .ok (.iload 4, 2) := by decide +kernel
theorem dX5_work_241 : decode cX5_work 241 = .ok (.iconst 1, 1) := by decide +kernel
theorem dX5_work_242 : decode cX5_work 242 = .ok (.isub, 1) := by decide +kernel
theorem dX5_work_243 : decode cX5_work 243 = .ok (.iaload, 1) := by decide +kernel
theorem dX5_work_244 : decode cX5_work 244 = .ok (.ineg, 1) := by decide +kernel
theorem dX5_work_245 : decode cX5_work 245 = .ok (.iastore, 1) := by decide +kernel
theorem dX5_work_246 : decode cX5_work 246 = .ok (.goto 105, 3) := by decide +kernel
theorem dX5_work_249 : decode cX5_work 249 = .ok (.aload_n 0, 1) := by decide +kernel
theorem dX5_work_250 : decode cX5_work 250 = .ok (.getfield 18, 3) := by decide +kernel
theorem dX5_work_253 : decode cX5_work 253 = .ok (.iload 4, 2) := by decide +kernel
theorem dX5_work_255 : decode cX5_work 255 = .ok (.iconst 1, 1) := by decide +kernel
theorem dX5_work_256 : decode cX5_work 256 = .ok (.isub, 1) := by decide +kernel
theorem dX5_work_257 : decode cX5_work 257 = .ok (.aload_n 0, 1) := by decide +kernel
theorem dX5_work_258 : decode cX5_work 258 = .ok (.getfield 18, 3) := by decide +kernel
theorem dX5_work_261 : decode cX5_work 261 = .ok (.iload 4, 2) := by decide +kernel
theorem dX5_work_263 : decode cX5_work 263 = .ok (.iconst 1, 1) := by decide +kernel
theorem dX5_work_264 : decode cX5_work 264 = .ok (.isub, 1) := by decide +kernel
theorem dX5_work_265 : decode cX5_work 265 = .ok (.iaload, 1) := by decide +kernel
theorem dX5_work_266 : decode cX5_work 266 = .ok (.ifCond .ne 7, 3) := by decide +kernel
theorem dX5_work_269 : decode cX5_work 269 = .ok (.iconst 1, 1) := by decide +kernel
theorem dX5_work_270 : decode cX5_work 270 = .ok (.goto 4, 3) := by decide +kernel
theorem dX5_work_273 : decode cX5_work 273 = .ok (.iconst 0, 1) := by decide +kernel
theorem dX5_work_274 : decode cX5_work 274 = .ok (.iastore, 1) := by decide +kernel
theorem dX5_work_275 : decode cX5_work 275 = .ok (.goto 76, 3) := by decide +kernel
theorem dX5_work_278 : decode cX5_work 278 = .ok (.aload_n 0, 1) := by decide +kernel
theorem dX5_work_279 : decode cX5_work 279 = .ok (.getfield 18, 3) := by decide +kernel
theorem dX5_work_282 : decode cX5_work 282 = .ok (.iload 4, 2) := by decide +kernel
theorem dX5_work_284 : decode cX5_work 284 = .ok (.iconst 1, 1) := by decide +kernel
theorem dX5_work_285 : decode cX5_work 285 = .ok (.isub, 1) := by decide +kernel
theorem dX5_work_286 : decode cX5_work 286 = .ok (.iaload, 1) := by decide +kernel
theorem dX5_work_287 : decode cX5_work 287 = .ok (.ireturn, 1) := by decide +kernel
theorem dX5_work_288 : decode cX5_work 288 = .ok (.iinc 4 (-1), 3) := by decide +kernel
theorem dX5_work_291 : decode cX5_work 291 = .ok (.aload_n 0, 1) := by decide +kernel
theorem dX5_work_292 : decode cX5_work 292 = .ok (.getfield 18, 3) := by decide +kernel
theorem dX5_work_295 : decode cX5_work 295 = .ok (.iload 4, 2) := by decide +kernel
theorem dX5_work_297 : decode cX5_work 297 = .ok (.iaload, 1) := by decide +kernel
theorem dX5_work_298 : decode cX5_work 298 = .ok (.ifCond .ne 53, 3) := by decide +kernel
theorem dX5_work_301 : decode cX5_work 301 = .ok (.aload_n 0, 1) := by decide +kernel
theorem dX5_work_302 : decode cX5_work 302 = .ok (.getfield 15, 3) := by decide +kernel
theorem dX5_work_305 : decode cX5_work 305 = .ok (.iload 6, 2) := by decide +kernel
theorem dX5_work_307 : decode cX5_work 307 = .ok (.iaload, 1) := by decide +kernel
theorem dX5_work_308 : decode cX5_work 308 = .ok (.istore 5, 2) := by decide +kernel
theorem dX5_work_310 : decode cX5_work 310 = .ok (.goto 41, 3) := by decide +kernel
theorem dX5_work_313 : decode cX5_work 313 = .ok (.iinc 4 (-1), 3) := by decide +kernel
theorem dX5_work_316 : decode cX5_work 316 = .ok (.aload_n 0, 1) := by decide +kernel
theorem dX5_work_317 : decode cX5_work 317 = .ok (.getfield 18, 3) := by decide +kernel
theorem dX5_work_320 : decode cX5_work 320 = .ok (.iload 4, 2) := by decide +kernel
theorem dX5_work_322 : decode cX5_work 322 = .ok (.iconst 1, 1) := by decide +kernel
theorem dX5_work_323 : decode cX5_work 323 = .ok (.isub, 1) := by decide +kernel
theorem dX5_work_324 : decode cX5_work 324 = .ok (.aload_n 0, 1) := by decide +kernel
theorem dX5_work_325 : decode cX5_work 325 = .ok (.getfield 11, 3) := by decide +kernel
theorem dX5_work_328 : decode cX5_work 328 = .ok (.iload 6, 2) := by decide +kernel
theorem dX5_work_330 : decode cX5_work 330 = .ok (.iaload, 1) := by decide +kernel
theorem dX5_work_331 : decode cX5_work 331 = .ok (.aload_n 0, 1) := by decide +kernel
theorem dX5_work_332 : decode cX5_work 332 = .ok (.getfield 18, 3) := by decide +kernel
theorem dX5_work_335 : decode cX5_work 335 = .ok (.iload 4, 2) := by decide +kernel
theorem dX5_work_337 : decode cX5_work 337 = .ok (.iconst 1, 1) := by decide +kernel
theorem dX5_work_338 : decode cX5_work 338 = .ok (.isub, 1) := by decide +kernel
theorem dX5_work_339 : decode cX5_work 339 = .ok (.iaload, 1) := by decide +kernel
theorem dX5_work_340 : decode cX5_work 340 = .ok (.aload_n 0, 1) := by decide +kernel
theorem dX5_work_341 : decode cX5_work 341 = .ok (.getfield 18, 3) := by decide +kernel
theorem dX5_work_344 : decode cX5_work 344 = .ok (.iload 4, 2) := by decide +kernel
theorem dX5_work_346 : decode cX5_work 346 = .ok (.iaload, 1) := by decide +kernel
theorem dX5_work_347 : decode cX5_work 347 = .ok (.invokestatic 54, 3) := by decide +kernel
theorem dX5_work_350 : decode cX5_work 350 = .ok (.iastore, 1) := by decide +kernel
theorem dX5_work_351 : decode cX5_work 351 = .ok (.iinc 6 1, 3) := by decide +kernel
theorem dX5_work_354 : decode cX5_work 354 = .ok (.goto (-297), 3) := by decide +kernel
theorem dX5_work_357 : decode cX5_work 357 = .ok (.iconst 0, 1) := by decide +kernel
theorem dX5_work_358 : decode cX5_work 358 = .ok (.ireturn, 1) := by decide +kernel
theorem dX5_both_0 : decode cX5_both 0 = .ok (.iload_n 0, 1) := by decide +kernel
theorem dX5_both_1 : decode cX5_both 1 = .ok (.lookupswitch 188 #[(37, 176), (38, 105), (42, 160), (43, 152), (45, 156), (47, 164), (60, 119), (61, 130), (62, 141), (124, 91)], 91) := by decide +kernel
theorem dX5_both_92 : decode cX5_both 92 = .ok (.iload_n 1, 1) := by decide +kernel
theorem dX5_both_93 : decode cX5_both 93 = .ok (.ifCond .ne 7, 3) := by decide +kernel
theorem dX5_both_96 : decode cX5_both 96 = .ok (.iload_n 2, 1) := by decide +kernel
theorem dX5_both_97 : decode cX5_both 97 = .ok (.ifCond .eq 7, 3) := by decide +kernel
theorem dX5_both_100 : decode cX5_both 100 = .ok (.iconst 1, 1) := by decide +kernel
theorem dX5_both_101 : decode cX5_both 101 = .ok (.goto 4, 3) := by decide +kernel
theorem dX5_both_104 : decode cX5_both 104 = .ok (.iconst 0, 1) := by decide +kernel
theorem dX5_both_105 : decode cX5_both 105 = .ok (.ireturn, 1) := by decide +kernel
theorem dX5_both_106 : decode cX5_both 106 = .ok (.iload_n 1, 1) := by decide +kernel
theorem dX5_both_107 : decode cX5_both 107 = .ok (.ifCond .eq 11, 3) := by decide +kernel
theorem dX5_both_110 : decode cX5_both 110 = .ok (.iload_n 2, 1) := by decide +kernel
theorem dX5_both_111 : decode cX5_both 111 = .ok (.ifCond .eq 7, 3) := by decide +kernel
theorem dX5_both_114 : decode cX5_both 114 = .ok (.iconst 1, 1) := by decide +kernel
theorem dX5_both_115 : decode cX5_both 115 = .ok (.goto 4, 3) := by decide +kernel
theorem dX5_both_118 : decode cX5_both 118 = .ok (.iconst 0, 1) := by decide +kernel
theorem dX5_both_119 : decode cX5_both 119 = .ok (.ireturn, 1) := by decide +kernel
theorem dX5_both_120 : decode cX5_both 120 = .ok (.iload_n 1, 1) := by decide +kernel
theorem dX5_both_121 : decode cX5_both 121 = .ok (.iload_n 2, 1) := by decide +kernel
theorem dX5_both_122 : decode cX5_both 122 = .ok (.if_icmp .ge 7, 3) := by decide +kernel
theorem dX5_both_125 : decode cX5_both 125 = .ok (.iconst 1, 1) := by decide +kernel
theorem dX5_both_126 : decode cX5_both 126 = .ok (.goto 4, 3) := by decide +kernel
theorem dX5_both_129 : decode cX5_both 129 = .ok (.iconst 0, 1) := by decide +kernel
theorem dX5_both_130 : decode cX5_both 130 = .ok (.ireturn, 1) := by decide +kernel
theorem dX5_both_131 : decode cX5_both 131 = .ok (.iload_n 1, 1) := by decide +kernel
theorem dX5_both_132 : decode cX5_both 132 = .ok (.iload_n 2, 1) := by decide +kernel
theorem dX5_both_133 : decode cX5_both 133 = .ok (.if_icmp .ne 7, 3) := by decide +kernel
theorem dX5_both_136 : decode cX5_both 136 = .ok (.iconst 1, 1) := by decide +kernel
theorem dX5_both_137 : decode cX5_both 137 = .ok (.goto 4, 3) := by decide +kernel
theorem dX5_both_140 : decode cX5_both 140 = .ok (.iconst 0, 1) := by decide +kernel
theorem dX5_both_141 : decode cX5_both 141 = .ok (.ireturn, 1) := by decide +kernel
theorem dX5_both_142 : decode cX5_both 142 = .ok (.iload_n 1, 1) := by decide +kernel
theorem dX5_both_143 : decode cX5_both 143 = .ok (.iload_n 2, 1) := by decide +kernel
theorem dX5_both_144 : decode cX5_both 144 = .ok (.if_icmp .le 7, 3) := by decide +kernel
theorem dX5_both_147 : decode cX5_both 147 = .ok (.iconst 1, 1) := by decide +kernel
theorem dX5_both_148 : decode cX5_both 148 = .ok (.goto 4, 3) := by decide +kernel
theorem dX5_both_151 : decode cX5_both 151 = .ok (.iconst 0, 1) := by decide +kernel
theorem dX5_both_152 : decode cX5_both 152 = .ok (.ireturn, 1) := by decide +kernel
theorem dX5_both_153 : decode cX5_both 153 = .ok (.iload_n 1, 1) := by decide +kernel
theorem dX5_both_154 : decode cX5_both 154 = .ok (.iload_n 2, 1) := by decide +kernel
theorem dX5_both_155 : decode cX5_both 155 = .ok (.iadd, 1) := by decide +kernel
theorem dX5_both_156 : decode cX5_both 156 = .ok (.ireturn, 1) := by decide +kernel
theorem dX5_both_157 : decode cX5_both 157 = .ok (.iload_n 1, 1) := by decide +kernel
theorem dX5_both_158 : decode cX5_both 158 = .ok (.iload_n 2, 1) := by decide +kernel
theorem dX5_both_159 : decode cX5_both 159 = .ok (.isub, 1) := by decide +kernel
theorem dX5_both_160 : decode cX5_both 160 = .ok (.ireturn, 1) := by decide +kernel
theorem dX5_both_161 : decode cX5_both 161 = .ok (.iload_n 1, 1) := by decide +kernel
theorem dX5_both_162 : decode cX5_both 162 = .ok (.iload_n 2, 1) := by decide +kernel
theorem dX5_both_163 : decode cX5_both 163 = .ok (.imul, 1) := by decide +kernel
theorem dX5_both_164 : decode cX5_both 164 = .ok (.ireturn, 1) := by decide +kernel
theorem dX5_both_165 : decode cX5_both 165 = .ok (.iload_n 2, 1) := by decide +kernel
theorem dX5_both_166 : decode cX5_both 166 = .ok (.ifCond .ne 7, 3) := by decide +kernel
theorem dX5_both_169 : decode cX5_both 169 = .ok (.iconst 0, 1) := by decide +kernel
theorem dX5_both_170 : decode cX5_both 170 = .ok (.goto 6, 3) := by decide +kernel
theorem dX5_both_173 : decode cX5_both 173 = .ok (.iload_n 1, 1) := by decide +kernel
theorem dX5_both_174 : decode cX5_both 174 = .ok (.iload_n 2, 1) := by decide +kernel
theorem dX5_both_175 : decode cX5_both 175 = .ok (.idiv, 1) := by decide +kernel
theorem dX5_both_176 : decode cX5_both 176 = .ok (.ireturn, 1) := by decide +kernel
theorem dX5_both_177 : decode cX5_both 177 = .ok (.iload_n 2, 1) := by decide +kernel
theorem dX5_both_178 : decode cX5_both 178 = .ok (.ifCond .ne 7, 3) := by decide +kernel
theorem dX5_both_181 : decode cX5_both 181 = .ok (.iconst 0, 1) := by decide +kernel
theorem dX5_both_182 : decode cX5_both 182 = .ok (.goto 6, 3) := by decide +kernel
theorem dX5_both_185 : decode cX5_both 185 = .ok (.iload_n 1, 1) := by decide +kernel
theorem dX5_both_186 : decode cX5_both 186 = .ok (.iload_n 2, 1) := by decide +kernel
theorem dX5_both_187 : decode cX5_both 187 = .ok (.irem, 1) := by decide +kernel
theorem dX5_both_188 : decode cX5_both 188 = .ok (.ireturn, 1) := by decide +kernel
theorem dX5_both_189 : decode cX5_both 189 = .ok (.iconst 0, 1) := by decide +kernel
theorem dX5_both_190 : decode cX5_both 190 = .ok (.ireturn, 1) := by decide +kernel
theorem dX6_init_0 : decode cX6_init 0 = .ok (.aload_n 0, 1) := by decide +kernel
theorem dX6_init_1 : decode cX6_init 1 = .ok (.invokespecial 3, 3) := by decide +kernel
theorem dX6_init_4 : decode cX6_init 4 = .ok (.aload_n 0, 1) := by decide +kernel
theorem dX6_init_5 : decode cX6_init 5 = .ok (.bipush 60, 2) := by decide +kernel
theorem dX6_init_7 : decode cX6_init 7 = .ok (.newarray .long, 2) := by decide +kernel
theorem dX6_init_9 : decode cX6_init 9 = .ok (.putfield 9, 3) := by decide +kernel
theorem dX6_init_12 : decode cX6_init 12 = .ok (.aload_n 0, 1) := by decide +kernel
theorem dX6_init_13 : decode cX6_init 13 = .ok (.iconst 0, 1) := by decide +kernel
theorem dX6_init_14 : decode cX6_init 14 = .ok (.putfield 15, 3) := by decide +kernel
theorem dX6_init_17 : decode cX6_init 17 = .ok (.return_, 1) := by decide +kernel
theorem dX6_holdNothing_0 : decode cX6_holdNothing 0 = .ok (.aload_n 0, 1) := by decide +kernel
theorem dX6_holdNothing_1 : decode cX6_holdNothing 1 = .ok (.iconst 0, 1) := by decide +kernel
theorem dX6_holdNothing_2 : decode cX6_holdNothing 2 = .ok (.putfield 15, 3) := by decide +kernel
theorem dX6_holdNothing_5 : decode cX6_holdNothing 5 = .ok (.return_, 1) := by decide +kernel
theorem dX6_holdBody_0 : decode cX6_holdBody 0 = .ok (.aload_n 0, 1) := by decide +kernel
theorem dX6_holdBody_1 : decode cX6_holdBody 1 = .ok (.iconst 1, 1) := by decide +kernel
theorem dX6_holdBody_2 : decode cX6_holdBody 2 = .ok (.putfield 15, 3) := by decide +kernel
theorem dX6_holdBody_5 : decode cX6_holdBody 5 = .ok (.aload_n 0, 1) := by decide +kernel
theorem dX6_holdBody_6 : decode cX6_holdBody 6 = .ok (.iload_n 1, 1) := by decide +kernel
theorem dX6_holdBody_7 : decode cX6_holdBody 7 = .ok (.putfield 19, 3) := by decide +kernel
theorem dX6_holdBody_10 : decode cX6_holdBody 10 = .ok (.return_, 1) := by decide +kernel
set_option maxRecDepth 20000 in
theorem ggX6_holdRow_J7_fill_d0a16 : GoodIn wsX6_holdRow wsJ7_fill_d0a16 := goodIn_r _ [12] (by decide +kernel) (by decide +kernel)
set_option maxRecDepth 20000 in
theorem gX6_holdRow_J7_fill_d0a16 : GoodIn wsX6_holdRow (va_wsS RX6 34 yJ7_fill_d0a16 wsJ7_fill_d0a16) := goodIn_app (goodIn_of _ (by decide +kernel)) ggX6_holdRow_J7_fill_d0a16
