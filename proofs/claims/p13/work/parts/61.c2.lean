/-! ===== checks of the tables, piece 2 (printed by program) ===== -/
theorem kb_X6_seeAgain : pwB prog mX6_seeAgain = true := by decide +kernel
theorem kl_X6_seeAgain : plnks prog mX6_seeAgain = ([166, 551, 552, 168, 632, 633, 439, 75, 440, 168, 168, 634, 168, 168, 168, 166, 196, 196] : List Nat).filterMap (nthT lw_tbl) := by decide +kernel
theorem km_X6_seeAgain : pmw mX6_seeAgain = [631, 630, 3, 68].filterMap (nthT lw_tbl) := by decide +kernel
theorem ku_X6_seeAgain : (plnks prog mX6_seeAgain ++ pmw mX6_seeAgain).all uword = true := by decide +kernel
theorem ok_X6_seeAgain : WFm prog mX6_seeAgain := WFm.of2 kb_X6_seeAgain kl_X6_seeAgain km_X6_seeAgain ku_X6_seeAgain
theorem kb_X6_gainOf : pwB prog mX6_gainOf = true := by decide +kernel
theorem kl_X6_gainOf : plnks prog mX6_gainOf = ([394, 435, 444] : List Nat).filterMap (nthT lw_tbl) := by decide +kernel
theorem km_X6_gainOf : pmw mX6_gainOf = [393, 391, 392, 68].filterMap (nthT lw_tbl) := by decide +kernel
theorem ku_X6_gainOf : (plnks prog mX6_gainOf ++ pmw mX6_gainOf).all uword = true := by decide +kernel
theorem ok_X6_gainOf : WFm prog mX6_gainOf := WFm.of2 kb_X6_gainOf kl_X6_gainOf km_X6_gainOf ku_X6_gainOf
theorem kb_X6_given : pwB prog mX6_given = true := by decide +kernel
theorem kl_X6_given : plnks prog mX6_given = ([398, 402, 184, 410] : List Nat).filterMap (nthT lw_tbl) := by decide +kernel
theorem km_X6_given : pmw mX6_given = [397, 395, 396, 68].filterMap (nthT lw_tbl) := by decide +kernel
theorem ku_X6_given : (plnks prog mX6_given ++ pmw mX6_given).all uword = true := by decide +kernel
theorem ok_X6_given : WFm prog mX6_given := WFm.of2 kb_X6_given kl_X6_given km_X6_given ku_X6_given
theorem kb_X6_textFor : pwB prog mX6_textFor = true := by decide +kernel
theorem kl_X6_textFor : plnks prog mX6_textFor = ([188, 188, 147] : List Nat).filterMap (nthT lw_tbl) := by decide +kernel
theorem km_X6_textFor : pmw mX6_textFor = [401, 399, 400, 68].filterMap (nthT lw_tbl) := by decide +kernel
theorem ku_X6_textFor : (plnks prog mX6_textFor ++ pmw mX6_textFor).all uword = true := by decide +kernel
theorem ok_X6_textFor : WFm prog mX6_textFor := WFm.of2 kb_X6_textFor kl_X6_textFor km_X6_textFor ku_X6_textFor
theorem kb_X6_lawAt : pwB prog mX6_lawAt = true := by decide +kernel
theorem kl_X6_lawAt : plnks prog mX6_lawAt = ([191, 184, 406] : List Nat).filterMap (nthT lw_tbl) := by decide +kernel
theorem km_X6_lawAt : pmw mX6_lawAt = [405, 403, 404, 68].filterMap (nthT lw_tbl) := by decide +kernel
theorem ku_X6_lawAt : (plnks prog mX6_lawAt ++ pmw mX6_lawAt).all uword = true := by decide +kernel
theorem ok_X6_lawAt : WFm prog mX6_lawAt := WFm.of2 kb_X6_lawAt kl_X6_lawAt km_X6_lawAt ku_X6_lawAt
theorem kb_X6_addText : pwB prog mX6_addText = true := by decide +kernel
theorem kl_X6_addText : plnks prog mX6_addText = ([184, 191, 406, 184, 126, 109, 188, 933, 184, 126, 934, 188, 191, 191, 191, 191] : List Nat).filterMap (nthT lw_tbl) := by decide +kernel
theorem km_X6_addText : pmw mX6_addText = [932, 930, 931, 68].filterMap (nthT lw_tbl) := by decide +kernel
theorem ku_X6_addText : (plnks prog mX6_addText ++ pmw mX6_addText).all uword = true := by decide +kernel
theorem ok_X6_addText : WFm prog mX6_addText := WFm.of2 kb_X6_addText kl_X6_addText km_X6_addText ku_X6_addText
theorem kb_X7_init : pwB prog mX7_init = true := by decide +kernel
theorem kl_X7_init : plnks prog mX7_init = ([88, 89, 90, 91, 92, 66, 93, 310, 139, 140, 68, 310, 141, 311, 139, 140, 68, 310, 141, 312, 139, 140, 68, 310, 141, 313, 222, 223, 71, 224, 314, 263, 264, 315, 265, 266, 316, 123, 317, 315, 315, 263, 267, 72, 268, 316, 316, 265, 285, 73, 286] : List Nat).filterMap (nthT lw_tbl) := by decide +kernel
theorem km_X7_init : pmw mX7_init = [87, 86, 65].filterMap (nthT lw_tbl) := by decide +kernel
theorem ku_X7_init : (plnks prog mX7_init ++ pmw mX7_init).all uword = true := by decide +kernel
theorem ok_X7_init : WFm prog mX7_init := WFm.of2 kb_X7_init kl_X7_init km_X7_init ku_X7_init
theorem kb_X7_rubbing : pwB prog mX7_rubbing = true := by decide +kernel
theorem kl_X7_rubbing : plnks prog mX7_rubbing = ([345, 351, 348, 348, 352, 311, 353, 311, 357, 369] : List Nat).filterMap (nthT lw_tbl) := by decide +kernel
theorem km_X7_rubbing : pmw mX7_rubbing = [344, 342, 343, 65].filterMap (nthT lw_tbl) := by decide +kernel
theorem ku_X7_rubbing : (plnks prog mX7_rubbing ++ pmw mX7_rubbing).all uword = true := by decide +kernel
theorem ok_X7_rubbing : WFm prog mX7_rubbing := WFm.of2 kb_X7_rubbing kl_X7_rubbing km_X7_rubbing ku_X7_rubbing
theorem kb_X7_told : pwB prog mX7_told = true := by decide +kernel
theorem kl_X7_told : plnks prog mX7_told = ([311, 374, 352, 157, 375, 311, 390, 448, 452, 456, 459, 352] : List Nat).filterMap (nthT lw_tbl) := by decide +kernel
theorem km_X7_told : pmw mX7_told = [373, 371, 372, 65].filterMap (nthT lw_tbl) := by decide +kernel
theorem ku_X7_told : (plnks prog mX7_told ++ pmw mX7_told).all uword = true := by decide +kernel
theorem ok_X7_told : WFm prog mX7_told := WFm.of2 kb_X7_told kl_X7_told km_X7_told ku_X7_told
theorem kb_X7_says : pwB prog mX7_says = true := by decide +kernel
theorem kl_X7_says : plnks prog mX7_says = ([311, 374, 160, 348, 467, 352] : List Nat).filterMap (nthT lw_tbl) := by decide +kernel
theorem km_X7_says : pmw mX7_says = [466, 464, 465, 65].filterMap (nthT lw_tbl) := by decide +kernel
theorem ku_X7_says : (plnks prog mX7_says ++ pmw mX7_says).all uword = true := by decide +kernel
theorem ok_X7_says : WFm prog mX7_says := WFm.of2 kb_X7_says kl_X7_says km_X7_says ku_X7_says
theorem kb_X7_as : pwB prog mX7_as = true := by decide +kernel
theorem kl_X7_as : plnks prog mX7_as = ([311, 374, 345, 352, 487, 160, 493] : List Nat).filterMap (nthT lw_tbl) := by decide +kernel
theorem km_X7_as : pmw mX7_as = [486, 484, 485, 65].filterMap (nthT lw_tbl) := by decide +kernel
theorem ku_X7_as : (plnks prog mX7_as ++ pmw mX7_as).all uword = true := by decide +kernel
theorem ok_X7_as : WFm prog mX7_as := WFm.of2 kb_X7_as kl_X7_as km_X7_as ku_X7_as
theorem kb_X7_turns : pwB prog mX7_turns = true := by decide +kernel
theorem kl_X7_turns : plnks prog mX7_turns = ([311, 374, 345, 352, 157, 157] : List Nat).filterMap (nthT lw_tbl) := by decide +kernel
theorem km_X7_turns : pmw mX7_turns = [497, 495, 496, 65].filterMap (nthT lw_tbl) := by decide +kernel
theorem ku_X7_turns : (plnks prog mX7_turns ++ pmw mX7_turns).all uword = true := by decide +kernel
theorem ok_X7_turns : WFm prog mX7_turns := WFm.of2 kb_X7_turns kl_X7_turns km_X7_turns ku_X7_turns
theorem kb_X7_set : pwB prog mX7_set = true := by decide +kernel
theorem kl_X7_set : plnks prog mX7_set = ([311, 374, 456, 502, 505, 348, 352, 459, 508] : List Nat).filterMap (nthT lw_tbl) := by decide +kernel
theorem km_X7_set : pmw mX7_set = [501, 499, 500, 65].filterMap (nthT lw_tbl) := by decide +kernel
theorem ku_X7_set : (plnks prog mX7_set ++ pmw mX7_set).all uword = true := by decide +kernel
theorem ok_X7_set : WFm prog mX7_set := WFm.of2 kb_X7_set kl_X7_set km_X7_set ku_X7_set
theorem kb_X7_carve : pwB prog mX7_carve = true := by decide +kernel
theorem kl_X7_carve : plnks prog mX7_carve = ([516, 348, 352, 311, 517, 311, 521] : List Nat).filterMap (nthT lw_tbl) := by decide +kernel
theorem km_X7_carve : pmw mX7_carve = [515, 513, 514, 65].filterMap (nthT lw_tbl) := by decide +kernel
theorem ku_X7_carve : (plnks prog mX7_carve ++ pmw mX7_carve).all uword = true := by decide +kernel
theorem ok_X7_carve : WFm prog mX7_carve := WFm.of2 kb_X7_carve kl_X7_carve km_X7_carve ku_X7_carve
theorem kb_X7_carved : pwB prog mX7_carved = true := by decide +kernel
theorem kl_X7_carved : plnks prog mX7_carved = ([516, 311, 517, 352] : List Nat).filterMap (nthT lw_tbl) := by decide +kernel
theorem km_X7_carved : pmw mX7_carved = [528, 526, 527, 65].filterMap (nthT lw_tbl) := by decide +kernel
theorem ku_X7_carved : (plnks prog mX7_carved ++ pmw mX7_carved).all uword = true := by decide +kernel
theorem ok_X7_carved : WFm prog mX7_carved := WFm.of2 kb_X7_carved kl_X7_carved km_X7_carved ku_X7_carved
theorem kb_X7_deal : pwB prog mX7_deal = true := by decide +kernel
theorem kl_X7_deal : plnks prog mX7_deal = ([348, 352, 311, 353, 311, 533, 311, 533, 538, 311, 533, 311, 357] : List Nat).filterMap (nthT lw_tbl) := by decide +kernel
theorem km_X7_deal : pmw mX7_deal = [532, 530, 531, 65].filterMap (nthT lw_tbl) := by decide +kernel
theorem ku_X7_deal : (plnks prog mX7_deal ++ pmw mX7_deal).all uword = true := by decide +kernel
theorem ok_X7_deal : WFm prog mX7_deal := WFm.of2 kb_X7_deal kl_X7_deal km_X7_deal ku_X7_deal
theorem kb_X7_seed : pwB prog mX7_seed = true := by decide +kernel
theorem kl_X7_seed : plnks prog mX7_seed = ([311, 200, 311, 200] : List Nat).filterMap (nthT lw_tbl) := by decide +kernel
theorem km_X7_seed : pmw mX7_seed = [542, 540, 541, 65].filterMap (nthT lw_tbl) := by decide +kernel
theorem ku_X7_seed : (plnks prog mX7_seed ++ pmw mX7_seed).all uword = true := by decide +kernel
theorem ok_X7_seed : WFm prog mX7_seed := WFm.of2 kb_X7_seed kl_X7_seed km_X7_seed ku_X7_seed
theorem kb_X7_falseAt : pwB prog mX7_falseAt = true := by decide +kernel
theorem kl_X7_falseAt : plnks prog mX7_falseAt = ([311, 374, 516, 311, 547, 352] : List Nat).filterMap (nthT lw_tbl) := by decide +kernel
theorem km_X7_falseAt : pmw mX7_falseAt = [546, 544, 545, 65].filterMap (nthT lw_tbl) := by decide +kernel
theorem ku_X7_falseAt : (plnks prog mX7_falseAt ++ pmw mX7_falseAt).all uword = true := by decide +kernel
theorem ok_X7_falseAt : WFm prog mX7_falseAt := WFm.of2 kb_X7_falseAt kl_X7_falseAt km_X7_falseAt ku_X7_falseAt
theorem kb_X7_fits : pwB prog mX7_fits = true := by decide +kernel
theorem kl_X7_fits : plnks prog mX7_fits = ([311, 374, 348, 352, 311, 547, 160, 311, 547] : List Nat).filterMap (nthT lw_tbl) := by decide +kernel
theorem km_X7_fits : pmw mX7_fits = [556, 554, 555, 65].filterMap (nthT lw_tbl) := by decide +kernel
theorem ku_X7_fits : (plnks prog mX7_fits ++ pmw mX7_fits).all uword = true := by decide +kernel
theorem ok_X7_fits : WFm prog mX7_fits := WFm.of2 kb_X7_fits kl_X7_fits km_X7_fits ku_X7_fits
theorem kb_X7_join : pwB prog mX7_join = true := by decide +kernel
theorem kl_X7_join : plnks prog mX7_join = ([311, 374, 311, 374, 348, 352, 561, 160, 561] : List Nat).filterMap (nthT lw_tbl) := by decide +kernel
theorem km_X7_join : pmw mX7_join = [560, 558, 559, 65].filterMap (nthT lw_tbl) := by decide +kernel
theorem ku_X7_join : (plnks prog mX7_join ++ pmw mX7_join).all uword = true := by decide +kernel
theorem ok_X7_join : WFm prog mX7_join := WFm.of2 kb_X7_join kl_X7_join km_X7_join ku_X7_join
theorem kb_X7_clash : pwB prog mX7_clash = true := by decide +kernel
theorem kl_X7_clash : plnks prog mX7_clash = ([311, 374, 311, 374, 352, 570] : List Nat).filterMap (nthT lw_tbl) := by decide +kernel
theorem km_X7_clash : pmw mX7_clash = [569, 567, 568, 65].filterMap (nthT lw_tbl) := by decide +kernel
theorem ku_X7_clash : (plnks prog mX7_clash ++ pmw mX7_clash).all uword = true := by decide +kernel
theorem ok_X7_clash : WFm prog mX7_clash := WFm.of2 kb_X7_clash kl_X7_clash km_X7_clash ku_X7_clash
theorem kb_X7_undone : pwB prog mX7_undone = true := by decide +kernel
theorem kl_X7_undone : plnks prog mX7_undone = ([311, 578, 311, 583, 588, 311, 597] : List Nat).filterMap (nthT lw_tbl) := by decide +kernel
theorem km_X7_undone : pmw mX7_undone = [577, 575, 576, 65].filterMap (nthT lw_tbl) := by decide +kernel
theorem ku_X7_undone : (plnks prog mX7_undone ++ pmw mX7_undone).all uword = true := by decide +kernel
theorem ok_X7_undone : WFm prog mX7_undone := WFm.of2 kb_X7_undone kl_X7_undone km_X7_undone ku_X7_undone
theorem kb_X7_borne : pwB prog mX7_borne = true := by decide +kernel
theorem kl_X7_borne : plnks prog mX7_borne = ([311, 583, 311, 605, 588, 311, 605] : List Nat).filterMap (nthT lw_tbl) := by decide +kernel
theorem km_X7_borne : pmw mX7_borne = [604, 602, 603, 65].filterMap (nthT lw_tbl) := by decide +kernel
theorem ku_X7_borne : (plnks prog mX7_borne ++ pmw mX7_borne).all uword = true := by decide +kernel
theorem ok_X7_borne : WFm prog mX7_borne := WFm.of2 kb_X7_borne kl_X7_borne km_X7_borne ku_X7_borne
theorem kb_X7_look : pwB prog mX7_look = true := by decide +kernel
theorem kl_X7_look : plnks prog mX7_look = ([348, 352, 311, 614, 311, 614] : List Nat).filterMap (nthT lw_tbl) := by decide +kernel
theorem km_X7_look : pmw mX7_look = [613, 611, 612, 65].filterMap (nthT lw_tbl) := by decide +kernel
theorem ku_X7_look : (plnks prog mX7_look ++ pmw mX7_look).all uword = true := by decide +kernel
theorem ok_X7_look : WFm prog mX7_look := WFm.of2 kb_X7_look kl_X7_look km_X7_look ku_X7_look
theorem kb_X7_tides : pwB prog mX7_tides = true := by decide +kernel
theorem kl_X7_tides : plnks prog mX7_tides = ([348, 352, 311, 198, 311, 311, 195, 438, 439, 75, 440, 623, 311, 198] : List Nat).filterMap (nthT lw_tbl) := by decide +kernel
theorem km_X7_tides : pmw mX7_tides = [622, 620, 621, 65].filterMap (nthT lw_tbl) := by decide +kernel
theorem ku_X7_tides : (plnks prog mX7_tides ++ pmw mX7_tides).all uword = true := by decide +kernel
theorem ok_X7_tides : WFm prog mX7_tides := WFm.of2 kb_X7_tides kl_X7_tides km_X7_tides ku_X7_tides
theorem kb_X7_book : pwB prog mX7_book = true := by decide +kernel
theorem kl_X7_book : plnks prog mX7_book = ([311, 198, 311, 639, 311, 583, 311, 647, 352] : List Nat).filterMap (nthT lw_tbl) := by decide +kernel
theorem km_X7_book : pmw mX7_book = [638, 636, 637, 65].filterMap (nthT lw_tbl) := by decide +kernel
theorem ku_X7_book : (plnks prog mX7_book ++ pmw mX7_book).all uword = true := by decide +kernel
theorem ok_X7_book : WFm prog mX7_book := WFm.of2 kb_X7_book kl_X7_book km_X7_book ku_X7_book
theorem kb_X7_behind : pwB prog mX7_behind = true := by decide +kernel
theorem kl_X7_behind : plnks prog mX7_behind = ([348, 311, 190, 348, 352, 313, 311, 658, 313, 623, 313, 639, 313, 583, 313, 198, 313, 669] : List Nat).filterMap (nthT lw_tbl) := by decide +kernel
theorem km_X7_behind : pmw mX7_behind = [657, 655, 656, 65].filterMap (nthT lw_tbl) := by decide +kernel
theorem ku_X7_behind : (plnks prog mX7_behind ++ pmw mX7_behind).all uword = true := by decide +kernel
theorem ok_X7_behind : WFm prog mX7_behind := WFm.of2 kb_X7_behind kl_X7_behind km_X7_behind ku_X7_behind
theorem kb_X7_lasts : pwB prog mX7_lasts = true := by decide +kernel
theorem kl_X7_lasts : plnks prog mX7_lasts = ([313, 311, 658, 313, 583, 313, 623, 674] : List Nat).filterMap (nthT lw_tbl) := by decide +kernel
theorem km_X7_lasts : pmw mX7_lasts = [673, 671, 672, 65].filterMap (nthT lw_tbl) := by decide +kernel
theorem ku_X7_lasts : (plnks prog mX7_lasts ++ pmw mX7_lasts).all uword = true := by decide +kernel
theorem ok_X7_lasts : WFm prog mX7_lasts := WFm.of2 kb_X7_lasts kl_X7_lasts km_X7_lasts ku_X7_lasts
theorem kb_X7_best : pwB prog mX7_best = true := by decide +kernel
theorem kl_X7_best : plnks prog mX7_best = ([311, 374, 348, 348, 352, 313, 311, 658, 313, 679, 313, 623, 313, 669] : List Nat).filterMap (nthT lw_tbl) := by decide +kernel
theorem km_X7_best : pmw mX7_best = [678, 676, 677, 65].filterMap (nthT lw_tbl) := by decide +kernel
theorem ku_X7_best : (plnks prog mX7_best ++ pmw mX7_best).all uword = true := by decide +kernel
theorem ok_X7_best : WFm prog mX7_best := WFm.of2 kb_X7_best kl_X7_best km_X7_best ku_X7_best
theorem kb_X7_taught : pwB prog mX7_taught = true := by decide +kernel
theorem kl_X7_taught : plnks prog mX7_taught = ([348, 348, 352, 313, 311, 658, 313, 311, 517, 521, 313, 623, 313, 639] : List Nat).filterMap (nthT lw_tbl) := by decide +kernel
theorem km_X7_taught : pmw mX7_taught = [686, 684, 685, 65].filterMap (nthT lw_tbl) := by decide +kernel
theorem ku_X7_taught : (plnks prog mX7_taught ++ pmw mX7_taught).all uword = true := by decide +kernel
theorem ok_X7_taught : WFm prog mX7_taught := WFm.of2 kb_X7_taught kl_X7_taught km_X7_taught ku_X7_taught
