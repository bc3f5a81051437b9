set_option maxRecDepth 100000 in
theorem mw_0 : (.methodLink RX7 103 yX7_isPlace : Cond) ∈ wsL_law := by decide +kernel
set_option maxRecDepth 100000 in
theorem mw_1 : (.static yX7_isPlace : Cond) ∈ wsL_law := by decide +kernel
set_option maxRecDepth 100000 in
theorem mw_2 : (.initialized RX7 : Cond) ∈ wsL_law := by decide +kernel
set_option maxRecDepth 100000 in
theorem mw_3 : (.code yX7_isPlace cX7_isPlace 3 (some .boolean) : Cond) ∈ wsL_law := by decide +kernel
set_option maxRecDepth 100000 in
theorem mw_4 : (.methodLink RX7 67 yX7_levelOf : Cond) ∈ wsL_law := by decide +kernel
set_option maxRecDepth 100000 in
theorem mw_5 : (.static yX7_levelOf : Cond) ∈ wsL_law := by decide +kernel
set_option maxRecDepth 100000 in
theorem mw_6 : (.code yX7_levelOf cX7_levelOf 1 (some .int) : Cond) ∈ wsL_law := by decide +kernel
set_option maxRecDepth 100000 in
theorem mw_7 : (.methodLink RX7 64 yX7_yOf : Cond) ∈ wsL_law := by decide +kernel
set_option maxRecDepth 100000 in
theorem mw_8 : (.static yX7_yOf : Cond) ∈ wsL_law := by decide +kernel
set_option maxRecDepth 100000 in
theorem mw_9 : (.code yX7_yOf cX7_yOf 1 (some .int) : Cond) ∈ wsL_law := by decide +kernel
set_option maxRecDepth 100000 in
theorem mw_10 : (.methodLink RX7 60 yX7_xOf : Cond) ∈ wsL_law := by decide +kernel
set_option maxRecDepth 100000 in
theorem mw_11 : (.static yX7_xOf : Cond) ∈ wsL_law := by decide +kernel
set_option maxRecDepth 100000 in
theorem mw_12 : (.code yX7_xOf cX7_xOf 1 (some .int) : Cond) ∈ wsL_law := by decide +kernel
set_option maxRecDepth 100000 in
theorem mw_13 : (.fieldLink RX0 7 "GroundKeeper$Area" "level" "I" : Cond) ∈ wsL_law := by decide +kernel
set_option maxRecDepth 100000 in
theorem mw_14 : (.fieldLink RX0 19 "GroundKeeper$Area" "x0" "I" : Cond) ∈ wsL_law := by decide +kernel
set_option maxRecDepth 100000 in
theorem mw_15 : (.fieldLink RX0 22 "GroundKeeper$Area" "y0" "I" : Cond) ∈ wsL_law := by decide +kernel
set_option maxRecDepth 100000 in
theorem mw_16 : (.fieldLink RX0 28 "GroundKeeper$Area" "x1" "I" : Cond) ∈ wsL_law := by decide +kernel
set_option maxRecDepth 100000 in
theorem mw_17 : (.fieldLink RX0 31 "GroundKeeper$Area" "y1" "I" : Cond) ∈ wsL_law := by decide +kernel
set_option maxRecDepth 100000 in
theorem mw_18 : (.static yX7_placeAt : Cond) ∈ wsL_law := by decide +kernel
set_option maxRecDepth 100000 in
theorem mw_19 : (.methodLink RX0 13 Lib.Math.min.name : Cond) ∈ wsL_law := by decide +kernel
set_option maxRecDepth 100000 in
theorem mw_20 : (.static Lib.Math.min.name : Cond) ∈ wsL_law := by decide +kernel
set_option maxRecDepth 100000 in
theorem mw_21 : (.initialized "java/lang/Math" : Cond) ∈ wsL_law := by decide +kernel
set_option maxRecDepth 100000 in
theorem mw_22 : (.code Lib.Math.min.name Lib.Math.min.code 2 (some .int) : Cond) ∈ wsL_law := by decide +kernel
set_option maxRecDepth 100000 in
theorem mw_23 : (.methodLink RX0 25 Lib.Math.max.name : Cond) ∈ wsL_law := by decide +kernel
set_option maxRecDepth 100000 in
theorem mw_24 : (.static Lib.Math.max.name : Cond) ∈ wsL_law := by decide +kernel
set_option maxRecDepth 100000 in
theorem mw_25 : (.code Lib.Math.max.name Lib.Math.max.code 2 (some .int) : Cond) ∈ wsL_law := by decide +kernel
set_option maxRecDepth 100000 in
theorem mw_26 : (.fieldLink RX1 11 "GroundKeeper$Areas" "all" "[LGroundKeeper$Area;" : Cond) ∈ wsL_law := by decide +kernel
set_option maxRecDepth 100000 in
theorem mw_27 : (.fieldLink RX1 26 "GroundKeeper$Area" "on" "Z" : Cond) ∈ wsL_law := by decide +kernel
set_option maxRecDepth 100000 in
theorem mw_28 : (.fieldLink RX1 18 "GroundKeeper$Areas" "size" "I" : Cond) ∈ wsL_law := by decide +kernel
set_option maxRecDepth 100000 in
theorem mw_29 : (.code yX7_placeAt cX7_placeAt 3 (some .int) : Cond) ∈ wsL_law := by decide +kernel
set_option maxRecDepth 100000 in
theorem mw_30 : (.methodLink RX1 22 yX0_lay : Cond) ∈ wsL_law := by decide +kernel
set_option maxRecDepth 100000 in
theorem mw_31 : (.instanceMethod yX0_lay : Cond) ∈ wsL_law := by decide +kernel
set_option maxRecDepth 100000 in
theorem mw_32 : (.selects RX0 yX0_lay yX0_lay : Cond) ∈ wsL_law := by decide +kernel
set_option maxRecDepth 100000 in
theorem mw_33 : (.initialized RX0 : Cond) ∈ wsL_law := by decide +kernel
set_option maxRecDepth 100000 in
theorem mw_34 : (.code yX0_lay cX0_lay 6 none : Cond) ∈ wsL_law := by decide +kernel
set_option maxRecDepth 100000 in
theorem mw_35 : (.fieldLink RX4 13 "GroundKeeper$Leg" "level" "I" : Cond) ∈ wsL_law := by decide +kernel
set_option maxRecDepth 100000 in
theorem mw_36 : (.fieldLink RX4 22 "GroundKeeper$Leg" "ax" "I" : Cond) ∈ wsL_law := by decide +kernel
set_option maxRecDepth 100000 in
theorem mw_37 : (.fieldLink RX4 28 "GroundKeeper$Leg" "ay" "I" : Cond) ∈ wsL_law := by decide +kernel
set_option maxRecDepth 100000 in
theorem mw_38 : (.fieldLink RX4 31 "GroundKeeper$Leg" "dx" "I" : Cond) ∈ wsL_law := by decide +kernel
set_option maxRecDepth 100000 in
theorem mw_39 : (.fieldLink RX4 34 "GroundKeeper$Leg" "dy" "I" : Cond) ∈ wsL_law := by decide +kernel
set_option maxRecDepth 100000 in
theorem mw_40 : (.fieldLink RX4 46 "GroundKeeper$Leg" "whole" "I" : Cond) ∈ wsL_law := by decide +kernel
set_option maxRecDepth 100000 in
theorem mw_41 : (.fieldLink RX4 49 "GroundKeeper$Leg" "partsPerX" "I" : Cond) ∈ wsL_law := by decide +kernel
set_option maxRecDepth 100000 in
theorem mw_42 : (.fieldLink RX4 52 "GroundKeeper$Leg" "partsPerY" "I" : Cond) ∈ wsL_law := by decide +kernel
set_option maxRecDepth 100000 in
theorem mw_43 : (.methodLink RX4 37 Lib.Math.abs.name : Cond) ∈ wsL_law := by decide +kernel
set_option maxRecDepth 100000 in
theorem mw_44 : (.static Lib.Math.abs.name : Cond) ∈ wsL_law := by decide +kernel
set_option maxRecDepth 100000 in
theorem mw_45 : (.code Lib.Math.abs.name Lib.Math.abs.code 1 (some .int) : Cond) ∈ wsL_law := by decide +kernel
set_option maxRecDepth 100000 in
theorem mw_46 : (.methodLink RX4 42 Lib.Math.max.name : Cond) ∈ wsL_law := by decide +kernel
set_option maxRecDepth 100000 in
theorem mw_47 : (.fieldLink RX4 55 "GroundKeeper$Area" "level" "I" : Cond) ∈ wsL_law := by decide +kernel
set_option maxRecDepth 100000 in
theorem mw_48 : (.fieldLink RX4 58 "GroundKeeper$Area" "x0" "I" : Cond) ∈ wsL_law := by decide +kernel
set_option maxRecDepth 100000 in
theorem mw_49 : (.fieldLink RX4 61 "GroundKeeper$Area" "x1" "I" : Cond) ∈ wsL_law := by decide +kernel
set_option maxRecDepth 100000 in
theorem mw_50 : (.fieldLink RX4 64 "GroundKeeper$Area" "y0" "I" : Cond) ∈ wsL_law := by decide +kernel
set_option maxRecDepth 100000 in
theorem mw_51 : (.fieldLink RX4 67 "GroundKeeper$Area" "y1" "I" : Cond) ∈ wsL_law := by decide +kernel
set_option maxRecDepth 100000 in
theorem mw_52 : (.fieldLink RX4 70 "GroundKeeper$Leg" "lo" "I" : Cond) ∈ wsL_law := by decide +kernel
set_option maxRecDepth 100000 in
theorem mw_53 : (.fieldLink RX4 73 "GroundKeeper$Leg" "hi" "I" : Cond) ∈ wsL_law := by decide +kernel
set_option maxRecDepth 100000 in
theorem mw_54 : (.fieldLink RX4 76 "GroundKeeper$Area" "on" "Z" : Cond) ∈ wsL_law := by decide +kernel
set_option maxRecDepth 100000 in
theorem mw_55 : (.fieldLink RX3 29 "GroundKeeper$Ground" "ladderFrom" "[I" : Cond) ∈ wsL_law := by decide +kernel
set_option maxRecDepth 100000 in
theorem mw_56 : (.fieldLink RX3 33 "GroundKeeper$Ground" "ladderTo" "[I" : Cond) ∈ wsL_law := by decide +kernel
set_option maxRecDepth 100000 in
theorem mw_57 : (.fieldLink RX3 36 "GroundKeeper$Ground" "ladderCost" "[I" : Cond) ∈ wsL_law := by decide +kernel
set_option maxRecDepth 100000 in
theorem mw_58 : (.fieldLink RX3 46 "GroundKeeper$Ground" "ladderSize" "I" : Cond) ∈ wsL_law := by decide +kernel
set_option maxRecDepth 100000 in
theorem mw_59 : (.fieldLink RX3 14 "GroundKeeper$Ground" "rooms" "LGroundKeeper$Areas;" : Cond) ∈ wsL_law := by decide +kernel
set_option maxRecDepth 100000 in
theorem mw_60 : (.fieldLink RX3 20 "GroundKeeper$Ground" "boxes" "LGroundKeeper$Areas;" : Cond) ∈ wsL_law := by decide +kernel
set_option maxRecDepth 100000 in
theorem mw_61 : (.fieldLink RX3 60 "GroundKeeper$Areas" "all" "[LGroundKeeper$Area;" : Cond) ∈ wsL_law := by decide +kernel
set_option maxRecDepth 100000 in
theorem mw_62 : (.fieldLink RX3 64 "GroundKeeper$Area" "on" "Z" : Cond) ∈ wsL_law := by decide +kernel
set_option maxRecDepth 100000 in
theorem mw_63 : (.fieldLink RX3 74 "GroundKeeper$Areas" "size" "I" : Cond) ∈ wsL_law := by decide +kernel
set_option maxRecDepth 100000 in
theorem mw_64 : (.fieldLink RX3 23 "GroundKeeper$Ground" "doors" "LGroundKeeper$Areas;" : Cond) ∈ wsL_law := by decide +kernel
set_option maxRecDepth 100000 in
theorem mw_65 : (.constantLong RX3 84 1000000 : Cond) ∈ wsL_law := by decide +kernel
set_option maxRecDepth 100000 in
theorem mw_66 : (.static yX7_rootOf : Cond) ∈ wsL_law := by decide +kernel
set_option maxRecDepth 100000 in
theorem mw_67 : (.fieldLink RX3 42 "GroundKeeper$Ground" "leg" "LGroundKeeper$Leg;" : Cond) ∈ wsL_law := by decide +kernel
set_option maxRecDepth 100000 in
theorem mw_68 : (.fieldLink RX3 115 "GroundKeeper$Leg" "lo" "I" : Cond) ∈ wsL_law := by decide +kernel
set_option maxRecDepth 100000 in
theorem mw_69 : (.fieldLink RX3 118 "GroundKeeper$Leg" "hi" "I" : Cond) ∈ wsL_law := by decide +kernel
set_option maxRecDepth 100000 in
theorem mw_70 : (.fieldLink RX3 121 "GroundKeeper$Leg" "whole" "I" : Cond) ∈ wsL_law := by decide +kernel
set_option maxRecDepth 100000 in
theorem mw_71 : (.fieldLink RX3 26 "GroundKeeper$Ground" "ledges" "LGroundKeeper$Areas;" : Cond) ∈ wsL_law := by decide +kernel
set_option maxRecDepth 100000 in
theorem mw_72 : (.methodLink RX3 77 yX0_holds : Cond) ∈ wsL_law := by decide +kernel
set_option maxRecDepth 100000 in
theorem mw_73 : (.instanceMethod yX0_holds : Cond) ∈ wsL_law := by decide +kernel
set_option maxRecDepth 100000 in
theorem mw_74 : (.selects RX0 yX0_holds yX0_holds : Cond) ∈ wsL_law := by decide +kernel
set_option maxRecDepth 100000 in
theorem mw_75 : (.code yX0_holds cX0_holds 4 (some .boolean) : Cond) ∈ wsL_law := by decide +kernel
set_option maxRecDepth 100000 in
theorem mw_76 : (.methodLink RX3 70 yX0_encloses : Cond) ∈ wsL_law := by decide +kernel
set_option maxRecDepth 100000 in
theorem mw_77 : (.instanceMethod yX0_encloses : Cond) ∈ wsL_law := by decide +kernel
set_option maxRecDepth 100000 in
theorem mw_78 : (.selects RX0 yX0_encloses yX0_encloses : Cond) ∈ wsL_law := by decide +kernel
set_option maxRecDepth 100000 in
theorem mw_79 : (.code yX0_encloses cX0_encloses 4 (some .boolean) : Cond) ∈ wsL_law := by decide +kernel
set_option maxRecDepth 100000 in
theorem mw_80 : (.code yX7_rootOf cX7_rootOf 6 (some .int) : Cond) ∈ wsL_law := by decide +kernel
set_option maxRecDepth 100000 in
theorem mw_81 : (.methodLink RX3 80 yX3_leastLadderCost : Cond) ∈ wsL_law := by decide +kernel
set_option maxRecDepth 100000 in
theorem mw_82 : (.instanceMethod yX3_leastLadderCost : Cond) ∈ wsL_law := by decide +kernel
set_option maxRecDepth 100000 in
theorem mw_83 : (.selects RX3 yX3_leastLadderCost yX3_leastLadderCost : Cond) ∈ wsL_law := by decide +kernel
set_option maxRecDepth 100000 in
theorem mw_84 : (.initialized RX3 : Cond) ∈ wsL_law := by decide +kernel
set_option maxRecDepth 100000 in
theorem mw_85 : (.code yX3_leastLadderCost cX3_leastLadderCost 6 (some .int) : Cond) ∈ wsL_law := by decide +kernel
set_option maxRecDepth 100000 in
theorem mw_86 : (.methodLink RX3 111 yX4_meets : Cond) ∈ wsL_law := by decide +kernel
set_option maxRecDepth 100000 in
theorem mw_87 : (.instanceMethod yX4_meets : Cond) ∈ wsL_law := by decide +kernel
set_option maxRecDepth 100000 in
theorem mw_88 : (.selects RX4 yX4_meets yX4_meets : Cond) ∈ wsL_law := by decide +kernel
set_option maxRecDepth 100000 in
theorem mw_89 : (.initialized RX4 : Cond) ∈ wsL_law := by decide +kernel
set_option maxRecDepth 100000 in
theorem mw_90 : (.code yX4_meets cX4_meets 4 (some .boolean) : Cond) ∈ wsL_law := by decide +kernel
set_option maxRecDepth 100000 in
theorem mw_91 : (.methodLink RX3 124 yX4_runsInside : Cond) ∈ wsL_law := by decide +kernel
set_option maxRecDepth 100000 in
theorem mw_92 : (.instanceMethod yX4_runsInside : Cond) ∈ wsL_law := by decide +kernel
set_option maxRecDepth 100000 in
theorem mw_93 : (.selects RX4 yX4_runsInside yX4_runsInside : Cond) ∈ wsL_law := by decide +kernel
set_option maxRecDepth 100000 in
theorem mw_94 : (.code yX4_runsInside cX4_runsInside 4 (some .boolean) : Cond) ∈ wsL_law := by decide +kernel
set_option maxRecDepth 100000 in
theorem mw_95 : (.methodLink RX3 127 yX4_goesAgainst : Cond) ∈ wsL_law := by decide +kernel
set_option maxRecDepth 100000 in
theorem mw_96 : (.instanceMethod yX4_goesAgainst : Cond) ∈ wsL_law := by decide +kernel
set_option maxRecDepth 100000 in
theorem mw_97 : (.selects RX4 yX4_goesAgainst yX4_goesAgainst : Cond) ∈ wsL_law := by decide +kernel
set_option maxRecDepth 100000 in
theorem mw_98 : (.code yX4_goesAgainst cX4_goesAgainst 6 (some .boolean) : Cond) ∈ wsL_law := by decide +kernel
set_option maxRecDepth 100000 in
theorem mw_99 : (.methodLink RX3 94 yX4_lay : Cond) ∈ wsL_law := by decide +kernel
set_option maxRecDepth 100000 in
theorem mw_100 : (.instanceMethod yX4_lay : Cond) ∈ wsL_law := by decide +kernel
set_option maxRecDepth 100000 in
theorem mw_101 : (.selects RX4 yX4_lay yX4_lay : Cond) ∈ wsL_law := by decide +kernel
set_option maxRecDepth 100000 in
theorem mw_102 : (.code yX4_lay cX4_lay 5 none : Cond) ∈ wsL_law := by decide +kernel
set_option maxRecDepth 100000 in
theorem mw_103 : (.methodLink RX3 98 yX3_legIsInRooms : Cond) ∈ wsL_law := by decide +kernel
set_option maxRecDepth 100000 in
theorem mw_104 : (.instanceMethod yX3_legIsInRooms : Cond) ∈ wsL_law := by decide +kernel
set_option maxRecDepth 100000 in
theorem mw_105 : (.selects RX3 yX3_legIsInRooms yX3_legIsInRooms : Cond) ∈ wsL_law := by decide +kernel
set_option maxRecDepth 100000 in
theorem mw_106 : (.code yX3_legIsInRooms cX3_legIsInRooms 5 (some .boolean) : Cond) ∈ wsL_law := by decide +kernel
set_option maxRecDepth 100000 in
theorem mw_107 : (.methodLink RX3 102 yX3_legRunsInBox : Cond) ∈ wsL_law := by decide +kernel
set_option maxRecDepth 100000 in
theorem mw_108 : (.instanceMethod yX3_legRunsInBox : Cond) ∈ wsL_law := by decide +kernel
set_option maxRecDepth 100000 in
theorem mw_109 : (.selects RX3 yX3_legRunsInBox yX3_legRunsInBox : Cond) ∈ wsL_law := by decide +kernel
set_option maxRecDepth 100000 in
theorem mw_110 : (.code yX3_legRunsInBox cX3_legRunsInBox 3 (some .boolean) : Cond) ∈ wsL_law := by decide +kernel
set_option maxRecDepth 100000 in
theorem mw_111 : (.methodLink RX3 105 yX3_legMeetsShutDoor : Cond) ∈ wsL_law := by decide +kernel
set_option maxRecDepth 100000 in
theorem mw_112 : (.instanceMethod yX3_legMeetsShutDoor : Cond) ∈ wsL_law := by decide +kernel
set_option maxRecDepth 100000 in
theorem mw_113 : (.selects RX3 yX3_legMeetsShutDoor yX3_legMeetsShutDoor : Cond) ∈ wsL_law := by decide +kernel
set_option maxRecDepth 100000 in
theorem mw_114 : (.code yX3_legMeetsShutDoor cX3_legMeetsShutDoor 2 (some .boolean) : Cond) ∈ wsL_law := by decide +kernel
set_option maxRecDepth 100000 in
theorem mw_115 : (.methodLink RX3 108 yX3_legCrossesLedge : Cond) ∈ wsL_law := by decide +kernel
set_option maxRecDepth 100000 in
theorem mw_116 : (.instanceMethod yX3_legCrossesLedge : Cond) ∈ wsL_law := by decide +kernel
set_option maxRecDepth 100000 in
theorem mw_117 : (.selects RX3 yX3_legCrossesLedge yX3_legCrossesLedge : Cond) ∈ wsL_law := by decide +kernel
set_option maxRecDepth 100000 in
theorem mw_118 : (.code yX3_legCrossesLedge cX3_legCrossesLedge 2 (some .boolean) : Cond) ∈ wsL_law := by decide +kernel
set_option maxRecDepth 100000 in
theorem mw_119 : (.methodLink RX3 90 yX3_isGround : Cond) ∈ wsL_law := by decide +kernel
set_option maxRecDepth 100000 in
theorem mw_120 : (.instanceMethod yX3_isGround : Cond) ∈ wsL_law := by decide +kernel
set_option maxRecDepth 100000 in
theorem mw_121 : (.selects RX3 yX3_isGround yX3_isGround : Cond) ∈ wsL_law := by decide +kernel
set_option maxRecDepth 100000 in
theorem mw_122 : (.code yX3_isGround cX3_isGround 6 (some .boolean) : Cond) ∈ wsL_law := by decide +kernel
set_option maxRecDepth 100000 in
theorem mw_123 : (.fieldLink RX2 32 "GroundKeeper$Finder" "avoidedSize" "I" : Cond) ∈ wsL_law := by decide +kernel
set_option maxRecDepth 100000 in
theorem mw_124 : (.fieldLink RX2 29 "GroundKeeper$Finder" "avoided" "[I" : Cond) ∈ wsL_law := by decide +kernel
set_option maxRecDepth 100000 in
theorem mw_125 : (.fieldLink RX2 19 "GroundKeeper$Finder" "lengths" "[I" : Cond) ∈ wsL_law := by decide +kernel
set_option maxRecDepth 100000 in
theorem mw_126 : (.fieldLink RX2 51 "GroundKeeper$Finder" "roomCornersEnd" "I" : Cond) ∈ wsL_law := by decide +kernel
set_option maxRecDepth 100000 in
theorem mw_127 : (.fieldLink RX2 25 "GroundKeeper$Finder" "settled" "[Z" : Cond) ∈ wsL_law := by decide +kernel
set_option maxRecDepth 100000 in
theorem mw_128 : (.fieldLink RX2 40 "GroundKeeper$Finder" "size" "I" : Cond) ∈ wsL_law := by decide +kernel
set_option maxRecDepth 100000 in
theorem mw_129 : (.fieldLink RX2 15 "GroundKeeper$Finder" "places" "[I" : Cond) ∈ wsL_law := by decide +kernel
set_option maxRecDepth 100000 in
theorem mw_130 : (.fieldLink RX2 22 "GroundKeeper$Finder" "cameFrom" "[I" : Cond) ∈ wsL_law := by decide +kernel
set_option maxRecDepth 100000 in
theorem mw_131 : (.fieldLink RX2 9 "GroundKeeper$Finder" "ground" "LGroundKeeper$Ground;" : Cond) ∈ wsL_law := by decide +kernel
set_option maxRecDepth 100000 in
theorem mw_132 : (.fieldLink RX2 61 "GroundKeeper$Ground" "rooms" "LGroundKeeper$Areas;" : Cond) ∈ wsL_law := by decide +kernel
set_option maxRecDepth 100000 in
theorem mw_133 : (.fieldLink RX2 67 "GroundKeeper$Areas" "size" "I" : Cond) ∈ wsL_law := by decide +kernel
set_option maxRecDepth 100000 in
theorem mw_134 : (.fieldLink RX2 70 "GroundKeeper$Areas" "all" "[LGroundKeeper$Area;" : Cond) ∈ wsL_law := by decide +kernel
set_option maxRecDepth 100000 in
theorem mw_135 : (.fieldLink RX2 83 "GroundKeeper$Ground" "boxes" "LGroundKeeper$Areas;" : Cond) ∈ wsL_law := by decide +kernel
set_option maxRecDepth 100000 in
theorem mw_136 : (.fieldLink RX2 86 "GroundKeeper$Area" "on" "Z" : Cond) ∈ wsL_law := by decide +kernel
set_option maxRecDepth 100000 in
theorem mw_137 : (.fieldLink RX2 90 "GroundKeeper$Ground" "ladderSize" "I" : Cond) ∈ wsL_law := by decide +kernel
set_option maxRecDepth 100000 in
theorem mw_138 : (.fieldLink RX2 93 "GroundKeeper$Ground" "ladderFrom" "[I" : Cond) ∈ wsL_law := by decide +kernel
set_option maxRecDepth 100000 in
theorem mw_139 : (.fieldLink RX2 96 "GroundKeeper$Ground" "ladderTo" "[I" : Cond) ∈ wsL_law := by decide +kernel
set_option maxRecDepth 100000 in
theorem mw_140 : (.fieldLink RX2 54 "GroundKeeper$Row" "size" "I" : Cond) ∈ wsL_law := by decide +kernel
set_option maxRecDepth 100000 in
theorem mw_141 : (.fieldLink RX2 57 "GroundKeeper$Row" "places" "[I" : Cond) ∈ wsL_law := by decide +kernel
set_option maxRecDepth 100000 in
theorem mw_142 : (.methodLink RX2 99 yX3_isGround : Cond) ∈ wsL_law := by decide +kernel
set_option maxRecDepth 100000 in
theorem mw_143 : (.methodLink RX2 58 yX2_addNode : Cond) ∈ wsL_law := by decide +kernel
set_option maxRecDepth 100000 in
theorem mw_144 : (.instanceMethod yX2_addNode : Cond) ∈ wsL_law := by decide +kernel
set_option maxRecDepth 100000 in
theorem mw_145 : (.selects RX2 yX2_addNode yX2_addNode : Cond) ∈ wsL_law := by decide +kernel
set_option maxRecDepth 100000 in
theorem mw_146 : (.initialized RX2 : Cond) ∈ wsL_law := by decide +kernel
set_option maxRecDepth 100000 in
theorem mw_147 : (.code yX2_addNode cX2_addNode 2 none : Cond) ∈ wsL_law := by decide +kernel
set_option maxRecDepth 100000 in
theorem mw_148 : (.methodLink RX2 80 yX2_addIfFree : Cond) ∈ wsL_law := by decide +kernel
set_option maxRecDepth 100000 in
theorem mw_149 : (.instanceMethod yX2_addIfFree : Cond) ∈ wsL_law := by decide +kernel
set_option maxRecDepth 100000 in
theorem mw_150 : (.selects RX2 yX2_addIfFree yX2_addIfFree : Cond) ∈ wsL_law := by decide +kernel
set_option maxRecDepth 100000 in
theorem mw_151 : (.code yX2_addIfFree cX2_addIfFree 3 none : Cond) ∈ wsL_law := by decide +kernel
set_option maxRecDepth 100000 in
theorem mw_152 : (.methodLink RX2 74 yX0_corner : Cond) ∈ wsL_law := by decide +kernel
set_option maxRecDepth 100000 in
theorem mw_153 : (.instanceMethod yX0_corner : Cond) ∈ wsL_law := by decide +kernel
set_option maxRecDepth 100000 in
theorem mw_154 : (.selects RX0 yX0_corner yX0_corner : Cond) ∈ wsL_law := by decide +kernel
set_option maxRecDepth 100000 in
theorem mw_155 : (.code yX0_corner cX0_corner 2 (some .int) : Cond) ∈ wsL_law := by decide +kernel
set_option maxRecDepth 100000 in
theorem mw_156 : (.methodLink RX2 107 yX3_judge : Cond) ∈ wsL_law := by decide +kernel
set_option maxRecDepth 100000 in
theorem mw_157 : (.instanceMethod yX3_judge : Cond) ∈ wsL_law := by decide +kernel
set_option maxRecDepth 100000 in
theorem mw_158 : (.selects RX3 yX3_judge yX3_judge : Cond) ∈ wsL_law := by decide +kernel
set_option maxRecDepth 100000 in
theorem mw_159 : (.code yX3_judge cX3_judge 3 (some .int) : Cond) ∈ wsL_law := by decide +kernel
set_option maxRecDepth 100000 in
theorem mw_160 : (.methodLink RX2 103 yX3_stepLength : Cond) ∈ wsL_law := by decide +kernel
set_option maxRecDepth 100000 in
theorem mw_161 : (.instanceMethod yX3_stepLength : Cond) ∈ wsL_law := by decide +kernel
set_option maxRecDepth 100000 in
theorem mw_162 : (.selects RX3 yX3_stepLength yX3_stepLength : Cond) ∈ wsL_law := by decide +kernel
set_option maxRecDepth 100000 in
theorem mw_163 : (.code yX3_stepLength cX3_stepLength 7 (some .int) : Cond) ∈ wsL_law := by decide +kernel
set_option maxRecDepth 100000 in
theorem mw_164 : (.methodLink RX2 47 yX2_spreadFrom : Cond) ∈ wsL_law := by decide +kernel
set_option maxRecDepth 100000 in
theorem mw_165 : (.instanceMethod yX2_spreadFrom : Cond) ∈ wsL_law := by decide +kernel
set_option maxRecDepth 100000 in
theorem mw_166 : (.selects RX2 yX2_spreadFrom yX2_spreadFrom : Cond) ∈ wsL_law := by decide +kernel
set_option maxRecDepth 100000 in
theorem mw_167 : (.code yX2_spreadFrom cX2_spreadFrom 6 none : Cond) ∈ wsL_law := by decide +kernel
set_option maxRecDepth 100000 in
theorem mw_168 : (.methodLink RX2 43 yX2_nearest : Cond) ∈ wsL_law := by decide +kernel
set_option maxRecDepth 100000 in
theorem mw_169 : (.instanceMethod yX2_nearest : Cond) ∈ wsL_law := by decide +kernel
set_option maxRecDepth 100000 in
theorem mw_170 : (.selects RX2 yX2_nearest yX2_nearest : Cond) ∈ wsL_law := by decide +kernel
set_option maxRecDepth 100000 in
theorem mw_171 : (.code yX2_nearest cX2_nearest 4 (some .int) : Cond) ∈ wsL_law := by decide +kernel
set_option maxRecDepth 100000 in
theorem mw_172 : (.methodLink RX2 36 yX2_gather : Cond) ∈ wsL_law := by decide +kernel
set_option maxRecDepth 100000 in
theorem mw_173 : (.instanceMethod yX2_gather : Cond) ∈ wsL_law := by decide +kernel
set_option maxRecDepth 100000 in
theorem mw_174 : (.selects RX2 yX2_gather yX2_gather : Cond) ∈ wsL_law := by decide +kernel
set_option maxRecDepth 100000 in
theorem mw_175 : (.code yX2_gather cX2_gather 5 none : Cond) ∈ wsL_law := by decide +kernel
set_option maxRecDepth 100000 in
theorem mw_176 : (.fieldLink RX6 10 "GroundKeeper$Walker" "row" "LGroundKeeper$Row;" : Cond) ∈ wsL_law := by decide +kernel
set_option maxRecDepth 100000 in
theorem mw_177 : (.fieldLink RX6 16 "GroundKeeper$Row" "size" "I" : Cond) ∈ wsL_law := by decide +kernel
set_option maxRecDepth 100000 in
theorem mw_178 : (.fieldLink RX6 20 "GroundKeeper$Walker" "passed" "I" : Cond) ∈ wsL_law := by decide +kernel
set_option maxRecDepth 100000 in
theorem mw_179 : (.fieldLink RX6 23 "GroundKeeper$Row" "places" "[I" : Cond) ∈ wsL_law := by decide +kernel
set_option maxRecDepth 100000 in
theorem mw_180 : (.fieldLink RX6 27 "GroundKeeper$Walker" "place" "I" : Cond) ∈ wsL_law := by decide +kernel
set_option maxRecDepth 100000 in
theorem mw_181 : (.fieldLink RX6 34 "GroundKeeper$Walker" "waits" "I" : Cond) ∈ wsL_law := by decide +kernel
set_option maxRecDepth 100000 in
theorem mw_182 : (.fieldLink RX6 37 "GroundKeeper$Walker" "steps" "I" : Cond) ∈ wsL_law := by decide +kernel
set_option maxRecDepth 100000 in
theorem mw_183 : (.fieldLink RX6 40 "GroundKeeper$Walker" "length" "I" : Cond) ∈ wsL_law := by decide +kernel
set_option maxRecDepth 100000 in
theorem mw_184 : (.fieldLink RX7 34 "GroundKeeper" "walkers" "[LGroundKeeper$Walker;" : Cond) ∈ wsL_law := by decide +kernel
set_option maxRecDepth 100000 in
theorem mw_185 : (.fieldLink RX7 53 "GroundKeeper" "walkerSize" "I" : Cond) ∈ wsL_law := by decide +kernel
set_option maxRecDepth 100000 in
theorem mw_186 : (.fieldLink RX7 57 "GroundKeeper$Walker" "place" "I" : Cond) ∈ wsL_law := by decide +kernel
set_option maxRecDepth 100000 in
theorem mw_187 : (.fieldLink RX7 21 "GroundKeeper" "finder" "LGroundKeeper$Finder;" : Cond) ∈ wsL_law := by decide +kernel
set_option maxRecDepth 100000 in
theorem mw_188 : (.fieldLink RX7 12 "GroundKeeper" "ground" "LGroundKeeper$Ground;" : Cond) ∈ wsL_law := by decide +kernel
set_option maxRecDepth 100000 in
theorem mw_189 : (.fieldLink RX7 156 "GroundKeeper$Walker" "stuck" "Z" : Cond) ∈ wsL_law := by decide +kernel
set_option maxRecDepth 100000 in
theorem mw_190 : (.fieldLink RX7 162 "GroundKeeper$Walker" "row" "LGroundKeeper$Row;" : Cond) ∈ wsL_law := by decide +kernel
set_option maxRecDepth 100000 in
theorem mw_191 : (.fieldLink RX7 178 "GroundKeeper$Walker" "waits" "I" : Cond) ∈ wsL_law := by decide +kernel
set_option maxRecDepth 100000 in
theorem mw_192 : (.fieldLink RX7 187 "GroundKeeper$Walker" "looks" "I" : Cond) ∈ wsL_law := by decide +kernel
set_option maxRecDepth 100000 in
theorem mw_193 : (.methodLink RX6 30 yX6_nextPlace : Cond) ∈ wsL_law := by decide +kernel
set_option maxRecDepth 100000 in
theorem mw_194 : (.instanceMethod yX6_nextPlace : Cond) ∈ wsL_law := by decide +kernel
set_option maxRecDepth 100000 in
theorem mw_195 : (.selects RX6 yX6_nextPlace yX6_nextPlace : Cond) ∈ wsL_law := by decide +kernel
set_option maxRecDepth 100000 in
theorem mw_196 : (.initialized RX6 : Cond) ∈ wsL_law := by decide +kernel
set_option maxRecDepth 100000 in
theorem mw_197 : (.code yX6_nextPlace cX6_nextPlace 1 (some .int) : Cond) ∈ wsL_law := by decide +kernel
set_option maxRecDepth 100000 in
theorem mw_198 : (.methodLink RX7 224 yX0_holds : Cond) ∈ wsL_law := by decide +kernel
set_option maxRecDepth 100000 in
theorem mw_199 : (.methodLink RX7 218 yX6_lastPlace : Cond) ∈ wsL_law := by decide +kernel
set_option maxRecDepth 100000 in
theorem mw_200 : (.instanceMethod yX6_lastPlace : Cond) ∈ wsL_law := by decide +kernel
set_option maxRecDepth 100000 in
theorem mw_201 : (.selects RX6 yX6_lastPlace yX6_lastPlace : Cond) ∈ wsL_law := by decide +kernel
set_option maxRecDepth 100000 in
theorem mw_202 : (.code yX6_lastPlace cX6_lastPlace 1 (some .int) : Cond) ∈ wsL_law := by decide +kernel
set_option maxRecDepth 100000 in
theorem mw_203 : (.methodLink RX7 221 yX2_avoid : Cond) ∈ wsL_law := by decide +kernel
set_option maxRecDepth 100000 in
theorem mw_204 : (.instanceMethod yX2_avoid : Cond) ∈ wsL_law := by decide +kernel
set_option maxRecDepth 100000 in
theorem mw_205 : (.selects RX2 yX2_avoid yX2_avoid : Cond) ∈ wsL_law := by decide +kernel
set_option maxRecDepth 100000 in
theorem mw_206 : (.code yX2_avoid cX2_avoid 2 none : Cond) ∈ wsL_law := by decide +kernel
set_option maxRecDepth 100000 in
theorem mw_207 : (.methodLink RX7 123 yX2_avoidNothing : Cond) ∈ wsL_law := by decide +kernel
set_option maxRecDepth 100000 in
theorem mw_208 : (.instanceMethod yX2_avoidNothing : Cond) ∈ wsL_law := by decide +kernel
set_option maxRecDepth 100000 in
theorem mw_209 : (.selects RX2 yX2_avoidNothing yX2_avoidNothing : Cond) ∈ wsL_law := by decide +kernel
set_option maxRecDepth 100000 in
theorem mw_210 : (.code yX2_avoidNothing cX2_avoidNothing 1 none : Cond) ∈ wsL_law := by decide +kernel
set_option maxRecDepth 100000 in
theorem mw_211 : (.methodLink RX7 215 yX7_avoidOthers : Cond) ∈ wsL_law := by decide +kernel
set_option maxRecDepth 100000 in
theorem mw_212 : (.instanceMethod yX7_avoidOthers : Cond) ∈ wsL_law := by decide +kernel
set_option maxRecDepth 100000 in
theorem mw_213 : (.selects RX7 yX7_avoidOthers yX7_avoidOthers : Cond) ∈ wsL_law := by decide +kernel
set_option maxRecDepth 100000 in
theorem mw_214 : (.code yX7_avoidOthers cX7_avoidOthers 3 none : Cond) ∈ wsL_law := by decide +kernel
set_option maxRecDepth 100000 in
theorem mw_215 : (.methodLink RX7 126 yX2_explore : Cond) ∈ wsL_law := by decide +kernel
set_option maxRecDepth 100000 in
theorem mw_216 : (.instanceMethod yX2_explore : Cond) ∈ wsL_law := by decide +kernel
set_option maxRecDepth 100000 in
theorem mw_217 : (.selects RX2 yX2_explore yX2_explore : Cond) ∈ wsL_law := by decide +kernel
set_option maxRecDepth 100000 in
theorem mw_218 : (.code yX2_explore cX2_explore 6 none : Cond) ∈ wsL_law := by decide +kernel
set_option maxRecDepth 100000 in
theorem mw_219 : (.methodLink RX7 130 yX2_foundLength : Cond) ∈ wsL_law := by decide +kernel
set_option maxRecDepth 100000 in
theorem mw_220 : (.instanceMethod yX2_foundLength : Cond) ∈ wsL_law := by decide +kernel
set_option maxRecDepth 100000 in
theorem mw_221 : (.selects RX2 yX2_foundLength yX2_foundLength : Cond) ∈ wsL_law := by decide +kernel
set_option maxRecDepth 100000 in
theorem mw_222 : (.code yX2_foundLength cX2_foundLength 1 (some .int) : Cond) ∈ wsL_law := by decide +kernel
set_option maxRecDepth 100000 in
theorem mw_223 : (.methodLink RX7 134 yX2_writeWay : Cond) ∈ wsL_law := by decide +kernel
set_option maxRecDepth 100000 in
theorem mw_224 : (.instanceMethod yX2_writeWay : Cond) ∈ wsL_law := by decide +kernel
set_option maxRecDepth 100000 in
theorem mw_225 : (.selects RX2 yX2_writeWay yX2_writeWay : Cond) ∈ wsL_law := by decide +kernel
set_option maxRecDepth 100000 in
theorem mw_226 : (.code yX2_writeWay cX2_writeWay 5 none : Cond) ∈ wsL_law := by decide +kernel
set_option maxRecDepth 100000 in
theorem mw_227 : (.methodLink RX7 165 yX6_beginRow : Cond) ∈ wsL_law := by decide +kernel
set_option maxRecDepth 100000 in
theorem mw_228 : (.instanceMethod yX6_beginRow : Cond) ∈ wsL_law := by decide +kernel
set_option maxRecDepth 100000 in
theorem mw_229 : (.selects RX6 yX6_beginRow yX6_beginRow : Cond) ∈ wsL_law := by decide +kernel
set_option maxRecDepth 100000 in
theorem mw_230 : (.code yX6_beginRow cX6_beginRow 1 none : Cond) ∈ wsL_law := by decide +kernel
set_option maxRecDepth 100000 in
theorem mw_231 : (.methodLink RX7 159 yX6_dropRow : Cond) ∈ wsL_law := by decide +kernel
set_option maxRecDepth 100000 in
theorem mw_232 : (.instanceMethod yX6_dropRow : Cond) ∈ wsL_law := by decide +kernel
set_option maxRecDepth 100000 in
theorem mw_233 : (.selects RX6 yX6_dropRow yX6_dropRow : Cond) ∈ wsL_law := by decide +kernel
set_option maxRecDepth 100000 in
theorem mw_234 : (.code yX6_dropRow cX6_dropRow 1 none : Cond) ∈ wsL_law := by decide +kernel
set_option maxRecDepth 100000 in
theorem mw_235 : (.methodLink RX7 168 yX6_ahead : Cond) ∈ wsL_law := by decide +kernel
set_option maxRecDepth 100000 in
theorem mw_236 : (.instanceMethod yX6_ahead : Cond) ∈ wsL_law := by decide +kernel
set_option maxRecDepth 100000 in
theorem mw_237 : (.selects RX6 yX6_ahead yX6_ahead : Cond) ∈ wsL_law := by decide +kernel
set_option maxRecDepth 100000 in
theorem mw_238 : (.code yX6_ahead cX6_ahead 1 (some .int) : Cond) ∈ wsL_law := by decide +kernel
set_option maxRecDepth 100000 in
theorem mw_239 : (.methodLink RX7 206 yX6_nextPlace : Cond) ∈ wsL_law := by decide +kernel
set_option maxRecDepth 100000 in
theorem mw_240 : (.methodLink RX7 119 yX3_judge : Cond) ∈ wsL_law := by decide +kernel
set_option maxRecDepth 100000 in
theorem mw_241 : (.methodLink RX7 152 yX7_isTaken : Cond) ∈ wsL_law := by decide +kernel
set_option maxRecDepth 100000 in
theorem mw_242 : (.instanceMethod yX7_isTaken : Cond) ∈ wsL_law := by decide +kernel
set_option maxRecDepth 100000 in
theorem mw_243 : (.selects RX7 yX7_isTaken yX7_isTaken : Cond) ∈ wsL_law := by decide +kernel
set_option maxRecDepth 100000 in
theorem mw_244 : (.code yX7_isTaken cX7_isTaken 4 (some .boolean) : Cond) ∈ wsL_law := by decide +kernel
set_option maxRecDepth 100000 in
theorem mw_245 : (.methodLink RX7 209 yX3_stepLength : Cond) ∈ wsL_law := by decide +kernel
set_option maxRecDepth 100000 in
theorem mw_246 : (.methodLink RX7 212 yX6_stepOn : Cond) ∈ wsL_law := by decide +kernel
set_option maxRecDepth 100000 in
theorem mw_247 : (.instanceMethod yX6_stepOn : Cond) ∈ wsL_law := by decide +kernel
set_option maxRecDepth 100000 in
theorem mw_248 : (.selects RX6 yX6_stepOn yX6_stepOn : Cond) ∈ wsL_law := by decide +kernel
set_option maxRecDepth 100000 in
theorem mw_249 : (.code yX6_stepOn cX6_stepOn 2 none : Cond) ∈ wsL_law := by decide +kernel
set_option maxRecDepth 100000 in
theorem mw_250 : (.fieldLink RX7 175 "GroundKeeper" "ticks" "I" : Cond) ∈ wsL_law := by decide +kernel
set_option maxRecDepth 100000 in
theorem mw_251 : (.fieldLink RX7 28 "GroundKeeper" "latestWay" "LGroundKeeper$Row;" : Cond) ∈ wsL_law := by decide +kernel
set_option maxRecDepth 100000 in
theorem mw_252 : (.fieldLink RX7 138 "GroundKeeper$Row" "size" "I" : Cond) ∈ wsL_law := by decide +kernel
set_option maxRecDepth 100000 in
theorem mw_253 : (.fieldLink RX7 139 "GroundKeeper$Row" "places" "[I" : Cond) ∈ wsL_law := by decide +kernel
set_option maxRecDepth 100000 in
theorem mw_254 : (.fieldLink RX7 181 "GroundKeeper$Walker" "steps" "I" : Cond) ∈ wsL_law := by decide +kernel
set_option maxRecDepth 100000 in
theorem mw_255 : (.fieldLink RX7 184 "GroundKeeper$Walker" "length" "I" : Cond) ∈ wsL_law := by decide +kernel
set_option maxRecDepth 100000 in
theorem mw_256 : (.fieldLink RX7 43 "GroundKeeper$Ground" "rooms" "LGroundKeeper$Areas;" : Cond) ∈ wsL_law := by decide +kernel
set_option maxRecDepth 100000 in
theorem mw_257 : (.fieldLink RX7 70 "GroundKeeper$Ground" "boxes" "LGroundKeeper$Areas;" : Cond) ∈ wsL_law := by decide +kernel
set_option maxRecDepth 100000 in
theorem mw_258 : (.fieldLink RX7 90 "GroundKeeper$Ground" "doors" "LGroundKeeper$Areas;" : Cond) ∈ wsL_law := by decide +kernel
set_option maxRecDepth 100000 in
theorem mw_259 : (.fieldLink RX7 93 "GroundKeeper$Areas" "size" "I" : Cond) ∈ wsL_law := by decide +kernel
set_option maxRecDepth 100000 in
theorem mw_260 : (.fieldLink RX7 100 "GroundKeeper$Ground" "ledges" "LGroundKeeper$Areas;" : Cond) ∈ wsL_law := by decide +kernel
set_option maxRecDepth 100000 in
theorem mw_261 : (.fieldLink RX7 193 "GroundKeeper$Ground" "ladderSize" "I" : Cond) ∈ wsL_law := by decide +kernel
set_option maxRecDepth 100000 in
theorem mw_262 : (.constantLong RX7 198 31 : Cond) ∈ wsL_law := by decide +kernel
set_option maxRecDepth 100000 in
theorem mw_263 : (.constantLong RX7 196 89 : Cond) ∈ wsL_law := by decide +kernel
set_option maxRecDepth 100000 in
theorem mw_264 : (.fieldLink RX7 77 "GroundKeeper$Areas" "all" "[LGroundKeeper$Area;" : Cond) ∈ wsL_law := by decide +kernel
set_option maxRecDepth 100000 in
theorem mw_265 : (.fieldLink RX7 81 "GroundKeeper$Area" "on" "Z" : Cond) ∈ wsL_law := by decide +kernel
set_option maxRecDepth 100000 in
theorem mw_266 : (.constant RX7 107 1000000 : Cond) ∈ wsL_law := by decide +kernel
set_option maxRecDepth 100000 in
theorem mw_267 : (.methodLink RX7 171 yX7_takeTurn : Cond) ∈ wsL_law := by decide +kernel
set_option maxRecDepth 100000 in
theorem mw_268 : (.instanceMethod yX7_takeTurn : Cond) ∈ wsL_law := by decide +kernel
set_option maxRecDepth 100000 in
theorem mw_269 : (.selects RX7 yX7_takeTurn yX7_takeTurn : Cond) ∈ wsL_law := by decide +kernel
set_option maxRecDepth 100000 in
theorem mw_270 : (.code yX7_takeTurn cX7_takeTurn 4 none : Cond) ∈ wsL_law := by decide +kernel
set_option maxRecDepth 100000 in
theorem mw_271 : (.methodLink RX7 108 yX7_placeAt : Cond) ∈ wsL_law := by decide +kernel
set_option maxRecDepth 100000 in
theorem mw_272 : (.methodLink RX7 115 yX3_isGround : Cond) ∈ wsL_law := by decide +kernel
set_option maxRecDepth 100000 in
theorem mw_273 : (.methodLink RX7 143 yX7_coordinate : Cond) ∈ wsL_law := by decide +kernel
set_option maxRecDepth 100000 in
theorem mw_274 : (.static yX7_coordinate : Cond) ∈ wsL_law := by decide +kernel
set_option maxRecDepth 100000 in
theorem mw_275 : (.code yX7_coordinate cX7_coordinate 2 (some .int) : Cond) ∈ wsL_law := by decide +kernel
set_option maxRecDepth 100000 in
theorem mw_276 : (.methodLink RX7 190 yX1_countOn : Cond) ∈ wsL_law := by decide +kernel
set_option maxRecDepth 100000 in
theorem mw_277 : (.instanceMethod yX1_countOn : Cond) ∈ wsL_law := by decide +kernel
set_option maxRecDepth 100000 in
theorem mw_278 : (.selects RX1 yX1_countOn yX1_countOn : Cond) ∈ wsL_law := by decide +kernel
set_option maxRecDepth 100000 in
theorem mw_279 : (.initialized RX1 : Cond) ∈ wsL_law := by decide +kernel
set_option maxRecDepth 100000 in
theorem mw_280 : (.code yX1_countOn cX1_countOn 3 (some .int) : Cond) ∈ wsL_law := by decide +kernel
set_option maxRecDepth 100000 in
theorem mw_281 : (.methodLink RX7 203 yX7_about : Cond) ∈ wsL_law := by decide +kernel
set_option maxRecDepth 100000 in
theorem mw_282 : (.instanceMethod yX7_about : Cond) ∈ wsL_law := by decide +kernel
set_option maxRecDepth 100000 in
theorem mw_283 : (.selects RX7 yX7_about yX7_about : Cond) ∈ wsL_law := by decide +kernel
set_option maxRecDepth 100000 in
theorem mw_284 : (.code yX7_about cX7_about 4 (some .int) : Cond) ∈ wsL_law := by decide +kernel
set_option maxRecDepth 100000 in
theorem mw_285 : (.methodLink RX7 200 yX7_count : Cond) ∈ wsL_law := by decide +kernel
set_option maxRecDepth 100000 in
theorem mw_286 : (.instanceMethod yX7_count : Cond) ∈ wsL_law := by decide +kernel
set_option maxRecDepth 100000 in
theorem mw_287 : (.selects RX7 yX7_count yX7_count : Cond) ∈ wsL_law := by decide +kernel
set_option maxRecDepth 100000 in
theorem mw_288 : (.code yX7_count cX7_count 2 (some .int) : Cond) ∈ wsL_law := by decide +kernel
set_option maxRecDepth 100000 in
theorem mw_289 : (.methodLink RX7 73 yX1_putDown : Cond) ∈ wsL_law := by decide +kernel
set_option maxRecDepth 100000 in
theorem mw_290 : (.instanceMethod yX1_putDown : Cond) ∈ wsL_law := by decide +kernel
set_option maxRecDepth 100000 in
theorem mw_291 : (.selects RX1 yX1_putDown yX1_putDown : Cond) ∈ wsL_law := by decide +kernel
set_option maxRecDepth 100000 in
theorem mw_292 : (.code yX1_putDown cX1_putDown 7 (some .int) : Cond) ∈ wsL_law := by decide +kernel
set_option maxRecDepth 100000 in
theorem mw_293 : (.methodLink RX7 39 yX7_isRectangle : Cond) ∈ wsL_law := by decide +kernel
set_option maxRecDepth 100000 in
theorem mw_294 : (.static yX7_isRectangle : Cond) ∈ wsL_law := by decide +kernel
set_option maxRecDepth 100000 in
theorem mw_295 : (.code yX7_isRectangle cX7_isRectangle 5 (some .boolean) : Cond) ∈ wsL_law := by decide +kernel
set_option maxRecDepth 100000 in
theorem mw_296 : (.methodLink RX7 96 yX7_anyStandsOn : Cond) ∈ wsL_law := by decide +kernel
set_option maxRecDepth 100000 in
theorem mw_297 : (.instanceMethod yX7_anyStandsOn : Cond) ∈ wsL_law := by decide +kernel
set_option maxRecDepth 100000 in
theorem mw_298 : (.selects RX7 yX7_anyStandsOn yX7_anyStandsOn : Cond) ∈ wsL_law := by decide +kernel
set_option maxRecDepth 100000 in
theorem mw_299 : (.code yX7_anyStandsOn cX7_anyStandsOn 4 (some .boolean) : Cond) ∈ wsL_law := by decide +kernel
set_option maxRecDepth 100000 in
theorem mw_300 : (.methodLink RX7 149 yX3_isOnShutDoor : Cond) ∈ wsL_law := by decide +kernel
set_option maxRecDepth 100000 in
theorem mw_301 : (.instanceMethod yX3_isOnShutDoor : Cond) ∈ wsL_law := by decide +kernel
set_option maxRecDepth 100000 in
theorem mw_302 : (.selects RX3 yX3_isOnShutDoor yX3_isOnShutDoor : Cond) ∈ wsL_law := by decide +kernel
set_option maxRecDepth 100000 in
theorem mw_303 : (.code yX3_isOnShutDoor cX3_isOnShutDoor 4 (some .boolean) : Cond) ∈ wsL_law := by decide +kernel
set_option maxRecDepth 100000 in
theorem mw_304 : (.methodLink RX7 146 yX2_countRoomCorners : Cond) ∈ wsL_law := by decide +kernel
set_option maxRecDepth 100000 in
theorem mw_305 : (.instanceMethod yX2_countRoomCorners : Cond) ∈ wsL_law := by decide +kernel
set_option maxRecDepth 100000 in
theorem mw_306 : (.selects RX2 yX2_countRoomCorners yX2_countRoomCorners : Cond) ∈ wsL_law := by decide +kernel
set_option maxRecDepth 100000 in
theorem mw_307 : (.code yX2_countRoomCorners cX2_countRoomCorners 3 (some .int) : Cond) ∈ wsL_law := by decide +kernel
set_option maxRecDepth 100000 in
theorem mw_308 : (.methodLink RX7 47 yX1_add : Cond) ∈ wsL_law := by decide +kernel
set_option maxRecDepth 100000 in
theorem mw_309 : (.instanceMethod yX1_add : Cond) ∈ wsL_law := by decide +kernel
set_option maxRecDepth 100000 in
theorem mw_310 : (.selects RX1 yX1_add yX1_add : Cond) ∈ wsL_law := by decide +kernel
set_option maxRecDepth 100000 in
theorem mw_311 : (.code yX1_add cX1_add 7 (some .int) : Cond) ∈ wsL_law := by decide +kernel
set_option maxRecDepth 100000 in
theorem mw_312 : (.methodLink RX7 87 yX7_isStraight : Cond) ∈ wsL_law := by decide +kernel
set_option maxRecDepth 100000 in
theorem mw_313 : (.static yX7_isStraight : Cond) ∈ wsL_law := by decide +kernel
set_option maxRecDepth 100000 in
theorem mw_314 : (.code yX7_isStraight cX7_isStraight 5 (some .boolean) : Cond) ∈ wsL_law := by decide +kernel
set_option maxRecDepth 100000 in
theorem mw_315 : (.methodLink RX7 112 yX3_addLadder : Cond) ∈ wsL_law := by decide +kernel
set_option maxRecDepth 100000 in
theorem mw_316 : (.instanceMethod yX3_addLadder : Cond) ∈ wsL_law := by decide +kernel
set_option maxRecDepth 100000 in
theorem mw_317 : (.selects RX3 yX3_addLadder yX3_addLadder : Cond) ∈ wsL_law := by decide +kernel
set_option maxRecDepth 100000 in
theorem mw_318 : (.code yX3_addLadder cX3_addLadder 4 (some .int) : Cond) ∈ wsL_law := by decide +kernel
set_option maxRecDepth 100000 in
theorem mw_319 : (.constantLong RX8 212 2 : Cond) ∈ wsL_law := by decide +kernel
set_option maxRecDepth 100000 in
theorem mw_320 : (.constantLong RX8 208 1000000 : Cond) ∈ wsL_law := by decide +kernel
set_option maxRecDepth 100000 in
theorem mw_321 : (.constantLong RX8 210 150000 : Cond) ∈ wsL_law := by decide +kernel
set_option maxRecDepth 100000 in
theorem mw_322 : (.methodLink RX8 110 yX8_in : Cond) ∈ wsL_law := by decide +kernel
set_option maxRecDepth 100000 in
theorem mw_323 : (.static yX8_in : Cond) ∈ wsL_law := by decide +kernel
set_option maxRecDepth 100000 in
theorem mw_324 : (.initialized RX8 : Cond) ∈ wsL_law := by decide +kernel
set_option maxRecDepth 100000 in
theorem mw_325 : (.code yX8_in cX8_in 3 (some .boolean) : Cond) ∈ wsL_law := by decide +kernel
set_option maxRecDepth 100000 in
theorem mw_326 : (.methodLink RX8 114 yX8_isPlace : Cond) ∈ wsL_law := by decide +kernel
set_option maxRecDepth 100000 in
theorem mw_327 : (.static yX8_isPlace : Cond) ∈ wsL_law := by decide +kernel
set_option maxRecDepth 100000 in
theorem mw_328 : (.code yX8_isPlace cX8_isPlace 3 (some .boolean) : Cond) ∈ wsL_law := by decide +kernel
set_option maxRecDepth 100000 in
theorem mw_329 : (.fieldLink RX8 155 "GroundKeeperModel" "lx" "I" : Cond) ∈ wsL_law := by decide +kernel
set_option maxRecDepth 100000 in
theorem mw_330 : (.fieldLink RX8 158 "GroundKeeperModel" "ly" "I" : Cond) ∈ wsL_law := by decide +kernel
set_option maxRecDepth 100000 in
theorem mw_331 : (.fieldLink RX8 161 "GroundKeeperModel" "dx" "I" : Cond) ∈ wsL_law := by decide +kernel
set_option maxRecDepth 100000 in
theorem mw_332 : (.fieldLink RX8 164 "GroundKeeperModel" "dy" "I" : Cond) ∈ wsL_law := by decide +kernel
set_option maxRecDepth 100000 in
theorem mw_333 : (.fieldLink RX8 171 "GroundKeeperModel" "parts" "I" : Cond) ∈ wsL_law := by decide +kernel
set_option maxRecDepth 100000 in
theorem mw_334 : (.fieldLink RX8 174 "GroundKeeperModel" "from" "I" : Cond) ∈ wsL_law := by decide +kernel
set_option maxRecDepth 100000 in
theorem mw_335 : (.fieldLink RX8 177 "GroundKeeperModel" "to" "I" : Cond) ∈ wsL_law := by decide +kernel
set_option maxRecDepth 100000 in
theorem mw_336 : (.fieldLink RX8 17 "GroundKeeperModel" "box" "[I" : Cond) ∈ wsL_law := by decide +kernel
set_option maxRecDepth 100000 in
theorem mw_337 : (.constant RX8 184 -100000000 : Cond) ∈ wsL_law := by decide +kernel
set_option maxRecDepth 100000 in
theorem mw_338 : (.constant RX8 185 100000000 : Cond) ∈ wsL_law := by decide +kernel
set_option maxRecDepth 100000 in
theorem mw_339 : (.fieldLink RX8 7 "GroundKeeperModel" "room" "[I" : Cond) ∈ wsL_law := by decide +kernel
set_option maxRecDepth 100000 in
theorem mw_340 : (.fieldLink RX8 13 "GroundKeeperModel" "isDown" "[Z" : Cond) ∈ wsL_law := by decide +kernel
set_option maxRecDepth 100000 in
theorem mw_341 : (.fieldLink RX8 35 "GroundKeeperModel" "spanFrom" "[I" : Cond) ∈ wsL_law := by decide +kernel
set_option maxRecDepth 100000 in
theorem mw_342 : (.fieldLink RX8 38 "GroundKeeperModel" "spanTo" "[I" : Cond) ∈ wsL_law := by decide +kernel
set_option maxRecDepth 100000 in
theorem mw_343 : (.fieldLink RX8 121 "GroundKeeperModel" "rooms" "I" : Cond) ∈ wsL_law := by decide +kernel
set_option maxRecDepth 100000 in
theorem mw_344 : (.fieldLink RX8 26 "GroundKeeperModel" "ledge" "[I" : Cond) ∈ wsL_law := by decide +kernel
set_option maxRecDepth 100000 in
theorem mw_345 : (.fieldLink RX8 29 "GroundKeeperModel" "rises" "[Z" : Cond) ∈ wsL_law := by decide +kernel
set_option maxRecDepth 100000 in
theorem mw_346 : (.fieldLink RX8 20 "GroundKeeperModel" "door" "[I" : Cond) ∈ wsL_law := by decide +kernel
set_option maxRecDepth 100000 in
theorem mw_347 : (.fieldLink RX8 23 "GroundKeeperModel" "isShut" "[Z" : Cond) ∈ wsL_law := by decide +kernel
set_option maxRecDepth 100000 in
theorem mw_348 : (.fieldLink RX8 135 "GroundKeeperModel" "doors" "I" : Cond) ∈ wsL_law := by decide +kernel
set_option maxRecDepth 100000 in
theorem mw_349 : (.fieldLink RX8 142 "GroundKeeperModel" "ledges" "I" : Cond) ∈ wsL_law := by decide +kernel
set_option maxRecDepth 100000 in
theorem mw_350 : (.methodLink RX8 167 yX8_size : Cond) ∈ wsL_law := by decide +kernel
set_option maxRecDepth 100000 in
theorem mw_351 : (.static yX8_size : Cond) ∈ wsL_law := by decide +kernel
set_option maxRecDepth 100000 in
theorem mw_352 : (.code yX8_size cX8_size 1 (some .int) : Cond) ∈ wsL_law := by decide +kernel
set_option maxRecDepth 100000 in
theorem mw_353 : (.methodLink RX8 180 yX8_cuts : Cond) ∈ wsL_law := by decide +kernel
set_option maxRecDepth 100000 in
theorem mw_354 : (.instanceMethod yX8_cuts : Cond) ∈ wsL_law := by decide +kernel
set_option maxRecDepth 100000 in
theorem mw_355 : (.selects RX8 yX8_cuts yX8_cuts : Cond) ∈ wsL_law := by decide +kernel
set_option maxRecDepth 100000 in
theorem mw_356 : (.code yX8_cuts cX8_cuts 8 (some .boolean) : Cond) ∈ wsL_law := by decide +kernel
set_option maxRecDepth 100000 in
theorem mw_357 : (.methodLink RX8 190 yX8_enters : Cond) ∈ wsL_law := by decide +kernel
set_option maxRecDepth 100000 in
theorem mw_358 : (.instanceMethod yX8_enters : Cond) ∈ wsL_law := by decide +kernel
set_option maxRecDepth 100000 in
theorem mw_359 : (.selects RX8 yX8_enters yX8_enters : Cond) ∈ wsL_law := by decide +kernel
set_option maxRecDepth 100000 in
theorem mw_360 : (.code yX8_enters cX8_enters 6 (some .boolean) : Cond) ∈ wsL_law := by decide +kernel
set_option maxRecDepth 100000 in
theorem mw_361 : (.methodLink RX8 186 yX8_meets : Cond) ∈ wsL_law := by decide +kernel
set_option maxRecDepth 100000 in
theorem mw_362 : (.instanceMethod yX8_meets : Cond) ∈ wsL_law := by decide +kernel
set_option maxRecDepth 100000 in
theorem mw_363 : (.selects RX8 yX8_meets yX8_meets : Cond) ∈ wsL_law := by decide +kernel
set_option maxRecDepth 100000 in
theorem mw_364 : (.code yX8_meets cX8_meets 3 (some .boolean) : Cond) ∈ wsL_law := by decide +kernel
set_option maxRecDepth 100000 in
theorem mw_365 : (.methodLink RX8 201 yX8_isWrongWay : Cond) ∈ wsL_law := by decide +kernel
set_option maxRecDepth 100000 in
theorem mw_366 : (.instanceMethod yX8_isWrongWay : Cond) ∈ wsL_law := by decide +kernel
set_option maxRecDepth 100000 in
theorem mw_367 : (.selects RX8 yX8_isWrongWay yX8_isWrongWay : Cond) ∈ wsL_law := by decide +kernel
set_option maxRecDepth 100000 in
theorem mw_368 : (.code yX8_isWrongWay cX8_isWrongWay 17 (some .boolean) : Cond) ∈ wsL_law := by decide +kernel
set_option maxRecDepth 100000 in
theorem mw_369 : (.methodLink RX8 194 yX8_leg : Cond) ∈ wsL_law := by decide +kernel
set_option maxRecDepth 100000 in
theorem mw_370 : (.instanceMethod yX8_leg : Cond) ∈ wsL_law := by decide +kernel
set_option maxRecDepth 100000 in
theorem mw_371 : (.selects RX8 yX8_leg yX8_leg : Cond) ∈ wsL_law := by decide +kernel
set_option maxRecDepth 100000 in
theorem mw_372 : (.code yX8_leg cX8_leg 5 none : Cond) ∈ wsL_law := by decide +kernel
set_option maxRecDepth 100000 in
theorem mw_373 : (.methodLink RX8 198 yX8_isAllGround : Cond) ∈ wsL_law := by decide +kernel
set_option maxRecDepth 100000 in
theorem mw_374 : (.instanceMethod yX8_isAllGround : Cond) ∈ wsL_law := by decide +kernel
set_option maxRecDepth 100000 in
theorem mw_375 : (.selects RX8 yX8_isAllGround yX8_isAllGround : Cond) ∈ wsL_law := by decide +kernel
set_option maxRecDepth 100000 in
theorem mw_376 : (.code yX8_isAllGround cX8_isAllGround 8 (some .boolean) : Cond) ∈ wsL_law := by decide +kernel
set_option maxRecDepth 100000 in
theorem mw_377 : (.fieldLink RX8 32 "GroundKeeperModel" "ladder" "[I" : Cond) ∈ wsL_law := by decide +kernel
set_option maxRecDepth 100000 in
theorem mw_378 : (.fieldLink RX8 146 "GroundKeeperModel" "ladders" "I" : Cond) ∈ wsL_law := by decide +kernel
set_option maxRecDepth 100000 in
theorem mw_379 : (.fieldLink RX8 41 "GroundKeeperModel" "isNode" "[Z" : Cond) ∈ wsL_law := by decide +kernel
set_option maxRecDepth 100000 in
theorem mw_380 : (.fieldLink RX8 44 "GroundKeeperModel" "nl" "[I" : Cond) ∈ wsL_law := by decide +kernel
set_option maxRecDepth 100000 in
theorem mw_381 : (.fieldLink RX8 47 "GroundKeeperModel" "nx" "[I" : Cond) ∈ wsL_law := by decide +kernel
set_option maxRecDepth 100000 in
theorem mw_382 : (.fieldLink RX8 50 "GroundKeeperModel" "ny" "[I" : Cond) ∈ wsL_law := by decide +kernel
set_option maxRecDepth 100000 in
theorem mw_383 : (.fieldLink RX8 214 "GroundKeeperModel" "nodes" "I" : Cond) ∈ wsL_law := by decide +kernel
set_option maxRecDepth 100000 in
theorem mw_384 : (.methodLink RX8 149 yX8_isInside : Cond) ∈ wsL_law := by decide +kernel
set_option maxRecDepth 100000 in
theorem mw_385 : (.static yX8_isInside : Cond) ∈ wsL_law := by decide +kernel
set_option maxRecDepth 100000 in
theorem mw_386 : (.code yX8_isInside cX8_isInside 5 (some .boolean) : Cond) ∈ wsL_law := by decide +kernel
set_option maxRecDepth 100000 in
theorem mw_387 : (.methodLink RX8 138 yX8_isOn : Cond) ∈ wsL_law := by decide +kernel
set_option maxRecDepth 100000 in
theorem mw_388 : (.static yX8_isOn : Cond) ∈ wsL_law := by decide +kernel
set_option maxRecDepth 100000 in
theorem mw_389 : (.code yX8_isOn cX8_isOn 5 (some .boolean) : Cond) ∈ wsL_law := by decide +kernel
set_option maxRecDepth 100000 in
theorem mw_390 : (.methodLink RX8 152 yX8_isGround : Cond) ∈ wsL_law := by decide +kernel
set_option maxRecDepth 100000 in
theorem mw_391 : (.instanceMethod yX8_isGround : Cond) ∈ wsL_law := by decide +kernel
set_option maxRecDepth 100000 in
theorem mw_392 : (.selects RX8 yX8_isGround yX8_isGround : Cond) ∈ wsL_law := by decide +kernel
set_option maxRecDepth 100000 in
theorem mw_393 : (.code yX8_isGround cX8_isGround 6 (some .boolean) : Cond) ∈ wsL_law := by decide +kernel
set_option maxRecDepth 100000 in
theorem mw_394 : (.methodLink RX8 217 yX8_node : Cond) ∈ wsL_law := by decide +kernel
set_option maxRecDepth 100000 in
theorem mw_395 : (.instanceMethod yX8_node : Cond) ∈ wsL_law := by decide +kernel
set_option maxRecDepth 100000 in
theorem mw_396 : (.selects RX8 yX8_node yX8_node : Cond) ∈ wsL_law := by decide +kernel
set_option maxRecDepth 100000 in
theorem mw_397 : (.code yX8_node cX8_node 4 none : Cond) ∈ wsL_law := by decide +kernel
set_option maxRecDepth 100000 in
theorem mw_398 : (.methodLink RX8 221 yX8_corners : Cond) ∈ wsL_law := by decide +kernel
set_option maxRecDepth 100000 in
theorem mw_399 : (.instanceMethod yX8_corners : Cond) ∈ wsL_law := by decide +kernel
