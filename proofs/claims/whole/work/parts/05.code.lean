/-! the code words, one by one (each by its place) -/
theorem cw_X0_init : lw_tbl[157]? = some (.code yX0_init cX0_init 1 none) := by decide +kernel
theorem cw_X0_isMissing : lw_tbl[700]? = some (.code yX0_isMissing cX0_isMissing 1 (some .boolean)) := by decide +kernel
theorem cw_X0_hasRoom : lw_tbl[652]? = some (.code yX0_hasRoom cX0_hasRoom 2 (some .boolean)) := by decide +kernel
theorem cw_X0_add : lw_tbl[660]? = some (.code yX0_add cX0_add 3 none) := by decide +kernel
theorem cw_X0_takeFrom : lw_tbl[691]? = some (.code yX0_takeFrom cX0_takeFrom 2 none) := by decide +kernel
theorem cw_X1_init : lw_tbl[138]? = some (.code yX1_init cX1_init 2 none) := by decide +kernel
theorem cw_X1_isEmpty : lw_tbl[638]? = some (.code yX1_isEmpty cX1_isEmpty 1 (some .boolean)) := by decide +kernel
theorem cw_X1_wheelOf : lw_tbl[569]? = some (.code yX1_wheelOf cX1_wheelOf 2 (some (.object "RindDates$Wheel"))) := by decide +kernel
theorem cw_X1_keptOf : lw_tbl[687]? = some (.code yX1_keptOf cX1_keptOf 2 (some (.object "RindDates$Deeds"))) := by decide +kernel
theorem cw_X1_isSilentBy : lw_tbl[644]? = some (.code yX1_isSilentBy cX1_isSilentBy 2 (some .boolean)) := by decide +kernel
theorem cw_X1_begin : lw_tbl[532]? = some (.code yX1_begin cX1_begin 3 none) := by decide +kernel
theorem cw_X1_replay : lw_tbl[542]? = some (.code yX1_replay cX1_replay 2 none) := by decide +kernel
theorem cw_X1_enact : lw_tbl[656]? = some (.code yX1_enact cX1_enact 3 none) := by decide +kernel
theorem cw_X1_act : lw_tbl[550]? = some (.code yX1_act cX1_act 3 none) := by decide +kernel
theorem cw_X1_actOn : lw_tbl[573]? = some (.code yX1_actOn cX1_actOn 3 none) := by decide +kernel
theorem cw_X1_isOnShelf : lw_tbl[595]? = some (.code yX1_isOnShelf cX1_isOnShelf 2 (some .boolean)) := by decide +kernel
theorem cw_X1_tellOf : lw_tbl[591]? = some (.code yX1_tellOf cX1_tellOf 3 (some .int)) := by decide +kernel
theorem cw_X1_shelfBits : lw_tbl[919]? = some (.code yX1_shelfBits cX1_shelfBits 3 (some .int)) := by decide +kernel
theorem cw_X1_shelfRind : lw_tbl[923]? = some (.code yX1_shelfRind cX1_shelfRind 3 (some .int)) := by decide +kernel
theorem cw_X1_oldWheels : lw_tbl[927]? = some (.code yX1_oldWheels cX1_oldWheels 3 (some .int)) := by decide +kernel
theorem cw_X1_keptThere : lw_tbl[935]? = some (.code yX1_keptThere cX1_keptThere 3 (some .int)) := by decide +kernel
theorem cw_X1_digestFrom : lw_tbl[958]? = some (.code yX1_digestFrom cX1_digestFrom 7 (some .long)) := by decide +kernel
theorem cw_X2_init : lw_tbl[144]? = some (.code yX2_init cX2_init 1 none) := by decide +kernel
theorem cw_X2_get : lw_tbl[563]? = some (.code yX2_get cX2_get 4 (some .int)) := by decide +kernel
theorem cw_X2_set : lw_tbl[509]? = some (.code yX2_set cX2_set 5 none) := by decide +kernel
theorem cw_X2_takeFrom : lw_tbl[536]? = some (.code yX2_takeFrom cX2_takeFrom 2 none) := by decide +kernel
theorem cw_X2_total : lw_tbl[577]? = some (.code yX2_total cX2_total 3 (some .int)) := by decide +kernel
theorem cw_X2_heldByBoth : lw_tbl[622]? = some (.code yX2_heldByBoth cX2_heldByBoth 3 (some .int)) := by decide +kernel
theorem cw_X2_passDay : lw_tbl[554]? = some (.code yX2_passDay cX2_passDay 2 none) := by decide +kernel
theorem cw_X2_raise : lw_tbl[559]? = some (.code yX2_raise cX2_raise 2 none) := by decide +kernel
theorem cw_X2_passDayWith : lw_tbl[724]? = some (.code yX2_passDayWith cX2_passDayWith 2 none) := by decide +kernel
theorem cw_X3_init : lw_tbl[278]? = some (.code yX3_init cX3_init 2 none) := by decide +kernel
theorem cw_X3_begin : lw_tbl[712]? = some (.code yX3_begin cX3_begin 3 none) := by decide +kernel
theorem cw_X3_howMany : lw_tbl[730]? = some (.code yX3_howMany cX3_howMany 1 (some .int)) := by decide +kernel
theorem cw_X3_advance : lw_tbl[753]? = some (.code yX3_advance cX3_advance 2 none) := by decide +kernel
theorem cw_X3_after : lw_tbl[756]? = some (.code yX3_after cX3_after 1 (some .int)) := by decide +kernel
theorem cw_X3_reckonFrom : lw_tbl[720]? = some (.code yX3_reckonFrom cX3_reckonFrom 3 none) := by decide +kernel
theorem cw_X3_lastAnger : lw_tbl[742]? = some (.code yX3_lastAnger cX3_lastAnger 1 (some .int)) := by decide +kernel
theorem cw_X3_firstSaid : lw_tbl[786]? = some (.code yX3_firstSaid cX3_firstSaid 1 (some .int)) := by decide +kernel
theorem cw_X3_sayings : lw_tbl[738]? = some (.code yX3_sayings cX3_sayings 3 (some .int)) := by decide +kernel
theorem cw_X3_mattersSaid : lw_tbl[801]? = some (.code yX3_mattersSaid cX3_mattersSaid 3 (some .int)) := by decide +kernel
theorem cw_X3_leadsBy : lw_tbl[781]? = some (.code yX3_leadsBy cX3_leadsBy 3 (some .boolean)) := by decide +kernel
theorem cw_X3_writeTo : lw_tbl[747]? = some (.code yX3_writeTo cX3_writeTo 3 none) := by decide +kernel
theorem cw_X4_init : lw_tbl[242]? = some (.code yX4_init cX4_init 1 none) := by decide +kernel
theorem cw_X4_read : lw_tbl[485]? = some (.code yX4_read cX4_read 3 (some .int)) := by decide +kernel
theorem cw_X4_skipBlanks : lw_tbl[489]? = some (.code yX4_skipBlanks cX4_skipBlanks 2 none) := by decide +kernel
theorem cw_X4_hasFigure : lw_tbl[498]? = some (.code yX4_hasFigure cX4_hasFigure 2 (some .boolean)) := by decide +kernel
theorem cw_X4_takeFigure : lw_tbl[505]? = some (.code yX4_takeFigure cX4_takeFigure 3 (some .int)) := by decide +kernel
theorem cw_X4_readBrothers : lw_tbl[494]? = some (.code yX4_readBrothers cX4_readBrothers 3 (some .int)) := by decide +kernel
theorem cw_X4_readLimit : lw_tbl[513]? = some (.code yX4_readLimit cX4_readLimit 4 (some .int)) := by decide +kernel
theorem cw_X4_readWheels : lw_tbl[517]? = some (.code yX4_readWheels cX4_readWheels 3 (some .int)) := by decide +kernel
theorem cw_X4_readWheel : lw_tbl[521]? = some (.code yX4_readWheel cX4_readWheel 5 (some .boolean)) := by decide +kernel
theorem cw_X4_kindBy : lw_tbl[524]? = some (.code yX4_kindBy cX4_kindBy 1 (some .int)) := by decide +kernel
theorem cw_X5_init : lw_tbl[340]? = some (.code yX5_init cX5_init 3 none) := by decide +kernel
theorem cw_X5_isMissing : lw_tbl[421]? = some (.code yX5_isMissing cX5_isMissing 1 (some .boolean)) := by decide +kernel
theorem cw_X5_renew : lw_tbl[399]? = some (.code yX5_renew cX5_renew 2 none) := by decide +kernel
theorem cw_X5_hasPlace : lw_tbl[425]? = some (.code yX5_hasPlace cX5_hasPlace 2 (some .boolean)) := by decide +kernel
theorem cw_X5_hasPlaces : lw_tbl[453]? = some (.code yX5_hasPlaces cX5_hasPlaces 3 (some .boolean)) := by decide +kernel
theorem cw_X5_get : lw_tbl[429]? = some (.code yX5_get cX5_get 2 (some .int)) := by decide +kernel
theorem cw_X5_set : lw_tbl[433]? = some (.code yX5_set cX5_set 3 none) := by decide +kernel
theorem cw_X5_isWithin : lw_tbl[776]? = some (.code yX5_isWithin cX5_isWithin 3 (some .boolean)) := by decide +kernel
theorem cw_X5_sum : lw_tbl[464]? = some (.code yX5_sum cX5_sum 4 (some .long)) := by decide +kernel
theorem cw_X5_digestFrom : lw_tbl[968]? = some (.code yX5_digestFrom cX5_digestFrom 6 (some .long)) := by decide +kernel
theorem cw_X6_init : lw_tbl[297]? = some (.code yX6_init cX6_init 1 none) := by decide +kernel
theorem cw_X6_fillFrom : lw_tbl[838]? = some (.code yX6_fillFrom cX6_fillFrom 8 (some .int)) := by decide +kernel
theorem cw_X6_filledBy : lw_tbl[845]? = some (.code yX6_filledBy cX6_filledBy 12 (some .int)) := by decide +kernel
theorem cw_X6_writeTo : lw_tbl[853]? = some (.code yX6_writeTo cX6_writeTo 3 none) := by decide +kernel
theorem cw_X7_init : lw_tbl[315]? = some (.code yX7_init cX7_init 1 none) := by decide +kernel
theorem cw_X7_refuse : lw_tbl[395]? = some (.code yX7_refuse cX7_refuse 2 (some .int)) := by decide +kernel
theorem cw_X7_timesOf : lw_tbl[948]? = some (.code yX7_timesOf cX7_timesOf 2 (some .int)) := by decide +kernel
theorem cw_X7_tell : lw_tbl[437]? = some (.code yX7_tell cX7_tell 2 (some .int)) := by decide +kernel
theorem cw_X7_tellParts : lw_tbl[790]? = some (.code yX7_tellParts cX7_tellParts 7 none) := by decide +kernel
theorem cw_X7_commonPart : lw_tbl[793]? = some (.code yX7_commonPart cX7_commonPart 11 (some .long)) := by decide +kernel
theorem cw_X8_init : lw_tbl[177]? = some (.code yX8_init cX8_init 1 none) := by decide +kernel
theorem cw_X8_forget : lw_tbl[546]? = some (.code yX8_forget cX8_forget 1 none) := by decide +kernel
theorem cw_X8_isMade : lw_tbl[599]? = some (.code yX8_isMade cX8_isMade 1 (some .boolean)) := by decide +kernel
theorem cw_X8_rindBy : lw_tbl[603]? = some (.code yX8_rindBy cX8_rindBy 3 (some .int)) := by decide +kernel
theorem cw_X9_init : lw_tbl[128]? = some (.code yX9_init cX9_init 2 none) := by decide +kernel
theorem cw_X9_row : lw_tbl[387]? = some (.code yX9_row cX9_row 4 (some .int)) := by decide +kernel
theorem cw_X9_lay : lw_tbl[409]? = some (.code yX9_lay cX9_lay 7 (some .int)) := by decide +kernel
theorem cw_X9_at : lw_tbl[441]? = some (.code yX9_at cX9_at 5 (some .int)) := by decide +kernel
theorem cw_X9_tear : lw_tbl[445]? = some (.code yX9_tear cX9_tear 4 (some .int)) := by decide +kernel
theorem cw_X9_copy : lw_tbl[449]? = some (.code yX9_copy cX9_copy 8 (some .int)) := by decide +kernel
theorem cw_X9_mean : lw_tbl[460]? = some (.code yX9_mean cX9_mean 4 (some .int)) := by decide +kernel
theorem cw_X9_text : lw_tbl[469]? = some (.code yX9_text cX9_text 4 (some .int)) := by decide +kernel
theorem cw_X9_put : lw_tbl[477]? = some (.code yX9_put cX9_put 7 (some .int)) := by decide +kernel
theorem cw_X9_fault : lw_tbl[481]? = some (.code yX9_fault cX9_fault 4 (some .int)) := by decide +kernel
theorem cw_X9_farm : lw_tbl[528]? = some (.code yX9_farm cX9_farm 4 (some .int)) := by decide +kernel
theorem cw_X9_wheel : lw_tbl[585]? = some (.code yX9_wheel cX9_wheel 4 (some .int)) := by decide +kernel
theorem cw_X9_mark : lw_tbl[608]? = some (.code yX9_mark cX9_mark 4 (some .int)) := by decide +kernel
theorem cw_X9_holds : lw_tbl[626]? = some (.code yX9_holds cX9_holds 3 (some .int)) := by decide +kernel
theorem cw_X9_anger : lw_tbl[634]? = some (.code yX9_anger cX9_anger 3 (some .int)) := by decide +kernel
theorem cw_X9_day : lw_tbl[648]? = some (.code yX9_day cX9_day 1 (some .int)) := by decide +kernel
theorem cw_X9_say : lw_tbl[664]? = some (.code yX9_say cX9_say 2 (some .int)) := by decide +kernel
theorem cw_X9_make : lw_tbl[668]? = some (.code yX9_make cX9_make 3 (some .int)) := by decide +kernel
theorem cw_X9_sell : lw_tbl[673]? = some (.code yX9_sell cX9_sell 3 (some .int)) := by decide +kernel
theorem cw_X9_undo : lw_tbl[678]? = some (.code yX9_undo cX9_undo 3 (some .int)) := by decide +kernel
theorem cw_X9_keep : lw_tbl[683]? = some (.code yX9_keep cX9_keep 3 (some .int)) := by decide +kernel
theorem cw_X9_on : lw_tbl[696]? = some (.code yX9_on cX9_on 3 (some .int)) := by decide +kernel
theorem cw_X9_peace : lw_tbl[704]? = some (.code yX9_peace cX9_peace 2 (some .int)) := by decide +kernel
theorem cw_X9_plan : lw_tbl[708]? = some (.code yX9_plan cX9_plan 11 (some .int)) := by decide +kernel
theorem cw_X9_through : lw_tbl[760]? = some (.code yX9_through cX9_through 5 (some .int)) := by decide +kernel
theorem cw_X9_about : lw_tbl[768]? = some (.code yX9_about cX9_about 8 (some .int)) := by decide +kernel
theorem cw_X9_sure : lw_tbl[797]? = some (.code yX9_sure cX9_sure 10 (some .int)) := by decide +kernel
theorem cw_X9_salts : lw_tbl[805]? = some (.code yX9_salts cX9_salts 8 (some .int)) := by decide +kernel
theorem cw_X9_kinds : lw_tbl[817]? = some (.code yX9_kinds cX9_kinds 6 (some .int)) := by decide +kernel
theorem cw_X9_test : lw_tbl[825]? = some (.code yX9_test cX9_test 11 (some .int)) := by decide +kernel
theorem cw_X9_shows : lw_tbl[834]? = some (.code yX9_shows cX9_shows 6 (some .int)) := by decide +kernel
theorem cw_X9_duel : lw_tbl[859]? = some (.code yX9_duel cX9_duel 2 (some .int)) := by decide +kernel
theorem cw_X9_odds : lw_tbl[871]? = some (.code yX9_odds cX9_odds 4 (some .int)) := by decide +kernel
theorem cw_X9_mid : lw_tbl[884]? = some (.code yX9_mid cX9_mid 4 (some .int)) := by decide +kernel
theorem cw_X9_lots : lw_tbl[888]? = some (.code yX9_lots cX9_lots 6 (some .int)) := by decide +kernel
theorem cw_X9_asked : lw_tbl[899]? = some (.code yX9_asked cX9_asked 1 (some .int)) := by decide +kernel
theorem cw_X9_upper : lw_tbl[903]? = some (.code yX9_upper cX9_upper 1 (some .long)) := by decide +kernel
theorem cw_X9_lower : lw_tbl[907]? = some (.code yX9_lower cX9_lower 1 (some .long)) := by decide +kernel
theorem cw_X9_count : lw_tbl[911]? = some (.code yX9_count cX9_count 2 (some .int)) := by decide +kernel
theorem cw_X9_finding : lw_tbl[940]? = some (.code yX9_finding cX9_finding 1 (some .int)) := by decide +kernel
theorem cw_X9_findings : lw_tbl[944]? = some (.code yX9_findings cX9_findings 2 (some .int)) := by decide +kernel
theorem cw_X9_digest : lw_tbl[952]? = some (.code yX9_digest cX9_digest 4 (some .long)) := by decide +kernel
theorem cw_X9_within : lw_tbl[501]? = some (.code yX9_within cX9_within 3 (some .boolean)) := by decide +kernel
theorem cw_X9_isMatter : lw_tbl[629]? = some (.code yX9_isMatter cX9_isMatter 1 (some .boolean)) := by decide +kernel
theorem cw_X9_rowOf : lw_tbl[391]? = some (.code yX9_rowOf cX9_rowOf 2 (some (.object "RindDates$Row"))) := by decide +kernel
theorem cw_X9_textOf : lw_tbl[473]? = some (.code yX9_textOf cX9_textOf 2 (some (.object "RindDates$Row"))) := by decide +kernel
theorem cw_X9_refusalOf : lw_tbl[417]? = some (.code yX9_refusalOf cX9_refusalOf 2 (some .int)) := by decide +kernel
theorem cw_X9_refusalOfPlace : lw_tbl[413]? = some (.code yX9_refusalOfPlace cX9_refusalOfPlace 4 (some .int)) := by decide +kernel
theorem cw_X9_isPlan : lw_tbl[763]? = some (.code yX9_isPlan cX9_isPlan 2 (some .boolean)) := by decide +kernel
theorem cw_X9_areChances : lw_tbl[874]? = some (.code yX9_areChances cX9_areChances 3 (some .boolean)) := by decide +kernel
theorem cw_X9_refusalOfAngers : lw_tbl[772]? = some (.code yX9_refusalOfAngers cX9_refusalOfAngers 2 (some .int)) := by decide +kernel
theorem cw_X9_refusalOfPairs : lw_tbl[809]? = some (.code yX9_refusalOfPairs cX9_refusalOfPairs 4 (some .int)) := by decide +kernel
theorem cw_X9_rindOf : lw_tbl[580]? = some (.code yX9_rindOf cX9_rindOf 6 (some .int)) := by decide +kernel
theorem cw_X9_isOf : lw_tbl[611]? = some (.code yX9_isOf cX9_isOf 2 (some .boolean)) := by decide +kernel
theorem cw_X9_markOf : lw_tbl[615]? = some (.code yX9_markOf cX9_markOf 5 (some .int)) := by decide +kernel
theorem cw_X9_fits : lw_tbl[813]? = some (.code yX9_fits cX9_fits 5 (some .boolean)) := by decide +kernel
theorem cw_X9_kindsBy : lw_tbl[821]? = some (.code yX9_kindsBy cX9_kindsBy 5 (some .int)) := by decide +kernel
theorem cw_X9_greatestPart : lw_tbl[829]? = some (.code yX9_greatestPart cX9_greatestPart 9 (some .int)) := by decide +kernel
theorem cw_X9_mostByNephew : lw_tbl[862]? = some (.code yX9_mostByNephew cX9_mostByNephew 6 (some .int)) := by decide +kernel
theorem cw_X9_leastByAunt : lw_tbl[865]? = some (.code yX9_leastByAunt cX9_leastByAunt 6 (some .int)) := by decide +kernel
theorem cw_X9_power : lw_tbl[734]? = some (.code yX9_power cX9_power 6 (some .long)) := by decide +kernel
theorem cw_X9_weighed : lw_tbl[878]? = some (.code yX9_weighed cX9_weighed 13 (some .long)) := by decide +kernel
theorem cw_X9_enactLot : lw_tbl[895]? = some (.code yX9_enactLot cX9_enactLot 5 none) := by decide +kernel
theorem cw_X9_counted : lw_tbl[915]? = some (.code yX9_counted cX9_counted 2 (some .int)) := by decide +kernel
theorem cw_X9_thereOf : lw_tbl[931]? = some (.code yX9_thereOf cX9_thereOf 3 (some .int)) := by decide +kernel
theorem cw_X9_digestOf : lw_tbl[964]? = some (.code yX9_digestOf cX9_digestOf 6 (some .long)) := by decide +kernel
theorem cw_X10_init : lw_tbl[974]? = some (.code yX10_init cX10_init 2 none) := by decide +kernel
theorem cw_X10_in : lw_tbl[1063]? = some (.code yX10_in cX10_in 6 (some .boolean)) := by decide +kernel
theorem cw_X10_finds : lw_tbl[1067]? = some (.code yX10_finds cX10_finds 2 (some .int)) := by decide +kernel
theorem cw_X10_asks : lw_tbl[1079]? = some (.code yX10_asks cX10_asks 2 (some .int)) := by decide +kernel
theorem cw_X10_isRow : lw_tbl[1059]? = some (.code yX10_isRow cX10_isRow 1 (some .boolean)) := by decide +kernel
theorem cw_X10_isText : lw_tbl[1099]? = some (.code yX10_isText cX10_isText 1 (some .boolean)) := by decide +kernel
theorem cw_X10_row : lw_tbl[1056]? = some (.code yX10_row cX10_row 4 (some .int)) := by decide +kernel
theorem cw_X10_lay : lw_tbl[1071]? = some (.code yX10_lay cX10_lay 5 (some .int)) := by decide +kernel
theorem cw_X10_at : lw_tbl[1075]? = some (.code yX10_at cX10_at 3 (some .int)) := by decide +kernel
theorem cw_X10_tear : lw_tbl[1084]? = some (.code yX10_tear cX10_tear 2 (some .int)) := by decide +kernel
theorem cw_X10_copy : lw_tbl[1088]? = some (.code yX10_copy cX10_copy 7 (some .int)) := by decide +kernel
theorem cw_X10_mean : lw_tbl[1092]? = some (.code yX10_mean cX10_mean 5 (some .int)) := by decide +kernel
theorem cw_X10_text : lw_tbl[1096]? = some (.code yX10_text cX10_text 4 (some .int)) := by decide +kernel
theorem cw_X10_put : lw_tbl[1104]? = some (.code yX10_put cX10_put 6 (some .int)) := by decide +kernel
theorem cw_X10_here : lw_tbl[1124]? = some (.code yX10_here cX10_here 2 (some .int)) := by decide +kernel
theorem cw_X10_skip : lw_tbl[1120]? = some (.code yX10_skip cX10_skip 2 none) := by decide +kernel
theorem cw_X10_takes : lw_tbl[1128]? = some (.code yX10_takes cX10_takes 5 (some .boolean)) := by decide +kernel
theorem cw_X10_takesFirst : lw_tbl[1116]? = some (.code yX10_takesFirst cX10_takesFirst 5 (some .boolean)) := by decide +kernel
theorem cw_X10_kindBy : lw_tbl[1137]? = some (.code yX10_kindBy cX10_kindBy 1 (some .int)) := by decide +kernel
theorem cw_X10_takesWheel : lw_tbl[1134]? = some (.code yX10_takesWheel cX10_takesWheel 4 (some .boolean)) := by decide +kernel
theorem cw_X10_faultOf : lw_tbl[1112]? = some (.code yX10_faultOf cX10_faultOf 3 (some .int)) := by decide +kernel
theorem cw_X10_fault : lw_tbl[1108]? = some (.code yX10_fault cX10_fault 2 (some .int)) := by decide +kernel
theorem cw_X10_farm : lw_tbl[1141]? = some (.code yX10_farm cX10_farm 3 (some .int)) := by decide +kernel
theorem cw_X10_begin : lw_tbl[1144]? = some (.code yX10_begin cX10_begin 2 none) := by decide +kernel
theorem cw_X10_angerOf : lw_tbl[1166]? = some (.code yX10_angerOf cX10_angerOf 3 (some .int)) := by decide +kernel
theorem cw_X10_isSilent : lw_tbl[1169]? = some (.code yX10_isSilent cX10_isSilent 1 (some .boolean)) := by decide +kernel
theorem cw_X10_rindAs : lw_tbl[1172]? = some (.code yX10_rindAs cX10_rindAs 7 (some .int)) := by decide +kernel
theorem cw_X10_rindNow : lw_tbl[1163]? = some (.code yX10_rindNow cX10_rindNow 2 (some .int)) := by decide +kernel
theorem cw_X10_passDay : lw_tbl[1199]? = some (.code yX10_passDay cX10_passDay 2 none) := by decide +kernel
theorem cw_X10_goSaying : lw_tbl[1213]? = some (.code yX10_goSaying cX10_goSaying 3 none) := by decide +kernel
theorem cw_X10_goDeed : lw_tbl[1210]? = some (.code yX10_goDeed cX10_goDeed 3 none) := by decide +kernel
theorem cw_X10_does : lw_tbl[1207]? = some (.code yX10_does cX10_does 2 none) := by decide +kernel
theorem cw_X10_isWheel : lw_tbl[1152]? = some (.code yX10_isWheel cX10_isWheel 2 (some .boolean)) := by decide +kernel
theorem cw_X10_isShelved : lw_tbl[1160]? = some (.code yX10_isShelved cX10_isShelved 2 (some .boolean)) := by decide +kernel
theorem cw_X10_toldOf : lw_tbl[1157]? = some (.code yX10_toldOf cX10_toldOf 3 (some .int)) := by decide +kernel
theorem cw_X10_wheel : lw_tbl[1148]? = some (.code yX10_wheel cX10_wheel 3 (some .int)) := by decide +kernel
theorem cw_X10_isOf : lw_tbl[1179]? = some (.code yX10_isOf cX10_isOf 2 (some .boolean)) := by decide +kernel
theorem cw_X10_mark : lw_tbl[1176]? = some (.code yX10_mark cX10_mark 6 (some .int)) := by decide +kernel
theorem cw_X10_manyShared : lw_tbl[1183]? = some (.code yX10_manyShared cX10_manyShared 3 (some .int)) := by decide +kernel
theorem cw_X10_holds : lw_tbl[1187]? = some (.code yX10_holds cX10_holds 3 (some .int)) := by decide +kernel
theorem cw_X10_layHand : lw_tbl[1196]? = some (.code yX10_layHand cX10_layHand 2 none) := by decide +kernel
theorem cw_X10_anger : lw_tbl[1191]? = some (.code yX10_anger cX10_anger 3 (some .int)) := by decide +kernel
theorem cw_X10_day : lw_tbl[1203]? = some (.code yX10_day cX10_day 1 (some .int)) := by decide +kernel
theorem cw_X10_say : lw_tbl[1217]? = some (.code yX10_say cX10_say 2 (some .int)) := by decide +kernel
theorem cw_X10_make : lw_tbl[1221]? = some (.code yX10_make cX10_make 2 (some .int)) := by decide +kernel
theorem cw_X10_sell : lw_tbl[1225]? = some (.code yX10_sell cX10_sell 2 (some .int)) := by decide +kernel
theorem cw_X10_undo : lw_tbl[1229]? = some (.code yX10_undo cX10_undo 4 (some .int)) := by decide +kernel
theorem cw_X10_isPlace : lw_tbl[1236]? = some (.code yX10_isPlace cX10_isPlace 1 (some .boolean)) := by decide +kernel
theorem cw_X10_keep : lw_tbl[1233]? = some (.code yX10_keep cX10_keep 3 (some .int)) := by decide +kernel
theorem cw_X10_on : lw_tbl[1241]? = some (.code yX10_on cX10_on 3 (some .int)) := by decide +kernel
theorem cw_X10_peace : lw_tbl[1245]? = some (.code yX10_peace cX10_peace 3 (some .int)) := by decide +kernel
theorem cw_X10_powerOfFive : lw_tbl[1253]? = some (.code yX10_powerOfFive cX10_powerOfFive 3 (some .int)) := by decide +kernel
theorem cw_X10_goPlanned : lw_tbl[1264]? = some (.code yX10_goPlanned cX10_goPlanned 2 none) := by decide +kernel
theorem cw_X10_saidOn : lw_tbl[1260]? = some (.code yX10_saidOn cX10_saidOn 3 (some .int)) := by decide +kernel
theorem cw_X10_goPlan : lw_tbl[1257]? = some (.code yX10_goPlan cX10_goPlan 6 (some .int)) := by decide +kernel
theorem cw_X10_plan : lw_tbl[1249]? = some (.code yX10_plan cX10_plan 9 (some .int)) := by decide +kernel
theorem cw_X10_through : lw_tbl[1268]? = some (.code yX10_through cX10_through 4 (some .int)) := by decide +kernel
theorem cw_X10_refusesAngers : lw_tbl[1276]? = some (.code yX10_refusesAngers cX10_refusesAngers 3 (some .int)) := by decide +kernel
theorem cw_X10_isSo : lw_tbl[1286]? = some (.code yX10_isSo cX10_isSo 6 (some .boolean)) := by decide +kernel
theorem cw_X10_layPlans : lw_tbl[1282]? = some (.code yX10_layPlans cX10_layPlans 7 none) := by decide +kernel
theorem cw_X10_about : lw_tbl[1272]? = some (.code yX10_about cX10_about 4 (some .int)) := by decide +kernel
theorem cw_X10_sure : lw_tbl[1290]? = some (.code yX10_sure cX10_sure 4 (some .int)) := by decide +kernel
theorem cw_X10_refusesPairs : lw_tbl[1298]? = some (.code yX10_refusesPairs cX10_refusesPairs 4 (some .int)) := by decide +kernel
theorem cw_X10_rindBy : lw_tbl[1307]? = some (.code yX10_rindBy cX10_rindBy 4 (some .int)) := by decide +kernel
theorem cw_X10_fits : lw_tbl[1303]? = some (.code yX10_fits cX10_fits 6 (some .boolean)) := by decide +kernel
theorem cw_X10_salts : lw_tbl[1294]? = some (.code yX10_salts cX10_salts 6 (some .int)) := by decide +kernel
theorem cw_X10_kindsOf : lw_tbl[1315]? = some (.code yX10_kindsOf cX10_kindsOf 5 (some .int)) := by decide +kernel
theorem cw_X10_kinds : lw_tbl[1311]? = some (.code yX10_kinds cX10_kinds 4 (some .int)) := by decide +kernel
theorem cw_X10_greatestPart : lw_tbl[1323]? = some (.code yX10_greatestPart cX10_greatestPart 8 (some .int)) := by decide +kernel
theorem cw_X10_test : lw_tbl[1319]? = some (.code yX10_test cX10_test 9 (some .int)) := by decide +kernel
theorem cw_X10_manyBy : lw_tbl[1331]? = some (.code yX10_manyBy cX10_manyBy 9 (some .int)) := by decide +kernel
theorem cw_X10_shows : lw_tbl[1327]? = some (.code yX10_shows cX10_shows 9 (some .int)) := by decide +kernel
theorem cw_X10_goTurn : lw_tbl[1343]? = some (.code yX10_goTurn cX10_goTurn 3 none) := by decide +kernel
theorem cw_X10_manyChoices : lw_tbl[1346]? = some (.code yX10_manyChoices cX10_manyChoices 1 (some .int)) := by decide +kernel
theorem cw_X10_layChoices : lw_tbl[1339]? = some (.code yX10_layChoices cX10_layChoices 3 none) := by decide +kernel
theorem cw_X10_duel : lw_tbl[1335]? = some (.code yX10_duel cX10_duel 6 (some .int)) := by decide +kernel
theorem cw_X10_fraction : lw_tbl[1359]? = some (.code yX10_fraction cX10_fraction 11 none) := by decide +kernel
theorem cw_X10_goOdds : lw_tbl[1354]? = some (.code yX10_goOdds cX10_goOdds 14 (some .int)) := by decide +kernel
theorem cw_X10_odds : lw_tbl[1350]? = some (.code yX10_odds cX10_odds 4 (some .int)) := by decide +kernel
theorem cw_X10_mid : lw_tbl[1363]? = some (.code yX10_mid cX10_mid 4 (some .int)) := by decide +kernel
theorem cw_X10_lots : lw_tbl[1367]? = some (.code yX10_lots cX10_lots 7 (some .int)) := by decide +kernel
theorem cw_X10_asked : lw_tbl[1375]? = some (.code yX10_asked cX10_asked 1 (some .int)) := by decide +kernel
theorem cw_X10_upper : lw_tbl[1379]? = some (.code yX10_upper cX10_upper 1 (some .long)) := by decide +kernel
theorem cw_X10_lower : lw_tbl[1383]? = some (.code yX10_lower cX10_lower 1 (some .long)) := by decide +kernel
theorem cw_X10_shelf : lw_tbl[1396]? = some (.code yX10_shelf cX10_shelf 4 (some .int)) := by decide +kernel
theorem cw_X10_manyThere : lw_tbl[1403]? = some (.code yX10_manyThere cX10_manyThere 3 (some .int)) := by decide +kernel
theorem cw_X10_counted : lw_tbl[1392]? = some (.code yX10_counted cX10_counted 2 (some .int)) := by decide +kernel
theorem cw_X10_manyOld : lw_tbl[1400]? = some (.code yX10_manyOld cX10_manyOld 3 (some .int)) := by decide +kernel
theorem cw_X10_count : lw_tbl[1387]? = some (.code yX10_count cX10_count 2 (some .int)) := by decide +kernel
theorem cw_X10_finding : lw_tbl[1407]? = some (.code yX10_finding cX10_finding 1 (some .int)) := by decide +kernel
theorem cw_X10_findings : lw_tbl[1411]? = some (.code yX10_findings cX10_findings 2 (some .int)) := by decide +kernel
theorem cw_X10_digest : lw_tbl[1415]? = some (.code yX10_digest cX10_digest 5 (some .long)) := by decide +kernel
theorem cw_J9_max_7cf53 : lw_tbl[344]? = some (.code yJ9_max_7cf53 cJ9_max_7cf53 2 (some .int)) := by decide +kernel
theorem cw_J9_min_7cf53 : lw_tbl[405]? = some (.code yJ9_min_7cf53 cJ9_min_7cf53 2 (some .int)) := by decide +kernel
theorem cw_J7_fill_53178 : lw_tbl[402]? = some (.code yJ7_fill_53178 cJ7_fill_53178 4 none) := by decide +kernel
