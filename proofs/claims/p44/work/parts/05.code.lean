/-! the code words, one by one (each by its place) -/
theorem cw_X0_init : lw_tbl[120]? = some (.code yX0_init cX0_init 1 none) := by decide +kernel
theorem cw_X0_isMissing : lw_tbl[610]? = some (.code yX0_isMissing cX0_isMissing 1 (some .boolean)) := by decide +kernel
theorem cw_X0_hasRoom : lw_tbl[562]? = some (.code yX0_hasRoom cX0_hasRoom 2 (some .boolean)) := by decide +kernel
theorem cw_X0_add : lw_tbl[570]? = some (.code yX0_add cX0_add 3 none) := by decide +kernel
theorem cw_X0_takeFrom : lw_tbl[601]? = some (.code yX0_takeFrom cX0_takeFrom 2 none) := by decide +kernel
theorem cw_X1_init : lw_tbl[101]? = some (.code yX1_init cX1_init 2 none) := by decide +kernel
theorem cw_X1_isEmpty : lw_tbl[547]? = some (.code yX1_isEmpty cX1_isEmpty 1 (some .boolean)) := by decide +kernel
theorem cw_X1_wheelOf : lw_tbl[496]? = some (.code yX1_wheelOf cX1_wheelOf 2 (some (.object "RindDates$Wheel"))) := by decide +kernel
theorem cw_X1_keptOf : lw_tbl[597]? = some (.code yX1_keptOf cX1_keptOf 2 (some (.object "RindDates$Deeds"))) := by decide +kernel
theorem cw_X1_isSilentBy : lw_tbl[554]? = some (.code yX1_isSilentBy cX1_isSilentBy 2 (some .boolean)) := by decide +kernel
theorem cw_X1_begin : lw_tbl[457]? = some (.code yX1_begin cX1_begin 3 none) := by decide +kernel
theorem cw_X1_replay : lw_tbl[469]? = some (.code yX1_replay cX1_replay 2 none) := by decide +kernel
theorem cw_X1_enact : lw_tbl[566]? = some (.code yX1_enact cX1_enact 3 none) := by decide +kernel
theorem cw_X1_act : lw_tbl[477]? = some (.code yX1_act cX1_act 3 none) := by decide +kernel
theorem cw_X1_actOn : lw_tbl[500]? = some (.code yX1_actOn cX1_actOn 3 none) := by decide +kernel
theorem cw_X1_isOnShelf : lw_tbl[522]? = some (.code yX1_isOnShelf cX1_isOnShelf 2 (some .boolean)) := by decide +kernel
theorem cw_X1_tellOf : lw_tbl[518]? = some (.code yX1_tellOf cX1_tellOf 3 (some .int)) := by decide +kernel
theorem cw_X1_shelfBits : lw_tbl[832]? = some (.code yX1_shelfBits cX1_shelfBits 3 (some .int)) := by decide +kernel
theorem cw_X1_shelfRind : lw_tbl[836]? = some (.code yX1_shelfRind cX1_shelfRind 3 (some .int)) := by decide +kernel
theorem cw_X1_oldWheels : lw_tbl[840]? = some (.code yX1_oldWheels cX1_oldWheels 3 (some .int)) := by decide +kernel
theorem cw_X1_keptThere : lw_tbl[850]? = some (.code yX1_keptThere cX1_keptThere 3 (some .int)) := by decide +kernel
theorem cw_X1_digestFrom : lw_tbl[861]? = some (.code yX1_digestFrom cX1_digestFrom 7 (some .long)) := by decide +kernel
theorem cw_X2_init : lw_tbl[107]? = some (.code yX2_init cX2_init 1 none) := by decide +kernel
theorem cw_X2_get : lw_tbl[490]? = some (.code yX2_get cX2_get 4 (some .int)) := by decide +kernel
theorem cw_X2_set : lw_tbl[438]? = some (.code yX2_set cX2_set 5 none) := by decide +kernel
theorem cw_X2_takeFrom : lw_tbl[461]? = some (.code yX2_takeFrom cX2_takeFrom 2 none) := by decide +kernel
theorem cw_X2_total : lw_tbl[504]? = some (.code yX2_total cX2_total 3 (some .int)) := by decide +kernel
theorem cw_X2_passDay : lw_tbl[481]? = some (.code yX2_passDay cX2_passDay 2 none) := by decide +kernel
theorem cw_X2_raise : lw_tbl[486]? = some (.code yX2_raise cX2_raise 2 none) := by decide +kernel
theorem cw_X2_passDayWith : lw_tbl[634]? = some (.code yX2_passDayWith cX2_passDayWith 2 none) := by decide +kernel
theorem cw_X3_init : lw_tbl[241]? = some (.code yX3_init cX3_init 2 none) := by decide +kernel
theorem cw_X3_begin : lw_tbl[622]? = some (.code yX3_begin cX3_begin 3 none) := by decide +kernel
theorem cw_X3_howMany : lw_tbl[640]? = some (.code yX3_howMany cX3_howMany 1 (some .int)) := by decide +kernel
theorem cw_X3_advance : lw_tbl[664]? = some (.code yX3_advance cX3_advance 2 none) := by decide +kernel
theorem cw_X3_after : lw_tbl[667]? = some (.code yX3_after cX3_after 1 (some .int)) := by decide +kernel
theorem cw_X3_reckonFrom : lw_tbl[630]? = some (.code yX3_reckonFrom cX3_reckonFrom 3 none) := by decide +kernel
theorem cw_X3_lastAnger : lw_tbl[652]? = some (.code yX3_lastAnger cX3_lastAnger 1 (some .int)) := by decide +kernel
theorem cw_X3_firstSaid : lw_tbl[698]? = some (.code yX3_firstSaid cX3_firstSaid 1 (some .int)) := by decide +kernel
theorem cw_X3_sayings : lw_tbl[648]? = some (.code yX3_sayings cX3_sayings 3 (some .int)) := by decide +kernel
theorem cw_X3_mattersSaid : lw_tbl[713]? = some (.code yX3_mattersSaid cX3_mattersSaid 3 (some .int)) := by decide +kernel
theorem cw_X3_leadsBy : lw_tbl[693]? = some (.code yX3_leadsBy cX3_leadsBy 3 (some .boolean)) := by decide +kernel
theorem cw_X3_writeTo : lw_tbl[658]? = some (.code yX3_writeTo cX3_writeTo 3 none) := by decide +kernel
theorem cw_X4_init : lw_tbl[205]? = some (.code yX4_init cX4_init 1 none) := by decide +kernel
theorem cw_X4_read : lw_tbl[414]? = some (.code yX4_read cX4_read 3 (some .int)) := by decide +kernel
theorem cw_X4_skipBlanks : lw_tbl[418]? = some (.code yX4_skipBlanks cX4_skipBlanks 2 none) := by decide +kernel
theorem cw_X4_hasFigure : lw_tbl[427]? = some (.code yX4_hasFigure cX4_hasFigure 2 (some .boolean)) := by decide +kernel
theorem cw_X4_takeFigure : lw_tbl[434]? = some (.code yX4_takeFigure cX4_takeFigure 3 (some .int)) := by decide +kernel
theorem cw_X4_readBrothers : lw_tbl[423]? = some (.code yX4_readBrothers cX4_readBrothers 3 (some .int)) := by decide +kernel
theorem cw_X4_readLimit : lw_tbl[442]? = some (.code yX4_readLimit cX4_readLimit 4 (some .int)) := by decide +kernel
theorem cw_X4_readWheels : lw_tbl[446]? = some (.code yX4_readWheels cX4_readWheels 3 (some .int)) := by decide +kernel
theorem cw_X4_readWheel : lw_tbl[450]? = some (.code yX4_readWheel cX4_readWheel 5 (some .boolean)) := by decide +kernel
theorem cw_X4_kindBy : lw_tbl[453]? = some (.code yX4_kindBy cX4_kindBy 1 (some .int)) := by decide +kernel
theorem cw_X5_init : lw_tbl[302]? = some (.code yX5_init cX5_init 3 none) := by decide +kernel
theorem cw_X5_isMissing : lw_tbl[382]? = some (.code yX5_isMissing cX5_isMissing 1 (some .boolean)) := by decide +kernel
theorem cw_X5_renew : lw_tbl[360]? = some (.code yX5_renew cX5_renew 2 none) := by decide +kernel
theorem cw_X5_hasPlace : lw_tbl[386]? = some (.code yX5_hasPlace cX5_hasPlace 2 (some .boolean)) := by decide +kernel
theorem cw_X5_get : lw_tbl[390]? = some (.code yX5_get cX5_get 2 (some .int)) := by decide +kernel
theorem cw_X5_set : lw_tbl[394]? = some (.code yX5_set cX5_set 3 none) := by decide +kernel
theorem cw_X5_isWithin : lw_tbl[687]? = some (.code yX5_isWithin cX5_isWithin 3 (some .boolean)) := by decide +kernel
theorem cw_X5_digestFrom : lw_tbl[871]? = some (.code yX5_digestFrom cX5_digestFrom 6 (some .long)) := by decide +kernel
theorem cw_X6_init : lw_tbl[260]? = some (.code yX6_init cX6_init 1 none) := by decide +kernel
theorem cw_X6_fillFrom : lw_tbl[751]? = some (.code yX6_fillFrom cX6_fillFrom 8 (some .int)) := by decide +kernel
theorem cw_X6_filledBy : lw_tbl[758]? = some (.code yX6_filledBy cX6_filledBy 12 (some .int)) := by decide +kernel
theorem cw_X6_writeTo : lw_tbl[766]? = some (.code yX6_writeTo cX6_writeTo 3 none) := by decide +kernel
theorem cw_X7_init : lw_tbl[278]? = some (.code yX7_init cX7_init 1 none) := by decide +kernel
theorem cw_X7_refuse : lw_tbl[356]? = some (.code yX7_refuse cX7_refuse 2 (some .int)) := by decide +kernel
theorem cw_X7_tell : lw_tbl[398]? = some (.code yX7_tell cX7_tell 2 (some .int)) := by decide +kernel
theorem cw_X7_tellParts : lw_tbl[702]? = some (.code yX7_tellParts cX7_tellParts 7 none) := by decide +kernel
theorem cw_X7_commonPart : lw_tbl[705]? = some (.code yX7_commonPart cX7_commonPart 11 (some .long)) := by decide +kernel
theorem cw_X8_init : lw_tbl[140]? = some (.code yX8_init cX8_init 1 none) := by decide +kernel
theorem cw_X8_forget : lw_tbl[473]? = some (.code yX8_forget cX8_forget 1 none) := by decide +kernel
theorem cw_X8_isMade : lw_tbl[526]? = some (.code yX8_isMade cX8_isMade 1 (some .boolean)) := by decide +kernel
theorem cw_X8_rindBy : lw_tbl[530]? = some (.code yX8_rindBy cX8_rindBy 3 (some .int)) := by decide +kernel
theorem cw_X9_init : lw_tbl[91]? = some (.code yX9_init cX9_init 2 none) := by decide +kernel
theorem cw_X9_row : lw_tbl[348]? = some (.code yX9_row cX9_row 4 (some .int)) := by decide +kernel
theorem cw_X9_lay : lw_tbl[370]? = some (.code yX9_lay cX9_lay 7 (some .int)) := by decide +kernel
theorem cw_X9_at : lw_tbl[402]? = some (.code yX9_at cX9_at 5 (some .int)) := by decide +kernel
theorem cw_X9_text : lw_tbl[890]? = some (.code yX9_text cX9_text 4 (some .int)) := by decide +kernel
theorem cw_X9_put : lw_tbl[894]? = some (.code yX9_put cX9_put 7 (some .int)) := by decide +kernel
theorem cw_X9_farm : lw_tbl[406]? = some (.code yX9_farm cX9_farm 4 (some .int)) := by decide +kernel
theorem cw_X9_wheel : lw_tbl[512]? = some (.code yX9_wheel cX9_wheel 4 (some .int)) := by decide +kernel
theorem cw_X9_holds : lw_tbl[535]? = some (.code yX9_holds cX9_holds 3 (some .int)) := by decide +kernel
theorem cw_X9_anger : lw_tbl[543]? = some (.code yX9_anger cX9_anger 3 (some .int)) := by decide +kernel
theorem cw_X9_day : lw_tbl[558]? = some (.code yX9_day cX9_day 1 (some .int)) := by decide +kernel
theorem cw_X9_say : lw_tbl[574]? = some (.code yX9_say cX9_say 2 (some .int)) := by decide +kernel
theorem cw_X9_make : lw_tbl[578]? = some (.code yX9_make cX9_make 3 (some .int)) := by decide +kernel
theorem cw_X9_sell : lw_tbl[583]? = some (.code yX9_sell cX9_sell 3 (some .int)) := by decide +kernel
theorem cw_X9_undo : lw_tbl[588]? = some (.code yX9_undo cX9_undo 3 (some .int)) := by decide +kernel
theorem cw_X9_keep : lw_tbl[593]? = some (.code yX9_keep cX9_keep 3 (some .int)) := by decide +kernel
theorem cw_X9_on : lw_tbl[606]? = some (.code yX9_on cX9_on 3 (some .int)) := by decide +kernel
theorem cw_X9_peace : lw_tbl[614]? = some (.code yX9_peace cX9_peace 2 (some .int)) := by decide +kernel
theorem cw_X9_plan : lw_tbl[618]? = some (.code yX9_plan cX9_plan 11 (some .int)) := by decide +kernel
theorem cw_X9_through : lw_tbl[671]? = some (.code yX9_through cX9_through 5 (some .int)) := by decide +kernel
theorem cw_X9_about : lw_tbl[679]? = some (.code yX9_about cX9_about 8 (some .int)) := by decide +kernel
theorem cw_X9_sure : lw_tbl[709]? = some (.code yX9_sure cX9_sure 10 (some .int)) := by decide +kernel
theorem cw_X9_salts : lw_tbl[717]? = some (.code yX9_salts cX9_salts 8 (some .int)) := by decide +kernel
theorem cw_X9_kinds : lw_tbl[730]? = some (.code yX9_kinds cX9_kinds 6 (some .int)) := by decide +kernel
theorem cw_X9_test : lw_tbl[738]? = some (.code yX9_test cX9_test 11 (some .int)) := by decide +kernel
theorem cw_X9_shows : lw_tbl[747]? = some (.code yX9_shows cX9_shows 6 (some .int)) := by decide +kernel
theorem cw_X9_duel : lw_tbl[772]? = some (.code yX9_duel cX9_duel 2 (some .int)) := by decide +kernel
theorem cw_X9_odds : lw_tbl[784]? = some (.code yX9_odds cX9_odds 4 (some .int)) := by decide +kernel
theorem cw_X9_mid : lw_tbl[797]? = some (.code yX9_mid cX9_mid 4 (some .int)) := by decide +kernel
theorem cw_X9_lots : lw_tbl[801]? = some (.code yX9_lots cX9_lots 6 (some .int)) := by decide +kernel
theorem cw_X9_asked : lw_tbl[812]? = some (.code yX9_asked cX9_asked 1 (some .int)) := by decide +kernel
theorem cw_X9_upper : lw_tbl[816]? = some (.code yX9_upper cX9_upper 1 (some .long)) := by decide +kernel
theorem cw_X9_lower : lw_tbl[820]? = some (.code yX9_lower cX9_lower 1 (some .long)) := by decide +kernel
theorem cw_X9_count : lw_tbl[824]? = some (.code yX9_count cX9_count 2 (some .int)) := by decide +kernel
theorem cw_X9_digest : lw_tbl[855]? = some (.code yX9_digest cX9_digest 4 (some .long)) := by decide +kernel
theorem cw_X9_within : lw_tbl[430]? = some (.code yX9_within cX9_within 3 (some .boolean)) := by decide +kernel
theorem cw_X9_isMatter : lw_tbl[538]? = some (.code yX9_isMatter cX9_isMatter 1 (some .boolean)) := by decide +kernel
theorem cw_X9_rowOf : lw_tbl[352]? = some (.code yX9_rowOf cX9_rowOf 2 (some (.object "RindDates$Row"))) := by decide +kernel
theorem cw_X9_textOf : lw_tbl[410]? = some (.code yX9_textOf cX9_textOf 2 (some (.object "RindDates$Row"))) := by decide +kernel
theorem cw_X9_refusalOf : lw_tbl[378]? = some (.code yX9_refusalOf cX9_refusalOf 2 (some .int)) := by decide +kernel
theorem cw_X9_refusalOfPlace : lw_tbl[374]? = some (.code yX9_refusalOfPlace cX9_refusalOfPlace 4 (some .int)) := by decide +kernel
theorem cw_X9_isPlan : lw_tbl[674]? = some (.code yX9_isPlan cX9_isPlan 2 (some .boolean)) := by decide +kernel
theorem cw_X9_areChances : lw_tbl[787]? = some (.code yX9_areChances cX9_areChances 3 (some .boolean)) := by decide +kernel
theorem cw_X9_refusalOfAngers : lw_tbl[683]? = some (.code yX9_refusalOfAngers cX9_refusalOfAngers 2 (some .int)) := by decide +kernel
theorem cw_X9_refusalOfPairs : lw_tbl[721]? = some (.code yX9_refusalOfPairs cX9_refusalOfPairs 4 (some .int)) := by decide +kernel
theorem cw_X9_rindOf : lw_tbl[507]? = some (.code yX9_rindOf cX9_rindOf 6 (some .int)) := by decide +kernel
theorem cw_X9_isOf : lw_tbl[843]? = some (.code yX9_isOf cX9_isOf 2 (some .boolean)) := by decide +kernel
theorem cw_X9_fits : lw_tbl[725]? = some (.code yX9_fits cX9_fits 5 (some .boolean)) := by decide +kernel
theorem cw_X9_kindsBy : lw_tbl[734]? = some (.code yX9_kindsBy cX9_kindsBy 5 (some .int)) := by decide +kernel
theorem cw_X9_greatestPart : lw_tbl[742]? = some (.code yX9_greatestPart cX9_greatestPart 9 (some .int)) := by decide +kernel
theorem cw_X9_mostByNephew : lw_tbl[775]? = some (.code yX9_mostByNephew cX9_mostByNephew 6 (some .int)) := by decide +kernel
theorem cw_X9_leastByAunt : lw_tbl[778]? = some (.code yX9_leastByAunt cX9_leastByAunt 6 (some .int)) := by decide +kernel
theorem cw_X9_power : lw_tbl[644]? = some (.code yX9_power cX9_power 6 (some .long)) := by decide +kernel
theorem cw_X9_weighed : lw_tbl[791]? = some (.code yX9_weighed cX9_weighed 13 (some .long)) := by decide +kernel
theorem cw_X9_enactLot : lw_tbl[808]? = some (.code yX9_enactLot cX9_enactLot 5 none) := by decide +kernel
theorem cw_X9_counted : lw_tbl[828]? = some (.code yX9_counted cX9_counted 2 (some .int)) := by decide +kernel
theorem cw_X9_thereOf : lw_tbl[846]? = some (.code yX9_thereOf cX9_thereOf 3 (some .int)) := by decide +kernel
theorem cw_X9_digestOf : lw_tbl[867]? = some (.code yX9_digestOf cX9_digestOf 6 (some .long)) := by decide +kernel
theorem cw_J9_max_7cf53 : lw_tbl[306]? = some (.code yJ9_max_7cf53 cJ9_max_7cf53 2 (some .int)) := by decide +kernel
theorem cw_J9_min_7cf53 : lw_tbl[366]? = some (.code yJ9_min_7cf53 cJ9_min_7cf53 2 (some .int)) := by decide +kernel
theorem cw_J7_fill_53178 : lw_tbl[363]? = some (.code yJ7_fill_53178 cJ7_fill_53178 4 none) := by decide +kernel
theorem cw_L_cell : lw_tbl[875]? = some (.code yL_cell cL_cell 2 (some .int)) := by decide +kernel
theorem cw_L_up : lw_tbl[879]? = some (.code yL_up cL_up 2 (some .int)) := by decide +kernel
theorem cw_L_lay : lw_tbl[883]? = some (.code yL_lay cL_lay 4 none) := by decide +kernel
theorem cw_L_letter : lw_tbl[897]? = some (.code yL_letter cL_letter 1 (some .int)) := by decide +kernel
theorem cw_L_made : lw_tbl[886]? = some (.code yL_made cL_made 5 (some .boolean)) := by decide +kernel
theorem cw_L_bits : lw_tbl[900]? = some (.code yL_bits cL_bits 3 (some .int)) := by decide +kernel
theorem cw_L_laid : lw_tbl[903]? = some (.code yL_laid cL_laid 7 (some .boolean)) := by decide +kernel
theorem cw_L_does : lw_tbl[906]? = some (.code yL_does cL_does 7 (some .int)) := by decide +kernel
