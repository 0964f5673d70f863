set_option maxRecDepth 100000 in
theorem mc_0 : lw_tbl[352]? = some (.code yX5_thing cX5_thing 2 (some .int)) := rfl
set_option maxRecDepth 100000 in
theorem mc_1 : lw_tbl[355]? = some (.code yX5_within cX5_within 3 (some .boolean)) := rfl
set_option maxRecDepth 100000 in
theorem mc_2 : lw_tbl[359]? = some (.code yX5_finding cX5_finding 2 (some .int)) := rfl
set_option maxRecDepth 100000 in
theorem mc_3 : lw_tbl[364]? = some (.code yX1_addThing cX1_addThing 3 (some .int)) := rfl
set_option maxRecDepth 100000 in
theorem mc_4 : lw_tbl[368]? = some (.code yX1_putAside cX1_putAside 3 none) := rfl
set_option maxRecDepth 100000 in
theorem mc_5 : lw_tbl[372]? = some (.code yX5_of cX5_of 3 (some .int)) := rfl
set_option maxRecDepth 100000 in
theorem mc_6 : lw_tbl[376]? = some (.code yX5_isThing cX5_isThing 2 (some .boolean)) := rfl
set_option maxRecDepth 100000 in
theorem mc_7 : lw_tbl[380]? = some (.code yX1_told cX1_told 3 (some .int)) := rfl
set_option maxRecDepth 100000 in
theorem mc_8 : lw_tbl[387]? = some (.code yX2_left cX2_left 3 (some .int)) := rfl
set_option maxRecDepth 100000 in
theorem mc_9 : lw_tbl[394]? = some (.code yX5_change cX5_change 5 (some .int)) := rfl
set_option maxRecDepth 100000 in
theorem mc_10 : lw_tbl[397]? = some (.code yX5_isFit cX5_isFit 2 (some .boolean)) := rfl
set_option maxRecDepth 100000 in
theorem mc_11 : lw_tbl[401]? = some (.code yX1_alter cX1_alter 4 none) := rfl
set_option maxRecDepth 100000 in
theorem mc_12 : lw_tbl[405]? = some (.code yX5_rule cX5_rule 5 (some .int)) := rfl
set_option maxRecDepth 100000 in
theorem mc_13 : lw_tbl[409]? = some (.code yX5_fed cX5_fed 2 (some .int)) := rfl
set_option maxRecDepth 100000 in
theorem mc_14 : lw_tbl[413]? = some (.code yX1_isOut cX1_isOut 2 (some .boolean)) := rfl
set_option maxRecDepth 100000 in
theorem mc_15 : lw_tbl[417]? = some (.code yX1_hasRoom cX1_hasRoom 2 (some .boolean)) := rfl
set_option maxRecDepth 100000 in
theorem mc_16 : lw_tbl[421]? = some (.code yX1_bulkIn cX1_bulkIn 3 (some .int)) := rfl
set_option maxRecDepth 100000 in
theorem mc_17 : lw_tbl[425]? = some (.code yX1_swallow cX1_swallow 2 none) := rfl
set_option maxRecDepth 100000 in
theorem mc_18 : lw_tbl[429]? = some (.code yX5_home cX5_home 2 (some .int)) := rfl
set_option maxRecDepth 100000 in
theorem mc_19 : lw_tbl[433]? = some (.code yX0_latestWorth cX0_latestWorth 3 (some .int)) := rfl
set_option maxRecDepth 100000 in
theorem mc_20 : lw_tbl[437]? = some (.code yX0_eggsKept cX0_eggsKept 1 (some .int)) := rfl
set_option maxRecDepth 100000 in
theorem mc_21 : lw_tbl[444]? = some (.code yX5_crop cX5_crop 2 (some .int)) := rfl
set_option maxRecDepth 100000 in
theorem mc_22 : lw_tbl[448]? = some (.code yX5_egg cX5_egg 3 (some .int)) := rfl
set_option maxRecDepth 100000 in
theorem mc_23 : lw_tbl[453]? = some (.code yX5_days cX5_days 4 (some .int)) := rfl
set_option maxRecDepth 100000 in
theorem mc_24 : lw_tbl[456]? = some (.code yX5_isDays cX5_isDays 1 (some .boolean)) := rfl
set_option maxRecDepth 100000 in
theorem mc_25 : lw_tbl[460]? = some (.code yX5_isTooLate cX5_isTooLate 2 (some .boolean)) := rfl
set_option maxRecDepth 100000 in
theorem mc_26 : lw_tbl[464]? = some (.code yX0_liveDay cX0_liveDay 2 (some .int)) := rfl
set_option maxRecDepth 100000 in
theorem mc_27 : lw_tbl[468]? = some (.code yX1_passDay cX1_passDay 1 (some .int)) := rfl
set_option maxRecDepth 100000 in
theorem mc_28 : lw_tbl[472]? = some (.code yX1_grow cX1_grow 3 none) := rfl
set_option maxRecDepth 100000 in
theorem mc_29 : lw_tbl[476]? = some (.code yX1_stainsAt cX1_stainsAt 2 (some .int)) := rfl
set_option maxRecDepth 100000 in
theorem mc_30 : lw_tbl[481]? = some (.code yX1_layFront cX1_layFront 2 none) := rfl
set_option maxRecDepth 100000 in
theorem mc_31 : lw_tbl[488]? = some (.code yX0_keepEgg cX0_keepEgg 1 none) := rfl
set_option maxRecDepth 100000 in
theorem mc_32 : lw_tbl[493]? = some (.code yX5_now cX5_now 3 (some .int)) := rfl
set_option maxRecDepth 100000 in
theorem mc_33 : lw_tbl[498]? = some (.code yX5_ahead cX5_ahead 4 (some .int)) := rfl
set_option maxRecDepth 100000 in
theorem mc_34 : lw_tbl[502]? = some (.code yX1_become cX1_become 2 none) := rfl
set_option maxRecDepth 100000 in
theorem mc_35 : lw_tbl[506]? = some (.code yX1_pass cX1_pass 4 (some .int)) := rfl
set_option maxRecDepth 100000 in
theorem mc_36 : lw_tbl[511]? = some (.code yX1_stainIn cX1_stainIn 3 (some .int)) := rfl
set_option maxRecDepth 100000 in
theorem mc_37 : lw_tbl[515]? = some (.code yX5_when cX5_when 4 (some .int)) := rfl
set_option maxRecDepth 100000 in
theorem mc_38 : lw_tbl[519]? = some (.code yX5_unlookable cX5_unlookable 2 (some .int)) := rfl
set_option maxRecDepth 100000 in
theorem mc_39 : lw_tbl[523]? = some (.code yX5_daysUntilLaid cX5_daysUntilLaid 3 (some .int)) := rfl
set_option maxRecDepth 100000 in
theorem mc_40 : lw_tbl[528]? = some (.code yX5_worth cX5_worth 3 (some .int)) := rfl
set_option maxRecDepth 100000 in
theorem mc_41 : lw_tbl[532]? = some (.code yX5_spoils cX5_spoils 2 (some .int)) := rfl
set_option maxRecDepth 100000 in
theorem mc_42 : lw_tbl[536]? = some (.code yX5_plan cX5_plan 3 (some .int)) := rfl
set_option maxRecDepth 100000 in
theorem mc_43 : lw_tbl[540]? = some (.code yX5_isSet cX5_isSet 2 (some .boolean)) := rfl
set_option maxRecDepth 100000 in
theorem mc_44 : lw_tbl[544]? = some (.code yX5_areOut cX5_areOut 3 (some .boolean)) := rfl
set_option maxRecDepth 100000 in
theorem mc_45 : lw_tbl[548]? = some (.code yX5_fillRow cX5_fillRow 4 (some .int)) := rfl
set_option maxRecDepth 100000 in
theorem mc_46 : lw_tbl[552]? = some (.code yX5_bring cX5_bring 5 (some .int)) := rfl
set_option maxRecDepth 100000 in
theorem mc_47 : lw_tbl[556]? = some (.code yX5_passFeedingDay cX5_passFeedingDay 3 (some .int)) := rfl
set_option maxRecDepth 100000 in
theorem mc_48 : lw_tbl[560]? = some (.code yX5_best cX5_best 4 (some .int)) := rfl
set_option maxRecDepth 100000 in
theorem mc_49 : lw_tbl[564]? = some (.code yX5_unorderable cX5_unorderable 3 (some .int)) := rfl
set_option maxRecDepth 100000 in
theorem mc_50 : lw_tbl[567]? = some (.code yJ6_bitCount_0f7a4 cJ6_bitCount_0f7a4 1 (some .int)) := rfl
set_option maxRecDepth 100000 in
theorem mc_51 : lw_tbl[574]? = some (.code yX5_findBestRow cX5_findBestRow 8 (some .int)) := rfl
set_option maxRecDepth 100000 in
theorem mc_52 : lw_tbl[580]? = some (.code yX5_turnRow cX5_turnRow 6 (some .boolean)) := rfl
set_option maxRecDepth 100000 in
theorem mc_53 : lw_tbl[584]? = some (.code yX5_swapInRow cX5_swapInRow 4 none) := rfl
set_option maxRecDepth 100000 in
theorem mc_54 : lw_tbl[588]? = some (.code yX5_ith cX5_ith 5 (some .int)) := rfl
set_option maxRecDepth 100000 in
theorem mc_55 : lw_tbl[592]? = some (.code yX5_next cX5_next 6 (some .int)) := rfl
set_option maxRecDepth 100000 in
theorem mc_56 : lw_tbl[596]? = some (.code yX5_foes cX5_foes 3 (some .int)) := rfl
set_option maxRecDepth 100000 in
theorem mc_57 : lw_tbl[600]? = some (.code yX5_worstPair cX5_worstPair 8 (some .int)) := rfl
set_option maxRecDepth 100000 in
theorem mc_58 : lw_tbl[604]? = some (.code yX5_kindFor cX5_kindFor 7 (some .int)) := rfl
set_option maxRecDepth 100000 in
theorem mc_59 : lw_tbl[608]? = some (.code yX5_worthAs cX5_worthAs 5 (some .int)) := rfl
set_option maxRecDepth 100000 in
theorem mc_60 : lw_tbl[612]? = some (.code yX5_rid cX5_rid 7 (some .int)) := rfl
set_option maxRecDepth 100000 in
theorem mc_61 : lw_tbl[616]? = some (.code yX1_setInside cX1_setInside 3 (some .int)) := rfl
set_option maxRecDepth 100000 in
theorem mc_62 : lw_tbl[620]? = some (.code yX5_bringWithout cX5_bringWithout 3 (some .int)) := rfl
set_option maxRecDepth 100000 in
theorem mc_63 : lw_tbl[624]? = some (.code yX1_takeOut cX1_takeOut 5 none) := rfl
set_option maxRecDepth 100000 in
theorem mc_64 : lw_tbl[628]? = some (.code yX5_turns cX5_turns 4 (some .int)) := rfl
set_option maxRecDepth 100000 in
theorem mc_65 : lw_tbl[632]? = some (.code yX5_unplayable cX5_unplayable 3 (some .int)) := rfl
set_option maxRecDepth 100000 in
theorem mc_66 : lw_tbl[636]? = some (.code yX5_playAll cX5_playAll 3 (some .int)) := rfl
set_option maxRecDepth 100000 in
theorem mc_67 : lw_tbl[640]? = some (.code yX5_play cX5_play 10 (some .int)) := rfl
set_option maxRecDepth 100000 in
theorem mc_68 : lw_tbl[643]? = some (.code yX5_restOf cX5_restOf 4 (some .int)) := rfl
set_option maxRecDepth 100000 in
theorem mc_69 : lw_tbl[647]? = some (.code yX1_laidLead cX1_laidLead 1 (some .int)) := rfl
set_option maxRecDepth 100000 in
theorem mc_70 : lw_tbl[651]? = some (.code yX1_isLaidOf cX1_isLaidOf 2 (some .boolean)) := rfl
set_option maxRecDepth 100000 in
theorem mc_71 : lw_tbl[655]? = some (.code yX5_move cX5_move 7 (some .int)) := rfl
set_option maxRecDepth 100000 in
theorem mc_72 : lw_tbl[659]? = some (.code yX5_first cX5_first 4 (some .int)) := rfl
set_option maxRecDepth 100000 in
theorem mc_73 : lw_tbl[663]? = some (.code yX5_share cX5_share 6 (some .int)) := rfl
set_option maxRecDepth 100000 in
theorem mc_74 : lw_tbl[668]? = some (.code yX5_fits cX5_fits 6 (some .int)) := rfl
set_option maxRecDepth 100000 in
theorem mc_75 : lw_tbl[672]? = some (.code yX5_unfit cX5_unfit 3 (some .int)) := rfl
set_option maxRecDepth 100000 in
theorem mc_76 : lw_tbl[676]? = some (.code yX5_rowsFrom cX5_rowsFrom 7 (some .int)) := rfl
set_option maxRecDepth 100000 in
theorem mc_77 : lw_tbl[680]? = some (.code yX5_firstWorth cX5_firstWorth 6 (some .int)) := rfl
set_option maxRecDepth 100000 in
theorem mc_78 : lw_tbl[684]? = some (.code yX5_may cX5_may 6 (some .int)) := rfl
set_option maxRecDepth 100000 in
theorem mc_79 : lw_tbl[688]? = some (.code yX5_laid cX5_laid 4 (some .int)) := rfl
set_option maxRecDepth 100000 in
theorem mc_80 : lw_tbl[692]? = some (.code yX5_room cX5_room 4 (some .int)) := rfl
set_option maxRecDepth 100000 in
theorem mc_81 : lw_tbl[696]? = some (.code yX5_areAllFed cX5_areAllFed 4 (some .boolean)) := rfl
set_option maxRecDepth 100000 in
theorem mc_82 : lw_tbl[700]? = some (.code yX5_starves cX5_starves 5 (some .int)) := rfl
set_option maxRecDepth 100000 in
theorem mc_83 : lw_tbl[704]? = some (.code yX5_lent cX5_lent 6 (some .int)) := rfl
set_option maxRecDepth 100000 in
theorem mc_84 : lw_tbl[708]? = some (.code yX0_draw cX0_draw 1 (some .int)) := rfl
set_option maxRecDepth 100000 in
theorem mc_85 : lw_tbl[713]? = some (.code yX5_seed cX5_seed 3 (some .int)) := rfl
set_option maxRecDepth 100000 in
theorem mc_86 : lw_tbl[717]? = some (.code yX5_feed cX5_feed 4 (some .int)) := rfl
set_option maxRecDepth 100000 in
theorem mc_87 : lw_tbl[721]? = some (.code yX4_append cX4_append 2 none) := rfl
set_option maxRecDepth 100000 in
theorem mc_88 : lw_tbl[725]? = some (.code yX5_wipe cX5_wipe 2 (some .int)) := rfl
set_option maxRecDepth 100000 in
theorem mc_89 : lw_tbl[729]? = some (.code yX5_text cX5_text 2 (some .int)) := rfl
set_option maxRecDepth 100000 in
theorem mc_90 : lw_tbl[733]? = some (.code yX4_tellTo cX4_tellTo 3 (some .int)) := rfl
set_option maxRecDepth 100000 in
theorem mc_91 : lw_tbl[737]? = some (.code yX4_readTokens cX4_readTokens 3 none) := rfl
set_option maxRecDepth 100000 in
theorem mc_92 : lw_tbl[741]? = some (.code yX4_readToken cX4_readToken 3 (some .int)) := rfl
set_option maxRecDepth 100000 in
theorem mc_93 : lw_tbl[744]? = some (.code yX4_isLetter cX4_isLetter 1 (some .boolean)) := rfl
set_option maxRecDepth 100000 in
theorem mc_94 : lw_tbl[748]? = some (.code yX4_wordBetween cX4_wordBetween 4 (some .int)) := rfl
set_option maxRecDepth 100000 in
theorem mc_95 : lw_tbl[751]? = some (.code yX4_wordOf cX4_wordOf 1 (some (.object "java/lang/String"))) := rfl
set_option maxRecDepth 100000 in
theorem mc_96 : lw_tbl[767]? = some (.code yX4_isWord cX4_isWord 5 (some .boolean)) := rfl
set_option maxRecDepth 100000 in
theorem mc_97 : lw_tbl[771]? = some (.code yJ0_length_8abf5 cJ0_length_8abf5 1 (some .int)) := rfl
set_option maxRecDepth 100000 in
theorem mc_98 : lw_tbl[775]? = some (.code yJ0_coder_7d493 cJ0_coder_7d493 1 (some .byte)) := rfl
set_option maxRecDepth 100000 in
theorem mc_99 : lw_tbl[781]? = some (.code yJ0_charAt_5068e cJ0_charAt_5068e 2 (some .char)) := rfl
set_option maxRecDepth 100000 in
theorem mc_100 : lw_tbl[785]? = some (.code yJ0_isLatin1_aae02 cJ0_isLatin1_aae02 1 (some .boolean)) := rfl
set_option maxRecDepth 100000 in
theorem mc_101 : lw_tbl[788]? = some (.code yJ1_charAt_3b067 cJ1_charAt_3b067 2 (some .char)) := rfl
set_option maxRecDepth 100000 in
theorem mc_102 : lw_tbl[791]? = some (.code yJ0_checkIndex_df160 cJ0_checkIndex_df160 2 none) := rfl
set_option maxRecDepth 100000 in
theorem mc_103 : lw_tbl[796]? = some (.code yJ3_checkIndex_8e157 cJ3_checkIndex_8e157 3 (some .int)) := rfl
set_option maxRecDepth 100000 in
theorem mc_104 : lw_tbl[819]? = some (.code yX4_addToken cX4_addToken 4 none) := rfl
set_option maxRecDepth 100000 in
theorem mc_105 : lw_tbl[822]? = some (.code yX4_isDigit cX4_isDigit 1 (some .boolean)) := rfl
set_option maxRecDepth 100000 in
theorem mc_106 : lw_tbl[826]? = some (.code yX4_numberBetween cX4_numberBetween 5 (some .int)) := rfl
set_option maxRecDepth 100000 in
theorem mc_107 : lw_tbl[831]? = some (.code yX4_tellItem cX4_tellItem 3 (some .boolean)) := rfl
set_option maxRecDepth 100000 in
theorem mc_108 : lw_tbl[836]? = some (.code yX4_tellThing cX4_tellThing 3 (some .boolean)) := rfl
set_option maxRecDepth 100000 in
theorem mc_109 : lw_tbl[840]? = some (.code yX4_step cX4_step 1 none) := rfl
set_option maxRecDepth 100000 in
theorem mc_110 : lw_tbl[844]? = some (.code yX4_tellPart cX4_tellPart 6 (some .boolean)) := rfl
set_option maxRecDepth 100000 in
theorem mc_111 : lw_tbl[848]? = some (.code yX4_isNumber cX4_isNumber 3 (some .boolean)) := rfl
set_option maxRecDepth 100000 in
theorem mc_112 : lw_tbl[854]? = some (.code yX4_tellRule cX4_tellRule 3 (some .boolean)) := rfl
set_option maxRecDepth 100000 in
theorem mc_113 : lw_tbl[859]? = some (.code yX5_hold cX5_hold 3 (some .int)) := rfl
set_option maxRecDepth 100000 in
theorem mc_114 : lw_tbl[863]? = some (.code yX5_as cX5_as 4 (some .int)) := rfl
set_option maxRecDepth 100000 in
theorem mc_115 : lw_tbl[866]? = some (.code yX2_isUnder cX2_isUnder 4 (some .boolean)) := rfl
set_option maxRecDepth 100000 in
theorem mc_116 : lw_tbl[872]? = some (.code yX5_sheet cX5_sheet 4 (some .int)) := rfl
set_option maxRecDepth 100000 in
theorem mc_117 : lw_tbl[875]? = some (.code yX5_isSheet cX5_isSheet 1 (some .boolean)) := rfl
set_option maxRecDepth 100000 in
theorem mc_118 : lw_tbl[879]? = some (.code yX3_begin cX3_begin 4 none) := rfl
set_option maxRecDepth 100000 in
theorem mc_119 : lw_tbl[883]? = some (.code yX5_write cX5_write 4 (some .int)) := rfl
set_option maxRecDepth 100000 in
theorem mc_120 : lw_tbl[887]? = some (.code yX3_isMissing cX3_isMissing 1 (some .boolean)) := rfl
set_option maxRecDepth 100000 in
theorem mc_121 : lw_tbl[891]? = some (.code yX3_put cX3_put 3 none) := rfl
set_option maxRecDepth 100000 in
theorem mc_122 : lw_tbl[895]? = some (.code yX5_copy cX5_copy 8 (some .int)) := rfl
set_option maxRecDepth 100000 in
theorem mc_123 : lw_tbl[899]? = some (.code yX3_hasPart cX3_hasPart 3 (some .boolean)) := rfl
set_option maxRecDepth 100000 in
theorem mc_124 : lw_tbl[903]? = some (.code yX5_load cX5_load 4 (some .int)) := rfl
set_option maxRecDepth 100000 in
theorem mc_125 : lw_tbl[907]? = some (.code yX5_judge cX5_judge 5 (some .int)) := rfl
set_option maxRecDepth 100000 in
theorem mc_126 : lw_tbl[911]? = some (.code yX5_image cX5_image 1 (some .int)) := rfl
set_option maxRecDepth 100000 in
theorem mc_127 : lw_tbl[915]? = some (.code yX0_become cX0_become 2 none) := rfl
set_option maxRecDepth 100000 in
theorem mc_128 : lw_tbl[920]? = some (.code yX5_undo cX5_undo 1 (some .int)) := rfl
set_option maxRecDepth 100000 in
theorem mc_129 : lw_tbl[924]? = some (.code yX5_tear cX5_tear 2 (some .int)) := rfl
set_option maxRecDepth 100000 in
theorem mc_130 : lw_tbl[928]? = some (.code yX5_count cX5_count 2 (some .int)) := rfl
set_option maxRecDepth 100000 in
theorem mc_131 : lw_tbl[932]? = some (.code yX1_worthOfAll cX1_worthOfAll 3 (some .int)) := rfl
set_option maxRecDepth 100000 in
theorem mc_132 : lw_tbl[936]? = some (.code yX0_spotsHolding cX0_spotsHolding 3 (some .int)) := rfl
set_option maxRecDepth 100000 in
theorem mc_133 : lw_tbl[940]? = some (.code yX5_status cX5_status 4 (some .int)) := rfl
set_option maxRecDepth 100000 in
theorem mc_134 : lw_tbl[1053]? = some (.code yX6_thing cX6_thing 2 (some .int)) := rfl
set_option maxRecDepth 100000 in
theorem mc_135 : lw_tbl[1056]? = some (.code yX6_isKind cX6_isKind 1 (some .boolean)) := rfl
set_option maxRecDepth 100000 in
theorem mc_136 : lw_tbl[1059]? = some (.code yX6_within cX6_within 3 (some .boolean)) := rfl
set_option maxRecDepth 100000 in
theorem mc_137 : lw_tbl[1064]? = some (.code yX6_finding cX6_finding 2 (some .int)) := rfl
set_option maxRecDepth 100000 in
theorem mc_138 : lw_tbl[1069]? = some (.code yX6_comes cX6_comes 6 (some .int)) := rfl
set_option maxRecDepth 100000 in
theorem mc_139 : lw_tbl[1072]? = some (.code yX6_at cX6_at 2 (some .int)) := rfl
set_option maxRecDepth 100000 in
theorem mc_140 : lw_tbl[1076]? = some (.code yX6_of cX6_of 3 (some .int)) := rfl
set_option maxRecDepth 100000 in
theorem mc_141 : lw_tbl[1080]? = some (.code yX6_isThing cX6_isThing 2 (some .boolean)) := rfl
set_option maxRecDepth 100000 in
theorem mc_142 : lw_tbl[1084]? = some (.code yX6_thingIs cX6_thingIs 3 (some .int)) := rfl
set_option maxRecDepth 100000 in
theorem mc_143 : lw_tbl[1088]? = some (.code yX6_takes cX6_takes 3 (some .int)) := rfl
set_option maxRecDepth 100000 in
theorem mc_144 : lw_tbl[1091]? = some (.code yX6_isUnder cX6_isUnder 3 (some .boolean)) := rfl
set_option maxRecDepth 100000 in
theorem mc_145 : lw_tbl[1094]? = some (.code yX6_above cX6_above 1 (some .int)) := rfl
set_option maxRecDepth 100000 in
theorem mc_146 : lw_tbl[1098]? = some (.code yX6_stains cX6_stains 2 (some .int)) := rfl
set_option maxRecDepth 100000 in
theorem mc_147 : lw_tbl[1102]? = some (.code yX6_left cX6_left 5 (some .int)) := rfl
set_option maxRecDepth 100000 in
theorem mc_148 : lw_tbl[1107]? = some (.code yX6_change cX6_change 5 (some .int)) := rfl
set_option maxRecDepth 100000 in
theorem mc_149 : lw_tbl[1111]? = some (.code yX6_become cX6_become 4 (some .int)) := rfl
set_option maxRecDepth 100000 in
theorem mc_150 : lw_tbl[1115]? = some (.code yX6_rule cX6_rule 4 (some .int)) := rfl
set_option maxRecDepth 100000 in
theorem mc_151 : lw_tbl[1119]? = some (.code yX6_fed cX6_fed 2 (some .int)) := rfl
set_option maxRecDepth 100000 in
theorem mc_152 : lw_tbl[1123]? = some (.code yX6_isHow cX6_isHow 3 (some .boolean)) := rfl
set_option maxRecDepth 100000 in
theorem mc_153 : lw_tbl[1128]? = some (.code yX6_hasRoom cX6_hasRoom 2 (some .boolean)) := rfl
set_option maxRecDepth 100000 in
theorem mc_154 : lw_tbl[1132]? = some (.code yX6_bulkIn cX6_bulkIn 3 (some .int)) := rfl
set_option maxRecDepth 100000 in
theorem mc_155 : lw_tbl[1136]? = some (.code yX6_feeds cX6_feeds 2 (some .int)) := rfl
set_option maxRecDepth 100000 in
theorem mc_156 : lw_tbl[1140]? = some (.code yX6_becomesHow cX6_becomesHow 3 none) := rfl
set_option maxRecDepth 100000 in
theorem mc_157 : lw_tbl[1144]? = some (.code yX6_home cX6_home 4 (some .int)) := rfl
set_option maxRecDepth 100000 in
theorem mc_158 : lw_tbl[1148]? = some (.code yX6_eggsKept cX6_eggsKept 1 (some .int)) := rfl
set_option maxRecDepth 100000 in
theorem mc_159 : lw_tbl[1153]? = some (.code yX6_eggAt cX6_eggAt 3 (some .int)) := rfl
set_option maxRecDepth 100000 in
theorem mc_160 : lw_tbl[1157]? = some (.code yX6_crop cX6_crop 2 (some .int)) := rfl
set_option maxRecDepth 100000 in
theorem mc_161 : lw_tbl[1162]? = some (.code yX6_egg cX6_egg 3 (some .int)) := rfl
set_option maxRecDepth 100000 in
theorem mc_162 : lw_tbl[1166]? = some (.code yX6_days cX6_days 2 (some .int)) := rfl
set_option maxRecDepth 100000 in
theorem mc_163 : lw_tbl[1170]? = some (.code yX6_isTooLate cX6_isTooLate 2 (some .boolean)) := rfl
set_option maxRecDepth 100000 in
theorem mc_164 : lw_tbl[1174]? = some (.code yX6_daysGo cX6_daysGo 4 (some .int)) := rfl
set_option maxRecDepth 100000 in
theorem mc_165 : lw_tbl[1178]? = some (.code yX6_day cX6_day 3 (some .int)) := rfl
set_option maxRecDepth 100000 in
theorem mc_166 : lw_tbl[1182]? = some (.code yX6_stainsAt cX6_stainsAt 2 (some .int)) := rfl
set_option maxRecDepth 100000 in
theorem mc_167 : lw_tbl[1186]? = some (.code yX6_lays cX6_lays 3 none) := rfl
set_option maxRecDepth 100000 in
theorem mc_168 : lw_tbl[1190]? = some (.code yX6_leaves cX6_leaves 4 none) := rfl
set_option maxRecDepth 100000 in
theorem mc_169 : lw_tbl[1194]? = some (.code yX6_now cX6_now 2 (some .int)) := rfl
set_option maxRecDepth 100000 in
theorem mc_170 : lw_tbl[1198]? = some (.code yX6_ahead cX6_ahead 5 (some .int)) := rfl
set_option maxRecDepth 100000 in
theorem mc_171 : lw_tbl[1201]? = some (.code yX6_copyRow cX6_copyRow 3 none) := rfl
set_option maxRecDepth 100000 in
theorem mc_172 : lw_tbl[1205]? = some (.code yX6_putBack cX6_putBack 2 (some .int)) := rfl
set_option maxRecDepth 100000 in
theorem mc_173 : lw_tbl[1209]? = some (.code yX6_stainIn cX6_stainIn 3 (some .int)) := rfl
set_option maxRecDepth 100000 in
theorem mc_174 : lw_tbl[1213]? = some (.code yX6_when cX6_when 2 (some .int)) := rfl
set_option maxRecDepth 100000 in
theorem mc_175 : lw_tbl[1217]? = some (.code yX6_laidTold cX6_laidTold 4 (some .int)) := rfl
set_option maxRecDepth 100000 in
theorem mc_176 : lw_tbl[1221]? = some (.code yX6_isLate cX6_isLate 1 (some .boolean)) := rfl
set_option maxRecDepth 100000 in
theorem mc_177 : lw_tbl[1225]? = some (.code yX6_tillLaid cX6_tillLaid 4 (some .int)) := rfl
set_option maxRecDepth 100000 in
theorem mc_178 : lw_tbl[1229]? = some (.code yX6_worth cX6_worth 2 (some .int)) := rfl
set_option maxRecDepth 100000 in
theorem mc_179 : lw_tbl[1233]? = some (.code yX6_spoils cX6_spoils 4 (some .int)) := rfl
set_option maxRecDepth 100000 in
theorem mc_180 : lw_tbl[1237]? = some (.code yX6_plan cX6_plan 4 (some .int)) := rfl
set_option maxRecDepth 100000 in
theorem mc_181 : lw_tbl[1241]? = some (.code yX6_isSet cX6_isSet 2 (some .boolean)) := rfl
set_option maxRecDepth 100000 in
theorem mc_182 : lw_tbl[1245]? = some (.code yX6_refuses cX6_refuses 4 (some .int)) := rfl
set_option maxRecDepth 100000 in
theorem mc_183 : lw_tbl[1249]? = some (.code yX6_thingsThat cX6_thingsThat 4 (some .int)) := rfl
set_option maxRecDepth 100000 in
theorem mc_184 : lw_tbl[1253]? = some (.code yX6_mealOf cX6_mealOf 3 none) := rfl
set_option maxRecDepth 100000 in
theorem mc_185 : lw_tbl[1256]? = some (.code yX6_has cX6_has 2 (some .boolean)) := rfl
set_option maxRecDepth 100000 in
theorem mc_186 : lw_tbl[1260]? = some (.code yX6_brings cX6_brings 4 (some .int)) := rfl
set_option maxRecDepth 100000 in
theorem mc_187 : lw_tbl[1264]? = some (.code yX6_best cX6_best 4 (some .int)) := rfl
set_option maxRecDepth 100000 in
theorem mc_188 : lw_tbl[1268]? = some (.code yX6_isFew cX6_isFew 2 (some .boolean)) := rfl
set_option maxRecDepth 100000 in
theorem mc_189 : lw_tbl[1271]? = some (.code yX6_bits cX6_bits 3 (some .int)) := rfl
set_option maxRecDepth 100000 in
theorem mc_190 : lw_tbl[1275]? = some (.code yX6_findBest cX6_findBest 3 none) := rfl
set_option maxRecDepth 100000 in
theorem mc_191 : lw_tbl[1279]? = some (.code yX6_orders cX6_orders 5 none) := rfl
set_option maxRecDepth 100000 in
theorem mc_192 : lw_tbl[1283]? = some (.code yX6_ith cX6_ith 5 (some .int)) := rfl
set_option maxRecDepth 100000 in
theorem mc_193 : lw_tbl[1287]? = some (.code yX6_next cX6_next 7 (some .int)) := rfl
set_option maxRecDepth 100000 in
theorem mc_194 : lw_tbl[1291]? = some (.code yX6_bringsOf cX6_bringsOf 4 (some .int)) := rfl
set_option maxRecDepth 100000 in
theorem mc_195 : lw_tbl[1295]? = some (.code yX6_foes cX6_foes 8 (some .int)) := rfl
set_option maxRecDepth 100000 in
theorem mc_196 : lw_tbl[1299]? = some (.code yX6_kindFor cX6_kindFor 8 (some .int)) := rfl
set_option maxRecDepth 100000 in
theorem mc_197 : lw_tbl[1303]? = some (.code yX6_ownEgg cX6_ownEgg 7 (some .int)) := rfl
set_option maxRecDepth 100000 in
theorem mc_198 : lw_tbl[1307]? = some (.code yX6_rid cX6_rid 8 (some .int)) := rfl
set_option maxRecDepth 100000 in
theorem mc_199 : lw_tbl[1311]? = some (.code yX6_turns cX6_turns 4 (some .int)) := rfl
set_option maxRecDepth 100000 in
theorem mc_200 : lw_tbl[1315]? = some (.code yX6_refusesTurns cX6_refusesTurns 3 (some .int)) := rfl
set_option maxRecDepth 100000 in
theorem mc_201 : lw_tbl[1319]? = some (.code yX6_turnsFrom cX6_turnsFrom 12 (some .int)) := rfl
set_option maxRecDepth 100000 in
theorem mc_202 : lw_tbl[1323]? = some (.code yX6_save cX6_save 3 none) := rfl
set_option maxRecDepth 100000 in
theorem mc_203 : lw_tbl[1327]? = some (.code yX6_sharesGo cX6_sharesGo 5 (some .int)) := rfl
set_option maxRecDepth 100000 in
theorem mc_204 : lw_tbl[1331]? = some (.code yX6_restore cX6_restore 3 none) := rfl
set_option maxRecDepth 100000 in
theorem mc_205 : lw_tbl[1335]? = some (.code yX6_first cX6_first 4 (some .int)) := rfl
set_option maxRecDepth 100000 in
theorem mc_206 : lw_tbl[1339]? = some (.code yX6_share cX6_share 6 (some .int)) := rfl
set_option maxRecDepth 100000 in
theorem mc_207 : lw_tbl[1343]? = some (.code yX6_fits cX6_fits 4 (some .int)) := rfl
set_option maxRecDepth 100000 in
theorem mc_208 : lw_tbl[1347]? = some (.code yX6_findRows cX6_findRows 6 (some .int)) := rfl
set_option maxRecDepth 100000 in
theorem mc_209 : lw_tbl[1351]? = some (.code yX6_firstEgg cX6_firstEgg 8 (some .int)) := rfl
set_option maxRecDepth 100000 in
theorem mc_210 : lw_tbl[1355]? = some (.code yX6_may cX6_may 4 (some .int)) := rfl
set_option maxRecDepth 100000 in
theorem mc_211 : lw_tbl[1359]? = some (.code yX6_laid cX6_laid 4 (some .int)) := rfl
set_option maxRecDepth 100000 in
theorem mc_212 : lw_tbl[1363]? = some (.code yX6_room cX6_room 4 (some .int)) := rfl
set_option maxRecDepth 100000 in
theorem mc_213 : lw_tbl[1367]? = some (.code yX6_areAllFed cX6_areAllFed 5 (some .boolean)) := rfl
set_option maxRecDepth 100000 in
theorem mc_214 : lw_tbl[1371]? = some (.code yX6_starves cX6_starves 7 (some .int)) := rfl
set_option maxRecDepth 100000 in
theorem mc_215 : lw_tbl[1375]? = some (.code yX6_lent cX6_lent 5 (some .int)) := rfl
set_option maxRecDepth 100000 in
theorem mc_216 : lw_tbl[1379]? = some (.code yX6_drawn cX6_drawn 2 (some .int)) := rfl
set_option maxRecDepth 100000 in
theorem mc_217 : lw_tbl[1384]? = some (.code yX6_seed cX6_seed 2 (some .int)) := rfl
set_option maxRecDepth 100000 in
theorem mc_218 : lw_tbl[1388]? = some (.code yX6_feed cX6_feed 4 (some .int)) := rfl
set_option maxRecDepth 100000 in
theorem mc_219 : lw_tbl[1392]? = some (.code yX6_wipe cX6_wipe 2 (some .int)) := rfl
set_option maxRecDepth 100000 in
theorem mc_220 : lw_tbl[1396]? = some (.code yX6_text cX6_text 3 (some .int)) := rfl
set_option maxRecDepth 100000 in
theorem mc_221 : lw_tbl[1400]? = some (.code yX6_next_ cX6_next_ 2 none) := rfl
set_option maxRecDepth 100000 in
theorem mc_222 : lw_tbl[1404]? = some (.code yX6_byteAt cX6_byteAt 2 (some .int)) := rfl
set_option maxRecDepth 100000 in
theorem mc_223 : lw_tbl[1408]? = some (.code yX6_readItem cX6_readItem 4 none) := rfl
set_option maxRecDepth 100000 in
theorem mc_224 : lw_tbl[1412]? = some (.code yX6_kindTold cX6_kindTold 3 (some .int)) := rfl
set_option maxRecDepth 100000 in
theorem mc_225 : lw_tbl[1416]? = some (.code yX6_isWord cX6_isWord 4 (some .boolean)) := rfl
set_option maxRecDepth 100000 in
theorem mc_226 : lw_tbl[1422]? = some (.code yX6_must cX6_must 2 none) := rfl
set_option maxRecDepth 100000 in
theorem mc_227 : lw_tbl[1427]? = some (.code yX6_isNext cX6_isNext 3 (some .boolean)) := rfl
set_option maxRecDepth 100000 in
theorem mc_228 : lw_tbl[1431]? = some (.code yX6_number cX6_number 4 (some .int)) := rfl
set_option maxRecDepth 100000 in
theorem mc_229 : lw_tbl[1437]? = some (.code yX6_item cX6_item 6 none) := rfl
set_option maxRecDepth 100000 in
theorem mc_230 : lw_tbl[1443]? = some (.code yX6_isSo cX6_isSo 3 (some .int)) := rfl
set_option maxRecDepth 100000 in
theorem mc_231 : lw_tbl[1447]? = some (.code yX6_hold cX6_hold 3 (some .int)) := rfl
set_option maxRecDepth 100000 in
theorem mc_232 : lw_tbl[1450]? = some (.code yX6_isSpot cX6_isSpot 1 (some .boolean)) := rfl
set_option maxRecDepth 100000 in
theorem mc_233 : lw_tbl[1454]? = some (.code yX6_as cX6_as 4 (some .int)) := rfl
set_option maxRecDepth 100000 in
theorem mc_234 : lw_tbl[1460]? = some (.code yX6_sheet cX6_sheet 5 (some .int)) := rfl
set_option maxRecDepth 100000 in
theorem mc_235 : lw_tbl[1463]? = some (.code yX6_isSheet cX6_isSheet 1 (some .boolean)) := rfl
set_option maxRecDepth 100000 in
theorem mc_236 : lw_tbl[1468]? = some (.code yX6_write cX6_write 4 (some .int)) := rfl
set_option maxRecDepth 100000 in
theorem mc_237 : lw_tbl[1471]? = some (.code yX6_cutTo cX6_cutTo 2 (some .int)) := rfl
set_option maxRecDepth 100000 in
theorem mc_238 : lw_tbl[1475]? = some (.code yX6_copy cX6_copy 7 (some .int)) := rfl
set_option maxRecDepth 100000 in
theorem mc_239 : lw_tbl[1479]? = some (.code yX6_load cX6_load 3 (some .int)) := rfl
set_option maxRecDepth 100000 in
theorem mc_240 : lw_tbl[1483]? = some (.code yX6_judge cX6_judge 5 (some .int)) := rfl
set_option maxRecDepth 100000 in
theorem mc_241 : lw_tbl[1487]? = some (.code yX6_image cX6_image 1 (some .int)) := rfl
set_option maxRecDepth 100000 in
theorem mc_242 : lw_tbl[1491]? = some (.code yX6_undo cX6_undo 1 (some .int)) := rfl
set_option maxRecDepth 100000 in
theorem mc_243 : lw_tbl[1495]? = some (.code yX6_tear cX6_tear 2 (some .int)) := rfl
set_option maxRecDepth 100000 in
theorem mc_244 : lw_tbl[1499]? = some (.code yX6_count cX6_count 4 (some .int)) := rfl
set_option maxRecDepth 100000 in
theorem mc_245 : lw_tbl[1503]? = some (.code yX6_status cX6_status 2 (some .int)) := rfl
def cdP (q : mtT) : Prop := Cond.code q.1 q.2.1 q.2.2.1 q.2.2.2.1 ∈ gtbl
set_option maxRecDepth 100000 in
theorem mt_cd_0 : ∀ q ∈ mt_0, cdP q := List.forall_mem_cons.mpr ⟨g_mem mc_0 rfl, List.forall_mem_cons.mpr ⟨g_mem mc_1 rfl, List.forall_mem_cons.mpr ⟨g_mem mc_2 rfl, List.forall_mem_cons.mpr ⟨g_mem mc_3 rfl, List.forall_mem_cons.mpr ⟨g_mem mc_4 rfl, List.forall_mem_cons.mpr ⟨g_mem mc_5 rfl, List.forall_mem_cons.mpr ⟨g_mem mc_6 rfl, List.forall_mem_cons.mpr ⟨g_mem mc_7 rfl, List.forall_mem_cons.mpr ⟨g_mem mc_8 rfl, List.forall_mem_cons.mpr ⟨g_mem mc_9 rfl, List.forall_mem_cons.mpr ⟨g_mem mc_10 rfl, List.forall_mem_cons.mpr ⟨g_mem mc_11 rfl, List.forall_mem_cons.mpr ⟨g_mem mc_12 rfl, List.forall_mem_cons.mpr ⟨g_mem mc_13 rfl, List.forall_mem_cons.mpr ⟨g_mem mc_14 rfl, List.forall_mem_cons.mpr ⟨g_mem mc_15 rfl, List.forall_mem_cons.mpr ⟨g_mem mc_16 rfl, List.forall_mem_cons.mpr ⟨g_mem mc_17 rfl, List.forall_mem_cons.mpr ⟨g_mem mc_18 rfl, List.forall_mem_cons.mpr ⟨g_mem mc_19 rfl, List.forall_mem_cons.mpr ⟨g_mem mc_20 rfl, List.forall_mem_cons.mpr ⟨g_mem mc_21 rfl, List.forall_mem_cons.mpr ⟨g_mem mc_22 rfl, List.forall_mem_cons.mpr ⟨g_mem mc_23 rfl, List.forall_mem_cons.mpr ⟨g_mem mc_24 rfl, fun _ h => absurd h List.not_mem_nil⟩⟩⟩⟩⟩⟩⟩⟩⟩⟩⟩⟩⟩⟩⟩⟩⟩⟩⟩⟩⟩⟩⟩⟩⟩
set_option maxRecDepth 100000 in
theorem mt_cd_1 : ∀ q ∈ mt_1, cdP q := List.forall_mem_cons.mpr ⟨g_mem mc_25 rfl, List.forall_mem_cons.mpr ⟨g_mem mc_26 rfl, List.forall_mem_cons.mpr ⟨g_mem mc_27 rfl, List.forall_mem_cons.mpr ⟨g_mem mc_28 rfl, List.forall_mem_cons.mpr ⟨g_mem mc_29 rfl, List.forall_mem_cons.mpr ⟨g_mem mc_30 rfl, List.forall_mem_cons.mpr ⟨g_mem mc_31 rfl, List.forall_mem_cons.mpr ⟨g_mem mc_32 rfl, List.forall_mem_cons.mpr ⟨g_mem mc_33 rfl, List.forall_mem_cons.mpr ⟨g_mem mc_34 rfl, List.forall_mem_cons.mpr ⟨g_mem mc_35 rfl, List.forall_mem_cons.mpr ⟨g_mem mc_36 rfl, List.forall_mem_cons.mpr ⟨g_mem mc_37 rfl, List.forall_mem_cons.mpr ⟨g_mem mc_38 rfl, List.forall_mem_cons.mpr ⟨g_mem mc_39 rfl, List.forall_mem_cons.mpr ⟨g_mem mc_40 rfl, List.forall_mem_cons.mpr ⟨g_mem mc_41 rfl, List.forall_mem_cons.mpr ⟨g_mem mc_42 rfl, List.forall_mem_cons.mpr ⟨g_mem mc_43 rfl, List.forall_mem_cons.mpr ⟨g_mem mc_44 rfl, List.forall_mem_cons.mpr ⟨g_mem mc_45 rfl, List.forall_mem_cons.mpr ⟨g_mem mc_46 rfl, List.forall_mem_cons.mpr ⟨g_mem mc_47 rfl, List.forall_mem_cons.mpr ⟨g_mem mc_48 rfl, List.forall_mem_cons.mpr ⟨g_mem mc_49 rfl, fun _ h => absurd h List.not_mem_nil⟩⟩⟩⟩⟩⟩⟩⟩⟩⟩⟩⟩⟩⟩⟩⟩⟩⟩⟩⟩⟩⟩⟩⟩⟩
set_option maxRecDepth 100000 in
theorem mt_cd_2 : ∀ q ∈ mt_2, cdP q := List.forall_mem_cons.mpr ⟨g_mem mc_50 rfl, List.forall_mem_cons.mpr ⟨g_mem mc_51 rfl, List.forall_mem_cons.mpr ⟨g_mem mc_52 rfl, List.forall_mem_cons.mpr ⟨g_mem mc_53 rfl, List.forall_mem_cons.mpr ⟨g_mem mc_54 rfl, List.forall_mem_cons.mpr ⟨g_mem mc_55 rfl, List.forall_mem_cons.mpr ⟨g_mem mc_56 rfl, List.forall_mem_cons.mpr ⟨g_mem mc_57 rfl, List.forall_mem_cons.mpr ⟨g_mem mc_58 rfl, List.forall_mem_cons.mpr ⟨g_mem mc_59 rfl, List.forall_mem_cons.mpr ⟨g_mem mc_60 rfl, List.forall_mem_cons.mpr ⟨g_mem mc_61 rfl, List.forall_mem_cons.mpr ⟨g_mem mc_62 rfl, List.forall_mem_cons.mpr ⟨g_mem mc_63 rfl, List.forall_mem_cons.mpr ⟨g_mem mc_64 rfl, List.forall_mem_cons.mpr ⟨g_mem mc_65 rfl, List.forall_mem_cons.mpr ⟨g_mem mc_66 rfl, List.forall_mem_cons.mpr ⟨g_mem mc_67 rfl, List.forall_mem_cons.mpr ⟨g_mem mc_68 rfl, List.forall_mem_cons.mpr ⟨g_mem mc_69 rfl, List.forall_mem_cons.mpr ⟨g_mem mc_70 rfl, List.forall_mem_cons.mpr ⟨g_mem mc_71 rfl, List.forall_mem_cons.mpr ⟨g_mem mc_72 rfl, List.forall_mem_cons.mpr ⟨g_mem mc_73 rfl, List.forall_mem_cons.mpr ⟨g_mem mc_74 rfl, fun _ h => absurd h List.not_mem_nil⟩⟩⟩⟩⟩⟩⟩⟩⟩⟩⟩⟩⟩⟩⟩⟩⟩⟩⟩⟩⟩⟩⟩⟩⟩
set_option maxRecDepth 100000 in
theorem mt_cd_3 : ∀ q ∈ mt_3, cdP q := List.forall_mem_cons.mpr ⟨g_mem mc_75 rfl, List.forall_mem_cons.mpr ⟨g_mem mc_76 rfl, List.forall_mem_cons.mpr ⟨g_mem mc_77 rfl, List.forall_mem_cons.mpr ⟨g_mem mc_78 rfl, List.forall_mem_cons.mpr ⟨g_mem mc_79 rfl, List.forall_mem_cons.mpr ⟨g_mem mc_80 rfl, List.forall_mem_cons.mpr ⟨g_mem mc_81 rfl, List.forall_mem_cons.mpr ⟨g_mem mc_82 rfl, List.forall_mem_cons.mpr ⟨g_mem mc_83 rfl, List.forall_mem_cons.mpr ⟨g_mem mc_84 rfl, List.forall_mem_cons.mpr ⟨g_mem mc_85 rfl, List.forall_mem_cons.mpr ⟨g_mem mc_86 rfl, List.forall_mem_cons.mpr ⟨g_mem mc_87 rfl, List.forall_mem_cons.mpr ⟨g_mem mc_88 rfl, List.forall_mem_cons.mpr ⟨g_mem mc_89 rfl, List.forall_mem_cons.mpr ⟨g_mem mc_90 rfl, List.forall_mem_cons.mpr ⟨g_mem mc_91 rfl, List.forall_mem_cons.mpr ⟨g_mem mc_92 rfl, List.forall_mem_cons.mpr ⟨g_mem mc_93 rfl, List.forall_mem_cons.mpr ⟨g_mem mc_94 rfl, List.forall_mem_cons.mpr ⟨g_mem mc_95 rfl, List.forall_mem_cons.mpr ⟨g_mem mc_96 rfl, List.forall_mem_cons.mpr ⟨g_mem mc_97 rfl, List.forall_mem_cons.mpr ⟨g_mem mc_98 rfl, List.forall_mem_cons.mpr ⟨g_mem mc_99 rfl, fun _ h => absurd h List.not_mem_nil⟩⟩⟩⟩⟩⟩⟩⟩⟩⟩⟩⟩⟩⟩⟩⟩⟩⟩⟩⟩⟩⟩⟩⟩⟩
set_option maxRecDepth 100000 in
theorem mt_cd_4 : ∀ q ∈ mt_4, cdP q := List.forall_mem_cons.mpr ⟨g_mem mc_100 rfl, List.forall_mem_cons.mpr ⟨g_mem mc_101 rfl, List.forall_mem_cons.mpr ⟨g_mem mc_102 rfl, List.forall_mem_cons.mpr ⟨g_mem mc_103 rfl, List.forall_mem_cons.mpr ⟨g_mem mc_104 rfl, List.forall_mem_cons.mpr ⟨g_mem mc_105 rfl, List.forall_mem_cons.mpr ⟨g_mem mc_106 rfl, List.forall_mem_cons.mpr ⟨g_mem mc_107 rfl, List.forall_mem_cons.mpr ⟨g_mem mc_108 rfl, List.forall_mem_cons.mpr ⟨g_mem mc_109 rfl, List.forall_mem_cons.mpr ⟨g_mem mc_110 rfl, List.forall_mem_cons.mpr ⟨g_mem mc_111 rfl, List.forall_mem_cons.mpr ⟨g_mem mc_112 rfl, List.forall_mem_cons.mpr ⟨g_mem mc_113 rfl, List.forall_mem_cons.mpr ⟨g_mem mc_114 rfl, List.forall_mem_cons.mpr ⟨g_mem mc_115 rfl, List.forall_mem_cons.mpr ⟨g_mem mc_116 rfl, List.forall_mem_cons.mpr ⟨g_mem mc_117 rfl, List.forall_mem_cons.mpr ⟨g_mem mc_118 rfl, List.forall_mem_cons.mpr ⟨g_mem mc_119 rfl, List.forall_mem_cons.mpr ⟨g_mem mc_120 rfl, List.forall_mem_cons.mpr ⟨g_mem mc_121 rfl, List.forall_mem_cons.mpr ⟨g_mem mc_122 rfl, List.forall_mem_cons.mpr ⟨g_mem mc_123 rfl, List.forall_mem_cons.mpr ⟨g_mem mc_124 rfl, fun _ h => absurd h List.not_mem_nil⟩⟩⟩⟩⟩⟩⟩⟩⟩⟩⟩⟩⟩⟩⟩⟩⟩⟩⟩⟩⟩⟩⟩⟩⟩
set_option maxRecDepth 100000 in
theorem mt_cd_5 : ∀ q ∈ mt_5, cdP q := List.forall_mem_cons.mpr ⟨g_mem mc_125 rfl, List.forall_mem_cons.mpr ⟨g_mem mc_126 rfl, List.forall_mem_cons.mpr ⟨g_mem mc_127 rfl, List.forall_mem_cons.mpr ⟨g_mem mc_128 rfl, List.forall_mem_cons.mpr ⟨g_mem mc_129 rfl, List.forall_mem_cons.mpr ⟨g_mem mc_130 rfl, List.forall_mem_cons.mpr ⟨g_mem mc_131 rfl, List.forall_mem_cons.mpr ⟨g_mem mc_132 rfl, List.forall_mem_cons.mpr ⟨g_mem mc_133 rfl, List.forall_mem_cons.mpr ⟨g_mem mc_134 rfl, List.forall_mem_cons.mpr ⟨g_mem mc_135 rfl, List.forall_mem_cons.mpr ⟨g_mem mc_136 rfl, List.forall_mem_cons.mpr ⟨g_mem mc_137 rfl, List.forall_mem_cons.mpr ⟨g_mem mc_138 rfl, List.forall_mem_cons.mpr ⟨g_mem mc_139 rfl, List.forall_mem_cons.mpr ⟨g_mem mc_140 rfl, List.forall_mem_cons.mpr ⟨g_mem mc_141 rfl, List.forall_mem_cons.mpr ⟨g_mem mc_142 rfl, List.forall_mem_cons.mpr ⟨g_mem mc_143 rfl, List.forall_mem_cons.mpr ⟨g_mem mc_144 rfl, List.forall_mem_cons.mpr ⟨g_mem mc_145 rfl, List.forall_mem_cons.mpr ⟨g_mem mc_146 rfl, List.forall_mem_cons.mpr ⟨g_mem mc_147 rfl, List.forall_mem_cons.mpr ⟨g_mem mc_148 rfl, List.forall_mem_cons.mpr ⟨g_mem mc_149 rfl, fun _ h => absurd h List.not_mem_nil⟩⟩⟩⟩⟩⟩⟩⟩⟩⟩⟩⟩⟩⟩⟩⟩⟩⟩⟩⟩⟩⟩⟩⟩⟩
set_option maxRecDepth 100000 in
theorem mt_cd_6 : ∀ q ∈ mt_6, cdP q := List.forall_mem_cons.mpr ⟨g_mem mc_150 rfl, List.forall_mem_cons.mpr ⟨g_mem mc_151 rfl, List.forall_mem_cons.mpr ⟨g_mem mc_152 rfl, List.forall_mem_cons.mpr ⟨g_mem mc_153 rfl, List.forall_mem_cons.mpr ⟨g_mem mc_154 rfl, List.forall_mem_cons.mpr ⟨g_mem mc_155 rfl, List.forall_mem_cons.mpr ⟨g_mem mc_156 rfl, List.forall_mem_cons.mpr ⟨g_mem mc_157 rfl, List.forall_mem_cons.mpr ⟨g_mem mc_158 rfl, List.forall_mem_cons.mpr ⟨g_mem mc_159 rfl, List.forall_mem_cons.mpr ⟨g_mem mc_160 rfl, List.forall_mem_cons.mpr ⟨g_mem mc_161 rfl, List.forall_mem_cons.mpr ⟨g_mem mc_162 rfl, List.forall_mem_cons.mpr ⟨g_mem mc_163 rfl, List.forall_mem_cons.mpr ⟨g_mem mc_164 rfl, List.forall_mem_cons.mpr ⟨g_mem mc_165 rfl, List.forall_mem_cons.mpr ⟨g_mem mc_166 rfl, List.forall_mem_cons.mpr ⟨g_mem mc_167 rfl, List.forall_mem_cons.mpr ⟨g_mem mc_168 rfl, List.forall_mem_cons.mpr ⟨g_mem mc_169 rfl, List.forall_mem_cons.mpr ⟨g_mem mc_170 rfl, List.forall_mem_cons.mpr ⟨g_mem mc_171 rfl, List.forall_mem_cons.mpr ⟨g_mem mc_172 rfl, List.forall_mem_cons.mpr ⟨g_mem mc_173 rfl, List.forall_mem_cons.mpr ⟨g_mem mc_174 rfl, fun _ h => absurd h List.not_mem_nil⟩⟩⟩⟩⟩⟩⟩⟩⟩⟩⟩⟩⟩⟩⟩⟩⟩⟩⟩⟩⟩⟩⟩⟩⟩
set_option maxRecDepth 100000 in
theorem mt_cd_7 : ∀ q ∈ mt_7, cdP q := List.forall_mem_cons.mpr ⟨g_mem mc_175 rfl, List.forall_mem_cons.mpr ⟨g_mem mc_176 rfl, List.forall_mem_cons.mpr ⟨g_mem mc_177 rfl, List.forall_mem_cons.mpr ⟨g_mem mc_178 rfl, List.forall_mem_cons.mpr ⟨g_mem mc_179 rfl, List.forall_mem_cons.mpr ⟨g_mem mc_180 rfl, List.forall_mem_cons.mpr ⟨g_mem mc_181 rfl, List.forall_mem_cons.mpr ⟨g_mem mc_182 rfl, List.forall_mem_cons.mpr ⟨g_mem mc_183 rfl, List.forall_mem_cons.mpr ⟨g_mem mc_184 rfl, List.forall_mem_cons.mpr ⟨g_mem mc_185 rfl, List.forall_mem_cons.mpr ⟨g_mem mc_186 rfl, List.forall_mem_cons.mpr ⟨g_mem mc_187 rfl, List.forall_mem_cons.mpr ⟨g_mem mc_188 rfl, List.forall_mem_cons.mpr ⟨g_mem mc_189 rfl, List.forall_mem_cons.mpr ⟨g_mem mc_190 rfl, List.forall_mem_cons.mpr ⟨g_mem mc_191 rfl, List.forall_mem_cons.mpr ⟨g_mem mc_192 rfl, List.forall_mem_cons.mpr ⟨g_mem mc_193 rfl, List.forall_mem_cons.mpr ⟨g_mem mc_194 rfl, List.forall_mem_cons.mpr ⟨g_mem mc_195 rfl, List.forall_mem_cons.mpr ⟨g_mem mc_196 rfl, List.forall_mem_cons.mpr ⟨g_mem mc_197 rfl, List.forall_mem_cons.mpr ⟨g_mem mc_198 rfl, List.forall_mem_cons.mpr ⟨g_mem mc_199 rfl, fun _ h => absurd h List.not_mem_nil⟩⟩⟩⟩⟩⟩⟩⟩⟩⟩⟩⟩⟩⟩⟩⟩⟩⟩⟩⟩⟩⟩⟩⟩⟩
set_option maxRecDepth 100000 in
theorem mt_cd_8 : ∀ q ∈ mt_8, cdP q := List.forall_mem_cons.mpr ⟨g_mem mc_200 rfl, List.forall_mem_cons.mpr ⟨g_mem mc_201 rfl, List.forall_mem_cons.mpr ⟨g_mem mc_202 rfl, List.forall_mem_cons.mpr ⟨g_mem mc_203 rfl, List.forall_mem_cons.mpr ⟨g_mem mc_204 rfl, List.forall_mem_cons.mpr ⟨g_mem mc_205 rfl, List.forall_mem_cons.mpr ⟨g_mem mc_206 rfl, List.forall_mem_cons.mpr ⟨g_mem mc_207 rfl, List.forall_mem_cons.mpr ⟨g_mem mc_208 rfl, List.forall_mem_cons.mpr ⟨g_mem mc_209 rfl, List.forall_mem_cons.mpr ⟨g_mem mc_210 rfl, List.forall_mem_cons.mpr ⟨g_mem mc_211 rfl, List.forall_mem_cons.mpr ⟨g_mem mc_212 rfl, List.forall_mem_cons.mpr ⟨g_mem mc_213 rfl, List.forall_mem_cons.mpr ⟨g_mem mc_214 rfl, List.forall_mem_cons.mpr ⟨g_mem mc_215 rfl, List.forall_mem_cons.mpr ⟨g_mem mc_216 rfl, List.forall_mem_cons.mpr ⟨g_mem mc_217 rfl, List.forall_mem_cons.mpr ⟨g_mem mc_218 rfl, List.forall_mem_cons.mpr ⟨g_mem mc_219 rfl, List.forall_mem_cons.mpr ⟨g_mem mc_220 rfl, List.forall_mem_cons.mpr ⟨g_mem mc_221 rfl, List.forall_mem_cons.mpr ⟨g_mem mc_222 rfl, List.forall_mem_cons.mpr ⟨g_mem mc_223 rfl, List.forall_mem_cons.mpr ⟨g_mem mc_224 rfl, fun _ h => absurd h List.not_mem_nil⟩⟩⟩⟩⟩⟩⟩⟩⟩⟩⟩⟩⟩⟩⟩⟩⟩⟩⟩⟩⟩⟩⟩⟩⟩
set_option maxRecDepth 100000 in
theorem mt_cd_9 : ∀ q ∈ mt_9, cdP q := List.forall_mem_cons.mpr ⟨g_mem mc_225 rfl, List.forall_mem_cons.mpr ⟨g_mem mc_226 rfl, List.forall_mem_cons.mpr ⟨g_mem mc_227 rfl, List.forall_mem_cons.mpr ⟨g_mem mc_228 rfl, List.forall_mem_cons.mpr ⟨g_mem mc_229 rfl, List.forall_mem_cons.mpr ⟨g_mem mc_230 rfl, List.forall_mem_cons.mpr ⟨g_mem mc_231 rfl, List.forall_mem_cons.mpr ⟨g_mem mc_232 rfl, List.forall_mem_cons.mpr ⟨g_mem mc_233 rfl, List.forall_mem_cons.mpr ⟨g_mem mc_234 rfl, List.forall_mem_cons.mpr ⟨g_mem mc_235 rfl, List.forall_mem_cons.mpr ⟨g_mem mc_236 rfl, List.forall_mem_cons.mpr ⟨g_mem mc_237 rfl, List.forall_mem_cons.mpr ⟨g_mem mc_238 rfl, List.forall_mem_cons.mpr ⟨g_mem mc_239 rfl, List.forall_mem_cons.mpr ⟨g_mem mc_240 rfl, List.forall_mem_cons.mpr ⟨g_mem mc_241 rfl, List.forall_mem_cons.mpr ⟨g_mem mc_242 rfl, List.forall_mem_cons.mpr ⟨g_mem mc_243 rfl, List.forall_mem_cons.mpr ⟨g_mem mc_244 rfl, List.forall_mem_cons.mpr ⟨g_mem mc_245 rfl, fun _ h => absurd h List.not_mem_nil⟩⟩⟩⟩⟩⟩⟩⟩⟩⟩⟩⟩⟩⟩⟩⟩⟩⟩⟩⟩⟩
theorem mem_app {α : Type} {p : α → Prop} {a b : List α} (h1 : ∀ q ∈ a, p q) (h2 : ∀ q ∈ b, p q) : ∀ q ∈ a ++ b, p q := fun q h => (List.mem_append.mp h).elim (h1 q) (h2 q)
theorem mt_cd : ∀ q ∈ mt, cdP q := mem_app mt_cd_0 (mem_app mt_cd_1 (mem_app mt_cd_2 (mem_app mt_cd_3 (mem_app mt_cd_4 (mem_app mt_cd_5 (mem_app mt_cd_6 (mem_app mt_cd_7 (mem_app mt_cd_8 (mt_cd_9)))))))))
