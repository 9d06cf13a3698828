def wsL_law_r1 : List Cond := [Cond.classLink RL 7 RX6, Cond.instantiable RX6 8, Cond.initialized RX6, Cond.classLink RL 10 RX7, Cond.instantiable RX7 19, Cond.initialized RX7, Cond.methodLink RL 9 yX6_init, Cond.instanceMethod yX6_init, Cond.code yX6_init cX6_init 2 none, Cond.methodLink RX6 3 objectInit, Cond.instanceMethod objectInit, Cond.code objectInit ⟨#[0xb1]⟩ 1 none, Cond.classLink RX6 9 RX4, Cond.instantiable RX4 6, Cond.initialized RX4, Cond.fieldLink RX6 12 "ParcelDesk" "now" "LParcelDesk$State;", Cond.fieldLink RX6 16 "ParcelDesk" "past" "[LParcelDesk$State;", Cond.arrayClass .int, Cond.fieldLink RX6 20 "ParcelDesk" "buffer" "[I", Cond.classLink RX6 24 RX1, Cond.instantiable RX1 9, Cond.initialized RX1, Cond.fieldLink RX6 27 "ParcelDesk" "reader" "LParcelDesk$RuleReader;", Cond.classLink RX6 31 RX5]
def wsL_law_r2 : List Cond := [Cond.instantiable RX5 4, Cond.initialized RX5, Cond.fieldLink RX6 36 "ParcelDesk" "trial" "LParcelDesk$Table;", Cond.instanceMethod yX4_init, Cond.code yX4_init cX4_init 1 none, Cond.methodLink RX4 3 objectInit, Cond.classLink RX4 9 RX3, Cond.instantiable RX3 11, Cond.initialized RX3, Cond.fieldLink RX4 12 "ParcelDesk$State" "scale" "LParcelDesk$Scale;", Cond.classLink RX4 18 RX0, Cond.instantiable RX0 4, Cond.initialized RX0, Cond.fieldLink RX4 21 "ParcelDesk$State" "bands" "LParcelDesk$Bands;", Cond.classLink RX4 25 RX2, Cond.instantiable RX2 1, Cond.initialized RX2, Cond.fieldLink RX4 28 "ParcelDesk$State" "rules" "LParcelDesk$Rules;", Cond.classLink RX4 32 RX5, Cond.fieldLink RX4 37 "ParcelDesk$State" "parcels" "LParcelDesk$Table;", Cond.fieldLink RX4 41 "ParcelDesk$State" "notes" "LParcelDesk$Table;", Cond.fieldLink RX4 44 "ParcelDesk$State" "claims" "LParcelDesk$Table;", Cond.instanceMethod yX3_init, Cond.code yX3_init cX3_init 1 none]
def wsL_law_r3 : List Cond := [Cond.methodLink RX3 3 objectInit, Cond.fieldLink RX3 9 "ParcelDesk$Scale" "settings" "[I", Cond.instanceMethod yX0_init, Cond.code yX0_init cX0_init 1 none, Cond.methodLink RX0 3 objectInit, Cond.fieldLink RX0 9 "ParcelDesk$Bands" "bandCounts" "[I", Cond.fieldLink RX0 15 "ParcelDesk$Bands" "limits" "[I", Cond.fieldLink RX0 18 "ParcelDesk$Bands" "prices" "[I", Cond.fieldLink RX0 21 "ParcelDesk$Bands" "extras" "[I", Cond.instanceMethod yX2_init, Cond.code yX2_init cX2_init 1 none, Cond.methodLink RX2 3 objectInit, Cond.classLink RX2 9 RX5, Cond.fieldLink RX2 14 "ParcelDesk$Rules" "rows" "LParcelDesk$Table;", Cond.methodLink RX2 11 yX5_init, Cond.instanceMethod yX5_init, Cond.code yX5_init cX5_init 3 none, Cond.methodLink RX5 1 objectInit, Cond.methodLink RX5 7 Lib.Math.max.name, Cond.static Lib.Math.max.name, Cond.initialized "java/lang/Math", Cond.code Lib.Math.max.name Lib.Math.max.code 2 (some .int), Cond.fieldLink RX5 13 "ParcelDesk$Table" "room" "I", Cond.fieldLink RX5 19 "ParcelDesk$Table" "width" "I"]
def wsL_law_r4 : List Cond := [Cond.fieldLink RX5 22 "ParcelDesk$Table" "cells" "[I", Cond.methodLink RX4 34 yX5_init, Cond.instanceMethod yX1_init, Cond.code yX1_init cX1_init 1 none, Cond.methodLink RX1 3 objectInit, Cond.fieldLink RX1 9 "ParcelDesk$RuleReader" "tokens" "[I", Cond.methodLink RX6 33 yX5_init, Cond.methodLink RX6 40 yX5_addRow, Cond.instanceMethod yX5_addRow, Cond.selects RX5 yX5_addRow yX5_addRow, Cond.code yX5_addRow cX5_addRow 1 (some .int), Cond.fieldLink RX5 26 "ParcelDesk$Table" "count" "I", Cond.methodLink RL 12 yX7_init, Cond.instanceMethod yX7_init, Cond.code yX7_init cX7_init 2 none, Cond.methodLink RX7 1 objectInit, Cond.arrayClass .long, Cond.fieldLink RX7 7 "ParcelDeskModel" "v" "[J", Cond.fieldLink RX7 13 "ParcelDeskModel" "past" "[J", Cond.fieldLink RX7 16 "ParcelDeskModel" "typed" "[I", Cond.fieldLink RX7 20 "ParcelDeskModel" "text" "[I", Cond.fieldLink RX7 23 "ParcelDeskModel" "marks" "[I", Cond.fieldLink RX7 26 "ParcelDeskModel" "markMany" "[I", Cond.fieldLink RX7 29 "ParcelDeskModel" "change" "[I"]
def wsL_law_r5 : List Cond := [Cond.fieldLink RX7 32 "ParcelDeskModel" "amount" "[I", Cond.fieldLink RX7 35 "ParcelDeskModel" "waits" "[I", Cond.fieldLink RX7 38 "ParcelDeskModel" "worked" "[J", Cond.fieldLink RX7 41 "ParcelDeskModel" "fields" "[J", Cond.arrayClass .boolean, Cond.fieldLink RX7 44 "ParcelDeskModel" "pile" "[Z", Cond.constantLong RX7 48 (10), Cond.constantLong RX7 50 (30000), Cond.constantLong RX7 52 (5), Cond.constantLong RX7 54 (5000), Cond.constantLong RX7 56 (100), Cond.methodLink RL 13 yX6_set, Cond.instanceMethod yX6_set, Cond.selects RX6 yX6_set yX6_set, Cond.code yX6_set cX6_set 4 (some .int), Cond.fieldLink RX6 44 "ParcelDesk" "LOWEST_SETTING" "[I", Cond.fieldLink RX6 51 "ParcelDesk" "HIGHEST_SETTING" "[I", Cond.constant RX6 54 (-1000001), Cond.fieldLink RX6 59 "ParcelDesk$State" "scale" "LParcelDesk$Scale;", Cond.methodLink RX6 47 yX6_isIndex, Cond.static yX6_isIndex, Cond.code yX6_isIndex cX6_isIndex 2 (some .boolean), Cond.methodLink RX6 55 yX6_isWithin, Cond.static yX6_isWithin]
def wsL_law_r6 : List Cond := [Cond.code yX6_isWithin cX6_isWithin 3 (some .boolean), Cond.methodLink RX6 63 yX3_settingOf, Cond.instanceMethod yX3_settingOf, Cond.selects RX3 yX3_settingOf yX3_settingOf, Cond.code yX3_settingOf cX3_settingOf 2 (some .int), Cond.methodLink RX6 69 yX6_remember, Cond.instanceMethod yX6_remember, Cond.selects RX6 yX6_remember yX6_remember, Cond.code yX6_remember cX6_remember 1 none, Cond.fieldLink RX6 258 "ParcelDesk" "pastNext" "I", Cond.fieldLink RX6 255 "ParcelDesk" "pastCount" "I", Cond.methodLink RX6 261 yX4_copyFrom, Cond.instanceMethod yX4_copyFrom, Cond.selects RX4 yX4_copyFrom yX4_copyFrom, Cond.code yX4_copyFrom cX4_copyFrom 2 none, Cond.methodLink RX4 47 yX3_copyFrom, Cond.instanceMethod yX3_copyFrom, Cond.selects RX3 yX3_copyFrom yX3_copyFrom, Cond.code yX3_copyFrom cX3_copyFrom 3 none, Cond.fieldLink RX3 19 "ParcelDesk$Scale" "load" "I", Cond.fieldLink RX3 73 "ParcelDesk$Scale" "time" "I", Cond.fieldLink RX3 43 "ParcelDesk$Scale" "zero" "I", Cond.fieldLink RX3 49 "ParcelDesk$Scale" "tare" "I", Cond.fieldLink RX3 36 "ParcelDesk$Scale" "offset" "I"]
def wsL_law_r7 : List Cond := [Cond.fieldLink RX3 83 "ParcelDesk$Scale" "tracked" "I", Cond.fieldLink RX3 23 "ParcelDesk$Scale" "readings" "I", Cond.fieldLink RX3 52 "ParcelDesk$Scale" "latest" "I", Cond.fieldLink RX3 55 "ParcelDesk$Scale" "second" "I", Cond.fieldLink RX3 58 "ParcelDesk$Scale" "third" "I", Cond.methodLink RX3 26 yX3_settingOf, Cond.methodLink RX4 51 yX0_copyFrom, Cond.instanceMethod yX0_copyFrom, Cond.selects RX0 yX0_copyFrom yX0_copyFrom, Cond.code yX0_copyFrom cX0_copyFrom 4 none, Cond.methodLink RX0 32 yX0_bandsOf, Cond.instanceMethod yX0_bandsOf, Cond.selects RX0 yX0_bandsOf yX0_bandsOf, Cond.code yX0_bandsOf cX0_bandsOf 2 (some .int), Cond.methodLink RX0 36 yX0_limitOf, Cond.instanceMethod yX0_limitOf, Cond.selects RX0 yX0_limitOf yX0_limitOf, Cond.code yX0_limitOf cX0_limitOf 4 (some .int), Cond.methodLink RX0 28 yX0_hasBand, Cond.instanceMethod yX0_hasBand, Cond.selects RX0 yX0_hasBand yX0_hasBand, Cond.code yX0_hasBand cX0_hasBand 3 (some .boolean), Cond.methodLink RX0 40 yX0_priceOf, Cond.instanceMethod yX0_priceOf]
def wsL_law_r8 : List Cond := [Cond.selects RX0 yX0_priceOf yX0_priceOf, Cond.code yX0_priceOf cX0_priceOf 4 (some .int), Cond.methodLink RX0 43 yX0_putBand, Cond.instanceMethod yX0_putBand, Cond.selects RX0 yX0_putBand yX0_putBand, Cond.code yX0_putBand cX0_putBand 6 none, Cond.methodLink RX0 62 yX0_extraOf, Cond.instanceMethod yX0_extraOf, Cond.selects RX0 yX0_extraOf yX0_extraOf, Cond.code yX0_extraOf cX0_extraOf 2 (some .int), Cond.methodLink RX0 69 yX0_putExtra, Cond.instanceMethod yX0_putExtra, Cond.selects RX0 yX0_putExtra yX0_putExtra, Cond.code yX0_putExtra cX0_putExtra 3 none, Cond.methodLink RX4 54 yX2_copyFrom, Cond.instanceMethod yX2_copyFrom, Cond.selects RX2 yX2_copyFrom yX2_copyFrom, Cond.code yX2_copyFrom cX2_copyFrom 2 none, Cond.methodLink RX2 51 yX5_copyFrom, Cond.instanceMethod yX5_copyFrom, Cond.selects RX5 yX5_copyFrom yX5_copyFrom, Cond.code yX5_copyFrom cX5_copyFrom 3 none, Cond.methodLink RX5 36 Lib.Math.min.name, Cond.static Lib.Math.min.name]
def wsL_law_r9 : List Cond := [Cond.code Lib.Math.min.name Lib.Math.min.code 2 (some .int), Cond.methodLink RX5 39 arraycopyName, Cond.native arraycopyName, Cond.static arraycopyName, Cond.initialized "java/lang/System", Cond.methodLink RX4 57 yX5_copyFrom, Cond.methodLink RX6 72 yX3_putSetting, Cond.instanceMethod yX3_putSetting, Cond.selects RX3 yX3_putSetting yX3_putSetting, Cond.code yX3_putSetting cX3_putSetting 3 none, Cond.methodLink RL 17 yX7_set, Cond.instanceMethod yX7_set, Cond.selects RX7 yX7_set yX7_set, Cond.code yX7_set cX7_set 3 (some .int), Cond.constant RX7 89 (-1000001), Cond.methodLink RX7 81 yX7_isIn, Cond.static yX7_isIn, Cond.code yX7_isIn cX7_isIn 2 (some .boolean), Cond.constantLong RX7 65 (-20), Cond.constantLong RX7 67 (20), Cond.constantLong RX7 73 (1000), Cond.constantLong RX7 75 (70000), Cond.constantLong RX7 77 (200), Cond.constantLong RX7 79 (9999)]
def wsL_law_r10 : List Cond := [Cond.methodLink RX7 69 yX7_in, Cond.static yX7_in, Cond.code yX7_in cX7_in 6 (some .boolean), Cond.methodLink RX7 85 yX7_sets, Cond.instanceMethod yX7_sets, Cond.selects RX7 yX7_sets yX7_sets, Cond.code yX7_sets cX7_sets 4 (some .int), Cond.methodLink RX7 62 yX7_act, Cond.instanceMethod yX7_act, Cond.selects RX7 yX7_act yX7_act, Cond.code yX7_act cX7_act 2 none, Cond.fieldLink RX7 58 "ParcelDeskModel" "pastMany" "I", Cond.methodLink RL 18 yX6_setting, Cond.instanceMethod yX6_setting, Cond.selects RX6 yX6_setting yX6_setting, Cond.code yX6_setting cX6_setting 2 (some .int), Cond.methodLink RL 22 yX7_setting, Cond.instanceMethod yX7_setting, Cond.selects RX7 yX7_setting yX7_setting, Cond.code yX7_setting cX7_setting 2 (some .int), Cond.constantLong RX7 90 (7), Cond.methodLink RL 23 yX6_load, Cond.instanceMethod yX6_load, Cond.selects RX6 yX6_load yX6_load]
def wsL_law_r11 : List Cond := [Cond.code yX6_load cX6_load 3 (some .int), Cond.constant RX6 75 (100000), Cond.fieldLink RX6 76 "ParcelDesk$Scale" "load" "I", Cond.methodLink RX6 80 yX3_putLoad, Cond.instanceMethod yX3_putLoad, Cond.selects RX3 yX3_putLoad yX3_putLoad, Cond.code yX3_putLoad cX3_putLoad 2 none, Cond.methodLink RL 26 yX7_load, Cond.instanceMethod yX7_load, Cond.selects RX7 yX7_load yX7_load, Cond.code yX7_load cX7_load 3 (some .int), Cond.constantLong RX7 92 (100000), Cond.methodLink RL 27 yX6_tick, Cond.instanceMethod yX6_tick, Cond.selects RX6 yX6_tick yX6_tick, Cond.code yX6_tick cX6_tick 3 (some .int), Cond.fieldLink RX6 84 "ParcelDesk$Scale" "time" "I", Cond.constant RX6 87 (-1000002), Cond.methodLink RX6 88 yX3_passTick, Cond.instanceMethod yX3_passTick, Cond.selects RX3 yX3_passTick yX3_passTick, Cond.code yX3_passTick cX3_passTick 1 none, Cond.methodLink RX3 39 yX3_rawReading, Cond.instanceMethod yX3_rawReading]
def wsL_law_r12 : List Cond := [Cond.selects RX3 yX3_rawReading yX3_rawReading, Cond.code yX3_rawReading cX3_rawReading 1 (some .int), Cond.methodLink RX3 30 yJ9_floorDiv_7cf53, Cond.static yJ9_floorDiv_7cf53, Cond.initialized RJ9, Cond.code yJ9_floorDiv_7cf53 cJ9_floorDiv_7cf53 3 (some .int), Cond.methodLink RX3 76 yX3_putDown, Cond.instanceMethod yX3_putDown, Cond.selects RX3 yX3_putDown yX3_putDown, Cond.code yX3_putDown cX3_putDown 2 none, Cond.methodLink RX3 64 Lib.Math.min.name, Cond.methodLink RX3 80 yX3_track, Cond.instanceMethod yX3_track, Cond.selects RX3 yX3_track yX3_track, Cond.code yX3_track cX3_track 1 none, Cond.methodLink RX3 70 Lib.Math.abs.name, Cond.static Lib.Math.abs.name, Cond.code Lib.Math.abs.name Lib.Math.abs.code 1 (some .int), Cond.methodLink RX3 67 yX3_aboveZero, Cond.instanceMethod yX3_aboveZero, Cond.selects RX3 yX3_aboveZero yX3_aboveZero, Cond.code yX3_aboveZero cX3_aboveZero 1 (some .int), Cond.methodLink RX6 91 yX3_rawReading, Cond.methodLink RL 30 yX7_tick]
def wsL_law_r13 : List Cond := [Cond.instanceMethod yX7_tick, Cond.selects RX7 yX7_tick yX7_tick, Cond.code yX7_tick cX7_tick 3 (some .int), Cond.constant RX7 108 (-1000002), Cond.methodLink RX7 109 yX7_passes, Cond.instanceMethod yX7_passes, Cond.selects RX7 yX7_passes yX7_passes, Cond.code yX7_passes cX7_passes 1 none, Cond.constantLong RX7 98 (3), Cond.methodLink RX7 100 yX7_raw, Cond.instanceMethod yX7_raw, Cond.selects RX7 yX7_raw yX7_raw, Cond.code yX7_raw cX7_raw 1 (some .long), Cond.methodLink RX7 94 yX7_div, Cond.static yX7_div, Cond.code yX7_div cX7_div 6 (some .long), Cond.methodLink RX7 104 yX7_size, Cond.static yX7_size, Cond.code yX7_size cX7_size 2 (some .long), Cond.methodLink RL 31 yX6_zero, Cond.instanceMethod yX6_zero, Cond.selects RX6 yX6_zero yX6_zero, Cond.code yX6_zero cX6_zero 3 (some .int), Cond.fieldLink RX6 101 "ParcelDesk$Scale" "zero" "I"]
def wsL_law_r14 : List Cond := [Cond.fieldLink RX6 104 "ParcelDesk$Scale" "tare" "I", Cond.methodLink RX6 94 yX3_isSteady, Cond.instanceMethod yX3_isSteady, Cond.selects RX3 yX3_isSteady yX3_isSteady, Cond.code yX3_isSteady cX3_isSteady 3 (some .boolean), Cond.methodLink RX3 61 Lib.Math.max.name, Cond.methodLink RX6 98 yX3_isNearZero, Cond.instanceMethod yX3_isNearZero, Cond.selects RX3 yX3_isNearZero yX3_isNearZero, Cond.code yX3_isNearZero cX3_isNearZero 1 (some .boolean), Cond.methodLink RL 35 yX7_zero, Cond.instanceMethod yX7_zero, Cond.selects RX7 yX7_zero yX7_zero, Cond.code yX7_zero cX7_zero 2 (some .int), Cond.methodLink RX7 114 yX7_isSteady, Cond.instanceMethod yX7_isSteady, Cond.selects RX7 yX7_isSteady yX7_isSteady, Cond.code yX7_isSteady cX7_isSteady 6 (some .boolean), Cond.methodLink RL 36 yX6_tare, Cond.instanceMethod yX6_tare, Cond.selects RX6 yX6_tare yX6_tare, Cond.code yX6_tare cX6_tare 2 (some .int), Cond.methodLink RX6 107 yX3_isOver, Cond.instanceMethod yX3_isOver]
def wsL_law_r15 : List Cond := [Cond.selects RX3 yX3_isOver yX3_isOver, Cond.code yX3_isOver cX3_isOver 1 (some .boolean), Cond.methodLink RX6 110 yX3_grossWeight, Cond.instanceMethod yX3_grossWeight, Cond.selects RX3 yX3_grossWeight yX3_grossWeight, Cond.code yX3_grossWeight cX3_grossWeight 2 (some .int), Cond.methodLink RL 39 yX7_tare, Cond.instanceMethod yX7_tare, Cond.selects RX7 yX7_tare yX7_tare, Cond.code yX7_tare cX7_tare 1 (some .int), Cond.methodLink RX7 118 yX7_isOver, Cond.instanceMethod yX7_isOver, Cond.selects RX7 yX7_isOver yX7_isOver, Cond.code yX7_isOver cX7_isOver 1 (some .boolean), Cond.methodLink RX7 121 yX7_gross, Cond.instanceMethod yX7_gross, Cond.selects RX7 yX7_gross yX7_gross, Cond.code yX7_gross cX7_gross 1 (some .long), Cond.constantLong RX7 112 (2), Cond.methodLink RL 40 yX6_scale, Cond.instanceMethod yX6_scale, Cond.selects RX6 yX6_scale yX6_scale, Cond.code yX6_scale cX6_scale 2 (some .int), Cond.methodLink RX6 113 yX3_number]
def wsL_law_r16 : List Cond := [Cond.instanceMethod yX3_number, Cond.selects RX3 yX3_number yX3_number, Cond.code yX3_number cX3_number 2 (some .int), Cond.methodLink RX3 46 yX3_grossWeight, Cond.methodLink RX3 86 yX3_netWeight, Cond.instanceMethod yX3_netWeight, Cond.selects RX3 yX3_netWeight yX3_netWeight, Cond.code yX3_netWeight cX3_netWeight 1 (some .int), Cond.methodLink RX3 89 yX3_isSteady, Cond.methodLink RX3 93 yX3_isOver, Cond.methodLink RL 43 yX7_scale, Cond.instanceMethod yX7_scale, Cond.selects RX7 yX7_scale yX7_scale, Cond.code yX7_scale cX7_scale 2 (some .int), Cond.methodLink RX7 124 yX7_scaleOf, Cond.instanceMethod yX7_scaleOf, Cond.selects RX7 yX7_scaleOf yX7_scaleOf, Cond.code yX7_scaleOf cX7_scaleOf 2 (some .long), Cond.methodLink RL 44 yX6_band, Cond.instanceMethod yX6_band, Cond.selects RX6 yX6_band yX6_band, Cond.code yX6_band cX6_band 7 (some .int), Cond.fieldLink RX6 120 "ParcelDesk$State" "bands" "LParcelDesk$Bands;", Cond.constant RX6 140 (-1000003)]
def wsL_law_r17 : List Cond := [Cond.methodLink RX6 116 yX6_isZone, Cond.static yX6_isZone, Cond.code yX6_isZone cX6_isZone 1 (some .boolean), Cond.methodLink RX6 124 yX0_bandFor, Cond.instanceMethod yX0_bandFor, Cond.selects RX0 yX0_bandFor yX0_bandFor, Cond.code yX0_bandFor cX0_bandFor 5 (some .int), Cond.methodLink RX6 130 yX0_hasBand, Cond.methodLink RX6 134 yX0_limitOf, Cond.methodLink RX6 137 yX0_bandsOf, Cond.methodLink RX6 141 yX0_openBand, Cond.instanceMethod yX0_openBand, Cond.selects RX0 yX0_openBand yX0_openBand, Cond.code yX0_openBand cX0_openBand 4 none, Cond.methodLink RX6 144 yX0_putBand, Cond.methodLink RL 48 yX7_band, Cond.instanceMethod yX7_band, Cond.selects RX7 yX7_band yX7_band, Cond.code yX7_band cX7_band 7 (some .int), Cond.constant RX7 139 (-1000003), Cond.methodLink RX7 128 yX7_isZone, Cond.static yX7_isZone, Cond.code yX7_isZone cX7_isZone 1 (some .boolean), Cond.methodLink RX7 132 yX7_bands]
def wsL_law_r18 : List Cond := [Cond.instanceMethod yX7_bands, Cond.selects RX7 yX7_bands yX7_bands, Cond.code yX7_bands cX7_bands 2 (some .int), Cond.methodLink RX7 136 yX7_placeOf, Cond.static yX7_placeOf, Cond.code yX7_placeOf cX7_placeOf 2 (some .int), Cond.methodLink RL 49 yX6_unband, Cond.instanceMethod yX6_unband, Cond.selects RX6 yX6_unband yX6_unband, Cond.code yX6_unband cX6_unband 3 (some .int), Cond.methodLink RX6 148 yX0_closeBand, Cond.instanceMethod yX0_closeBand, Cond.selects RX0 yX0_closeBand yX0_closeBand, Cond.code yX0_closeBand cX0_closeBand 4 none, Cond.methodLink RL 52 yX7_unband, Cond.instanceMethod yX7_unband, Cond.selects RX7 yX7_unband yX7_unband, Cond.code yX7_unband cX7_unband 4 (some .int), Cond.methodLink RL 53 yX6_bandAt, Cond.instanceMethod yX6_bandAt, Cond.selects RX6 yX6_bandAt yX6_bandAt, Cond.code yX6_bandAt cX6_bandAt 4 (some .int), Cond.methodLink RX6 151 yX0_priceOf, Cond.methodLink RL 56 yX7_bandAt]
def wsL_law_r19 : List Cond := [Cond.instanceMethod yX7_bandAt, Cond.selects RX7 yX7_bandAt yX7_bandAt, Cond.code yX7_bandAt cX7_bandAt 4 (some .int), Cond.methodLink RL 57 yX6_setExtra, Cond.instanceMethod yX6_setExtra, Cond.selects RX6 yX6_setExtra yX6_setExtra, Cond.code yX6_setExtra cX6_setExtra 4 (some .int), Cond.methodLink RX6 154 yX0_extraOf, Cond.methodLink RX6 157 yX0_putExtra, Cond.methodLink RL 60 yX7_setExtra, Cond.instanceMethod yX7_setExtra, Cond.selects RX7 yX7_setExtra yX7_setExtra, Cond.code yX7_setExtra cX7_setExtra 3 (some .int), Cond.constantLong RX7 140 (10000), Cond.methodLink RL 61 yX6_type, Cond.instanceMethod yX6_type, Cond.selects RX6 yX6_type yX6_type, Cond.code yX6_type cX6_type 2 (some .int), Cond.fieldLink RX6 160 "ParcelDesk" "typed" "I", Cond.methodLink RL 64 yX7_type, Cond.instanceMethod yX7_type, Cond.selects RX7 yX7_type yX7_type, Cond.code yX7_type cX7_type 2 (some .int), Cond.constantLong RX7 142 (32)]
def wsL_law_r20 : List Cond := [Cond.constantLong RX7 144 (126), Cond.fieldLink RX7 146 "ParcelDeskModel" "typedMany" "I", Cond.methodLink RL 65 yX6_clear, Cond.instanceMethod yX6_clear, Cond.selects RX6 yX6_clear yX6_clear, Cond.code yX6_clear cX6_clear 2 (some .int), Cond.methodLink RL 68 yX7_clear, Cond.instanceMethod yX7_clear, Cond.selects RX7 yX7_clear yX7_clear, Cond.code yX7_clear cX7_clear 2 (some .int), Cond.methodLink RL 69 yX6_rule, Cond.instanceMethod yX6_rule, Cond.selects RX6 yX6_rule yX6_rule, Cond.code yX6_rule cX6_rule 2 (some .int), Cond.fieldLink RX6 169 "ParcelDesk$State" "rules" "LParcelDesk$Rules;", Cond.methodLink RX6 163 yX6_readBuffer, Cond.instanceMethod yX6_readBuffer, Cond.selects RX6 yX6_readBuffer yX6_readBuffer, Cond.code yX6_readBuffer cX6_readBuffer 2 (some .int), Cond.methodLink RX6 305 yX1_start, Cond.instanceMethod yX1_start, Cond.selects RX1 yX1_start yX1_start, Cond.code yX1_start cX1_start 1 none, Cond.fieldLink RX1 15 "ParcelDesk$RuleReader" "count" "I"]
def wsL_law_r21 : List Cond := [Cond.fieldLink RX1 19 "ParcelDesk$RuleReader" "place" "I", Cond.fieldLink RX1 22 "ParcelDesk$RuleReader" "depth" "I", Cond.methodLink RX6 308 yX1_accepts, Cond.instanceMethod yX1_accepts, Cond.selects RX1 yX1_accepts yX1_accepts, Cond.code yX1_accepts cX1_accepts 2 (some .boolean), Cond.methodLink RX1 32 yX1_acceptsTerm, Cond.instanceMethod yX1_acceptsTerm, Cond.selects RX1 yX1_acceptsTerm yX1_acceptsTerm, Cond.code yX1_acceptsTerm cX1_acceptsTerm 2 (some .boolean), Cond.fieldLink RX1 63 "ParcelDesk$RuleReader" "letter" "I", Cond.methodLink RX1 51 yX1_addToken, Cond.instanceMethod yX1_addToken, Cond.selects RX1 yX1_addToken yX1_addToken, Cond.code yX1_addToken cX1_addToken 2 none, Cond.methodLink RX1 57 yJ0_indexOf_0f7a4, Cond.instanceMethod yJ0_indexOf_0f7a4, Cond.selects RJ0 yJ0_indexOf_0f7a4 yJ0_indexOf_0f7a4, Cond.initialized RJ0, Cond.code yJ0_indexOf_0f7a4 cJ0_indexOf_0f7a4 2 (some .int), Cond.methodLink RJ0 633 yJ0_indexOf_7cf53, Cond.instanceMethod yJ0_indexOf_7cf53, Cond.selects RJ0 yJ0_indexOf_7cf53 yJ0_indexOf_7cf53, Cond.code yJ0_indexOf_7cf53 cJ0_indexOf_7cf53 3 (some .int)]
def wsL_law_r22 : List Cond := [Cond.fieldLink RJ0 9 "java/lang/String" "value" "[B", Cond.methodLink RJ0 492 yJ0_isLatin1_aae02, Cond.instanceMethod yJ0_isLatin1_aae02, Cond.selects RJ0 yJ0_isLatin1_aae02 yJ0_isLatin1_aae02, Cond.code yJ0_isLatin1_aae02 cJ0_isLatin1_aae02 1 (some .boolean), Cond.fieldLink RJ0 38 "java/lang/String" "COMPACT_STRINGS" "Z", Cond.fieldLink RJ0 15 "java/lang/String" "coder" "B", Cond.methodLink RJ0 505 yJ0_length_8abf5, Cond.instanceMethod yJ0_length_8abf5, Cond.selects RJ0 yJ0_length_8abf5 yJ0_length_8abf5, Cond.code yJ0_length_8abf5 cJ0_length_8abf5 1 (some .int), Cond.methodLink RJ0 335 yJ0_coder_7d493, Cond.instanceMethod yJ0_coder_7d493, Cond.selects RJ0 yJ0_coder_7d493 yJ0_coder_7d493, Cond.code yJ0_coder_7d493 cJ0_coder_7d493 1 (some .byte), Cond.methodLink RJ0 637 yJ1_indexOf_4cfef, Cond.static yJ1_indexOf_4cfef, Cond.initialized RJ1, Cond.code yJ1_indexOf_4cfef cJ1_indexOf_4cfef 4 (some .int), Cond.methodLink RJ1 92 Lib.Math.max.name, Cond.methodLink RJ1 38 Lib.Math.min.name, Cond.methodLink RJ1 88 yJ1_canEncode_9a6ad, Cond.static yJ1_canEncode_9a6ad, Cond.code yJ1_canEncode_9a6ad cJ1_canEncode_9a6ad 1 (some .boolean)]
def wsL_law_r23 : List Cond := [Cond.methodLink RJ1 95 yJ1_indexOfChar_4cfef, Cond.static yJ1_indexOfChar_4cfef, Cond.code yJ1_indexOfChar_4cfef cJ1_indexOfChar_4cfef 6 (some .int), Cond.methodLink RJ0 640 yJ2_indexOf_4cfef, Cond.static yJ2_indexOf_4cfef, Cond.initialized RJ2, Cond.code yJ2_indexOf_4cfef cJ2_indexOf_4cfef 4 (some .int), Cond.methodLink RJ2 224 Lib.Math.max.name, Cond.methodLink RJ2 183 Lib.Math.min.name, Cond.constant RJ2 227 (65536), Cond.methodLink RJ2 228 yJ2_indexOfChar_4cfef, Cond.static yJ2_indexOfChar_4cfef, Cond.code yJ2_indexOfChar_4cfef cJ2_indexOfChar_4cfef 4 (some .int), Cond.methodLink RJ2 96 yJ2_checkBoundsBeginEnd_d044e, Cond.static yJ2_checkBoundsBeginEnd_d044e, Cond.code yJ2_checkBoundsBeginEnd_d044e cJ2_checkBoundsBeginEnd_d044e 3 none, Cond.methodLink RJ2 48 yJ2_length_9d52b, Cond.static yJ2_length_9d52b, Cond.code yJ2_length_9d52b cJ2_length_9d52b 1 (some .int), Cond.methodLink RJ2 241 yJ0_checkBoundsBeginEnd_23922, Cond.static yJ0_checkBoundsBeginEnd_23922, Cond.code yJ0_checkBoundsBeginEnd_23922 cJ0_checkBoundsBeginEnd_23922 3 none, Cond.fieldLink RJ0 1053 "jdk/internal/util/Preconditions" "SIOOBE_FORMATTER" "Ljava/util/function/BiFunction;", Cond.methodLink RJ0 1062 yJ3_checkFromToIndex_8c36e]
def wsL_law_r24 : List Cond := [Cond.static yJ3_checkFromToIndex_8c36e, Cond.initialized RJ3, Cond.code yJ3_checkFromToIndex_8c36e cJ3_checkFromToIndex_8c36e 4 (some .int), Cond.methodLink RJ2 244 yJ2_indexOfCharUnsafe_4cfef, Cond.static yJ2_indexOfCharUnsafe_4cfef, Cond.code yJ2_indexOfCharUnsafe_4cfef cJ2_indexOfCharUnsafe_4cfef 5 (some .int), Cond.methodLink RJ2 71 yJ2_getChar_3b067, Cond.static yJ2_getChar_3b067, Cond.code yJ2_getChar_3b067 cJ2_getChar_3b067 2 (some .char), Cond.fieldLink RJ2 44 "java/lang/StringUTF16" "$assertionsDisabled" "Z", Cond.fieldLink RJ2 59 "java/lang/StringUTF16" "HI_BYTE_SHIFT" "I", Cond.fieldLink RJ2 63 "java/lang/StringUTF16" "LO_BYTE_SHIFT" "I", Cond.methodLink RJ2 232 yJ2_indexOfSupplementary_4cfef, Cond.static yJ2_indexOfSupplementary_4cfef, Cond.code yJ2_indexOfSupplementary_4cfef cJ2_indexOfSupplementary_4cfef 7 (some .int), Cond.methodLink RJ2 164 yJ11_isValidCodePoint_9a6ad, Cond.static yJ11_isValidCodePoint_9a6ad, Cond.initialized RJ11, Cond.code yJ11_isValidCodePoint_9a6ad cJ11_isValidCodePoint_9a6ad 2 (some .boolean), Cond.methodLink RJ2 157 yJ11_highSurrogate_5068e, Cond.static yJ11_highSurrogate_5068e, Cond.code yJ11_highSurrogate_5068e cJ11_highSurrogate_5068e 1 (some .char), Cond.constant RJ11 110 (55232), Cond.methodLink RJ2 161 yJ11_lowSurrogate_5068e]
def wsL_law_r25 : List Cond := [Cond.static yJ11_lowSurrogate_5068e, Cond.code yJ11_lowSurrogate_5068e cJ11_lowSurrogate_5068e 1 (some .char), Cond.constant RJ11 76 (56320), Cond.methodLink RX1 36 yX1_acceptsRelation, Cond.instanceMethod yX1_acceptsRelation, Cond.selects RX1 yX1_acceptsRelation yX1_acceptsRelation, Cond.code yX1_acceptsRelation cX1_acceptsRelation 2 (some .boolean), Cond.fieldLink RX1 68 "ParcelDesk$RuleReader" "relation" "I", Cond.methodLink RX1 71 yX1_startNumber, Cond.instanceMethod yX1_startNumber, Cond.selects RX1 yX1_startNumber yX1_startNumber, Cond.code yX1_startNumber cX1_startNumber 2 none, Cond.fieldLink RX1 74 "ParcelDesk$RuleReader" "number" "I", Cond.fieldLink RX1 25 "ParcelDesk$RuleReader" "digits" "I", Cond.methodLink RX1 39 yX1_acceptsDigit, Cond.instanceMethod yX1_acceptsDigit, Cond.selects RX1 yX1_acceptsDigit yX1_acceptsDigit, Cond.code yX1_acceptsDigit cX1_acceptsDigit 2 (some .boolean), Cond.methodLink RX1 42 yX1_acceptsLinkBehindNumber, Cond.instanceMethod yX1_acceptsLinkBehindNumber, Cond.selects RX1 yX1_acceptsLinkBehindNumber yX1_acceptsLinkBehindNumber, Cond.code yX1_acceptsLinkBehindNumber cX1_acceptsLinkBehindNumber 2 (some .boolean), Cond.constant RX1 77 (100000), Cond.methodLink RX1 45 yX1_acceptsLink]
def wsL_law_r26 : List Cond := [Cond.instanceMethod yX1_acceptsLink, Cond.selects RX1 yX1_acceptsLink yX1_acceptsLink, Cond.code yX1_acceptsLink cX1_acceptsLink 2 (some .boolean), Cond.methodLink RX1 48 yX1_acceptsChange, Cond.instanceMethod yX1_acceptsChange, Cond.selects RX1 yX1_acceptsChange yX1_acceptsChange, Cond.code yX1_acceptsChange cX1_acceptsChange 2 (some .boolean), Cond.fieldLink RX1 78 "ParcelDesk$RuleReader" "change" "I", Cond.methodLink RX6 166 yX1_isComplete, Cond.instanceMethod yX1_isComplete, Cond.selects RX1 yX1_isComplete yX1_isComplete, Cond.code yX1_isComplete cX1_isComplete 1 (some .boolean), Cond.methodLink RX6 173 yX2_count, Cond.instanceMethod yX2_count, Cond.selects RX2 yX2_count yX2_count, Cond.code yX2_count cX2_count 1 (some .int), Cond.fieldLink RX2 20 "ParcelDesk$Table" "count" "I", Cond.methodLink RX6 178 yX2_addRule, Cond.instanceMethod yX2_addRule, Cond.selects RX2 yX2_addRule yX2_addRule, Cond.code yX2_addRule cX2_addRule 4 none, Cond.fieldLink RX2 28 "ParcelDesk$RuleReader" "count" "I", Cond.fieldLink RX2 35 "ParcelDesk$RuleReader" "change" "I", Cond.fieldLink RX2 38 "ParcelDesk$RuleReader" "number" "I"]
def wsL_law_r27 : List Cond := [Cond.methodLink RX2 24 yX5_addRow, Cond.methodLink RX2 31 yX5_put, Cond.instanceMethod yX5_put, Cond.selects RX5 yX5_put yX5_put, Cond.code yX5_put cX5_put 4 none, Cond.methodLink RX2 41 yX1_tokenAt, Cond.instanceMethod yX1_tokenAt, Cond.selects RX1 yX1_tokenAt yX1_tokenAt, Cond.code yX1_tokenAt cX1_tokenAt 2 (some .int), Cond.methodLink RL 72 yX7_rule, Cond.instanceMethod yX7_rule, Cond.selects RX7 yX7_rule yX7_rule, Cond.code yX7_rule cX7_rule 3 (some .int), Cond.fieldLink RX7 152 "ParcelDeskModel" "textMany" "I", Cond.fieldLink RX7 149 "ParcelDeskModel" "at" "I", Cond.constantLong RX7 195 (8), Cond.methodLink RX7 192 yX7_readsRule, Cond.instanceMethod yX7_readsRule, Cond.selects RX7 yX7_readsRule yX7_readsRule, Cond.code yX7_readsRule cX7_readsRule 4 (some .boolean), Cond.fieldLink RX7 155 "ParcelDeskModel" "which" "I", Cond.fieldLink RX7 166 "ParcelDeskModel" "waitMany" "I", Cond.methodLink RX7 182 yX7_comparison, Cond.instanceMethod yX7_comparison]
def wsL_law_r28 : List Cond := [Cond.selects RX7 yX7_comparison yX7_comparison, Cond.code yX7_comparison cX7_comparison 4 (some .boolean), Cond.methodLink RX7 158 yX7_sign, Cond.instanceMethod yX7_sign, Cond.selects RX7 yX7_sign yX7_sign, Cond.code yX7_sign cX7_sign 1 (some .int), Cond.methodLink RX7 173 yX7_fieldOf, Cond.static yX7_fieldOf, Cond.code yX7_fieldOf cX7_fieldOf 1 (some .int), Cond.methodLink RX7 176 yX7_number, Cond.instanceMethod yX7_number, Cond.selects RX7 yX7_number yX7_number, Cond.code yX7_number cX7_number 3 (some .int), Cond.constantLong RX7 162 (48), Cond.constantLong RX7 164 (57), Cond.methodLink RX7 169 yX7_puts, Cond.instanceMethod yX7_puts, Cond.selects RX7 yX7_puts yX7_puts, Cond.code yX7_puts cX7_puts 5 none, Cond.methodLink RX7 185 yX7_settles, Cond.instanceMethod yX7_settles, Cond.selects RX7 yX7_settles yX7_settles, Cond.code yX7_settles cX7_settles 2 none, Cond.methodLink RX7 179 yX7_joins]
def wsL_law_r29 : List Cond := [Cond.instanceMethod yX7_joins, Cond.selects RX7 yX7_joins yX7_joins, Cond.code yX7_joins cX7_joins 1 none, Cond.methodLink RX7 189 yX7_opens, Cond.instanceMethod yX7_opens, Cond.selects RX7 yX7_opens yX7_opens, Cond.code yX7_opens cX7_opens 3 (some .int), Cond.methodLink RL 73 yX6_unrule, Cond.instanceMethod yX6_unrule, Cond.selects RX6 yX6_unrule yX6_unrule, Cond.code yX6_unrule cX6_unrule 1 (some .int), Cond.methodLink RX6 182 yX2_dropRule, Cond.instanceMethod yX2_dropRule, Cond.selects RX2 yX2_dropRule yX2_dropRule, Cond.code yX2_dropRule cX2_dropRule 1 none, Cond.methodLink RX2 45 Lib.Math.max.name, Cond.methodLink RL 76 yX7_unrule, Cond.instanceMethod yX7_unrule, Cond.selects RX7 yX7_unrule yX7_unrule, Cond.code yX7_unrule cX7_unrule 1 (some .int), Cond.methodLink RL 77 yX6_rules, Cond.instanceMethod yX6_rules, Cond.selects RX6 yX6_rules yX6_rules, Cond.code yX6_rules cX6_rules 1 (some .int)]
def wsL_law_r30 : List Cond := [Cond.methodLink RL 80 yX7_rules, Cond.instanceMethod yX7_rules, Cond.selects RX7 yX7_rules yX7_rules, Cond.code yX7_rules cX7_rules 1 (some .int), Cond.methodLink RL 81 yX6_take, Cond.instanceMethod yX6_take, Cond.selects RX6 yX6_take yX6_take, Cond.code yX6_take cX6_take 7 (some .int), Cond.fieldLink RX6 194 "ParcelDesk$State" "parcels" "LParcelDesk$Table;", Cond.fieldLink RX6 197 "ParcelDesk$Table" "count" "I", Cond.methodLink RX6 185 yX6_areSides, Cond.static yX6_areSides, Cond.code yX6_areSides cX6_areSides 3 (some .boolean), Cond.methodLink RX6 314 yX6_isSide, Cond.static yX6_isSide, Cond.code yX6_isSide cX6_isSide 1 (some .boolean), Cond.methodLink RX6 188 yX3_netWeight, Cond.methodLink RX6 191 yX6_hasBands, Cond.instanceMethod yX6_hasBands, Cond.selects RX6 yX6_hasBands yX6_hasBands, Cond.code yX6_hasBands cX6_hasBands 2 (some .boolean), Cond.methodLink RX6 199 yX6_describe, Cond.static yX6_describe, Cond.code yX6_describe cX6_describe 7 none]
def wsL_law_r31 : List Cond := [Cond.methodLink RX6 232 yX5_put, Cond.methodLink RX6 203 yX4_price, Cond.instanceMethod yX4_price, Cond.selects RX4 yX4_price yX4_price, Cond.code yX4_price cX4_price 6 none, Cond.constantLong RX4 68 (1000), Cond.methodLink RX4 82 Lib.Math.max.name, Cond.methodLink RX4 60 yX5_cell, Cond.instanceMethod yX5_cell, Cond.selects RX5 yX5_cell yX5_cell, Cond.code yX5_cell cX5_cell 3 (some .int), Cond.static yX6_volume, Cond.code yX6_volume cX6_volume 4 (some .int), Cond.methodLink RX6 216 yX5_cell, Cond.methodLink RX4 70 yX3_settingOf, Cond.static yX6_dividedUp, Cond.code yX6_dividedUp cX6_dividedUp 3 (some .int), Cond.methodLink RX4 78 yX5_put, Cond.methodLink RX4 87 yX4_measure, Cond.static yX4_measure, Cond.code yX4_measure cX4_measure 6 none, Cond.methodLink RX4 91 yX4_weightReason, Cond.static yX4_weightReason, Cond.code yX4_weightReason cX4_weightReason 2 (some .int)]
def wsL_law_r32 : List Cond := [Cond.static yX6_addReason, Cond.code yX6_addReason cX6_addReason 4 none, Cond.methodLink RX4 98 yX0_base, Cond.instanceMethod yX0_base, Cond.selects RX0 yX0_base yX0_base, Cond.code yX0_base cX0_base 6 (some .int), Cond.methodLink RX0 47 yX5_cell, Cond.methodLink RX0 52 yX0_bandFor, Cond.methodLink RX0 59 yX0_begunAbove, Cond.instanceMethod yX0_begunAbove, Cond.selects RX0 yX0_begunAbove yX0_begunAbove, Cond.code yX0_begunAbove cX0_begunAbove 3 (some .int), Cond.methodLink RX4 101 yX2_charge, Cond.instanceMethod yX2_charge, Cond.selects RX2 yX2_charge yX2_charge, Cond.code yX2_charge cX2_charge 5 (some .int), Cond.methodLink RX2 55 yX5_cell, Cond.methodLink RX2 58 yX2_holds, Cond.instanceMethod yX2_holds, Cond.selects RX2 yX2_holds yX2_holds, Cond.code yX2_holds cX2_holds 17 (some .boolean), Cond.methodLink RX2 79 yX2_pushed, Cond.static yX2_pushed, Cond.code yX2_pushed cX2_pushed 3 (some .long)]
def wsL_law_r33 : List Cond := [Cond.methodLink RX2 83 yX2_isSet, Cond.static yX2_isSet, Cond.code yX2_isSet cX2_isSet 2 (some .boolean), Cond.methodLink RX2 87 yX2_compares, Cond.static yX2_compares, Cond.code yX2_compares cX2_compares 5 (some .boolean), Cond.constant RX2 90 (100000), Cond.methodLink RX2 91 yX2_columnOf, Cond.static yX2_columnOf, Cond.code yX2_columnOf cX2_columnOf 2 (some .int), Cond.constant RX2 98 (-1000009), Cond.methodLink RX2 62 yX2_changed, Cond.instanceMethod yX2_changed, Cond.selects RX2 yX2_changed yX2_changed, Cond.code yX2_changed cX2_changed 8 (some .int), Cond.constantLong RX2 69 (1000), Cond.constantLong RX2 71 (1000000000), Cond.methodLink RX2 73 Lib.MathLoose.min_long.x, Cond.static Lib.MathLoose.min_long.x, Cond.code Lib.MathLoose.min_long.x Lib.MathLoose.min_long.code 4 (some .long), Cond.methodLink RX2 77 Lib.MathLoose.max_long.x, Cond.static Lib.MathLoose.max_long.x, Cond.code Lib.MathLoose.max_long.x Lib.MathLoose.max_long.code 4 (some .long), Cond.methodLink RL 85 yX7_take]
def wsL_law_r34 : List Cond := [Cond.instanceMethod yX7_take, Cond.selects RX7 yX7_take yX7_take, Cond.code yX7_take cX7_take 9 (some .int), Cond.constantLong RX7 227 (30), Cond.methodLink RX7 224 yX7_isSide, Cond.static yX7_isSide, Cond.code yX7_isSide cX7_isSide 1 (some .boolean), Cond.constantLong RX7 222 (2000), Cond.methodLink RX7 229 yX7_readsRules, Cond.instanceMethod yX7_readsRules, Cond.selects RX7 yX7_readsRules yX7_readsRules, Cond.code yX7_readsRules cX7_readsRules 3 none, Cond.fieldLink RX7 197 "ParcelDeskModel" "isRead" "Z", Cond.methodLink RX7 232 yX7_works, Cond.instanceMethod yX7_works, Cond.selects RX7 yX7_works yX7_works, Cond.code yX7_works cX7_works 15 (some .long), Cond.constantLong RX7 220 (1000000000), Cond.methodLink RX7 208 yX7_volume, Cond.static yX7_volume, Cond.code yX7_volume cX7_volume 6 (some .long), Cond.methodLink RX7 205 yX7_up, Cond.static yX7_up, Cond.code yX7_up cX7_up 4 (some .long)]
def wsL_law_r35 : List Cond := [Cond.methodLink RX7 211 yX7_bases, Cond.instanceMethod yX7_bases, Cond.selects RX7 yX7_bases yX7_bases, Cond.code yX7_bases cX7_bases 5 none, Cond.methodLink RX7 214 yX7_girth, Cond.static yX7_girth, Cond.code yX7_girth cX7_girth 6 (some .long), Cond.methodLink RX7 201 yX7_longest, Cond.static yX7_longest, Cond.code yX7_longest cX7_longest 8 (some .long), Cond.methodLink RX7 217 yX7_holds, Cond.instanceMethod yX7_holds, Cond.selects RX7 yX7_holds yX7_holds, Cond.code yX7_holds cX7_holds 8 (some .boolean), Cond.methodLink RX7 236 yX7_parcelAt, Cond.static yX7_parcelAt, Cond.code yX7_parcelAt cX7_parcelAt 2 (some .int), Cond.methodLink RL 86 yX6_quote, Cond.instanceMethod yX6_quote, Cond.selects RX6 yX6_quote yX6_quote, Cond.code yX6_quote cX6_quote 6 (some .int), Cond.methodLink RX6 207 yX6_trialCharge, Cond.instanceMethod yX6_trialCharge, Cond.selects RX6 yX6_trialCharge yX6_trialCharge]
def wsL_law_r36 : List Cond := [Cond.code yX6_trialCharge cX6_trialCharge 1 (some .int), Cond.methodLink RL 90 yX7_quote, Cond.instanceMethod yX7_quote, Cond.selects RX7 yX7_quote yX7_quote, Cond.code yX7_quote cX7_quote 6 (some .int), Cond.methodLink RL 91 yX6_parcel, Cond.instanceMethod yX6_parcel, Cond.selects RX6 yX6_parcel yX6_parcel, Cond.code yX6_parcel cX6_parcel 3 (some .int), Cond.methodLink RX6 210 yX5_has, Cond.instanceMethod yX5_has, Cond.selects RX5 yX5_has yX5_has, Cond.code yX5_has cX5_has 2 (some .boolean), Cond.methodLink RX6 213 yX6_openNote, Cond.instanceMethod yX6_openNote, Cond.selects RX6 yX6_openNote yX6_openNote, Cond.code yX6_openNote cX6_openNote 3 (some .int), Cond.fieldLink RX6 225 "ParcelDesk$State" "notes" "LParcelDesk$Table;", Cond.constant RX6 219 (-1000009), Cond.methodLink RL 94 yX7_parcel, Cond.instanceMethod yX7_parcel, Cond.selects RX7 yX7_parcel yX7_parcel, Cond.code yX7_parcel cX7_parcel 3 (some .int), Cond.methodLink RX7 246 yX7_isParcel]
def wsL_law_r37 : List Cond := [Cond.instanceMethod yX7_isParcel, Cond.selects RX7 yX7_isParcel yX7_isParcel, Cond.code yX7_isParcel cX7_isParcel 2 (some .boolean), Cond.methodLink RX7 249 yX7_told, Cond.instanceMethod yX7_told, Cond.selects RX7 yX7_told yX7_told, Cond.code yX7_told cX7_told 3 (some .long), Cond.methodLink RX7 243 yX7_openOf, Cond.instanceMethod yX7_openOf, Cond.selects RX7 yX7_openOf yX7_openOf, Cond.code yX7_openOf cX7_openOf 4 (some .int), Cond.constant RX7 239 (-1000009), Cond.methodLink RX7 240 yX7_noteAt, Cond.static yX7_noteAt, Cond.code yX7_noteAt cX7_noteAt 2 (some .int), Cond.methodLink RL 95 yX6_why, Cond.instanceMethod yX6_why, Cond.selects RX6 yX6_why yX6_why, Cond.code yX6_why cX6_why 3 (some .int), Cond.methodLink RL 98 yX7_why, Cond.instanceMethod yX7_why, Cond.selects RX7 yX7_why yX7_why, Cond.code yX7_why cX7_why 3 (some .int), Cond.methodLink RX7 253 yX7_reason]
def wsL_law_r38 : List Cond := [Cond.instanceMethod yX7_reason, Cond.selects RX7 yX7_reason yX7_reason, Cond.code yX7_reason cX7_reason 5 (some .int), Cond.methodLink RL 99 yX6_parcels, Cond.instanceMethod yX6_parcels, Cond.selects RX6 yX6_parcels yX6_parcels, Cond.code yX6_parcels cX6_parcels 1 (some .int), Cond.methodLink RL 102 yX7_parcels, Cond.instanceMethod yX7_parcels, Cond.selects RX7 yX7_parcels yX7_parcels, Cond.code yX7_parcels cX7_parcels 1 (some .int), Cond.methodLink RL 103 yX6_density, Cond.instanceMethod yX6_density, Cond.selects RX6 yX6_density yX6_density, Cond.code yX6_density cX6_density 3 (some .float), Cond.constantFloat RX6 220 (3212836864), Cond.methodLink RX6 221 yX6_volume, Cond.methodLink RL 107 yX7_density, Cond.instanceMethod yX7_density, Cond.selects RX7 yX7_density yX7_density, Cond.code yX7_density cX7_density 2 (some .float), Cond.constantFloat RX7 256 (3212836864), Cond.methodLink RL 108 yX6_dispute, Cond.instanceMethod yX6_dispute]
def wsL_law_r39 : List Cond := [Cond.selects RX6 yX6_dispute yX6_dispute, Cond.code yX6_dispute cX6_dispute 4 (some .int), Cond.methodLink RX6 228 yX6_writeNote, Cond.instanceMethod yX6_writeNote, Cond.selects RX6 yX6_writeNote yX6_writeNote, Cond.code yX6_writeNote cX6_writeNote 5 (some .int), Cond.fieldLink RX6 311 "ParcelDesk$State" "claims" "LParcelDesk$Table;", Cond.methodLink RX6 248 yX5_copyRow, Cond.instanceMethod yX5_copyRow, Cond.selects RX5 yX5_copyRow yX5_copyRow, Cond.code yX5_copyRow cX5_copyRow 5 none, Cond.methodLink RX5 29 yX5_cell, Cond.methodLink RX5 32 yX5_put, Cond.methodLink RL 111 yX7_dispute, Cond.instanceMethod yX7_dispute, Cond.selects RX7 yX7_dispute yX7_dispute, Cond.code yX7_dispute cX7_dispute 6 (some .int), Cond.methodLink RX7 257 yX7_hasBands, Cond.instanceMethod yX7_hasBands, Cond.selects RX7 yX7_hasBands yX7_hasBands, Cond.code yX7_hasBands cX7_hasBands 2 (some .boolean), Cond.methodLink RX7 260 yX7_with, Cond.instanceMethod yX7_with, Cond.selects RX7 yX7_with yX7_with]
def wsL_law_r40 : List Cond := [Cond.code yX7_with cX7_with 13 (some .long), Cond.methodLink RL 112 yX6_settle, Cond.instanceMethod yX6_settle, Cond.selects RX6 yX6_settle yX6_settle, Cond.code yX6_settle cX6_settle 3 (some .int), Cond.methodLink RX6 236 yX6_acceptNote, Cond.instanceMethod yX6_acceptNote, Cond.selects RX6 yX6_acceptNote yX6_acceptNote, Cond.code yX6_acceptNote cX6_acceptNote 4 (some .int), Cond.methodLink RL 116 yX7_settle, Cond.instanceMethod yX7_settle, Cond.selects RX7 yX7_settle yX7_settle, Cond.code yX7_settle cX7_settle 7 (some .int), Cond.methodLink RL 117 yX6_note, Cond.instanceMethod yX6_note, Cond.selects RX6 yX6_note yX6_note, Cond.code yX6_note cX6_note 3 (some .int), Cond.methodLink RL 120 yX7_note, Cond.instanceMethod yX7_note, Cond.selects RX7 yX7_note yX7_note, Cond.code yX7_note cX7_note 3 (some .int), Cond.methodLink RL 121 yX6_notes, Cond.instanceMethod yX6_notes, Cond.selects RX6 yX6_notes yX6_notes]
def wsL_law_r41 : List Cond := [Cond.code yX6_notes cX6_notes 1 (some .int), Cond.methodLink RL 124 yX7_notes, Cond.instanceMethod yX7_notes, Cond.selects RX7 yX7_notes yX7_notes, Cond.code yX7_notes cX7_notes 1 (some .int), Cond.methodLink RL 125 yX6_sum, Cond.instanceMethod yX6_sum, Cond.selects RX6 yX6_sum yX6_sum, Cond.code yX6_sum cX6_sum 2 (some .long), Cond.constantLong RX6 246 (-1000001), Cond.methodLink RX6 239 yX5_columnSum, Cond.instanceMethod yX5_columnSum, Cond.selects RX5 yX5_columnSum yX5_columnSum, Cond.code yX5_columnSum cX5_columnSum 5 (some .long), Cond.methodLink RX6 243 yX5_rowsWith, Cond.instanceMethod yX5_rowsWith, Cond.selects RX5 yX5_rowsWith yX5_rowsWith, Cond.code yX5_rowsWith cX5_rowsWith 5 (some .int), Cond.methodLink RL 129 yX7_sum, Cond.instanceMethod yX7_sum, Cond.selects RX7 yX7_sum yX7_sum, Cond.code yX7_sum cX7_sum 2 (some .long), Cond.constantLong RX7 264 (4), Cond.constantLong RX7 269 (-1000001)]
def wsL_law_r42 : List Cond := [Cond.methodLink RX7 266 yX7_sumOf, Cond.instanceMethod yX7_sumOf, Cond.selects RX7 yX7_sumOf yX7_sumOf, Cond.code yX7_sumOf cX7_sumOf 5 (some .long), Cond.methodLink RL 130 yX6_lighter, Cond.instanceMethod yX6_lighter, Cond.selects RX6 yX6_lighter yX6_lighter, Cond.code yX6_lighter cX6_lighter 6 (some .int), Cond.methodLink RX6 252 yX4_nextLower, Cond.instanceMethod yX4_nextLower, Cond.selects RX4 yX4_nextLower yX4_nextLower, Cond.code yX4_nextLower cX4_nextLower 7 (some .int), Cond.methodLink RX4 104 yX0_nextLower, Cond.instanceMethod yX0_nextLower, Cond.selects RX0 yX0_nextLower yX0_nextLower, Cond.code yX0_nextLower cX0_nextLower 7 (some .int), Cond.static yX6_wholeSteps, Cond.code yX6_wholeSteps cX6_wholeSteps 2 (some .int), Cond.methodLink RX4 110 yX2_nextLower, Cond.instanceMethod yX2_nextLower, Cond.selects RX2 yX2_nextLower yX2_nextLower, Cond.code yX2_nextLower cX2_nextLower 8 (some .int), Cond.methodLink RX2 99 yX2_turnBelow, Cond.static yX2_turnBelow]
def wsL_law_r43 : List Cond := [Cond.code yX2_turnBelow cX2_turnBelow 7 (some .int), Cond.methodLink RL 133 yX7_lighter, Cond.instanceMethod yX7_lighter, Cond.selects RX7 yX7_lighter yX7_lighter, Cond.code yX7_lighter cX7_lighter 2 (some .int), Cond.methodLink RX7 271 yX7_less, Cond.instanceMethod yX7_less, Cond.selects RX7 yX7_less yX7_less, Cond.code yX7_less cX7_less 8 (some .int), Cond.methodLink RL 134 yX6_shorter, Cond.instanceMethod yX6_shorter, Cond.selects RX6 yX6_shorter yX6_shorter, Cond.code yX6_shorter cX6_shorter 6 (some .int), Cond.methodLink RL 137 yX7_shorter, Cond.instanceMethod yX7_shorter, Cond.selects RX7 yX7_shorter yX7_shorter, Cond.code yX7_shorter cX7_shorter 3 (some .int), Cond.methodLink RL 138 yX6_cheapest, Cond.instanceMethod yX6_cheapest, Cond.selects RX6 yX6_cheapest yX6_cheapest, Cond.code yX6_cheapest cX6_cheapest 6 (some .int), Cond.methodLink RL 141 yX7_cheapest, Cond.instanceMethod yX7_cheapest, Cond.selects RX7 yX7_cheapest yX7_cheapest]
def wsL_law_r44 : List Cond := [Cond.code yX7_cheapest cX7_cheapest 8 (some .int), Cond.methodLink RL 142 yX6_undo, Cond.instanceMethod yX6_undo, Cond.selects RX6 yX6_undo yX6_undo, Cond.code yX6_undo cX6_undo 1 (some .int), Cond.methodLink RL 145 yX7_undo, Cond.instanceMethod yX7_undo, Cond.selects RX7 yX7_undo yX7_undo, Cond.code yX7_undo cX7_undo 2 (some .int), Cond.methodLink RL 146 yX6_fingerprint, Cond.instanceMethod yX6_fingerprint, Cond.selects RX6 yX6_fingerprint yX6_fingerprint, Cond.code yX6_fingerprint cX6_fingerprint 4 (some .long), Cond.constantLong RX6 265 (191), Cond.constantLong RX6 267 (31), Cond.methodLink RX6 269 yX6_setting, Cond.methodLink RX6 272 yX6_scale, Cond.methodLink RX6 274 yX6_printBands, Cond.instanceMethod yX6_printBands, Cond.selects RX6 yX6_printBands yX6_printBands, Cond.code yX6_printBands cX6_printBands 8 (some .long), Cond.methodLink RX6 289 yX6_bandAt, Cond.methodLink RX6 278 yX6_rules, Cond.methodLink RX6 280 yX6_printParcels]
def wsL_law_r45 : List Cond := [Cond.instanceMethod yX6_printParcels, Cond.selects RX6 yX6_printParcels yX6_printParcels, Cond.code yX6_printParcels cX6_printParcels 9 (some .long), Cond.methodLink RX6 292 yX6_parcels, Cond.methodLink RX6 294 yX6_parcel, Cond.methodLink RX6 297 yX6_why, Cond.methodLink RX6 283 yX6_printNotes, Cond.instanceMethod yX6_printNotes, Cond.selects RX6 yX6_printNotes yX6_printNotes, Cond.code yX6_printNotes cX6_printNotes 8 (some .long), Cond.methodLink RX6 300 yX6_notes, Cond.methodLink RX6 302 yX6_note, Cond.methodLink RX6 286 yX6_sum, Cond.methodLink RL 150 yX7_fingerprint, Cond.instanceMethod yX7_fingerprint, Cond.selects RX7 yX7_fingerprint yX7_fingerprint, Cond.code yX7_fingerprint cX7_fingerprint 5 (some .long), Cond.constantLong RX7 274 (191), Cond.constantLong RX7 276 (31)]
def wsL_law : List Cond := (wsL_law_r1 ++ (wsL_law_r2 ++ (wsL_law_r3 ++ (wsL_law_r4 ++ (wsL_law_r5 ++ (wsL_law_r6 ++ (wsL_law_r7 ++ (wsL_law_r8 ++ (wsL_law_r9 ++ (wsL_law_r10 ++ (wsL_law_r11 ++ (wsL_law_r12 ++ (wsL_law_r13 ++ (wsL_law_r14 ++ (wsL_law_r15 ++ (wsL_law_r16 ++ (wsL_law_r17 ++ (wsL_law_r18 ++ (wsL_law_r19 ++ (wsL_law_r20 ++ (wsL_law_r21 ++ (wsL_law_r22 ++ (wsL_law_r23 ++ (wsL_law_r24 ++ (wsL_law_r25 ++ (wsL_law_r26 ++ (wsL_law_r27 ++ (wsL_law_r28 ++ (wsL_law_r29 ++ (wsL_law_r30 ++ (wsL_law_r31 ++ (wsL_law_r32 ++ (wsL_law_r33 ++ (wsL_law_r34 ++ (wsL_law_r35 ++ (wsL_law_r36 ++ (wsL_law_r37 ++ (wsL_law_r38 ++ (wsL_law_r39 ++ (wsL_law_r40 ++ (wsL_law_r41 ++ (wsL_law_r42 ++ (wsL_law_r43 ++ (wsL_law_r44 ++ wsL_law_r45)))))))))))))))))))))))))))))))))))))))))))) ++ wsX60 ++ wsX70 ++ wsX40 ++ wsX10 ++ wsX50 ++ wsX30 ++ wsX00 ++ wsX20 ++ ([] : List Cond)
set_option maxRecDepth 20000 in
theorem wsL_law_in : ∀ w ∈ wsL_law, w ∈ lw_tbl := fun w h => (goodIn_p wsL_law [73, 76, 81, 87, 132, 151, 157, 161, 213, 251, 906, 280, 285, 291, 295, 299, 303, 307, 312, 317, 321, 325, 329, 333, 337, 341, 345, 349, 352, 360, 976, 979, 984, 992, 996, 365, 1001, 369, 374, 1006, 378, 383, 387, 390, 394, 399, 406, 403, 1011, 1016, 1021, 1024, 1027, 411, 415, 420, 1031, 1035, 424, 428, 432, 1039, 1043, 1047, 436, 440, 445, 1052, 1056, 451, 454, 458, 466, 1060, 1063, 1067, 1070, 471, 475, 1075, 479, 1079, 484, 1083, 490, 1088, 494, 1094, 498, 502, 506, 510, 514, 518, 524, 528, 532, 538, 542, 545, 548, 553, 556, 562, 565, 568, 571, 576, 579, 582, 591, 594, 597, 601, 606, 611, 615, 619, 624, 628, 632, 636, 640, 645, 649, 1098, 1102, 1106, 1110, 1113, 1117, 1123, 1127, 1131, 1135, 654, 658, 1140, 663, 1144, 667, 670, 673, 678, 681, 686, 690, 693, 699, 704, 707, 710, 714, 721, 726, 731, 734, 737, 740, 744, 751, 756, 759, 1148, 1151, 1157, 1161, 1164, 1167, 1171, 1174, 1177, 1181, 1185, 764, 768, 1189, 772, 776, 780, 1193, 1197, 1201, 1205, 1209, 785, 1213, 1217, 789, 1221, 793, 1225, 799, 803, 807, 1230, 1234, 1238, 813, 817, 1242, 821, 1246, 825, 1250, 829, 833, 837, 1254, 1259, 842, 846, 850, 853, 857, 860, 1264, 1268, 865, 1272, 869, 1276, 873, 1280, 877, 885, 891, 898, 1284] (by decide +kernel) (by decide +kernel) w h).1
theorem inlX0 : ∀ w ∈ wsX00, w ∈ wsL_law := fun _ h => List.mem_append_left _ (List.mem_append_left _ (List.mem_append_right _ h))
theorem inX0 : ∀ w ∈ wsX00, w ∈ lw_tbl := fun w h => wsL_law_in w (inlX0 w h)
theorem inlX1 : ∀ w ∈ wsX10, w ∈ wsL_law := fun _ h => List.mem_append_left _ (List.mem_append_left _ (List.mem_append_left _ (List.mem_append_left _ (List.mem_append_left _ (List.mem_append_right _ h)))))
theorem inX1 : ∀ w ∈ wsX10, w ∈ lw_tbl := fun w h => wsL_law_in w (inlX1 w h)
theorem inlX2 : ∀ w ∈ wsX20, w ∈ wsL_law := fun _ h => List.mem_append_left _ (List.mem_append_right _ h)
theorem inX2 : ∀ w ∈ wsX20, w ∈ lw_tbl := fun w h => wsL_law_in w (inlX2 w h)
theorem inlX3 : ∀ w ∈ wsX30, w ∈ wsL_law := fun _ h => List.mem_append_left _ (List.mem_append_left _ (List.mem_append_left _ (List.mem_append_right _ h)))
theorem inX3 : ∀ w ∈ wsX30, w ∈ lw_tbl := fun w h => wsL_law_in w (inlX3 w h)
theorem inlX4 : ∀ w ∈ wsX40, w ∈ wsL_law := fun _ h => List.mem_append_left _ (List.mem_append_left _ (List.mem_append_left _ (List.mem_append_left _ (List.mem_append_left _ (List.mem_append_left _ (List.mem_append_right _ h))))))
theorem inX4 : ∀ w ∈ wsX40, w ∈ lw_tbl := fun w h => wsL_law_in w (inlX4 w h)
theorem inlX5 : ∀ w ∈ wsX50, w ∈ wsL_law := fun _ h => List.mem_append_left _ (List.mem_append_left _ (List.mem_append_left _ (List.mem_append_left _ (List.mem_append_right _ h))))
theorem inX5 : ∀ w ∈ wsX50, w ∈ lw_tbl := fun w h => wsL_law_in w (inlX5 w h)
theorem inlX6 : ∀ w ∈ wsX60, w ∈ wsL_law := fun _ h => List.mem_append_left _ (List.mem_append_left _ (List.mem_append_left _ (List.mem_append_left _ (List.mem_append_left _ (List.mem_append_left _ (List.mem_append_left _ (List.mem_append_left _ (List.mem_append_right _ h))))))))
theorem inX6 : ∀ w ∈ wsX60, w ∈ lw_tbl := fun w h => wsL_law_in w (inlX6 w h)
theorem inlX7 : ∀ w ∈ wsX70, w ∈ wsL_law := fun _ h => List.mem_append_left _ (List.mem_append_left _ (List.mem_append_left _ (List.mem_append_left _ (List.mem_append_left _ (List.mem_append_left _ (List.mem_append_left _ (List.mem_append_right _ h)))))))
theorem inX7 : ∀ w ∈ wsX70, w ∈ lw_tbl := fun w h => wsL_law_in w (inlX7 w h)
theorem inJ11 : ∀ w ∈ wsJ110, w ∈ lw_tbl := by decide +kernel
theorem inJ9 : ∀ w ∈ wsJ90, w ∈ lw_tbl := by decide +kernel
theorem inJ0 : ∀ w ∈ wsJ00, w ∈ lw_tbl := by decide +kernel
theorem inJ1 : ∀ w ∈ wsJ10, w ∈ lw_tbl := by decide +kernel
theorem inJ2 : ∀ w ∈ wsJ20, w ∈ lw_tbl := by decide +kernel
theorem inJ10 : ∀ w ∈ wsJ100, w ∈ lw_tbl := by decide +kernel
theorem inJ3 : ∀ w ∈ wsJ30, w ∈ lw_tbl := by decide +kernel
set_option maxRecDepth 20000 in
theorem ggL_law_X6_init_c : GoodIn wsL_law [.code yX6_init cX6_init 2 none] := goodIn_r _ [8] (by decide +kernel) (by decide +kernel)
set_option maxRecDepth 20000 in
theorem ggL_law_X6_init_1 : GoodIn wsL_law wsX6_init_r1 := goodIn_r _ [9, 10, 11, 12, 13, 14, 15, 16, 17, 18, 19, 20, 21, 22, 23, 24, 25, 26, 27, 28, 29, 30, 31, 32] (by decide +kernel) (by decide +kernel)
set_option maxRecDepth 20000 in
theorem ggL_law_X6_init_2 : GoodIn wsL_law wsX6_init_r2 := goodIn_r _ [33, 34, 35, 36, 37, 38, 39, 40, 41, 42, 43, 44, 45, 46, 47, 48, 49, 50, 51, 52, 53, 54, 55, 56] (by decide +kernel) (by decide +kernel)
set_option maxRecDepth 20000 in
theorem ggL_law_X6_init_3 : GoodIn wsL_law wsX6_init_r3 := goodIn_r _ [57, 58, 59, 60, 61, 62, 63, 64, 65, 66, 67, 68, 69, 70, 71, 72, 73, 74, 75, 76, 77, 78, 79, 80] (by decide +kernel) (by decide +kernel)
set_option maxRecDepth 20000 in
theorem ggL_law_X6_init_4 : GoodIn wsL_law wsX6_init_r4 := goodIn_r _ [81, 82, 83] (by decide +kernel) (by decide +kernel)
set_option maxRecDepth 20000 in
theorem ggL_law_X6_init_t : GoodIn wsL_law wsX20 := goodIn_r _ [1102, 1103, 1104, 1105, 1106, 1107, 1075, 1076, 1077, 1078, 1079, 1080, 1081, 1082, 1108, 1109, 1110, 1111, 1112, 1113, 1114, 1115, 1116, 1117, 1118, 1119, 1120, 1121, 1122, 1123, 1124, 1125, 1126, 1127, 1128, 1129, 1130, 1131, 1132, 1133, 1134, 1135, 1136] (by decide +kernel) (by decide +kernel)
set_option maxRecDepth 20000 in
theorem ggL_law_X6_init : GoodIn wsL_law wsX6_init := goodIn_app (a := [.code yX6_init cX6_init 2 none]) ggL_law_X6_init_c (goodIn_app (goodIn_app ggL_law_X6_init_1 (goodIn_app ggL_law_X6_init_2 (goodIn_app ggL_law_X6_init_3 ggL_law_X6_init_4))) ggL_law_X6_init_t)
set_option maxRecDepth 20000 in
theorem gL_law_X6_init : GoodIn wsL_law (wsX6_init) := ggL_law_X6_init
set_option maxRecDepth 20000 in
theorem ggL_law_X7_init : GoodIn wsL_law wsX7_init := goodIn_r _ [86, 87, 10, 11, 88, 89, 90, 17, 91, 92, 93, 94, 95, 96, 97, 98, 99, 100, 101, 102, 103, 104, 105, 106, 1083, 1084, 1085, 1086, 1087, 1088, 1089, 1090, 1091, 1092, 1093, 1094, 1095, 1096, 1097, 1098, 1099, 1100, 1101] (by decide +kernel) (by decide +kernel)
set_option maxRecDepth 20000 in
theorem gL_law_X7_init : GoodIn wsL_law (wsX7_init) := ggL_law_X7_init
set_option maxRecDepth 20000 in
theorem ggL_law_X6_set_c : GoodIn wsL_law [.code yX6_set cX6_set 4 (some .int)] := goodIn_r _ [110] (by decide +kernel) (by decide +kernel)
set_option maxRecDepth 20000 in
theorem ggL_law_X6_set_1 : GoodIn wsL_law wsX6_set_r1 := goodIn_r _ [111, 112, 113, 15, 114, 115, 116, 2, 117, 118, 119, 120, 121, 122, 123, 32, 124, 49, 125, 126, 127, 128, 129, 16] (by decide +kernel) (by decide +kernel)
set_option maxRecDepth 20000 in
theorem ggL_law_X6_set_2 : GoodIn wsL_law wsX6_set_r2 := goodIn_r _ [130, 131, 132, 133, 14, 134, 33, 37, 41, 43, 44, 45, 135, 136, 137, 138, 139, 140, 141, 142, 143, 144, 145, 146] (by decide +kernel) (by decide +kernel)
set_option maxRecDepth 20000 in
theorem ggL_law_X6_set_3 : GoodIn wsL_law wsX6_set_r3 := goodIn_r _ [147, 148, 149, 150, 151, 152, 36, 153, 53, 154, 155, 156, 157, 158, 159, 160, 161, 54, 162, 163, 164, 165, 166, 167] (by decide +kernel) (by decide +kernel)
set_option maxRecDepth 20000 in
theorem ggL_law_X6_set_4 : GoodIn wsL_law wsX6_set_r4 := goodIn_r _ [168, 169, 55, 170, 171, 172, 173, 174, 175, 176, 177, 56, 178, 179, 180, 181, 182, 183, 184, 40, 185, 61, 186, 187] (by decide +kernel) (by decide +kernel)
set_option maxRecDepth 20000 in
theorem ggL_law_X6_set_5 : GoodIn wsL_law wsX6_set_r5 := goodIn_r _ [188, 25, 189, 83, 71, 72, 190, 191, 68, 192, 193, 194, 195, 196, 197, 198, 199, 200, 201] (by decide +kernel) (by decide +kernel)
set_option maxRecDepth 20000 in
theorem ggL_law_X6_set_t : GoodIn wsL_law wsX50 := goodIn_r _ [1075, 1076, 1077, 1078, 1079, 1080, 1081, 1082, 1102, 1103, 1104, 1105, 1106, 1107, 1121, 1122, 1123, 1124, 1125, 1126, 1127, 1128, 1129, 1130, 1131, 1132, 1133, 1134, 1135, 1136, 1117, 1118, 1119, 1120] (by decide +kernel) (by decide +kernel)
set_option maxRecDepth 20000 in
theorem ggL_law_X6_set : GoodIn wsL_law wsX6_set := goodIn_app (a := [.code yX6_set cX6_set 4 (some .int)]) ggL_law_X6_set_c (goodIn_app (goodIn_app ggL_law_X6_set_1 (goodIn_app ggL_law_X6_set_2 (goodIn_app ggL_law_X6_set_3 (goodIn_app ggL_law_X6_set_4 ggL_law_X6_set_5)))) ggL_law_X6_set_t)
set_option maxRecDepth 20000 in
theorem gL_law_X6_set : GoodIn wsL_law (wsV RL 13 RX6 yX6_set wsX6_set) := goodIn_app (goodIn_of _ (by decide +kernel)) ggL_law_X6_set
set_option maxRecDepth 20000 in
theorem ggL_law_X7_set : GoodIn wsL_law wsX7_set := goodIn_r _ [205, 206, 207, 208, 5, 209, 210, 211, 106, 212, 213, 214, 215, 216, 217, 218, 219, 220, 221, 222, 89, 223, 224, 225, 226, 227, 90, 1083, 1084, 1085, 1086, 1087, 1088, 1089, 1090, 1091, 1092, 1093, 1094, 1095, 1096, 1097, 1098, 1099, 1100, 1101] (by decide +kernel) (by decide +kernel)
set_option maxRecDepth 20000 in
theorem gL_law_X7_set : GoodIn wsL_law (wsV RL 17 RX7 yX7_set wsX7_set) := goodIn_app (goodIn_of _ (by decide +kernel)) ggL_law_X7_set
set_option maxRecDepth 20000 in
theorem ggL_law_X6_setting : GoodIn wsL_law wsX6_setting := goodIn_r _ [231, 111, 15, 114, 113, 115, 116, 2, 117, 121, 122, 123, 32, 124, 49, 1075, 1076, 1077, 1078, 1079, 1080, 1081, 1082, 1102, 1103, 1104, 1105, 1106, 1107, 1121, 1122, 1123, 1124, 1125, 1126, 1127, 1128, 1129, 1130, 1131] (by decide +kernel) (by decide +kernel)
set_option maxRecDepth 20000 in
theorem gL_law_X6_setting : GoodIn wsL_law (wsV RL 18 RX6 yX6_setting wsX6_setting) := goodIn_app (goodIn_of _ (by decide +kernel)) ggL_law_X6_setting
set_option maxRecDepth 20000 in
theorem ggL_law_X7_setting : GoodIn wsL_law wsX7_setting := goodIn_r _ [235, 236, 89, 206, 216, 217, 5, 218, 1083, 1084, 1085, 1086, 1087, 1088, 1089, 1090, 1091, 1092, 1093, 1094, 1095, 1096, 1097, 1098, 1099, 1100, 1101] (by decide +kernel) (by decide +kernel)
set_option maxRecDepth 20000 in
theorem gL_law_X7_setting : GoodIn wsL_law (wsV RL 22 RX7 yX7_setting wsX7_setting) := goodIn_app (goodIn_of _ (by decide +kernel)) ggL_law_X7_setting
set_option maxRecDepth 20000 in
theorem ggL_law_X6_load_c : GoodIn wsL_law [.code yX6_load cX6_load 3 (some .int)] := goodIn_r _ [240] (by decide +kernel) (by decide +kernel)
set_option maxRecDepth 20000 in
theorem ggL_law_X6_load_1 : GoodIn wsL_law wsX6_load_r1 := goodIn_r _ [241, 113, 15, 114, 242, 118, 119, 2, 120, 125, 126, 127, 128, 129, 16, 130, 131, 132, 133, 14, 134, 33, 37, 41] (by decide +kernel) (by decide +kernel)
set_option maxRecDepth 20000 in
theorem ggL_law_X6_load_2 : GoodIn wsL_law wsX6_load_r2 := goodIn_r _ [43, 44, 45, 135, 136, 137, 32, 138, 49, 139, 140, 141, 142, 143, 144, 145, 146, 147, 148, 149, 122, 123, 124, 150] (by decide +kernel) (by decide +kernel)
set_option maxRecDepth 20000 in
theorem ggL_law_X6_load_3 : GoodIn wsL_law wsX6_load_r3 := goodIn_r _ [151, 152, 36, 153, 53, 116, 117, 154, 155, 156, 157, 158, 159, 160, 161, 54, 162, 163, 164, 165, 166, 167, 168, 169] (by decide +kernel) (by decide +kernel)
set_option maxRecDepth 20000 in
theorem ggL_law_X6_load_4 : GoodIn wsL_law wsX6_load_r4 := goodIn_r _ [55, 170, 171, 172, 173, 174, 175, 176, 177, 56, 178, 179, 180, 181, 182, 183, 184, 40, 185, 61, 186, 187, 188, 25] (by decide +kernel) (by decide +kernel)
set_option maxRecDepth 20000 in
theorem ggL_law_X6_load_5 : GoodIn wsL_law wsX6_load_r5 := goodIn_r _ [189, 83, 71, 72, 190, 191, 68, 192, 193, 194, 195, 196, 197, 243, 244, 245, 246] (by decide +kernel) (by decide +kernel)
set_option maxRecDepth 20000 in
theorem ggL_law_X6_load_t : GoodIn wsL_law wsX50 := goodIn_r _ [1075, 1076, 1077, 1078, 1079, 1080, 1081, 1082, 1102, 1103, 1104, 1105, 1106, 1107, 1121, 1122, 1123, 1124, 1125, 1126, 1127, 1128, 1129, 1130, 1131, 1132, 1133, 1134, 1135, 1136, 1117, 1118, 1119, 1120] (by decide +kernel) (by decide +kernel)
set_option maxRecDepth 20000 in
theorem ggL_law_X6_load : GoodIn wsL_law wsX6_load := goodIn_app (a := [.code yX6_load cX6_load 3 (some .int)]) ggL_law_X6_load_c (goodIn_app (goodIn_app ggL_law_X6_load_1 (goodIn_app ggL_law_X6_load_2 (goodIn_app ggL_law_X6_load_3 (goodIn_app ggL_law_X6_load_4 ggL_law_X6_load_5)))) ggL_law_X6_load_t)
set_option maxRecDepth 20000 in
theorem gL_law_X6_load : GoodIn wsL_law (wsV RL 23 RX6 yX6_load wsX6_load) := goodIn_app (goodIn_of _ (by decide +kernel)) ggL_law_X6_load
set_option maxRecDepth 20000 in
theorem ggL_law_X7_load : GoodIn wsL_law wsX7_load := goodIn_r _ [250, 251, 206, 89, 216, 217, 5, 218, 219, 220, 221, 222, 223, 224, 225, 226, 227, 90, 1083, 1084, 1085, 1086, 1087, 1088, 1089, 1090, 1091, 1092, 1093, 1094, 1095, 1096, 1097, 1098, 1099, 1100, 1101] (by decide +kernel) (by decide +kernel)
set_option maxRecDepth 20000 in
theorem gL_law_X7_load : GoodIn wsL_law (wsV RL 26 RX7 yX7_load wsX7_load) := goodIn_app (goodIn_of _ (by decide +kernel)) ggL_law_X7_load
set_option maxRecDepth 20000 in
theorem ggL_law_X6_tick_c : GoodIn wsL_law [.code yX6_tick cX6_tick 3 (some .int)] := goodIn_r _ [255] (by decide +kernel) (by decide +kernel)
set_option maxRecDepth 20000 in
theorem ggL_law_X6_tick_1 : GoodIn wsL_law wsX6_tick_r1 := goodIn_r _ [113, 15, 114, 256, 241, 257, 118, 119, 2, 120, 125, 126, 127, 128, 129, 16, 130, 131, 132, 133, 14, 134, 33, 37] (by decide +kernel) (by decide +kernel)
set_option maxRecDepth 20000 in
theorem ggL_law_X6_tick_2 : GoodIn wsL_law wsX6_tick_r2 := goodIn_r _ [41, 43, 44, 45, 135, 136, 137, 32, 138, 49, 139, 140, 141, 142, 143, 144, 145, 146, 147, 148, 149, 122, 123, 124] (by decide +kernel) (by decide +kernel)
set_option maxRecDepth 20000 in
theorem ggL_law_X6_tick_3 : GoodIn wsL_law wsX6_tick_r3 := goodIn_r _ [150, 151, 152, 36, 153, 53, 116, 117, 154, 155, 156, 157, 158, 159, 160, 161, 54, 162, 163, 164, 165, 166, 167, 168] (by decide +kernel) (by decide +kernel)
set_option maxRecDepth 20000 in
theorem ggL_law_X6_tick_4 : GoodIn wsL_law wsX6_tick_r4 := goodIn_r _ [169, 55, 170, 171, 172, 173, 174, 175, 176, 177, 56, 178, 179, 180, 181, 182, 183, 184, 40, 185, 61, 186, 187, 188] (by decide +kernel) (by decide +kernel)
set_option maxRecDepth 20000 in
theorem ggL_law_X6_tick_5 : GoodIn wsL_law wsX6_tick_r5 := goodIn_r _ [25, 189, 83, 71, 72, 190, 191, 68, 192, 193, 194, 195, 196, 197, 258, 259, 260, 261, 262, 263, 264, 265, 266, 267] (by decide +kernel) (by decide +kernel)
set_option maxRecDepth 20000 in
theorem ggL_law_X6_tick_6 : GoodIn wsL_law wsX6_tick_r6 := goodIn_r _ [268, 269, 270, 271, 272, 273, 274, 275, 276, 277, 278, 279, 280, 281, 282, 283, 284, 285, 286] (by decide +kernel) (by decide +kernel)
set_option maxRecDepth 20000 in
theorem ggL_law_X6_tick_t : GoodIn wsL_law wsX50 := goodIn_r _ [1075, 1076, 1077, 1078, 1079, 1080, 1081, 1082, 1102, 1103, 1104, 1105, 1106, 1107, 1121, 1122, 1123, 1124, 1125, 1126, 1127, 1128, 1129, 1130, 1131, 1132, 1133, 1134, 1135, 1136, 1117, 1118, 1119, 1120] (by decide +kernel) (by decide +kernel)
set_option maxRecDepth 20000 in
theorem ggL_law_X6_tick : GoodIn wsL_law wsX6_tick := goodIn_app (a := [.code yX6_tick cX6_tick 3 (some .int)]) ggL_law_X6_tick_c (goodIn_app (goodIn_app ggL_law_X6_tick_1 (goodIn_app ggL_law_X6_tick_2 (goodIn_app ggL_law_X6_tick_3 (goodIn_app ggL_law_X6_tick_4 (goodIn_app ggL_law_X6_tick_5 ggL_law_X6_tick_6))))) ggL_law_X6_tick_t)
set_option maxRecDepth 20000 in
theorem gL_law_X6_tick : GoodIn wsL_law (wsV RL 27 RX6 yX6_tick wsX6_tick) := goodIn_app (goodIn_of _ (by decide +kernel)) ggL_law_X6_tick
set_option maxRecDepth 20000 in
theorem ggL_law_X7_tick : GoodIn wsL_law wsX7_tick := goodIn_r _ [290, 106, 206, 89, 251, 291, 216, 217, 5, 218, 223, 224, 225, 226, 227, 90, 292, 293, 294, 295, 296, 297, 298, 299, 300, 212, 301, 302, 303, 304, 305, 306, 1083, 1084, 1085, 1086, 1087, 1088, 1089, 1090, 1091, 1092, 1093, 1094, 1095, 1096, 1097, 1098, 1099, 1100, 1101] (by decide +kernel) (by decide +kernel)
set_option maxRecDepth 20000 in
theorem gL_law_X7_tick : GoodIn wsL_law (wsV RL 30 RX7 yX7_tick wsX7_tick) := goodIn_app (goodIn_of _ (by decide +kernel)) ggL_law_X7_tick
set_option maxRecDepth 20000 in
theorem ggL_law_X6_zero_c : GoodIn wsL_law [.code yX6_zero cX6_zero 3 (some .int)] := goodIn_r _ [310] (by decide +kernel) (by decide +kernel)
set_option maxRecDepth 20000 in
theorem ggL_law_X6_zero_1 : GoodIn wsL_law wsX6_zero_r1 := goodIn_r _ [15, 114, 257, 311, 312, 313, 314, 315, 32, 316, 146, 147, 148, 317, 67, 68, 69, 274, 191, 192, 145, 149, 122, 123] (by decide +kernel) (by decide +kernel)
set_option maxRecDepth 20000 in
theorem ggL_law_X6_zero_2 : GoodIn wsL_law wsX6_zero_r2 := goodIn_r _ [124, 49, 318, 319, 320, 321, 279, 280, 281, 282, 283, 284, 285, 141, 262, 263, 264, 265, 139, 143, 266, 267, 268, 269] (by decide +kernel) (by decide +kernel)
set_option maxRecDepth 20000 in
theorem ggL_law_X6_zero_3 : GoodIn wsL_law wsX6_zero_r3 := goodIn_r _ [125, 126, 127, 2, 128, 129, 16, 130, 131, 132, 133, 14, 134, 33, 37, 41, 43, 44, 45, 135, 136, 137, 138, 140] (by decide +kernel) (by decide +kernel)
set_option maxRecDepth 20000 in
theorem ggL_law_X6_zero_4 : GoodIn wsL_law wsX6_zero_r4 := goodIn_r _ [142, 144, 150, 151, 152, 36, 153, 53, 116, 117, 154, 155, 156, 157, 158, 159, 160, 161, 54, 162, 163, 164, 165, 166] (by decide +kernel) (by decide +kernel)
set_option maxRecDepth 20000 in
theorem ggL_law_X6_zero_5 : GoodIn wsL_law wsX6_zero_r5 := goodIn_r _ [167, 168, 169, 55, 170, 171, 172, 173, 174, 175, 176, 177, 56, 178, 179, 180, 181, 182, 183, 184, 40, 185, 61, 186] (by decide +kernel) (by decide +kernel)
set_option maxRecDepth 20000 in
theorem ggL_law_X6_zero_6 : GoodIn wsL_law wsX6_zero_r6 := goodIn_r _ [187, 188, 25, 189, 83, 71, 72, 190, 193, 194, 195, 196, 197, 286] (by decide +kernel) (by decide +kernel)
set_option maxRecDepth 20000 in
theorem ggL_law_X6_zero_t : GoodIn wsL_law wsX50 := goodIn_r _ [1075, 1076, 1077, 1078, 1079, 1080, 1081, 1082, 1102, 1103, 1104, 1105, 1106, 1107, 1121, 1122, 1123, 1124, 1125, 1126, 1127, 1128, 1129, 1130, 1131, 1132, 1133, 1134, 1135, 1136, 1117, 1118, 1119, 1120] (by decide +kernel) (by decide +kernel)
set_option maxRecDepth 20000 in
theorem ggL_law_X6_zero : GoodIn wsL_law wsX6_zero := goodIn_app (a := [.code yX6_zero cX6_zero 3 (some .int)]) ggL_law_X6_zero_c (goodIn_app (goodIn_app ggL_law_X6_zero_1 (goodIn_app ggL_law_X6_zero_2 (goodIn_app ggL_law_X6_zero_3 (goodIn_app ggL_law_X6_zero_4 (goodIn_app ggL_law_X6_zero_5 ggL_law_X6_zero_6))))) ggL_law_X6_zero_t)
set_option maxRecDepth 20000 in
theorem gL_law_X6_zero : GoodIn wsL_law (wsV RL 31 RX6 yX6_zero wsX6_zero) := goodIn_app (goodIn_of _ (by decide +kernel)) ggL_law_X6_zero
set_option maxRecDepth 20000 in
theorem ggL_law_X7_zero : GoodIn wsL_law wsX7_zero := goodIn_r _ [325, 89, 211, 291, 326, 327, 328, 5, 329, 296, 297, 298, 299, 300, 212, 301, 302, 303, 304, 305, 306, 219, 220, 221, 222, 223, 224, 225, 226, 227, 90, 1083, 1084, 1085, 1086, 1087, 1088, 1089, 1090, 1091, 1092, 1093, 1094, 1095, 1096, 1097, 1098, 1099, 1100, 1101] (by decide +kernel) (by decide +kernel)
set_option maxRecDepth 20000 in
theorem gL_law_X7_zero : GoodIn wsL_law (wsV RL 35 RX7 yX7_zero wsX7_zero) := goodIn_app (goodIn_of _ (by decide +kernel)) ggL_law_X7_zero
set_option maxRecDepth 20000 in
theorem ggL_law_X6_tare_c : GoodIn wsL_law [.code yX6_tare cX6_tare 2 (some .int)] := goodIn_r _ [333] (by decide +kernel) (by decide +kernel)
set_option maxRecDepth 20000 in
theorem ggL_law_X6_tare_1 : GoodIn wsL_law wsX6_tare_r1 := goodIn_r _ [15, 114, 257, 312, 313, 314, 315, 32, 316, 146, 147, 148, 317, 67, 68, 69, 274, 191, 192, 145, 149, 122, 123, 124] (by decide +kernel) (by decide +kernel)
set_option maxRecDepth 20000 in
theorem ggL_law_X6_tare_2 : GoodIn wsL_law wsX6_tare_r2 := goodIn_r _ [49, 334, 335, 336, 337, 282, 283, 284, 285, 141, 262, 263, 264, 265, 139, 143, 266, 267, 268, 269, 338, 339, 340, 341] (by decide +kernel) (by decide +kernel)
set_option maxRecDepth 20000 in
theorem ggL_law_X6_tare_3 : GoodIn wsL_law wsX6_tare_r3 := goodIn_r _ [125, 126, 127, 2, 128, 129, 16, 130, 131, 132, 133, 14, 134, 33, 37, 41, 43, 44, 45, 135, 136, 137, 138, 140] (by decide +kernel) (by decide +kernel)
set_option maxRecDepth 20000 in
theorem ggL_law_X6_tare_4 : GoodIn wsL_law wsX6_tare_r4 := goodIn_r _ [142, 144, 150, 151, 152, 36, 153, 53, 116, 117, 154, 155, 156, 157, 158, 159, 160, 161, 54, 162, 163, 164, 165, 166] (by decide +kernel) (by decide +kernel)
set_option maxRecDepth 20000 in
theorem ggL_law_X6_tare_5 : GoodIn wsL_law wsX6_tare_r5 := goodIn_r _ [167, 168, 169, 55, 170, 171, 172, 173, 174, 175, 176, 177, 56, 178, 179, 180, 181, 182, 183, 184, 40, 185, 61, 186] (by decide +kernel) (by decide +kernel)
set_option maxRecDepth 20000 in
theorem ggL_law_X6_tare_6 : GoodIn wsL_law wsX6_tare_r6 := goodIn_r _ [187, 188, 25, 189, 83, 71, 72, 190, 193, 194, 195, 196, 197] (by decide +kernel) (by decide +kernel)
set_option maxRecDepth 20000 in
theorem ggL_law_X6_tare_t : GoodIn wsL_law wsX50 := goodIn_r _ [1075, 1076, 1077, 1078, 1079, 1080, 1081, 1082, 1102, 1103, 1104, 1105, 1106, 1107, 1121, 1122, 1123, 1124, 1125, 1126, 1127, 1128, 1129, 1130, 1131, 1132, 1133, 1134, 1135, 1136, 1117, 1118, 1119, 1120] (by decide +kernel) (by decide +kernel)
set_option maxRecDepth 20000 in
theorem ggL_law_X6_tare : GoodIn wsL_law wsX6_tare := goodIn_app (a := [.code yX6_tare cX6_tare 2 (some .int)]) ggL_law_X6_tare_c (goodIn_app (goodIn_app ggL_law_X6_tare_1 (goodIn_app ggL_law_X6_tare_2 (goodIn_app ggL_law_X6_tare_3 (goodIn_app ggL_law_X6_tare_4 (goodIn_app ggL_law_X6_tare_5 ggL_law_X6_tare_6))))) ggL_law_X6_tare_t)
set_option maxRecDepth 20000 in
theorem gL_law_X6_tare : GoodIn wsL_law (wsV RL 36 RX6 yX6_tare wsX6_tare) := goodIn_app (goodIn_of _ (by decide +kernel)) ggL_law_X6_tare
set_option maxRecDepth 20000 in
theorem ggL_law_X7_tare : GoodIn wsL_law wsX7_tare := goodIn_r _ [345, 291, 89, 326, 327, 328, 5, 329, 296, 346, 347, 348, 349, 297, 298, 299, 300, 212, 301, 302, 303, 350, 351, 352, 353, 354, 223, 224, 225, 226, 227, 90, 1083, 1084, 1085, 1086, 1087, 1088, 1089, 1090, 1091, 1092, 1093, 1094, 1095, 1096, 1097, 1098, 1099, 1100, 1101] (by decide +kernel) (by decide +kernel)
set_option maxRecDepth 20000 in
theorem gL_law_X7_tare : GoodIn wsL_law (wsV RL 39 RX7 yX7_tare wsX7_tare) := goodIn_app (goodIn_of _ (by decide +kernel)) ggL_law_X7_tare
set_option maxRecDepth 20000 in
theorem ggL_law_X6_scale_c : GoodIn wsL_law [.code yX6_scale cX6_scale 2 (some .int)] := goodIn_r _ [358] (by decide +kernel) (by decide +kernel)
set_option maxRecDepth 20000 in
theorem ggL_law_X6_scale_1 : GoodIn wsL_law wsX6_scale_r1 := goodIn_r _ [15, 114, 113, 118, 119, 2, 120, 359, 360, 361, 32, 362, 140, 141, 142, 143, 144, 139, 262, 263, 264, 265, 149, 122] (by decide +kernel) (by decide +kernel)
set_option maxRecDepth 20000 in
theorem ggL_law_X6_scale_2 : GoodIn wsL_law wsX6_scale_r2 := goodIn_r _ [123, 124, 49, 266, 267, 268, 269, 363, 339, 340, 341, 364, 365, 366, 367, 368, 314, 315, 316, 146, 147, 148, 317, 67] (by decide +kernel) (by decide +kernel)
set_option maxRecDepth 20000 in
theorem ggL_law_X6_scale_3 : GoodIn wsL_law wsX6_scale_r3 := goodIn_r _ [68, 69, 274, 191, 192, 145, 369, 335, 336, 337, 282, 283, 284, 285] (by decide +kernel) (by decide +kernel)
set_option maxRecDepth 20000 in
theorem ggL_law_X6_scale_t : GoodIn wsL_law wsX30 := goodIn_r _ [1075, 1076, 1077, 1078, 1079, 1080, 1081, 1082, 1102, 1103, 1104, 1105, 1106, 1107, 1121, 1122, 1123, 1124, 1125, 1126, 1127, 1128, 1129, 1130, 1131] (by decide +kernel) (by decide +kernel)
set_option maxRecDepth 20000 in
theorem ggL_law_X6_scale : GoodIn wsL_law wsX6_scale := goodIn_app (a := [.code yX6_scale cX6_scale 2 (some .int)]) ggL_law_X6_scale_c (goodIn_app (goodIn_app ggL_law_X6_scale_1 (goodIn_app ggL_law_X6_scale_2 ggL_law_X6_scale_3)) ggL_law_X6_scale_t)
set_option maxRecDepth 20000 in
theorem gL_law_X6_scale : GoodIn wsL_law (wsV RL 40 RX6 yX6_scale wsX6_scale) := goodIn_app (goodIn_of _ (by decide +kernel)) ggL_law_X6_scale
set_option maxRecDepth 20000 in
theorem ggL_law_X7_scale : GoodIn wsL_law wsX7_scale := goodIn_r _ [373, 102, 206, 216, 217, 5, 218, 374, 375, 376, 377, 89, 297, 298, 299, 300, 212, 301, 302, 303, 350, 351, 352, 353, 354, 326, 327, 328, 329, 296, 346, 347, 348, 349, 1083, 1084, 1085, 1086, 1087, 1088, 1089, 1090, 1091, 1092, 1093, 1094, 1095, 1096, 1097, 1098, 1099, 1100, 1101] (by decide +kernel) (by decide +kernel)
set_option maxRecDepth 20000 in
theorem gL_law_X7_scale : GoodIn wsL_law (wsV RL 43 RX7 yX7_scale wsX7_scale) := goodIn_app (goodIn_of _ (by decide +kernel)) ggL_law_X7_scale
set_option maxRecDepth 20000 in
theorem ggL_law_X6_band_c : GoodIn wsL_law [.code yX6_band cX6_band 7 (some .int)] := goodIn_r _ [381] (by decide +kernel) (by decide +kernel)
set_option maxRecDepth 20000 in
theorem ggL_law_X6_band_1 : GoodIn wsL_law wsX6_band_r1 := goodIn_r _ [241, 113, 15, 382, 383, 384, 385, 2, 386, 118, 119, 120, 387, 388, 389, 36, 390, 154, 155, 156, 157, 53, 116, 117] (by decide +kernel) (by decide +kernel)
set_option maxRecDepth 20000 in
theorem ggL_law_X6_band_2 : GoodIn wsL_law wsX6_band_r2 := goodIn_r _ [158, 159, 160, 161, 54, 162, 163, 164, 165, 391, 392, 393, 125, 126, 127, 128, 129, 16, 130, 131, 132, 133, 14, 134] (by decide +kernel) (by decide +kernel)
set_option maxRecDepth 20000 in
theorem ggL_law_X6_band_3 : GoodIn wsL_law wsX6_band_r3 := goodIn_r _ [33, 37, 41, 43, 44, 45, 135, 136, 137, 32, 138, 49, 139, 140, 141, 142, 143, 144, 145, 146, 147, 148, 149, 122] (by decide +kernel) (by decide +kernel)
set_option maxRecDepth 20000 in
theorem ggL_law_X6_band_4 : GoodIn wsL_law wsX6_band_r4 := goodIn_r _ [123, 124, 150, 151, 152, 153, 166, 167, 168, 169, 55, 170, 171, 172, 173, 174, 175, 176, 177, 56, 178, 179, 180, 181] (by decide +kernel) (by decide +kernel)
set_option maxRecDepth 20000 in
theorem ggL_law_X6_band_5 : GoodIn wsL_law wsX6_band_r5 := goodIn_r _ [182, 183, 184, 40, 185, 61, 186, 187, 188, 25, 189, 83, 71, 72, 190, 191, 68, 192, 193, 194, 195, 196, 197, 394] (by decide +kernel) (by decide +kernel)
set_option maxRecDepth 20000 in
theorem ggL_law_X6_band_6 : GoodIn wsL_law wsX6_band_r6 := goodIn_r _ [395, 396, 397, 398] (by decide +kernel) (by decide +kernel)
set_option maxRecDepth 20000 in
theorem ggL_law_X6_band_t : GoodIn wsL_law wsX50 := goodIn_r _ [1075, 1076, 1077, 1078, 1079, 1080, 1081, 1082, 1102, 1103, 1104, 1105, 1106, 1107, 1132, 1133, 1134, 1135, 1121, 1122, 1123, 1124, 1125, 1126, 1127, 1128, 1129, 1130, 1131, 1136, 1117, 1118, 1119, 1120] (by decide +kernel) (by decide +kernel)
set_option maxRecDepth 20000 in
theorem ggL_law_X6_band : GoodIn wsL_law wsX6_band := goodIn_app (a := [.code yX6_band cX6_band 7 (some .int)]) ggL_law_X6_band_c (goodIn_app (goodIn_app ggL_law_X6_band_1 (goodIn_app ggL_law_X6_band_2 (goodIn_app ggL_law_X6_band_3 (goodIn_app ggL_law_X6_band_4 (goodIn_app ggL_law_X6_band_5 ggL_law_X6_band_6))))) ggL_law_X6_band_t)
set_option maxRecDepth 20000 in
theorem gL_law_X6_band : GoodIn wsL_law (wsV RL 44 RX6 yX6_band wsX6_band) := goodIn_app (goodIn_of _ (by decide +kernel)) ggL_law_X6_band
set_option maxRecDepth 20000 in
theorem ggL_law_X7_band : GoodIn wsL_law wsX7_band := goodIn_r _ [402, 251, 206, 89, 403, 404, 405, 5, 406, 296, 216, 217, 218, 407, 408, 409, 410, 411, 412, 413, 223, 224, 225, 226, 227, 90, 1083, 1084, 1085, 1086, 1087, 1088, 1089, 1090, 1091, 1092, 1093, 1094, 1095, 1096, 1097, 1098, 1099, 1100, 1101] (by decide +kernel) (by decide +kernel)
set_option maxRecDepth 20000 in
theorem gL_law_X7_band : GoodIn wsL_law (wsV RL 48 RX7 yX7_band wsX7_band) := goodIn_app (goodIn_of _ (by decide +kernel)) ggL_law_X7_band
set_option maxRecDepth 20000 in
theorem ggL_law_X6_unband_c : GoodIn wsL_law [.code yX6_unband cX6_unband 3 (some .int)] := goodIn_r _ [417] (by decide +kernel) (by decide +kernel)
set_option maxRecDepth 20000 in
theorem ggL_law_X6_unband_1 : GoodIn wsL_law wsX6_unband_r1 := goodIn_r _ [15, 382, 113, 391, 163, 164, 36, 165, 53, 125, 126, 127, 2, 128, 129, 16, 130, 131, 132, 133, 14, 134, 33, 37] (by decide +kernel) (by decide +kernel)
set_option maxRecDepth 20000 in
theorem ggL_law_X6_unband_2 : GoodIn wsL_law wsX6_unband_r2 := goodIn_r _ [41, 43, 44, 45, 135, 136, 137, 32, 138, 49, 139, 140, 141, 142, 143, 144, 145, 146, 147, 148, 149, 122, 123, 124] (by decide +kernel) (by decide +kernel)
set_option maxRecDepth 20000 in
theorem ggL_law_X6_unband_3 : GoodIn wsL_law wsX6_unband_r3 := goodIn_r _ [150, 151, 152, 153, 116, 117, 154, 155, 156, 157, 158, 159, 160, 161, 54, 162, 166, 167, 168, 169, 55, 170, 171, 172] (by decide +kernel) (by decide +kernel)
set_option maxRecDepth 20000 in
theorem ggL_law_X6_unband_4 : GoodIn wsL_law wsX6_unband_r4 := goodIn_r _ [173, 174, 175, 176, 177, 56, 178, 179, 180, 181, 182, 183, 184, 40, 185, 61, 186, 187, 188, 25, 189, 83, 71, 72] (by decide +kernel) (by decide +kernel)
set_option maxRecDepth 20000 in
theorem ggL_law_X6_unband_5 : GoodIn wsL_law wsX6_unband_r5 := goodIn_r _ [190, 191, 68, 192, 193, 194, 195, 196, 197, 418, 419, 420, 421, 393] (by decide +kernel) (by decide +kernel)
set_option maxRecDepth 20000 in
theorem ggL_law_X6_unband_t : GoodIn wsL_law wsX50 := goodIn_r _ [1075, 1076, 1077, 1078, 1079, 1080, 1081, 1082, 1102, 1103, 1104, 1105, 1106, 1107, 1132, 1133, 1134, 1135, 1121, 1122, 1123, 1124, 1125, 1126, 1127, 1128, 1129, 1130, 1131, 1136, 1117, 1118, 1119, 1120] (by decide +kernel) (by decide +kernel)
set_option maxRecDepth 20000 in
theorem ggL_law_X6_unband : GoodIn wsL_law wsX6_unband := goodIn_app (a := [.code yX6_unband cX6_unband 3 (some .int)]) ggL_law_X6_unband_c (goodIn_app (goodIn_app ggL_law_X6_unband_1 (goodIn_app ggL_law_X6_unband_2 (goodIn_app ggL_law_X6_unband_3 (goodIn_app ggL_law_X6_unband_4 ggL_law_X6_unband_5)))) ggL_law_X6_unband_t)
set_option maxRecDepth 20000 in
theorem gL_law_X6_unband : GoodIn wsL_law (wsV RL 49 RX6 yX6_unband wsX6_unband) := goodIn_app (goodIn_of _ (by decide +kernel)) ggL_law_X6_unband
set_option maxRecDepth 20000 in
theorem ggL_law_X7_unband : GoodIn wsL_law wsX7_unband := goodIn_r _ [425, 206, 89, 404, 405, 5, 406, 296, 216, 217, 218, 407, 408, 409, 410, 223, 224, 225, 226, 227, 90, 411, 412, 413, 1083, 1084, 1085, 1086, 1087, 1088, 1089, 1090, 1091, 1092, 1093, 1094, 1095, 1096, 1097, 1098, 1099, 1100, 1101] (by decide +kernel) (by decide +kernel)
set_option maxRecDepth 20000 in
theorem gL_law_X7_unband : GoodIn wsL_law (wsV RL 52 RX7 yX7_unband wsX7_unband) := goodIn_app (goodIn_of _ (by decide +kernel)) ggL_law_X7_unband
set_option maxRecDepth 20000 in
theorem ggL_law_X6_bandAt : GoodIn wsL_law wsX6_bandAt := goodIn_r _ [429, 15, 382, 113, 391, 163, 164, 36, 165, 53, 118, 119, 2, 120, 392, 159, 160, 161, 54, 162, 116, 117, 430, 167, 168, 169, 55, 1075, 1076, 1077, 1078, 1079, 1080, 1081, 1082, 1102, 1103, 1104, 1105, 1106, 1107, 1132, 1133, 1134, 1135] (by decide +kernel) (by decide +kernel)
set_option maxRecDepth 20000 in
theorem gL_law_X6_bandAt : GoodIn wsL_law (wsV RL 53 RX6 yX6_bandAt wsX6_bandAt) := goodIn_app (goodIn_of _ (by decide +kernel)) ggL_law_X6_bandAt
set_option maxRecDepth 20000 in
theorem ggL_law_X7_bandAt : GoodIn wsL_law wsX7_bandAt := goodIn_r _ [434, 89, 206, 404, 405, 5, 406, 296, 216, 217, 218, 407, 408, 409, 410, 411, 412, 413, 1083, 1084, 1085, 1086, 1087, 1088, 1089, 1090, 1091, 1092, 1093, 1094, 1095, 1096, 1097, 1098, 1099, 1100, 1101] (by decide +kernel) (by decide +kernel)
set_option maxRecDepth 20000 in
theorem gL_law_X7_bandAt : GoodIn wsL_law (wsV RL 56 RX7 yX7_bandAt wsX7_bandAt) := goodIn_app (goodIn_of _ (by decide +kernel)) ggL_law_X7_bandAt
set_option maxRecDepth 20000 in
theorem ggL_law_X6_setExtra_c : GoodIn wsL_law [.code yX6_setExtra cX6_setExtra 4 (some .int)] := goodIn_r _ [438] (by decide +kernel) (by decide +kernel)
set_option maxRecDepth 20000 in
theorem ggL_law_X6_setExtra_1 : GoodIn wsL_law wsX6_setExtra_r1 := goodIn_r _ [113, 15, 382, 384, 385, 2, 386, 118, 119, 120, 439, 175, 176, 36, 177, 56, 116, 117, 125, 126, 127, 128, 129, 16] (by decide +kernel) (by decide +kernel)
set_option maxRecDepth 20000 in
theorem ggL_law_X6_setExtra_2 : GoodIn wsL_law wsX6_setExtra_r2 := goodIn_r _ [130, 131, 132, 133, 14, 134, 33, 37, 41, 43, 44, 45, 135, 136, 137, 32, 138, 49, 139, 140, 141, 142, 143, 144] (by decide +kernel) (by decide +kernel)
set_option maxRecDepth 20000 in
theorem ggL_law_X6_setExtra_3 : GoodIn wsL_law wsX6_setExtra_r3 := goodIn_r _ [145, 146, 147, 148, 149, 122, 123, 124, 150, 151, 152, 153, 53, 154, 155, 156, 157, 158, 159, 160, 161, 54, 162, 163] (by decide +kernel) (by decide +kernel)
set_option maxRecDepth 20000 in
theorem ggL_law_X6_setExtra_4 : GoodIn wsL_law wsX6_setExtra_r4 := goodIn_r _ [164, 165, 166, 167, 168, 169, 55, 170, 171, 172, 173, 174, 178, 179, 180, 181, 182, 183, 184, 40, 185, 61, 186, 187] (by decide +kernel) (by decide +kernel)
set_option maxRecDepth 20000 in
theorem ggL_law_X6_setExtra_5 : GoodIn wsL_law wsX6_setExtra_r5 := goodIn_r _ [188, 25, 189, 83, 71, 72, 190, 191, 68, 192, 193, 194, 195, 196, 197, 440] (by decide +kernel) (by decide +kernel)
set_option maxRecDepth 20000 in
theorem ggL_law_X6_setExtra_t : GoodIn wsL_law wsX50 := goodIn_r _ [1075, 1076, 1077, 1078, 1079, 1080, 1081, 1082, 1102, 1103, 1104, 1105, 1106, 1107, 1132, 1133, 1134, 1135, 1121, 1122, 1123, 1124, 1125, 1126, 1127, 1128, 1129, 1130, 1131, 1136, 1117, 1118, 1119, 1120] (by decide +kernel) (by decide +kernel)
set_option maxRecDepth 20000 in
theorem ggL_law_X6_setExtra : GoodIn wsL_law wsX6_setExtra := goodIn_app (a := [.code yX6_setExtra cX6_setExtra 4 (some .int)]) ggL_law_X6_setExtra_c (goodIn_app (goodIn_app ggL_law_X6_setExtra_1 (goodIn_app ggL_law_X6_setExtra_2 (goodIn_app ggL_law_X6_setExtra_3 (goodIn_app ggL_law_X6_setExtra_4 ggL_law_X6_setExtra_5)))) ggL_law_X6_setExtra_t)
set_option maxRecDepth 20000 in
theorem gL_law_X6_setExtra : GoodIn wsL_law (wsV RL 57 RX6 yX6_setExtra wsX6_setExtra) := goodIn_app (goodIn_of _ (by decide +kernel)) ggL_law_X6_setExtra
set_option maxRecDepth 20000 in
theorem ggL_law_X7_setExtra : GoodIn wsL_law wsX7_setExtra := goodIn_r _ [444, 445, 206, 404, 405, 5, 406, 296, 216, 217, 218, 219, 220, 221, 222, 89, 223, 224, 225, 226, 227, 90, 1083, 1084, 1085, 1086, 1087, 1088, 1089, 1090, 1091, 1092, 1093, 1094, 1095, 1096, 1097, 1098, 1099, 1100, 1101] (by decide +kernel) (by decide +kernel)
set_option maxRecDepth 20000 in
theorem gL_law_X7_setExtra : GoodIn wsL_law (wsV RL 60 RX7 yX7_setExtra wsX7_setExtra) := goodIn_app (goodIn_of _ (by decide +kernel)) ggL_law_X7_setExtra
set_option maxRecDepth 20000 in
theorem ggL_law_X6_type : GoodIn wsL_law wsX6_type := goodIn_r _ [449, 113, 450, 18, 383, 118, 119, 2, 120, 1075, 1076, 1077, 1078, 1079, 1080, 1081, 1082] (by decide +kernel) (by decide +kernel)
set_option maxRecDepth 20000 in
theorem gL_law_X6_type : GoodIn wsL_law (wsV RL 61 RX6 yX6_type wsX6_type) := goodIn_app (goodIn_of _ (by decide +kernel)) ggL_law_X6_type
set_option maxRecDepth 20000 in
theorem ggL_law_X7_type : GoodIn wsL_law wsX7_type := goodIn_r _ [454, 455, 456, 206, 457, 403, 91, 216, 217, 5, 218, 1083, 1084, 1085, 1086, 1087, 1088, 1089, 1090, 1091, 1092, 1093, 1094, 1095, 1096, 1097, 1098, 1099, 1100, 1101] (by decide +kernel) (by decide +kernel)
set_option maxRecDepth 20000 in
theorem gL_law_X7_type : GoodIn wsL_law (wsV RL 64 RX7 yX7_type wsX7_type) := goodIn_app (goodIn_of _ (by decide +kernel)) ggL_law_X7_type
set_option maxRecDepth 20000 in
theorem ggL_law_X6_clear : GoodIn wsL_law wsX6_clear := goodIn_r _ [461, 450, 1075, 1076, 1077, 1078, 1079, 1080, 1081, 1082] (by decide +kernel) (by decide +kernel)
set_option maxRecDepth 20000 in
theorem gL_law_X6_clear : GoodIn wsL_law (wsV RL 65 RX6 yX6_clear wsX6_clear) := goodIn_app (goodIn_of _ (by decide +kernel)) ggL_law_X6_clear
set_option maxRecDepth 20000 in
theorem ggL_law_X7_clear : GoodIn wsL_law wsX7_clear := goodIn_r _ [465, 457, 1083, 1084, 1085, 1086, 1087, 1088, 1089, 1090, 1091, 1092, 1093, 1094, 1095, 1096, 1097, 1098, 1099, 1100, 1101] (by decide +kernel) (by decide +kernel)
set_option maxRecDepth 20000 in
theorem gL_law_X7_clear : GoodIn wsL_law (wsV RL 68 RX7 yX7_clear wsX7_clear) := goodIn_app (goodIn_of _ (by decide +kernel)) ggL_law_X7_clear
set_option maxRecDepth 20000 in
theorem ggL_law_X6_rule_c : GoodIn wsL_law [.code yX6_rule cX6_rule 2 (some .int)] := goodIn_r _ [469] (by decide +kernel) (by decide +kernel)
set_option maxRecDepth 20000 in
theorem ggL_law_X6_rule_1 : GoodIn wsL_law wsX6_rule_r1 := goodIn_r _ [450, 22, 15, 470, 383, 471, 472, 473, 2, 474, 18, 475, 476, 477, 21, 478, 479, 480, 481, 482, 483, 484, 485, 486] (by decide +kernel) (by decide +kernel)
set_option maxRecDepth 20000 in
theorem ggL_law_X6_rule_2 : GoodIn wsL_law wsX6_rule_r2 := goodIn_r _ [487, 488, 489, 490, 491, 492, 493, 494, 77, 116, 117, 495, 496, 497, 498, 499, 500, 501, 502, 503, 504, 505, 506, 507] (by decide +kernel) (by decide +kernel)
set_option maxRecDepth 20000 in
theorem ggL_law_X6_rule_3 : GoodIn wsL_law wsX6_rule_r3 := goodIn_r _ [508, 509, 510, 511, 512, 513, 514, 515, 516, 517, 518, 519, 520, 521, 522, 523, 67, 68, 69, 524, 191, 192, 525, 526] (by decide +kernel) (by decide +kernel)
set_option maxRecDepth 20000 in
theorem ggL_law_X6_rule_4 : GoodIn wsL_law wsX6_rule_r4 := goodIn_r _ [527, 528, 529, 530, 531, 532, 533, 534, 535, 536, 537, 538, 539, 540, 541, 542, 543, 544, 545, 546, 547, 548, 549, 550] (by decide +kernel) (by decide +kernel)
set_option maxRecDepth 20000 in
theorem ggL_law_X6_rule_5 : GoodIn wsL_law wsX6_rule_r5 := goodIn_r _ [551, 552, 553, 554, 555, 556, 557, 558, 559, 560, 561, 562, 563, 564, 565, 566, 567, 568, 569, 570, 571, 572, 573, 574] (by decide +kernel) (by decide +kernel)
set_option maxRecDepth 20000 in
theorem ggL_law_X6_rule_6 : GoodIn wsL_law wsX6_rule_r6 := goodIn_r _ [575, 576, 577, 578, 579, 580, 581, 582, 583, 584, 585, 586, 587, 588, 589, 590, 591, 592, 593, 594, 595, 596, 597, 598] (by decide +kernel) (by decide +kernel)
set_option maxRecDepth 20000 in
theorem ggL_law_X6_rule_7 : GoodIn wsL_law wsX6_rule_r7 := goodIn_r _ [599, 600, 601, 602, 603, 604, 605, 606, 607, 608, 609, 610, 611, 612, 613, 614, 40, 615, 61, 616, 125, 126, 127, 128] (by decide +kernel) (by decide +kernel)
set_option maxRecDepth 20000 in
theorem ggL_law_X6_rule_8 : GoodIn wsL_law wsX6_rule_r8 := goodIn_r _ [129, 16, 130, 131, 132, 133, 14, 134, 33, 37, 41, 43, 44, 45, 135, 136, 137, 32, 138, 49, 139, 140, 141, 142] (by decide +kernel) (by decide +kernel)
set_option maxRecDepth 20000 in
theorem ggL_law_X6_rule_9 : GoodIn wsL_law wsX6_rule_r9 := goodIn_r _ [143, 144, 145, 146, 147, 148, 149, 122, 123, 124, 150, 151, 152, 36, 153, 53, 154, 155, 156, 157, 158, 159, 160, 161] (by decide +kernel) (by decide +kernel)
set_option maxRecDepth 20000 in
theorem ggL_law_X6_rule_10 : GoodIn wsL_law wsX6_rule_r10 := goodIn_r _ [54, 162, 163, 164, 165, 166, 167, 168, 169, 55, 170, 171, 172, 173, 174, 175, 176, 177, 56, 178, 179, 180, 181, 182] (by decide +kernel) (by decide +kernel)
set_option maxRecDepth 20000 in
theorem ggL_law_X6_rule_11 : GoodIn wsL_law wsX6_rule_r11 := goodIn_r _ [183, 184, 185, 186, 187, 188, 25, 189, 83, 71, 72, 190, 193, 194, 195, 196, 197, 617, 618, 619, 620, 621, 622, 623] (by decide +kernel) (by decide +kernel)
set_option maxRecDepth 20000 in
theorem ggL_law_X6_rule_12 : GoodIn wsL_law wsX6_rule_r12 := goodIn_r _ [624, 80, 81, 82, 70, 625, 626, 627, 628, 629, 630, 631, 632] (by decide +kernel) (by decide +kernel)
set_option maxRecDepth 20000 in
theorem ggL_law_X6_rule_t : GoodIn wsL_law wsX00 := goodIn_r _ [1075, 1076, 1077, 1078, 1079, 1080, 1081, 1082, 1102, 1103, 1104, 1105, 1106, 1107, 1108, 1109, 1110, 1111, 1112, 1113, 1114, 1115, 1116, 1136, 1117, 1118, 1119, 1120, 1121, 1122, 1123, 1124, 1125, 1126, 1127, 1128, 1129, 1130, 1131, 1132, 1133, 1134, 1135] (by decide +kernel) (by decide +kernel)
set_option maxRecDepth 20000 in
theorem ggL_law_X6_rule : GoodIn wsL_law wsX6_rule := goodIn_app (a := [.code yX6_rule cX6_rule 2 (some .int)]) ggL_law_X6_rule_c (goodIn_app (goodIn_app ggL_law_X6_rule_1 (goodIn_app ggL_law_X6_rule_2 (goodIn_app ggL_law_X6_rule_3 (goodIn_app ggL_law_X6_rule_4 (goodIn_app ggL_law_X6_rule_5 (goodIn_app ggL_law_X6_rule_6 (goodIn_app ggL_law_X6_rule_7 (goodIn_app ggL_law_X6_rule_8 (goodIn_app ggL_law_X6_rule_9 (goodIn_app ggL_law_X6_rule_10 (goodIn_app ggL_law_X6_rule_11 ggL_law_X6_rule_12))))))))))) ggL_law_X6_rule_t)
set_option maxRecDepth 20000 in
theorem gL_law_X6_rule : GoodIn wsL_law (wsV RL 69 RX6 yX6_rule wsX6_rule) := goodIn_app (goodIn_of _ (by decide +kernel)) ggL_law_X6_rule
set_option maxRecDepth 20000 in
theorem ggL_law_X7_rule_c : GoodIn wsL_law [.code yX7_rule cX7_rule 3 (some .int)] := goodIn_r _ [636] (by decide +kernel) (by decide +kernel)
set_option maxRecDepth 20000 in
theorem ggL_law_X7_rule_1 : GoodIn wsL_law wsX7_rule_r1 := goodIn_r _ [457, 637, 92, 91, 638, 89, 639, 403, 640, 641, 642, 5, 643, 644, 94, 645, 97, 95, 96, 646, 647, 648, 649, 650] (by decide +kernel) (by decide +kernel)
set_option maxRecDepth 20000 in
theorem ggL_law_X7_rule_2 : GoodIn wsL_law wsX7_rule_r2 := goodIn_r _ [651, 652, 653, 654, 655, 656, 657, 658, 659, 660, 661, 662, 216, 217, 218, 663, 664, 665, 666, 93, 667, 668, 669, 670] (by decide +kernel) (by decide +kernel)
set_option maxRecDepth 20000 in
theorem ggL_law_X7_rule_3 : GoodIn wsL_law wsX7_rule_r3 := goodIn_r _ [671, 672, 673, 674, 675, 676, 677, 678, 223, 224, 225, 226, 227, 90] (by decide +kernel) (by decide +kernel)
set_option maxRecDepth 20000 in
theorem ggL_law_X7_rule_t : GoodIn wsL_law wsX70 := goodIn_r _ [1083, 1084, 1085, 1086, 1087, 1088, 1089, 1090, 1091, 1092, 1093, 1094, 1095, 1096, 1097, 1098, 1099, 1100, 1101] (by decide +kernel) (by decide +kernel)
set_option maxRecDepth 20000 in
theorem ggL_law_X7_rule : GoodIn wsL_law wsX7_rule := goodIn_app (a := [.code yX7_rule cX7_rule 3 (some .int)]) ggL_law_X7_rule_c (goodIn_app (goodIn_app ggL_law_X7_rule_1 (goodIn_app ggL_law_X7_rule_2 ggL_law_X7_rule_3)) ggL_law_X7_rule_t)
set_option maxRecDepth 20000 in
theorem gL_law_X7_rule : GoodIn wsL_law (wsV RL 72 RX7 yX7_rule wsX7_rule) := goodIn_app (goodIn_of _ (by decide +kernel)) ggL_law_X7_rule
set_option maxRecDepth 20000 in
theorem ggL_law_X6_unrule_c : GoodIn wsL_law [.code yX6_unrule cX6_unrule 1 (some .int)] := goodIn_r _ [682] (by decide +kernel) (by decide +kernel)
set_option maxRecDepth 20000 in
theorem ggL_law_X6_unrule_1 : GoodIn wsL_law wsX6_unrule_r1 := goodIn_r _ [15, 470, 257, 612, 613, 614, 40, 615, 61, 616, 125, 126, 127, 2, 128, 129, 16, 130, 131, 132, 133, 14, 134, 33] (by decide +kernel) (by decide +kernel)
set_option maxRecDepth 20000 in
theorem ggL_law_X6_unrule_2 : GoodIn wsL_law wsX6_unrule_r2 := goodIn_r _ [37, 41, 43, 44, 45, 135, 136, 137, 32, 138, 49, 139, 140, 141, 142, 143, 144, 145, 146, 147, 148, 149, 122, 123] (by decide +kernel) (by decide +kernel)
set_option maxRecDepth 20000 in
theorem ggL_law_X6_unrule_3 : GoodIn wsL_law wsX6_unrule_r3 := goodIn_r _ [124, 150, 151, 152, 36, 153, 53, 116, 117, 154, 155, 156, 157, 158, 159, 160, 161, 54, 162, 163, 164, 165, 166, 167] (by decide +kernel) (by decide +kernel)
set_option maxRecDepth 20000 in
theorem ggL_law_X6_unrule_4 : GoodIn wsL_law wsX6_unrule_r4 := goodIn_r _ [168, 169, 55, 170, 171, 172, 173, 174, 175, 176, 177, 56, 178, 179, 180, 181, 182, 183, 184, 185, 186, 187, 188, 25] (by decide +kernel) (by decide +kernel)
set_option maxRecDepth 20000 in
theorem ggL_law_X6_unrule_5 : GoodIn wsL_law wsX6_unrule_r5 := goodIn_r _ [189, 83, 71, 72, 190, 191, 68, 192, 193, 194, 195, 196, 197, 683, 684, 685, 686, 687, 67, 69] (by decide +kernel) (by decide +kernel)
set_option maxRecDepth 20000 in
theorem ggL_law_X6_unrule_t : GoodIn wsL_law wsX00 := goodIn_r _ [1075, 1076, 1077, 1078, 1079, 1080, 1081, 1082, 1102, 1103, 1104, 1105, 1106, 1107, 1136, 1117, 1118, 1119, 1120, 1121, 1122, 1123, 1124, 1125, 1126, 1127, 1128, 1129, 1130, 1131, 1132, 1133, 1134, 1135] (by decide +kernel) (by decide +kernel)
set_option maxRecDepth 20000 in
theorem ggL_law_X6_unrule : GoodIn wsL_law wsX6_unrule := goodIn_app (a := [.code yX6_unrule cX6_unrule 1 (some .int)]) ggL_law_X6_unrule_c (goodIn_app (goodIn_app ggL_law_X6_unrule_1 (goodIn_app ggL_law_X6_unrule_2 (goodIn_app ggL_law_X6_unrule_3 (goodIn_app ggL_law_X6_unrule_4 ggL_law_X6_unrule_5)))) ggL_law_X6_unrule_t)
set_option maxRecDepth 20000 in
theorem gL_law_X6_unrule : GoodIn wsL_law (wsV RL 73 RX6 yX6_unrule wsX6_unrule) := goodIn_app (goodIn_of _ (by decide +kernel)) ggL_law_X6_unrule
set_option maxRecDepth 20000 in
theorem ggL_law_X7_unrule : GoodIn wsL_law wsX7_unrule := goodIn_r _ [691, 89, 291, 223, 224, 225, 5, 226, 227, 90, 1083, 1084, 1085, 1086, 1087, 1088, 1089, 1090, 1091, 1092, 1093, 1094, 1095, 1096, 1097, 1098, 1099, 1100, 1101] (by decide +kernel) (by decide +kernel)
set_option maxRecDepth 20000 in
theorem gL_law_X7_unrule : GoodIn wsL_law (wsV RL 76 RX7 yX7_unrule wsX7_unrule) := goodIn_app (goodIn_of _ (by decide +kernel)) ggL_law_X7_unrule
set_option maxRecDepth 20000 in
theorem ggL_law_X6_rules : GoodIn wsL_law wsX6_rules := goodIn_r _ [695, 15, 470, 612, 613, 614, 40, 615, 61, 616, 1075, 1076, 1077, 1078, 1079, 1080, 1081, 1082, 1102, 1103, 1104, 1105, 1106, 1107, 1136, 1117, 1118, 1119, 1120] (by decide +kernel) (by decide +kernel)
set_option maxRecDepth 20000 in
theorem gL_law_X6_rules : GoodIn wsL_law (wsV RL 77 RX6 yX6_rules wsX6_rules) := goodIn_app (goodIn_of _ (by decide +kernel)) ggL_law_X6_rules
set_option maxRecDepth 20000 in
theorem ggL_law_X7_rules : GoodIn wsL_law wsX7_rules := goodIn_r _ [699, 89, 1083, 1084, 1085, 1086, 1087, 1088, 1089, 1090, 1091, 1092, 1093, 1094, 1095, 1096, 1097, 1098, 1099, 1100, 1101] (by decide +kernel) (by decide +kernel)
set_option maxRecDepth 20000 in
theorem gL_law_X7_rules : GoodIn wsL_law (wsV RL 80 RX7 yX7_rules wsX7_rules) := goodIn_app (goodIn_of _ (by decide +kernel)) ggL_law_X7_rules
set_option maxRecDepth 20000 in
theorem ggL_law_X6_take_c : GoodIn wsL_law [.code yX6_take cX6_take 7 (some .int)] := goodIn_r _ [703] (by decide +kernel) (by decide +kernel)
set_option maxRecDepth 20000 in
theorem ggL_law_X6_take_1 : GoodIn wsL_law wsX6_take_r1 := goodIn_r _ [113, 15, 114, 257, 704, 705, 383, 706, 707, 2, 708, 709, 710, 711, 118, 119, 120, 384, 385, 386, 313, 314, 315, 32] (by decide +kernel) (by decide +kernel)
set_option maxRecDepth 20000 in
theorem ggL_law_X6_take_2 : GoodIn wsL_law wsX6_take_r2 := goodIn_r _ [316, 146, 147, 148, 317, 67, 68, 69, 274, 191, 192, 145, 149, 122, 123, 124, 49, 334, 335, 336, 337, 282, 283, 284] (by decide +kernel) (by decide +kernel)
set_option maxRecDepth 20000 in
theorem ggL_law_X6_take_3 : GoodIn wsL_law wsX6_take_r3 := goodIn_r _ [285, 141, 262, 263, 264, 265, 139, 143, 266, 267, 268, 269, 712, 365, 366, 367, 142, 363, 339, 340, 341, 713, 714, 715] (by decide +kernel) (by decide +kernel)
set_option maxRecDepth 20000 in
theorem ggL_law_X6_take_4 : GoodIn wsL_law wsX6_take_r4 := goodIn_r _ [716, 382, 393, 155, 156, 36, 157, 53, 116, 117, 125, 126, 127, 128, 129, 16, 130, 131, 132, 133, 14, 134, 33, 37] (by decide +kernel) (by decide +kernel)
set_option maxRecDepth 20000 in
theorem ggL_law_X6_take_5 : GoodIn wsL_law wsX6_take_r5 := goodIn_r _ [41, 43, 44, 45, 135, 136, 137, 138, 140, 144, 150, 151, 152, 153, 154, 158, 159, 160, 161, 54, 162, 163, 164, 165] (by decide +kernel) (by decide +kernel)
set_option maxRecDepth 20000 in
theorem ggL_law_X6_take_6 : GoodIn wsL_law wsX6_take_r6 := goodIn_r _ [166, 167, 168, 169, 55, 170, 171, 172, 173, 174, 175, 176, 177, 56, 178, 179, 180, 181, 182, 183, 184, 40, 185, 61] (by decide +kernel) (by decide +kernel)
set_option maxRecDepth 20000 in
theorem ggL_law_X6_take_7 : GoodIn wsL_law wsX6_take_r7 := goodIn_r _ [186, 187, 188, 25, 189, 83, 71, 72, 190, 193, 194, 195, 196, 197, 79, 80, 81, 82, 70, 717, 718, 719, 720, 626] (by decide +kernel) (by decide +kernel)
set_option maxRecDepth 20000 in
theorem ggL_law_X6_take_8 : GoodIn wsL_law wsX6_take_r8 := goodIn_r _ [627, 628, 721, 722, 723, 724, 725, 726, 727, 728, 729, 730, 731, 732, 733, 734, 735, 736, 737, 738, 739, 740, 741, 742] (by decide +kernel) (by decide +kernel)
set_option maxRecDepth 20000 in
theorem ggL_law_X6_take_9 : GoodIn wsL_law wsX6_take_r9 := goodIn_r _ [743, 744, 745, 746, 747, 748, 749, 750, 751, 388, 389, 390, 752, 753, 754, 755, 756, 757, 758, 759, 616, 760, 761, 762] (by decide +kernel) (by decide +kernel)
set_option maxRecDepth 20000 in
theorem ggL_law_X6_take_10 : GoodIn wsL_law wsX6_take_r10 := goodIn_r _ [763, 764, 765, 766, 767, 768, 769, 770, 771, 772, 773, 774, 775, 776, 777, 778, 779, 780, 781, 782, 783, 784, 785, 786] (by decide +kernel) (by decide +kernel)
set_option maxRecDepth 20000 in
theorem ggL_law_X6_take_11 : GoodIn wsL_law wsX6_take_r11 := goodIn_r _ [787, 788, 789, 790] (by decide +kernel) (by decide +kernel)
set_option maxRecDepth 20000 in
theorem ggL_law_X6_take_t : GoodIn wsL_law wsX20 := goodIn_r _ [1075, 1076, 1077, 1078, 1079, 1080, 1081, 1082, 1102, 1103, 1104, 1105, 1106, 1107, 1117, 1118, 1119, 1120, 1121, 1122, 1123, 1124, 1125, 1126, 1127, 1128, 1129, 1130, 1131, 1132, 1133, 1134, 1135, 1136] (by decide +kernel) (by decide +kernel)
set_option maxRecDepth 20000 in
theorem ggL_law_X6_take : GoodIn wsL_law wsX6_take := goodIn_app (a := [.code yX6_take cX6_take 7 (some .int)]) ggL_law_X6_take_c (goodIn_app (goodIn_app ggL_law_X6_take_1 (goodIn_app ggL_law_X6_take_2 (goodIn_app ggL_law_X6_take_3 (goodIn_app ggL_law_X6_take_4 (goodIn_app ggL_law_X6_take_5 (goodIn_app ggL_law_X6_take_6 (goodIn_app ggL_law_X6_take_7 (goodIn_app ggL_law_X6_take_8 (goodIn_app ggL_law_X6_take_9 (goodIn_app ggL_law_X6_take_10 ggL_law_X6_take_11)))))))))) ggL_law_X6_take_t)
set_option maxRecDepth 20000 in
theorem gL_law_X6_take : GoodIn wsL_law (wsV RL 81 RX6 yX6_take wsX6_take) := goodIn_app (goodIn_of _ (by decide +kernel)) ggL_law_X6_take
set_option maxRecDepth 20000 in
theorem ggL_law_X7_take_c : GoodIn wsL_law [.code yX7_take cX7_take 9 (some .int)] := goodIn_r _ [794] (by decide +kernel) (by decide +kernel)
set_option maxRecDepth 20000 in
theorem ggL_law_X7_take_1 : GoodIn wsL_law wsX7_take_r1 := goodIn_r _ [206, 89, 291, 795, 403, 98, 796, 797, 5, 798, 799, 216, 217, 218, 404, 405, 406, 296, 326, 327, 328, 329, 346, 347] (by decide +kernel) (by decide +kernel)
set_option maxRecDepth 20000 in
theorem ggL_law_X7_take_2 : GoodIn wsL_law wsX7_take_r2 := goodIn_r _ [348, 349, 297, 298, 299, 300, 212, 301, 302, 303, 350, 351, 352, 353, 354, 407, 408, 409, 410, 223, 224, 225, 226, 227] (by decide +kernel) (by decide +kernel)
set_option maxRecDepth 20000 in
theorem ggL_law_X7_take_3 : GoodIn wsL_law wsX7_take_r3 := goodIn_r _ [90, 800, 801, 802, 803, 637, 92, 804, 640, 641, 642, 643, 644, 94, 645, 638, 97, 95, 96, 646, 647, 648, 649, 650] (by decide +kernel) (by decide +kernel)
set_option maxRecDepth 20000 in
theorem ggL_law_X7_take_4 : GoodIn wsL_law wsX7_take_r4 := goodIn_r _ [651, 652, 653, 654, 655, 656, 657, 658, 659, 660, 661, 662, 663, 664, 665, 666, 93, 667, 668, 669, 670, 671, 672, 673] (by decide +kernel) (by decide +kernel)
set_option maxRecDepth 20000 in
theorem ggL_law_X7_take_5 : GoodIn wsL_law wsX7_take_r5 := goodIn_r _ [674, 675, 676, 677, 678, 805, 806, 807, 808, 99, 809, 810, 811, 812, 102, 813, 814, 815, 816, 817, 818, 819, 211, 411] (by decide +kernel) (by decide +kernel)
set_option maxRecDepth 20000 in
theorem ggL_law_X7_take_6 : GoodIn wsL_law wsX7_take_r6 := goodIn_r _ [412, 413, 820, 821, 822, 823, 824, 825, 826, 827, 828, 829, 101, 830, 831, 832] (by decide +kernel) (by decide +kernel)
set_option maxRecDepth 20000 in
theorem ggL_law_X7_take_t : GoodIn wsL_law wsX70 := goodIn_r _ [1083, 1084, 1085, 1086, 1087, 1088, 1089, 1090, 1091, 1092, 1093, 1094, 1095, 1096, 1097, 1098, 1099, 1100, 1101] (by decide +kernel) (by decide +kernel)
set_option maxRecDepth 20000 in
theorem ggL_law_X7_take : GoodIn wsL_law wsX7_take := goodIn_app (a := [.code yX7_take cX7_take 9 (some .int)]) ggL_law_X7_take_c (goodIn_app (goodIn_app ggL_law_X7_take_1 (goodIn_app ggL_law_X7_take_2 (goodIn_app ggL_law_X7_take_3 (goodIn_app ggL_law_X7_take_4 (goodIn_app ggL_law_X7_take_5 ggL_law_X7_take_6))))) ggL_law_X7_take_t)
set_option maxRecDepth 20000 in
theorem gL_law_X7_take : GoodIn wsL_law (wsV RL 85 RX7 yX7_take wsX7_take) := goodIn_app (goodIn_of _ (by decide +kernel)) ggL_law_X7_take
set_option maxRecDepth 20000 in
theorem ggL_law_X6_quote_c : GoodIn wsL_law [.code yX6_quote cX6_quote 6 (some .int)] := goodIn_r _ [836] (by decide +kernel) (by decide +kernel)
set_option maxRecDepth 20000 in
theorem ggL_law_X6_quote_1 : GoodIn wsL_law wsX6_quote_r1 := goodIn_r _ [241, 113, 257, 26, 118, 119, 2, 120, 706, 707, 708, 709, 710, 711, 384, 385, 386, 713, 714, 715, 716, 15, 382, 393] (by decide +kernel) (by decide +kernel)
set_option maxRecDepth 20000 in
theorem ggL_law_X6_quote_2 : GoodIn wsL_law wsX6_quote_r2 := goodIn_r _ [155, 156, 36, 157, 53, 116, 117, 717, 718, 719, 720, 626, 627, 25, 628, 70, 71, 72, 837, 838, 839, 840, 721, 722] (by decide +kernel) (by decide +kernel)
set_option maxRecDepth 20000 in
theorem ggL_law_X6_quote_3 : GoodIn wsL_law wsX6_quote_r3 := goodIn_r _ [723, 14, 724, 725, 33, 726, 67, 68, 69, 37, 41, 727, 728, 729, 730, 731, 732, 733, 734, 122, 123, 32, 124, 49] (by decide +kernel) (by decide +kernel)
set_option maxRecDepth 20000 in
theorem ggL_law_X6_quote_4 : GoodIn wsL_law wsX6_quote_r4 := goodIn_r _ [735, 736, 737, 738, 739, 740, 741, 742, 743, 744, 745, 746, 747, 748, 749, 750, 751, 388, 389, 390, 154, 158, 159, 160] (by decide +kernel) (by decide +kernel)
set_option maxRecDepth 20000 in
theorem ggL_law_X6_quote_5 : GoodIn wsL_law wsX6_quote_r5 := goodIn_r _ [161, 54, 162, 163, 164, 165, 166, 167, 168, 169, 55, 752, 753, 754, 755, 174, 175, 176, 177, 56, 756, 757, 758, 40] (by decide +kernel) (by decide +kernel)
set_option maxRecDepth 20000 in
theorem ggL_law_X6_quote_6 : GoodIn wsL_law wsX6_quote_r6 := goodIn_r _ [759, 61, 616, 760, 761, 762, 763, 764, 765, 766, 767, 768, 769, 770, 771, 772, 773, 774, 775, 776, 777, 778, 779, 780] (by decide +kernel) (by decide +kernel)
set_option maxRecDepth 20000 in
theorem ggL_law_X6_quote_7 : GoodIn wsL_law wsX6_quote_r7 := goodIn_r _ [781, 782, 783, 784, 785, 786, 787, 788, 789, 790] (by decide +kernel) (by decide +kernel)
set_option maxRecDepth 20000 in
theorem ggL_law_X6_quote_t : GoodIn wsL_law wsX20 := goodIn_r _ [1075, 1076, 1077, 1078, 1079, 1080, 1081, 1082, 1102, 1103, 1104, 1105, 1106, 1107, 1132, 1133, 1134, 1135, 1117, 1118, 1119, 1120, 1121, 1122, 1123, 1124, 1125, 1126, 1127, 1128, 1129, 1130, 1131, 1136] (by decide +kernel) (by decide +kernel)
set_option maxRecDepth 20000 in
theorem ggL_law_X6_quote : GoodIn wsL_law wsX6_quote := goodIn_app (a := [.code yX6_quote cX6_quote 6 (some .int)]) ggL_law_X6_quote_c (goodIn_app (goodIn_app ggL_law_X6_quote_1 (goodIn_app ggL_law_X6_quote_2 (goodIn_app ggL_law_X6_quote_3 (goodIn_app ggL_law_X6_quote_4 (goodIn_app ggL_law_X6_quote_5 (goodIn_app ggL_law_X6_quote_6 ggL_law_X6_quote_7)))))) ggL_law_X6_quote_t)
set_option maxRecDepth 20000 in
theorem gL_law_X6_quote : GoodIn wsL_law (wsV RL 86 RX6 yX6_quote wsX6_quote) := goodIn_app (goodIn_of _ (by decide +kernel)) ggL_law_X6_quote
set_option maxRecDepth 20000 in
theorem ggL_law_X7_quote_c : GoodIn wsL_law [.code yX7_quote cX7_quote 6 (some .int)] := goodIn_r _ [844] (by decide +kernel) (by decide +kernel)
set_option maxRecDepth 20000 in
theorem ggL_law_X7_quote_1 : GoodIn wsL_law wsX7_quote_r1 := goodIn_r _ [251, 206, 291, 216, 217, 5, 218, 796, 797, 798, 799, 404, 405, 406, 296, 407, 408, 409, 410, 89, 800, 801, 802, 803] (by decide +kernel) (by decide +kernel)
set_option maxRecDepth 20000 in
theorem ggL_law_X7_quote_2 : GoodIn wsL_law wsX7_quote_r2 := goodIn_r _ [637, 92, 804, 640, 641, 642, 643, 644, 94, 645, 638, 97, 95, 96, 646, 647, 648, 649, 650, 651, 652, 653, 654, 655] (by decide +kernel) (by decide +kernel)
set_option maxRecDepth 20000 in
theorem ggL_law_X7_quote_3 : GoodIn wsL_law wsX7_quote_r3 := goodIn_r _ [656, 657, 658, 659, 660, 661, 662, 663, 664, 665, 666, 93, 667, 668, 669, 670, 671, 672, 673, 674, 675, 676, 677, 678] (by decide +kernel) (by decide +kernel)
set_option maxRecDepth 20000 in
theorem ggL_law_X7_quote_4 : GoodIn wsL_law wsX7_quote_r4 := goodIn_r _ [805, 806, 807, 808, 98, 212, 354, 99, 809, 810, 811, 812, 102, 813, 814, 815, 816, 817, 818, 819, 211, 411, 412, 413] (by decide +kernel) (by decide +kernel)
set_option maxRecDepth 20000 in
theorem ggL_law_X7_quote_5 : GoodIn wsL_law wsX7_quote_r5 := goodIn_r _ [820, 821, 822, 823, 824, 825, 826, 827, 828, 829, 101, 301, 302, 303] (by decide +kernel) (by decide +kernel)
set_option maxRecDepth 20000 in
theorem ggL_law_X7_quote_t : GoodIn wsL_law wsX70 := goodIn_r _ [1083, 1084, 1085, 1086, 1087, 1088, 1089, 1090, 1091, 1092, 1093, 1094, 1095, 1096, 1097, 1098, 1099, 1100, 1101] (by decide +kernel) (by decide +kernel)
set_option maxRecDepth 20000 in
theorem ggL_law_X7_quote : GoodIn wsL_law wsX7_quote := goodIn_app (a := [.code yX7_quote cX7_quote 6 (some .int)]) ggL_law_X7_quote_c (goodIn_app (goodIn_app ggL_law_X7_quote_1 (goodIn_app ggL_law_X7_quote_2 (goodIn_app ggL_law_X7_quote_3 (goodIn_app ggL_law_X7_quote_4 ggL_law_X7_quote_5)))) ggL_law_X7_quote_t)
set_option maxRecDepth 20000 in
theorem gL_law_X7_quote : GoodIn wsL_law (wsV RL 90 RX7 yX7_quote wsX7_quote) := goodIn_app (goodIn_of _ (by decide +kernel)) ggL_law_X7_quote
set_option maxRecDepth 20000 in
theorem ggL_law_X6_parcel : GoodIn wsL_law wsX6_parcel := goodIn_r _ [848, 15, 704, 113, 849, 850, 851, 25, 852, 83, 118, 119, 2, 120, 853, 854, 855, 856, 857, 705, 858, 733, 728, 729, 730, 70, 71, 72, 1075, 1076, 1077, 1078, 1079, 1080, 1081, 1082, 1102, 1103, 1104, 1105, 1106, 1107, 1117, 1118, 1119, 1120] (by decide +kernel) (by decide +kernel)
set_option maxRecDepth 20000 in
theorem gL_law_X6_parcel : GoodIn wsL_law (wsV RL 91 RX6 yX6_parcel wsX6_parcel) := goodIn_app (goodIn_of _ (by decide +kernel)) ggL_law_X6_parcel
set_option maxRecDepth 20000 in
theorem ggL_law_X7_parcel : GoodIn wsL_law wsX7_parcel := goodIn_r _ [862, 102, 206, 863, 864, 865, 5, 866, 89, 216, 217, 218, 867, 868, 869, 870, 830, 831, 832, 820, 821, 822, 354, 823, 824, 825, 871, 872, 873, 874, 875, 876, 877, 878, 1083, 1084, 1085, 1086, 1087, 1088, 1089, 1090, 1091, 1092, 1093, 1094, 1095, 1096, 1097, 1098, 1099, 1100, 1101] (by decide +kernel) (by decide +kernel)
set_option maxRecDepth 20000 in
theorem gL_law_X7_parcel : GoodIn wsL_law (wsV RL 94 RX7 yX7_parcel wsX7_parcel) := goodIn_app (goodIn_of _ (by decide +kernel)) ggL_law_X7_parcel
set_option maxRecDepth 20000 in
theorem ggL_law_X6_why : GoodIn wsL_law wsX6_why := goodIn_r _ [882, 15, 704, 113, 858, 849, 850, 851, 25, 852, 83, 733, 728, 729, 730, 70, 71, 72, 1075, 1076, 1077, 1078, 1079, 1080, 1081, 1082, 1102, 1103, 1104, 1105, 1106, 1107, 1117, 1118, 1119, 1120] (by decide +kernel) (by decide +kernel)
set_option maxRecDepth 20000 in
theorem gL_law_X6_why : GoodIn wsL_law (wsV RL 95 RX6 yX6_why wsX6_why) := goodIn_app (goodIn_of _ (by decide +kernel)) ggL_law_X6_why
set_option maxRecDepth 20000 in
theorem ggL_law_X7_why : GoodIn wsL_law wsX7_why := goodIn_r _ [886, 206, 863, 864, 865, 5, 866, 89, 216, 217, 218, 887, 888, 889, 890, 875, 830, 831, 832, 1083, 1084, 1085, 1086, 1087, 1088, 1089, 1090, 1091, 1092, 1093, 1094, 1095, 1096, 1097, 1098, 1099, 1100, 1101] (by decide +kernel) (by decide +kernel)
set_option maxRecDepth 20000 in
theorem gL_law_X7_why : GoodIn wsL_law (wsV RL 98 RX7 yX7_why wsX7_why) := goodIn_app (goodIn_of _ (by decide +kernel)) ggL_law_X7_why
set_option maxRecDepth 20000 in
theorem ggL_law_X6_parcels : GoodIn wsL_law wsX6_parcels := goodIn_r _ [894, 15, 704, 705, 1075, 1076, 1077, 1078, 1079, 1080, 1081, 1082, 1102, 1103, 1104, 1105, 1106, 1107, 1117, 1118, 1119, 1120] (by decide +kernel) (by decide +kernel)
set_option maxRecDepth 20000 in
theorem gL_law_X6_parcels : GoodIn wsL_law (wsV RL 99 RX6 yX6_parcels wsX6_parcels) := goodIn_app (goodIn_of _ (by decide +kernel)) ggL_law_X6_parcels
set_option maxRecDepth 20000 in
theorem ggL_law_X7_parcels : GoodIn wsL_law wsX7_parcels := goodIn_r _ [898, 89, 1083, 1084, 1085, 1086, 1087, 1088, 1089, 1090, 1091, 1092, 1093, 1094, 1095, 1096, 1097, 1098, 1099, 1100, 1101] (by decide +kernel) (by decide +kernel)
set_option maxRecDepth 20000 in
theorem gL_law_X7_parcels : GoodIn wsL_law (wsV RL 102 RX7 yX7_parcels wsX7_parcels) := goodIn_app (goodIn_of _ (by decide +kernel)) ggL_law_X7_parcels
set_option maxRecDepth 20000 in
theorem ggL_law_X6_density : GoodIn wsL_law wsX6_density := goodIn_r _ [902, 15, 704, 903, 849, 850, 851, 25, 852, 83, 904, 731, 2, 732, 733, 728, 729, 730, 70, 71, 72, 1075, 1076, 1077, 1078, 1079, 1080, 1081, 1082, 1102, 1103, 1104, 1105, 1106, 1107, 1117, 1118, 1119, 1120] (by decide +kernel) (by decide +kernel)
set_option maxRecDepth 20000 in
theorem gL_law_X6_density : GoodIn wsL_law (wsV RL 103 RX6 yX6_density wsX6_density) := goodIn_app (goodIn_of _ (by decide +kernel)) ggL_law_X6_density
set_option maxRecDepth 20000 in
theorem ggL_law_X7_density : GoodIn wsL_law wsX7_density := goodIn_r _ [908, 909, 89, 863, 864, 865, 5, 866, 216, 217, 218, 830, 831, 832, 810, 811, 812, 102, 813, 814, 815, 1083, 1084, 1085, 1086, 1087, 1088, 1089, 1090, 1091, 1092, 1093, 1094, 1095, 1096, 1097, 1098, 1099, 1100, 1101] (by decide +kernel) (by decide +kernel)
set_option maxRecDepth 20000 in
theorem gL_law_X7_density : GoodIn wsL_law (wsV RL 107 RX7 yX7_density wsX7_density) := goodIn_app (goodIn_of _ (by decide +kernel)) ggL_law_X7_density
set_option maxRecDepth 20000 in
theorem ggL_law_X6_dispute_c : GoodIn wsL_law [.code yX6_dispute cX6_dispute 4 (some .int)] := goodIn_r _ [913] (by decide +kernel) (by decide +kernel)
set_option maxRecDepth 20000 in
theorem ggL_law_X6_dispute_1 : GoodIn wsL_law wsX6_dispute_r1 := goodIn_r _ [15, 704, 113, 241, 858, 257, 857, 705, 383, 849, 850, 851, 25, 852, 83, 118, 119, 2, 120, 853, 854, 855, 856, 733] (by decide +kernel) (by decide +kernel)
set_option maxRecDepth 20000 in
theorem ggL_law_X6_dispute_2 : GoodIn wsL_law wsX6_dispute_r2 := goodIn_r _ [728, 729, 730, 70, 71, 72, 713, 714, 715, 716, 382, 393, 155, 156, 36, 157, 53, 116, 117, 125, 126, 127, 128, 129] (by decide +kernel) (by decide +kernel)
set_option maxRecDepth 20000 in
theorem ggL_law_X6_dispute_3 : GoodIn wsL_law wsX6_dispute_r3 := goodIn_r _ [16, 130, 131, 132, 133, 14, 134, 33, 37, 41, 43, 44, 45, 135, 136, 137, 32, 138, 49, 139, 140, 141, 142, 143] (by decide +kernel) (by decide +kernel)
set_option maxRecDepth 20000 in
theorem ggL_law_X6_dispute_4 : GoodIn wsL_law wsX6_dispute_r4 := goodIn_r _ [144, 145, 146, 147, 148, 149, 122, 123, 124, 150, 151, 152, 153, 154, 158, 159, 160, 161, 54, 162, 163, 164, 165, 166] (by decide +kernel) (by decide +kernel)
set_option maxRecDepth 20000 in
theorem ggL_law_X6_dispute_5 : GoodIn wsL_law wsX6_dispute_r5 := goodIn_r _ [167, 168, 169, 55, 170, 171, 172, 173, 174, 175, 176, 177, 56, 178, 179, 180, 181, 182, 183, 184, 40, 185, 61, 186] (by decide +kernel) (by decide +kernel)
set_option maxRecDepth 20000 in
theorem ggL_law_X6_dispute_6 : GoodIn wsL_law wsX6_dispute_r6 := goodIn_r _ [187, 188, 189, 190, 191, 68, 192, 193, 194, 195, 196, 197, 914, 915, 916, 917, 918, 79, 80, 81, 82, 919, 920, 921] (by decide +kernel) (by decide +kernel)
set_option maxRecDepth 20000 in
theorem ggL_law_X6_dispute_7 : GoodIn wsL_law wsX6_dispute_r7 := goodIn_r _ [922, 923, 924, 626, 627, 628, 720, 721, 722, 723, 724, 725, 726, 67, 69, 727, 731, 732, 734, 735, 736, 737, 738, 739] (by decide +kernel) (by decide +kernel)
set_option maxRecDepth 20000 in
theorem ggL_law_X6_dispute_8 : GoodIn wsL_law wsX6_dispute_r8 := goodIn_r _ [740, 741, 742, 743, 744, 745, 746, 747, 748, 749, 750, 751, 388, 389, 390, 752, 753, 754, 755, 756, 757, 758, 759, 616] (by decide +kernel) (by decide +kernel)
set_option maxRecDepth 20000 in
theorem ggL_law_X6_dispute_9 : GoodIn wsL_law wsX6_dispute_r9 := goodIn_r _ [760, 761, 762, 763, 764, 765, 766, 767, 768, 769, 770, 771, 772, 773, 774, 775, 776, 777, 778, 779, 780, 781, 782, 783] (by decide +kernel) (by decide +kernel)
set_option maxRecDepth 20000 in
theorem ggL_law_X6_dispute_10 : GoodIn wsL_law wsX6_dispute_r10 := goodIn_r _ [784, 785, 786, 787, 788, 789, 790] (by decide +kernel) (by decide +kernel)
set_option maxRecDepth 20000 in
theorem ggL_law_X6_dispute_t : GoodIn wsL_law wsX20 := goodIn_r _ [1075, 1076, 1077, 1078, 1079, 1080, 1081, 1082, 1102, 1103, 1104, 1105, 1106, 1107, 1117, 1118, 1119, 1120, 1132, 1133, 1134, 1135, 1121, 1122, 1123, 1124, 1125, 1126, 1127, 1128, 1129, 1130, 1131, 1136] (by decide +kernel) (by decide +kernel)
set_option maxRecDepth 20000 in
theorem ggL_law_X6_dispute : GoodIn wsL_law wsX6_dispute := goodIn_app (a := [.code yX6_dispute cX6_dispute 4 (some .int)]) ggL_law_X6_dispute_c (goodIn_app (goodIn_app ggL_law_X6_dispute_1 (goodIn_app ggL_law_X6_dispute_2 (goodIn_app ggL_law_X6_dispute_3 (goodIn_app ggL_law_X6_dispute_4 (goodIn_app ggL_law_X6_dispute_5 (goodIn_app ggL_law_X6_dispute_6 (goodIn_app ggL_law_X6_dispute_7 (goodIn_app ggL_law_X6_dispute_8 (goodIn_app ggL_law_X6_dispute_9 ggL_law_X6_dispute_10))))))))) ggL_law_X6_dispute_t)
set_option maxRecDepth 20000 in
theorem gL_law_X6_dispute : GoodIn wsL_law (wsV RL 108 RX6 yX6_dispute wsX6_dispute) := goodIn_app (goodIn_of _ (by decide +kernel)) ggL_law_X6_dispute
set_option maxRecDepth 20000 in
theorem ggL_law_X7_dispute_c : GoodIn wsL_law [.code yX7_dispute cX7_dispute 6 (some .int)] := goodIn_r _ [928] (by decide +kernel) (by decide +kernel)
set_option maxRecDepth 20000 in
theorem ggL_law_X7_dispute_1 : GoodIn wsL_law wsX7_dispute_r1 := goodIn_r _ [296, 251, 799, 206, 291, 89, 211, 403, 98, 863, 864, 865, 5, 866, 216, 217, 218, 871, 872, 873, 874, 875, 876, 877] (by decide +kernel) (by decide +kernel)
set_option maxRecDepth 20000 in
theorem ggL_law_X7_dispute_2 : GoodIn wsL_law wsX7_dispute_r2 := goodIn_r _ [878, 929, 930, 931, 932, 830, 831, 832, 407, 408, 409, 410, 223, 224, 225, 226, 227, 90, 800, 801, 802, 803, 637, 92] (by decide +kernel) (by decide +kernel)
set_option maxRecDepth 20000 in
theorem ggL_law_X7_dispute_3 : GoodIn wsL_law wsX7_dispute_r3 := goodIn_r _ [804, 640, 641, 642, 643, 644, 94, 645, 638, 97, 95, 96, 646, 647, 648, 649, 650, 651, 652, 653, 654, 655, 656, 657] (by decide +kernel) (by decide +kernel)
set_option maxRecDepth 20000 in
theorem ggL_law_X7_dispute_4 : GoodIn wsL_law wsX7_dispute_r4 := goodIn_r _ [658, 659, 660, 661, 662, 663, 664, 665, 666, 93, 667, 668, 669, 670, 671, 672, 673, 674, 675, 676, 677, 678, 933, 934] (by decide +kernel) (by decide +kernel)
set_option maxRecDepth 20000 in
theorem ggL_law_X7_dispute_5 : GoodIn wsL_law wsX7_dispute_r5 := goodIn_r _ [935, 936, 805, 806, 807, 808, 212, 354, 99, 809, 810, 811, 812, 102, 813, 814, 815, 816, 817, 818, 819, 411, 412, 413] (by decide +kernel) (by decide +kernel)
set_option maxRecDepth 20000 in
theorem ggL_law_X7_dispute_6 : GoodIn wsL_law wsX7_dispute_r6 := goodIn_r _ [820, 821, 822, 823, 824, 825, 826, 827, 828, 829, 101, 301, 302, 303] (by decide +kernel) (by decide +kernel)
set_option maxRecDepth 20000 in
theorem ggL_law_X7_dispute_t : GoodIn wsL_law wsX70 := goodIn_r _ [1083, 1084, 1085, 1086, 1087, 1088, 1089, 1090, 1091, 1092, 1093, 1094, 1095, 1096, 1097, 1098, 1099, 1100, 1101] (by decide +kernel) (by decide +kernel)
set_option maxRecDepth 20000 in
theorem ggL_law_X7_dispute : GoodIn wsL_law wsX7_dispute := goodIn_app (a := [.code yX7_dispute cX7_dispute 6 (some .int)]) ggL_law_X7_dispute_c (goodIn_app (goodIn_app ggL_law_X7_dispute_1 (goodIn_app ggL_law_X7_dispute_2 (goodIn_app ggL_law_X7_dispute_3 (goodIn_app ggL_law_X7_dispute_4 (goodIn_app ggL_law_X7_dispute_5 ggL_law_X7_dispute_6))))) ggL_law_X7_dispute_t)
set_option maxRecDepth 20000 in
theorem gL_law_X7_dispute : GoodIn wsL_law (wsV RL 111 RX7 yX7_dispute wsX7_dispute) := goodIn_app (goodIn_of _ (by decide +kernel)) ggL_law_X7_dispute
set_option maxRecDepth 20000 in
theorem ggL_law_X6_settle_c : GoodIn wsL_law [.code yX6_settle cX6_settle 3 (some .int)] := goodIn_r _ [940] (by decide +kernel) (by decide +kernel)
set_option maxRecDepth 20000 in
theorem ggL_law_X6_settle_1 : GoodIn wsL_law wsX6_settle_r1 := goodIn_r _ [15, 857, 113, 257, 849, 850, 851, 25, 852, 83, 733, 728, 729, 730, 70, 71, 72, 125, 126, 127, 2, 128, 129, 16] (by decide +kernel) (by decide +kernel)
set_option maxRecDepth 20000 in
theorem ggL_law_X6_settle_2 : GoodIn wsL_law wsX6_settle_r2 := goodIn_r _ [130, 131, 132, 133, 14, 134, 33, 37, 41, 43, 44, 45, 135, 136, 137, 32, 138, 49, 139, 140, 141, 142, 143, 144] (by decide +kernel) (by decide +kernel)
set_option maxRecDepth 20000 in
theorem ggL_law_X6_settle_3 : GoodIn wsL_law wsX6_settle_r3 := goodIn_r _ [145, 146, 147, 148, 149, 122, 123, 124, 150, 151, 152, 36, 153, 53, 116, 117, 154, 155, 156, 157, 158, 159, 160, 161] (by decide +kernel) (by decide +kernel)
set_option maxRecDepth 20000 in
theorem ggL_law_X6_settle_4 : GoodIn wsL_law wsX6_settle_r4 := goodIn_r _ [54, 162, 163, 164, 165, 166, 167, 168, 169, 55, 170, 171, 172, 173, 174, 175, 176, 177, 56, 178, 179, 180, 181, 182] (by decide +kernel) (by decide +kernel)
set_option maxRecDepth 20000 in
theorem ggL_law_X6_settle_5 : GoodIn wsL_law wsX6_settle_r5 := goodIn_r _ [183, 184, 40, 185, 61, 186, 187, 188, 189, 190, 191, 68, 192, 193, 194, 195, 196, 197, 720, 626, 627, 628, 941, 942] (by decide +kernel) (by decide +kernel)
set_option maxRecDepth 20000 in
theorem ggL_law_X6_settle_6 : GoodIn wsL_law wsX6_settle_r6 := goodIn_r _ [943, 944, 704, 918, 919, 920, 921, 922, 923, 924] (by decide +kernel) (by decide +kernel)
set_option maxRecDepth 20000 in
theorem ggL_law_X6_settle_t : GoodIn wsL_law wsX20 := goodIn_r _ [1075, 1076, 1077, 1078, 1079, 1080, 1081, 1082, 1102, 1103, 1104, 1105, 1106, 1107, 1117, 1118, 1119, 1120, 1121, 1122, 1123, 1124, 1125, 1126, 1127, 1128, 1129, 1130, 1131, 1132, 1133, 1134, 1135, 1136] (by decide +kernel) (by decide +kernel)
set_option maxRecDepth 20000 in
theorem ggL_law_X6_settle : GoodIn wsL_law wsX6_settle := goodIn_app (a := [.code yX6_settle cX6_settle 3 (some .int)]) ggL_law_X6_settle_c (goodIn_app (goodIn_app ggL_law_X6_settle_1 (goodIn_app ggL_law_X6_settle_2 (goodIn_app ggL_law_X6_settle_3 (goodIn_app ggL_law_X6_settle_4 (goodIn_app ggL_law_X6_settle_5 ggL_law_X6_settle_6))))) ggL_law_X6_settle_t)
set_option maxRecDepth 20000 in
theorem gL_law_X6_settle : GoodIn wsL_law (wsV RL 112 RX6 yX6_settle wsX6_settle) := goodIn_app (goodIn_of _ (by decide +kernel)) ggL_law_X6_settle
set_option maxRecDepth 20000 in
theorem ggL_law_X7_settle : GoodIn wsL_law wsX7_settle := goodIn_r _ [948, 89, 206, 291, 354, 216, 217, 5, 218, 876, 877, 878, 223, 224, 225, 226, 227, 90, 830, 831, 832, 1083, 1084, 1085, 1086, 1087, 1088, 1089, 1090, 1091, 1092, 1093, 1094, 1095, 1096, 1097, 1098, 1099, 1100, 1101] (by decide +kernel) (by decide +kernel)
set_option maxRecDepth 20000 in
theorem gL_law_X7_settle : GoodIn wsL_law (wsV RL 116 RX7 yX7_settle wsX7_settle) := goodIn_app (goodIn_of _ (by decide +kernel)) ggL_law_X7_settle
set_option maxRecDepth 20000 in
theorem ggL_law_X6_note : GoodIn wsL_law wsX6_note := goodIn_r _ [952, 15, 857, 113, 849, 850, 851, 25, 852, 83, 118, 119, 2, 120, 733, 728, 729, 730, 70, 71, 72, 1075, 1076, 1077, 1078, 1079, 1080, 1081, 1082, 1102, 1103, 1104, 1105, 1106, 1107, 1117, 1118, 1119, 1120] (by decide +kernel) (by decide +kernel)
set_option maxRecDepth 20000 in
theorem gL_law_X6_note : GoodIn wsL_law (wsV RL 117 RX6 yX6_note wsX6_note) := goodIn_app (goodIn_of _ (by decide +kernel)) ggL_law_X6_note
set_option maxRecDepth 20000 in
theorem ggL_law_X7_note : GoodIn wsL_law wsX7_note := goodIn_r _ [956, 89, 104, 206, 216, 217, 5, 218, 876, 877, 878, 1083, 1084, 1085, 1086, 1087, 1088, 1089, 1090, 1091, 1092, 1093, 1094, 1095, 1096, 1097, 1098, 1099, 1100, 1101] (by decide +kernel) (by decide +kernel)
set_option maxRecDepth 20000 in
theorem gL_law_X7_note : GoodIn wsL_law (wsV RL 120 RX7 yX7_note wsX7_note) := goodIn_app (goodIn_of _ (by decide +kernel)) ggL_law_X7_note
set_option maxRecDepth 20000 in
theorem ggL_law_X6_notes : GoodIn wsL_law wsX6_notes := goodIn_r _ [960, 15, 857, 705, 1075, 1076, 1077, 1078, 1079, 1080, 1081, 1082, 1102, 1103, 1104, 1105, 1106, 1107, 1117, 1118, 1119, 1120] (by decide +kernel) (by decide +kernel)
set_option maxRecDepth 20000 in
theorem gL_law_X6_notes : GoodIn wsL_law (wsV RL 121 RX6 yX6_notes wsX6_notes) := goodIn_app (goodIn_of _ (by decide +kernel)) ggL_law_X6_notes
set_option maxRecDepth 20000 in
theorem ggL_law_X7_notes : GoodIn wsL_law wsX7_notes := goodIn_r _ [964, 89, 1083, 1084, 1085, 1086, 1087, 1088, 1089, 1090, 1091, 1092, 1093, 1094, 1095, 1096, 1097, 1098, 1099, 1100, 1101] (by decide +kernel) (by decide +kernel)
set_option maxRecDepth 20000 in
theorem gL_law_X7_notes : GoodIn wsL_law (wsV RL 124 RX7 yX7_notes wsX7_notes) := goodIn_app (goodIn_of _ (by decide +kernel)) ggL_law_X7_notes
set_option maxRecDepth 20000 in
theorem ggL_law_X6_sum : GoodIn wsL_law wsX6_sum := goodIn_r _ [968, 15, 704, 857, 969, 970, 971, 972, 25, 973, 83, 923, 728, 729, 730, 70, 71, 72, 974, 975, 976, 977, 1075, 1076, 1077, 1078, 1079, 1080, 1081, 1082, 1102, 1103, 1104, 1105, 1106, 1107, 1117, 1118, 1119, 1120] (by decide +kernel) (by decide +kernel)
set_option maxRecDepth 20000 in
theorem gL_law_X6_sum : GoodIn wsL_law (wsV RL 125 RX6 yX6_sum wsX6_sum) := goodIn_app (goodIn_of _ (by decide +kernel)) ggL_law_X6_sum
set_option maxRecDepth 20000 in
theorem ggL_law_X7_sum : GoodIn wsL_law wsX7_sum := goodIn_r _ [981, 982, 983, 216, 217, 5, 218, 984, 985, 986, 987, 89, 354, 830, 831, 832, 1083, 1084, 1085, 1086, 1087, 1088, 1089, 1090, 1091, 1092, 1093, 1094, 1095, 1096, 1097, 1098, 1099, 1100, 1101] (by decide +kernel) (by decide +kernel)
set_option maxRecDepth 20000 in
theorem gL_law_X7_sum : GoodIn wsL_law (wsV RL 129 RX7 yX7_sum wsX7_sum) := goodIn_app (goodIn_of _ (by decide +kernel)) ggL_law_X7_sum
set_option maxRecDepth 20000 in
theorem ggL_law_X6_lighter_c : GoodIn wsL_law [.code yX6_lighter cX6_lighter 6 (some .int)] := goodIn_r _ [991] (by decide +kernel) (by decide +kernel)
set_option maxRecDepth 20000 in
theorem ggL_law_X6_lighter_1 : GoodIn wsL_law wsX6_lighter_r1 := goodIn_r _ [15, 704, 113, 257, 26, 241, 858, 849, 850, 851, 25, 852, 83, 733, 728, 729, 730, 70, 71, 72, 713, 714, 715, 2] (by decide +kernel) (by decide +kernel)
set_option maxRecDepth 20000 in
theorem ggL_law_X6_lighter_2 : GoodIn wsL_law wsX6_lighter_r2 := goodIn_r _ [716, 382, 393, 155, 156, 36, 157, 53, 116, 117, 919, 920, 921, 922, 923, 924, 626, 627, 628, 837, 838, 839, 840, 721] (by decide +kernel) (by decide +kernel)
set_option maxRecDepth 20000 in
theorem ggL_law_X6_lighter_3 : GoodIn wsL_law wsX6_lighter_r3 := goodIn_r _ [722, 723, 14, 724, 725, 33, 726, 67, 68, 69, 37, 41, 727, 731, 732, 734, 122, 123, 32, 124, 49, 735, 736, 737] (by decide +kernel) (by decide +kernel)
set_option maxRecDepth 20000 in
theorem ggL_law_X6_lighter_4 : GoodIn wsL_law wsX6_lighter_r4 := goodIn_r _ [738, 739, 740, 741, 742, 743, 744, 745, 720, 746, 747, 748, 749, 750, 751, 388, 389, 390, 154, 158, 159, 160, 161, 54] (by decide +kernel) (by decide +kernel)
set_option maxRecDepth 20000 in
theorem ggL_law_X6_lighter_5 : GoodIn wsL_law wsX6_lighter_r5 := goodIn_r _ [162, 163, 164, 165, 166, 167, 168, 169, 55, 752, 753, 754, 755, 174, 175, 176, 177, 56, 756, 757, 758, 40, 759, 61] (by decide +kernel) (by decide +kernel)
set_option maxRecDepth 20000 in
theorem ggL_law_X6_lighter_6 : GoodIn wsL_law wsX6_lighter_r6 := goodIn_r _ [616, 760, 761, 762, 763, 764, 765, 766, 767, 768, 769, 770, 771, 772, 773, 774, 775, 776, 777, 778, 779, 780, 781, 782] (by decide +kernel) (by decide +kernel)
set_option maxRecDepth 20000 in
theorem ggL_law_X6_lighter_7 : GoodIn wsL_law wsX6_lighter_r7 := goodIn_r _ [783, 784, 785, 786, 787, 788, 789, 790, 992, 993, 994, 995, 996, 997, 998, 999, 1000, 1001, 1002, 1003, 1004, 1005, 687, 1006] (by decide +kernel) (by decide +kernel)
set_option maxRecDepth 20000 in
theorem ggL_law_X6_lighter_8 : GoodIn wsL_law wsX6_lighter_r8 := goodIn_r _ [1007, 1008] (by decide +kernel) (by decide +kernel)
set_option maxRecDepth 20000 in
theorem ggL_law_X6_lighter_t : GoodIn wsL_law wsX20 := goodIn_r _ [1075, 1076, 1077, 1078, 1079, 1080, 1081, 1082, 1102, 1103, 1104, 1105, 1106, 1107, 1117, 1118, 1119, 1120, 1132, 1133, 1134, 1135, 1121, 1122, 1123, 1124, 1125, 1126, 1127, 1128, 1129, 1130, 1131, 1136] (by decide +kernel) (by decide +kernel)
set_option maxRecDepth 20000 in
theorem ggL_law_X6_lighter : GoodIn wsL_law wsX6_lighter := goodIn_app (a := [.code yX6_lighter cX6_lighter 6 (some .int)]) ggL_law_X6_lighter_c (goodIn_app (goodIn_app ggL_law_X6_lighter_1 (goodIn_app ggL_law_X6_lighter_2 (goodIn_app ggL_law_X6_lighter_3 (goodIn_app ggL_law_X6_lighter_4 (goodIn_app ggL_law_X6_lighter_5 (goodIn_app ggL_law_X6_lighter_6 (goodIn_app ggL_law_X6_lighter_7 ggL_law_X6_lighter_8))))))) ggL_law_X6_lighter_t)
set_option maxRecDepth 20000 in
theorem gL_law_X6_lighter : GoodIn wsL_law (wsV RL 130 RX6 yX6_lighter wsX6_lighter) := goodIn_app (goodIn_of _ (by decide +kernel)) ggL_law_X6_lighter
set_option maxRecDepth 20000 in
theorem ggL_law_X7_lighter_c : GoodIn wsL_law [.code yX7_lighter cX7_lighter 2 (some .int)] := goodIn_r _ [1012] (by decide +kernel) (by decide +kernel)
set_option maxRecDepth 20000 in
theorem ggL_law_X7_lighter_1 : GoodIn wsL_law wsX7_lighter_r1 := goodIn_r _ [206, 863, 864, 865, 5, 866, 89, 216, 217, 218, 1013, 1014, 1015, 1016, 291, 875, 929, 930, 931, 932, 830, 831, 832, 407] (by decide +kernel) (by decide +kernel)
set_option maxRecDepth 20000 in
theorem ggL_law_X7_lighter_2 : GoodIn wsL_law wsX7_lighter_r2 := goodIn_r _ [408, 409, 410, 800, 801, 802, 803, 637, 92, 804, 640, 641, 642, 643, 644, 94, 645, 638, 97, 95, 96, 646, 647, 648] (by decide +kernel) (by decide +kernel)
set_option maxRecDepth 20000 in
theorem ggL_law_X7_lighter_3 : GoodIn wsL_law wsX7_lighter_r3 := goodIn_r _ [649, 650, 651, 652, 653, 654, 655, 656, 657, 658, 659, 660, 661, 662, 663, 664, 665, 666, 93, 667, 668, 669, 670, 671] (by decide +kernel) (by decide +kernel)
set_option maxRecDepth 20000 in
theorem ggL_law_X7_lighter_4 : GoodIn wsL_law wsX7_lighter_r4 := goodIn_r _ [672, 673, 674, 675, 676, 677, 678, 933, 934, 935, 936, 805, 806, 807, 808, 98, 212, 354, 296, 99, 809, 810, 811, 812] (by decide +kernel) (by decide +kernel)
set_option maxRecDepth 20000 in
theorem ggL_law_X7_lighter_5 : GoodIn wsL_law wsX7_lighter_r5 := goodIn_r _ [102, 813, 814, 815, 816, 817, 818, 819, 211, 411, 412, 413, 820, 821, 822, 823, 824, 825, 826, 827, 828, 829, 101, 301] (by decide +kernel) (by decide +kernel)
set_option maxRecDepth 20000 in
theorem ggL_law_X7_lighter_6 : GoodIn wsL_law wsX7_lighter_r6 := goodIn_r _ [302, 303] (by decide +kernel) (by decide +kernel)
set_option maxRecDepth 20000 in
theorem ggL_law_X7_lighter_t : GoodIn wsL_law wsX70 := goodIn_r _ [1083, 1084, 1085, 1086, 1087, 1088, 1089, 1090, 1091, 1092, 1093, 1094, 1095, 1096, 1097, 1098, 1099, 1100, 1101] (by decide +kernel) (by decide +kernel)
set_option maxRecDepth 20000 in
theorem ggL_law_X7_lighter : GoodIn wsL_law wsX7_lighter := goodIn_app (a := [.code yX7_lighter cX7_lighter 2 (some .int)]) ggL_law_X7_lighter_c (goodIn_app (goodIn_app ggL_law_X7_lighter_1 (goodIn_app ggL_law_X7_lighter_2 (goodIn_app ggL_law_X7_lighter_3 (goodIn_app ggL_law_X7_lighter_4 (goodIn_app ggL_law_X7_lighter_5 ggL_law_X7_lighter_6))))) ggL_law_X7_lighter_t)
set_option maxRecDepth 20000 in
theorem gL_law_X7_lighter : GoodIn wsL_law (wsV RL 133 RX7 yX7_lighter wsX7_lighter) := goodIn_app (goodIn_of _ (by decide +kernel)) ggL_law_X7_lighter
set_option maxRecDepth 20000 in
theorem ggL_law_X6_shorter_c : GoodIn wsL_law [.code yX6_shorter cX6_shorter 6 (some .int)] := goodIn_r _ [1020] (by decide +kernel) (by decide +kernel)
set_option maxRecDepth 20000 in
theorem ggL_law_X6_shorter_1 : GoodIn wsL_law wsX6_shorter_r1 := goodIn_r _ [15, 704, 113, 257, 26, 858, 849, 850, 851, 25, 852, 83, 118, 119, 2, 120, 733, 728, 729, 730, 70, 71, 72, 713] (by decide +kernel) (by decide +kernel)
set_option maxRecDepth 20000 in
theorem ggL_law_X6_shorter_2 : GoodIn wsL_law wsX6_shorter_r2 := goodIn_r _ [714, 715, 716, 382, 393, 155, 156, 36, 157, 53, 116, 117, 919, 920, 921, 922, 923, 924, 626, 627, 628, 837, 838, 839] (by decide +kernel) (by decide +kernel)
set_option maxRecDepth 20000 in
theorem ggL_law_X6_shorter_3 : GoodIn wsL_law wsX6_shorter_r3 := goodIn_r _ [840, 721, 722, 723, 14, 724, 725, 33, 726, 67, 68, 69, 37, 41, 727, 731, 732, 734, 122, 123, 32, 124, 49, 735] (by decide +kernel) (by decide +kernel)
set_option maxRecDepth 20000 in
theorem ggL_law_X6_shorter_4 : GoodIn wsL_law wsX6_shorter_r4 := goodIn_r _ [736, 737, 738, 739, 740, 741, 742, 743, 744, 745, 720, 746, 747, 748, 749, 750, 751, 388, 389, 390, 154, 158, 159, 160] (by decide +kernel) (by decide +kernel)
set_option maxRecDepth 20000 in
theorem ggL_law_X6_shorter_5 : GoodIn wsL_law wsX6_shorter_r5 := goodIn_r _ [161, 54, 162, 163, 164, 165, 166, 167, 168, 169, 55, 752, 753, 754, 755, 174, 175, 176, 177, 56, 756, 757, 758, 40] (by decide +kernel) (by decide +kernel)
set_option maxRecDepth 20000 in
theorem ggL_law_X6_shorter_6 : GoodIn wsL_law wsX6_shorter_r6 := goodIn_r _ [759, 61, 616, 760, 761, 762, 763, 764, 765, 766, 767, 768, 769, 770, 771, 772, 773, 774, 775, 776, 777, 778, 779, 780] (by decide +kernel) (by decide +kernel)
set_option maxRecDepth 20000 in
theorem ggL_law_X6_shorter_7 : GoodIn wsL_law wsX6_shorter_r7 := goodIn_r _ [781, 782, 783, 784, 785, 786, 787, 788, 789, 790] (by decide +kernel) (by decide +kernel)
set_option maxRecDepth 20000 in
theorem ggL_law_X6_shorter_t : GoodIn wsL_law wsX20 := goodIn_r _ [1075, 1076, 1077, 1078, 1079, 1080, 1081, 1082, 1102, 1103, 1104, 1105, 1106, 1107, 1117, 1118, 1119, 1120, 1132, 1133, 1134, 1135, 1121, 1122, 1123, 1124, 1125, 1126, 1127, 1128, 1129, 1130, 1131, 1136] (by decide +kernel) (by decide +kernel)
set_option maxRecDepth 20000 in
theorem ggL_law_X6_shorter : GoodIn wsL_law wsX6_shorter := goodIn_app (a := [.code yX6_shorter cX6_shorter 6 (some .int)]) ggL_law_X6_shorter_c (goodIn_app (goodIn_app ggL_law_X6_shorter_1 (goodIn_app ggL_law_X6_shorter_2 (goodIn_app ggL_law_X6_shorter_3 (goodIn_app ggL_law_X6_shorter_4 (goodIn_app ggL_law_X6_shorter_5 (goodIn_app ggL_law_X6_shorter_6 ggL_law_X6_shorter_7)))))) ggL_law_X6_shorter_t)
set_option maxRecDepth 20000 in
theorem gL_law_X6_shorter : GoodIn wsL_law (wsV RL 134 RX6 yX6_shorter wsX6_shorter) := goodIn_app (goodIn_of _ (by decide +kernel)) ggL_law_X6_shorter
set_option maxRecDepth 20000 in
theorem ggL_law_X7_shorter_c : GoodIn wsL_law [.code yX7_shorter cX7_shorter 3 (some .int)] := goodIn_r _ [1024] (by decide +kernel) (by decide +kernel)
set_option maxRecDepth 20000 in
theorem ggL_law_X7_shorter_1 : GoodIn wsL_law wsX7_shorter_r1 := goodIn_r _ [296, 206, 863, 864, 865, 5, 866, 89, 216, 217, 218, 1013, 1014, 1015, 1016, 291, 875, 929, 930, 931, 932, 830, 831, 832] (by decide +kernel) (by decide +kernel)
set_option maxRecDepth 20000 in
theorem ggL_law_X7_shorter_2 : GoodIn wsL_law wsX7_shorter_r2 := goodIn_r _ [407, 408, 409, 410, 800, 801, 802, 803, 637, 92, 804, 640, 641, 642, 643, 644, 94, 645, 638, 97, 95, 96, 646, 647] (by decide +kernel) (by decide +kernel)
set_option maxRecDepth 20000 in
theorem ggL_law_X7_shorter_3 : GoodIn wsL_law wsX7_shorter_r3 := goodIn_r _ [648, 649, 650, 651, 652, 653, 654, 655, 656, 657, 658, 659, 660, 661, 662, 663, 664, 665, 666, 93, 667, 668, 669, 670] (by decide +kernel) (by decide +kernel)
set_option maxRecDepth 20000 in
theorem ggL_law_X7_shorter_4 : GoodIn wsL_law wsX7_shorter_r4 := goodIn_r _ [671, 672, 673, 674, 675, 676, 677, 678, 933, 934, 935, 936, 805, 806, 807, 808, 98, 212, 354, 99, 809, 810, 811, 812] (by decide +kernel) (by decide +kernel)
set_option maxRecDepth 20000 in
theorem ggL_law_X7_shorter_5 : GoodIn wsL_law wsX7_shorter_r5 := goodIn_r _ [102, 813, 814, 815, 816, 817, 818, 819, 211, 411, 412, 413, 820, 821, 822, 823, 824, 825, 826, 827, 828, 829, 101, 301] (by decide +kernel) (by decide +kernel)
set_option maxRecDepth 20000 in
theorem ggL_law_X7_shorter_6 : GoodIn wsL_law wsX7_shorter_r6 := goodIn_r _ [302, 303] (by decide +kernel) (by decide +kernel)
set_option maxRecDepth 20000 in
theorem ggL_law_X7_shorter_t : GoodIn wsL_law wsX70 := goodIn_r _ [1083, 1084, 1085, 1086, 1087, 1088, 1089, 1090, 1091, 1092, 1093, 1094, 1095, 1096, 1097, 1098, 1099, 1100, 1101] (by decide +kernel) (by decide +kernel)
set_option maxRecDepth 20000 in
theorem ggL_law_X7_shorter : GoodIn wsL_law wsX7_shorter := goodIn_app (a := [.code yX7_shorter cX7_shorter 3 (some .int)]) ggL_law_X7_shorter_c (goodIn_app (goodIn_app ggL_law_X7_shorter_1 (goodIn_app ggL_law_X7_shorter_2 (goodIn_app ggL_law_X7_shorter_3 (goodIn_app ggL_law_X7_shorter_4 (goodIn_app ggL_law_X7_shorter_5 ggL_law_X7_shorter_6))))) ggL_law_X7_shorter_t)
set_option maxRecDepth 20000 in
theorem gL_law_X7_shorter : GoodIn wsL_law (wsV RL 137 RX7 yX7_shorter wsX7_shorter) := goodIn_app (goodIn_of _ (by decide +kernel)) ggL_law_X7_shorter
set_option maxRecDepth 20000 in
theorem ggL_law_X6_cheapest_c : GoodIn wsL_law [.code yX6_cheapest cX6_cheapest 6 (some .int)] := goodIn_r _ [1028] (by decide +kernel) (by decide +kernel)
set_option maxRecDepth 20000 in
theorem ggL_law_X6_cheapest_1 : GoodIn wsL_law wsX6_cheapest_r1 := goodIn_r _ [15, 704, 113, 26, 858, 849, 850, 851, 25, 852, 83, 919, 920, 921, 922, 71, 923, 728, 729, 730, 70, 72, 924, 626] (by decide +kernel) (by decide +kernel)
set_option maxRecDepth 20000 in
theorem ggL_law_X6_cheapest_2 : GoodIn wsL_law wsX6_cheapest_r2 := goodIn_r _ [627, 628, 713, 714, 715, 2, 716, 382, 393, 155, 156, 36, 157, 53, 116, 117, 720, 837, 838, 839, 840, 721, 722, 723] (by decide +kernel) (by decide +kernel)
set_option maxRecDepth 20000 in
theorem ggL_law_X6_cheapest_3 : GoodIn wsL_law wsX6_cheapest_r3 := goodIn_r _ [14, 724, 725, 33, 726, 67, 68, 69, 37, 41, 727, 731, 732, 733, 734, 122, 123, 32, 124, 49, 735, 736, 737, 738] (by decide +kernel) (by decide +kernel)
set_option maxRecDepth 20000 in
theorem ggL_law_X6_cheapest_4 : GoodIn wsL_law wsX6_cheapest_r4 := goodIn_r _ [739, 740, 741, 742, 743, 744, 745, 746, 747, 748, 749, 750, 751, 388, 389, 390, 154, 158, 159, 160, 161, 54, 162, 163] (by decide +kernel) (by decide +kernel)
set_option maxRecDepth 20000 in
theorem ggL_law_X6_cheapest_5 : GoodIn wsL_law wsX6_cheapest_r5 := goodIn_r _ [164, 165, 166, 167, 168, 169, 55, 752, 753, 754, 755, 174, 175, 176, 177, 56, 756, 757, 758, 40, 759, 61, 616, 760] (by decide +kernel) (by decide +kernel)
set_option maxRecDepth 20000 in
theorem ggL_law_X6_cheapest_6 : GoodIn wsL_law wsX6_cheapest_r6 := goodIn_r _ [761, 762, 763, 764, 765, 766, 767, 768, 769, 770, 771, 772, 773, 774, 775, 776, 777, 778, 779, 780, 781, 782, 783, 784] (by decide +kernel) (by decide +kernel)
set_option maxRecDepth 20000 in
theorem ggL_law_X6_cheapest_7 : GoodIn wsL_law wsX6_cheapest_r7 := goodIn_r _ [785, 786, 787, 788, 789, 790] (by decide +kernel) (by decide +kernel)
set_option maxRecDepth 20000 in
theorem ggL_law_X6_cheapest_t : GoodIn wsL_law wsX20 := goodIn_r _ [1075, 1076, 1077, 1078, 1079, 1080, 1081, 1082, 1102, 1103, 1104, 1105, 1106, 1107, 1117, 1118, 1119, 1120, 1132, 1133, 1134, 1135, 1121, 1122, 1123, 1124, 1125, 1126, 1127, 1128, 1129, 1130, 1131, 1136] (by decide +kernel) (by decide +kernel)
set_option maxRecDepth 20000 in
theorem ggL_law_X6_cheapest : GoodIn wsL_law wsX6_cheapest := goodIn_app (a := [.code yX6_cheapest cX6_cheapest 6 (some .int)]) ggL_law_X6_cheapest_c (goodIn_app (goodIn_app ggL_law_X6_cheapest_1 (goodIn_app ggL_law_X6_cheapest_2 (goodIn_app ggL_law_X6_cheapest_3 (goodIn_app ggL_law_X6_cheapest_4 (goodIn_app ggL_law_X6_cheapest_5 (goodIn_app ggL_law_X6_cheapest_6 ggL_law_X6_cheapest_7)))))) ggL_law_X6_cheapest_t)
set_option maxRecDepth 20000 in
theorem gL_law_X6_cheapest : GoodIn wsL_law (wsV RL 138 RX6 yX6_cheapest wsX6_cheapest) := goodIn_app (goodIn_of _ (by decide +kernel)) ggL_law_X6_cheapest
set_option maxRecDepth 20000 in
theorem ggL_law_X7_cheapest_c : GoodIn wsL_law [.code yX7_cheapest cX7_cheapest 8 (some .int)] := goodIn_r _ [1032] (by decide +kernel) (by decide +kernel)
set_option maxRecDepth 20000 in
theorem ggL_law_X7_cheapest_1 : GoodIn wsL_law wsX7_cheapest_r1 := goodIn_r _ [206, 875, 89, 863, 864, 865, 5, 866, 216, 217, 218, 800, 801, 802, 803, 637, 92, 804, 640, 641, 642, 643, 644, 94] (by decide +kernel) (by decide +kernel)
set_option maxRecDepth 20000 in
theorem ggL_law_X7_cheapest_2 : GoodIn wsL_law wsX7_cheapest_r2 := goodIn_r _ [645, 638, 97, 95, 96, 646, 647, 648, 649, 650, 651, 652, 653, 654, 655, 656, 657, 658, 659, 660, 661, 662, 663, 664] (by decide +kernel) (by decide +kernel)
set_option maxRecDepth 20000 in
theorem ggL_law_X7_cheapest_3 : GoodIn wsL_law wsX7_cheapest_r3 := goodIn_r _ [665, 666, 93, 667, 668, 669, 670, 671, 672, 673, 674, 675, 676, 677, 678, 407, 408, 409, 410, 830, 831, 832, 805, 806] (by decide +kernel) (by decide +kernel)
set_option maxRecDepth 20000 in
theorem ggL_law_X7_cheapest_4 : GoodIn wsL_law wsX7_cheapest_r4 := goodIn_r _ [807, 808, 98, 212, 354, 296, 99, 809, 810, 811, 812, 102, 813, 814, 815, 816, 817, 818, 819, 211, 411, 412, 413, 820] (by decide +kernel) (by decide +kernel)
set_option maxRecDepth 20000 in
theorem ggL_law_X7_cheapest_5 : GoodIn wsL_law wsX7_cheapest_r5 := goodIn_r _ [821, 822, 823, 824, 825, 826, 827, 828, 829, 101, 301, 302, 303] (by decide +kernel) (by decide +kernel)
set_option maxRecDepth 20000 in
theorem ggL_law_X7_cheapest_t : GoodIn wsL_law wsX70 := goodIn_r _ [1083, 1084, 1085, 1086, 1087, 1088, 1089, 1090, 1091, 1092, 1093, 1094, 1095, 1096, 1097, 1098, 1099, 1100, 1101] (by decide +kernel) (by decide +kernel)
set_option maxRecDepth 20000 in
theorem ggL_law_X7_cheapest : GoodIn wsL_law wsX7_cheapest := goodIn_app (a := [.code yX7_cheapest cX7_cheapest 8 (some .int)]) ggL_law_X7_cheapest_c (goodIn_app (goodIn_app ggL_law_X7_cheapest_1 (goodIn_app ggL_law_X7_cheapest_2 (goodIn_app ggL_law_X7_cheapest_3 (goodIn_app ggL_law_X7_cheapest_4 ggL_law_X7_cheapest_5)))) ggL_law_X7_cheapest_t)
set_option maxRecDepth 20000 in
theorem gL_law_X7_cheapest : GoodIn wsL_law (wsV RL 141 RX7 yX7_cheapest wsX7_cheapest) := goodIn_app (goodIn_of _ (by decide +kernel)) ggL_law_X7_cheapest
set_option maxRecDepth 20000 in
theorem ggL_law_X6_undo_c : GoodIn wsL_law [.code yX6_undo cX6_undo 1 (some .int)] := goodIn_r _ [1036] (by decide +kernel) (by decide +kernel)
set_option maxRecDepth 20000 in
theorem ggL_law_X6_undo_1 : GoodIn wsL_law wsX6_undo_r1 := goodIn_r _ [130, 858, 129, 16, 15, 131, 132, 133, 14, 134, 33, 37, 41, 43, 44, 45, 135, 136, 137, 32, 138, 49, 139, 140] (by decide +kernel) (by decide +kernel)
set_option maxRecDepth 20000 in
theorem ggL_law_X6_undo_2 : GoodIn wsL_law wsX6_undo_r2 := goodIn_r _ [141, 142, 143, 144, 145, 146, 147, 148, 149, 122, 123, 124, 150, 151, 152, 36, 153, 53, 116, 2, 117, 154, 155, 156] (by decide +kernel) (by decide +kernel)
set_option maxRecDepth 20000 in
theorem ggL_law_X6_undo_3 : GoodIn wsL_law wsX6_undo_r3 := goodIn_r _ [157, 158, 159, 160, 161, 54, 162, 163, 164, 165, 166, 167, 168, 169, 55, 170, 171, 172, 173, 174, 175, 176, 177, 56] (by decide +kernel) (by decide +kernel)
set_option maxRecDepth 20000 in
theorem ggL_law_X6_undo_4 : GoodIn wsL_law wsX6_undo_r4 := goodIn_r _ [178, 179, 180, 181, 182, 183, 184, 40, 185, 61, 186, 187, 188, 25, 189, 83, 71, 72, 190, 191, 68, 192, 193, 194] (by decide +kernel) (by decide +kernel)
set_option maxRecDepth 20000 in
theorem ggL_law_X6_undo_5 : GoodIn wsL_law wsX6_undo_r5 := goodIn_r _ [195, 196, 197] (by decide +kernel) (by decide +kernel)
set_option maxRecDepth 20000 in
theorem ggL_law_X6_undo_t : GoodIn wsL_law wsX50 := goodIn_r _ [1075, 1076, 1077, 1078, 1079, 1080, 1081, 1082, 1102, 1103, 1104, 1105, 1106, 1107, 1121, 1122, 1123, 1124, 1125, 1126, 1127, 1128, 1129, 1130, 1131, 1132, 1133, 1134, 1135, 1136, 1117, 1118, 1119, 1120] (by decide +kernel) (by decide +kernel)
set_option maxRecDepth 20000 in
theorem ggL_law_X6_undo : GoodIn wsL_law wsX6_undo := goodIn_app (a := [.code yX6_undo cX6_undo 1 (some .int)]) ggL_law_X6_undo_c (goodIn_app (goodIn_app ggL_law_X6_undo_1 (goodIn_app ggL_law_X6_undo_2 (goodIn_app ggL_law_X6_undo_3 (goodIn_app ggL_law_X6_undo_4 ggL_law_X6_undo_5)))) ggL_law_X6_undo_t)
set_option maxRecDepth 20000 in
theorem gL_law_X6_undo : GoodIn wsL_law (wsV RL 142 RX6 yX6_undo wsX6_undo) := goodIn_app (goodIn_of _ (by decide +kernel)) ggL_law_X6_undo
set_option maxRecDepth 20000 in
theorem ggL_law_X7_undo : GoodIn wsL_law wsX7_undo := goodIn_r _ [1040, 227, 875, 89, 90, 1083, 1084, 1085, 1086, 1087, 1088, 1089, 1090, 1091, 1092, 1093, 1094, 1095, 1096, 1097, 1098, 1099, 1100, 1101] (by decide +kernel) (by decide +kernel)
set_option maxRecDepth 20000 in
theorem gL_law_X7_undo : GoodIn wsL_law (wsV RL 145 RX7 yX7_undo wsX7_undo) := goodIn_app (goodIn_of _ (by decide +kernel)) ggL_law_X7_undo
set_option maxRecDepth 20000 in
theorem ggL_law_X6_fingerprint_c : GoodIn wsL_law [.code yX6_fingerprint cX6_fingerprint 4 (some .long)] := goodIn_r _ [1044] (by decide +kernel) (by decide +kernel)
set_option maxRecDepth 20000 in
theorem ggL_law_X6_fingerprint_1 : GoodIn wsL_law wsX6_fingerprint_r1 := goodIn_r _ [1045, 111, 1046, 1047, 229, 230, 2, 231, 15, 114, 113, 115, 116, 117, 121, 122, 123, 32, 124, 49, 1048, 356, 357, 358] (by decide +kernel) (by decide +kernel)
set_option maxRecDepth 20000 in
theorem ggL_law_X6_fingerprint_2 : GoodIn wsL_law wsX6_fingerprint_r2 := goodIn_r _ [118, 119, 120, 359, 360, 361, 362, 140, 141, 142, 143, 144, 139, 262, 263, 264, 265, 149, 266, 267, 268, 269, 363, 339] (by decide +kernel) (by decide +kernel)
set_option maxRecDepth 20000 in
theorem ggL_law_X6_fingerprint_3 : GoodIn wsL_law wsX6_fingerprint_r3 := goodIn_r _ [340, 341, 364, 365, 366, 367, 368, 314, 315, 316, 146, 147, 148, 317, 67, 68, 69, 274, 191, 192, 145, 369, 335, 336] (by decide +kernel) (by decide +kernel)
set_option maxRecDepth 20000 in
theorem ggL_law_X6_fingerprint_4 : GoodIn wsL_law wsX6_fingerprint_r4 := goodIn_r _ [337, 282, 283, 284, 285, 1049, 1050, 1051, 1052, 382, 393, 155, 156, 36, 157, 53, 1053, 427, 428, 429, 391, 163, 164, 165] (by decide +kernel) (by decide +kernel)
set_option maxRecDepth 20000 in
theorem ggL_law_X6_fingerprint_5 : GoodIn wsL_law wsX6_fingerprint_r5 := goodIn_r _ [392, 159, 160, 161, 54, 162, 430, 167, 168, 169, 55, 439, 175, 176, 177, 56, 1054, 693, 694, 695, 470, 612, 613, 614] (by decide +kernel) (by decide +kernel)
set_option maxRecDepth 20000 in
theorem ggL_law_X6_fingerprint_6 : GoodIn wsL_law wsX6_fingerprint_r6 := goodIn_r _ [40, 615, 61, 616, 1055, 1056, 1057, 1058, 704, 1059, 892, 893, 894, 705, 1060, 846, 847, 848, 849, 850, 851, 25, 852, 83] (by decide +kernel) (by decide +kernel)
set_option maxRecDepth 20000 in
theorem ggL_law_X6_fingerprint_7 : GoodIn wsL_law wsX6_fingerprint_r7 := goodIn_r _ [853, 854, 855, 856, 857, 858, 733, 728, 729, 730, 70, 71, 72, 1061, 880, 881, 882, 1062, 1063, 1064, 1065, 1066, 958, 959] (by decide +kernel) (by decide +kernel)
set_option maxRecDepth 20000 in
theorem ggL_law_X6_fingerprint_8 : GoodIn wsL_law wsX6_fingerprint_r8 := goodIn_r _ [960, 1067, 950, 951, 952, 1068, 966, 967, 968, 969, 970, 971, 972, 973, 923, 974, 975, 976, 977] (by decide +kernel) (by decide +kernel)
set_option maxRecDepth 20000 in
theorem ggL_law_X6_fingerprint_t : GoodIn wsL_law wsX50 := goodIn_r _ [1075, 1076, 1077, 1078, 1079, 1080, 1081, 1082, 1102, 1103, 1104, 1105, 1106, 1107, 1121, 1122, 1123, 1124, 1125, 1126, 1127, 1128, 1129, 1130, 1131, 1132, 1133, 1134, 1135, 1136, 1117, 1118, 1119, 1120] (by decide +kernel) (by decide +kernel)
set_option maxRecDepth 20000 in
theorem ggL_law_X6_fingerprint : GoodIn wsL_law wsX6_fingerprint := goodIn_app (a := [.code yX6_fingerprint cX6_fingerprint 4 (some .long)]) ggL_law_X6_fingerprint_c (goodIn_app (goodIn_app ggL_law_X6_fingerprint_1 (goodIn_app ggL_law_X6_fingerprint_2 (goodIn_app ggL_law_X6_fingerprint_3 (goodIn_app ggL_law_X6_fingerprint_4 (goodIn_app ggL_law_X6_fingerprint_5 (goodIn_app ggL_law_X6_fingerprint_6 (goodIn_app ggL_law_X6_fingerprint_7 ggL_law_X6_fingerprint_8))))))) ggL_law_X6_fingerprint_t)
set_option maxRecDepth 20000 in
theorem gL_law_X6_fingerprint : GoodIn wsL_law (wsV RL 146 RX6 yX6_fingerprint wsX6_fingerprint) := goodIn_app (goodIn_of _ (by decide +kernel)) ggL_law_X6_fingerprint
set_option maxRecDepth 20000 in
theorem ggL_law_X7_fingerprint_c : GoodIn wsL_law [.code yX7_fingerprint cX7_fingerprint 5 (some .long)] := goodIn_r _ [1072] (by decide +kernel) (by decide +kernel)
set_option maxRecDepth 20000 in
theorem ggL_law_X7_fingerprint_1 : GoodIn wsL_law wsX7_fingerprint_r1 := goodIn_r _ [1073, 1074, 89, 875, 374, 375, 376, 5, 377, 297, 298, 299, 300, 212, 301, 302, 303, 350, 351, 352, 353, 354, 326, 327] (by decide +kernel) (by decide +kernel)
set_option maxRecDepth 20000 in
theorem ggL_law_X7_fingerprint_2 : GoodIn wsL_law wsX7_fingerprint_r2 := goodIn_r _ [328, 329, 296, 346, 347, 348, 349, 407, 408, 409, 410, 411, 412, 413, 867, 868, 869, 870, 830, 831, 832, 820, 821, 822] (by decide +kernel) (by decide +kernel)
set_option maxRecDepth 20000 in
theorem ggL_law_X7_fingerprint_3 : GoodIn wsL_law wsX7_fingerprint_r3 := goodIn_r _ [823, 824, 825, 871, 872, 873, 874, 876, 877, 878, 887, 888, 889, 890, 984, 985, 986, 987] (by decide +kernel) (by decide +kernel)
set_option maxRecDepth 20000 in
theorem ggL_law_X7_fingerprint_t : GoodIn wsL_law wsX70 := goodIn_r _ [1083, 1084, 1085, 1086, 1087, 1088, 1089, 1090, 1091, 1092, 1093, 1094, 1095, 1096, 1097, 1098, 1099, 1100, 1101] (by decide +kernel) (by decide +kernel)
set_option maxRecDepth 20000 in
theorem ggL_law_X7_fingerprint : GoodIn wsL_law wsX7_fingerprint := goodIn_app (a := [.code yX7_fingerprint cX7_fingerprint 5 (some .long)]) ggL_law_X7_fingerprint_c (goodIn_app (goodIn_app ggL_law_X7_fingerprint_1 (goodIn_app ggL_law_X7_fingerprint_2 ggL_law_X7_fingerprint_3)) ggL_law_X7_fingerprint_t)
set_option maxRecDepth 20000 in
theorem gL_law_X7_fingerprint : GoodIn wsL_law (wsV RL 150 RX7 yX7_fingerprint wsX7_fingerprint) := goodIn_app (goodIn_of _ (by decide +kernel)) ggL_law_X7_fingerprint
theorem dL_law_0 : decode cL_law 0 = .ok (.new 7, 3) := by decide +kernel
theorem dL_law_3 : decode cL_law 3 = .ok (.dup, 1) := by decide +kernel
theorem dL_law_4 : decode cL_law 4 = .ok (.invokespecial 9, 3) := by decide +kernel
theorem dL_law_7 : decode cL_law 7 = .ok (.astore_n 1, 1) := by decide +kernel
theorem dL_law_8 : decode cL_law 8 = .ok (.new 10, 3) := by decide +kernel
theorem dL_law_11 : decode cL_law 11 = .ok (.dup, 1) := by decide +kernel
theorem dL_law_12 : decode cL_law 12 = .ok (.invokespecial 12, 3) := by decide +kernel
theorem dL_law_15 : decode cL_law 15 = .ok (.astore_n 2, 1) := by decide +kernel
theorem dL_law_16 : decode cL_law 16 = .ok (.iconst 0, 1) := by decide +kernel
theorem dL_law_17 : decode cL_law 17 = .ok (.istore_n 3, 1) := by decide +kernel
theorem dL_law_18 : decode cL_law 18 = .ok (.iload_n 3, 1) := by decide +kernel
theorem dL_law_19 : decode cL_law 19 = .ok (.aload_n 0, 1) := by decide +kernel
theorem dL_law_20 : decode cL_law 20 = .ok (.arraylength, 1) := by decide +kernel
theorem dL_law_21 : decode cL_law 21 = .ok (.bipush 6, 2) := by decide +kernel
theorem dL_law_23 : decode cL_law 23 = .ok (.isub, 1) := by decide +kernel
theorem dL_law_24 : decode cL_law 24 = .ok (.if_icmp .gt 1052, 3) := by decide +kernel
theorem dL_law_27 : decode cL_law 27 = .ok (.aload_n 0, 1) := by decide +kernel
theorem dL_law_28 : decode cL_law 28 = .ok (.iload_n 3, 1) := by decide +kernel
theorem dL_law_29 : decode cL_law 29 = .ok (.iaload, 1) := by decide +kernel
theorem dL_law_30 : decode cL_law 30 = .ok (.bipush 31, 2) := by decide +kernel
theorem dL_law_32 : decode cL_law 32 = .ok (.iand, 1) := by decide +kernel
theorem dL_law_33 : decode cL_law 33 = .ok (.tableswitch 1037 0 31 #[143, 176, 199, 222, 245, 258, 271, 294, 337, 370, 413, 446, 469, 482, 495, 508, 521, 574, 637, 670, 703, 716, 769, 812, 861, 894, 907, 931, 954, 987, 1010, 1023], 143) := by decide +kernel
theorem dL_law_176 : decode cL_law 176 = .ok (.aload_n 1, 1) := by decide +kernel
theorem dL_law_177 : decode cL_law 177 = .ok (.aload_n 0, 1) := by decide +kernel
theorem dL_law_178 : decode cL_law 178 = .ok (.iload_n 3, 1) := by decide +kernel
theorem dL_law_179 : decode cL_law 179 = .ok (.iconst 1, 1) := by decide +kernel
theorem dL_law_180 : decode cL_law 180 = .ok (.iadd, 1) := by decide +kernel
theorem dL_law_181 : decode cL_law 181 = .ok (.iaload, 1) := by decide +kernel
theorem dL_law_182 : decode cL_law 182 = .ok (.aload_n 0, 1) := by decide +kernel
theorem dL_law_183 : decode cL_law 183 = .ok (.iload_n 3, 1) := by decide +kernel
theorem dL_law_184 : decode cL_law 184 = .ok (.iconst 2, 1) := by decide +kernel
theorem dL_law_185 : decode cL_law 185 = .ok (.iadd, 1) := by decide +kernel
theorem dL_law_186 : decode cL_law 186 = .ok (.iaload, 1) := by decide +kernel
theorem dL_law_187 : decode cL_law 187 = .ok (.invokevirtual 13, 3) := by decide +kernel
theorem dL_law_190 : decode cL_law 190 = .ok (.aload_n 2, 1) := by decide +kernel
theorem dL_law_191 : decode cL_law 191 = .ok (.aload_n 0, 1) := by decide +kernel
theorem dL_law_192 : decode cL_law 192 = .ok (.iload_n 3, 1) := by decide +kernel
theorem dL_law_193 : decode cL_law 193 = .ok (.iconst 1, 1) := by decide +kernel
theorem dL_law_194 : decode cL_law 194 = .ok (.iadd, 1) := by decide +kernel
theorem dL_law_195 : decode cL_law 195 = .ok (.iaload, 1) := by decide +kernel
theorem dL_law_196 : decode cL_law 196 = .ok (.aload_n 0, 1) := by decide +kernel
theorem dL_law_197 : decode cL_law 197 = .ok (.iload_n 3, 1) := by decide +kernel
theorem dL_law_198 : decode cL_law 198 = .ok (.iconst 2, 1) := by decide +kernel
theorem dL_law_199 : decode cL_law 199 = .ok (.iadd, 1) := by decide +kernel
theorem dL_law_200 : decode cL_law 200 = .ok (.iaload, 1) := by decide +kernel
theorem dL_law_201 : decode cL_law 201 = .ok (.invokevirtual 17, 3) := by decide +kernel
theorem dL_law_204 : decode cL_law 204 = .ok (.if_icmp .eq 866, 3) := by decide +kernel
theorem dL_law_207 : decode cL_law 207 = .ok (.iconst 0, 1) := by decide +kernel
theorem dL_law_208 : decode cL_law 208 = .ok (.ireturn, 1) := by decide +kernel
theorem dL_law_209 : decode cL_law 209 = .ok (.aload_n 1, 1) := by decide +kernel
theorem dL_law_210 : decode cL_law 210 = .ok (.aload_n 0, 1) := by decide +kernel
theorem dL_law_211 : decode cL_law 211 = .ok (.iload_n 3, 1) := by decide +kernel
theorem dL_law_212 : decode cL_law 212 = .ok (.iconst 1, 1) := by decide +kernel
theorem dL_law_213 : decode cL_law 213 = .ok (.iadd, 1) := by decide +kernel
theorem dL_law_214 : decode cL_law 214 = .ok (.iaload, 1) := by decide +kernel
theorem dL_law_215 : decode cL_law 215 = .ok (.invokevirtual 18, 3) := by decide +kernel
theorem dL_law_218 : decode cL_law 218 = .ok (.aload_n 2, 1) := by decide +kernel
theorem dL_law_219 : decode cL_law 219 = .ok (.aload_n 0, 1) := by decide +kernel
theorem dL_law_220 : decode cL_law 220 = .ok (.iload_n 3, 1) := by decide +kernel
theorem dL_law_221 : decode cL_law 221 = .ok (.iconst 1, 1) := by decide +kernel
theorem dL_law_222 : decode cL_law 222 = .ok (.iadd, 1) := by decide +kernel
theorem dL_law_223 : decode cL_law 223 = .ok (.iaload, 1) := by decide +kernel
theorem dL_law_224 : decode cL_law 224 = .ok (.invokevirtual 22, 3) := by decide +kernel
theorem dL_law_227 : decode cL_law 227 = .ok (.if_icmp .eq 843, 3) := by decide +kernel
theorem dL_law_230 : decode cL_law 230 = .ok (.iconst 0, 1) := by decide +kernel
theorem dL_law_231 : decode cL_law 231 = .ok (.ireturn, 1) := by decide +kernel
theorem dL_law_232 : decode cL_law 232 = .ok (.aload_n 1, 1) := by decide +kernel
theorem dL_law_233 : decode cL_law 233 = .ok (.aload_n 0, 1) := by decide +kernel
theorem dL_law_234 : decode cL_law 234 = .ok (.iload_n 3, 1) := by decide +kernel
theorem dL_law_235 : decode cL_law 235 = .ok (.iconst 1, 1) := by decide +kernel
theorem dL_law_236 : decode cL_law 236 = .ok (.iadd, 1) := by decide +kernel
theorem dL_law_237 : decode cL_law 237 = .ok (.iaload, 1) := by decide +kernel
theorem dL_law_238 : decode cL_law 238 = .ok (.invokevirtual 23, 3) := by decide +kernel
theorem dL_law_241 : decode cL_law 241 = .ok (.aload_n 2, 1) := by decide +kernel
theorem dL_law_242 : decode cL_law 242 = .ok (.aload_n 0, 1) := by decide +kernel
theorem dL_law_243 : decode cL_law 243 = .ok (.iload_n 3, 1) := by decide +kernel
theorem dL_law_244 : decode cL_law 244 = .ok (.iconst 1, 1) := by decide +kernel
theorem dL_law_245 : decode cL_law 245 = .ok (.iadd, 1) := by decide +kernel
theorem dL_law_246 : decode cL_law 246 = .ok (.iaload, 1) := by decide +kernel
theorem dL_law_247 : decode cL_law 247 = .ok (.invokevirtual 26, 3) := by decide +kernel
theorem dL_law_250 : decode cL_law 250 = .ok (.if_icmp .eq 820, 3) := by decide +kernel
theorem dL_law_253 : decode cL_law 253 = .ok (.iconst 0, 1) := by decide +kernel
theorem dL_law_254 : decode cL_law 254 = .ok (.ireturn, 1) := by decide +kernel
theorem dL_law_255 : decode cL_law 255 = .ok (.aload_n 1, 1) := by decide +kernel
theorem dL_law_256 : decode cL_law 256 = .ok (.aload_n 0, 1) := by decide +kernel
theorem dL_law_257 : decode cL_law 257 = .ok (.iload_n 3, 1) := by decide +kernel
theorem dL_law_258 : decode cL_law 258 = .ok (.iconst 1, 1) := by decide +kernel
theorem dL_law_259 : decode cL_law 259 = .ok (.iadd, 1) := by decide +kernel
theorem dL_law_260 : decode cL_law 260 = .ok (.iaload, 1) := by decide +kernel
theorem dL_law_261 : decode cL_law 261 = .ok (.invokevirtual 27, 3) := by decide +kernel
theorem dL_law_264 : decode cL_law 264 = .ok (.aload_n 2, 1) := by decide +kernel
theorem dL_law_265 : decode cL_law 265 = .ok (.aload_n 0, 1) := by decide +kernel
theorem dL_law_266 : decode cL_law 266 = .ok (.iload_n 3, 1) := by decide +kernel
theorem dL_law_267 : decode cL_law 267 = .ok (.iconst 1, 1) := by decide +kernel
theorem dL_law_268 : decode cL_law 268 = .ok (.iadd, 1) := by decide +kernel
theorem dL_law_269 : decode cL_law 269 = .ok (.iaload, 1) := by decide +kernel
theorem dL_law_270 : decode cL_law 270 = .ok (.invokevirtual 30, 3) := by decide +kernel
theorem dL_law_273 : decode cL_law 273 = .ok (.if_icmp .eq 797, 3) := by decide +kernel
theorem dL_law_276 : decode cL_law 276 = .ok (.iconst 0, 1) := by decide +kernel
theorem dL_law_277 : decode cL_law 277 = .ok (.ireturn, 1) := by decide +kernel
theorem dL_law_278 : decode cL_law 278 = .ok (.aload_n 1, 1) := by decide +kernel
theorem dL_law_279 : decode cL_law 279 = .ok (.invokevirtual 31, 3) := by decide +kernel
theorem dL_law_282 : decode cL_law 282 = .ok (.aload_n 2, 1) := by decide +kernel
theorem dL_law_283 : decode cL_law 283 = .ok (.invokevirtual 35, 3) := by decide +kernel
theorem dL_law_286 : decode cL_law 286 = .ok (.if_icmp .eq 784, 3) := by decide +kernel
theorem dL_law_289 : decode cL_law 289 = .ok (.iconst 0, 1) := by decide +kernel
theorem dL_law_290 : decode cL_law 290 = .ok (.ireturn, 1) := by decide +kernel
theorem dL_law_291 : decode cL_law 291 = .ok (.aload_n 1, 1) := by decide +kernel
theorem dL_law_292 : decode cL_law 292 = .ok (.invokevirtual 36, 3) := by decide +kernel
theorem dL_law_295 : decode cL_law 295 = .ok (.aload_n 2, 1) := by decide +kernel
theorem dL_law_296 : decode cL_law 296 = .ok (.invokevirtual 39, 3) := by decide +kernel
theorem dL_law_299 : decode cL_law 299 = .ok (.if_icmp .eq 771, 3) := by decide +kernel
theorem dL_law_302 : decode cL_law 302 = .ok (.iconst 0, 1) := by decide +kernel
theorem dL_law_303 : decode cL_law 303 = .ok (.ireturn, 1) := by decide +kernel
theorem dL_law_304 : decode cL_law 304 = .ok (.aload_n 1, 1) := by decide +kernel
theorem dL_law_305 : decode cL_law 305 = .ok (.aload_n 0, 1) := by decide +kernel
theorem dL_law_306 : decode cL_law 306 = .ok (.iload_n 3, 1) := by decide +kernel
theorem dL_law_307 : decode cL_law 307 = .ok (.iconst 1, 1) := by decide +kernel
theorem dL_law_308 : decode cL_law 308 = .ok (.iadd, 1) := by decide +kernel
theorem dL_law_309 : decode cL_law 309 = .ok (.iaload, 1) := by decide +kernel
theorem dL_law_310 : decode cL_law 310 = .ok (.invokevirtual 40, 3) := by decide +kernel
theorem dL_law_313 : decode cL_law 313 = .ok (.aload_n 2, 1) := by decide +kernel
theorem dL_law_314 : decode cL_law 314 = .ok (.aload_n 0, 1) := by decide +kernel
theorem dL_law_315 : decode cL_law 315 = .ok (.iload_n 3, 1) := by decide +kernel
theorem dL_law_316 : decode cL_law 316 = .ok (.iconst 1, 1) := by decide +kernel
theorem dL_law_317 : decode cL_law 317 = .ok (.iadd, 1) := by decide +kernel
theorem dL_law_318 : decode cL_law 318 = .ok (.iaload, 1) := by decide +kernel
theorem dL_law_319 : decode cL_law 319 = .ok (.invokevirtual 43, 3) := by decide +kernel
theorem dL_law_322 : decode cL_law 322 = .ok (.if_icmp .eq 748, 3) := by decide +kernel
theorem dL_law_325 : decode cL_law 325 = .ok (.iconst 0, 1) := by decide +kernel
theorem dL_law_326 : decode cL_law 326 = .ok (.ireturn, 1) := by decide +kernel
theorem dL_law_327 : decode cL_law 327 = .ok (.aload_n 1, 1) := by decide +kernel
theorem dL_law_328 : decode cL_law 328 = .ok (.aload_n 0, 1) := by decide +kernel
theorem dL_law_329 : decode cL_law 329 = .ok (.iload_n 3, 1) := by decide +kernel
theorem dL_law_330 : decode cL_law 330 = .ok (.iconst 1, 1) := by decide +kernel
theorem dL_law_331 : decode cL_law 331 = .ok (.iadd, 1) := by decide +kernel
theorem dL_law_332 : decode cL_law 332 = .ok (.iaload, 1) := by decide +kernel
theorem dL_law_333 : decode cL_law 333 = .ok (.aload_n 0, 1) := by decide +kernel
theorem dL_law_334 : decode cL_law 334 = .ok (.iload_n 3, 1) := by decide +kernel
theorem dL_law_335 : decode cL_law 335 = .ok (.iconst 2, 1) := by decide +kernel
theorem dL_law_336 : decode cL_law 336 = .ok (.iadd, 1) := by decide +kernel
theorem dL_law_337 : decode cL_law 337 = .ok (.iaload, 1) := by decide +kernel
theorem dL_law_338 : decode cL_law 338 = .ok (.aload_n 0, 1) := by decide +kernel
theorem dL_law_339 : decode cL_law 339 = .ok (.iload_n 3, 1) := by decide +kernel
theorem dL_law_340 : decode cL_law 340 = .ok (.iconst 3, 1) := by decide +kernel
theorem dL_law_341 : decode cL_law 341 = .ok (.iadd, 1) := by decide +kernel
theorem dL_law_342 : decode cL_law 342 = .ok (.iaload, 1) := by decide +kernel
theorem dL_law_343 : decode cL_law 343 = .ok (.invokevirtual 44, 3) := by decide +kernel
theorem dL_law_346 : decode cL_law 346 = .ok (.aload_n 2, 1) := by decide +kernel
theorem dL_law_347 : decode cL_law 347 = .ok (.aload_n 0, 1) := by decide +kernel
theorem dL_law_348 : decode cL_law 348 = .ok (.iload_n 3, 1) := by decide +kernel
theorem dL_law_349 : decode cL_law 349 = .ok (.iconst 1, 1) := by decide +kernel
theorem dL_law_350 : decode cL_law 350 = .ok (.iadd, 1) := by decide +kernel
theorem dL_law_351 : decode cL_law 351 = .ok (.iaload, 1) := by decide +kernel
theorem dL_law_352 : decode cL_law 352 = .ok (.aload_n 0, 1) := by decide +kernel
theorem dL_law_353 : decode cL_law 353 = .ok (.iload_n 3, 1) := by decide +kernel
theorem dL_law_354 : decode cL_law 354 = .ok (.iconst 2, 1) := by decide +kernel
theorem dL_law_355 : decode cL_law 355 = .ok (.iadd, 1) := by decide +kernel
theorem dL_law_356 : decode cL_law 356 = .ok (.iaload, 1) := by decide +kernel
theorem dL_law_357 : decode cL_law 357 = .ok (.aload_n 0, 1) := by decide +kernel
theorem dL_law_358 : decode cL_law 358 = .ok (.iload_n 3, 1) := by decide +kernel
theorem dL_law_359 : decode cL_law 359 = .ok (.iconst 3, 1) := by decide +kernel
theorem dL_law_360 : decode cL_law 360 = .ok (.iadd, 1) := by decide +kernel
theorem dL_law_361 : decode cL_law 361 = .ok (.iaload, 1) := by decide +kernel
theorem dL_law_362 : decode cL_law 362 = .ok (.invokevirtual 48, 3) := by decide +kernel
theorem dL_law_365 : decode cL_law 365 = .ok (.if_icmp .eq 705, 3) := by decide +kernel
theorem dL_law_368 : decode cL_law 368 = .ok (.iconst 0, 1) := by decide +kernel
theorem dL_law_369 : decode cL_law 369 = .ok (.ireturn, 1) := by decide +kernel
theorem dL_law_370 : decode cL_law 370 = .ok (.aload_n 1, 1) := by decide +kernel
theorem dL_law_371 : decode cL_law 371 = .ok (.aload_n 0, 1) := by decide +kernel
theorem dL_law_372 : decode cL_law 372 = .ok (.iload_n 3, 1) := by decide +kernel
theorem dL_law_373 : decode cL_law 373 = .ok (.iconst 1, 1) := by decide +kernel
theorem dL_law_374 : decode cL_law 374 = .ok (.iadd, 1) := by decide +kernel
theorem dL_law_375 : decode cL_law 375 = .ok (.iaload, 1) := by decide +kernel
theorem dL_law_376 : decode cL_law 376 = .ok (.aload_n 0, 1) := by decide +kernel
theorem dL_law_377 : decode cL_law 377 = .ok (.iload_n 3, 1) := by decide +kernel
theorem dL_law_378 : decode cL_law 378 = .ok (.iconst 2, 1) := by decide +kernel
theorem dL_law_379 : decode cL_law 379 = .ok (.iadd, 1) := by decide +kernel
theorem dL_law_380 : decode cL_law 380 = .ok (.iaload, 1) := by decide +kernel
theorem dL_law_381 : decode cL_law 381 = .ok (.invokevirtual 49, 3) := by decide +kernel
theorem dL_law_384 : decode cL_law 384 = .ok (.aload_n 2, 1) := by decide +kernel
theorem dL_law_385 : decode cL_law 385 = .ok (.aload_n 0, 1) := by decide +kernel
theorem dL_law_386 : decode cL_law 386 = .ok (.iload_n 3, 1) := by decide +kernel
theorem dL_law_387 : decode cL_law 387 = .ok (.iconst 1, 1) := by decide +kernel
theorem dL_law_388 : decode cL_law 388 = .ok (.iadd, 1) := by decide +kernel
theorem dL_law_389 : decode cL_law 389 = .ok (.iaload, 1) := by decide +kernel
theorem dL_law_390 : decode cL_law 390 = .ok (.aload_n 0, 1) := by decide +kernel
theorem dL_law_391 : decode cL_law 391 = .ok (.iload_n 3, 1) := by decide +kernel
theorem dL_law_392 : decode cL_law 392 = .ok (.iconst 2, 1) := by decide +kernel
theorem dL_law_393 : decode cL_law 393 = .ok (.iadd, 1) := by decide +kernel
theorem dL_law_394 : decode cL_law 394 = .ok (.iaload, 1) := by decide +kernel
theorem dL_law_395 : decode cL_law 395 = .ok (.invokevirtual 52, 3) := by decide +kernel
theorem dL_law_398 : decode cL_law 398 = .ok (.if_icmp .eq 672, 3) := by decide +kernel
theorem dL_law_401 : decode cL_law 401 = .ok (.iconst 0, 1) := by decide +kernel
theorem dL_law_402 : decode cL_law 402 = .ok (.ireturn, 1) := by decide +kernel
theorem dL_law_403 : decode cL_law 403 = .ok (.aload_n 1, 1) := by decide +kernel
theorem dL_law_404 : decode cL_law 404 = .ok (.aload_n 0, 1) := by decide +kernel
theorem dL_law_405 : decode cL_law 405 = .ok (.iload_n 3, 1) := by decide +kernel
theorem dL_law_406 : decode cL_law 406 = .ok (.iconst 1, 1) := by decide +kernel
theorem dL_law_407 : decode cL_law 407 = .ok (.iadd, 1) := by decide +kernel
theorem dL_law_408 : decode cL_law 408 = .ok (.iaload, 1) := by decide +kernel
theorem dL_law_409 : decode cL_law 409 = .ok (.aload_n 0, 1) := by decide +kernel
theorem dL_law_410 : decode cL_law 410 = .ok (.iload_n 3, 1) := by decide +kernel
theorem dL_law_411 : decode cL_law 411 = .ok (.iconst 2, 1) := by decide +kernel
theorem dL_law_412 : decode cL_law 412 = .ok (.iadd, 1) := by decide +kernel
theorem dL_law_413 : decode cL_law 413 = .ok (.iaload, 1) := by decide +kernel
theorem dL_law_414 : decode cL_law 414 = .ok (.aload_n 0, 1) := by decide +kernel
theorem dL_law_415 : decode cL_law 415 = .ok (.iload_n 3, 1) := by decide +kernel
theorem dL_law_416 : decode cL_law 416 = .ok (.iconst 3, 1) := by decide +kernel
theorem dL_law_417 : decode cL_law 417 = .ok (.iadd, 1) := by decide +kernel
theorem dL_law_418 : decode cL_law 418 = .ok (.iaload, 1) := by decide +kernel
theorem dL_law_419 : decode cL_law 419 = .ok (.invokevirtual 53, 3) := by decide +kernel
theorem dL_law_422 : decode cL_law 422 = .ok (.aload_n 2, 1) := by decide +kernel
theorem dL_law_423 : decode cL_law 423 = .ok (.aload_n 0, 1) := by decide +kernel
theorem dL_law_424 : decode cL_law 424 = .ok (.iload_n 3, 1) := by decide +kernel
theorem dL_law_425 : decode cL_law 425 = .ok (.iconst 1, 1) := by decide +kernel
theorem dL_law_426 : decode cL_law 426 = .ok (.iadd, 1) := by decide +kernel
theorem dL_law_427 : decode cL_law 427 = .ok (.iaload, 1) := by decide +kernel
theorem dL_law_428 : decode cL_law 428 = .ok (.aload_n 0, 1) := by decide +kernel
theorem dL_law_429 : decode cL_law 429 = .ok (.iload_n 3, 1) := by decide +kernel
theorem dL_law_430 : decode cL_law 430 = .ok (.iconst 2, 1) := by decide +kernel
theorem dL_law_431 : decode cL_law 431 = .ok (.iadd, 1) := by decide +kernel
theorem dL_law_432 : decode cL_law 432 = .ok (.iaload, 1) := by decide +kernel
theorem dL_law_433 : decode cL_law 433 = .ok (.aload_n 0, 1) := by decide +kernel
theorem dL_law_434 : decode cL_law 434 = .ok (.iload_n 3, 1) := by decide +kernel
theorem dL_law_435 : decode cL_law 435 = .ok (.iconst 3, 1) := by decide +kernel
theorem dL_law_436 : decode cL_law 436 = .ok (.iadd, 1) := by decide +kernel
theorem dL_law_437 : decode cL_law 437 = .ok (.iaload, 1) := by decide +kernel
theorem dL_law_438 : decode cL_law 438 = .ok (.invokevirtual 56, 3) := by decide +kernel
theorem dL_law_441 : decode cL_law 441 = .ok (.if_icmp .eq 629, 3) := by decide +kernel
theorem dL_law_444 : decode cL_law 444 = .ok (.iconst 0, 1) := by decide +kernel
theorem dL_law_445 : decode cL_law 445 = .ok (.ireturn, 1) := by decide +kernel
theorem dL_law_446 : decode cL_law 446 = .ok (.aload_n 1, 1) := by decide +kernel
theorem dL_law_447 : decode cL_law 447 = .ok (.aload_n 0, 1) := by decide +kernel
theorem dL_law_448 : decode cL_law 448 = .ok (.iload_n 3, 1) := by decide +kernel
theorem dL_law_449 : decode cL_law 449 = .ok (.iconst 1, 1) := by decide +kernel
theorem dL_law_450 : decode cL_law 450 = .ok (.iadd, 1) := by decide +kernel
theorem dL_law_451 : decode cL_law 451 = .ok (.iaload, 1) := by decide +kernel
theorem dL_law_452 : decode cL_law 452 = .ok (.aload_n 0, 1) := by decide +kernel
theorem dL_law_453 : decode cL_law 453 = .ok (.iload_n 3, 1) := by decide +kernel
theorem dL_law_454 : decode cL_law 454 = .ok (.iconst 2, 1) := by decide +kernel
theorem dL_law_455 : decode cL_law 455 = .ok (.iadd, 1) := by decide +kernel
theorem dL_law_456 : decode cL_law 456 = .ok (.iaload, 1) := by decide +kernel
theorem dL_law_457 : decode cL_law 457 = .ok (.invokevirtual 57, 3) := by decide +kernel
theorem dL_law_460 : decode cL_law 460 = .ok (.aload_n 2, 1) := by decide +kernel
theorem dL_law_461 : decode cL_law 461 = .ok (.aload_n 0, 1) := by decide +kernel
theorem dL_law_462 : decode cL_law 462 = .ok (.iload_n 3, 1) := by decide +kernel
theorem dL_law_463 : decode cL_law 463 = .ok (.iconst 1, 1) := by decide +kernel
theorem dL_law_464 : decode cL_law 464 = .ok (.iadd, 1) := by decide +kernel
theorem dL_law_465 : decode cL_law 465 = .ok (.iaload, 1) := by decide +kernel
theorem dL_law_466 : decode cL_law 466 = .ok (.aload_n 0, 1) := by decide +kernel
theorem dL_law_467 : decode cL_law 467 = .ok (.iload_n 3, 1) := by decide +kernel
theorem dL_law_468 : decode cL_law 468 = .ok (.iconst 2, 1) := by decide +kernel
theorem dL_law_469 : decode cL_law 469 = .ok (.iadd, 1) := by decide +kernel
theorem dL_law_470 : decode cL_law 470 = .ok (.iaload, 1) := by decide +kernel
theorem dL_law_471 : decode cL_law 471 = .ok (.invokevirtual 60, 3) := by decide +kernel
theorem dL_law_474 : decode cL_law 474 = .ok (.if_icmp .eq 596, 3) := by decide +kernel
theorem dL_law_477 : decode cL_law 477 = .ok (.iconst 0, 1) := by decide +kernel
theorem dL_law_478 : decode cL_law 478 = .ok (.ireturn, 1) := by decide +kernel
theorem dL_law_479 : decode cL_law 479 = .ok (.aload_n 1, 1) := by decide +kernel
theorem dL_law_480 : decode cL_law 480 = .ok (.aload_n 0, 1) := by decide +kernel
theorem dL_law_481 : decode cL_law 481 = .ok (.iload_n 3, 1) := by decide +kernel
theorem dL_law_482 : decode cL_law 482 = .ok (.iconst 1, 1) := by decide +kernel
theorem dL_law_483 : decode cL_law 483 = .ok (.iadd, 1) := by decide +kernel
theorem dL_law_484 : decode cL_law 484 = .ok (.iaload, 1) := by decide +kernel
theorem dL_law_485 : decode cL_law 485 = .ok (.invokevirtual 61, 3) := by decide +kernel
theorem dL_law_488 : decode cL_law 488 = .ok (.aload_n 2, 1) := by decide +kernel
theorem dL_law_489 : decode cL_law 489 = .ok (.aload_n 0, 1) := by decide +kernel
theorem dL_law_490 : decode cL_law 490 = .ok (.iload_n 3, 1) := by decide +kernel
theorem dL_law_491 : decode cL_law 491 = .ok (.iconst 1, 1) := by decide +kernel
theorem dL_law_492 : decode cL_law 492 = .ok (.iadd, 1) := by decide +kernel
theorem dL_law_493 : decode cL_law 493 = .ok (.iaload, 1) := by decide +kernel
theorem dL_law_494 : decode cL_law 494 = .ok (.invokevirtual 64, 3) := by decide +kernel
theorem dL_law_497 : decode cL_law 497 = .ok (.if_icmp .eq 573, 3) := by decide +kernel
theorem dL_law_500 : decode cL_law 500 = .ok (.iconst 0, 1) := by decide +kernel
theorem dL_law_501 : decode cL_law 501 = .ok (.ireturn, 1) := by decide +kernel
theorem dL_law_502 : decode cL_law 502 = .ok (.aload_n 1, 1) := by decide +kernel
theorem dL_law_503 : decode cL_law 503 = .ok (.invokevirtual 65, 3) := by decide +kernel
theorem dL_law_506 : decode cL_law 506 = .ok (.aload_n 2, 1) := by decide +kernel
theorem dL_law_507 : decode cL_law 507 = .ok (.invokevirtual 68, 3) := by decide +kernel
theorem dL_law_510 : decode cL_law 510 = .ok (.if_icmp .eq 560, 3) := by decide +kernel
theorem dL_law_513 : decode cL_law 513 = .ok (.iconst 0, 1) := by decide +kernel
theorem dL_law_514 : decode cL_law 514 = .ok (.ireturn, 1) := by decide +kernel
theorem dL_law_515 : decode cL_law 515 = .ok (.aload_n 1, 1) := by decide +kernel
theorem dL_law_516 : decode cL_law 516 = .ok (.invokevirtual 69, 3) := by decide +kernel
theorem dL_law_519 : decode cL_law 519 = .ok (.aload_n 2, 1) := by decide +kernel
theorem dL_law_520 : decode cL_law 520 = .ok (.invokevirtual 72, 3) := by decide +kernel
theorem dL_law_523 : decode cL_law 523 = .ok (.if_icmp .eq 547, 3) := by decide +kernel
theorem dL_law_526 : decode cL_law 526 = .ok (.iconst 0, 1) := by decide +kernel
theorem dL_law_527 : decode cL_law 527 = .ok (.ireturn, 1) := by decide +kernel
theorem dL_law_528 : decode cL_law 528 = .ok (.aload_n 1, 1) := by decide +kernel
theorem dL_law_529 : decode cL_law 529 = .ok (.invokevirtual 73, 3) := by decide +kernel
theorem dL_law_532 : decode cL_law 532 = .ok (.aload_n 2, 1) := by decide +kernel
theorem dL_law_533 : decode cL_law 533 = .ok (.invokevirtual 76, 3) := by decide +kernel
theorem dL_law_536 : decode cL_law 536 = .ok (.if_icmp .eq 534, 3) := by decide +kernel
theorem dL_law_539 : decode cL_law 539 = .ok (.iconst 0, 1) := by decide +kernel
theorem dL_law_540 : decode cL_law 540 = .ok (.ireturn, 1) := by decide +kernel
theorem dL_law_541 : decode cL_law 541 = .ok (.aload_n 1, 1) := by decide +kernel
theorem dL_law_542 : decode cL_law 542 = .ok (.invokevirtual 77, 3) := by decide +kernel
theorem dL_law_545 : decode cL_law 545 = .ok (.aload_n 2, 1) := by decide +kernel
theorem dL_law_546 : decode cL_law 546 = .ok (.invokevirtual 80, 3) := by decide +kernel
theorem dL_law_549 : decode cL_law 549 = .ok (.if_icmp .eq 521, 3) := by decide +kernel
theorem dL_law_552 : decode cL_law 552 = .ok (.iconst 0, 1) := by decide +kernel
theorem dL_law_553 : decode cL_law 553 = .ok (.ireturn, 1) := by decide +kernel
theorem dL_law_554 : decode cL_law 554 = .ok (.aload_n 1, 1) := by decide +kernel
theorem dL_law_555 : decode cL_law 555 = .ok (.aload_n 0, 1) := by decide +kernel
theorem dL_law_556 : decode cL_law 556 = .ok (.iload_n 3, 1) := by decide +kernel
theorem dL_law_557 : decode cL_law 557 = .ok (.iconst 1, 1) := by decide +kernel
theorem dL_law_558 : decode cL_law 558 = .ok (.iadd, 1) := by decide +kernel
theorem dL_law_559 : decode cL_law 559 = .ok (.iaload, 1) := by decide +kernel
theorem dL_law_560 : decode cL_law 560 = .ok (.aload_n 0, 1) := by decide +kernel
theorem dL_law_561 : decode cL_law 561 = .ok (.iload_n 3, 1) := by decide +kernel
theorem dL_law_562 : decode cL_law 562 = .ok (.iconst 2, 1) := by decide +kernel
theorem dL_law_563 : decode cL_law 563 = .ok (.iadd, 1) := by decide +kernel
theorem dL_law_564 : decode cL_law 564 = .ok (.iaload, 1) := by decide +kernel
theorem dL_law_565 : decode cL_law 565 = .ok (.aload_n 0, 1) := by decide +kernel
theorem dL_law_566 : decode cL_law 566 = .ok (.iload_n 3, 1) := by decide +kernel
theorem dL_law_567 : decode cL_law 567 = .ok (.iconst 3, 1) := by decide +kernel
theorem dL_law_568 : decode cL_law 568 = .ok (.iadd, 1) := by decide +kernel
theorem dL_law_569 : decode cL_law 569 = .ok (.iaload, 1) := by decide +kernel
theorem dL_law_570 : decode cL_law 570 = .ok (.aload_n 0, 1) := by decide +kernel
theorem dL_law_571 : decode cL_law 571 = .ok (.iload_n 3, 1) := by decide +kernel
theorem dL_law_572 : decode cL_law 572 = .ok (.iconst 4, 1) := by decide +kernel
theorem dL_law_573 : decode cL_law 573 = .ok (.iadd, 1) := by decide +kernel
theorem dL_law_574 : decode cL_law 574 = .ok (.iaload, 1) := by decide +kernel
theorem dL_law_575 : decode cL_law 575 = .ok (.invokevirtual 81, 3) := by decide +kernel
theorem dL_law_578 : decode cL_law 578 = .ok (.aload_n 2, 1) := by decide +kernel
theorem dL_law_579 : decode cL_law 579 = .ok (.aload_n 0, 1) := by decide +kernel
theorem dL_law_580 : decode cL_law 580 = .ok (.iload_n 3, 1) := by decide +kernel
theorem dL_law_581 : decode cL_law 581 = .ok (.iconst 1, 1) := by decide +kernel
theorem dL_law_582 : decode cL_law 582 = .ok (.iadd, 1) := by decide +kernel
theorem dL_law_583 : decode cL_law 583 = .ok (.iaload, 1) := by decide +kernel
theorem dL_law_584 : decode cL_law 584 = .ok (.aload_n 0, 1) := by decide +kernel
theorem dL_law_585 : decode cL_law 585 = .ok (.iload_n 3, 1) := by decide +kernel
theorem dL_law_586 : decode cL_law 586 = .ok (.iconst 2, 1) := by decide +kernel
theorem dL_law_587 : decode cL_law 587 = .ok (.iadd, 1) := by decide +kernel
theorem dL_law_588 : decode cL_law 588 = .ok (.iaload, 1) := by decide +kernel
theorem dL_law_589 : decode cL_law 589 = .ok (.aload_n 0, 1) := by decide +kernel
theorem dL_law_590 : decode cL_law 590 = .ok (.iload_n 3, 1) := by decide +kernel
theorem dL_law_591 : decode cL_law 591 = .ok (.iconst 3, 1) := by decide +kernel
theorem dL_law_592 : decode cL_law 592 = .ok (.iadd, 1) := by decide +kernel
theorem dL_law_593 : decode cL_law 593 = .ok (.iaload, 1) := by decide +kernel
theorem dL_law_594 : decode cL_law 594 = .ok (.aload_n 0, 1) := by decide +kernel
theorem dL_law_595 : decode cL_law 595 = .ok (.iload_n 3, 1) := by decide +kernel
theorem dL_law_596 : decode cL_law 596 = .ok (.iconst 4, 1) := by decide +kernel
theorem dL_law_597 : decode cL_law 597 = .ok (.iadd, 1) := by decide +kernel
theorem dL_law_598 : decode cL_law 598 = .ok (.iaload, 1) := by decide +kernel
theorem dL_law_599 : decode cL_law 599 = .ok (.invokevirtual 85, 3) := by decide +kernel
theorem dL_law_602 : decode cL_law 602 = .ok (.if_icmp .eq 468, 3) := by decide +kernel
theorem dL_law_605 : decode cL_law 605 = .ok (.iconst 0, 1) := by decide +kernel
theorem dL_law_606 : decode cL_law 606 = .ok (.ireturn, 1) := by decide +kernel
theorem dL_law_607 : decode cL_law 607 = .ok (.aload_n 1, 1) := by decide +kernel
theorem dL_law_608 : decode cL_law 608 = .ok (.aload_n 0, 1) := by decide +kernel
theorem dL_law_609 : decode cL_law 609 = .ok (.iload_n 3, 1) := by decide +kernel
theorem dL_law_610 : decode cL_law 610 = .ok (.iconst 1, 1) := by decide +kernel
theorem dL_law_611 : decode cL_law 611 = .ok (.iadd, 1) := by decide +kernel
theorem dL_law_612 : decode cL_law 612 = .ok (.iaload, 1) := by decide +kernel
theorem dL_law_613 : decode cL_law 613 = .ok (.aload_n 0, 1) := by decide +kernel
theorem dL_law_614 : decode cL_law 614 = .ok (.iload_n 3, 1) := by decide +kernel
theorem dL_law_615 : decode cL_law 615 = .ok (.iconst 2, 1) := by decide +kernel
theorem dL_law_616 : decode cL_law 616 = .ok (.iadd, 1) := by decide +kernel
theorem dL_law_617 : decode cL_law 617 = .ok (.iaload, 1) := by decide +kernel
theorem dL_law_618 : decode cL_law 618 = .ok (.aload_n 0, 1) := by decide +kernel
theorem dL_law_619 : decode cL_law 619 = .ok (.iload_n 3, 1) := by decide +kernel
theorem dL_law_620 : decode cL_law 620 = .ok (.iconst 3, 1) := by decide +kernel
theorem dL_law_621 : decode cL_law 621 = .ok (.iadd, 1) := by decide +kernel
theorem dL_law_622 : decode cL_law 622 = .ok (.iaload, 1) := by decide +kernel
theorem dL_law_623 : decode cL_law 623 = .ok (.aload_n 0, 1) := by decide +kernel
theorem dL_law_624 : decode cL_law 624 = .ok (.iload_n 3, 1) := by decide +kernel
theorem dL_law_625 : decode cL_law 625 = .ok (.iconst 4, 1) := by decide +kernel
theorem dL_law_626 : decode cL_law 626 = .ok (.iadd, 1) := by decide +kernel
theorem dL_law_627 : decode cL_law 627 = .ok (.iaload, 1) := by decide +kernel
theorem dL_law_628 : decode cL_law 628 = .ok (.aload_n 0, 1) := by decide +kernel
theorem dL_law_629 : decode cL_law 629 = .ok (.iload_n 3, 1) := by decide +kernel
theorem dL_law_630 : decode cL_law 630 = .ok (.iconst 5, 1) := by decide +kernel
theorem dL_law_631 : decode cL_law 631 = .ok (.iadd, 1) := by decide +kernel
theorem dL_law_632 : decode cL_law 632 = .ok (.iaload, 1) := by decide +kernel
theorem dL_law_633 : decode cL_law 633 = .ok (.invokevirtual 86, 3) := by decide +kernel
theorem dL_law_636 : decode cL_law 636 = .ok (.aload_n 2, 1) := by decide +kernel
theorem dL_law_637 : decode cL_law 637 = .ok (.aload_n 0, 1) := by decide +kernel
theorem dL_law_638 : decode cL_law 638 = .ok (.iload_n 3, 1) := by decide +kernel
theorem dL_law_639 : decode cL_law 639 = .ok (.iconst 1, 1) := by decide +kernel
theorem dL_law_640 : decode cL_law 640 = .ok (.iadd, 1) := by decide +kernel
theorem dL_law_641 : decode cL_law 641 = .ok (.iaload, 1) := by decide +kernel
theorem dL_law_642 : decode cL_law 642 = .ok (.aload_n 0, 1) := by decide +kernel
theorem dL_law_643 : decode cL_law 643 = .ok (.iload_n 3, 1) := by decide +kernel
theorem dL_law_644 : decode cL_law 644 = .ok (.iconst 2, 1) := by decide +kernel
theorem dL_law_645 : decode cL_law 645 = .ok (.iadd, 1) := by decide +kernel
theorem dL_law_646 : decode cL_law 646 = .ok (.iaload, 1) := by decide +kernel
theorem dL_law_647 : decode cL_law 647 = .ok (.aload_n 0, 1) := by decide +kernel
theorem dL_law_648 : decode cL_law 648 = .ok (.iload_n 3, 1) := by decide +kernel
theorem dL_law_649 : decode cL_law 649 = .ok (.iconst 3, 1) := by decide +kernel
theorem dL_law_650 : decode cL_law 650 = .ok (.iadd, 1) := by decide +kernel
theorem dL_law_651 : decode cL_law 651 = .ok (.iaload, 1) := by decide +kernel
theorem dL_law_652 : decode cL_law 652 = .ok (.aload_n 0, 1) := by decide +kernel
theorem dL_law_653 : decode cL_law 653 = .ok (.iload_n 3, 1) := by decide +kernel
theorem dL_law_654 : decode cL_law 654 = .ok (.iconst 4, 1) := by decide +kernel
theorem dL_law_655 : decode cL_law 655 = .ok (.iadd, 1) := by decide +kernel
theorem dL_law_656 : decode cL_law 656 = .ok (.iaload, 1) := by decide +kernel
theorem dL_law_657 : decode cL_law 657 = .ok (.aload_n 0, 1) := by decide +kernel
theorem dL_law_658 : decode cL_law 658 = .ok (.iload_n 3, 1) := by decide +kernel
theorem dL_law_659 : decode cL_law 659 = .ok (.iconst 5, 1) := by decide +kernel
theorem dL_law_660 : decode cL_law 660 = .ok (.iadd, 1) := by decide +kernel
theorem dL_law_661 : decode cL_law 661 = .ok (.iaload, 1) := by decide +kernel
theorem dL_law_662 : decode cL_law 662 = .ok (.invokevirtual 90, 3) := by decide +kernel
theorem dL_law_665 : decode cL_law 665 = .ok (.if_icmp .eq 405, 3) := by decide +kernel
theorem dL_law_668 : decode cL_law 668 = .ok (.iconst 0, 1) := by decide +kernel
theorem dL_law_669 : decode cL_law 669 = .ok (.ireturn, 1) := by decide +kernel
theorem dL_law_670 : decode cL_law 670 = .ok (.aload_n 1, 1) := by decide +kernel
theorem dL_law_671 : decode cL_law 671 = .ok (.aload_n 0, 1) := by decide +kernel
theorem dL_law_672 : decode cL_law 672 = .ok (.iload_n 3, 1) := by decide +kernel
theorem dL_law_673 : decode cL_law 673 = .ok (.iconst 1, 1) := by decide +kernel
theorem dL_law_674 : decode cL_law 674 = .ok (.iadd, 1) := by decide +kernel
theorem dL_law_675 : decode cL_law 675 = .ok (.iaload, 1) := by decide +kernel
theorem dL_law_676 : decode cL_law 676 = .ok (.aload_n 0, 1) := by decide +kernel
theorem dL_law_677 : decode cL_law 677 = .ok (.iload_n 3, 1) := by decide +kernel
theorem dL_law_678 : decode cL_law 678 = .ok (.iconst 2, 1) := by decide +kernel
theorem dL_law_679 : decode cL_law 679 = .ok (.iadd, 1) := by decide +kernel
theorem dL_law_680 : decode cL_law 680 = .ok (.iaload, 1) := by decide +kernel
theorem dL_law_681 : decode cL_law 681 = .ok (.invokevirtual 91, 3) := by decide +kernel
theorem dL_law_684 : decode cL_law 684 = .ok (.aload_n 2, 1) := by decide +kernel
theorem dL_law_685 : decode cL_law 685 = .ok (.aload_n 0, 1) := by decide +kernel
theorem dL_law_686 : decode cL_law 686 = .ok (.iload_n 3, 1) := by decide +kernel
theorem dL_law_687 : decode cL_law 687 = .ok (.iconst 1, 1) := by decide +kernel
theorem dL_law_688 : decode cL_law 688 = .ok (.iadd, 1) := by decide +kernel
theorem dL_law_689 : decode cL_law 689 = .ok (.iaload, 1) := by decide +kernel
theorem dL_law_690 : decode cL_law 690 = .ok (.aload_n 0, 1) := by decide +kernel
theorem dL_law_691 : decode cL_law 691 = .ok (.iload_n 3, 1) := by decide +kernel
theorem dL_law_692 : decode cL_law 692 = .ok (.iconst 2, 1) := by decide +kernel
theorem dL_law_693 : decode cL_law 693 = .ok (.iadd, 1) := by decide +kernel
theorem dL_law_694 : decode cL_law 694 = .ok (.iaload, 1) := by decide +kernel
theorem dL_law_695 : decode cL_law 695 = .ok (.invokevirtual 94, 3) := by decide +kernel
theorem dL_law_698 : decode cL_law 698 = .ok (.if_icmp .eq 372, 3) := by decide +kernel
theorem dL_law_701 : decode cL_law 701 = .ok (.iconst 0, 1) := by decide +kernel
theorem dL_law_702 : decode cL_law 702 = .ok (.ireturn, 1) := by decide +kernel
theorem dL_law_703 : decode cL_law 703 = .ok (.aload_n 1, 1) := by decide +kernel
theorem dL_law_704 : decode cL_law 704 = .ok (.aload_n 0, 1) := by decide +kernel
theorem dL_law_705 : decode cL_law 705 = .ok (.iload_n 3, 1) := by decide +kernel
theorem dL_law_706 : decode cL_law 706 = .ok (.iconst 1, 1) := by decide +kernel
theorem dL_law_707 : decode cL_law 707 = .ok (.iadd, 1) := by decide +kernel
theorem dL_law_708 : decode cL_law 708 = .ok (.iaload, 1) := by decide +kernel
theorem dL_law_709 : decode cL_law 709 = .ok (.aload_n 0, 1) := by decide +kernel
theorem dL_law_710 : decode cL_law 710 = .ok (.iload_n 3, 1) := by decide +kernel
theorem dL_law_711 : decode cL_law 711 = .ok (.iconst 2, 1) := by decide +kernel
theorem dL_law_712 : decode cL_law 712 = .ok (.iadd, 1) := by decide +kernel
theorem dL_law_713 : decode cL_law 713 = .ok (.iaload, 1) := by decide +kernel
theorem dL_law_714 : decode cL_law 714 = .ok (.invokevirtual 95, 3) := by decide +kernel
theorem dL_law_717 : decode cL_law 717 = .ok (.aload_n 2, 1) := by decide +kernel
theorem dL_law_718 : decode cL_law 718 = .ok (.aload_n 0, 1) := by decide +kernel
theorem dL_law_719 : decode cL_law 719 = .ok (.iload_n 3, 1) := by decide +kernel
theorem dL_law_720 : decode cL_law 720 = .ok (.iconst 1, 1) := by decide +kernel
theorem dL_law_721 : decode cL_law 721 = .ok (.iadd, 1) := by decide +kernel
theorem dL_law_722 : decode cL_law 722 = .ok (.iaload, 1) := by decide +kernel
theorem dL_law_723 : decode cL_law 723 = .ok (.aload_n 0, 1) := by decide +kernel
theorem dL_law_724 : decode cL_law 724 = .ok (.iload_n 3, 1) := by decide +kernel
theorem dL_law_725 : decode cL_law 725 = .ok (.iconst 2, 1) := by decide +kernel
theorem dL_law_726 : decode cL_law 726 = .ok (.iadd, 1) := by decide +kernel
theorem dL_law_727 : decode cL_law 727 = .ok (.iaload, 1) := by decide +kernel
theorem dL_law_728 : decode cL_law 728 = .ok (.invokevirtual 98, 3) := by decide +kernel
theorem dL_law_731 : decode cL_law 731 = .ok (.if_icmp .eq 339, 3) := by decide +kernel
theorem dL_law_734 : decode cL_law 734 = .ok (.iconst 0, 1) := by decide +kernel
theorem dL_law_735 : decode cL_law 735 = .ok (.ireturn, 1) := by decide +kernel
theorem dL_law_736 : decode cL_law 736 = .ok (.aload_n 1, 1) := by decide +kernel
theorem dL_law_737 : decode cL_law 737 = .ok (.invokevirtual 99, 3) := by decide +kernel
theorem dL_law_740 : decode cL_law 740 = .ok (.aload_n 2, 1) := by decide +kernel
theorem dL_law_741 : decode cL_law 741 = .ok (.invokevirtual 102, 3) := by decide +kernel
theorem dL_law_744 : decode cL_law 744 = .ok (.if_icmp .eq 326, 3) := by decide +kernel
theorem dL_law_747 : decode cL_law 747 = .ok (.iconst 0, 1) := by decide +kernel
theorem dL_law_748 : decode cL_law 748 = .ok (.ireturn, 1) := by decide +kernel
theorem dL_law_749 : decode cL_law 749 = .ok (.aload_n 1, 1) := by decide +kernel
theorem dL_law_750 : decode cL_law 750 = .ok (.aload_n 0, 1) := by decide +kernel
theorem dL_law_751 : decode cL_law 751 = .ok (.iload_n 3, 1) := by decide +kernel
theorem dL_law_752 : decode cL_law 752 = .ok (.iconst 1, 1) := by decide +kernel
theorem dL_law_753 : decode cL_law 753 = .ok (.iadd, 1) := by decide +kernel
theorem dL_law_754 : decode cL_law 754 = .ok (.iaload, 1) := by decide +kernel
theorem dL_law_755 : decode cL_law 755 = .ok (.invokevirtual 103, 3) := by decide +kernel
theorem dL_law_758 : decode cL_law 758 = .ok (.f2d, 1) := by decide +kernel
theorem dL_law_759 : decode cL_law 759 = .ok (.dstore 4, 2) := by decide +kernel
theorem dL_law_761 : decode cL_law 761 = .ok (.aload_n 2, 1) := by decide +kernel
theorem dL_law_762 : decode cL_law 762 = .ok (.aload_n 0, 1) := by decide +kernel
theorem dL_law_763 : decode cL_law 763 = .ok (.iload_n 3, 1) := by decide +kernel
theorem dL_law_764 : decode cL_law 764 = .ok (.iconst 1, 1) := by decide +kernel
theorem dL_law_765 : decode cL_law 765 = .ok (.iadd, 1) := by decide +kernel
theorem dL_law_766 : decode cL_law 766 = .ok (.iaload, 1) := by decide +kernel
theorem dL_law_767 : decode cL_law 767 = .ok (.invokevirtual 107, 3) := by decide +kernel
theorem dL_law_770 : decode cL_law 770 = .ok (.f2d, 1) := by decide +kernel
theorem dL_law_771 : decode cL_law 771 = .ok (.dstore 6, 2) := by decide +kernel
theorem dL_law_773 : decode cL_law 773 = .ok (.dload 4, 2) := by decide +kernel
theorem dL_law_775 : decode cL_law 775 = .ok (.dload 6, 2) := by decide +kernel
theorem dL_law_777 : decode cL_law 777 = .ok (.dcmp .l, 1) := by decide +kernel
theorem dL_law_778 : decode cL_law 778 = .ok (.ifCond .eq 21, 3) := by decide +kernel
theorem dL_law_781 : decode cL_law 781 = .ok (.dload 4, 2) := by decide +kernel
theorem dL_law_783 : decode cL_law 783 = .ok (.dload 4, 2) := by decide +kernel
theorem dL_law_785 : decode cL_law 785 = .ok (.dcmp .l, 1) := by decide +kernel
theorem dL_law_786 : decode cL_law 786 = .ok (.ifCond .eq 11, 3) := by decide +kernel
theorem dL_law_789 : decode cL_law 789 = .ok (.dload 6, 2) := by decide +kernel
theorem dL_law_791 : decode cL_law 791 = .ok (.dload 6, 2) := by decide +kernel
theorem dL_law_793 : decode cL_law 793 = .ok (.dcmp .l, 1) := by decide +kernel
theorem dL_law_794 : decode cL_law 794 = .ok (.ifCond .ne 5, 3) := by decide +kernel
theorem dL_law_797 : decode cL_law 797 = .ok (.iconst 0, 1) := by decide +kernel
theorem dL_law_798 : decode cL_law 798 = .ok (.ireturn, 1) := by decide +kernel
theorem dL_law_799 : decode cL_law 799 = .ok (.goto 271, 3) := by decide +kernel
theorem dL_law_802 : decode cL_law 802 = .ok (.aload_n 1, 1) := by decide +kernel
theorem dL_law_803 : decode cL_law 803 = .ok (.aload_n 0, 1) := by decide +kernel
theorem dL_law_804 : decode cL_law 804 = .ok (.iload_n 3, 1) := by decide +kernel
theorem dL_law_805 : decode cL_law 805 = .ok (.iconst 1, 1) := by decide +kernel
theorem dL_law_806 : decode cL_law 806 = .ok (.iadd, 1) := by decide +kernel
theorem dL_law_807 : decode cL_law 807 = .ok (.iaload, 1) := by decide +kernel
theorem dL_law_808 : decode cL_law 808 = .ok (.aload_n 0, 1) := by decide +kernel
theorem dL_law_809 : decode cL_law 809 = .ok (.iload_n 3, 1) := by decide +kernel
theorem dL_law_810 : decode cL_law 810 = .ok (.iconst 2, 1) := by decide +kernel
theorem dL_law_811 : decode cL_law 811 = .ok (.iadd, 1) := by decide +kernel
theorem dL_law_812 : decode cL_law 812 = .ok (.iaload, 1) := by decide +kernel
theorem dL_law_813 : decode cL_law 813 = .ok (.aload_n 0, 1) := by decide +kernel
theorem dL_law_814 : decode cL_law 814 = .ok (.iload_n 3, 1) := by decide +kernel
theorem dL_law_815 : decode cL_law 815 = .ok (.iconst 3, 1) := by decide +kernel
theorem dL_law_816 : decode cL_law 816 = .ok (.iadd, 1) := by decide +kernel
theorem dL_law_817 : decode cL_law 817 = .ok (.iaload, 1) := by decide +kernel
theorem dL_law_818 : decode cL_law 818 = .ok (.invokevirtual 108, 3) := by decide +kernel
theorem dL_law_821 : decode cL_law 821 = .ok (.aload_n 2, 1) := by decide +kernel
theorem dL_law_822 : decode cL_law 822 = .ok (.aload_n 0, 1) := by decide +kernel
theorem dL_law_823 : decode cL_law 823 = .ok (.iload_n 3, 1) := by decide +kernel
theorem dL_law_824 : decode cL_law 824 = .ok (.iconst 1, 1) := by decide +kernel
theorem dL_law_825 : decode cL_law 825 = .ok (.iadd, 1) := by decide +kernel
theorem dL_law_826 : decode cL_law 826 = .ok (.iaload, 1) := by decide +kernel
theorem dL_law_827 : decode cL_law 827 = .ok (.aload_n 0, 1) := by decide +kernel
theorem dL_law_828 : decode cL_law 828 = .ok (.iload_n 3, 1) := by decide +kernel
theorem dL_law_829 : decode cL_law 829 = .ok (.iconst 2, 1) := by decide +kernel
theorem dL_law_830 : decode cL_law 830 = .ok (.iadd, 1) := by decide +kernel
theorem dL_law_831 : decode cL_law 831 = .ok (.iaload, 1) := by decide +kernel
theorem dL_law_832 : decode cL_law 832 = .ok (.aload_n 0, 1) := by decide +kernel
theorem dL_law_833 : decode cL_law 833 = .ok (.iload_n 3, 1) := by decide +kernel
theorem dL_law_834 : decode cL_law 834 = .ok (.iconst 3, 1) := by decide +kernel
theorem dL_law_835 : decode cL_law 835 = .ok (.iadd, 1) := by decide +kernel
theorem dL_law_836 : decode cL_law 836 = .ok (.iaload, 1) := by decide +kernel
theorem dL_law_837 : decode cL_law 837 = .ok (.invokevirtual 111, 3) := by decide +kernel
theorem dL_law_840 : decode cL_law 840 = .ok (.if_icmp .eq 230, 3) := by decide +kernel
theorem dL_law_843 : decode cL_law 843 = .ok (.iconst 0, 1) := by decide +kernel
theorem dL_law_844 : decode cL_law 844 = .ok (.ireturn, 1) := by decide +kernel
theorem dL_law_845 : decode cL_law 845 = .ok (.aload_n 1, 1) := by decide +kernel
theorem dL_law_846 : decode cL_law 846 = .ok (.aload_n 0, 1) := by decide +kernel
theorem dL_law_847 : decode cL_law 847 = .ok (.iload_n 3, 1) := by decide +kernel
theorem dL_law_848 : decode cL_law 848 = .ok (.iconst 1, 1) := by decide +kernel
theorem dL_law_849 : decode cL_law 849 = .ok (.iadd, 1) := by decide +kernel
theorem dL_law_850 : decode cL_law 850 = .ok (.iaload, 1) := by decide +kernel
theorem dL_law_851 : decode cL_law 851 = .ok (.aload_n 0, 1) := by decide +kernel
theorem dL_law_852 : decode cL_law 852 = .ok (.iload_n 3, 1) := by decide +kernel
theorem dL_law_853 : decode cL_law 853 = .ok (.iconst 2, 1) := by decide +kernel
theorem dL_law_854 : decode cL_law 854 = .ok (.iadd, 1) := by decide +kernel
theorem dL_law_855 : decode cL_law 855 = .ok (.iaload, 1) := by decide +kernel
theorem dL_law_856 : decode cL_law 856 = .ok (.ifCond .eq 7, 3) := by decide +kernel
theorem dL_law_859 : decode cL_law 859 = .ok (.iconst 1, 1) := by decide +kernel
theorem dL_law_860 : decode cL_law 860 = .ok (.goto 4, 3) := by decide +kernel
theorem dL_law_863 : decode cL_law 863 = .ok (.iconst 0, 1) := by decide +kernel
theorem dL_law_864 : decode cL_law 864 = .ok (.invokevirtual 112, 3) := by decide +kernel
theorem dL_law_867 : decode cL_law 867 = .ok (.aload_n 2, 1) := by decide +kernel
theorem dL_law_868 : decode cL_law 868 = .ok (.aload_n 0, 1) := by decide +kernel
theorem dL_law_869 : decode cL_law 869 = .ok (.iload_n 3, 1) := by decide +kernel
theorem dL_law_870 : decode cL_law 870 = .ok (.iconst 1, 1) := by decide +kernel
theorem dL_law_871 : decode cL_law 871 = .ok (.iadd, 1) := by decide +kernel
theorem dL_law_872 : decode cL_law 872 = .ok (.iaload, 1) := by decide +kernel
theorem dL_law_873 : decode cL_law 873 = .ok (.aload_n 0, 1) := by decide +kernel
theorem dL_law_874 : decode cL_law 874 = .ok (.iload_n 3, 1) := by decide +kernel
theorem dL_law_875 : decode cL_law 875 = .ok (.iconst 2, 1) := by decide +kernel
theorem dL_law_876 : decode cL_law 876 = .ok (.iadd, 1) := by decide +kernel
theorem dL_law_877 : decode cL_law 877 = .ok (.iaload, 1) := by decide +kernel
theorem dL_law_878 : decode cL_law 878 = .ok (.ifCond .eq 7, 3) := by decide +kernel
theorem dL_law_881 : decode cL_law 881 = .ok (.iconst 1, 1) := by decide +kernel
theorem dL_law_882 : decode cL_law 882 = .ok (.goto 4, 3) := by decide +kernel
theorem dL_law_885 : decode cL_law 885 = .ok (.iconst 0, 1) := by decide +kernel
theorem dL_law_886 : decode cL_law 886 = .ok (.invokevirtual 116, 3) := by decide +kernel
theorem dL_law_889 : decode cL_law 889 = .ok (.if_icmp .eq 181, 3) := by decide +kernel
theorem dL_law_892 : decode cL_law 892 = .ok (.iconst 0, 1) := by decide +kernel
theorem dL_law_893 : decode cL_law 893 = .ok (.ireturn, 1) := by decide +kernel
theorem dL_law_894 : decode cL_law 894 = .ok (.aload_n 1, 1) := by decide +kernel
theorem dL_law_895 : decode cL_law 895 = .ok (.aload_n 0, 1) := by decide +kernel
theorem dL_law_896 : decode cL_law 896 = .ok (.iload_n 3, 1) := by decide +kernel
theorem dL_law_897 : decode cL_law 897 = .ok (.iconst 1, 1) := by decide +kernel
theorem dL_law_898 : decode cL_law 898 = .ok (.iadd, 1) := by decide +kernel
theorem dL_law_899 : decode cL_law 899 = .ok (.iaload, 1) := by decide +kernel
theorem dL_law_900 : decode cL_law 900 = .ok (.aload_n 0, 1) := by decide +kernel
theorem dL_law_901 : decode cL_law 901 = .ok (.iload_n 3, 1) := by decide +kernel
theorem dL_law_902 : decode cL_law 902 = .ok (.iconst 2, 1) := by decide +kernel
theorem dL_law_903 : decode cL_law 903 = .ok (.iadd, 1) := by decide +kernel
theorem dL_law_904 : decode cL_law 904 = .ok (.iaload, 1) := by decide +kernel
theorem dL_law_905 : decode cL_law 905 = .ok (.invokevirtual 117, 3) := by decide +kernel
theorem dL_law_908 : decode cL_law 908 = .ok (.aload_n 2, 1) := by decide +kernel
theorem dL_law_909 : decode cL_law 909 = .ok (.aload_n 0, 1) := by decide +kernel
theorem dL_law_910 : decode cL_law 910 = .ok (.iload_n 3, 1) := by decide +kernel
theorem dL_law_911 : decode cL_law 911 = .ok (.iconst 1, 1) := by decide +kernel
theorem dL_law_912 : decode cL_law 912 = .ok (.iadd, 1) := by decide +kernel
theorem dL_law_913 : decode cL_law 913 = .ok (.iaload, 1) := by decide +kernel
theorem dL_law_914 : decode cL_law 914 = .ok (.aload_n 0, 1) := by decide +kernel
theorem dL_law_915 : decode cL_law 915 = .ok (.iload_n 3, 1) := by decide +kernel
theorem dL_law_916 : decode cL_law 916 = .ok (.iconst 2, 1) := by decide +kernel
theorem dL_law_917 : decode cL_law 917 = .ok (.iadd, 1) := by decide +kernel
theorem dL_law_918 : decode cL_law 918 = .ok (.iaload, 1) := by decide +kernel
theorem dL_law_919 : decode cL_law 919 = .ok (.invokevirtual 120, 3) := by decide +kernel
theorem dL_law_922 : decode cL_law 922 = .ok (.if_icmp .eq 148, 3) := by decide +kernel
theorem dL_law_925 : decode cL_law 925 = .ok (.iconst 0, 1) := by decide +kernel
theorem dL_law_926 : decode cL_law 926 = .ok (.ireturn, 1) := by decide +kernel
theorem dL_law_927 : decode cL_law 927 = .ok (.aload_n 1, 1) := by decide +kernel
theorem dL_law_928 : decode cL_law 928 = .ok (.invokevirtual 121, 3) := by decide +kernel
theorem dL_law_931 : decode cL_law 931 = .ok (.aload_n 2, 1) := by decide +kernel
theorem dL_law_932 : decode cL_law 932 = .ok (.invokevirtual 124, 3) := by decide +kernel
theorem dL_law_935 : decode cL_law 935 = .ok (.if_icmp .eq 135, 3) := by decide +kernel
theorem dL_law_938 : decode cL_law 938 = .ok (.iconst 0, 1) := by decide +kernel
theorem dL_law_939 : decode cL_law 939 = .ok (.ireturn, 1) := by decide +kernel
theorem dL_law_940 : decode cL_law 940 = .ok (.aload_n 1, 1) := by decide +kernel
theorem dL_law_941 : decode cL_law 941 = .ok (.aload_n 0, 1) := by decide +kernel
theorem dL_law_942 : decode cL_law 942 = .ok (.iload_n 3, 1) := by decide +kernel
theorem dL_law_943 : decode cL_law 943 = .ok (.iconst 1, 1) := by decide +kernel
theorem dL_law_944 : decode cL_law 944 = .ok (.iadd, 1) := by decide +kernel
theorem dL_law_945 : decode cL_law 945 = .ok (.iaload, 1) := by decide +kernel
theorem dL_law_946 : decode cL_law 946 = .ok (.invokevirtual 125, 3) := by decide +kernel
theorem dL_law_949 : decode cL_law 949 = .ok (.aload_n 2, 1) := by decide +kernel
theorem dL_law_950 : decode cL_law 950 = .ok (.aload_n 0, 1) := by decide +kernel
theorem dL_law_951 : decode cL_law 951 = .ok (.iload_n 3, 1) := by decide +kernel
theorem dL_law_952 : decode cL_law 952 = .ok (.iconst 1, 1) := by decide +kernel
theorem dL_law_953 : decode cL_law 953 = .ok (.iadd, 1) := by decide +kernel
theorem dL_law_954 : decode cL_law 954 = .ok (.iaload, 1) := by decide +kernel
theorem dL_law_955 : decode cL_law 955 = .ok (.invokevirtual 129, 3) := by decide +kernel
theorem dL_law_958 : decode cL_law 958 = .ok (.lcmp, 1) := by decide +kernel
theorem dL_law_959 : decode cL_law 959 = .ok (.ifCond .eq 111, 3) := by decide +kernel
theorem dL_law_962 : decode cL_law 962 = .ok (.iconst 0, 1) := by decide +kernel
theorem dL_law_963 : decode cL_law 963 = .ok (.ireturn, 1) := by decide +kernel
theorem dL_law_964 : decode cL_law 964 = .ok (.aload_n 1, 1) := by decide +kernel
theorem dL_law_965 : decode cL_law 965 = .ok (.aload_n 0, 1) := by decide +kernel
theorem dL_law_966 : decode cL_law 966 = .ok (.iload_n 3, 1) := by decide +kernel
theorem dL_law_967 : decode cL_law 967 = .ok (.iconst 1, 1) := by decide +kernel
theorem dL_law_968 : decode cL_law 968 = .ok (.iadd, 1) := by decide +kernel
theorem dL_law_969 : decode cL_law 969 = .ok (.iaload, 1) := by decide +kernel
theorem dL_law_970 : decode cL_law 970 = .ok (.invokevirtual 130, 3) := by decide +kernel
theorem dL_law_973 : decode cL_law 973 = .ok (.aload_n 2, 1) := by decide +kernel
theorem dL_law_974 : decode cL_law 974 = .ok (.aload_n 0, 1) := by decide +kernel
theorem dL_law_975 : decode cL_law 975 = .ok (.iload_n 3, 1) := by decide +kernel
theorem dL_law_976 : decode cL_law 976 = .ok (.iconst 1, 1) := by decide +kernel
theorem dL_law_977 : decode cL_law 977 = .ok (.iadd, 1) := by decide +kernel
theorem dL_law_978 : decode cL_law 978 = .ok (.iaload, 1) := by decide +kernel
theorem dL_law_979 : decode cL_law 979 = .ok (.invokevirtual 133, 3) := by decide +kernel
theorem dL_law_982 : decode cL_law 982 = .ok (.if_icmp .eq 88, 3) := by decide +kernel
theorem dL_law_985 : decode cL_law 985 = .ok (.iconst 0, 1) := by decide +kernel
theorem dL_law_986 : decode cL_law 986 = .ok (.ireturn, 1) := by decide +kernel
theorem dL_law_987 : decode cL_law 987 = .ok (.aload_n 1, 1) := by decide +kernel
theorem dL_law_988 : decode cL_law 988 = .ok (.aload_n 0, 1) := by decide +kernel
theorem dL_law_989 : decode cL_law 989 = .ok (.iload_n 3, 1) := by decide +kernel
theorem dL_law_990 : decode cL_law 990 = .ok (.iconst 1, 1) := by decide +kernel
theorem dL_law_991 : decode cL_law 991 = .ok (.iadd, 1) := by decide +kernel
theorem dL_law_992 : decode cL_law 992 = .ok (.iaload, 1) := by decide +kernel
theorem dL_law_993 : decode cL_law 993 = .ok (.aload_n 0, 1) := by decide +kernel
theorem dL_law_994 : decode cL_law 994 = .ok (.iload_n 3, 1) := by decide +kernel
theorem dL_law_995 : decode cL_law 995 = .ok (.iconst 2, 1) := by decide +kernel
theorem dL_law_996 : decode cL_law 996 = .ok (.iadd, 1) := by decide +kernel
theorem dL_law_997 : decode cL_law 997 = .ok (.iaload, 1) := by decide +kernel
theorem dL_law_998 : decode cL_law 998 = .ok (.invokevirtual 134, 3) := by decide +kernel
theorem dL_law_1001 : decode cL_law 1001 = .ok (.aload_n 2, 1) := by decide +kernel
theorem dL_law_1002 : decode cL_law 1002 = .ok (.aload_n 0, 1) := by decide +kernel
theorem dL_law_1003 : decode cL_law 1003 = .ok (.iload_n 3, 1) := by decide +kernel
theorem dL_law_1004 : decode cL_law 1004 = .ok (.iconst 1, 1) := by decide +kernel
theorem dL_law_1005 : decode cL_law 1005 = .ok (.iadd, 1) := by decide +kernel
theorem dL_law_1006 : decode cL_law 1006 = .ok (.iaload, 1) := by decide +kernel
theorem dL_law_1007 : decode cL_law 1007 = .ok (.aload_n 0, 1) := by decide +kernel
theorem dL_law_1008 : decode cL_law 1008 = .ok (.iload_n 3, 1) := by decide +kernel
theorem dL_law_1009 : decode cL_law 1009 = .ok (.iconst 2, 1) := by decide +kernel
theorem dL_law_1010 : decode cL_law 1010 = .ok (.iadd, 1) := by decide +kernel
theorem dL_law_1011 : decode cL_law 1011 = .ok (.iaload, 1) := by decide +kernel
theorem dL_law_1012 : decode cL_law 1012 = .ok (.invokevirtual 137, 3) := by decide +kernel
theorem dL_law_1015 : decode cL_law 1015 = .ok (.if_icmp .eq 55, 3) := by decide +kernel
theorem dL_law_1018 : decode cL_law 1018 = .ok (.iconst 0, 1) := by decide +kernel
theorem dL_law_1019 : decode cL_law 1019 = .ok (.ireturn, 1) := by decide +kernel
theorem dL_law_1020 : decode cL_law 1020 = .ok (.aload_n 1, 1) := by decide +kernel
theorem dL_law_1021 : decode cL_law 1021 = .ok (.aload_n 0, 1) := by decide +kernel
theorem dL_law_1022 : decode cL_law 1022 = .ok (.iload_n 3, 1) := by decide +kernel
theorem dL_law_1023 : decode cL_law 1023 = .ok (.iconst 1, 1) := by decide +kernel
theorem dL_law_1024 : decode cL_law 1024 = .ok (.iadd, 1) := by decide +kernel
theorem dL_law_1025 : decode cL_law 1025 = .ok (.iaload, 1) := by decide +kernel
theorem dL_law_1026 : decode cL_law 1026 = .ok (.invokevirtual 138, 3) := by decide +kernel
theorem dL_law_1029 : decode cL_law 1029 = .ok (.aload_n 2, 1) := by decide +kernel
theorem dL_law_1030 : decode cL_law 1030 = .ok (.aload_n 0, 1) := by decide +kernel
theorem dL_law_1031 : decode cL_law 1031 = .ok (.iload_n 3, 1) := by decide +kernel
theorem dL_law_1032 : decode cL_law 1032 = .ok (.iconst 1, 1) := by decide +kernel
theorem dL_law_1033 : decode cL_law 1033 = .ok (.iadd, 1) := by decide +kernel
theorem dL_law_1034 : decode cL_law 1034 = .ok (.iaload, 1) := by decide +kernel
theorem dL_law_1035 : decode cL_law 1035 = .ok (.invokevirtual 141, 3) := by decide +kernel
theorem dL_law_1038 : decode cL_law 1038 = .ok (.if_icmp .eq 32, 3) := by decide +kernel
theorem dL_law_1041 : decode cL_law 1041 = .ok (.iconst 0, 1) := by decide +kernel
theorem dL_law_1042 : decode cL_law 1042 = .ok (.ireturn, 1) := by decide +kernel
theorem dL_law_1043 : decode cL_law 1043 = .ok (.aload_n 1, 1) := by decide +kernel
theorem dL_law_1044 : decode cL_law 1044 = .ok (.invokevirtual 142, 3) := by decide +kernel
theorem dL_law_1047 : decode cL_law 1047 = .ok (.aload_n 2, 1) := by decide +kernel
theorem dL_law_1048 : decode cL_law 1048 = .ok (.invokevirtual 145, 3) := by decide +kernel
theorem dL_law_1051 : decode cL_law 1051 = .ok (.if_icmp .eq 19, 3) := by decide +kernel
theorem dL_law_1054 : decode cL_law 1054 = .ok (.iconst 0, 1) := by decide +kernel
theorem dL_law_1055 : decode cL_law 1055 = .ok (.ireturn, 1) := by decide +kernel
theorem dL_law_1056 : decode cL_law 1056 = .ok (.aload_n 1, 1) := by decide +kernel
theorem dL_law_1057 : decode cL_law 1057 = .ok (.invokevirtual 146, 3) := by decide +kernel
theorem dL_law_1060 : decode cL_law 1060 = .ok (.aload_n 2, 1) := by decide +kernel
theorem dL_law_1061 : decode cL_law 1061 = .ok (.invokevirtual 150, 3) := by decide +kernel
theorem dL_law_1064 : decode cL_law 1064 = .ok (.lcmp, 1) := by decide +kernel
theorem dL_law_1065 : decode cL_law 1065 = .ok (.ifCond .eq 5, 3) := by decide +kernel
theorem dL_law_1068 : decode cL_law 1068 = .ok (.iconst 0, 1) := by decide +kernel
theorem dL_law_1069 : decode cL_law 1069 = .ok (.ireturn, 1) := by decide +kernel
theorem dL_law_1070 : decode cL_law 1070 = .ok (.iinc 3 6, 3) := by decide +kernel
theorem dL_law_1073 : decode cL_law 1073 = .ok (.goto (-1055), 3) := by decide +kernel
theorem dL_law_1076 : decode cL_law 1076 = .ok (.iconst 1, 1) := by decide +kernel
theorem dL_law_1077 : decode cL_law 1077 = .ok (.ireturn, 1) := by decide +kernel
