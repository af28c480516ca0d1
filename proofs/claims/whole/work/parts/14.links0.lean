abbrev mX6_init : fv_Y := (yX6_init, cX6_init, 2, none)
set_option maxRecDepth 20000 in
theorem cw_X6_init : Cond.code yX6_init cX6_init 2 (none) ∈ fv_g := fv_mem 89 rfl rfl
abbrev mX4_init : fv_Y := (yX4_init, cX4_init, 2, none)
set_option maxRecDepth 20000 in
theorem cw_X4_init : Cond.code yX4_init cX4_init 2 (none) ∈ fv_g := fv_mem 97 rfl rfl
abbrev mX0_init : fv_Y := (yX0_init, cX0_init, 1, none)
set_option maxRecDepth 20000 in
theorem cw_X0_init : Cond.code yX0_init cX0_init 1 (none) ∈ fv_g := fv_mem 106 rfl rfl
abbrev mX1_init : fv_Y := (yX1_init, cX1_init, 1, none)
set_option maxRecDepth 20000 in
theorem cw_X1_init : Cond.code yX1_init cX1_init 1 (none) ∈ fv_g := fv_mem 131 rfl rfl
abbrev mJ7_fill_53178 : fv_Y := (yJ7_fill_53178, cJ7_fill_53178, 4, none)
set_option maxRecDepth 20000 in
theorem cw_J7_fill_53178 : Cond.code yJ7_fill_53178 cJ7_fill_53178 4 (none) ∈ fv_g := fv_mem 160 rfl rfl
abbrev mX5_init : fv_Y := (yX5_init, cX5_init, 1, none)
set_option maxRecDepth 20000 in
theorem cw_X5_init : Cond.code yX5_init cX5_init 1 (none) ∈ fv_g := fv_mem 201 rfl rfl
abbrev mX2_init : fv_Y := (yX2_init, cX2_init, 1, none)
set_option maxRecDepth 20000 in
theorem cw_X2_init : Cond.code yX2_init cX2_init 1 (none) ∈ fv_g := fv_mem 232 rfl rfl
abbrev mX3_init : fv_Y := (yX3_init, cX3_init, 1, none)
set_option maxRecDepth 20000 in
theorem cw_X3_init : Cond.code yX3_init cX3_init 1 (none) ∈ fv_g := fv_mem 260 rfl rfl
abbrev mX6_bird : fv_Y := (yX6_bird, cX6_bird, 2, some (FieldType.int))
set_option maxRecDepth 20000 in
theorem cw_X6_bird : Cond.code yX6_bird cX6_bird 2 (some (FieldType.int)) ∈ fv_g := fv_mem 303 rfl rfl
abbrev mX6_isUpTo : fv_Y := (yX6_isUpTo, cX6_isUpTo, 2, some (FieldType.boolean))
set_option maxRecDepth 20000 in
theorem cw_X6_isUpTo : Cond.code yX6_isUpTo cX6_isUpTo 2 (some (FieldType.boolean)) ∈ fv_g := fv_mem 306 rfl rfl
abbrev mX6_finding : fv_Y := (yX6_finding, cX6_finding, 3, some (FieldType.int))
set_option maxRecDepth 20000 in
theorem cw_X6_finding : Cond.code yX6_finding cX6_finding 3 (some (FieldType.int)) ∈ fv_g := fv_mem 311 rfl rfl
abbrev mX4_addBird : fv_Y := (yX4_addBird, cX4_addBird, 2, some (FieldType.int))
set_option maxRecDepth 20000 in
theorem cw_X4_addBird : Cond.code yX4_addBird cX4_addBird 2 (some (FieldType.int)) ∈ fv_g := fv_mem 316 rfl rfl
abbrev mX0_hatch : fv_Y := (yX0_hatch, cX0_hatch, 2, none)
set_option maxRecDepth 20000 in
theorem cw_X0_hatch : Cond.code yX0_hatch cX0_hatch 2 (none) ∈ fv_g := fv_mem 320 rfl rfl
abbrev mX6_of : fv_Y := (yX6_of, cX6_of, 3, some (FieldType.int))
set_option maxRecDepth 20000 in
theorem cw_X6_of : Cond.code yX6_of cX6_of 3 (some (FieldType.int)) ∈ fv_g := fv_mem 325 rfl rfl
abbrev mX4_hasBird : fv_Y := (yX4_hasBird, cX4_hasBird, 2, some (FieldType.boolean))
set_option maxRecDepth 20000 in
theorem cw_X4_hasBird : Cond.code yX4_hasBird cX4_hasBird 2 (some (FieldType.boolean)) ∈ fv_g := fv_mem 329 rfl rfl
abbrev mX0_feature : fv_Y := (yX0_feature, cX0_feature, 3, some (FieldType.int))
set_option maxRecDepth 20000 in
theorem cw_X0_feature : Cond.code yX0_feature cX0_feature 3 (some (FieldType.int)) ∈ fv_g := fv_mem 334 rfl rfl
abbrev mX0_allFeathers : fv_Y := (yX0_allFeathers, cX0_allFeathers, 3, some (FieldType.int))
set_option maxRecDepth 20000 in
theorem cw_X0_allFeathers : Cond.code yX0_allFeathers cX0_allFeathers 3 (some (FieldType.int)) ∈ fv_g := fv_mem 338 rfl rfl
abbrev mX0_canFly : fv_Y := (yX0_canFly, cX0_canFly, 1, some (FieldType.boolean))
set_option maxRecDepth 20000 in
theorem cw_X0_canFly : Cond.code yX0_canFly cX0_canFly 1 (some (FieldType.boolean)) ∈ fv_g := fv_mem 342 rfl rfl
abbrev mX6_change : fv_Y := (yX6_change, cX6_change, 5, some (FieldType.int))
set_option maxRecDepth 20000 in
theorem cw_X6_change : Cond.code yX6_change cX6_change 5 (some (FieldType.int)) ∈ fv_g := fv_mem 347 rfl rfl
abbrev mX0_mostOf : fv_Y := (yX0_mostOf, cX0_mostOf, 1, some (FieldType.int))
set_option maxRecDepth 20000 in
theorem cw_X0_mostOf : Cond.code yX0_mostOf cX0_mostOf 1 (some (FieldType.int)) ∈ fv_g := fv_mem 350 rfl rfl
abbrev mX0_setFeature : fv_Y := (yX0_setFeature, cX0_setFeature, 4, none)
set_option maxRecDepth 20000 in
theorem cw_X0_setFeature : Cond.code yX0_setFeature cX0_setFeature 4 (none) ∈ fv_g := fv_mem 354 rfl rfl
abbrev mX6_motion : fv_Y := (yX6_motion, cX6_motion, 2, some (FieldType.int))
set_option maxRecDepth 20000 in
theorem cw_X6_motion : Cond.code yX6_motion cX6_motion 2 (some (FieldType.int)) ∈ fv_g := fv_mem 358 rfl rfl
abbrev mX4_addMotion : fv_Y := (yX4_addMotion, cX4_addMotion, 2, some (FieldType.int))
set_option maxRecDepth 20000 in
theorem cw_X4_addMotion : Cond.code yX4_addMotion cX4_addMotion 2 (some (FieldType.int)) ∈ fv_g := fv_mem 362 rfl rfl
abbrev mX1_begin : fv_Y := (yX1_begin, cX1_begin, 2, none)
set_option maxRecDepth 20000 in
theorem cw_X1_begin : Cond.code yX1_begin cX1_begin 2 (none) ∈ fv_g := fv_mem 366 rfl rfl
abbrev mX6_told : fv_Y := (yX6_told, cX6_told, 3, some (FieldType.int))
set_option maxRecDepth 20000 in
theorem cw_X6_told : Cond.code yX6_told cX6_told 3 (some (FieldType.int)) ∈ fv_g := fv_mem 370 rfl rfl
abbrev mX4_hasMotion : fv_Y := (yX4_hasMotion, cX4_hasMotion, 2, some (FieldType.boolean))
set_option maxRecDepth 20000 in
theorem cw_X4_hasMotion : Cond.code yX4_hasMotion cX4_hasMotion 2 (some (FieldType.boolean)) ∈ fv_g := fv_mem 374 rfl rfl
abbrev mX1_feature : fv_Y := (yX1_feature, cX1_feature, 2, some (FieldType.int))
set_option maxRecDepth 20000 in
theorem cw_X1_feature : Cond.code yX1_feature cX1_feature 2 (some (FieldType.int)) ∈ fv_g := fv_mem 378 rfl rfl
abbrev mX6_tell : fv_Y := (yX6_tell, cX6_tell, 5, some (FieldType.int))
set_option maxRecDepth 20000 in
theorem cw_X6_tell : Cond.code yX6_tell cX6_tell 5 (some (FieldType.int)) ∈ fv_g := fv_mem 382 rfl rfl
abbrev mX4_allBirds : fv_Y := (yX4_allBirds, cX4_allBirds, 1, some (FieldType.int))
set_option maxRecDepth 20000 in
theorem cw_X4_allBirds : Cond.code yX4_allBirds cX4_allBirds 1 (some (FieldType.int)) ∈ fv_g := fv_mem 386 rfl rfl
abbrev mX1_mostOf : fv_Y := (yX1_mostOf, cX1_mostOf, 2, some (FieldType.int))
set_option maxRecDepth 20000 in
theorem cw_X1_mostOf : Cond.code yX1_mostOf cX1_mostOf 2 (some (FieldType.int)) ∈ fv_g := fv_mem 389 rfl rfl
abbrev mX1_setFeature : fv_Y := (yX1_setFeature, cX1_setFeature, 3, none)
set_option maxRecDepth 20000 in
theorem cw_X1_setFeature : Cond.code yX1_setFeature cX1_setFeature 3 (none) ∈ fv_g := fv_mem 393 rfl rfl
abbrev mX6_drops : fv_Y := (yX6_drops, cX6_drops, 3, some (FieldType.int))
set_option maxRecDepth 20000 in
theorem cw_X6_drops : Cond.code yX6_drops cX6_drops 3 (some (FieldType.int)) ∈ fv_g := fv_mem 397 rfl rfl
abbrev mX4_dropOf : fv_Y := (yX4_dropOf, cX4_dropOf, 4, some (FieldType.int))
set_option maxRecDepth 20000 in
theorem cw_X4_dropOf : Cond.code yX4_dropOf cX4_dropOf 4 (some (FieldType.int)) ∈ fv_g := fv_mem 401 rfl rfl
abbrev mX4_isIn : fv_Y := (yX4_isIn, cX4_isIn, 2, some (FieldType.boolean))
set_option maxRecDepth 20000 in
theorem cw_X4_isIn : Cond.code yX4_isIn cX4_isIn 2 (some (FieldType.boolean)) ∈ fv_g := fv_mem 404 rfl rfl
abbrev mX4_againstIt : fv_Y := (yX4_againstIt, cX4_againstIt, 2, some (FieldType.int))
set_option maxRecDepth 20000 in
theorem cw_X4_againstIt : Cond.code yX4_againstIt cX4_againstIt 2 (some (FieldType.int)) ∈ fv_g := fv_mem 408 rfl rfl
abbrev mX4_crowsAmong : fv_Y := (yX4_crowsAmong, cX4_crowsAmong, 4, some (FieldType.int))
set_option maxRecDepth 20000 in
theorem cw_X4_crowsAmong : Cond.code yX4_crowsAmong cX4_crowsAmong 4 (some (FieldType.int)) ∈ fv_g := fv_mem 413 rfl rfl
abbrev mX0_isA : fv_Y := (yX0_isA, cX0_isA, 4, some (FieldType.boolean))
set_option maxRecDepth 20000 in
theorem cw_X0_isA : Cond.code yX0_isA cX0_isA 4 (some (FieldType.boolean)) ∈ fv_g := fv_mem 417 rfl rfl
abbrev mX0_dropFor : fv_Y := (yX0_dropFor, cX0_dropFor, 4, some (FieldType.int))
set_option maxRecDepth 20000 in
theorem cw_X0_dropFor : Cond.code yX0_dropFor cX0_dropFor 4 (some (FieldType.int)) ∈ fv_g := fv_mem 423 rfl rfl
abbrev mJ9_min_7cf53 : fv_Y := (yJ9_min_7cf53, cJ9_min_7cf53, 2, some (FieldType.int))
set_option maxRecDepth 20000 in
theorem cw_J9_min_7cf53 : Cond.code yJ9_min_7cf53 cJ9_min_7cf53 2 (some (FieldType.int)) ∈ fv_g := fv_mem 426 rfl rfl
abbrev mX6_side : fv_Y := (yX6_side, cX6_side, 3, some (FieldType.int))
set_option maxRecDepth 20000 in
theorem cw_X6_side : Cond.code yX6_side cX6_side 3 (some (FieldType.int)) ∈ fv_g := fv_mem 430 rfl rfl
abbrev mX4_droppedFor : fv_Y := (yX4_droppedFor, cX4_droppedFor, 2, some (FieldType.int))
set_option maxRecDepth 20000 in
theorem cw_X4_droppedFor : Cond.code yX4_droppedFor cX4_droppedFor 2 (some (FieldType.int)) ∈ fv_g := fv_mem 434 rfl rfl
abbrev mX4_droppedBy : fv_Y := (yX4_droppedBy, cX4_droppedBy, 6, some (FieldType.int))
set_option maxRecDepth 20000 in
theorem cw_X4_droppedBy : Cond.code yX4_droppedBy cX4_droppedBy 6 (some (FieldType.int)) ∈ fv_g := fv_mem 438 rfl rfl
abbrev mX4_droppedAgainst : fv_Y := (yX4_droppedAgainst, cX4_droppedAgainst, 2, some (FieldType.int))
set_option maxRecDepth 20000 in
theorem cw_X4_droppedAgainst : Cond.code yX4_droppedAgainst cX4_droppedAgainst 2 (some (FieldType.int)) ∈ fv_g := fv_mem 442 rfl rfl
abbrev mX6_passes : fv_Y := (yX6_passes, cX6_passes, 2, some (FieldType.int))
set_option maxRecDepth 20000 in
theorem cw_X6_passes : Cond.code yX6_passes cX6_passes 2 (some (FieldType.int)) ∈ fv_g := fv_mem 446 rfl rfl
abbrev mX4_wouldPass : fv_Y := (yX4_wouldPass, cX4_wouldPass, 2, some (FieldType.boolean))
set_option maxRecDepth 20000 in
theorem cw_X4_wouldPass : Cond.code yX4_wouldPass cX4_wouldPass 2 (some (FieldType.boolean)) ∈ fv_g := fv_mem 450 rfl rfl
abbrev mX1_isCarriedBy : fv_Y := (yX1_isCarriedBy, cX1_isCarriedBy, 3, some (FieldType.boolean))
set_option maxRecDepth 20000 in
theorem cw_X1_isCarriedBy : Cond.code yX1_isCarriedBy cX1_isCarriedBy 3 (some (FieldType.boolean)) ∈ fv_g := fv_mem 456 rfl rfl
abbrev mX6_vote : fv_Y := (yX6_vote, cX6_vote, 2, some (FieldType.int))
set_option maxRecDepth 20000 in
theorem cw_X6_vote : Cond.code yX6_vote cX6_vote 2 (some (FieldType.int)) ∈ fv_g := fv_mem 460 rfl rfl
abbrev mX4_castVote : fv_Y := (yX4_castVote, cX4_castVote, 5, some (FieldType.boolean))
set_option maxRecDepth 20000 in
theorem cw_X4_castVote : Cond.code yX4_castVote cX4_castVote 5 (some (FieldType.boolean)) ∈ fv_g := fv_mem 464 rfl rfl
abbrev mX4_letFall : fv_Y := (yX4_letFall, cX4_letFall, 7, some (FieldType.int))
set_option maxRecDepth 20000 in
theorem cw_X4_letFall : Cond.code yX4_letFall cX4_letFall 7 (some (FieldType.int)) ∈ fv_g := fv_mem 468 rfl rfl
abbrev mX4_enact : fv_Y := (yX4_enact, cX4_enact, 4, none)
set_option maxRecDepth 20000 in
theorem cw_X4_enact : Cond.code yX4_enact cX4_enact 4 (none) ∈ fv_g := fv_mem 473 rfl rfl
abbrev mJ9_max_7cf53 : fv_Y := (yJ9_max_7cf53, cJ9_max_7cf53, 2, some (FieldType.int))
set_option maxRecDepth 20000 in
theorem cw_J9_max_7cf53 : Cond.code yJ9_max_7cf53 cJ9_max_7cf53 2 (some (FieldType.int)) ∈ fv_g := fv_mem 476 rfl rfl
abbrev mX6_seasons : fv_Y := (yX6_seasons, cX6_seasons, 3, some (FieldType.int))
set_option maxRecDepth 20000 in
theorem cw_X6_seasons : Cond.code yX6_seasons cX6_seasons 3 (some (FieldType.int)) ∈ fv_g := fv_mem 480 rfl rfl
abbrev mX4_passSeason : fv_Y := (yX4_passSeason, cX4_passSeason, 3, none)
set_option maxRecDepth 20000 in
theorem cw_X4_passSeason : Cond.code yX4_passSeason cX4_passSeason 3 (none) ∈ fv_g := fv_mem 486 rfl rfl
abbrev mX0_grow : fv_Y := (yX0_grow, cX0_grow, 2, none)
set_option maxRecDepth 20000 in
theorem cw_X0_grow : Cond.code yX0_grow cX0_grow 2 (none) ∈ fv_g := fv_mem 490 rfl rfl
abbrev mX4_allFeathers : fv_Y := (yX4_allFeathers, cX4_allFeathers, 3, some (FieldType.int))
set_option maxRecDepth 20000 in
theorem cw_X4_allFeathers : Cond.code yX4_allFeathers cX4_allFeathers 3 (some (FieldType.int)) ∈ fv_g := fv_mem 494 rfl rfl
abbrev mX6_now : fv_Y := (yX6_now, cX6_now, 2, some (FieldType.int))
set_option maxRecDepth 20000 in
theorem cw_X6_now : Cond.code yX6_now cX6_now 2 (some (FieldType.int)) ∈ fv_g := fv_mem 499 rfl rfl
abbrev mX4_laws : fv_Y := (yX4_laws, cX4_laws, 3, some (FieldType.int))
set_option maxRecDepth 20000 in
theorem cw_X4_laws : Cond.code yX4_laws cX4_laws 3 (some (FieldType.int)) ∈ fv_g := fv_mem 503 rfl rfl
abbrev mX4_flyers : fv_Y := (yX4_flyers, cX4_flyers, 3, some (FieldType.int))
set_option maxRecDepth 20000 in
theorem cw_X4_flyers : Cond.code yX4_flyers cX4_flyers 3 (some (FieldType.int)) ∈ fv_g := fv_mem 507 rfl rfl
abbrev mX6_clears : fv_Y := (yX6_clears, cX6_clears, 3, some (FieldType.int))
set_option maxRecDepth 20000 in
theorem cw_X6_clears : Cond.code yX6_clears cX6_clears 3 (some (FieldType.int)) ∈ fv_g := fv_mem 512 rfl rfl
abbrev mX6_when : fv_Y := (yX6_when, cX6_when, 3, some (FieldType.int))
set_option maxRecDepth 20000 in
theorem cw_X6_when : Cond.code yX6_when cX6_when 3 (some (FieldType.int)) ∈ fv_g := fv_mem 516 rfl rfl
abbrev mX4_become : fv_Y := (yX4_become, cX4_become, 3, none)
set_option maxRecDepth 20000 in
theorem cw_X4_become : Cond.code yX4_become cX4_become 3 (none) ∈ fv_g := fv_mem 520 rfl rfl
abbrev mX0_become : fv_Y := (yX0_become, cX0_become, 2, none)
set_option maxRecDepth 20000 in
theorem cw_X0_become : Cond.code yX0_become cX0_become 2 (none) ∈ fv_g := fv_mem 524 rfl rfl
abbrev mX1_become : fv_Y := (yX1_become, cX1_become, 2, none)
set_option maxRecDepth 20000 in
theorem cw_X1_become : Cond.code yX1_become cX1_become 2 (none) ∈ fv_g := fv_mem 531 rfl rfl
abbrev mX6_flies : fv_Y := (yX6_flies, cX6_flies, 3, some (FieldType.int))
set_option maxRecDepth 20000 in
theorem cw_X6_flies : Cond.code yX6_flies cX6_flies 3 (some (FieldType.int)) ∈ fv_g := fv_mem 537 rfl rfl
abbrev mX6_plucked : fv_Y := (yX6_plucked, cX6_plucked, 2, some (FieldType.int))
set_option maxRecDepth 20000 in
theorem cw_X6_plucked : Cond.code yX6_plucked cX6_plucked 2 (some (FieldType.int)) ∈ fv_g := fv_mem 542 rfl rfl
abbrev mX6_hinges : fv_Y := (yX6_hinges, cX6_hinges, 6, some (FieldType.int))
set_option maxRecDepth 20000 in
theorem cw_X6_hinges : Cond.code yX6_hinges cX6_hinges 6 (some (FieldType.int)) ∈ fv_g := fv_mem 546 rfl rfl
abbrev mX6_tryWants : fv_Y := (yX6_tryWants, cX6_tryWants, 3, some (FieldType.boolean))
set_option maxRecDepth 20000 in
theorem cw_X6_tryWants : Cond.code yX6_tryWants cX6_tryWants 3 (some (FieldType.boolean)) ∈ fv_g := fv_mem 550 rfl rfl
abbrev mX6_sets : fv_Y := (yX6_sets, cX6_sets, 5, some (FieldType.int))
set_option maxRecDepth 20000 in
theorem cw_X6_sets : Cond.code yX6_sets cX6_sets 5 (some (FieldType.int)) ∈ fv_g := fv_mem 554 rfl rfl
abbrev mX6_power : fv_Y := (yX6_power, cX6_power, 7, some (FieldType.int))
set_option maxRecDepth 20000 in
theorem cw_X6_power : Cond.code yX6_power cX6_power 7 (some (FieldType.int)) ∈ fv_g := fv_mem 558 rfl rfl
abbrev mX6_won : fv_Y := (yX6_won, cX6_won, 8, some (FieldType.int))
set_option maxRecDepth 20000 in
theorem cw_X6_won : Cond.code yX6_won cX6_won 8 (some (FieldType.int)) ∈ fv_g := fv_mem 562 rfl rfl
abbrev mJ6_bitCount_0f7a4 : fv_Y := (yJ6_bitCount_0f7a4, cJ6_bitCount_0f7a4, 1, some (FieldType.int))
set_option maxRecDepth 20000 in
theorem cw_J6_bitCount_0f7a4 : Cond.code yJ6_bitCount_0f7a4 cJ6_bitCount_0f7a4 1 (some (FieldType.int)) ∈ fv_g := fv_mem 565 rfl rfl
abbrev mX6_colour : fv_Y := (yX6_colour, cX6_colour, 7, some (FieldType.int))
set_option maxRecDepth 20000 in
theorem cw_X6_colour : Cond.code yX6_colour cX6_colour 7 (some (FieldType.int)) ∈ fv_g := fv_mem 572 rfl rfl
abbrev mX4_droppedInAll : fv_Y := (yX4_droppedInAll, cX4_droppedInAll, 2, some (FieldType.int))
set_option maxRecDepth 20000 in
theorem cw_X4_droppedInAll : Cond.code yX4_droppedInAll cX4_droppedInAll 2 (some (FieldType.int)) ∈ fv_g := fv_mem 576 rfl rfl
abbrev mX6_kindFor : fv_Y := (yX6_kindFor, cX6_kindFor, 6, some (FieldType.int))
set_option maxRecDepth 20000 in
theorem cw_X6_kindFor : Cond.code yX6_kindFor cX6_kindFor 6 (some (FieldType.int)) ∈ fv_g := fv_mem 580 rfl rfl
abbrev mX4_passingNow : fv_Y := (yX4_passingNow, cX4_passingNow, 3, some (FieldType.int))
set_option maxRecDepth 20000 in
theorem cw_X4_passingNow : Cond.code yX4_passingNow cX4_passingNow 3 (some (FieldType.int)) ∈ fv_g := fv_mem 584 rfl rfl
abbrev mX6_quorum : fv_Y := (yX6_quorum, cX6_quorum, 3, some (FieldType.int))
set_option maxRecDepth 20000 in
theorem cw_X6_quorum : Cond.code yX6_quorum cX6_quorum 3 (some (FieldType.int)) ∈ fv_g := fv_mem 589 rfl rfl
abbrev mX6_agenda : fv_Y := (yX6_agenda, cX6_agenda, 2, some (FieldType.int))
set_option maxRecDepth 20000 in
theorem cw_X6_agenda : Cond.code yX6_agenda cX6_agenda 2 (some (FieldType.int)) ∈ fv_g := fv_mem 594 rfl rfl
abbrev mX6_isAgenda : fv_Y := (yX6_isAgenda, cX6_isAgenda, 2, some (FieldType.boolean))
set_option maxRecDepth 20000 in
theorem cw_X6_isAgenda : Cond.code yX6_isAgenda cX6_isAgenda 2 (some (FieldType.boolean)) ∈ fv_g := fv_mem 598 rfl rfl
abbrev mX4_allMotions : fv_Y := (yX4_allMotions, cX4_allMotions, 1, some (FieldType.int))
set_option maxRecDepth 20000 in
theorem cw_X4_allMotions : Cond.code yX4_allMotions cX4_allMotions 1 (some (FieldType.int)) ∈ fv_g := fv_mem 602 rfl rfl
abbrev mX2_seek : fv_Y := (yX2_seek, cX2_seek, 6, none)
set_option maxRecDepth 20000 in
theorem cw_X2_seek : Cond.code yX2_seek cX2_seek 6 (none) ∈ fv_g := fv_mem 606 rfl rfl
abbrev mX2_listMembers : fv_Y := (yX2_listMembers, cX2_listMembers, 3, none)
set_option maxRecDepth 20000 in
theorem cw_X2_listMembers : Cond.code yX2_listMembers cX2_listMembers 3 (none) ∈ fv_g := fv_mem 610 rfl rfl
abbrev mX4_castVotes : fv_Y := (yX4_castVotes, cX4_castVotes, 5, some (FieldType.int))
set_option maxRecDepth 20000 in
theorem cw_X4_castVotes : Cond.code yX4_castVotes cX4_castVotes 5 (some (FieldType.int)) ∈ fv_g := fv_mem 615 rfl rfl
abbrev mX2_weigh : fv_Y := (yX2_weigh, cX2_weigh, 3, none)
set_option maxRecDepth 20000 in
theorem cw_X2_weigh : Cond.code yX2_weigh cX2_weigh 3 (none) ∈ fv_g := fv_mem 621 rfl rfl
abbrev mX2_stepOrder : fv_Y := (yX2_stepOrder, cX2_stepOrder, 5, some (FieldType.boolean))
set_option maxRecDepth 20000 in
theorem cw_X2_stepOrder : Cond.code yX2_stepOrder cX2_stepOrder 5 (some (FieldType.boolean)) ∈ fv_g := fv_mem 627 rfl rfl
abbrev mX2_swap : fv_Y := (yX2_swap, cX2_swap, 4, none)
set_option maxRecDepth 20000 in
theorem cw_X2_swap : Cond.code yX2_swap cX2_swap 4 (none) ∈ fv_g := fv_mem 631 rfl rfl
abbrev mX6_ith : fv_Y := (yX6_ith, cX6_ith, 3, some (FieldType.int))
set_option maxRecDepth 20000 in
theorem cw_X6_ith : Cond.code yX6_ith cX6_ith 3 (some (FieldType.int)) ∈ fv_g := fv_mem 635 rfl rfl
abbrev mX6_ways : fv_Y := (yX6_ways, cX6_ways, 2, some (FieldType.int))
set_option maxRecDepth 20000 in
theorem cw_X6_ways : Cond.code yX6_ways cX6_ways 2 (some (FieldType.int)) ∈ fv_g := fv_mem 639 rfl rfl
abbrev mX6_left : fv_Y := (yX6_left, cX6_left, 2, some (FieldType.int))
set_option maxRecDepth 20000 in
theorem cw_X6_left : Cond.code yX6_left cX6_left 2 (some (FieldType.int)) ∈ fv_g := fv_mem 643 rfl rfl
abbrev mX6_wind : fv_Y := (yX6_wind, cX6_wind, 7, some (FieldType.long))
set_option maxRecDepth 20000 in
theorem cw_X6_wind : Cond.code yX6_wind cX6_wind 7 (some (FieldType.long)) ∈ fv_g := fv_mem 647 rfl rfl
abbrev mX6_commonDivisor : fv_Y := (yX6_commonDivisor, cX6_commonDivisor, 3, some (FieldType.int))
set_option maxRecDepth 20000 in
theorem cw_X6_commonDivisor : Cond.code yX6_commonDivisor cX6_commonDivisor 3 (some (FieldType.int)) ∈ fv_g := fv_mem 651 rfl rfl
abbrev mX6_powerOf : fv_Y := (yX6_powerOf, cX6_powerOf, 5, some (FieldType.long))
set_option maxRecDepth 20000 in
theorem cw_X6_powerOf : Cond.code yX6_powerOf cX6_powerOf 5 (some (FieldType.long)) ∈ fv_g := fv_mem 654 rfl rfl
abbrev mX6_fits : fv_Y := (yX6_fits, cX6_fits, 6, some (FieldType.int))
set_option maxRecDepth 20000 in
theorem cw_X6_fits : Cond.code yX6_fits cX6_fits 6 (some (FieldType.int)) ∈ fv_g := fv_mem 658 rfl rfl
abbrev mX3_isMissing : fv_Y := (yX3_isMissing, cX3_isMissing, 1, some (FieldType.boolean))
set_option maxRecDepth 20000 in
theorem cw_X3_isMissing : Cond.code yX3_isMissing cX3_isMissing 1 (some (FieldType.boolean)) ∈ fv_g := fv_mem 662 rfl rfl
abbrev mX3_allows : fv_Y := (yX3_allows, cX3_allows, 3, some (FieldType.boolean))
set_option maxRecDepth 20000 in
theorem cw_X3_allows : Cond.code yX3_allows cX3_allows 3 (some (FieldType.boolean)) ∈ fv_g := fv_mem 667 rfl rfl
abbrev mX6_stolen : fv_Y := (yX6_stolen, cX6_stolen, 5, some (FieldType.int))
set_option maxRecDepth 20000 in
theorem cw_X6_stolen : Cond.code yX6_stolen cX6_stolen 5 (some (FieldType.int)) ∈ fv_g := fv_mem 672 rfl rfl
abbrev mX6_isRobbed : fv_Y := (yX6_isRobbed, cX6_isRobbed, 4, some (FieldType.boolean))
set_option maxRecDepth 20000 in
theorem cw_X6_isRobbed : Cond.code yX6_isRobbed cX6_isRobbed 4 (some (FieldType.boolean)) ∈ fv_g := fv_mem 675 rfl rfl
abbrev mX6_years : fv_Y := (yX6_years, cX6_years, 4, some (FieldType.int))
set_option maxRecDepth 20000 in
theorem cw_X6_years : Cond.code yX6_years cX6_years 4 (some (FieldType.int)) ∈ fv_g := fv_mem 680 rfl rfl
abbrev mX4_draw : fv_Y := (yX4_draw, cX4_draw, 1, some (FieldType.int))
set_option maxRecDepth 20000 in
theorem cw_X4_draw : Cond.code yX4_draw cX4_draw 1 (some (FieldType.int)) ∈ fv_g := fv_mem 684 rfl rfl
abbrev mX6_seed : fv_Y := (yX6_seed, cX6_seed, 3, some (FieldType.int))
set_option maxRecDepth 20000 in
theorem cw_X6_seed : Cond.code yX6_seed cX6_seed 3 (some (FieldType.int)) ∈ fv_g := fv_mem 689 rfl rfl
abbrev mX6_feed : fv_Y := (yX6_feed, cX6_feed, 4, some (FieldType.int))
set_option maxRecDepth 20000 in
theorem cw_X6_feed : Cond.code yX6_feed cX6_feed 4 (some (FieldType.int)) ∈ fv_g := fv_mem 693 rfl rfl
abbrev mX5_add : fv_Y := (yX5_add, cX5_add, 2, none)
set_option maxRecDepth 20000 in
theorem cw_X5_add : Cond.code yX5_add cX5_add 2 (none) ∈ fv_g := fv_mem 697 rfl rfl
abbrev mX6_wipe : fv_Y := (yX6_wipe, cX6_wipe, 2, some (FieldType.int))
set_option maxRecDepth 20000 in
theorem cw_X6_wipe : Cond.code yX6_wipe cX6_wipe 2 (some (FieldType.int)) ∈ fv_g := fv_mem 701 rfl rfl
abbrev mX6_text : fv_Y := (yX6_text, cX6_text, 2, some (FieldType.int))
set_option maxRecDepth 20000 in
theorem cw_X6_text : Cond.code yX6_text cX6_text 2 (some (FieldType.int)) ∈ fv_g := fv_mem 705 rfl rfl
abbrev mX5_readInto : fv_Y := (yX5_readInto, cX5_readInto, 3, some (FieldType.int))
set_option maxRecDepth 20000 in
theorem cw_X5_readInto : Cond.code yX5_readInto cX5_readInto 3 (some (FieldType.int)) ∈ fv_g := fv_mem 709 rfl rfl
abbrev mX5_split : fv_Y := (yX5_split, cX5_split, 4, none)
set_option maxRecDepth 20000 in
theorem cw_X5_split : Cond.code yX5_split cX5_split 4 (none) ∈ fv_g := fv_mem 713 rfl rfl
abbrev mX5_sortAt : fv_Y := (yX5_sortAt, cX5_sortAt, 3, some (FieldType.int))
set_option maxRecDepth 20000 in
theorem cw_X5_sortAt : Cond.code yX5_sortAt cX5_sortAt 3 (some (FieldType.int)) ∈ fv_g := fv_mem 717 rfl rfl
abbrev mX5_isLong : fv_Y := (yX5_isLong, cX5_isLong, 1, some (FieldType.boolean))
set_option maxRecDepth 20000 in
theorem cw_X5_isLong : Cond.code yX5_isLong cX5_isLong 1 (some (FieldType.boolean)) ∈ fv_g := fv_mem 720 rfl rfl
abbrev mX5_addToken : fv_Y := (yX5_addToken, cX5_addToken, 4, none)
set_option maxRecDepth 20000 in
theorem cw_X5_addToken : Cond.code yX5_addToken cX5_addToken 4 (none) ∈ fv_g := fv_mem 724 rfl rfl
abbrev mX5_readItem : fv_Y := (yX5_readItem, cX5_readItem, 3, some (FieldType.boolean))
set_option maxRecDepth 20000 in
theorem cw_X5_readItem : Cond.code yX5_readItem cX5_readItem 3 (some (FieldType.boolean)) ∈ fv_g := fv_mem 728 rfl rfl
abbrev mX5_kindHere : fv_Y := (yX5_kindHere, cX5_kindHere, 2, some (FieldType.int))
set_option maxRecDepth 20000 in
theorem cw_X5_kindHere : Cond.code yX5_kindHere cX5_kindHere 2 (some (FieldType.int)) ∈ fv_g := fv_mem 732 rfl rfl
abbrev mX5_nameOf : fv_Y := (yX5_nameOf, cX5_nameOf, 1, some ((FieldType.object "java/lang/String")))
set_option maxRecDepth 20000 in
theorem cw_X5_nameOf : Cond.code yX5_nameOf cX5_nameOf 1 (some ((FieldType.object "java/lang/String"))) ∈ fv_g := fv_mem 735 rfl rfl
abbrev mX5_isWord : fv_Y := (yX5_isWord, cX5_isWord, 3, some (FieldType.boolean))
set_option maxRecDepth 20000 in
theorem cw_X5_isWord : Cond.code yX5_isWord cX5_isWord 3 (some (FieldType.boolean)) ∈ fv_g := fv_mem 746 rfl rfl
abbrev mJ0_length_8abf5 : fv_Y := (yJ0_length_8abf5, cJ0_length_8abf5, 1, some (FieldType.int))
set_option maxRecDepth 20000 in
theorem cw_J0_length_8abf5 : Cond.code yJ0_length_8abf5 cJ0_length_8abf5 1 (some (FieldType.int)) ∈ fv_g := fv_mem 750 rfl rfl
abbrev mJ0_coder_7d493 : fv_Y := (yJ0_coder_7d493, cJ0_coder_7d493, 1, some (FieldType.byte))
set_option maxRecDepth 20000 in
theorem cw_J0_coder_7d493 : Cond.code yJ0_coder_7d493 cJ0_coder_7d493 1 (some (FieldType.byte)) ∈ fv_g := fv_mem 754 rfl rfl
abbrev mJ0_charAt_5068e : fv_Y := (yJ0_charAt_5068e, cJ0_charAt_5068e, 2, some (FieldType.char))
set_option maxRecDepth 20000 in
theorem cw_J0_charAt_5068e : Cond.code yJ0_charAt_5068e cJ0_charAt_5068e 2 (some (FieldType.char)) ∈ fv_g := fv_mem 760 rfl rfl
abbrev mJ0_isLatin1_aae02 : fv_Y := (yJ0_isLatin1_aae02, cJ0_isLatin1_aae02, 1, some (FieldType.boolean))
set_option maxRecDepth 20000 in
theorem cw_J0_isLatin1_aae02 : Cond.code yJ0_isLatin1_aae02 cJ0_isLatin1_aae02 1 (some (FieldType.boolean)) ∈ fv_g := fv_mem 764 rfl rfl
abbrev mJ1_charAt_3b067 : fv_Y := (yJ1_charAt_3b067, cJ1_charAt_3b067, 2, some (FieldType.char))
set_option maxRecDepth 20000 in
theorem cw_J1_charAt_3b067 : Cond.code yJ1_charAt_3b067 cJ1_charAt_3b067 2 (some (FieldType.char)) ∈ fv_g := fv_mem 767 rfl rfl
abbrev mJ0_checkIndex_df160 : fv_Y := (yJ0_checkIndex_df160, cJ0_checkIndex_df160, 2, none)
set_option maxRecDepth 20000 in
theorem cw_J0_checkIndex_df160 : Cond.code yJ0_checkIndex_df160 cJ0_checkIndex_df160 2 (none) ∈ fv_g := fv_mem 770 rfl rfl
abbrev mJ3_checkIndex_8e157 : fv_Y := (yJ3_checkIndex_8e157, cJ3_checkIndex_8e157, 3, some (FieldType.int))
set_option maxRecDepth 20000 in
theorem cw_J3_checkIndex_8e157 : Cond.code yJ3_checkIndex_8e157 cJ3_checkIndex_8e157 3 (some (FieldType.int)) ∈ fv_g := fv_mem 775 rfl rfl
abbrev mJ2_charAt_3b067 : fv_Y := (yJ2_charAt_3b067, cJ2_charAt_3b067, 2, some (FieldType.char))
set_option maxRecDepth 20000 in
theorem cw_J2_charAt_3b067 : Cond.code yJ2_charAt_3b067 cJ2_charAt_3b067 2 (some (FieldType.char)) ∈ fv_g := fv_mem 778 rfl rfl
abbrev mJ2_checkIndex_2214a : fv_Y := (yJ2_checkIndex_2214a, cJ2_checkIndex_2214a, 2, none)
set_option maxRecDepth 20000 in
theorem cw_J2_checkIndex_2214a : Cond.code yJ2_checkIndex_2214a cJ2_checkIndex_2214a 2 (none) ∈ fv_g := fv_mem 781 rfl rfl
abbrev mJ2_length_9d52b : fv_Y := (yJ2_length_9d52b, cJ2_length_9d52b, 1, some (FieldType.int))
set_option maxRecDepth 20000 in
theorem cw_J2_length_9d52b : Cond.code yJ2_length_9d52b cJ2_length_9d52b 1 (some (FieldType.int)) ∈ fv_g := fv_mem 784 rfl rfl
abbrev mJ2_getChar_3b067 : fv_Y := (yJ2_getChar_3b067, cJ2_getChar_3b067, 2, some (FieldType.char))
set_option maxRecDepth 20000 in
theorem cw_J2_getChar_3b067 : Cond.code yJ2_getChar_3b067 cJ2_getChar_3b067 2 (some (FieldType.char)) ∈ fv_g := fv_mem 788 rfl rfl
abbrev mX5_readBird : fv_Y := (yX5_readBird, cX5_readBird, 5, some (FieldType.boolean))
set_option maxRecDepth 20000 in
theorem cw_X5_readBird : Cond.code yX5_readBird cX5_readBird 5 (some (FieldType.boolean)) ∈ fv_g := fv_mem 798 rfl rfl
abbrev mX5_advance : fv_Y := (yX5_advance, cX5_advance, 1, none)
set_option maxRecDepth 20000 in
theorem cw_X5_advance : Cond.code yX5_advance cX5_advance 1 (none) ∈ fv_g := fv_mem 803 rfl rfl
abbrev mX5_readFeathers : fv_Y := (yX5_readFeathers, cX5_readFeathers, 4, some (FieldType.boolean))
set_option maxRecDepth 20000 in
theorem cw_X5_readFeathers : Cond.code yX5_readFeathers cX5_readFeathers 4 (some (FieldType.boolean)) ∈ fv_g := fv_mem 807 rfl rfl
abbrev mX5_takeWord : fv_Y := (yX5_takeWord, cX5_takeWord, 3, some (FieldType.boolean))
set_option maxRecDepth 20000 in
theorem cw_X5_takeWord : Cond.code yX5_takeWord cX5_takeWord 3 (some (FieldType.boolean)) ∈ fv_g := fv_mem 812 rfl rfl
abbrev mX5_takeNumber : fv_Y := (yX5_takeNumber, cX5_takeNumber, 4, some (FieldType.int))
set_option maxRecDepth 20000 in
theorem cw_X5_takeNumber : Cond.code yX5_takeNumber cX5_takeNumber 4 (some (FieldType.int)) ∈ fv_g := fv_mem 816 rfl rfl
abbrev mX5_readBirdFeature : fv_Y := (yX5_readBirdFeature, cX5_readBirdFeature, 5, some (FieldType.boolean))
set_option maxRecDepth 20000 in
theorem cw_X5_readBirdFeature : Cond.code yX5_readBirdFeature cX5_readBirdFeature 5 (some (FieldType.boolean)) ∈ fv_g := fv_mem 822 rfl rfl
abbrev mX5_readMotion : fv_Y := (yX5_readMotion, cX5_readMotion, 6, some (FieldType.boolean))
set_option maxRecDepth 20000 in
theorem cw_X5_readMotion : Cond.code yX5_readMotion cX5_readMotion 6 (some (FieldType.boolean)) ∈ fv_g := fv_mem 830 rfl rfl
abbrev mX5_readMotionFeature : fv_Y := (yX5_readMotionFeature, cX5_readMotionFeature, 6, some (FieldType.boolean))
set_option maxRecDepth 20000 in
theorem cw_X5_readMotionFeature : Cond.code yX5_readMotionFeature cX5_readMotionFeature 6 (some (FieldType.boolean)) ∈ fv_g := fv_mem 837 rfl rfl
abbrev mX5_readSeason : fv_Y := (yX5_readSeason, cX5_readSeason, 3, some (FieldType.boolean))
set_option maxRecDepth 20000 in
theorem cw_X5_readSeason : Cond.code yX5_readSeason cX5_readSeason 3 (some (FieldType.boolean)) ∈ fv_g := fv_mem 846 rfl rfl
abbrev mX6_hold : fv_Y := (yX6_hold, cX6_hold, 3, some (FieldType.int))
set_option maxRecDepth 20000 in
theorem cw_X6_hold : Cond.code yX6_hold cX6_hold 3 (some (FieldType.int)) ∈ fv_g := fv_mem 851 rfl rfl
abbrev mX6_as : fv_Y := (yX6_as, cX6_as, 4, some (FieldType.int))
set_option maxRecDepth 20000 in
theorem cw_X6_as : Cond.code yX6_as cX6_as 4 (some (FieldType.int)) ∈ fv_g := fv_mem 855 rfl rfl
abbrev mX6_sheet : fv_Y := (yX6_sheet, cX6_sheet, 4, some (FieldType.int))
set_option maxRecDepth 20000 in
theorem cw_X6_sheet : Cond.code yX6_sheet cX6_sheet 4 (some (FieldType.int)) ∈ fv_g := fv_mem 861 rfl rfl
abbrev mX3_hasBits : fv_Y := (yX3_hasBits, cX3_hasBits, 1, some (FieldType.boolean))
set_option maxRecDepth 20000 in
theorem cw_X3_hasBits : Cond.code yX3_hasBits cX3_hasBits 1 (some (FieldType.boolean)) ∈ fv_g := fv_mem 864 rfl rfl
abbrev mX3_begin : fv_Y := (yX3_begin, cX3_begin, 3, none)
set_option maxRecDepth 20000 in
theorem cw_X3_begin : Cond.code yX3_begin cX3_begin 3 (none) ∈ fv_g := fv_mem 868 rfl rfl
abbrev mX6_write : fv_Y := (yX6_write, cX6_write, 4, some (FieldType.int))
set_option maxRecDepth 20000 in
theorem cw_X6_write : Cond.code yX6_write cX6_write 4 (some (FieldType.int)) ∈ fv_g := fv_mem 873 rfl rfl
abbrev mX3_put : fv_Y := (yX3_put, cX3_put, 3, none)
set_option maxRecDepth 20000 in
theorem cw_X3_put : Cond.code yX3_put cX3_put 3 (none) ∈ fv_g := fv_mem 877 rfl rfl
abbrev mX6_copy : fv_Y := (yX6_copy, cX6_copy, 8, some (FieldType.int))
set_option maxRecDepth 20000 in
theorem cw_X6_copy : Cond.code yX6_copy cX6_copy 8 (some (FieldType.int)) ∈ fv_g := fv_mem 881 rfl rfl
abbrev mX3_hasRange : fv_Y := (yX3_hasRange, cX3_hasRange, 3, some (FieldType.boolean))
set_option maxRecDepth 20000 in
theorem cw_X3_hasRange : Cond.code yX3_hasRange cX3_hasRange 3 (some (FieldType.boolean)) ∈ fv_g := fv_mem 885 rfl rfl
abbrev mX6_load : fv_Y := (yX6_load, cX6_load, 4, some (FieldType.int))
set_option maxRecDepth 20000 in
theorem cw_X6_load : Cond.code yX6_load cX6_load 4 (some (FieldType.int)) ∈ fv_g := fv_mem 890 rfl rfl
abbrev mX6_judge : fv_Y := (yX6_judge, cX6_judge, 4, some (FieldType.int))
set_option maxRecDepth 20000 in
theorem cw_X6_judge : Cond.code yX6_judge cX6_judge 4 (some (FieldType.int)) ∈ fv_g := fv_mem 894 rfl rfl
abbrev mX6_image : fv_Y := (yX6_image, cX6_image, 1, some (FieldType.int))
set_option maxRecDepth 20000 in
theorem cw_X6_image : Cond.code yX6_image cX6_image 1 (some (FieldType.int)) ∈ fv_g := fv_mem 899 rfl rfl
abbrev mX6_undo : fv_Y := (yX6_undo, cX6_undo, 1, some (FieldType.int))
set_option maxRecDepth 20000 in
theorem cw_X6_undo : Cond.code yX6_undo cX6_undo 1 (some (FieldType.int)) ∈ fv_g := fv_mem 903 rfl rfl
abbrev mX6_tear : fv_Y := (yX6_tear, cX6_tear, 2, some (FieldType.int))
set_option maxRecDepth 20000 in
theorem cw_X6_tear : Cond.code yX6_tear cX6_tear 2 (some (FieldType.int)) ∈ fv_g := fv_mem 907 rfl rfl
abbrev mX6_count : fv_Y := (yX6_count, cX6_count, 2, some (FieldType.int))
set_option maxRecDepth 20000 in
theorem cw_X6_count : Cond.code yX6_count cX6_count 2 (some (FieldType.int)) ∈ fv_g := fv_mem 911 rfl rfl
abbrev mX4_spotsTaken : fv_Y := (yX4_spotsTaken, cX4_spotsTaken, 3, some (FieldType.int))
set_option maxRecDepth 20000 in
theorem cw_X4_spotsTaken : Cond.code yX4_spotsTaken cX4_spotsTaken 3 (some (FieldType.int)) ∈ fv_g := fv_mem 915 rfl rfl
abbrev mX6_status : fv_Y := (yX6_status, cX6_status, 4, some (FieldType.int))
set_option maxRecDepth 20000 in
theorem cw_X6_status : Cond.code yX6_status cX6_status 4 (some (FieldType.int)) ∈ fv_g := fv_mem 919 rfl rfl
abbrev mX7_init : fv_Y := (yX7_init, cX7_init, 2, none)
set_option maxRecDepth 20000 in
theorem cw_X7_init : Cond.code yX7_init cX7_init 2 (none) ∈ fv_g := fv_mem 924 rfl rfl
abbrev mX7_bird : fv_Y := (yX7_bird, cX7_bird, 2, some (FieldType.int))
set_option maxRecDepth 20000 in
theorem cw_X7_bird : Cond.code yX7_bird cX7_bird 2 (some (FieldType.int)) ∈ fv_g := fv_mem 1006 rfl rfl
abbrev mX7_in1 : fv_Y := (yX7_in1, cX7_in1, 3, some (FieldType.boolean))
set_option maxRecDepth 20000 in
theorem cw_X7_in1 : Cond.code yX7_in1 cX7_in1 3 (some (FieldType.boolean)) ∈ fv_g := fv_mem 1009 rfl rfl
abbrev mX7_no : fv_Y := (yX7_no, cX7_no, 2, some (FieldType.int))
set_option maxRecDepth 20000 in
theorem cw_X7_no : Cond.code yX7_no cX7_no 2 (some (FieldType.int)) ∈ fv_g := fv_mem 1013 rfl rfl
abbrev mX7_addsBird : fv_Y := (yX7_addsBird, cX7_addsBird, 4, none)
set_option maxRecDepth 20000 in
theorem cw_X7_addsBird : Cond.code yX7_addsBird cX7_addsBird 4 (none) ∈ fv_g := fv_mem 1018 rfl rfl
abbrev mX7_puts : fv_Y := (yX7_puts, cX7_puts, 4, none)
set_option maxRecDepth 20000 in
theorem cw_X7_puts : Cond.code yX7_puts cX7_puts 4 (none) ∈ fv_g := fv_mem 1022 rfl rfl
abbrev mX7_of : fv_Y := (yX7_of, cX7_of, 3, some (FieldType.int))
set_option maxRecDepth 20000 in
theorem cw_X7_of : Cond.code yX7_of cX7_of 3 (some (FieldType.int)) ∈ fv_g := fv_mem 1026 rfl rfl
abbrev mX7_isBird : fv_Y := (yX7_isBird, cX7_isBird, 2, some (FieldType.boolean))
set_option maxRecDepth 20000 in
theorem cw_X7_isBird : Cond.code yX7_isBird cX7_isBird 2 (some (FieldType.boolean)) ∈ fv_g := fv_mem 1030 rfl rfl
abbrev mX7_get : fv_Y := (yX7_get, cX7_get, 3, some (FieldType.int))
set_option maxRecDepth 20000 in
theorem cw_X7_get : Cond.code yX7_get cX7_get 3 (some (FieldType.int)) ∈ fv_g := fv_mem 1034 rfl rfl
abbrev mX7_feathers : fv_Y := (yX7_feathers, cX7_feathers, 2, some (FieldType.int))
set_option maxRecDepth 20000 in
theorem cw_X7_feathers : Cond.code yX7_feathers cX7_feathers 2 (some (FieldType.int)) ∈ fv_g := fv_mem 1038 rfl rfl
abbrev mX7_doesFly : fv_Y := (yX7_doesFly, cX7_doesFly, 2, some (FieldType.boolean))
set_option maxRecDepth 20000 in
theorem cw_X7_doesFly : Cond.code yX7_doesFly cX7_doesFly 2 (some (FieldType.boolean)) ∈ fv_g := fv_mem 1042 rfl rfl
abbrev mX7_change : fv_Y := (yX7_change, cX7_change, 5, some (FieldType.int))
set_option maxRecDepth 20000 in
theorem cw_X7_change : Cond.code yX7_change cX7_change 5 (some (FieldType.int)) ∈ fv_g := fv_mem 1046 rfl rfl
abbrev mX7_motion : fv_Y := (yX7_motion, cX7_motion, 2, some (FieldType.int))
set_option maxRecDepth 20000 in
theorem cw_X7_motion : Cond.code yX7_motion cX7_motion 2 (some (FieldType.int)) ∈ fv_g := fv_mem 1050 rfl rfl
abbrev mX7_addsMotion : fv_Y := (yX7_addsMotion, cX7_addsMotion, 4, none)
set_option maxRecDepth 20000 in
theorem cw_X7_addsMotion : Cond.code yX7_addsMotion cX7_addsMotion 4 (none) ∈ fv_g := fv_mem 1054 rfl rfl
abbrev mX7_puts1 : fv_Y := (yX7_puts1, cX7_puts1, 4, none)
set_option maxRecDepth 20000 in
theorem cw_X7_puts1 : Cond.code yX7_puts1 cX7_puts1 4 (none) ∈ fv_g := fv_mem 1058 rfl rfl
abbrev mX7_told : fv_Y := (yX7_told, cX7_told, 3, some (FieldType.int))
set_option maxRecDepth 20000 in
theorem cw_X7_told : Cond.code yX7_told cX7_told 3 (some (FieldType.int)) ∈ fv_g := fv_mem 1062 rfl rfl
abbrev mX7_isMotion : fv_Y := (yX7_isMotion, cX7_isMotion, 2, some (FieldType.boolean))
set_option maxRecDepth 20000 in
theorem cw_X7_isMotion : Cond.code yX7_isMotion cX7_isMotion 2 (some (FieldType.boolean)) ∈ fv_g := fv_mem 1066 rfl rfl
abbrev mX7_of1 : fv_Y := (yX7_of1, cX7_of1, 3, some (FieldType.int))
set_option maxRecDepth 20000 in
theorem cw_X7_of1 : Cond.code yX7_of1 cX7_of1 3 (some (FieldType.int)) ∈ fv_g := fv_mem 1070 rfl rfl
abbrev mX7_tell : fv_Y := (yX7_tell, cX7_tell, 5, some (FieldType.int))
set_option maxRecDepth 20000 in
theorem cw_X7_tell : Cond.code yX7_tell cX7_tell 5 (some (FieldType.int)) ∈ fv_g := fv_mem 1074 rfl rfl
abbrev mX7_greatest : fv_Y := (yX7_greatest, cX7_greatest, 2, some (FieldType.int))
set_option maxRecDepth 20000 in
theorem cw_X7_greatest : Cond.code yX7_greatest cX7_greatest 2 (some (FieldType.int)) ∈ fv_g := fv_mem 1078 rfl rfl
abbrev mX7_allBirds : fv_Y := (yX7_allBirds, cX7_allBirds, 1, some (FieldType.int))
set_option maxRecDepth 20000 in
theorem cw_X7_allBirds : Cond.code yX7_allBirds cX7_allBirds 1 (some (FieldType.int)) ∈ fv_g := fv_mem 1082 rfl rfl
abbrev mX7_drops : fv_Y := (yX7_drops, cX7_drops, 3, some (FieldType.int))
set_option maxRecDepth 20000 in
theorem cw_X7_drops : Cond.code yX7_drops cX7_drops 3 (some (FieldType.int)) ∈ fv_g := fv_mem 1086 rfl rfl
abbrev mX7_dropsBy : fv_Y := (yX7_dropsBy, cX7_dropsBy, 8, some (FieldType.int))
set_option maxRecDepth 20000 in
theorem cw_X7_dropsBy : Cond.code yX7_dropsBy cX7_dropsBy 8 (some (FieldType.int)) ∈ fv_g := fv_mem 1090 rfl rfl
abbrev mX7_crowsBeside : fv_Y := (yX7_crowsBeside, cX7_crowsBeside, 5, some (FieldType.int))
set_option maxRecDepth 20000 in
theorem cw_X7_crowsBeside : Cond.code yX7_crowsBeside cX7_crowsBeside 5 (some (FieldType.int)) ∈ fv_g := fv_mem 1094 rfl rfl
abbrev mX7_isIn : fv_Y := (yX7_isIn, cX7_isIn, 2, some (FieldType.boolean))
set_option maxRecDepth 20000 in
theorem cw_X7_isIn : Cond.code yX7_isIn cX7_isIn 2 (some (FieldType.boolean)) ∈ fv_g := fv_mem 1097 rfl rfl
abbrev mX7_less : fv_Y := (yX7_less, cX7_less, 2, some (FieldType.int))
set_option maxRecDepth 20000 in
theorem cw_X7_less : Cond.code yX7_less cX7_less 2 (some (FieldType.int)) ∈ fv_g := fv_mem 1100 rfl rfl
abbrev mX7_side : fv_Y := (yX7_side, cX7_side, 3, some (FieldType.int))
set_option maxRecDepth 20000 in
theorem cw_X7_side : Cond.code yX7_side cX7_side 3 (some (FieldType.int)) ∈ fv_g := fv_mem 1104 rfl rfl
abbrev mX7_sideBy : fv_Y := (yX7_sideBy, cX7_sideBy, 6, some (FieldType.int))
set_option maxRecDepth 20000 in
theorem cw_X7_sideBy : Cond.code yX7_sideBy cX7_sideBy 6 (some (FieldType.int)) ∈ fv_g := fv_mem 1108 rfl rfl
abbrev mX7_passes : fv_Y := (yX7_passes, cX7_passes, 2, some (FieldType.int))
set_option maxRecDepth 20000 in
theorem cw_X7_passes : Cond.code yX7_passes cX7_passes 2 (some (FieldType.int)) ∈ fv_g := fv_mem 1112 rfl rfl
abbrev mX7_passesNow : fv_Y := (yX7_passesNow, cX7_passesNow, 2, some (FieldType.boolean))
set_option maxRecDepth 20000 in
theorem cw_X7_passesNow : Cond.code yX7_passesNow cX7_passesNow 2 (some (FieldType.boolean)) ∈ fv_g := fv_mem 1116 rfl rfl
abbrev mX7_passesBy : fv_Y := (yX7_passesBy, cX7_passesBy, 5, some (FieldType.boolean))
set_option maxRecDepth 20000 in
theorem cw_X7_passesBy : Cond.code yX7_passesBy cX7_passesBy 5 (some (FieldType.boolean)) ∈ fv_g := fv_mem 1120 rfl rfl
abbrev mX7_vote : fv_Y := (yX7_vote, cX7_vote, 2, some (FieldType.int))
set_option maxRecDepth 20000 in
theorem cw_X7_vote : Cond.code yX7_vote cX7_vote 2 (some (FieldType.int)) ∈ fv_g := fv_mem 1124 rfl rfl
abbrev mX7_votes : fv_Y := (yX7_votes, cX7_votes, 5, some (FieldType.boolean))
set_option maxRecDepth 20000 in
theorem cw_X7_votes : Cond.code yX7_votes cX7_votes 5 (some (FieldType.boolean)) ∈ fv_g := fv_mem 1128 rfl rfl
abbrev mX7_comesEffect : fv_Y := (yX7_comesEffect, cX7_comesEffect, 5, none)
set_option maxRecDepth 20000 in
theorem cw_X7_comesEffect : Cond.code yX7_comesEffect cX7_comesEffect 5 (none) ∈ fv_g := fv_mem 1132 rfl rfl
abbrev mX7_seasons : fv_Y := (yX7_seasons, cX7_seasons, 3, some (FieldType.int))
set_option maxRecDepth 20000 in
theorem cw_X7_seasons : Cond.code yX7_seasons cX7_seasons 3 (some (FieldType.int)) ∈ fv_g := fv_mem 1136 rfl rfl
abbrev mX7_goesSeason : fv_Y := (yX7_goesSeason, cX7_goesSeason, 3, none)
set_option maxRecDepth 20000 in
theorem cw_X7_goesSeason : Cond.code yX7_goesSeason cX7_goesSeason 3 (none) ∈ fv_g := fv_mem 1141 rfl rfl
abbrev mX7_allFeathers : fv_Y := (yX7_allFeathers, cX7_allFeathers, 3, some (FieldType.int))
set_option maxRecDepth 20000 in
theorem cw_X7_allFeathers : Cond.code yX7_allFeathers cX7_allFeathers 3 (some (FieldType.int)) ∈ fv_g := fv_mem 1145 rfl rfl
abbrev mX7_now : fv_Y := (yX7_now, cX7_now, 2, some (FieldType.int))
set_option maxRecDepth 20000 in
theorem cw_X7_now : Cond.code yX7_now cX7_now 2 (some (FieldType.int)) ∈ fv_g := fv_mem 1149 rfl rfl
abbrev mX7_laws : fv_Y := (yX7_laws, cX7_laws, 3, some (FieldType.int))
set_option maxRecDepth 20000 in
theorem cw_X7_laws : Cond.code yX7_laws cX7_laws 3 (some (FieldType.int)) ∈ fv_g := fv_mem 1153 rfl rfl
abbrev mX7_flying : fv_Y := (yX7_flying, cX7_flying, 3, some (FieldType.int))
set_option maxRecDepth 20000 in
theorem cw_X7_flying : Cond.code yX7_flying cX7_flying 3 (some (FieldType.int)) ∈ fv_g := fv_mem 1157 rfl rfl
abbrev mX7_clears : fv_Y := (yX7_clears, cX7_clears, 3, some (FieldType.int))
set_option maxRecDepth 20000 in
theorem cw_X7_clears : Cond.code yX7_clears cX7_clears 3 (some (FieldType.int)) ∈ fv_g := fv_mem 1161 rfl rfl
abbrev mX7_when : fv_Y := (yX7_when, cX7_when, 4, some (FieldType.int))
set_option maxRecDepth 20000 in
theorem cw_X7_when : Cond.code yX7_when cX7_when 4 (some (FieldType.int)) ∈ fv_g := fv_mem 1165 rfl rfl
abbrev mX7_setsAside : fv_Y := (yX7_setsAside, cX7_setsAside, 2, none)
set_option maxRecDepth 20000 in
theorem cw_X7_setsAside : Cond.code yX7_setsAside cX7_setsAside 2 (none) ∈ fv_g := fv_mem 1169 rfl rfl
abbrev mX7_laysBack : fv_Y := (yX7_laysBack, cX7_laysBack, 2, none)
set_option maxRecDepth 20000 in
theorem cw_X7_laysBack : Cond.code yX7_laysBack cX7_laysBack 2 (none) ∈ fv_g := fv_mem 1173 rfl rfl
abbrev mX7_flies : fv_Y := (yX7_flies, cX7_flies, 4, some (FieldType.int))
set_option maxRecDepth 20000 in
theorem cw_X7_flies : Cond.code yX7_flies cX7_flies 4 (some (FieldType.int)) ∈ fv_g := fv_mem 1177 rfl rfl
abbrev mX7_plucked : fv_Y := (yX7_plucked, cX7_plucked, 5, some (FieldType.int))
set_option maxRecDepth 20000 in
theorem cw_X7_plucked : Cond.code yX7_plucked cX7_plucked 5 (some (FieldType.int)) ∈ fv_g := fv_mem 1181 rfl rfl
abbrev mX7_hinges : fv_Y := (yX7_hinges, cX7_hinges, 6, some (FieldType.int))
set_option maxRecDepth 20000 in
theorem cw_X7_hinges : Cond.code yX7_hinges cX7_hinges 6 (some (FieldType.int)) ∈ fv_g := fv_mem 1185 rfl rfl
abbrev mX7_sets : fv_Y := (yX7_sets, cX7_sets, 4, some (FieldType.int))
set_option maxRecDepth 20000 in
theorem cw_X7_sets : Cond.code yX7_sets cX7_sets 4 (some (FieldType.int)) ∈ fv_g := fv_mem 1189 rfl rfl
abbrev mX7_power : fv_Y := (yX7_power, cX7_power, 5, some (FieldType.int))
set_option maxRecDepth 20000 in
theorem cw_X7_power : Cond.code yX7_power cX7_power 5 (some (FieldType.int)) ∈ fv_g := fv_mem 1193 rfl rfl
abbrev mX7_won : fv_Y := (yX7_won, cX7_won, 6, some (FieldType.int))
set_option maxRecDepth 20000 in
theorem cw_X7_won : Cond.code yX7_won cX7_won 6 (some (FieldType.int)) ∈ fv_g := fv_mem 1197 rfl rfl
abbrev mX7_bits : fv_Y := (yX7_bits, cX7_bits, 3, some (FieldType.int))
set_option maxRecDepth 20000 in
theorem cw_X7_bits : Cond.code yX7_bits cX7_bits 3 (some (FieldType.int)) ∈ fv_g := fv_mem 1200 rfl rfl
abbrev mX7_colour : fv_Y := (yX7_colour, cX7_colour, 8, some (FieldType.int))
set_option maxRecDepth 20000 in
theorem cw_X7_colour : Cond.code yX7_colour cX7_colour 8 (some (FieldType.int)) ∈ fv_g := fv_mem 1204 rfl rfl
abbrev mX7_droppedAll : fv_Y := (yX7_droppedAll, cX7_droppedAll, 2, some (FieldType.int))
set_option maxRecDepth 20000 in
theorem cw_X7_droppedAll : Cond.code yX7_droppedAll cX7_droppedAll 2 (some (FieldType.int)) ∈ fv_g := fv_mem 1208 rfl rfl
abbrev mX7_kindFor : fv_Y := (yX7_kindFor, cX7_kindFor, 8, some (FieldType.int))
set_option maxRecDepth 20000 in
theorem cw_X7_kindFor : Cond.code yX7_kindFor cX7_kindFor 8 (some (FieldType.int)) ∈ fv_g := fv_mem 1212 rfl rfl
abbrev mX7_quorum : fv_Y := (yX7_quorum, cX7_quorum, 4, some (FieldType.int))
set_option maxRecDepth 20000 in
theorem cw_X7_quorum : Cond.code yX7_quorum cX7_quorum 4 (some (FieldType.int)) ∈ fv_g := fv_mem 1216 rfl rfl
abbrev mX7_agenda : fv_Y := (yX7_agenda, cX7_agenda, 2, some (FieldType.int))
set_option maxRecDepth 20000 in
theorem cw_X7_agenda : Cond.code yX7_agenda cX7_agenda 2 (some (FieldType.int)) ∈ fv_g := fv_mem 1220 rfl rfl
abbrev mX7_isSet : fv_Y := (yX7_isSet, cX7_isSet, 2, some (FieldType.boolean))
set_option maxRecDepth 20000 in
theorem cw_X7_isSet : Cond.code yX7_isSet cX7_isSet 2 (some (FieldType.boolean)) ∈ fv_g := fv_mem 1224 rfl rfl
abbrev mX7_findsOrder : fv_Y := (yX7_findsOrder, cX7_findsOrder, 6, none)
set_option maxRecDepth 20000 in
theorem cw_X7_findsOrder : Cond.code yX7_findsOrder cX7_findsOrder 6 (none) ∈ fv_g := fv_mem 1228 rfl rfl
abbrev mX7_laysOrder : fv_Y := (yX7_laysOrder, cX7_laysOrder, 4, some (FieldType.int))
set_option maxRecDepth 20000 in
theorem cw_X7_laysOrder : Cond.code yX7_laysOrder cX7_laysOrder 4 (some (FieldType.int)) ∈ fv_g := fv_mem 1232 rfl rfl
abbrev mX7_nextOrder : fv_Y := (yX7_nextOrder, cX7_nextOrder, 6, some (FieldType.boolean))
set_option maxRecDepth 20000 in
theorem cw_X7_nextOrder : Cond.code yX7_nextOrder cX7_nextOrder 6 (some (FieldType.boolean)) ∈ fv_g := fv_mem 1236 rfl rfl
abbrev mX7_swaps : fv_Y := (yX7_swaps, cX7_swaps, 4, none)
set_option maxRecDepth 20000 in
theorem cw_X7_swaps : Cond.code yX7_swaps cX7_swaps 4 (none) ∈ fv_g := fv_mem 1240 rfl rfl
abbrev mX7_ith : fv_Y := (yX7_ith, cX7_ith, 3, some (FieldType.int))
set_option maxRecDepth 20000 in
theorem cw_X7_ith : Cond.code yX7_ith cX7_ith 3 (some (FieldType.int)) ∈ fv_g := fv_mem 1244 rfl rfl
abbrev mX7_ways : fv_Y := (yX7_ways, cX7_ways, 2, some (FieldType.int))
set_option maxRecDepth 20000 in
theorem cw_X7_ways : Cond.code yX7_ways cX7_ways 2 (some (FieldType.int)) ∈ fv_g := fv_mem 1248 rfl rfl
abbrev mX7_left : fv_Y := (yX7_left, cX7_left, 2, some (FieldType.int))
set_option maxRecDepth 20000 in
theorem cw_X7_left : Cond.code yX7_left cX7_left 2 (some (FieldType.int)) ∈ fv_g := fv_mem 1252 rfl rfl
abbrev mX7_wind : fv_Y := (yX7_wind, cX7_wind, 15, some (FieldType.long))
set_option maxRecDepth 20000 in
theorem cw_X7_wind : Cond.code yX7_wind cX7_wind 15 (some (FieldType.long)) ∈ fv_g := fv_mem 1256 rfl rfl
abbrev mX7_power1 : fv_Y := (yX7_power1, cX7_power1, 6, some (FieldType.long))
set_option maxRecDepth 20000 in
theorem cw_X7_power1 : Cond.code yX7_power1 cX7_power1 6 (some (FieldType.long)) ∈ fv_g := fv_mem 1260 rfl rfl
abbrev mX7_fits : fv_Y := (yX7_fits, cX7_fits, 6, some (FieldType.int))
set_option maxRecDepth 20000 in
theorem cw_X7_fits : Cond.code yX7_fits cX7_fits 6 (some (FieldType.int)) ∈ fv_g := fv_mem 1264 rfl rfl
abbrev mX7_wrongSheet : fv_Y := (yX7_wrongSheet, cX7_wrongSheet, 2, some (FieldType.int))
set_option maxRecDepth 20000 in
theorem cw_X7_wrongSheet : Cond.code yX7_wrongSheet cX7_wrongSheet 2 (some (FieldType.int)) ∈ fv_g := fv_mem 1268 rfl rfl
abbrev mX7_isSheet : fv_Y := (yX7_isSheet, cX7_isSheet, 1, some (FieldType.boolean))
set_option maxRecDepth 20000 in
theorem cw_X7_isSheet : Cond.code yX7_isSheet cX7_isSheet 1 (some (FieldType.boolean)) ∈ fv_g := fv_mem 1271 rfl rfl
abbrev mX7_isTold : fv_Y := (yX7_isTold, cX7_isTold, 4, some (FieldType.boolean))
set_option maxRecDepth 20000 in
theorem cw_X7_isTold : Cond.code yX7_isTold cX7_isTold 4 (some (FieldType.boolean)) ∈ fv_g := fv_mem 1275 rfl rfl
abbrev mX7_stolen : fv_Y := (yX7_stolen, cX7_stolen, 9, some (FieldType.int))
set_option maxRecDepth 20000 in
theorem cw_X7_stolen : Cond.code yX7_stolen cX7_stolen 9 (some (FieldType.int)) ∈ fv_g := fv_mem 1279 rfl rfl
abbrev mX7_years : fv_Y := (yX7_years, cX7_years, 4, some (FieldType.int))
set_option maxRecDepth 20000 in
theorem cw_X7_years : Cond.code yX7_years cX7_years 4 (some (FieldType.int)) ∈ fv_g := fv_mem 1283 rfl rfl
abbrev mX7_draw : fv_Y := (yX7_draw, cX7_draw, 1, some (FieldType.int))
set_option maxRecDepth 20000 in
theorem cw_X7_draw : Cond.code yX7_draw cX7_draw 1 (some (FieldType.int)) ∈ fv_g := fv_mem 1287 rfl rfl
abbrev mX7_seed : fv_Y := (yX7_seed, cX7_seed, 3, some (FieldType.int))
set_option maxRecDepth 20000 in
theorem cw_X7_seed : Cond.code yX7_seed cX7_seed 3 (some (FieldType.int)) ∈ fv_g := fv_mem 1292 rfl rfl
abbrev mX7_feed : fv_Y := (yX7_feed, cX7_feed, 4, some (FieldType.int))
set_option maxRecDepth 20000 in
theorem cw_X7_feed : Cond.code yX7_feed cX7_feed 4 (some (FieldType.int)) ∈ fv_g := fv_mem 1296 rfl rfl
abbrev mX7_wipe : fv_Y := (yX7_wipe, cX7_wipe, 2, some (FieldType.int))
set_option maxRecDepth 20000 in
theorem cw_X7_wipe : Cond.code yX7_wipe cX7_wipe 2 (some (FieldType.int)) ∈ fv_g := fv_mem 1300 rfl rfl
abbrev mX7_text : fv_Y := (yX7_text, cX7_text, 3, some (FieldType.int))
set_option maxRecDepth 20000 in
theorem cw_X7_text : Cond.code yX7_text cX7_text 3 (some (FieldType.int)) ∈ fv_g := fv_mem 1304 rfl rfl
abbrev mX7_nextToken : fv_Y := (yX7_nextToken, cX7_nextToken, 1, none)
set_option maxRecDepth 20000 in
theorem cw_X7_nextToken : Cond.code yX7_nextToken cX7_nextToken 1 (none) ∈ fv_g := fv_mem 1308 rfl rfl
abbrev mX7_isLetter : fv_Y := (yX7_isLetter, cX7_isLetter, 1, some (FieldType.boolean))
set_option maxRecDepth 20000 in
theorem cw_X7_isLetter : Cond.code yX7_isLetter cX7_isLetter 1 (some (FieldType.boolean)) ∈ fv_g := fv_mem 1311 rfl rfl
abbrev mX7_isDigit : fv_Y := (yX7_isDigit, cX7_isDigit, 1, some (FieldType.boolean))
set_option maxRecDepth 20000 in
theorem cw_X7_isDigit : Cond.code yX7_isDigit cX7_isDigit 1 (some (FieldType.boolean)) ∈ fv_g := fv_mem 1317 rfl rfl
abbrev mX7_readsItem : fv_Y := (yX7_readsItem, cX7_readsItem, 4, some (FieldType.boolean))
set_option maxRecDepth 20000 in
theorem cw_X7_readsItem : Cond.code yX7_readsItem cX7_readsItem 4 (some (FieldType.boolean)) ∈ fv_g := fv_mem 1323 rfl rfl
abbrev mX7_wordOf : fv_Y := (yX7_wordOf, cX7_wordOf, 7, some (FieldType.int))
set_option maxRecDepth 20000 in
theorem cw_X7_wordOf : Cond.code yX7_wordOf cX7_wordOf 7 (some (FieldType.int)) ∈ fv_g := fv_mem 1327 rfl rfl
abbrev mX7_readsBird : fv_Y := (yX7_readsBird, cX7_readsBird, 5, some (FieldType.boolean))
set_option maxRecDepth 20000 in
theorem cw_X7_readsBird : Cond.code yX7_readsBird cX7_readsBird 5 (some (FieldType.boolean)) ∈ fv_g := fv_mem 1331 rfl rfl
abbrev mX7_takesNumber : fv_Y := (yX7_takesNumber, cX7_takesNumber, 4, some (FieldType.int))
set_option maxRecDepth 20000 in
theorem cw_X7_takesNumber : Cond.code yX7_takesNumber cX7_takesNumber 4 (some (FieldType.int)) ∈ fv_g := fv_mem 1335 rfl rfl
abbrev mX7_readsMotion : fv_Y := (yX7_readsMotion, cX7_readsMotion, 5, some (FieldType.boolean))
set_option maxRecDepth 20000 in
theorem cw_X7_readsMotion : Cond.code yX7_readsMotion cX7_readsMotion 5 (some (FieldType.boolean)) ∈ fv_g := fv_mem 1339 rfl rfl
abbrev mX7_hold : fv_Y := (yX7_hold, cX7_hold, 3, some (FieldType.int))
set_option maxRecDepth 20000 in
theorem cw_X7_hold : Cond.code yX7_hold cX7_hold 3 (some (FieldType.int)) ∈ fv_g := fv_mem 1343 rfl rfl
abbrev mX7_isSpot : fv_Y := (yX7_isSpot, cX7_isSpot, 1, some (FieldType.boolean))
set_option maxRecDepth 20000 in
theorem cw_X7_isSpot : Cond.code yX7_isSpot cX7_isSpot 1 (some (FieldType.boolean)) ∈ fv_g := fv_mem 1346 rfl rfl
abbrev mX7_as : fv_Y := (yX7_as, cX7_as, 5, some (FieldType.int))
set_option maxRecDepth 20000 in
theorem cw_X7_as : Cond.code yX7_as cX7_as 5 (some (FieldType.int)) ∈ fv_g := fv_mem 1350 rfl rfl
abbrev mX7_above : fv_Y := (yX7_above, cX7_above, 1, some (FieldType.int))
set_option maxRecDepth 20000 in
theorem cw_X7_above : Cond.code yX7_above cX7_above 1 (some (FieldType.int)) ∈ fv_g := fv_mem 1353 rfl rfl
abbrev mX7_sheet : fv_Y := (yX7_sheet, cX7_sheet, 5, some (FieldType.int))
set_option maxRecDepth 20000 in
theorem cw_X7_sheet : Cond.code yX7_sheet cX7_sheet 5 (some (FieldType.int)) ∈ fv_g := fv_mem 1357 rfl rfl
abbrev mX7_write : fv_Y := (yX7_write, cX7_write, 5, some (FieldType.int))
set_option maxRecDepth 20000 in
theorem cw_X7_write : Cond.code yX7_write cX7_write 5 (some (FieldType.int)) ∈ fv_g := fv_mem 1361 rfl rfl
abbrev mX7_copy : fv_Y := (yX7_copy, cX7_copy, 7, some (FieldType.int))
set_option maxRecDepth 20000 in
theorem cw_X7_copy : Cond.code yX7_copy cX7_copy 7 (some (FieldType.int)) ∈ fv_g := fv_mem 1365 rfl rfl
abbrev mX7_load : fv_Y := (yX7_load, cX7_load, 4, some (FieldType.int))
set_option maxRecDepth 20000 in
theorem cw_X7_load : Cond.code yX7_load cX7_load 4 (some (FieldType.int)) ∈ fv_g := fv_mem 1369 rfl rfl
abbrev mX7_judge : fv_Y := (yX7_judge, cX7_judge, 6, some (FieldType.int))
set_option maxRecDepth 20000 in
theorem cw_X7_judge : Cond.code yX7_judge cX7_judge 6 (some (FieldType.int)) ∈ fv_g := fv_mem 1373 rfl rfl
abbrev mX7_image : fv_Y := (yX7_image, cX7_image, 2, some (FieldType.int))
set_option maxRecDepth 20000 in
theorem cw_X7_image : Cond.code yX7_image cX7_image 2 (some (FieldType.int)) ∈ fv_g := fv_mem 1377 rfl rfl
abbrev mX7_undo : fv_Y := (yX7_undo, cX7_undo, 2, some (FieldType.int))
set_option maxRecDepth 20000 in
theorem cw_X7_undo : Cond.code yX7_undo cX7_undo 2 (some (FieldType.int)) ∈ fv_g := fv_mem 1381 rfl rfl
abbrev mX7_tear : fv_Y := (yX7_tear, cX7_tear, 2, some (FieldType.int))
set_option maxRecDepth 20000 in
theorem cw_X7_tear : Cond.code yX7_tear cX7_tear 2 (some (FieldType.int)) ∈ fv_g := fv_mem 1385 rfl rfl
abbrev mX7_count : fv_Y := (yX7_count, cX7_count, 4, some (FieldType.int))
set_option maxRecDepth 20000 in
theorem cw_X7_count : Cond.code yX7_count cX7_count 4 (some (FieldType.int)) ∈ fv_g := fv_mem 1389 rfl rfl
abbrev mX7_status : fv_Y := (yX7_status, cX7_status, 4, some (FieldType.int))
set_option maxRecDepth 20000 in
theorem cw_X7_status : Cond.code yX7_status cX7_status 4 (some (FieldType.int)) ∈ fv_g := fv_mem 1393 rfl rfl
