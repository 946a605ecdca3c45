/-! links, short rows -/
def CV (M' : MI) (n ci : Nat) : Prop := MOK M' n ∧ Cond.instanceMethod (mnm M') ∈ tbl ∧ Cond.selects (mnm M').cls (mnm M') (mnm M') ∈ tbl ∧ (clss[ci]?).map (fun q => q.1) = some (mnm M').cls ∧ mml M' ≤ 21
def CS (M' : MI) (n : Nat) : Prop := MOK M' n ∧ Cond.static (mnm M') ∈ tbl ∧ mml M' ≤ 21
theorem cv_B_clear : CV me_B_clear 0 0 := ⟨mok_B_clear, tbl_in (List.mem_of_getElem? (i := 455) (by decide +kernel)) rfl, tbl_in (List.mem_of_getElem? (i := 456) (by decide +kernel)) rfl, rfl, by decide⟩
theorem cv_B_offer : CV me_B_offer 2 0 := ⟨mok_B_offer, tbl_in (List.mem_of_getElem? (i := 463) (by decide +kernel)) rfl, tbl_in (List.mem_of_getElem? (i := 464) (by decide +kernel)) rfl, rfl, by decide⟩
theorem cv_H_renew : CV me_H_renew 2 1 := ⟨mok_H_renew, tbl_in (List.mem_of_getElem? (i := 632) (by decide +kernel)) rfl, tbl_in (List.mem_of_getElem? (i := 633) (by decide +kernel)) rfl, rfl, by decide⟩
theorem cv_H_findingAt : CV me_H_findingAt 2 1 := ⟨mok_H_findingAt, tbl_in (List.mem_of_getElem? (i := 645) (by decide +kernel)) rfl, tbl_in (List.mem_of_getElem? (i := 646) (by decide +kernel)) rfl, rfl, by decide⟩
theorem cv_H_hasItems : CV me_H_hasItems 2 1 := ⟨mok_H_hasItems, tbl_in (List.mem_of_getElem? (i := 663) (by decide +kernel)) rfl, tbl_in (List.mem_of_getElem? (i := 664) (by decide +kernel)) rfl, rfl, by decide⟩
theorem cv_H_set : CV me_H_set 2 1 := ⟨mok_H_set, tbl_in (List.mem_of_getElem? (i := 650) (by decide +kernel)) rfl, tbl_in (List.mem_of_getElem? (i := 651) (by decide +kernel)) rfl, rfl, by decide⟩
theorem cv_G_append : CV me_G_append 3 2 := ⟨mok_G_append, tbl_in (List.mem_of_getElem? (i := 525) (by decide +kernel)) rfl, tbl_in (List.mem_of_getElem? (i := 526) (by decide +kernel)) rfl, rfl, by decide⟩
theorem cv_G_fit : CV me_G_fit 1 2 := ⟨mok_G_fit, tbl_in (List.mem_of_getElem? (i := 541) (by decide +kernel)) rfl, tbl_in (List.mem_of_getElem? (i := 542) (by decide +kernel)) rfl, rfl, by decide⟩
theorem cv_T_become : CV me_T_become 1 3 := ⟨mok_T_become, tbl_in (List.mem_of_getElem? (i := 479) (by decide +kernel)) rfl, tbl_in (List.mem_of_getElem? (i := 480) (by decide +kernel)) rfl, rfl, by decide⟩
theorem cv_T_hearHates : CV me_T_hearHates 1 3 := ⟨mok_T_hearHates, tbl_in (List.mem_of_getElem? (i := 275) (by decide +kernel)) rfl, tbl_in (List.mem_of_getElem? (i := 276) (by decide +kernel)) rfl, rfl, by decide⟩
theorem cv_T_hearBoats : CV me_T_hearBoats 1 3 := ⟨mok_T_hearBoats, tbl_in (List.mem_of_getElem? (i := 305) (by decide +kernel)) rfl, tbl_in (List.mem_of_getElem? (i := 306) (by decide +kernel)) rfl, rfl, by decide⟩
theorem cv_T_addEvent : CV me_T_addEvent 3 3 := ⟨mok_T_addEvent, tbl_in (List.mem_of_getElem? (i := 353) (by decide +kernel)) rfl, tbl_in (List.mem_of_getElem? (i := 354) (by decide +kernel)) rfl, rfl, by decide⟩
theorem cv_T_drawEvents : CV me_T_drawEvents 2 3 := ⟨mok_T_drawEvents, tbl_in (List.mem_of_getElem? (i := 619) (by decide +kernel)) rfl, tbl_in (List.mem_of_getElem? (i := 620) (by decide +kernel)) rfl, rfl, by decide⟩
theorem cs_T_nextSeed : CS me_T_nextSeed 1 := ⟨mok_T_nextSeed, tbl_in (List.mem_of_getElem? (i := 623) (by decide +kernel)) rfl, by decide⟩
theorem cv_T_isEventOf : CV me_T_isEventOf 2 3 := ⟨mok_T_isEventOf, tbl_in (List.mem_of_getElem? (i := 390) (by decide +kernel)) rfl, tbl_in (List.mem_of_getElem? (i := 391) (by decide +kernel)) rfl, rfl, by decide⟩
theorem cv_T_weight : CV me_T_weight 1 3 := ⟨mok_T_weight, tbl_in (List.mem_of_getElem? (i := 595) (by decide +kernel)) rfl, tbl_in (List.mem_of_getElem? (i := 596) (by decide +kernel)) rfl, rfl, by decide⟩
theorem cv_T_rowMask : CV me_T_rowMask 1 3 := ⟨mok_T_rowMask, tbl_in (List.mem_of_getElem? (i := 574) (by decide +kernel)) rfl, tbl_in (List.mem_of_getElem? (i := 575) (by decide +kernel)) rfl, rfl, by decide⟩
theorem cv_X_isFull : CV me_X_isFull 0 4 := ⟨mok_X_isFull, tbl_in (List.mem_of_getElem? (i := 263) (by decide +kernel)) rfl, tbl_in (List.mem_of_getElem? (i := 264) (by decide +kernel)) rfl, rfl, by decide⟩
theorem cv_X_append : CV me_X_append 1 4 := ⟨mok_X_append, tbl_in (List.mem_of_getElem? (i := 267) (by decide +kernel)) rfl, tbl_in (List.mem_of_getElem? (i := 268) (by decide +kernel)) rfl, rfl, by decide⟩
theorem cv_X_has : CV me_X_has 3 4 := ⟨mok_X_has, tbl_in (List.mem_of_getElem? (i := 287) (by decide +kernel)) rfl, tbl_in (List.mem_of_getElem? (i := 288) (by decide +kernel)) rfl, rfl, by decide⟩
theorem cv_X_figure : CV me_X_figure 1 4 := ⟨mok_X_figure, tbl_in (List.mem_of_getElem? (i := 298) (by decide +kernel)) rfl, tbl_in (List.mem_of_getElem? (i := 299) (by decide +kernel)) rfl, rfl, by decide⟩
theorem cv_X_findHatesFault : CV me_X_findHatesFault 0 4 := ⟨mok_X_findHatesFault, tbl_in (List.mem_of_getElem? (i := 279) (by decide +kernel)) rfl, tbl_in (List.mem_of_getElem? (i := 280) (by decide +kernel)) rfl, rfl, by decide⟩
theorem cv_X_findBoatsFault : CV me_X_findBoatsFault 0 4 := ⟨mok_X_findBoatsFault, tbl_in (List.mem_of_getElem? (i := 309) (by decide +kernel)) rfl, tbl_in (List.mem_of_getElem? (i := 310) (by decide +kernel)) rfl, rfl, by decide⟩
theorem cv_X_faultOfEnd : CV me_X_faultOfEnd 1 4 := ⟨mok_X_faultOfEnd, tbl_in (List.mem_of_getElem? (i := 292) (by decide +kernel)) rfl, tbl_sel (q := (⟨"BoatNames$Text", "faultOfEnd", "(I)I"⟩, 3)) (List.mem_of_getElem? (i := 3) (by decide +kernel)), rfl, by decide⟩
theorem cv_X_isHateByte : CV me_X_isHateByte 1 4 := ⟨mok_X_isHateByte, tbl_in (List.mem_of_getElem? (i := 284) (by decide +kernel)) rfl, tbl_sel (q := (⟨"BoatNames$Text", "isHateByte", "(I)Z"⟩, 3)) (List.mem_of_getElem? (i := 2) (by decide +kernel)), rfl, by decide⟩
theorem cv_X_isBoatByte : CV me_X_isBoatByte 1 4 := ⟨mok_X_isBoatByte, tbl_in (List.mem_of_getElem? (i := 314) (by decide +kernel)) rfl, tbl_sel (q := (⟨"BoatNames$Text", "isBoatByte", "(I)Z"⟩, 3)) (List.mem_of_getElem? (i := 4) (by decide +kernel)), rfl, by decide⟩
theorem cs_X_sortOf : CS me_X_sortOf 1 := ⟨mok_X_sortOf, tbl_in (List.mem_of_getElem? (i := 317) (by decide +kernel)) rfl, by decide⟩
theorem cv_V_run : CV me_V_run 2 5 := ⟨mok_V_run, tbl_in (List.mem_of_getElem? (i := 374) (by decide +kernel)) rfl, tbl_in (List.mem_of_getElem? (i := 375) (by decide +kernel)) rfl, rfl, by decide⟩
theorem cv_V_begin : CV me_V_begin 1 5 := ⟨mok_V_begin, tbl_in (List.mem_of_getElem? (i := 378) (by decide +kernel)) rfl, tbl_in (List.mem_of_getElem? (i := 379) (by decide +kernel)) rfl, rfl, by decide⟩
theorem cv_V_sail : CV me_V_sail 1 5 := ⟨mok_V_sail, tbl_in (List.mem_of_getElem? (i := 386) (by decide +kernel)) rfl, tbl_in (List.mem_of_getElem? (i := 387) (by decide +kernel)) rfl, rfl, by decide⟩
theorem cv_V_storm : CV me_V_storm 0 5 := ⟨mok_V_storm, tbl_in (List.mem_of_getElem? (i := 395) (by decide +kernel)) rfl, tbl_sel (q := (⟨"BoatNames$Voyage", "storm", "()V"⟩, 12)) (List.mem_of_getElem? (i := 7) (by decide +kernel)), rfl, by decide⟩
theorem cv_V_settle : CV me_V_settle 2 5 := ⟨mok_V_settle, tbl_in (List.mem_of_getElem? (i := 402) (by decide +kernel)) rfl, tbl_sel (q := (⟨"BoatNames$Voyage", "settle", "(II)V"⟩, 12)) (List.mem_of_getElem? (i := 8) (by decide +kernel)), rfl, by decide⟩
theorem cv_V_launch : CV me_V_launch 1 5 := ⟨mok_V_launch, tbl_in (List.mem_of_getElem? (i := 406) (by decide +kernel)) rfl, tbl_sel (q := (⟨"BoatNames$Voyage", "launch", "(I)V"⟩, 12)) (List.mem_of_getElem? (i := 9) (by decide +kernel)), rfl, by decide⟩
theorem cv_V_bear : CV me_V_bear 2 5 := ⟨mok_V_bear, tbl_in (List.mem_of_getElem? (i := 415) (by decide +kernel)) rfl, tbl_sel (q := (⟨"BoatNames$Voyage", "bear", "(II)V"⟩, 12)) (List.mem_of_getElem? (i := 10) (by decide +kernel)), rfl, by decide⟩
theorem cv_V_sink : CV me_V_sink 2 5 := ⟨mok_V_sink, tbl_in (List.mem_of_getElem? (i := 419) (by decide +kernel)) rfl, tbl_sel (q := (⟨"BoatNames$Voyage", "sink", "(II)V"⟩, 12)) (List.mem_of_getElem? (i := 11) (by decide +kernel)), rfl, by decide⟩
theorem cv_V_worstEnemy : CV me_V_worstEnemy 1 5 := ⟨mok_V_worstEnemy, tbl_in (List.mem_of_getElem? (i := 409) (by decide +kernel)) rfl, tbl_in (List.mem_of_getElem? (i := 410) (by decide +kernel)) rfl, rfl, by decide⟩
theorem cv_V_hatredOf : CV me_V_hatredOf 1 5 := ⟨mok_V_hatredOf, tbl_in (List.mem_of_getElem? (i := 459) (by decide +kernel)) rfl, tbl_in (List.mem_of_getElem? (i := 460) (by decide +kernel)) rfl, rfl, by decide⟩
theorem cv_V_allHatred : CV me_V_allHatred 0 5 := ⟨mok_V_allHatred, tbl_in (List.mem_of_getElem? (i := 681) (by decide +kernel)) rfl, tbl_in (List.mem_of_getElem? (i := 682) (by decide +kernel)) rfl, rfl, by decide⟩
theorem cv_V_howMany : CV me_V_howMany 1 5 := ⟨mok_V_howMany, tbl_in (List.mem_of_getElem? (i := 430) (by decide +kernel)) rfl, tbl_in (List.mem_of_getElem? (i := 431) (by decide +kernel)) rfl, rfl, by decide⟩
theorem cv_V_namesakes : CV me_V_namesakes 2 5 := ⟨mok_V_namesakes, tbl_in (List.mem_of_getElem? (i := 438) (by decide +kernel)) rfl, tbl_in (List.mem_of_getElem? (i := 439) (by decide +kernel)) rfl, rfl, by decide⟩
theorem cv_V_nameBehind : CV me_V_nameBehind 2 5 := ⟨mok_V_nameBehind, tbl_in (List.mem_of_getElem? (i := 545) (by decide +kernel)) rfl, tbl_in (List.mem_of_getElem? (i := 546) (by decide +kernel)) rfl, rfl, by decide⟩
theorem cv_V_nameRow : CV me_V_nameRow 0 5 := ⟨mok_V_nameRow, tbl_in (List.mem_of_getElem? (i := 561) (by decide +kernel)) rfl, tbl_in (List.mem_of_getElem? (i := 562) (by decide +kernel)) rfl, rfl, by decide⟩
theorem cv_N_type : CV me_N_type 2 6 := ⟨mok_N_type, tbl_in (List.mem_of_getElem? (i := 252) (by decide +kernel)) rfl, tbl_in (List.mem_of_getElem? (i := 253) (by decide +kernel)) rfl, rfl, by decide⟩
theorem cv_N_wipe : CV me_N_wipe 1 6 := ⟨mok_N_wipe, tbl_in (List.mem_of_getElem? (i := 321) (by decide +kernel)) rfl, tbl_in (List.mem_of_getElem? (i := 322) (by decide +kernel)) rfl, rfl, by decide⟩
theorem cv_N_undo : CV me_N_undo 1 6 := ⟨mok_N_undo, tbl_in (List.mem_of_getElem? (i := 325) (by decide +kernel)) rfl, tbl_in (List.mem_of_getElem? (i := 326) (by decide +kernel)) rfl, rfl, by decide⟩
theorem cv_N_fault : CV me_N_fault 1 6 := ⟨mok_N_fault, tbl_in (List.mem_of_getElem? (i := 329) (by decide +kernel)) rfl, tbl_in (List.mem_of_getElem? (i := 330) (by decide +kernel)) rfl, rfl, by decide⟩
theorem cv_N_told : CV me_N_told 2 6 := ⟨mok_N_told, tbl_in (List.mem_of_getElem? (i := 333) (by decide +kernel)) rfl, tbl_in (List.mem_of_getElem? (i := 334) (by decide +kernel)) rfl, rfl, by decide⟩
theorem cv_N_boat : CV me_N_boat 2 6 := ⟨mok_N_boat, tbl_in (List.mem_of_getElem? (i := 341) (by decide +kernel)) rfl, tbl_in (List.mem_of_getElem? (i := 342) (by decide +kernel)) rfl, rfl, by decide⟩
theorem cv_N_event : CV me_N_event 3 6 := ⟨mok_N_event, tbl_in (List.mem_of_getElem? (i := 349) (by decide +kernel)) rfl, tbl_in (List.mem_of_getElem? (i := 350) (by decide +kernel)) rfl, rfl, by decide⟩
theorem cv_N_back : CV me_N_back 0 6 := ⟨mok_N_back, tbl_in (List.mem_of_getElem? (i := 357) (by decide +kernel)) rfl, tbl_in (List.mem_of_getElem? (i := 358) (by decide +kernel)) rfl, rfl, by decide⟩
theorem cv_N_read : CV me_N_read 1 6 := ⟨mok_N_read, tbl_in (List.mem_of_getElem? (i := 361) (by decide +kernel)) rfl, tbl_in (List.mem_of_getElem? (i := 362) (by decide +kernel)) rfl, rfl, by decide⟩
theorem cv_N_hates : CV me_N_hates 3 6 := ⟨mok_N_hates, tbl_in (List.mem_of_getElem? (i := 370) (by decide +kernel)) rfl, tbl_in (List.mem_of_getElem? (i := 371) (by decide +kernel)) rfl, rfl, by decide⟩
theorem cv_N_at : CV me_N_at 3 6 := ⟨mok_N_at, tbl_in (List.mem_of_getElem? (i := 422) (by decide +kernel)) rfl, tbl_in (List.mem_of_getElem? (i := 423) (by decide +kernel)) rfl, rfl, by decide⟩
theorem cv_N_afloat : CV me_N_afloat 1 6 := ⟨mok_N_afloat, tbl_in (List.mem_of_getElem? (i := 426) (by decide +kernel)) rfl, tbl_in (List.mem_of_getElem? (i := 427) (by decide +kernel)) rfl, rfl, by decide⟩
theorem cv_N_named : CV me_N_named 2 6 := ⟨mok_N_named, tbl_in (List.mem_of_getElem? (i := 434) (by decide +kernel)) rfl, tbl_in (List.mem_of_getElem? (i := 435) (by decide +kernel)) rfl, rfl, by decide⟩
theorem cv_N_first : CV me_N_first 1 6 := ⟨mok_N_first, tbl_in (List.mem_of_getElem? (i := 442) (by decide +kernel)) rfl, tbl_in (List.mem_of_getElem? (i := 443) (by decide +kernel)) rfl, rfl, by decide⟩
theorem cv_N_loved : CV me_N_loved 0 6 := ⟨mok_N_loved, tbl_in (List.mem_of_getElem? (i := 446) (by decide +kernel)) rfl, tbl_in (List.mem_of_getElem? (i := 447) (by decide +kernel)) rfl, rfl, by decide⟩
theorem cv_N_bitter : CV me_N_bitter 0 6 := ⟨mok_N_bitter, tbl_in (List.mem_of_getElem? (i := 451) (by decide +kernel)) rfl, tbl_in (List.mem_of_getElem? (i := 452) (by decide +kernel)) rfl, rfl, by decide⟩
theorem cv_N_longs : CV me_N_longs 1 6 := ⟨mok_N_longs, tbl_in (List.mem_of_getElem? (i := 467) (by decide +kernel)) rfl, tbl_in (List.mem_of_getElem? (i := 468) (by decide +kernel)) rfl, rfl, by decide⟩
theorem cv_N_wrong : CV me_N_wrong 2 6 := ⟨mok_N_wrong, tbl_in (List.mem_of_getElem? (i := 471) (by decide +kernel)) rfl, tbl_in (List.mem_of_getElem? (i := 472) (by decide +kernel)) rfl, rfl, by decide⟩
theorem cv_N_pay : CV me_N_pay 2 6 := ⟨mok_N_pay, tbl_in (List.mem_of_getElem? (i := 484) (by decide +kernel)) rfl, tbl_in (List.mem_of_getElem? (i := 485) (by decide +kernel)) rfl, rfl, by decide⟩
theorem cv_N_waits : CV me_N_waits 2 6 := ⟨mok_N_waits, tbl_in (List.mem_of_getElem? (i := 492) (by decide +kernel)) rfl, tbl_in (List.mem_of_getElem? (i := 493) (by decide +kernel)) rfl, rfl, by decide⟩
theorem cv_N_spare : CV me_N_spare 1 6 := ⟨mok_N_spare, tbl_in (List.mem_of_getElem? (i := 500) (by decide +kernel)) rfl, tbl_in (List.mem_of_getElem? (i := 501) (by decide +kernel)) rfl, rfl, by decide⟩
theorem cv_N_seen : CV me_N_seen 3 6 := ⟨mok_N_seen, tbl_in (List.mem_of_getElem? (i := 521) (by decide +kernel)) rfl, tbl_in (List.mem_of_getElem? (i := 522) (by decide +kernel)) rfl, rfl, by decide⟩
theorem cv_N_forget : CV me_N_forget 0 6 := ⟨mok_N_forget, tbl_in (List.mem_of_getElem? (i := 529) (by decide +kernel)) rfl, tbl_in (List.mem_of_getElem? (i := 530) (by decide +kernel)) rfl, rfl, by decide⟩
theorem cv_N_never : CV me_N_never 0 6 := ⟨mok_N_never, tbl_in (List.mem_of_getElem? (i := 533) (by decide +kernel)) rfl, tbl_in (List.mem_of_getElem? (i := 534) (by decide +kernel)) rfl, rfl, by decide⟩
theorem cv_N_sort : CV me_N_sort 1 6 := ⟨mok_N_sort, tbl_in (List.mem_of_getElem? (i := 549) (by decide +kernel)) rfl, tbl_in (List.mem_of_getElem? (i := 550) (by decide +kernel)) rfl, rfl, by decide⟩
theorem cv_N_hated : CV me_N_hated 2 6 := ⟨mok_N_hated, tbl_in (List.mem_of_getElem? (i := 553) (by decide +kernel)) rfl, tbl_in (List.mem_of_getElem? (i := 554) (by decide +kernel)) rfl, rfl, by decide⟩
theorem cv_N_ask : CV me_N_ask 2 6 := ⟨mok_N_ask, tbl_in (List.mem_of_getElem? (i := 566) (by decide +kernel)) rfl, tbl_in (List.mem_of_getElem? (i := 567) (by decide +kernel)) rfl, rfl, by decide⟩
theorem cv_N_chance : CV me_N_chance 3 6 := ⟨mok_N_chance, tbl_in (List.mem_of_getElem? (i := 583) (by decide +kernel)) rfl, tbl_in (List.mem_of_getElem? (i := 584) (by decide +kernel)) rfl, rfl, by decide⟩
theorem cv_N_decades : CV me_N_decades 3 6 := ⟨mok_N_decades, tbl_in (List.mem_of_getElem? (i := 615) (by decide +kernel)) rfl, tbl_in (List.mem_of_getElem? (i := 616) (by decide +kernel)) rfl, rfl, by decide⟩
theorem cv_N_sheet : CV me_N_sheet 3 6 := ⟨mok_N_sheet, tbl_in (List.mem_of_getElem? (i := 628) (by decide +kernel)) rfl, tbl_in (List.mem_of_getElem? (i := 629) (by decide +kernel)) rfl, rfl, by decide⟩
theorem cv_N_lose : CV me_N_lose 1 6 := ⟨mok_N_lose, tbl_in (List.mem_of_getElem? (i := 637) (by decide +kernel)) rfl, tbl_in (List.mem_of_getElem? (i := 638) (by decide +kernel)) rfl, rfl, by decide⟩
theorem cv_N_put : CV me_N_put 4 6 := ⟨mok_N_put, tbl_in (List.mem_of_getElem? (i := 641) (by decide +kernel)) rfl, tbl_in (List.mem_of_getElem? (i := 642) (by decide +kernel)) rfl, rfl, by decide⟩
theorem cv_N_get : CV me_N_get 3 6 := ⟨mok_N_get, tbl_in (List.mem_of_getElem? (i := 654) (by decide +kernel)) rfl, tbl_in (List.mem_of_getElem? (i := 655) (by decide +kernel)) rfl, rfl, by decide⟩
theorem cv_N_copy : CV me_N_copy 5 6 := ⟨mok_N_copy, tbl_in (List.mem_of_getElem? (i := 659) (by decide +kernel)) rfl, tbl_in (List.mem_of_getElem? (i := 660) (by decide +kernel)) rfl, rfl, by decide⟩
theorem cv_N_write : CV me_N_write 2 6 := ⟨mok_N_write, tbl_in (List.mem_of_getElem? (i := 668) (by decide +kernel)) rfl, tbl_in (List.mem_of_getElem? (i := 669) (by decide +kernel)) rfl, rfl, by decide⟩
theorem cv_N_count : CV me_N_count 1 6 := ⟨mok_N_count, tbl_in (List.mem_of_getElem? (i := 677) (by decide +kernel)) rfl, tbl_in (List.mem_of_getElem? (i := 678) (by decide +kernel)) rfl, rfl, by decide⟩
theorem cv_N_digest : CV me_N_digest 0 6 := ⟨mok_N_digest, tbl_in (List.mem_of_getElem? (i := 686) (by decide +kernel)) rfl, tbl_in (List.mem_of_getElem? (i := 687) (by decide +kernel)) rfl, rfl, by decide⟩
theorem cv_N_digestBoat : CV me_N_digestBoat 2 6 := ⟨mok_N_digestBoat, tbl_in (List.mem_of_getElem? (i := 695) (by decide +kernel)) rfl, tbl_sel (q := (⟨"BoatNames", "digestBoat", "(JI)J"⟩, 11)) (List.mem_of_getElem? (i := 26) (by decide +kernel)), rfl, by decide⟩
theorem cv_N_digestWeek : CV me_N_digestWeek 3 6 := ⟨mok_N_digestWeek, tbl_in (List.mem_of_getElem? (i := 700) (by decide +kernel)) rfl, tbl_sel (q := (⟨"BoatNames", "digestWeek", "(JII)J"⟩, 11)) (List.mem_of_getElem? (i := 27) (by decide +kernel)), rfl, by decide⟩
theorem cv_N_digestPerson : CV me_N_digestPerson 2 6 := ⟨mok_N_digestPerson, tbl_in (List.mem_of_getElem? (i := 707) (by decide +kernel)) rfl, tbl_sel (q := (⟨"BoatNames", "digestPerson", "(JI)J"⟩, 11)) (List.mem_of_getElem? (i := 28) (by decide +kernel)), rfl, by decide⟩
theorem cs_N_isBelow : CS me_N_isBelow 2 := ⟨mok_N_isBelow, tbl_in (List.mem_of_getElem? (i := 256) (by decide +kernel)) rfl, by decide⟩
theorem cs_N_areTwo : CS me_N_areTwo 2 := ⟨mok_N_areTwo, tbl_in (List.mem_of_getElem? (i := 337) (by decide +kernel)) rfl, by decide⟩
theorem cs_N_pair : CS me_N_pair 2 := ⟨mok_N_pair, tbl_in (List.mem_of_getElem? (i := 302) (by decide +kernel)) rfl, by decide⟩
theorem cv_N_isBoat : CV me_N_isBoat 1 6 := ⟨mok_N_isBoat, tbl_in (List.mem_of_getElem? (i := 346) (by decide +kernel)) rfl, tbl_sel (q := (⟨"BoatNames", "isBoat", "(I)Z"⟩, 11)) (List.mem_of_getElem? (i := 5) (by decide +kernel)), rfl, by decide⟩
theorem cv_N_textOf : CV me_N_textOf 1 6 := ⟨mok_N_textOf, tbl_in (List.mem_of_getElem? (i := 260) (by decide +kernel)) rfl, tbl_sel (q := (⟨"BoatNames", "textOf", "(I)LBoatNames$Text;"⟩, 11)) (List.mem_of_getElem? (i := 0) (by decide +kernel)), rfl, by decide⟩
theorem cv_N_hear : CV me_N_hear 1 6 := ⟨mok_N_hear, tbl_in (List.mem_of_getElem? (i := 272) (by decide +kernel)) rfl, tbl_sel (q := (⟨"BoatNames", "hear", "(I)V"⟩, 11)) (List.mem_of_getElem? (i := 1) (by decide +kernel)), rfl, by decide⟩
theorem cv_N_find : CV me_N_find 1 6 := ⟨mok_N_find, tbl_in (List.mem_of_getElem? (i := 366) (by decide +kernel)) rfl, tbl_sel (q := (⟨"BoatNames", "find", "(I)I"⟩, 11)) (List.mem_of_getElem? (i := 6) (by decide +kernel)), rfl, by decide⟩
theorem cv_N_seekWrong : CV me_N_seekWrong 1 6 := ⟨mok_N_seekWrong, tbl_in (List.mem_of_getElem? (i := 476) (by decide +kernel)) rfl, tbl_sel (q := (⟨"BoatNames", "seekWrong", "(I)V"⟩, 11)) (List.mem_of_getElem? (i := 12) (by decide +kernel)), rfl, by decide⟩
theorem cv_N_seekPay : CV me_N_seekPay 1 6 := ⟨mok_N_seekPay, tbl_in (List.mem_of_getElem? (i := 489) (by decide +kernel)) rfl, tbl_sel (q := (⟨"BoatNames", "seekPay", "(I)V"⟩, 11)) (List.mem_of_getElem? (i := 13) (by decide +kernel)), rfl, by decide⟩
theorem cv_N_seekWait : CV me_N_seekWait 1 6 := ⟨mok_N_seekWait, tbl_in (List.mem_of_getElem? (i := 497) (by decide +kernel)) rfl, tbl_sel (q := (⟨"BoatNames", "seekWait", "(I)V"⟩, 11)) (List.mem_of_getElem? (i := 14) (by decide +kernel)), rfl, by decide⟩
theorem cv_N_spareBits : CV me_N_spareBits 0 6 := ⟨mok_N_spareBits, tbl_in (List.mem_of_getElem? (i := 505) (by decide +kernel)) rfl, tbl_sel (q := (⟨"BoatNames", "spareBits", "()I"⟩, 11)) (List.mem_of_getElem? (i := 15) (by decide +kernel)), rfl, by decide⟩
theorem cv_N_isSafeWithout : CV me_N_isSafeWithout 1 6 := ⟨mok_N_isSafeWithout, tbl_in (List.mem_of_getElem? (i := 509) (by decide +kernel)) rfl, tbl_sel (q := (⟨"BoatNames", "isSafeWithout", "(I)Z"⟩, 11)) (List.mem_of_getElem? (i := 16) (by decide +kernel)), rfl, by decide⟩
theorem cs_N_placeOfBit : CS me_N_placeOfBit 2 := ⟨mok_N_placeOfBit, tbl_in (List.mem_of_getElem? (i := 518) (by decide +kernel)) rfl, by decide⟩
theorem cv_N_trialComesOutSo : CV me_N_trialComesOutSo 0 6 := ⟨mok_N_trialComesOutSo, tbl_in (List.mem_of_getElem? (i := 538) (by decide +kernel)) rfl, tbl_sel (q := (⟨"BoatNames", "trialComesOutSo", "()Z"⟩, 11)) (List.mem_of_getElem? (i := 17) (by decide +kernel)), rfl, by decide⟩
theorem cv_N_seekHated : CV me_N_seekHated 2 6 := ⟨mok_N_seekHated, tbl_in (List.mem_of_getElem? (i := 558) (by decide +kernel)) rfl, tbl_sel (q := (⟨"BoatNames", "seekHated", "(II)I"⟩, 11)) (List.mem_of_getElem? (i := 18) (by decide +kernel)), rfl, by decide⟩
theorem cv_N_weekToAsk : CV me_N_weekToAsk 1 6 := ⟨mok_N_weekToAsk, tbl_in (List.mem_of_getElem? (i := 571) (by decide +kernel)) rfl, tbl_sel (q := (⟨"BoatNames", "weekToAsk", "(I)I"⟩, 11)) (List.mem_of_getElem? (i := 19) (by decide +kernel)), rfl, by decide⟩
theorem cv_N_greatestGroup : CV me_N_greatestGroup 2 6 := ⟨mok_N_greatestGroup, tbl_in (List.mem_of_getElem? (i := 579) (by decide +kernel)) rfl, tbl_sel (q := (⟨"BoatNames", "greatestGroup", "(II)I"⟩, 11)) (List.mem_of_getElem? (i := 20) (by decide +kernel)), rfl, by decide⟩
theorem cv_N_weighSunk : CV me_N_weighSunk 1 6 := ⟨mok_N_weighSunk, tbl_in (List.mem_of_getElem? (i := 589) (by decide +kernel)) rfl, tbl_sel (q := (⟨"BoatNames", "weighSunk", "(I)V"⟩, 11)) (List.mem_of_getElem? (i := 21) (by decide +kernel)), rfl, by decide⟩
theorem cv_N_addWeight : CV me_N_addWeight 1 6 := ⟨mok_N_addWeight, tbl_in (List.mem_of_getElem? (i := 600) (by decide +kernel)) rfl, tbl_sel (q := (⟨"BoatNames", "addWeight", "(J)V"⟩, 11)) (List.mem_of_getElem? (i := 22) (by decide +kernel)), rfl, by decide⟩
theorem cv_N_chanceAbove : CV me_N_chanceAbove 1 6 := ⟨mok_N_chanceAbove, tbl_in (List.mem_of_getElem? (i := 604) (by decide +kernel)) rfl, tbl_sel (q := (⟨"BoatNames", "chanceAbove", "(I)J"⟩, 11)) (List.mem_of_getElem? (i := 23) (by decide +kernel)), rfl, by decide⟩
theorem cv_N_chanceBelow : CV me_N_chanceBelow 1 6 := ⟨mok_N_chanceBelow, tbl_in (List.mem_of_getElem? (i := 612) (by decide +kernel)) rfl, tbl_sel (q := (⟨"BoatNames", "chanceBelow", "(I)J"⟩, 11)) (List.mem_of_getElem? (i := 25) (by decide +kernel)), rfl, by decide⟩
theorem cv_N_sharedHalvings : CV me_N_sharedHalvings 1 6 := ⟨mok_N_sharedHalvings, tbl_in (List.mem_of_getElem? (i := 608) (by decide +kernel)) rfl, tbl_sel (q := (⟨"BoatNames", "sharedHalvings", "(I)I"⟩, 11)) (List.mem_of_getElem? (i := 24) (by decide +kernel)), rfl, by decide⟩
theorem cs_R_in : CS me_R_in 3 := ⟨mok_R_in, tbl_in (List.mem_of_getElem? (i := 863) (by decide +kernel)) rfl, by decide⟩
theorem cs_R_isIn : CS me_R_isIn 2 := ⟨mok_R_isIn, tbl_in (List.mem_of_getElem? (i := 975) (by decide +kernel)) rfl, by decide⟩
theorem cs_R_no : CS me_R_no 1 := ⟨mok_R_no, tbl_in (List.mem_of_getElem? (i := 1172) (by decide +kernel)) rfl, by decide⟩
theorem cs_R_lowest : CS me_R_lowest 3 := ⟨mok_R_lowest, tbl_in (List.mem_of_getElem? (i := 1169) (by decide +kernel)) rfl, by decide⟩
theorem cs_R_isText : CS me_R_isText 1 := ⟨mok_R_isText, tbl_in (List.mem_of_getElem? (i := 860) (by decide +kernel)) rfl, by decide⟩
theorem cs_R_isWeek : CS me_R_isWeek 1 := ⟨mok_R_isWeek, tbl_in (List.mem_of_getElem? (i := 901) (by decide +kernel)) rfl, by decide⟩
theorem cs_R_isTwo : CS me_R_isTwo 1 := ⟨mok_R_isTwo, tbl_in (List.mem_of_getElem? (i := 1026) (by decide +kernel)) rfl, by decide⟩
theorem cs_R_isEight : CS me_R_isEight 1 := ⟨mok_R_isEight, tbl_in (List.mem_of_getElem? (i := 894) (by decide +kernel)) rfl, by decide⟩
theorem cs_R_areTwo : CS me_R_areTwo 2 := ⟨mok_R_areTwo, tbl_in (List.mem_of_getElem? (i := 908) (by decide +kernel)) rfl, by decide⟩
theorem cv_R_type : CV me_R_type 2 7 := ⟨mok_R_type, tbl_in (List.mem_of_getElem? (i := 856) (by decide +kernel)) rfl, tbl_in (List.mem_of_getElem? (i := 857) (by decide +kernel)) rfl, rfl, by decide⟩
theorem cv_R_wipe : CV me_R_wipe 1 7 := ⟨mok_R_wipe, tbl_in (List.mem_of_getElem? (i := 866) (by decide +kernel)) rfl, tbl_in (List.mem_of_getElem? (i := 867) (by decide +kernel)) rfl, rfl, by decide⟩
theorem cv_R_undo : CV me_R_undo 1 7 := ⟨mok_R_undo, tbl_in (List.mem_of_getElem? (i := 870) (by decide +kernel)) rfl, tbl_in (List.mem_of_getElem? (i := 871) (by decide +kernel)) rfl, rfl, by decide⟩
theorem cv_R_byteAt : CV me_R_byteAt 2 7 := ⟨mok_R_byteAt, tbl_in (List.mem_of_getElem? (i := 891) (by decide +kernel)) rfl, tbl_sel (q := (⟨"BoatNamesModel", "byteAt", "(II)I"⟩, 43)) (List.mem_of_getElem? (i := 32) (by decide +kernel)), rfl, by decide⟩
theorem cv_R_readsHate : CV me_R_readsHate 2 7 := ⟨mok_R_readsHate, tbl_in (List.mem_of_getElem? (i := 887) (by decide +kernel)) rfl, tbl_sel (q := (⟨"BoatNamesModel", "readsHate", "(II)I"⟩, 43)) (List.mem_of_getElem? (i := 31) (by decide +kernel)), rfl, by decide⟩
theorem cv_R_readsBoat : CV me_R_readsBoat 2 7 := ⟨mok_R_readsBoat, tbl_in (List.mem_of_getElem? (i := 898) (by decide +kernel)) rfl, tbl_sel (q := (⟨"BoatNamesModel", "readsBoat", "(II)I"⟩, 43)) (List.mem_of_getElem? (i := 33) (by decide +kernel)), rfl, by decide⟩
theorem cv_R_readsParts : CV me_R_readsParts 1 7 := ⟨mok_R_readsParts, tbl_in (List.mem_of_getElem? (i := 883) (by decide +kernel)) rfl, tbl_sel (q := (⟨"BoatNamesModel", "readsParts", "(I)I"⟩, 43)) (List.mem_of_getElem? (i := 30) (by decide +kernel)), rfl, by decide⟩
theorem cv_R_faultOf : CV me_R_faultOf 1 7 := ⟨mok_R_faultOf, tbl_in (List.mem_of_getElem? (i := 879) (by decide +kernel)) rfl, tbl_sel (q := (⟨"BoatNamesModel", "faultOf", "(I)I"⟩, 43)) (List.mem_of_getElem? (i := 29) (by decide +kernel)), rfl, by decide⟩
theorem cv_R_reads : CV me_R_reads 0 7 := ⟨mok_R_reads, tbl_in (List.mem_of_getElem? (i := 916) (by decide +kernel)) rfl, tbl_sel (q := (⟨"BoatNamesModel", "reads", "()V"⟩, 43)) (List.mem_of_getElem? (i := 35) (by decide +kernel)), rfl, by decide⟩
theorem cv_R_fault : CV me_R_fault 1 7 := ⟨mok_R_fault, tbl_in (List.mem_of_getElem? (i := 874) (by decide +kernel)) rfl, tbl_in (List.mem_of_getElem? (i := 875) (by decide +kernel)) rfl, rfl, by decide⟩
theorem cv_R_isBoat : CV me_R_isBoat 1 7 := ⟨mok_R_isBoat, tbl_in (List.mem_of_getElem? (i := 924) (by decide +kernel)) rfl, tbl_sel (q := (⟨"BoatNamesModel", "isBoat", "(I)Z"⟩, 43)) (List.mem_of_getElem? (i := 36) (by decide +kernel)), rfl, by decide⟩
theorem cv_R_toldOf : CV me_R_toldOf 2 7 := ⟨mok_R_toldOf, tbl_in (List.mem_of_getElem? (i := 912) (by decide +kernel)) rfl, tbl_sel (q := (⟨"BoatNamesModel", "toldOf", "(II)I"⟩, 43)) (List.mem_of_getElem? (i := 34) (by decide +kernel)), rfl, by decide⟩
theorem cv_R_told : CV me_R_told 2 7 := ⟨mok_R_told, tbl_in (List.mem_of_getElem? (i := 904) (by decide +kernel)) rfl, tbl_in (List.mem_of_getElem? (i := 905) (by decide +kernel)) rfl, rfl, by decide⟩
theorem cv_R_boatOf : CV me_R_boatOf 2 7 := ⟨mok_R_boatOf, tbl_in (List.mem_of_getElem? (i := 928) (by decide +kernel)) rfl, tbl_sel (q := (⟨"BoatNamesModel", "boatOf", "(II)I"⟩, 43)) (List.mem_of_getElem? (i := 37) (by decide +kernel)), rfl, by decide⟩
theorem cv_R_boat : CV me_R_boat 2 7 := ⟨mok_R_boat, tbl_in (List.mem_of_getElem? (i := 919) (by decide +kernel)) rfl, tbl_in (List.mem_of_getElem? (i := 920) (by decide +kernel)) rfl, rfl, by decide⟩
theorem cv_R_event : CV me_R_event 3 7 := ⟨mok_R_event, tbl_in (List.mem_of_getElem? (i := 931) (by decide +kernel)) rfl, tbl_in (List.mem_of_getElem? (i := 932) (by decide +kernel)) rfl, rfl, by decide⟩
theorem cv_R_back : CV me_R_back 0 7 := ⟨mok_R_back, tbl_in (List.mem_of_getElem? (i := 935) (by decide +kernel)) rfl, tbl_in (List.mem_of_getElem? (i := 936) (by decide +kernel)) rfl, rfl, by decide⟩
theorem cv_R_read : CV me_R_read 1 7 := ⟨mok_R_read, tbl_in (List.mem_of_getElem? (i := 939) (by decide +kernel)) rfl, tbl_in (List.mem_of_getElem? (i := 940) (by decide +kernel)) rfl, rfl, by decide⟩
theorem cv_R_asTold : CV me_R_asTold 0 7 := ⟨mok_R_asTold, tbl_in (List.mem_of_getElem? (i := 964) (by decide +kernel)) rfl, tbl_sel (q := (⟨"BoatNamesModel", "asTold", "()V"⟩, 43)) (List.mem_of_getElem? (i := 41) (by decide +kernel)), rfl, by decide⟩
theorem cv_R_storms : CV me_R_storms 0 7 := ⟨mok_R_storms, tbl_in (List.mem_of_getElem? (i := 983) (by decide +kernel)) rfl, tbl_sel (q := (⟨"BoatNamesModel", "storms", "()V"⟩, 43)) (List.mem_of_getElem? (i := 45) (by decide +kernel)), rfl, by decide⟩
theorem cv_R_shares : CV me_R_shares 1 7 := ⟨mok_R_shares, tbl_in (List.mem_of_getElem? (i := 987) (by decide +kernel)) rfl, tbl_sel (q := (⟨"BoatNamesModel", "shares", "(I)V"⟩, 43)) (List.mem_of_getElem? (i := 46) (by decide +kernel)), rfl, by decide⟩
theorem cv_R_makesUp : CV me_R_makesUp 1 7 := ⟨mok_R_makesUp, tbl_in (List.mem_of_getElem? (i := 991) (by decide +kernel)) rfl, tbl_sel (q := (⟨"BoatNamesModel", "makesUp", "(I)V"⟩, 43)) (List.mem_of_getElem? (i := 47) (by decide +kernel)), rfl, by decide⟩
theorem cv_R_befalls : CV me_R_befalls 1 7 := ⟨mok_R_befalls, tbl_in (List.mem_of_getElem? (i := 979) (by decide +kernel)) rfl, tbl_sel (q := (⟨"BoatNamesModel", "befalls", "(I)V"⟩, 43)) (List.mem_of_getElem? (i := 44) (by decide +kernel)), rfl, by decide⟩
theorem cv_R_launches : CV me_R_launches 1 7 := ⟨mok_R_launches, tbl_in (List.mem_of_getElem? (i := 995) (by decide +kernel)) rfl, tbl_sel (q := (⟨"BoatNamesModel", "launches", "(I)V"⟩, 43)) (List.mem_of_getElem? (i := 48) (by decide +kernel)), rfl, by decide⟩
theorem cv_R_sails : CV me_R_sails 2 7 := ⟨mok_R_sails, tbl_in (List.mem_of_getElem? (i := 999) (by decide +kernel)) rfl, tbl_sel (q := (⟨"BoatNamesModel", "sails", "(II)V"⟩, 43)) (List.mem_of_getElem? (i := 49) (by decide +kernel)), rfl, by decide⟩
theorem cv_R_goesBy : CV me_R_goesBy 1 7 := ⟨mok_R_goesBy, tbl_in (List.mem_of_getElem? (i := 972) (by decide +kernel)) rfl, tbl_sel (q := (⟨"BoatNamesModel", "goesBy", "(I)V"⟩, 43)) (List.mem_of_getElem? (i := 43) (by decide +kernel)), rfl, by decide⟩
theorem cv_R_runs : CV me_R_runs 0 7 := ⟨mok_R_runs, tbl_in (List.mem_of_getElem? (i := 968) (by decide +kernel)) rfl, tbl_sel (q := (⟨"BoatNamesModel", "runs", "()V"⟩, 43)) (List.mem_of_getElem? (i := 42) (by decide +kernel)), rfl, by decide⟩
theorem cv_R_runsTold : CV me_R_runsTold 0 7 := ⟨mok_R_runsTold, tbl_in (List.mem_of_getElem? (i := 960) (by decide +kernel)) rfl, tbl_sel (q := (⟨"BoatNamesModel", "runsTold", "()V"⟩, 43)) (List.mem_of_getElem? (i := 40) (by decide +kernel)), rfl, by decide⟩
theorem cv_R_hatesOf : CV me_R_hatesOf 3 7 := ⟨mok_R_hatesOf, tbl_in (List.mem_of_getElem? (i := 956) (by decide +kernel)) rfl, tbl_sel (q := (⟨"BoatNamesModel", "hatesOf", "(III)I"⟩, 43)) (List.mem_of_getElem? (i := 39) (by decide +kernel)), rfl, by decide⟩
theorem cv_R_hates : CV me_R_hates 3 7 := ⟨mok_R_hates, tbl_in (List.mem_of_getElem? (i := 951) (by decide +kernel)) rfl, tbl_in (List.mem_of_getElem? (i := 952) (by decide +kernel)) rfl, rfl, by decide⟩
theorem cv_R_atOf : CV me_R_atOf 3 7 := ⟨mok_R_atOf, tbl_in (List.mem_of_getElem? (i := 1007) (by decide +kernel)) rfl, tbl_sel (q := (⟨"BoatNamesModel", "atOf", "(III)I"⟩, 43)) (List.mem_of_getElem? (i := 50) (by decide +kernel)), rfl, by decide⟩
theorem cv_R_at : CV me_R_at 3 7 := ⟨mok_R_at, tbl_in (List.mem_of_getElem? (i := 1002) (by decide +kernel)) rfl, tbl_in (List.mem_of_getElem? (i := 1003) (by decide +kernel)) rfl, rfl, by decide⟩
theorem cv_R_manyAt : CV me_R_manyAt 2 7 := ⟨mok_R_manyAt, tbl_in (List.mem_of_getElem? (i := 1019) (by decide +kernel)) rfl, tbl_sel (q := (⟨"BoatNamesModel", "manyAt", "(II)I"⟩, 43)) (List.mem_of_getElem? (i := 52) (by decide +kernel)), rfl, by decide⟩
theorem cv_R_afloatOf : CV me_R_afloatOf 1 7 := ⟨mok_R_afloatOf, tbl_in (List.mem_of_getElem? (i := 1015) (by decide +kernel)) rfl, tbl_sel (q := (⟨"BoatNamesModel", "afloatOf", "(I)I"⟩, 43)) (List.mem_of_getElem? (i := 51) (by decide +kernel)), rfl, by decide⟩
theorem cv_R_afloat : CV me_R_afloat 1 7 := ⟨mok_R_afloat, tbl_in (List.mem_of_getElem? (i := 1010) (by decide +kernel)) rfl, tbl_in (List.mem_of_getElem? (i := 1011) (by decide +kernel)) rfl, rfl, by decide⟩
theorem cv_R_namedOf : CV me_R_namedOf 2 7 := ⟨mok_R_namedOf, tbl_in (List.mem_of_getElem? (i := 1030) (by decide +kernel)) rfl, tbl_sel (q := (⟨"BoatNamesModel", "namedOf", "(II)I"⟩, 43)) (List.mem_of_getElem? (i := 53) (by decide +kernel)), rfl, by decide⟩
theorem cv_R_named : CV me_R_named 2 7 := ⟨mok_R_named, tbl_in (List.mem_of_getElem? (i := 1022) (by decide +kernel)) rfl, tbl_in (List.mem_of_getElem? (i := 1023) (by decide +kernel)) rfl, rfl, by decide⟩
theorem cv_R_firstOf : CV me_R_firstOf 1 7 := ⟨mok_R_firstOf, tbl_in (List.mem_of_getElem? (i := 1038) (by decide +kernel)) rfl, tbl_sel (q := (⟨"BoatNamesModel", "firstOf", "(I)I"⟩, 43)) (List.mem_of_getElem? (i := 54) (by decide +kernel)), rfl, by decide⟩
theorem cv_R_first : CV me_R_first 1 7 := ⟨mok_R_first, tbl_in (List.mem_of_getElem? (i := 1033) (by decide +kernel)) rfl, tbl_in (List.mem_of_getElem? (i := 1034) (by decide +kernel)) rfl, rfl, by decide⟩
theorem cv_R_lovedOf : CV me_R_lovedOf 0 7 := ⟨mok_R_lovedOf, tbl_in (List.mem_of_getElem? (i := 1046) (by decide +kernel)) rfl, tbl_sel (q := (⟨"BoatNamesModel", "lovedOf", "()I"⟩, 43)) (List.mem_of_getElem? (i := 55) (by decide +kernel)), rfl, by decide⟩
theorem cv_R_loved : CV me_R_loved 0 7 := ⟨mok_R_loved, tbl_in (List.mem_of_getElem? (i := 1041) (by decide +kernel)) rfl, tbl_in (List.mem_of_getElem? (i := 1042) (by decide +kernel)) rfl, rfl, by decide⟩
theorem cv_R_hatesAll : CV me_R_hatesAll 1 7 := ⟨mok_R_hatesAll, tbl_in (List.mem_of_getElem? (i := 1058) (by decide +kernel)) rfl, tbl_sel (q := (⟨"BoatNamesModel", "hatesAll", "(I)I"⟩, 43)) (List.mem_of_getElem? (i := 57) (by decide +kernel)), rfl, by decide⟩
theorem cv_R_bitterOf : CV me_R_bitterOf 0 7 := ⟨mok_R_bitterOf, tbl_in (List.mem_of_getElem? (i := 1054) (by decide +kernel)) rfl, tbl_sel (q := (⟨"BoatNamesModel", "bitterOf", "()I"⟩, 43)) (List.mem_of_getElem? (i := 56) (by decide +kernel)), rfl, by decide⟩
theorem cv_R_bitter : CV me_R_bitter 0 7 := ⟨mok_R_bitter, tbl_in (List.mem_of_getElem? (i := 1049) (by decide +kernel)) rfl, tbl_in (List.mem_of_getElem? (i := 1050) (by decide +kernel)) rfl, rfl, by decide⟩
theorem cv_R_longNow : CV me_R_longNow 1 7 := ⟨mok_R_longNow, tbl_in (List.mem_of_getElem? (i := 1070) (by decide +kernel)) rfl, tbl_sel (q := (⟨"BoatNamesModel", "longNow", "(I)I"⟩, 43)) (List.mem_of_getElem? (i := 59) (by decide +kernel)), rfl, by decide⟩
theorem cv_R_longOf : CV me_R_longOf 1 7 := ⟨mok_R_longOf, tbl_in (List.mem_of_getElem? (i := 1066) (by decide +kernel)) rfl, tbl_sel (q := (⟨"BoatNamesModel", "longOf", "(I)I"⟩, 43)) (List.mem_of_getElem? (i := 58) (by decide +kernel)), rfl, by decide⟩
theorem cv_R_longs : CV me_R_longs 1 7 := ⟨mok_R_longs, tbl_in (List.mem_of_getElem? (i := 1061) (by decide +kernel)) rfl, tbl_in (List.mem_of_getElem? (i := 1062) (by decide +kernel)) rfl, rfl, by decide⟩
theorem cv_R_wrongOf : CV me_R_wrongOf 2 7 := ⟨mok_R_wrongOf, tbl_in (List.mem_of_getElem? (i := 1078) (by decide +kernel)) rfl, tbl_sel (q := (⟨"BoatNamesModel", "wrongOf", "(II)I"⟩, 43)) (List.mem_of_getElem? (i := 60) (by decide +kernel)), rfl, by decide⟩
theorem cv_R_wrong : CV me_R_wrong 2 7 := ⟨mok_R_wrong, tbl_in (List.mem_of_getElem? (i := 1073) (by decide +kernel)) rfl, tbl_in (List.mem_of_getElem? (i := 1074) (by decide +kernel)) rfl, rfl, by decide⟩
theorem cv_R_payOf : CV me_R_payOf 2 7 := ⟨mok_R_payOf, tbl_in (List.mem_of_getElem? (i := 1086) (by decide +kernel)) rfl, tbl_sel (q := (⟨"BoatNamesModel", "payOf", "(II)I"⟩, 43)) (List.mem_of_getElem? (i := 61) (by decide +kernel)), rfl, by decide⟩
theorem cv_R_pay : CV me_R_pay 2 7 := ⟨mok_R_pay, tbl_in (List.mem_of_getElem? (i := 1081) (by decide +kernel)) rfl, tbl_in (List.mem_of_getElem? (i := 1082) (by decide +kernel)) rfl, rfl, by decide⟩
theorem cv_R_waitsOf : CV me_R_waitsOf 2 7 := ⟨mok_R_waitsOf, tbl_in (List.mem_of_getElem? (i := 1094) (by decide +kernel)) rfl, tbl_sel (q := (⟨"BoatNamesModel", "waitsOf", "(II)I"⟩, 43)) (List.mem_of_getElem? (i := 62) (by decide +kernel)), rfl, by decide⟩
theorem cv_R_waits : CV me_R_waits 2 7 := ⟨mok_R_waits, tbl_in (List.mem_of_getElem? (i := 1089) (by decide +kernel)) rfl, tbl_in (List.mem_of_getElem? (i := 1090) (by decide +kernel)) rfl, rfl, by decide⟩
theorem cv_R_isSpared : CV me_R_isSpared 1 7 := ⟨mok_R_isSpared, tbl_in (List.mem_of_getElem? (i := 1106) (by decide +kernel)) rfl, tbl_sel (q := (⟨"BoatNamesModel", "isSpared", "(I)Z"⟩, 43)) (List.mem_of_getElem? (i := 64) (by decide +kernel)), rfl, by decide⟩
theorem cv_R_spareBy : CV me_R_spareBy 0 7 := ⟨mok_R_spareBy, tbl_in (List.mem_of_getElem? (i := 1102) (by decide +kernel)) rfl, tbl_sel (q := (⟨"BoatNamesModel", "spareBy", "()I"⟩, 43)) (List.mem_of_getElem? (i := 63) (by decide +kernel)), rfl, by decide⟩
theorem cv_R_ofRow : CV me_R_ofRow 2 7 := ⟨mok_R_ofRow, tbl_in (List.mem_of_getElem? (i := 1110) (by decide +kernel)) rfl, tbl_sel (q := (⟨"BoatNamesModel", "ofRow", "(II)I"⟩, 43)) (List.mem_of_getElem? (i := 65) (by decide +kernel)), rfl, by decide⟩
theorem cv_R_spare : CV me_R_spare 1 7 := ⟨mok_R_spare, tbl_in (List.mem_of_getElem? (i := 1097) (by decide +kernel)) rfl, tbl_in (List.mem_of_getElem? (i := 1098) (by decide +kernel)) rfl, rfl, by decide⟩
theorem cv_R_seen : CV me_R_seen 3 7 := ⟨mok_R_seen, tbl_in (List.mem_of_getElem? (i := 1113) (by decide +kernel)) rfl, tbl_in (List.mem_of_getElem? (i := 1114) (by decide +kernel)) rfl, rfl, by decide⟩
theorem cv_R_forget : CV me_R_forget 0 7 := ⟨mok_R_forget, tbl_in (List.mem_of_getElem? (i := 1117) (by decide +kernel)) rfl, tbl_in (List.mem_of_getElem? (i := 1118) (by decide +kernel)) rfl, rfl, by decide⟩
theorem cv_R_isSeen : CV me_R_isSeen 0 7 := ⟨mok_R_isSeen, tbl_in (List.mem_of_getElem? (i := 1130) (by decide +kernel)) rfl, tbl_sel (q := (⟨"BoatNamesModel", "isSeen", "()Z"⟩, 43)) (List.mem_of_getElem? (i := 67) (by decide +kernel)), rfl, by decide⟩
theorem cv_R_neverNow : CV me_R_neverNow 0 7 := ⟨mok_R_neverNow, tbl_in (List.mem_of_getElem? (i := 1126) (by decide +kernel)) rfl, tbl_sel (q := (⟨"BoatNamesModel", "neverNow", "()I"⟩, 43)) (List.mem_of_getElem? (i := 66) (by decide +kernel)), rfl, by decide⟩
theorem cv_R_never : CV me_R_never 0 7 := ⟨mok_R_never, tbl_in (List.mem_of_getElem? (i := 1121) (by decide +kernel)) rfl, tbl_in (List.mem_of_getElem? (i := 1122) (by decide +kernel)) rfl, rfl, by decide⟩
theorem cv_R_sortsBy : CV me_R_sortsBy 1 7 := ⟨mok_R_sortsBy, tbl_in (List.mem_of_getElem? (i := 1138) (by decide +kernel)) rfl, tbl_sel (q := (⟨"BoatNamesModel", "sortsBy", "(I)I"⟩, 43)) (List.mem_of_getElem? (i := 68) (by decide +kernel)), rfl, by decide⟩
theorem cv_R_sort : CV me_R_sort 1 7 := ⟨mok_R_sort, tbl_in (List.mem_of_getElem? (i := 1133) (by decide +kernel)) rfl, tbl_in (List.mem_of_getElem? (i := 1134) (by decide +kernel)) rfl, rfl, by decide⟩
theorem cv_R_namesAll : CV me_R_namesAll 1 7 := ⟨mok_R_namesAll, tbl_in (List.mem_of_getElem? (i := 1150) (by decide +kernel)) rfl, tbl_sel (q := (⟨"BoatNamesModel", "namesAll", "(I)I"⟩, 43)) (List.mem_of_getElem? (i := 70) (by decide +kernel)), rfl, by decide⟩
theorem cv_R_hatedBy : CV me_R_hatedBy 2 7 := ⟨mok_R_hatedBy, tbl_in (List.mem_of_getElem? (i := 1146) (by decide +kernel)) rfl, tbl_sel (q := (⟨"BoatNamesModel", "hatedBy", "(II)I"⟩, 43)) (List.mem_of_getElem? (i := 69) (by decide +kernel)), rfl, by decide⟩
theorem cv_R_hated : CV me_R_hated 2 7 := ⟨mok_R_hated, tbl_in (List.mem_of_getElem? (i := 1141) (by decide +kernel)) rfl, tbl_in (List.mem_of_getElem? (i := 1142) (by decide +kernel)) rfl, rfl, by decide⟩
theorem cv_R_askOf : CV me_R_askOf 2 7 := ⟨mok_R_askOf, tbl_in (List.mem_of_getElem? (i := 1158) (by decide +kernel)) rfl, tbl_sel (q := (⟨"BoatNamesModel", "askOf", "(II)I"⟩, 43)) (List.mem_of_getElem? (i := 71) (by decide +kernel)), rfl, by decide⟩
theorem cv_R_ask : CV me_R_ask 2 7 := ⟨mok_R_ask, tbl_in (List.mem_of_getElem? (i := 1153) (by decide +kernel)) rfl, tbl_in (List.mem_of_getElem? (i := 1154) (by decide +kernel)) rfl, rfl, by decide⟩
theorem cv_R_chanceOf : CV me_R_chanceOf 3 7 := ⟨mok_R_chanceOf, tbl_in (List.mem_of_getElem? (i := 1166) (by decide +kernel)) rfl, tbl_sel (q := (⟨"BoatNamesModel", "chanceOf", "(III)J"⟩, 43)) (List.mem_of_getElem? (i := 72) (by decide +kernel)), rfl, by decide⟩
theorem cv_R_chance : CV me_R_chance 3 7 := ⟨mok_R_chance, tbl_in (List.mem_of_getElem? (i := 1161) (by decide +kernel)) rfl, tbl_in (List.mem_of_getElem? (i := 1162) (by decide +kernel)) rfl, rfl, by decide⟩
theorem cv_R_decadesOf : CV me_R_decadesOf 3 7 := ⟨mok_R_decadesOf, tbl_in (List.mem_of_getElem? (i := 1181) (by decide +kernel)) rfl, tbl_sel (q := (⟨"BoatNamesModel", "decadesOf", "(III)I"⟩, 43)) (List.mem_of_getElem? (i := 73) (by decide +kernel)), rfl, by decide⟩
theorem cv_R_decades : CV me_R_decades 3 7 := ⟨mok_R_decades, tbl_in (List.mem_of_getElem? (i := 1176) (by decide +kernel)) rfl, tbl_in (List.mem_of_getElem? (i := 1177) (by decide +kernel)) rfl, rfl, by decide⟩
theorem cv_R_meets : CV me_R_meets 1 7 := ⟨mok_R_meets, tbl_in (List.mem_of_getElem? (i := 947) (by decide +kernel)) rfl, tbl_sel (q := (⟨"BoatNamesModel", "meets", "(I)I"⟩, 43)) (List.mem_of_getElem? (i := 38) (by decide +kernel)), rfl, by decide⟩
theorem cs_R_isSheet : CS me_R_isSheet 1 := ⟨mok_R_isSheet, tbl_in (List.mem_of_getElem? (i := 943) (by decide +kernel)) rfl, by decide⟩
theorem cv_R_sheet : CV me_R_sheet 3 7 := ⟨mok_R_sheet, tbl_in (List.mem_of_getElem? (i := 1185) (by decide +kernel)) rfl, tbl_in (List.mem_of_getElem? (i := 1186) (by decide +kernel)) rfl, rfl, by decide⟩
theorem cv_R_lose : CV me_R_lose 1 7 := ⟨mok_R_lose, tbl_in (List.mem_of_getElem? (i := 1189) (by decide +kernel)) rfl, tbl_in (List.mem_of_getElem? (i := 1190) (by decide +kernel)) rfl, rfl, by decide⟩
theorem cv_R_lacks : CV me_R_lacks 3 7 := ⟨mok_R_lacks, tbl_in (List.mem_of_getElem? (i := 1198) (by decide +kernel)) rfl, tbl_sel (q := (⟨"BoatNamesModel", "lacks", "(III)I"⟩, 43)) (List.mem_of_getElem? (i := 74) (by decide +kernel)), rfl, by decide⟩
theorem cv_R_keep : CV me_R_keep 3 7 := ⟨mok_R_keep, tbl_in (List.mem_of_getElem? (i := 1202) (by decide +kernel)) rfl, tbl_sel (q := (⟨"BoatNamesModel", "keep", "(III)V"⟩, 43)) (List.mem_of_getElem? (i := 75) (by decide +kernel)), rfl, by decide⟩
theorem cv_R_put : CV me_R_put 4 7 := ⟨mok_R_put, tbl_in (List.mem_of_getElem? (i := 1193) (by decide +kernel)) rfl, tbl_in (List.mem_of_getElem? (i := 1194) (by decide +kernel)) rfl, rfl, by decide⟩
theorem cv_R_get : CV me_R_get 3 7 := ⟨mok_R_get, tbl_in (List.mem_of_getElem? (i := 1205) (by decide +kernel)) rfl, tbl_in (List.mem_of_getElem? (i := 1206) (by decide +kernel)) rfl, rfl, by decide⟩
theorem cv_R_copy : CV me_R_copy 5 7 := ⟨mok_R_copy, tbl_in (List.mem_of_getElem? (i := 1210) (by decide +kernel)) rfl, tbl_in (List.mem_of_getElem? (i := 1211) (by decide +kernel)) rfl, rfl, by decide⟩
theorem cv_R_write : CV me_R_write 2 7 := ⟨mok_R_write, tbl_in (List.mem_of_getElem? (i := 1214) (by decide +kernel)) rfl, tbl_in (List.mem_of_getElem? (i := 1215) (by decide +kernel)) rfl, rfl, by decide⟩
theorem cv_R_sumOf : CV me_R_sumOf 1 7 := ⟨mok_R_sumOf, tbl_in (List.mem_of_getElem? (i := 1223) (by decide +kernel)) rfl, tbl_sel (q := (⟨"BoatNamesModel", "sumOf", "(I)I"⟩, 43)) (List.mem_of_getElem? (i := 76) (by decide +kernel)), rfl, by decide⟩
theorem cv_R_count : CV me_R_count 1 7 := ⟨mok_R_count, tbl_in (List.mem_of_getElem? (i := 1218) (by decide +kernel)) rfl, tbl_in (List.mem_of_getElem? (i := 1219) (by decide +kernel)) rfl, rfl, by decide⟩
theorem cv_R_weekDigest : CV me_R_weekDigest 3 7 := ⟨mok_R_weekDigest, tbl_in (List.mem_of_getElem? (i := 1238) (by decide +kernel)) rfl, tbl_sel (q := (⟨"BoatNamesModel", "weekDigest", "(JII)J"⟩, 43)) (List.mem_of_getElem? (i := 78) (by decide +kernel)), rfl, by decide⟩
theorem cv_R_boatDigest : CV me_R_boatDigest 2 7 := ⟨mok_R_boatDigest, tbl_in (List.mem_of_getElem? (i := 1234) (by decide +kernel)) rfl, tbl_sel (q := (⟨"BoatNamesModel", "boatDigest", "(JI)J"⟩, 43)) (List.mem_of_getElem? (i := 77) (by decide +kernel)), rfl, by decide⟩
theorem cv_R_personDigest : CV me_R_personDigest 2 7 := ⟨mok_R_personDigest, tbl_in (List.mem_of_getElem? (i := 1242) (by decide +kernel)) rfl, tbl_sel (q := (⟨"BoatNamesModel", "personDigest", "(JI)J"⟩, 43)) (List.mem_of_getElem? (i := 79) (by decide +kernel)), rfl, by decide⟩
theorem cv_R_digest : CV me_R_digest 0 7 := ⟨mok_R_digest, tbl_in (List.mem_of_getElem? (i := 1226) (by decide +kernel)) rfl, tbl_in (List.mem_of_getElem? (i := 1227) (by decide +kernel)) rfl, rfl, by decide⟩
theorem cs_J_bitCount : CS me_J_bitCount 1 := ⟨mok_J_bitCount, tbl_in (List.mem_of_getElem? (i := 512) (by decide +kernel)) rfl, by decide⟩
theorem cs_J_fillj : CS me_J_fillj 2 := ⟨mok_J_fillj, tbl_in (List.mem_of_getElem? (i := 592) (by decide +kernel)) rfl, by decide⟩
theorem cs_J_filli : CS me_J_filli 2 := ⟨mok_J_filli, tbl_in (List.mem_of_getElem? (i := 295) (by decide +kernel)) rfl, by decide⟩
theorem lk_8_13 : Cond.methodLink "BoatNamesLaw" 13 (mnm me_N_type) ∈ tbl := tbl_in (List.mem_of_getElem? (i := 251) (by decide +kernel)) rfl
theorem lk_6_73 : Cond.methodLink "BoatNames" 73 (mnm me_N_isBelow) ∈ tbl := tbl_in (List.mem_of_getElem? (i := 255) (by decide +kernel)) rfl
theorem lk_6_77 : Cond.methodLink "BoatNames" 77 (mnm me_N_textOf) ∈ tbl := tbl_in (List.mem_of_getElem? (i := 258) (by decide +kernel)) rfl
theorem lk_6_81 : Cond.methodLink "BoatNames" 81 (mnm me_X_isFull) ∈ tbl := tbl_in (List.mem_of_getElem? (i := 262) (by decide +kernel)) rfl
theorem lk_6_85 : Cond.methodLink "BoatNames" 85 (mnm me_X_append) ∈ tbl := tbl_in (List.mem_of_getElem? (i := 266) (by decide +kernel)) rfl
theorem lk_6_88 : Cond.methodLink "BoatNames" 88 (mnm me_N_hear) ∈ tbl := tbl_in (List.mem_of_getElem? (i := 270) (by decide +kernel)) rfl
theorem lk_6_352 : Cond.methodLink "BoatNames" 352 (mnm me_T_hearHates) ∈ tbl := tbl_in (List.mem_of_getElem? (i := 274) (by decide +kernel)) rfl
theorem lk_3_55 : Cond.methodLink "BoatNames$Telling" 55 (mnm me_X_findHatesFault) ∈ tbl := tbl_in (List.mem_of_getElem? (i := 278) (by decide +kernel)) rfl
theorem lk_4_22 : Cond.methodLink "BoatNames$Text" 22 (mnm me_X_isHateByte) ∈ tbl := tbl_in (List.mem_of_getElem? (i := 282) (by decide +kernel)) rfl
theorem lk_4_33 : Cond.methodLink "BoatNames$Text" 33 (mnm me_X_has) ∈ tbl := tbl_in (List.mem_of_getElem? (i := 286) (by decide +kernel)) rfl
theorem lk_4_26 : Cond.methodLink "BoatNames$Text" 26 (mnm me_X_faultOfEnd) ∈ tbl := tbl_in (List.mem_of_getElem? (i := 290) (by decide +kernel)) rfl
theorem lk_3_60 : Cond.methodLink "BoatNames$Telling" 60 (mnm me_J_filli) ∈ tbl := tbl_in (List.mem_of_getElem? (i := 294) (by decide +kernel)) rfl
theorem lk_3_72 : Cond.methodLink "BoatNames$Telling" 72 (mnm me_X_figure) ∈ tbl := tbl_in (List.mem_of_getElem? (i := 297) (by decide +kernel)) rfl
theorem lk_6_356 : Cond.methodLink "BoatNames" 356 (mnm me_T_hearBoats) ∈ tbl := tbl_in (List.mem_of_getElem? (i := 304) (by decide +kernel)) rfl
theorem lk_3_80 : Cond.methodLink "BoatNames$Telling" 80 (mnm me_X_findBoatsFault) ∈ tbl := tbl_in (List.mem_of_getElem? (i := 308) (by decide +kernel)) rfl
theorem lk_4_30 : Cond.methodLink "BoatNames$Text" 30 (mnm me_X_isBoatByte) ∈ tbl := tbl_in (List.mem_of_getElem? (i := 312) (by decide +kernel)) rfl
theorem lk_4_37 : Cond.methodLink "BoatNames$Text" 37 (mnm me_X_sortOf) ∈ tbl := tbl_in (List.mem_of_getElem? (i := 316) (by decide +kernel)) rfl
theorem lk_3_86 : Cond.methodLink "BoatNames$Telling" 86 (mnm me_X_sortOf) ∈ tbl := tbl_in (List.mem_of_getElem? (i := 319) (by decide +kernel)) rfl
theorem lk_8_18 : Cond.methodLink "BoatNamesLaw" 18 (mnm me_N_wipe) ∈ tbl := tbl_in (List.mem_of_getElem? (i := 320) (by decide +kernel)) rfl
theorem lk_8_23 : Cond.methodLink "BoatNamesLaw" 23 (mnm me_N_undo) ∈ tbl := tbl_in (List.mem_of_getElem? (i := 324) (by decide +kernel)) rfl
theorem lk_8_27 : Cond.methodLink "BoatNamesLaw" 27 (mnm me_N_fault) ∈ tbl := tbl_in (List.mem_of_getElem? (i := 328) (by decide +kernel)) rfl
theorem lk_8_31 : Cond.methodLink "BoatNamesLaw" 31 (mnm me_N_told) ∈ tbl := tbl_in (List.mem_of_getElem? (i := 332) (by decide +kernel)) rfl
theorem lk_6_97 : Cond.methodLink "BoatNames" 97 (mnm me_N_areTwo) ∈ tbl := tbl_in (List.mem_of_getElem? (i := 336) (by decide +kernel)) rfl
theorem lk_6_103 : Cond.methodLink "BoatNames" 103 (mnm me_N_pair) ∈ tbl := tbl_in (List.mem_of_getElem? (i := 339) (by decide +kernel)) rfl
theorem lk_8_35 : Cond.methodLink "BoatNamesLaw" 35 (mnm me_N_boat) ∈ tbl := tbl_in (List.mem_of_getElem? (i := 340) (by decide +kernel)) rfl
theorem lk_6_107 : Cond.methodLink "BoatNames" 107 (mnm me_N_isBoat) ∈ tbl := tbl_in (List.mem_of_getElem? (i := 344) (by decide +kernel)) rfl
theorem lk_8_39 : Cond.methodLink "BoatNamesLaw" 39 (mnm me_N_event) ∈ tbl := tbl_in (List.mem_of_getElem? (i := 348) (by decide +kernel)) rfl
theorem lk_6_126 : Cond.methodLink "BoatNames" 126 (mnm me_T_addEvent) ∈ tbl := tbl_in (List.mem_of_getElem? (i := 352) (by decide +kernel)) rfl
theorem lk_8_44 : Cond.methodLink "BoatNamesLaw" 44 (mnm me_N_back) ∈ tbl := tbl_in (List.mem_of_getElem? (i := 356) (by decide +kernel)) rfl
theorem lk_8_49 : Cond.methodLink "BoatNamesLaw" 49 (mnm me_N_read) ∈ tbl := tbl_in (List.mem_of_getElem? (i := 360) (by decide +kernel)) rfl
theorem lk_6_134 : Cond.methodLink "BoatNames" 134 (mnm me_N_find) ∈ tbl := tbl_in (List.mem_of_getElem? (i := 364) (by decide +kernel)) rfl
theorem lk_6_142 : Cond.methodLink "BoatNames" 142 (mnm me_N_event) ∈ tbl := tbl_in (List.mem_of_getElem? (i := 368) (by decide +kernel)) rfl
theorem lk_8_53 : Cond.methodLink "BoatNamesLaw" 53 (mnm me_N_hates) ∈ tbl := tbl_in (List.mem_of_getElem? (i := 369) (by decide +kernel)) rfl
theorem lk_6_146 : Cond.methodLink "BoatNames" 146 (mnm me_V_run) ∈ tbl := tbl_in (List.mem_of_getElem? (i := 373) (by decide +kernel)) rfl
theorem lk_5_50 : Cond.methodLink "BoatNames$Voyage" 50 (mnm me_V_begin) ∈ tbl := tbl_in (List.mem_of_getElem? (i := 377) (by decide +kernel)) rfl
theorem lk_5_61 : Cond.methodLink "BoatNames$Voyage" 61 arraycopyName ∈ tbl := tbl_in (List.mem_of_getElem? (i := 381) (by decide +kernel)) rfl
theorem lk_5_68 : Cond.methodLink "BoatNames$Voyage" 68 (mnm me_J_filli) ∈ tbl := tbl_in (List.mem_of_getElem? (i := 384) (by decide +kernel)) rfl
theorem lk_5_54 : Cond.methodLink "BoatNames$Voyage" 54 (mnm me_V_sail) ∈ tbl := tbl_in (List.mem_of_getElem? (i := 385) (by decide +kernel)) rfl
theorem lk_5_80 : Cond.methodLink "BoatNames$Voyage" 80 (mnm me_T_isEventOf) ∈ tbl := tbl_in (List.mem_of_getElem? (i := 389) (by decide +kernel)) rfl
theorem lk_5_87 : Cond.methodLink "BoatNames$Voyage" 87 (mnm me_V_storm) ∈ tbl := tbl_in (List.mem_of_getElem? (i := 393) (by decide +kernel)) rfl
theorem lk_5_109 : Cond.methodLink "BoatNames$Voyage" 109 Lib.Math.max.name ∈ tbl := tbl_in (List.mem_of_getElem? (i := 397) (by decide +kernel)) rfl
theorem lk_5_93 : Cond.methodLink "BoatNames$Voyage" 93 (mnm me_V_settle) ∈ tbl := tbl_in (List.mem_of_getElem? (i := 400) (by decide +kernel)) rfl
theorem lk_5_100 : Cond.methodLink "BoatNames$Voyage" 100 (mnm me_V_launch) ∈ tbl := tbl_in (List.mem_of_getElem? (i := 404) (by decide +kernel)) rfl
theorem lk_5_118 : Cond.methodLink "BoatNames$Voyage" 118 (mnm me_V_worstEnemy) ∈ tbl := tbl_in (List.mem_of_getElem? (i := 408) (by decide +kernel)) rfl
theorem lk_5_103 : Cond.methodLink "BoatNames$Voyage" 103 (mnm me_V_bear) ∈ tbl := tbl_in (List.mem_of_getElem? (i := 413) (by decide +kernel)) rfl
theorem lk_5_125 : Cond.methodLink "BoatNames$Voyage" 125 (mnm me_V_sink) ∈ tbl := tbl_in (List.mem_of_getElem? (i := 417) (by decide +kernel)) rfl
theorem lk_8_57 : Cond.methodLink "BoatNamesLaw" 57 (mnm me_N_at) ∈ tbl := tbl_in (List.mem_of_getElem? (i := 421) (by decide +kernel)) rfl
theorem lk_8_61 : Cond.methodLink "BoatNamesLaw" 61 (mnm me_N_afloat) ∈ tbl := tbl_in (List.mem_of_getElem? (i := 425) (by decide +kernel)) rfl
theorem lk_6_161 : Cond.methodLink "BoatNames" 161 (mnm me_V_howMany) ∈ tbl := tbl_in (List.mem_of_getElem? (i := 429) (by decide +kernel)) rfl
theorem lk_8_65 : Cond.methodLink "BoatNamesLaw" 65 (mnm me_N_named) ∈ tbl := tbl_in (List.mem_of_getElem? (i := 433) (by decide +kernel)) rfl
theorem lk_6_164 : Cond.methodLink "BoatNames" 164 (mnm me_V_namesakes) ∈ tbl := tbl_in (List.mem_of_getElem? (i := 437) (by decide +kernel)) rfl
theorem lk_8_69 : Cond.methodLink "BoatNamesLaw" 69 (mnm me_N_first) ∈ tbl := tbl_in (List.mem_of_getElem? (i := 441) (by decide +kernel)) rfl
theorem lk_8_73 : Cond.methodLink "BoatNamesLaw" 73 (mnm me_N_loved) ∈ tbl := tbl_in (List.mem_of_getElem? (i := 445) (by decide +kernel)) rfl
theorem lk_6_174 : Cond.methodLink "BoatNames" 174 (mnm me_V_worstEnemy) ∈ tbl := tbl_in (List.mem_of_getElem? (i := 449) (by decide +kernel)) rfl
theorem lk_8_77 : Cond.methodLink "BoatNamesLaw" 77 (mnm me_N_bitter) ∈ tbl := tbl_in (List.mem_of_getElem? (i := 450) (by decide +kernel)) rfl
theorem lk_6_177 : Cond.methodLink "BoatNames" 177 (mnm me_B_clear) ∈ tbl := tbl_in (List.mem_of_getElem? (i := 454) (by decide +kernel)) rfl
theorem lk_6_180 : Cond.methodLink "BoatNames" 180 (mnm me_V_hatredOf) ∈ tbl := tbl_in (List.mem_of_getElem? (i := 458) (by decide +kernel)) rfl
theorem lk_6_183 : Cond.methodLink "BoatNames" 183 (mnm me_B_offer) ∈ tbl := tbl_in (List.mem_of_getElem? (i := 462) (by decide +kernel)) rfl
theorem lk_8_81 : Cond.methodLink "BoatNamesLaw" 81 (mnm me_N_longs) ∈ tbl := tbl_in (List.mem_of_getElem? (i := 466) (by decide +kernel)) rfl
theorem lk_8_85 : Cond.methodLink "BoatNamesLaw" 85 (mnm me_N_wrong) ∈ tbl := tbl_in (List.mem_of_getElem? (i := 470) (by decide +kernel)) rfl
theorem lk_6_193 : Cond.methodLink "BoatNames" 193 (mnm me_N_seekWrong) ∈ tbl := tbl_in (List.mem_of_getElem? (i := 474) (by decide +kernel)) rfl
theorem lk_6_220 : Cond.methodLink "BoatNames" 220 (mnm me_T_become) ∈ tbl := tbl_in (List.mem_of_getElem? (i := 478) (by decide +kernel)) rfl
theorem lk_3_49 : Cond.methodLink "BoatNames$Telling" 49 arraycopyName ∈ tbl := tbl_in (List.mem_of_getElem? (i := 482) (by decide +kernel)) rfl
theorem lk_8_89 : Cond.methodLink "BoatNamesLaw" 89 (mnm me_N_pay) ∈ tbl := tbl_in (List.mem_of_getElem? (i := 483) (by decide +kernel)) rfl
theorem lk_6_199 : Cond.methodLink "BoatNames" 199 (mnm me_N_seekPay) ∈ tbl := tbl_in (List.mem_of_getElem? (i := 487) (by decide +kernel)) rfl
theorem lk_8_93 : Cond.methodLink "BoatNamesLaw" 93 (mnm me_N_waits) ∈ tbl := tbl_in (List.mem_of_getElem? (i := 491) (by decide +kernel)) rfl
theorem lk_6_202 : Cond.methodLink "BoatNames" 202 (mnm me_N_seekWait) ∈ tbl := tbl_in (List.mem_of_getElem? (i := 495) (by decide +kernel)) rfl
theorem lk_8_97 : Cond.methodLink "BoatNamesLaw" 97 (mnm me_N_spare) ∈ tbl := tbl_in (List.mem_of_getElem? (i := 499) (by decide +kernel)) rfl
theorem lk_6_205 : Cond.methodLink "BoatNames" 205 (mnm me_N_spareBits) ∈ tbl := tbl_in (List.mem_of_getElem? (i := 503) (by decide +kernel)) rfl
theorem lk_6_359 : Cond.methodLink "BoatNames" 359 (mnm me_N_isSafeWithout) ∈ tbl := tbl_in (List.mem_of_getElem? (i := 507) (by decide +kernel)) rfl
theorem lk_6_209 : Cond.methodLink "BoatNames" 209 (mnm me_J_bitCount) ∈ tbl := tbl_in (List.mem_of_getElem? (i := 511) (by decide +kernel)) rfl
theorem lk_6_214 : Cond.methodLink "BoatNames" 214 (mnm me_N_placeOfBit) ∈ tbl := tbl_in (List.mem_of_getElem? (i := 517) (by decide +kernel)) rfl
theorem lk_8_101 : Cond.methodLink "BoatNamesLaw" 101 (mnm me_N_seen) ∈ tbl := tbl_in (List.mem_of_getElem? (i := 520) (by decide +kernel)) rfl
theorem lk_6_218 : Cond.methodLink "BoatNames" 218 (mnm me_G_append) ∈ tbl := tbl_in (List.mem_of_getElem? (i := 524) (by decide +kernel)) rfl
theorem lk_8_105 : Cond.methodLink "BoatNamesLaw" 105 (mnm me_N_forget) ∈ tbl := tbl_in (List.mem_of_getElem? (i := 528) (by decide +kernel)) rfl
theorem lk_8_109 : Cond.methodLink "BoatNamesLaw" 109 (mnm me_N_never) ∈ tbl := tbl_in (List.mem_of_getElem? (i := 532) (by decide +kernel)) rfl
theorem lk_6_226 : Cond.methodLink "BoatNames" 226 (mnm me_N_trialComesOutSo) ∈ tbl := tbl_in (List.mem_of_getElem? (i := 536) (by decide +kernel)) rfl
theorem lk_6_362 : Cond.methodLink "BoatNames" 362 (mnm me_G_fit) ∈ tbl := tbl_in (List.mem_of_getElem? (i := 540) (by decide +kernel)) rfl
theorem lk_2_35 : Cond.methodLink "BoatNames$Sightings" 35 (mnm me_V_nameBehind) ∈ tbl := tbl_in (List.mem_of_getElem? (i := 544) (by decide +kernel)) rfl
theorem lk_8_113 : Cond.methodLink "BoatNamesLaw" 113 (mnm me_N_sort) ∈ tbl := tbl_in (List.mem_of_getElem? (i := 548) (by decide +kernel)) rfl
theorem lk_8_117 : Cond.methodLink "BoatNamesLaw" 117 (mnm me_N_hated) ∈ tbl := tbl_in (List.mem_of_getElem? (i := 552) (by decide +kernel)) rfl
theorem lk_6_229 : Cond.methodLink "BoatNames" 229 (mnm me_N_seekHated) ∈ tbl := tbl_in (List.mem_of_getElem? (i := 556) (by decide +kernel)) rfl
theorem lk_6_366 : Cond.methodLink "BoatNames" 366 (mnm me_V_nameRow) ∈ tbl := tbl_in (List.mem_of_getElem? (i := 560) (by decide +kernel)) rfl
theorem lk_5_131 : Cond.methodLink "BoatNames$Voyage" 131 (mnm me_V_nameBehind) ∈ tbl := tbl_in (List.mem_of_getElem? (i := 564) (by decide +kernel)) rfl
theorem lk_8_121 : Cond.methodLink "BoatNamesLaw" 121 (mnm me_N_ask) ∈ tbl := tbl_in (List.mem_of_getElem? (i := 565) (by decide +kernel)) rfl
theorem lk_6_232 : Cond.methodLink "BoatNames" 232 (mnm me_N_weekToAsk) ∈ tbl := tbl_in (List.mem_of_getElem? (i := 569) (by decide +kernel)) rfl
theorem lk_6_369 : Cond.methodLink "BoatNames" 369 (mnm me_T_rowMask) ∈ tbl := tbl_in (List.mem_of_getElem? (i := 573) (by decide +kernel)) rfl
theorem lk_6_372 : Cond.methodLink "BoatNames" 372 (mnm me_N_greatestGroup) ∈ tbl := tbl_in (List.mem_of_getElem? (i := 577) (by decide +kernel)) rfl
theorem lk_6_375 : Cond.methodLink "BoatNames" 375 Lib.Math.max.name ∈ tbl := tbl_in (List.mem_of_getElem? (i := 581) (by decide +kernel)) rfl
theorem lk_8_125 : Cond.methodLink "BoatNamesLaw" 125 (mnm me_N_chance) ∈ tbl := tbl_in (List.mem_of_getElem? (i := 582) (by decide +kernel)) rfl
theorem lk_6_239 : Cond.methodLink "BoatNames" 239 (mnm me_N_weighSunk) ∈ tbl := tbl_in (List.mem_of_getElem? (i := 587) (by decide +kernel)) rfl
theorem lk_6_378 : Cond.methodLink "BoatNames" 378 (mnm me_J_fillj) ∈ tbl := tbl_in (List.mem_of_getElem? (i := 591) (by decide +kernel)) rfl
theorem lk_6_384 : Cond.methodLink "BoatNames" 384 (mnm me_T_weight) ∈ tbl := tbl_in (List.mem_of_getElem? (i := 594) (by decide +kernel)) rfl
theorem lk_6_387 : Cond.methodLink "BoatNames" 387 (mnm me_N_addWeight) ∈ tbl := tbl_in (List.mem_of_getElem? (i := 598) (by decide +kernel)) rfl
theorem lk_6_242 : Cond.methodLink "BoatNames" 242 (mnm me_N_chanceAbove) ∈ tbl := tbl_in (List.mem_of_getElem? (i := 602) (by decide +kernel)) rfl
theorem lk_6_391 : Cond.methodLink "BoatNames" 391 (mnm me_N_sharedHalvings) ∈ tbl := tbl_in (List.mem_of_getElem? (i := 606) (by decide +kernel)) rfl
theorem lk_6_246 : Cond.methodLink "BoatNames" 246 (mnm me_N_chanceBelow) ∈ tbl := tbl_in (List.mem_of_getElem? (i := 610) (by decide +kernel)) rfl
theorem lk_8_130 : Cond.methodLink "BoatNamesLaw" 130 (mnm me_N_decades) ∈ tbl := tbl_in (List.mem_of_getElem? (i := 614) (by decide +kernel)) rfl
theorem lk_6_249 : Cond.methodLink "BoatNames" 249 (mnm me_T_drawEvents) ∈ tbl := tbl_in (List.mem_of_getElem? (i := 618) (by decide +kernel)) rfl
theorem lk_3_89 : Cond.methodLink "BoatNames$Telling" 89 (mnm me_T_nextSeed) ∈ tbl := tbl_in (List.mem_of_getElem? (i := 622) (by decide +kernel)) rfl
theorem lk_3_92 : Cond.methodLink "BoatNames$Telling" 92 (mnm me_T_addEvent) ∈ tbl := tbl_in (List.mem_of_getElem? (i := 626) (by decide +kernel)) rfl
theorem lk_8_134 : Cond.methodLink "BoatNamesLaw" 134 (mnm me_N_sheet) ∈ tbl := tbl_in (List.mem_of_getElem? (i := 627) (by decide +kernel)) rfl
theorem lk_6_252 : Cond.methodLink "BoatNames" 252 (mnm me_H_renew) ∈ tbl := tbl_in (List.mem_of_getElem? (i := 631) (by decide +kernel)) rfl
theorem lk_1_26 : Cond.methodLink "BoatNames$Sheet" 26 (mnm me_J_filli) ∈ tbl := tbl_in (List.mem_of_getElem? (i := 635) (by decide +kernel)) rfl
theorem lk_8_138 : Cond.methodLink "BoatNamesLaw" 138 (mnm me_N_lose) ∈ tbl := tbl_in (List.mem_of_getElem? (i := 636) (by decide +kernel)) rfl
theorem lk_8_142 : Cond.methodLink "BoatNamesLaw" 142 (mnm me_N_put) ∈ tbl := tbl_in (List.mem_of_getElem? (i := 640) (by decide +kernel)) rfl
theorem lk_6_255 : Cond.methodLink "BoatNames" 255 (mnm me_H_findingAt) ∈ tbl := tbl_in (List.mem_of_getElem? (i := 644) (by decide +kernel)) rfl
theorem lk_6_258 : Cond.methodLink "BoatNames" 258 (mnm me_H_set) ∈ tbl := tbl_in (List.mem_of_getElem? (i := 649) (by decide +kernel)) rfl
theorem lk_8_147 : Cond.methodLink "BoatNamesLaw" 147 (mnm me_N_get) ∈ tbl := tbl_in (List.mem_of_getElem? (i := 653) (by decide +kernel)) rfl
theorem lk_8_151 : Cond.methodLink "BoatNamesLaw" 151 (mnm me_N_copy) ∈ tbl := tbl_in (List.mem_of_getElem? (i := 658) (by decide +kernel)) rfl
theorem lk_6_265 : Cond.methodLink "BoatNames" 265 (mnm me_H_hasItems) ∈ tbl := tbl_in (List.mem_of_getElem? (i := 662) (by decide +kernel)) rfl
theorem lk_6_268 : Cond.methodLink "BoatNames" 268 arraycopyName ∈ tbl := tbl_in (List.mem_of_getElem? (i := 666) (by decide +kernel)) rfl
theorem lk_8_156 : Cond.methodLink "BoatNamesLaw" 156 (mnm me_N_write) ∈ tbl := tbl_in (List.mem_of_getElem? (i := 667) (by decide +kernel)) rfl
theorem lk_6_274 : Cond.methodLink "BoatNames" 274 Lib.Math.min.name ∈ tbl := tbl_in (List.mem_of_getElem? (i := 671) (by decide +kernel)) rfl
theorem lk_6_279 : Cond.methodLink "BoatNames" 279 (mnm me_V_begin) ∈ tbl := tbl_in (List.mem_of_getElem? (i := 674) (by decide +kernel)) rfl
theorem lk_6_282 : Cond.methodLink "BoatNames" 282 (mnm me_V_sail) ∈ tbl := tbl_in (List.mem_of_getElem? (i := 675) (by decide +kernel)) rfl
theorem lk_8_160 : Cond.methodLink "BoatNamesLaw" 160 (mnm me_N_count) ∈ tbl := tbl_in (List.mem_of_getElem? (i := 676) (by decide +kernel)) rfl
theorem lk_6_291 : Cond.methodLink "BoatNames" 291 (mnm me_V_allHatred) ∈ tbl := tbl_in (List.mem_of_getElem? (i := 680) (by decide +kernel)) rfl
theorem lk_5_128 : Cond.methodLink "BoatNames$Voyage" 128 (mnm me_V_hatredOf) ∈ tbl := tbl_in (List.mem_of_getElem? (i := 684) (by decide +kernel)) rfl
theorem lk_8_164 : Cond.methodLink "BoatNamesLaw" 164 (mnm me_N_digest) ∈ tbl := tbl_in (List.mem_of_getElem? (i := 685) (by decide +kernel)) rfl
theorem lk_6_298 : Cond.methodLink "BoatNames" 298 (mnm me_N_count) ∈ tbl := tbl_in (List.mem_of_getElem? (i := 691) (by decide +kernel)) rfl
theorem lk_6_301 : Cond.methodLink "BoatNames" 301 (mnm me_N_fault) ∈ tbl := tbl_in (List.mem_of_getElem? (i := 692) (by decide +kernel)) rfl
theorem lk_6_303 : Cond.methodLink "BoatNames" 303 (mnm me_N_digestBoat) ∈ tbl := tbl_in (List.mem_of_getElem? (i := 693) (by decide +kernel)) rfl
theorem lk_6_331 : Cond.methodLink "BoatNames" 331 (mnm me_N_boat) ∈ tbl := tbl_in (List.mem_of_getElem? (i := 697) (by decide +kernel)) rfl
theorem lk_6_334 : Cond.methodLink "BoatNames" 334 (mnm me_N_digestWeek) ∈ tbl := tbl_in (List.mem_of_getElem? (i := 698) (by decide +kernel)) rfl
theorem lk_6_344 : Cond.methodLink "BoatNames" 344 (mnm me_N_at) ∈ tbl := tbl_in (List.mem_of_getElem? (i := 702) (by decide +kernel)) rfl
theorem lk_6_338 : Cond.methodLink "BoatNames" 338 (mnm me_N_longs) ∈ tbl := tbl_in (List.mem_of_getElem? (i := 703) (by decide +kernel)) rfl
theorem lk_6_341 : Cond.methodLink "BoatNames" 341 (mnm me_N_sort) ∈ tbl := tbl_in (List.mem_of_getElem? (i := 704) (by decide +kernel)) rfl
theorem lk_6_307 : Cond.methodLink "BoatNames" 307 (mnm me_N_digestPerson) ∈ tbl := tbl_in (List.mem_of_getElem? (i := 705) (by decide +kernel)) rfl
theorem lk_6_347 : Cond.methodLink "BoatNames" 347 (mnm me_N_named) ∈ tbl := tbl_in (List.mem_of_getElem? (i := 709) (by decide +kernel)) rfl
theorem lk_6_350 : Cond.methodLink "BoatNames" 350 (mnm me_N_hates) ∈ tbl := tbl_in (List.mem_of_getElem? (i := 710) (by decide +kernel)) rfl
theorem lk_6_310 : Cond.methodLink "BoatNames" 310 (mnm me_N_afloat) ∈ tbl := tbl_in (List.mem_of_getElem? (i := 711) (by decide +kernel)) rfl
theorem lk_6_313 : Cond.methodLink "BoatNames" 313 (mnm me_N_first) ∈ tbl := tbl_in (List.mem_of_getElem? (i := 712) (by decide +kernel)) rfl
theorem lk_6_316 : Cond.methodLink "BoatNames" 316 (mnm me_N_loved) ∈ tbl := tbl_in (List.mem_of_getElem? (i := 713) (by decide +kernel)) rfl
theorem lk_6_319 : Cond.methodLink "BoatNames" 319 (mnm me_N_bitter) ∈ tbl := tbl_in (List.mem_of_getElem? (i := 714) (by decide +kernel)) rfl
theorem lk_6_322 : Cond.methodLink "BoatNames" 322 (mnm me_N_spare) ∈ tbl := tbl_in (List.mem_of_getElem? (i := 715) (by decide +kernel)) rfl
theorem lk_6_325 : Cond.methodLink "BoatNames" 325 (mnm me_N_never) ∈ tbl := tbl_in (List.mem_of_getElem? (i := 716) (by decide +kernel)) rfl
theorem lk_6_328 : Cond.methodLink "BoatNames" 328 (mnm me_N_decades) ∈ tbl := tbl_in (List.mem_of_getElem? (i := 717) (by decide +kernel)) rfl
theorem lk_8_17 : Cond.methodLink "BoatNamesLaw" 17 (mnm me_R_type) ∈ tbl := tbl_in (List.mem_of_getElem? (i := 855) (by decide +kernel)) rfl
theorem lk_7_123 : Cond.methodLink "BoatNamesModel" 123 (mnm me_R_isText) ∈ tbl := tbl_in (List.mem_of_getElem? (i := 859) (by decide +kernel)) rfl
theorem lk_7_115 : Cond.methodLink "BoatNamesModel" 115 (mnm me_R_in) ∈ tbl := tbl_in (List.mem_of_getElem? (i := 862) (by decide +kernel)) rfl
theorem lk_8_22 : Cond.methodLink "BoatNamesLaw" 22 (mnm me_R_wipe) ∈ tbl := tbl_in (List.mem_of_getElem? (i := 865) (by decide +kernel)) rfl
theorem lk_8_26 : Cond.methodLink "BoatNamesLaw" 26 (mnm me_R_undo) ∈ tbl := tbl_in (List.mem_of_getElem? (i := 869) (by decide +kernel)) rfl
theorem lk_8_30 : Cond.methodLink "BoatNamesLaw" 30 (mnm me_R_fault) ∈ tbl := tbl_in (List.mem_of_getElem? (i := 873) (by decide +kernel)) rfl
theorem lk_7_150 : Cond.methodLink "BoatNamesModel" 150 (mnm me_R_faultOf) ∈ tbl := tbl_in (List.mem_of_getElem? (i := 877) (by decide +kernel)) rfl
theorem lk_7_146 : Cond.methodLink "BoatNamesModel" 146 (mnm me_R_readsParts) ∈ tbl := tbl_in (List.mem_of_getElem? (i := 881) (by decide +kernel)) rfl
theorem lk_7_140 : Cond.methodLink "BoatNamesModel" 140 (mnm me_R_readsHate) ∈ tbl := tbl_in (List.mem_of_getElem? (i := 885) (by decide +kernel)) rfl
theorem lk_7_126 : Cond.methodLink "BoatNamesModel" 126 (mnm me_R_byteAt) ∈ tbl := tbl_in (List.mem_of_getElem? (i := 889) (by decide +kernel)) rfl
theorem lk_7_119 : Cond.methodLink "BoatNamesModel" 119 (mnm me_R_isEight) ∈ tbl := tbl_in (List.mem_of_getElem? (i := 893) (by decide +kernel)) rfl
theorem lk_7_143 : Cond.methodLink "BoatNamesModel" 143 (mnm me_R_readsBoat) ∈ tbl := tbl_in (List.mem_of_getElem? (i := 896) (by decide +kernel)) rfl
theorem lk_7_130 : Cond.methodLink "BoatNamesModel" 130 (mnm me_R_isWeek) ∈ tbl := tbl_in (List.mem_of_getElem? (i := 900) (by decide +kernel)) rfl
theorem lk_8_34 : Cond.methodLink "BoatNamesLaw" 34 (mnm me_R_told) ∈ tbl := tbl_in (List.mem_of_getElem? (i := 903) (by decide +kernel)) rfl
theorem lk_7_156 : Cond.methodLink "BoatNamesModel" 156 (mnm me_R_areTwo) ∈ tbl := tbl_in (List.mem_of_getElem? (i := 907) (by decide +kernel)) rfl
theorem lk_7_160 : Cond.methodLink "BoatNamesModel" 160 (mnm me_R_toldOf) ∈ tbl := tbl_in (List.mem_of_getElem? (i := 910) (by decide +kernel)) rfl
theorem lk_7_153 : Cond.methodLink "BoatNamesModel" 153 (mnm me_R_reads) ∈ tbl := tbl_in (List.mem_of_getElem? (i := 914) (by decide +kernel)) rfl
theorem lk_8_38 : Cond.methodLink "BoatNamesLaw" 38 (mnm me_R_boat) ∈ tbl := tbl_in (List.mem_of_getElem? (i := 918) (by decide +kernel)) rfl
theorem lk_7_163 : Cond.methodLink "BoatNamesModel" 163 (mnm me_R_isBoat) ∈ tbl := tbl_in (List.mem_of_getElem? (i := 922) (by decide +kernel)) rfl
theorem lk_7_166 : Cond.methodLink "BoatNamesModel" 166 (mnm me_R_boatOf) ∈ tbl := tbl_in (List.mem_of_getElem? (i := 926) (by decide +kernel)) rfl
theorem lk_8_43 : Cond.methodLink "BoatNamesLaw" 43 (mnm me_R_event) ∈ tbl := tbl_in (List.mem_of_getElem? (i := 930) (by decide +kernel)) rfl
theorem lk_8_48 : Cond.methodLink "BoatNamesLaw" 48 (mnm me_R_back) ∈ tbl := tbl_in (List.mem_of_getElem? (i := 934) (by decide +kernel)) rfl
theorem lk_8_52 : Cond.methodLink "BoatNamesLaw" 52 (mnm me_R_read) ∈ tbl := tbl_in (List.mem_of_getElem? (i := 938) (by decide +kernel)) rfl
theorem lk_7_172 : Cond.methodLink "BoatNamesModel" 172 (mnm me_R_isSheet) ∈ tbl := tbl_in (List.mem_of_getElem? (i := 942) (by decide +kernel)) rfl
theorem lk_7_175 : Cond.methodLink "BoatNamesModel" 175 (mnm me_R_meets) ∈ tbl := tbl_in (List.mem_of_getElem? (i := 945) (by decide +kernel)) rfl
theorem lk_7_178 : Cond.methodLink "BoatNamesModel" 178 (mnm me_R_event) ∈ tbl := tbl_in (List.mem_of_getElem? (i := 949) (by decide +kernel)) rfl
theorem lk_8_56 : Cond.methodLink "BoatNamesLaw" 56 (mnm me_R_hates) ∈ tbl := tbl_in (List.mem_of_getElem? (i := 950) (by decide +kernel)) rfl
theorem lk_7_229 : Cond.methodLink "BoatNamesModel" 229 (mnm me_R_hatesOf) ∈ tbl := tbl_in (List.mem_of_getElem? (i := 954) (by decide +kernel)) rfl
theorem lk_7_226 : Cond.methodLink "BoatNamesModel" 226 (mnm me_R_runsTold) ∈ tbl := tbl_in (List.mem_of_getElem? (i := 958) (by decide +kernel)) rfl
theorem lk_7_220 : Cond.methodLink "BoatNamesModel" 220 (mnm me_R_asTold) ∈ tbl := tbl_in (List.mem_of_getElem? (i := 962) (by decide +kernel)) rfl
theorem lk_7_223 : Cond.methodLink "BoatNamesModel" 223 (mnm me_R_runs) ∈ tbl := tbl_in (List.mem_of_getElem? (i := 966) (by decide +kernel)) rfl
theorem lk_7_217 : Cond.methodLink "BoatNamesModel" 217 (mnm me_R_goesBy) ∈ tbl := tbl_in (List.mem_of_getElem? (i := 970) (by decide +kernel)) rfl
theorem lk_7_204 : Cond.methodLink "BoatNamesModel" 204 (mnm me_R_isIn) ∈ tbl := tbl_in (List.mem_of_getElem? (i := 974) (by decide +kernel)) rfl
theorem lk_7_207 : Cond.methodLink "BoatNamesModel" 207 (mnm me_R_befalls) ∈ tbl := tbl_in (List.mem_of_getElem? (i := 977) (by decide +kernel)) rfl
theorem lk_7_188 : Cond.methodLink "BoatNamesModel" 188 (mnm me_R_storms) ∈ tbl := tbl_in (List.mem_of_getElem? (i := 981) (by decide +kernel)) rfl
theorem lk_7_191 : Cond.methodLink "BoatNamesModel" 191 (mnm me_R_shares) ∈ tbl := tbl_in (List.mem_of_getElem? (i := 985) (by decide +kernel)) rfl
theorem lk_7_195 : Cond.methodLink "BoatNamesModel" 195 (mnm me_R_makesUp) ∈ tbl := tbl_in (List.mem_of_getElem? (i := 989) (by decide +kernel)) rfl
theorem lk_7_210 : Cond.methodLink "BoatNamesModel" 210 (mnm me_R_launches) ∈ tbl := tbl_in (List.mem_of_getElem? (i := 993) (by decide +kernel)) rfl
theorem lk_7_213 : Cond.methodLink "BoatNamesModel" 213 (mnm me_R_sails) ∈ tbl := tbl_in (List.mem_of_getElem? (i := 997) (by decide +kernel)) rfl
theorem lk_8_60 : Cond.methodLink "BoatNamesLaw" 60 (mnm me_R_at) ∈ tbl := tbl_in (List.mem_of_getElem? (i := 1001) (by decide +kernel)) rfl
theorem lk_7_232 : Cond.methodLink "BoatNamesModel" 232 (mnm me_R_atOf) ∈ tbl := tbl_in (List.mem_of_getElem? (i := 1005) (by decide +kernel)) rfl
theorem lk_8_64 : Cond.methodLink "BoatNamesLaw" 64 (mnm me_R_afloat) ∈ tbl := tbl_in (List.mem_of_getElem? (i := 1009) (by decide +kernel)) rfl
theorem lk_7_238 : Cond.methodLink "BoatNamesModel" 238 (mnm me_R_afloatOf) ∈ tbl := tbl_in (List.mem_of_getElem? (i := 1013) (by decide +kernel)) rfl
theorem lk_7_235 : Cond.methodLink "BoatNamesModel" 235 (mnm me_R_manyAt) ∈ tbl := tbl_in (List.mem_of_getElem? (i := 1017) (by decide +kernel)) rfl
theorem lk_8_68 : Cond.methodLink "BoatNamesLaw" 68 (mnm me_R_named) ∈ tbl := tbl_in (List.mem_of_getElem? (i := 1021) (by decide +kernel)) rfl
theorem lk_7_241 : Cond.methodLink "BoatNamesModel" 241 (mnm me_R_isTwo) ∈ tbl := tbl_in (List.mem_of_getElem? (i := 1025) (by decide +kernel)) rfl
theorem lk_7_244 : Cond.methodLink "BoatNamesModel" 244 (mnm me_R_namedOf) ∈ tbl := tbl_in (List.mem_of_getElem? (i := 1028) (by decide +kernel)) rfl
theorem lk_8_72 : Cond.methodLink "BoatNamesLaw" 72 (mnm me_R_first) ∈ tbl := tbl_in (List.mem_of_getElem? (i := 1032) (by decide +kernel)) rfl
theorem lk_7_247 : Cond.methodLink "BoatNamesModel" 247 (mnm me_R_firstOf) ∈ tbl := tbl_in (List.mem_of_getElem? (i := 1036) (by decide +kernel)) rfl
theorem lk_8_76 : Cond.methodLink "BoatNamesLaw" 76 (mnm me_R_loved) ∈ tbl := tbl_in (List.mem_of_getElem? (i := 1040) (by decide +kernel)) rfl
theorem lk_7_250 : Cond.methodLink "BoatNamesModel" 250 (mnm me_R_lovedOf) ∈ tbl := tbl_in (List.mem_of_getElem? (i := 1044) (by decide +kernel)) rfl
theorem lk_8_80 : Cond.methodLink "BoatNamesLaw" 80 (mnm me_R_bitter) ∈ tbl := tbl_in (List.mem_of_getElem? (i := 1048) (by decide +kernel)) rfl
theorem lk_7_257 : Cond.methodLink "BoatNamesModel" 257 (mnm me_R_bitterOf) ∈ tbl := tbl_in (List.mem_of_getElem? (i := 1052) (by decide +kernel)) rfl
theorem lk_7_254 : Cond.methodLink "BoatNamesModel" 254 (mnm me_R_hatesAll) ∈ tbl := tbl_in (List.mem_of_getElem? (i := 1056) (by decide +kernel)) rfl
theorem lk_8_84 : Cond.methodLink "BoatNamesLaw" 84 (mnm me_R_longs) ∈ tbl := tbl_in (List.mem_of_getElem? (i := 1060) (by decide +kernel)) rfl
theorem lk_7_263 : Cond.methodLink "BoatNamesModel" 263 (mnm me_R_longOf) ∈ tbl := tbl_in (List.mem_of_getElem? (i := 1064) (by decide +kernel)) rfl
theorem lk_7_260 : Cond.methodLink "BoatNamesModel" 260 (mnm me_R_longNow) ∈ tbl := tbl_in (List.mem_of_getElem? (i := 1068) (by decide +kernel)) rfl
theorem lk_8_88 : Cond.methodLink "BoatNamesLaw" 88 (mnm me_R_wrong) ∈ tbl := tbl_in (List.mem_of_getElem? (i := 1072) (by decide +kernel)) rfl
theorem lk_7_266 : Cond.methodLink "BoatNamesModel" 266 (mnm me_R_wrongOf) ∈ tbl := tbl_in (List.mem_of_getElem? (i := 1076) (by decide +kernel)) rfl
theorem lk_8_92 : Cond.methodLink "BoatNamesLaw" 92 (mnm me_R_pay) ∈ tbl := tbl_in (List.mem_of_getElem? (i := 1080) (by decide +kernel)) rfl
theorem lk_7_269 : Cond.methodLink "BoatNamesModel" 269 (mnm me_R_payOf) ∈ tbl := tbl_in (List.mem_of_getElem? (i := 1084) (by decide +kernel)) rfl
theorem lk_8_96 : Cond.methodLink "BoatNamesLaw" 96 (mnm me_R_waits) ∈ tbl := tbl_in (List.mem_of_getElem? (i := 1088) (by decide +kernel)) rfl
theorem lk_7_272 : Cond.methodLink "BoatNamesModel" 272 (mnm me_R_waitsOf) ∈ tbl := tbl_in (List.mem_of_getElem? (i := 1092) (by decide +kernel)) rfl
theorem lk_8_100 : Cond.methodLink "BoatNamesLaw" 100 (mnm me_R_spare) ∈ tbl := tbl_in (List.mem_of_getElem? (i := 1096) (by decide +kernel)) rfl
theorem lk_7_278 : Cond.methodLink "BoatNamesModel" 278 (mnm me_R_spareBy) ∈ tbl := tbl_in (List.mem_of_getElem? (i := 1100) (by decide +kernel)) rfl
theorem lk_7_275 : Cond.methodLink "BoatNamesModel" 275 (mnm me_R_isSpared) ∈ tbl := tbl_in (List.mem_of_getElem? (i := 1104) (by decide +kernel)) rfl
theorem lk_7_281 : Cond.methodLink "BoatNamesModel" 281 (mnm me_R_ofRow) ∈ tbl := tbl_in (List.mem_of_getElem? (i := 1108) (by decide +kernel)) rfl
theorem lk_8_104 : Cond.methodLink "BoatNamesLaw" 104 (mnm me_R_seen) ∈ tbl := tbl_in (List.mem_of_getElem? (i := 1112) (by decide +kernel)) rfl
theorem lk_8_108 : Cond.methodLink "BoatNamesLaw" 108 (mnm me_R_forget) ∈ tbl := tbl_in (List.mem_of_getElem? (i := 1116) (by decide +kernel)) rfl
theorem lk_8_112 : Cond.methodLink "BoatNamesLaw" 112 (mnm me_R_never) ∈ tbl := tbl_in (List.mem_of_getElem? (i := 1120) (by decide +kernel)) rfl
theorem lk_7_291 : Cond.methodLink "BoatNamesModel" 291 (mnm me_R_neverNow) ∈ tbl := tbl_in (List.mem_of_getElem? (i := 1124) (by decide +kernel)) rfl
theorem lk_7_287 : Cond.methodLink "BoatNamesModel" 287 (mnm me_R_isSeen) ∈ tbl := tbl_in (List.mem_of_getElem? (i := 1128) (by decide +kernel)) rfl
theorem lk_8_116 : Cond.methodLink "BoatNamesLaw" 116 (mnm me_R_sort) ∈ tbl := tbl_in (List.mem_of_getElem? (i := 1132) (by decide +kernel)) rfl
theorem lk_7_294 : Cond.methodLink "BoatNamesModel" 294 (mnm me_R_sortsBy) ∈ tbl := tbl_in (List.mem_of_getElem? (i := 1136) (by decide +kernel)) rfl
theorem lk_8_120 : Cond.methodLink "BoatNamesLaw" 120 (mnm me_R_hated) ∈ tbl := tbl_in (List.mem_of_getElem? (i := 1140) (by decide +kernel)) rfl
theorem lk_7_300 : Cond.methodLink "BoatNamesModel" 300 (mnm me_R_hatedBy) ∈ tbl := tbl_in (List.mem_of_getElem? (i := 1144) (by decide +kernel)) rfl
theorem lk_7_297 : Cond.methodLink "BoatNamesModel" 297 (mnm me_R_namesAll) ∈ tbl := tbl_in (List.mem_of_getElem? (i := 1148) (by decide +kernel)) rfl
theorem lk_8_124 : Cond.methodLink "BoatNamesLaw" 124 (mnm me_R_ask) ∈ tbl := tbl_in (List.mem_of_getElem? (i := 1152) (by decide +kernel)) rfl
theorem lk_7_303 : Cond.methodLink "BoatNamesModel" 303 (mnm me_R_askOf) ∈ tbl := tbl_in (List.mem_of_getElem? (i := 1156) (by decide +kernel)) rfl
theorem lk_8_129 : Cond.methodLink "BoatNamesLaw" 129 (mnm me_R_chance) ∈ tbl := tbl_in (List.mem_of_getElem? (i := 1160) (by decide +kernel)) rfl
theorem lk_7_310 : Cond.methodLink "BoatNamesModel" 310 (mnm me_R_chanceOf) ∈ tbl := tbl_in (List.mem_of_getElem? (i := 1164) (by decide +kernel)) rfl
theorem lk_7_306 : Cond.methodLink "BoatNamesModel" 306 (mnm me_R_lowest) ∈ tbl := tbl_in (List.mem_of_getElem? (i := 1168) (by decide +kernel)) rfl
theorem lk_7_314 : Cond.methodLink "BoatNamesModel" 314 (mnm me_R_no) ∈ tbl := tbl_in (List.mem_of_getElem? (i := 1171) (by decide +kernel)) rfl
theorem lk_8_133 : Cond.methodLink "BoatNamesLaw" 133 (mnm me_R_decades) ∈ tbl := tbl_in (List.mem_of_getElem? (i := 1175) (by decide +kernel)) rfl
theorem lk_7_319 : Cond.methodLink "BoatNamesModel" 319 (mnm me_R_decadesOf) ∈ tbl := tbl_in (List.mem_of_getElem? (i := 1179) (by decide +kernel)) rfl
theorem lk_8_137 : Cond.methodLink "BoatNamesLaw" 137 (mnm me_R_sheet) ∈ tbl := tbl_in (List.mem_of_getElem? (i := 1184) (by decide +kernel)) rfl
theorem lk_8_141 : Cond.methodLink "BoatNamesLaw" 141 (mnm me_R_lose) ∈ tbl := tbl_in (List.mem_of_getElem? (i := 1188) (by decide +kernel)) rfl
theorem lk_8_146 : Cond.methodLink "BoatNamesLaw" 146 (mnm me_R_put) ∈ tbl := tbl_in (List.mem_of_getElem? (i := 1192) (by decide +kernel)) rfl
theorem lk_7_325 : Cond.methodLink "BoatNamesModel" 325 (mnm me_R_lacks) ∈ tbl := tbl_in (List.mem_of_getElem? (i := 1196) (by decide +kernel)) rfl
theorem lk_7_328 : Cond.methodLink "BoatNamesModel" 328 (mnm me_R_keep) ∈ tbl := tbl_in (List.mem_of_getElem? (i := 1200) (by decide +kernel)) rfl
theorem lk_8_150 : Cond.methodLink "BoatNamesLaw" 150 (mnm me_R_get) ∈ tbl := tbl_in (List.mem_of_getElem? (i := 1204) (by decide +kernel)) rfl
theorem lk_8_155 : Cond.methodLink "BoatNamesLaw" 155 (mnm me_R_copy) ∈ tbl := tbl_in (List.mem_of_getElem? (i := 1209) (by decide +kernel)) rfl
theorem lk_8_159 : Cond.methodLink "BoatNamesLaw" 159 (mnm me_R_write) ∈ tbl := tbl_in (List.mem_of_getElem? (i := 1213) (by decide +kernel)) rfl
theorem lk_8_163 : Cond.methodLink "BoatNamesLaw" 163 (mnm me_R_count) ∈ tbl := tbl_in (List.mem_of_getElem? (i := 1217) (by decide +kernel)) rfl
theorem lk_7_333 : Cond.methodLink "BoatNamesModel" 333 (mnm me_R_sumOf) ∈ tbl := tbl_in (List.mem_of_getElem? (i := 1221) (by decide +kernel)) rfl
theorem lk_8_168 : Cond.methodLink "BoatNamesLaw" 168 (mnm me_R_digest) ∈ tbl := tbl_in (List.mem_of_getElem? (i := 1225) (by decide +kernel)) rfl
theorem lk_7_344 : Cond.methodLink "BoatNamesModel" 344 (mnm me_R_count) ∈ tbl := tbl_in (List.mem_of_getElem? (i := 1231) (by decide +kernel)) rfl
theorem lk_7_347 : Cond.methodLink "BoatNamesModel" 347 (mnm me_R_boatDigest) ∈ tbl := tbl_in (List.mem_of_getElem? (i := 1232) (by decide +kernel)) rfl
theorem lk_7_338 : Cond.methodLink "BoatNamesModel" 338 (mnm me_R_weekDigest) ∈ tbl := tbl_in (List.mem_of_getElem? (i := 1236) (by decide +kernel)) rfl
theorem lk_7_351 : Cond.methodLink "BoatNamesModel" 351 (mnm me_R_personDigest) ∈ tbl := tbl_in (List.mem_of_getElem? (i := 1240) (by decide +kernel)) rfl
theorem wm_max : Cond.static Lib.Math.max.name ∈ tbl ∧ Cond.initialized "java/lang/Math" ∈ tbl ∧ Cond.code Lib.Math.max.name Lib.Math.max.code 2 (some .int) ∈ tbl := ⟨tbl_in (List.mem_of_getElem? (i := 398) (by decide +kernel)) rfl, tbl_in (List.mem_of_getElem? (i := 11) (by decide +kernel)) rfl, tbl_in (List.mem_of_getElem? (i := 399) (by decide +kernel)) rfl⟩
theorem wm_min : Cond.static Lib.Math.min.name ∈ tbl ∧ Cond.initialized "java/lang/Math" ∈ tbl ∧ Cond.code Lib.Math.min.name Lib.Math.min.code 2 (some .int) ∈ tbl := ⟨tbl_in (List.mem_of_getElem? (i := 672) (by decide +kernel)) rfl, tbl_in (List.mem_of_getElem? (i := 11) (by decide +kernel)) rfl, tbl_in (List.mem_of_getElem? (i := 673) (by decide +kernel)) rfl⟩
theorem wm_copy : Cond.native arraycopyName ∈ tbl ∧ Cond.static arraycopyName ∈ tbl ∧ Cond.initialized "java/lang/System" ∈ tbl := ⟨tbl_in (List.mem_of_getElem? (i := 383) (by decide +kernel)) rfl, tbl_in (List.mem_of_getElem? (i := 382) (by decide +kernel)) rfl, tbl_in (List.mem_of_getElem? (i := 10) (by decide +kernel)) rfl⟩
theorem x_top {M : MI} {D : Nat} {sc : Option (Nat × (Nat → Int32))} {Q : Option Value → ST → Prop} {pc : Nat} {lv : List (Nat × Value)} {st : List Value} {S : ST} {v v' : Int32} (h : v = v') (kk : BX M D sc Q (pc, lv, .int v' :: st, S)) : BX M D sc Q (pc, lv, .int v :: st, S) := by rw [h]; exact kk
theorem x_topl {M : MI} {D : Nat} {sc : Option (Nat × (Nat → Int32))} {Q : Option Value → ST → Prop} {pc : Nat} {lv : List (Nat × Value)} {st : List Value} {S : ST} {v v' : Int64} (h : v = v') (kk : BX M D sc Q (pc, lv, .long v' :: st, S)) : BX M D sc Q (pc, lv, .long v :: st, S) := by rw [h]; exact kk
theorem x_iaN {M : MI} {D : Nat} {sc : Option (Nat × (Nat → Int32))} {Q : Option Value → ST → Prop} {pc : Nat} {lv : List (Nat × Value)} {st : List Value} {S : ST} {k n e : Nat} {fl : List (Option Nat)} (v : Int32) (hf : fet M pc = some .iaload) (hk : shp[k]? = some (0, n, fl)) (hn : n < 2 ^ 31) (hin : e < n) (hv : S.1 k e = v) (kk : BX M D sc Q (pc + 1, lv, .int v :: st, S)) : BX M D sc Q (pc, lv, .int (nI e) :: .ref k :: st, S) := by
  refine x_iald hf hk (vp_in_nI hin hn) ?_
  rw [nI_clamp (by omega), hv]
  exact kk
theorem x_zaN {M : MI} {D : Nat} {sc : Option (Nat × (Nat → Int32))} {Q : Option Value → ST → Prop} {pc : Nat} {lv : List (Nat × Value)} {st : List Value} {S : ST} {k n e : Nat} {fl : List (Option Nat)} (v : Int32) (hf : fet M pc = some .baload) (hk : shp[k]? = some (2, n, fl)) (hn : n < 2 ^ 31) (hin : e < n) (hv : S.1 k e = v) (kk : BX M D sc Q (pc + 1, lv, .int v :: st, S)) : BX M D sc Q (pc, lv, .int (nI e) :: .ref k :: st, S) := by
  refine x_zald hf hk (vp_in_nI hin hn) ?_
  rw [nI_clamp (by omega), hv]
  exact kk
theorem x_laN {M : MI} {D : Nat} {sc : Option (Nat × (Nat → Int32))} {Q : Option Value → ST → Prop} {pc : Nat} {lv : List (Nat × Value)} {st : List Value} {S : ST} {n e : Nat} {fl : List (Option Nat)} (v : Int64) (hf : fet M pc = some .laload) (hk : shp[46]? = some (1, n, fl)) (hn : n < 2 ^ 31) (hin : e < n) (hv : S.2.1 e = v) (kk : BX M D sc Q (pc + 1, lv, .long v :: st, S)) : BX M D sc Q (pc, lv, .int (nI e) :: .ref 46 :: st, S) := by
  refine x_lald hf hk (vp_in_nI hin hn) ?_
  rw [nI_clamp (by omega), hv]
  exact kk
theorem x_isN {M : MI} {D : Nat} {sc : Option (Nat × (Nat → Int32))} {Q : Option Value → ST → Prop} {pc : Nat} {lv : List (Nat × Value)} {st : List Value} {S : ST} {k n e : Nat} {fl : List (Option Nat)} {v : Int32} (hf : fet M pc = some .iastore) (hk : shp[k]? = some (0, n, fl)) (hn : n < 2 ^ 31) (hin : e < n) (kk : BX M D sc Q (pc + 1, lv, st, pt S k e v)) : BX M D sc Q (pc, lv, .int v :: .int (nI e) :: .ref k :: st, S) := by
  refine x_iast hf hk (vp_in_nI hin hn) ?_
  rw [nI_clamp (by omega)]
  exact kk
theorem x_zsN {M : MI} {D : Nat} {sc : Option (Nat × (Nat → Int32))} {Q : Option Value → ST → Prop} {pc : Nat} {lv : List (Nat × Value)} {st : List Value} {S : ST} {k n e : Nat} {fl : List (Option Nat)} {v : Int32} (hf : fet M pc = some .bastore) (hk : shp[k]? = some (2, n, fl)) (hn : n < 2 ^ 31) (hin : e < n) (hz : vp_nar .boolean v = v) (kk : BX M D sc Q (pc + 1, lv, st, pt S k e v)) : BX M D sc Q (pc, lv, .int v :: .int (nI e) :: .ref k :: st, S) := by
  refine x_zast hf hk (vp_in_nI hin hn) hz ?_
  rw [nI_clamp (by omega)]
  exact kk
theorem x_lsN {M : MI} {D : Nat} {sc : Option (Nat × (Nat → Int32))} {Q : Option Value → ST → Prop} {pc : Nat} {lv : List (Nat × Value)} {st : List Value} {S : ST} {n e : Nat} {fl : List (Option Nat)} {v : Int64} (hf : fet M pc = some .lastore) (hk : shp[46]? = some (1, n, fl)) (hn : n < 2 ^ 31) (hin : e < n) (kk : BX M D sc Q (pc + 1, lv, st, ptl S e v)) : BX M D sc Q (pc, lv, .long v :: .int (nI e) :: .ref 46 :: st, S) := by
  refine x_last hf hk (vp_in_nI hin hn) ?_
  rw [nI_clamp (by omega)]
  exact kk
theorem loop_up {P : Nat → Prop} (N : Nat) (hN : P N) (hs : ∀ i, i < N → P (i + 1) → P i) : ∀ i, i ≤ N → P i := by
  have key : ∀ n i, N - i = n → i ≤ N → P i := by
    intro n
    induction n with
    | zero => intro i h1 h2; have : i = N := by omega
              rw [this]; exact hN
    | succ n ih => intro i h1 h2; exact hs i (by omega) (ih (i + 1) (by omega) (by omega))
  exact fun i hi => key (N - i) i rfl hi
/-- all rows but these are as they were -/
def fr (ks : List Nat) (S u : ST) : Prop := ∀ k, k ∉ ks → u.1 k = S.1 k
theorem fr.rf {ks : List Nat} {S : ST} : fr ks S S := fun _ _ => rfl
theorem fr.tr {ks : List Nat} {S u v : ST} (h : fr ks S u) (h2 : fr ks u v) : fr ks S v := fun k hk => (h2 k hk).trans (h k hk)
theorem fr.sub {ks ks' : List Nat} {S u : ST} (h : fr ks S u) (hs : ∀ k ∈ ks, k ∈ ks') : fr ks' S u := fun k hk => h k (fun z => hk (hs k z))
theorem fr.pt {ks : List Nat} {S u : ST} {k j : Nat} {v : Int32} (h : fr ks S u) (hk : k ∈ ks) : fr ks S (pt u k j v) := fun a ha => by
  have : a ≠ k := fun e => ha (e ▸ hk)
  show (if a = k then _ else u.1 a) = _
  rw [if_neg this]
  exact h a ha
theorem fr.rwr {ks : List Nat} {S u : ST} {k : Nat} {f : Nat → Int32} (h : fr ks S u) (hk : k ∈ ks) : fr ks S (rwr u k f) := fun a ha => by
  have : a ≠ k := fun e => ha (e ▸ hk)
  show (if a = k then _ else u.1 a) = _
  rw [if_neg this]
  exact h a ha
theorem fr.ptl {ks : List Nat} {S u : ST} {j : Nat} {v : Int64} (h : fr ks S u) : fr ks S (ptl u j v) := h
theorem fr.ptt {ks : List Nat} {S u : ST} {t : Nat} (h : fr ks S u) : fr ks S (ptt u t) := h
