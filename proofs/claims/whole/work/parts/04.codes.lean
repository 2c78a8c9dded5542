set_option maxRecDepth 100000 in
theorem cw_X_init : Cond.code y_X_init k_X_init 1 none ∈ gW := gW_t 19 rfl (by decide +kernel)
set_option maxRecDepth 100000 in
theorem cw_Obj_init : Cond.code y_Obj_init k_Obj_init 1 none ∈ gW := gW_t 22 rfl (by decide +kernel)
set_option maxRecDepth 100000 in
theorem cw_Reg_init : Cond.code y_Reg_init k_Reg_init 1 none ∈ gW := gW_t 27 rfl (by decide +kernel)
set_option maxRecDepth 100000 in
theorem cw_Mea_init : Cond.code y_Mea_init k_Mea_init 1 none ∈ gW := gW_t 45 rfl (by decide +kernel)
set_option maxRecDepth 100000 in
theorem cw_Led_init : Cond.code y_Led_init k_Led_init 1 none ∈ gW := gW_t 56 rfl (by decide +kernel)
set_option maxRecDepth 100000 in
theorem cw_Chn_init : Cond.code y_Chn_init k_Chn_init 1 none ∈ gW := gW_t 73 rfl (by decide +kernel)
set_option maxRecDepth 100000 in
theorem cw_Tag_init : Cond.code y_Tag_init k_Tag_init 1 none ∈ gW := gW_t 79 rfl (by decide +kernel)
set_option maxRecDepth 100000 in
theorem cw_Spn_init : Cond.code y_Spn_init k_Spn_init 3 none ∈ gW := gW_t 87 rfl (by decide +kernel)
set_option maxRecDepth 100000 in
theorem cw_X_name : Cond.code y_X_name k_X_name 7 (some .int) ∈ gW := gW_t 148 rfl (by decide +kernel)
set_option maxRecDepth 100000 in
theorem cw_X_isKey : Cond.code y_X_isKey k_X_isKey 1 (some .boolean) ∈ gW := gW_t 151 rfl (by decide +kernel)
set_option maxRecDepth 100000 in
theorem cw_X_isSubject : Cond.code y_X_isSubject k_X_isSubject 1 (some .boolean) ∈ gW := gW_t 154 rfl (by decide +kernel)
set_option maxRecDepth 100000 in
theorem cw_X_firstNameOf : Cond.code y_X_firstNameOf k_X_firstNameOf 1 (some .int) ∈ gW := gW_t 157 rfl (by decide +kernel)
set_option maxRecDepth 100000 in
theorem cw_X_secondNameOf : Cond.code y_X_secondNameOf k_X_secondNameOf 1 (some .int) ∈ gW := gW_t 160 rfl (by decide +kernel)
set_option maxRecDepth 100000 in
theorem cw_Reg_isFull : Cond.code y_Reg_isFull k_Reg_isFull 1 (some .boolean) ∈ gW := gW_t 164 rfl (by decide +kernel)
set_option maxRecDepth 100000 in
theorem cw_Nam_init : Cond.code y_Nam_init k_Nam_init 6 none ∈ gW := gW_t 169 rfl (by decide +kernel)
set_option maxRecDepth 100000 in
theorem cw_Cer_init : Cond.code y_Cer_init k_Cer_init 4 none ∈ gW := gW_t 172 rfl (by decide +kernel)
set_option maxRecDepth 100000 in
theorem cw_Reg_add : Cond.code y_Reg_add k_Reg_add 2 (some .int) ∈ gW := gW_t 214 rfl (by decide +kernel)
set_option maxRecDepth 100000 in
theorem cw_X_permit : Cond.code y_X_permit k_X_permit 7 (some .int) ∈ gW := gW_t 219 rfl (by decide +kernel)
set_option maxRecDepth 100000 in
theorem cw_Prm_init : Cond.code y_Prm_init k_Prm_init 6 none ∈ gW := gW_t 224 rfl (by decide +kernel)
set_option maxRecDepth 100000 in
theorem cw_X_tag : Cond.code y_X_tag k_X_tag 6 (some .boolean) ∈ gW := gW_t 262 rfl (by decide +kernel)
set_option maxRecDepth 100000 in
theorem cw_Reg_permission : Cond.code y_Reg_permission k_Reg_permission 4 (some (.object "DelegationClosure$Permission")) ∈ gW := gW_t 266 rfl (by decide +kernel)
set_option maxRecDepth 100000 in
theorem cw_Reg_standing : Cond.code y_Reg_standing k_Reg_standing 3 (some (.object "DelegationClosure$Certificate")) ∈ gW := gW_t 270 rfl (by decide +kernel)
set_option maxRecDepth 100000 in
theorem cw_Tag_set : Cond.code y_Tag_set k_Tag_set 4 none ∈ gW := gW_t 275 rfl (by decide +kernel)
set_option maxRecDepth 100000 in
theorem cw_Spn_set : Cond.code y_Spn_set k_Spn_set 3 none ∈ gW := gW_t 279 rfl (by decide +kernel)
set_option maxRecDepth 100000 in
theorem cw_X_also : Cond.code y_X_also k_X_also 4 (some .int) ∈ gW := gW_t 283 rfl (by decide +kernel)
set_option maxRecDepth 100000 in
theorem cw_Prm_addSubject : Cond.code y_Prm_addSubject k_Prm_addSubject 2 none ∈ gW := gW_t 287 rfl (by decide +kernel)
set_option maxRecDepth 100000 in
theorem cw_X_quorum : Cond.code y_X_quorum k_X_quorum 4 (some .boolean) ∈ gW := gW_t 291 rfl (by decide +kernel)
set_option maxRecDepth 100000 in
theorem cw_X_revoke : Cond.code y_X_revoke k_X_revoke 3 (some .boolean) ∈ gW := gW_t 295 rfl (by decide +kernel)
set_option maxRecDepth 100000 in
theorem cw_X_certificates : Cond.code y_X_certificates k_X_certificates 1 (some .int) ∈ gW := gW_t 300 rfl (by decide +kernel)
set_option maxRecDepth 100000 in
theorem cw_X_meant : Cond.code y_X_meant k_X_meant 5 (some .int) ∈ gW := gW_t 304 rfl (by decide +kernel)
set_option maxRecDepth 100000 in
theorem cw_Mea_workOut : Cond.code y_Mea_workOut k_Mea_workOut 5 none ∈ gW := gW_t 308 rfl (by decide +kernel)
set_option maxRecDepth 100000 in
theorem cw_Arr_fill : Cond.code y_Arr_fill k_Arr_fill 4 none ∈ gW := gW_t 311 rfl (by decide +kernel)
set_option maxRecDepth 100000 in
theorem cw_Mea_improve : Cond.code y_Mea_improve k_Mea_improve 7 (some .boolean) ∈ gW := gW_t 315 rfl (by decide +kernel)
set_option maxRecDepth 100000 in
theorem cw_Spn_contains : Cond.code y_Spn_contains k_Spn_contains 2 (some .boolean) ∈ gW := gW_t 321 rfl (by decide +kernel)
set_option maxRecDepth 100000 in
theorem cw_Mea_improveBy : Cond.code y_Mea_improveBy k_Mea_improveBy 6 (some .boolean) ∈ gW := gW_t 325 rfl (by decide +kernel)
set_option maxRecDepth 100000 in
theorem cw_Mea_placeOf : Cond.code y_Mea_placeOf k_Mea_placeOf 3 (some .int) ∈ gW := gW_t 328 rfl (by decide +kernel)
set_option maxRecDepth 100000 in
theorem cw_Mea_ofSubject : Cond.code y_Mea_ofSubject k_Mea_ofSubject 10 (some .int) ∈ gW := gW_t 332 rfl (by decide +kernel)
set_option maxRecDepth 100000 in
theorem cw_X_keyOf : Cond.code y_X_keyOf k_X_keyOf 1 (some .int) ∈ gW := gW_t 335 rfl (by decide +kernel)
set_option maxRecDepth 100000 in
theorem cw_X_sumOf : Cond.code y_X_sumOf k_X_sumOf 3 (some .int) ∈ gW := gW_t 340 rfl (by decide +kernel)
set_option maxRecDepth 100000 in
theorem cw_Mat_min : Cond.code y_Mat_min k_Mat_min 2 (some .int) ∈ gW := gW_t 343 rfl (by decide +kernel)
set_option maxRecDepth 100000 in
theorem cw_X_cost : Cond.code y_X_cost k_X_cost 4 (some .int) ∈ gW := gW_t 348 rfl (by decide +kernel)
set_option maxRecDepth 100000 in
theorem cw_X_costOrNone : Cond.code y_X_costOrNone k_X_costOrNone 1 (some .int) ∈ gW := gW_t 351 rfl (by decide +kernel)
set_option maxRecDepth 100000 in
theorem cw_X_may : Cond.code y_X_may k_X_may 5 (some .int) ∈ gW := gW_t 355 rfl (by decide +kernel)
set_option maxRecDepth 100000 in
theorem cw_X_isOperation : Cond.code y_X_isOperation k_X_isOperation 1 (some .boolean) ∈ gW := gW_t 358 rfl (by decide +kernel)
set_option maxRecDepth 100000 in
theorem cw_Led_mark : Cond.code y_Led_mark k_Led_mark 7 none ∈ gW := gW_t 362 rfl (by decide +kernel)
set_option maxRecDepth 100000 in
theorem cw_Tag_contains : Cond.code y_Tag_contains k_Tag_contains 3 (some .boolean) ∈ gW := gW_t 368 rfl (by decide +kernel)
set_option maxRecDepth 100000 in
theorem cw_Led_fromOwner : Cond.code y_Led_fromOwner k_Led_fromOwner 6 (some .int) ∈ gW := gW_t 373 rfl (by decide +kernel)
set_option maxRecDepth 100000 in
theorem cw_Led_improve : Cond.code y_Led_improve k_Led_improve 8 (some .boolean) ∈ gW := gW_t 378 rfl (by decide +kernel)
set_option maxRecDepth 100000 in
theorem cw_Led_byCertificate : Cond.code y_Led_byCertificate k_Led_byCertificate 6 (some .int) ∈ gW := gW_t 382 rfl (by decide +kernel)
set_option maxRecDepth 100000 in
theorem cw_Led_bySubject : Cond.code y_Led_bySubject k_Led_bySubject 8 (some .int) ∈ gW := gW_t 386 rfl (by decide +kernel)
set_option maxRecDepth 100000 in
theorem cw_Led_sortIn : Cond.code y_Led_sortIn k_Led_sortIn 4 none ∈ gW := gW_t 393 rfl (by decide +kernel)
set_option maxRecDepth 100000 in
theorem cw_X_holders : Cond.code y_X_holders k_X_holders 6 (some .int) ∈ gW := gW_t 397 rfl (by decide +kernel)
set_option maxRecDepth 100000 in
theorem cw_X_begin : Cond.code y_X_begin k_X_begin 3 (some .boolean) ∈ gW := gW_t 401 rfl (by decide +kernel)
set_option maxRecDepth 100000 in
theorem cw_Chn_start : Cond.code y_Chn_start k_Chn_start 2 none ∈ gW := gW_t 405 rfl (by decide +kernel)
set_option maxRecDepth 100000 in
theorem cw_Chn_putAhead : Cond.code y_Chn_putAhead k_Chn_putAhead 4 none ∈ gW := gW_t 409 rfl (by decide +kernel)
set_option maxRecDepth 100000 in
theorem cw_X_namesIn : Cond.code y_X_namesIn k_X_namesIn 1 (some .int) ∈ gW := gW_t 412 rfl (by decide +kernel)
set_option maxRecDepth 100000 in
theorem cw_Tag_copy : Cond.code y_Tag_copy k_Tag_copy 2 none ∈ gW := gW_t 422 rfl (by decide +kernel)
set_option maxRecDepth 100000 in
theorem cw_Spn_copy : Cond.code y_Spn_copy k_Spn_copy 2 none ∈ gW := gW_t 426 rfl (by decide +kernel)
set_option maxRecDepth 100000 in
theorem cw_X_follow : Cond.code y_X_follow k_X_follow 4 (some .boolean) ∈ gW := gW_t 432 rfl (by decide +kernel)
set_option maxRecDepth 100000 in
theorem cw_Chn_replaceName : Cond.code y_Chn_replaceName k_Chn_replaceName 3 (some .boolean) ∈ gW := gW_t 436 rfl (by decide +kernel)
set_option maxRecDepth 100000 in
theorem cw_Chn_isThere : Cond.code y_Chn_isThere k_Chn_isThere 1 (some .boolean) ∈ gW := gW_t 440 rfl (by decide +kernel)
set_option maxRecDepth 100000 in
theorem cw_Spn_narrowTo : Cond.code y_Spn_narrowTo k_Spn_narrowTo 2 none ∈ gW := gW_t 444 rfl (by decide +kernel)
set_option maxRecDepth 100000 in
theorem cw_Mat_max : Cond.code y_Mat_max k_Mat_max 2 (some .int) ∈ gW := gW_t 447 rfl (by decide +kernel)
set_option maxRecDepth 100000 in
theorem cw_Chn_passOn : Cond.code y_Chn_passOn k_Chn_passOn 2 (some .boolean) ∈ gW := gW_t 452 rfl (by decide +kernel)
set_option maxRecDepth 100000 in
theorem cw_Tag_narrowTo : Cond.code y_Tag_narrowTo k_Tag_narrowTo 2 none ∈ gW := gW_t 456 rfl (by decide +kernel)
set_option maxRecDepth 100000 in
theorem cw_X_head : Cond.code y_X_head k_X_head 1 (some .int) ∈ gW := gW_t 461 rfl (by decide +kernel)
set_option maxRecDepth 100000 in
theorem cw_X_behind : Cond.code y_X_behind k_X_behind 2 (some .int) ∈ gW := gW_t 466 rfl (by decide +kernel)
set_option maxRecDepth 100000 in
theorem cw_X_grants : Cond.code y_X_grants k_X_grants 4 (some .boolean) ∈ gW := gW_t 470 rfl (by decide +kernel)
set_option maxRecDepth 100000 in
theorem cw_Chn_allows : Cond.code y_Chn_allows k_Chn_allows 4 (some .boolean) ∈ gW := gW_t 474 rfl (by decide +kernel)
set_option maxRecDepth 100000 in
theorem cw_X_used : Cond.code y_X_used k_X_used 1 (some .int) ∈ gW := gW_t 480 rfl (by decide +kernel)
set_option maxRecDepth 100000 in
theorem cw_X_delegates : Cond.code y_X_delegates k_X_delegates 1 (some .boolean) ∈ gW := gW_t 484 rfl (by decide +kernel)
set_option maxRecDepth 100000 in
theorem cw_Mod_init : Cond.code y_Mod_init k_Mod_init 1 none ∈ gW := gW_t 489 rfl (by decide +kernel)
set_option maxRecDepth 100000 in
theorem cw_Mod_name : Cond.code y_Mod_name k_Mod_name 7 (some .int) ∈ gW := gW_t 576 rfl (by decide +kernel)
set_option maxRecDepth 100000 in
theorem cw_Mod_isSubject : Cond.code y_Mod_isSubject k_Mod_isSubject 1 (some .boolean) ∈ gW := gW_t 579 rfl (by decide +kernel)
set_option maxRecDepth 100000 in
theorem cw_Mod_nameOf : Cond.code y_Mod_nameOf k_Mod_nameOf 3 (some .int) ∈ gW := gW_t 582 rfl (by decide +kernel)
set_option maxRecDepth 100000 in
theorem cw_Mod_make : Cond.code y_Mod_make k_Mod_make 7 (some .int) ∈ gW := gW_t 586 rfl (by decide +kernel)
set_option maxRecDepth 100000 in
theorem cw_Mod_permit : Cond.code y_Mod_permit k_Mod_permit 7 (some .int) ∈ gW := gW_t 592 rfl (by decide +kernel)
set_option maxRecDepth 100000 in
theorem cw_Mod_tag : Cond.code y_Mod_tag k_Mod_tag 5 (some .boolean) ∈ gW := gW_t 596 rfl (by decide +kernel)
set_option maxRecDepth 100000 in
theorem cw_Mod_isPermission : Cond.code y_Mod_isPermission k_Mod_isPermission 2 (some .boolean) ∈ gW := gW_t 600 rfl (by decide +kernel)
set_option maxRecDepth 100000 in
theorem cw_Mod_isThere : Cond.code y_Mod_isThere k_Mod_isThere 2 (some .boolean) ∈ gW := gW_t 604 rfl (by decide +kernel)
set_option maxRecDepth 100000 in
theorem cw_Mod_also : Cond.code y_Mod_also k_Mod_also 3 (some .int) ∈ gW := gW_t 608 rfl (by decide +kernel)
set_option maxRecDepth 100000 in
theorem cw_Mod_quorum : Cond.code y_Mod_quorum k_Mod_quorum 3 (some .boolean) ∈ gW := gW_t 612 rfl (by decide +kernel)
set_option maxRecDepth 100000 in
theorem cw_Mod_revoke : Cond.code y_Mod_revoke k_Mod_revoke 2 (some .boolean) ∈ gW := gW_t 616 rfl (by decide +kernel)
set_option maxRecDepth 100000 in
theorem cw_Mod_certificates : Cond.code y_Mod_certificates k_Mod_certificates 1 (some .int) ∈ gW := gW_t 620 rfl (by decide +kernel)
set_option maxRecDepth 100000 in
theorem cw_Mod_meant : Cond.code y_Mod_meant k_Mod_meant 5 (some .int) ∈ gW := gW_t 624 rfl (by decide +kernel)
set_option maxRecDepth 100000 in
theorem cw_Mod_findMeanings : Cond.code y_Mod_findMeanings k_Mod_findMeanings 4 none ∈ gW := gW_t 628 rfl (by decide +kernel)
set_option maxRecDepth 100000 in
theorem cw_Mod_useNames : Cond.code y_Mod_useNames k_Mod_useNames 7 (some .boolean) ∈ gW := gW_t 632 rfl (by decide +kernel)
set_option maxRecDepth 100000 in
theorem cw_Mod_isValid : Cond.code y_Mod_isValid k_Mod_isValid 3 (some .boolean) ∈ gW := gW_t 636 rfl (by decide +kernel)
set_option maxRecDepth 100000 in
theorem cw_Mod_costOf : Cond.code y_Mod_costOf k_Mod_costOf 9 (some .int) ∈ gW := gW_t 640 rfl (by decide +kernel)
set_option maxRecDepth 100000 in
theorem cw_Mod_keyOf : Cond.code y_Mod_keyOf k_Mod_keyOf 1 (some .int) ∈ gW := gW_t 643 rfl (by decide +kernel)
set_option maxRecDepth 100000 in
theorem cw_Mod_sum : Cond.code y_Mod_sum k_Mod_sum 2 (some .int) ∈ gW := gW_t 646 rfl (by decide +kernel)
set_option maxRecDepth 100000 in
theorem cw_Mod_cost : Cond.code y_Mod_cost k_Mod_cost 5 (some .int) ∈ gW := gW_t 650 rfl (by decide +kernel)
set_option maxRecDepth 100000 in
theorem cw_Mod_may : Cond.code y_Mod_may k_Mod_may 6 (some .int) ∈ gW := gW_t 654 rfl (by decide +kernel)
set_option maxRecDepth 100000 in
theorem cw_Mod_findLeading : Cond.code y_Mod_findLeading k_Mod_findLeading 9 none ∈ gW := gW_t 658 rfl (by decide +kernel)
set_option maxRecDepth 100000 in
theorem cw_Mod_counts : Cond.code y_Mod_counts k_Mod_counts 5 (some .boolean) ∈ gW := gW_t 662 rfl (by decide +kernel)
set_option maxRecDepth 100000 in
theorem cw_Mod_byCertificate : Cond.code y_Mod_byCertificate k_Mod_byCertificate 7 (some .int) ∈ gW := gW_t 666 rfl (by decide +kernel)
set_option maxRecDepth 100000 in
theorem cw_Mod_bySubject : Cond.code y_Mod_bySubject k_Mod_bySubject 7 (some .int) ∈ gW := gW_t 670 rfl (by decide +kernel)
set_option maxRecDepth 100000 in
theorem cw_Mod_leadOf : Cond.code y_Mod_leadOf k_Mod_leadOf 4 (some .int) ∈ gW := gW_t 674 rfl (by decide +kernel)
set_option maxRecDepth 100000 in
theorem cw_Mod_leastOf : Cond.code y_Mod_leastOf k_Mod_leastOf 10 (some .int) ∈ gW := gW_t 677 rfl (by decide +kernel)
set_option maxRecDepth 100000 in
theorem cw_Mod_holders : Cond.code y_Mod_holders k_Mod_holders 6 (some .int) ∈ gW := gW_t 681 rfl (by decide +kernel)
set_option maxRecDepth 100000 in
theorem cw_Mod_begin : Cond.code y_Mod_begin k_Mod_begin 2 (some .boolean) ∈ gW := gW_t 686 rfl (by decide +kernel)
set_option maxRecDepth 100000 in
theorem cw_Mod_place : Cond.code y_Mod_place k_Mod_place 4 none ∈ gW := gW_t 690 rfl (by decide +kernel)
set_option maxRecDepth 100000 in
theorem cw_Mod_namesOf : Cond.code y_Mod_namesOf k_Mod_namesOf 1 (some .int) ∈ gW := gW_t 693 rfl (by decide +kernel)
set_option maxRecDepth 100000 in
theorem cw_Mod_follow : Cond.code y_Mod_follow k_Mod_follow 2 (some .boolean) ∈ gW := gW_t 697 rfl (by decide +kernel)
set_option maxRecDepth 100000 in
theorem cw_Mod_fits : Cond.code y_Mod_fits k_Mod_fits 2 (some .boolean) ∈ gW := gW_t 701 rfl (by decide +kernel)
set_option maxRecDepth 100000 in
theorem cw_Mod_dropName : Cond.code y_Mod_dropName k_Mod_dropName 2 none ∈ gW := gW_t 705 rfl (by decide +kernel)
set_option maxRecDepth 100000 in
theorem cw_Mod_head : Cond.code y_Mod_head k_Mod_head 1 (some .int) ∈ gW := gW_t 709 rfl (by decide +kernel)
set_option maxRecDepth 100000 in
theorem cw_Mod_behind : Cond.code y_Mod_behind k_Mod_behind 2 (some .int) ∈ gW := gW_t 713 rfl (by decide +kernel)
set_option maxRecDepth 100000 in
theorem cw_Mod_grants : Cond.code y_Mod_grants k_Mod_grants 4 (some .boolean) ∈ gW := gW_t 717 rfl (by decide +kernel)
set_option maxRecDepth 100000 in
theorem cw_Mod_used : Cond.code y_Mod_used k_Mod_used 1 (some .int) ∈ gW := gW_t 721 rfl (by decide +kernel)
set_option maxRecDepth 100000 in
theorem cw_Mod_delegates : Cond.code y_Mod_delegates k_Mod_delegates 1 (some .boolean) ∈ gW := gW_t 725 rfl (by decide +kernel)
theorem sl_Mea_improve : Cond.selects "DelegationClosure$Meanings" y_Mea_improve y_Mea_improve ∈ gW := gW_s 0 rfl (by decide +kernel)
theorem sl_Mea_improveBy : Cond.selects "DelegationClosure$Meanings" y_Mea_improveBy y_Mea_improveBy ∈ gW := gW_s 1 rfl (by decide +kernel)
theorem sl_Led_improve : Cond.selects "DelegationClosure$Leads" y_Led_improve y_Led_improve ∈ gW := gW_s 2 rfl (by decide +kernel)
theorem sl_Led_byCertificate : Cond.selects "DelegationClosure$Leads" y_Led_byCertificate y_Led_byCertificate ∈ gW := gW_s 3 rfl (by decide +kernel)
theorem sl_Led_bySubject : Cond.selects "DelegationClosure$Leads" y_Led_bySubject y_Led_bySubject ∈ gW := gW_s 4 rfl (by decide +kernel)
theorem sl_Led_sortIn : Cond.selects "DelegationClosure$Leads" y_Led_sortIn y_Led_sortIn ∈ gW := gW_s 5 rfl (by decide +kernel)
theorem sl_Chn_putAhead : Cond.selects "DelegationClosure$Chain" y_Chn_putAhead y_Chn_putAhead ∈ gW := gW_s 6 rfl (by decide +kernel)
theorem sl_Mod_make : Cond.selects "DelegationClosureModel" y_Mod_make y_Mod_make ∈ gW := gW_s 7 rfl (by decide +kernel)
theorem sl_Mod_isPermission : Cond.selects "DelegationClosureModel" y_Mod_isPermission y_Mod_isPermission ∈ gW := gW_s 8 rfl (by decide +kernel)
theorem sl_Mod_isThere : Cond.selects "DelegationClosureModel" y_Mod_isThere y_Mod_isThere ∈ gW := gW_s 9 rfl (by decide +kernel)
theorem sl_Mod_findMeanings : Cond.selects "DelegationClosureModel" y_Mod_findMeanings y_Mod_findMeanings ∈ gW := gW_s 10 rfl (by decide +kernel)
theorem sl_Mod_useNames : Cond.selects "DelegationClosureModel" y_Mod_useNames y_Mod_useNames ∈ gW := gW_s 11 rfl (by decide +kernel)
theorem sl_Mod_isValid : Cond.selects "DelegationClosureModel" y_Mod_isValid y_Mod_isValid ∈ gW := gW_s 12 rfl (by decide +kernel)
theorem sl_Mod_costOf : Cond.selects "DelegationClosureModel" y_Mod_costOf y_Mod_costOf ∈ gW := gW_s 13 rfl (by decide +kernel)
theorem sl_Mod_findLeading : Cond.selects "DelegationClosureModel" y_Mod_findLeading y_Mod_findLeading ∈ gW := gW_s 14 rfl (by decide +kernel)
theorem sl_Mod_counts : Cond.selects "DelegationClosureModel" y_Mod_counts y_Mod_counts ∈ gW := gW_s 15 rfl (by decide +kernel)
theorem sl_Mod_byCertificate : Cond.selects "DelegationClosureModel" y_Mod_byCertificate y_Mod_byCertificate ∈ gW := gW_s 16 rfl (by decide +kernel)
theorem sl_Mod_bySubject : Cond.selects "DelegationClosureModel" y_Mod_bySubject y_Mod_bySubject ∈ gW := gW_s 17 rfl (by decide +kernel)
theorem sl_Mod_leadOf : Cond.selects "DelegationClosureModel" y_Mod_leadOf y_Mod_leadOf ∈ gW := gW_s 18 rfl (by decide +kernel)
theorem sl_Mod_place : Cond.selects "DelegationClosureModel" y_Mod_place y_Mod_place ∈ gW := gW_s 19 rfl (by decide +kernel)
theorem sl_Mod_fits : Cond.selects "DelegationClosureModel" y_Mod_fits y_Mod_fits ∈ gW := gW_s 20 rfl (by decide +kernel)
theorem sl_Mod_dropName : Cond.selects "DelegationClosureModel" y_Mod_dropName y_Mod_dropName ∈ gW := gW_s 21 rfl (by decide +kernel)
theorem lay_X {c : Cond} : ∀ w, w ∈ u_ws n_X T_X 4 → w ∈ c :: gW := by
  intro w hw
  obtain ⟨k, hk, rfl⟩ := List.mem_map.mp hw
  have hk := List.mem_range.mp hk
  rcases (show k = 0 ∨ k = 1 ∨ k = 2 ∨ k = 3 by omega) with rfl | rfl | rfl | rfl
  · exact List.mem_cons_of_mem _ wd_136
  · exact List.mem_cons_of_mem _ wd_138
  · exact List.mem_cons_of_mem _ wd_140
  · exact List.mem_cons_of_mem _ wd_142
theorem lay_Reg {c : Cond} : ∀ w, w ∈ u_ws n_Reg T_Reg 2 → w ∈ c :: gW := by
  intro w hw
  obtain ⟨k, hk, rfl⟩ := List.mem_map.mp hw
  have hk := List.mem_range.mp hk
  rcases (show k = 0 ∨ k = 1 by omega) with rfl | rfl
  · exact List.mem_cons_of_mem _ wd_36
  · exact List.mem_cons_of_mem _ wd_38
theorem lay_Mea {c : Cond} : ∀ w, w ∈ u_ws n_Mea T_Mea 1 → w ∈ c :: gW := by
  intro w hw
  obtain ⟨k, hk, rfl⟩ := List.mem_map.mp hw
  have hk := List.mem_range.mp hk
  rcases (show k = 0 by omega) with rfl
  · exact List.mem_cons_of_mem _ wd_48
theorem lay_Led {c : Cond} : ∀ w, w ∈ u_ws n_Led T_Led 3 → w ∈ c :: gW := by
  intro w hw
  obtain ⟨k, hk, rfl⟩ := List.mem_map.mp hw
  have hk := List.mem_range.mp hk
  rcases (show k = 0 ∨ k = 1 ∨ k = 2 by omega) with rfl | rfl | rfl
  · exact List.mem_cons_of_mem _ wd_61
  · exact List.mem_cons_of_mem _ wd_63
  · exact List.mem_cons_of_mem _ wd_65
theorem lay_Chn {c : Cond} : ∀ w, w ∈ u_ws n_Chn T_Chn 7 → w ∈ c :: gW := by
  intro w hw
  obtain ⟨k, hk, rfl⟩ := List.mem_map.mp hw
  have hk := List.mem_range.mp hk
  rcases (show k = 0 ∨ k = 1 ∨ k = 2 ∨ k = 3 ∨ k = 4 ∨ k = 5 ∨ k = 6 by omega) with rfl | rfl | rfl | rfl | rfl | rfl | rfl
  · exact List.mem_cons_of_mem _ wd_117
  · exact List.mem_cons_of_mem _ wd_119
  · exact List.mem_cons_of_mem _ wd_121
  · exact List.mem_cons_of_mem _ wd_123
  · exact List.mem_cons_of_mem _ wd_125
  · exact List.mem_cons_of_mem _ wd_127
  · exact List.mem_cons_of_mem _ wd_129
theorem lay_Tag {c : Cond} : ∀ w, w ∈ u_ws n_Tag T_Tag 2 → w ∈ c :: gW := by
  intro w hw
  obtain ⟨k, hk, rfl⟩ := List.mem_map.mp hw
  have hk := List.mem_range.mp hk
  rcases (show k = 0 ∨ k = 1 by omega) with rfl | rfl
  · exact List.mem_cons_of_mem _ wd_98
  · exact List.mem_cons_of_mem _ wd_100
theorem lay_Spn {c : Cond} : ∀ w, w ∈ u_ws n_Spn T_Spn 2 → w ∈ c :: gW := by
  intro w hw
  obtain ⟨k, hk, rfl⟩ := List.mem_map.mp hw
  have hk := List.mem_range.mp hk
  rcases (show k = 0 ∨ k = 1 by omega) with rfl | rfl
  · exact List.mem_cons_of_mem _ wd_91
  · exact List.mem_cons_of_mem _ wd_93
theorem lay_Nam {c : Cond} : ∀ w, w ∈ u_ws n_Nam T_Nam 5 → w ∈ c :: gW := by
  intro w hw
  obtain ⟨k, hk, rfl⟩ := List.mem_map.mp hw
  have hk := List.mem_range.mp hk
  rcases (show k = 0 ∨ k = 1 ∨ k = 2 ∨ k = 3 ∨ k = 4 by omega) with rfl | rfl | rfl | rfl | rfl
  · exact List.mem_cons_of_mem _ wd_204
  · exact List.mem_cons_of_mem _ wd_206
  · exact List.mem_cons_of_mem _ wd_208
  · exact List.mem_cons_of_mem _ wd_200
  · exact List.mem_cons_of_mem _ wd_202
theorem lay_Prm {c : Cond} : ∀ w, w ∈ u_ws n_Prm T_Prm 8 → w ∈ c :: gW := by
  intro w hw
  obtain ⟨k, hk, rfl⟩ := List.mem_map.mp hw
  have hk := List.mem_range.mp hk
  rcases (show k = 0 ∨ k = 1 ∨ k = 2 ∨ k = 3 ∨ k = 4 ∨ k = 5 ∨ k = 6 ∨ k = 7 by omega) with rfl | rfl | rfl | rfl | rfl | rfl | rfl | rfl
  · exact List.mem_cons_of_mem _ wd_255
  · exact List.mem_cons_of_mem _ wd_256
  · exact List.mem_cons_of_mem _ wd_257
  · exact List.mem_cons_of_mem _ wd_245
  · exact List.mem_cons_of_mem _ wd_247
  · exact List.mem_cons_of_mem _ wd_249
  · exact List.mem_cons_of_mem _ wd_251
  · exact List.mem_cons_of_mem _ wd_253
theorem lay_Mod {c : Cond} : ∀ w, w ∈ u_ws n_Mod T_Mod 27 → w ∈ c :: gW := by
  intro w hw
  obtain ⟨k, hk, rfl⟩ := List.mem_map.mp hw
  have hk := List.mem_range.mp hk
  rcases (show k = 0 ∨ k = 1 ∨ k = 2 ∨ k = 3 ∨ k = 4 ∨ k = 5 ∨ k = 6 ∨ k = 7 ∨ k = 8 ∨ k = 9 ∨ k = 10 ∨ k = 11 ∨ k = 12 ∨ k = 13 ∨ k = 14 ∨ k = 15 ∨ k = 16 ∨ k = 17 ∨ k = 18 ∨ k = 19 ∨ k = 20 ∨ k = 21 ∨ k = 22 ∨ k = 23 ∨ k = 24 ∨ k = 25 ∨ k = 26 by omega) with rfl | rfl | rfl | rfl | rfl | rfl | rfl | rfl | rfl | rfl | rfl | rfl | rfl | rfl | rfl | rfl | rfl | rfl | rfl | rfl | rfl | rfl | rfl | rfl | rfl | rfl | rfl
  · exact List.mem_cons_of_mem _ wd_518
  · exact List.mem_cons_of_mem _ wd_520
  · exact List.mem_cons_of_mem _ wd_522
  · exact List.mem_cons_of_mem _ wd_524
  · exact List.mem_cons_of_mem _ wd_526
  · exact List.mem_cons_of_mem _ wd_528
  · exact List.mem_cons_of_mem _ wd_530
  · exact List.mem_cons_of_mem _ wd_532
  · exact List.mem_cons_of_mem _ wd_534
  · exact List.mem_cons_of_mem _ wd_536
  · exact List.mem_cons_of_mem _ wd_538
  · exact List.mem_cons_of_mem _ wd_540
  · exact List.mem_cons_of_mem _ wd_542
  · exact List.mem_cons_of_mem _ wd_544
  · exact List.mem_cons_of_mem _ wd_546
  · exact List.mem_cons_of_mem _ wd_548
  · exact List.mem_cons_of_mem _ wd_550
  · exact List.mem_cons_of_mem _ wd_552
  · exact List.mem_cons_of_mem _ wd_554
  · exact List.mem_cons_of_mem _ wd_556
  · exact List.mem_cons_of_mem _ wd_558
  · exact List.mem_cons_of_mem _ wd_560
  · exact List.mem_cons_of_mem _ wd_562
  · exact List.mem_cons_of_mem _ wd_564
  · exact List.mem_cons_of_mem _ wd_566
  · exact List.mem_cons_of_mem _ wd_568
  · exact List.mem_cons_of_mem _ wd_570
theorem wd_objcode : Cond.code Lib.objectInit ⟨#[0xb1]⟩ 1 none ∈ gW := cw_Obj_init
theorem wd_math_max : Cond.code Lib.Math.max.name Lib.Math.max.code 2 (some .int) ∈ gW := cw_Mat_max
theorem wd_math_min : Cond.code Lib.Math.min.name Lib.Math.min.code 2 (some .int) ∈ gW := cw_Mat_min
