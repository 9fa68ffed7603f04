/-! methods: name, bytes, locals, answer, handlers, depth; what a caller needs of them (by program) -/
def M_TB_init : ev_M := (⟨"TypedBlood", "<init>", "()V"⟩, prog_1_method_1_code, 1, none, [], 1)
theorem mc_TB_init : mcw M_TB_init := ⟨Or.inr ⟨rfl, ⟨List.mem_of_getElem? (i := 52) (by decide +kernel), by decide +kernel⟩⟩, ⟨List.mem_of_getElem? (i := 32) (by decide +kernel), by decide +kernel⟩, by decide +kernel, by decide +kernel, by decide +kernel, by decide⟩
theorem i_TB_init : itM M_TB_init 0 := ⟨mc_TB_init, ⟨List.mem_of_getElem? (i := 51) (by decide +kernel), by decide +kernel⟩, ⟨List.mem_of_getElem? (i := 52) (by decide +kernel), by decide +kernel⟩, rfl, by decide +kernel, by decide⟩
def M_TB_pass : ev_M := (⟨"TypedBlood", "pass", "(I)I"⟩, prog_1_method_2_code, 3, some (.int), [], 4)
theorem mc_TB_pass : mcw M_TB_pass := ⟨Or.inr ⟨rfl, ⟨List.mem_of_getElem? (i := 109) (by decide +kernel), by decide +kernel⟩⟩, ⟨List.mem_of_getElem? (i := 32) (by decide +kernel), by decide +kernel⟩, by decide +kernel, by decide +kernel, by decide +kernel, by decide⟩
theorem v_TB_pass : vtM M_TB_pass 1 := ⟨mc_TB_pass, ⟨List.mem_of_getElem? (i := 107) (by decide +kernel), by decide +kernel⟩, ⟨List.mem_of_getElem? (i := 108) (by decide +kernel), by decide +kernel⟩, by decide +kernel, by decide⟩
def M_TB_unit : ev_M := (⟨"TypedBlood", "unit", "(IIIII)I"⟩, prog_1_method_3_code, 6, some (.int), [], 4)
theorem mc_TB_unit : mcw M_TB_unit := ⟨Or.inr ⟨rfl, ⟨List.mem_of_getElem? (i := 196) (by decide +kernel), by decide +kernel⟩⟩, ⟨List.mem_of_getElem? (i := 32) (by decide +kernel), by decide +kernel⟩, by decide +kernel, by decide +kernel, by decide +kernel, by decide⟩
theorem v_TB_unit : vtM M_TB_unit 5 := ⟨mc_TB_unit, ⟨List.mem_of_getElem? (i := 194) (by decide +kernel), by decide +kernel⟩, ⟨List.mem_of_getElem? (i := 195) (by decide +kernel), by decide +kernel⟩, by decide +kernel, by decide⟩
def M_TB_antigen : ev_M := (⟨"TypedBlood", "antigen", "(III)V"⟩, prog_1_method_4_code, 5, none, [], 5)
theorem mc_TB_antigen : mcw M_TB_antigen := ⟨Or.inr ⟨rfl, ⟨List.mem_of_getElem? (i := 307) (by decide +kernel), by decide +kernel⟩⟩, ⟨List.mem_of_getElem? (i := 32) (by decide +kernel), by decide +kernel⟩, by decide +kernel, by decide +kernel, by decide +kernel, by decide⟩
theorem v_TB_antigen : vtM M_TB_antigen 3 := ⟨mc_TB_antigen, ⟨List.mem_of_getElem? (i := 305) (by decide +kernel), by decide +kernel⟩, ⟨List.mem_of_getElem? (i := 306) (by decide +kernel), by decide +kernel⟩, by decide +kernel, by decide⟩
def M_TB_process : ev_M := (⟨"TypedBlood", "process", "(II)I"⟩, prog_1_method_5_code, 4, some (.int), [], 5)
theorem mc_TB_process : mcw M_TB_process := ⟨Or.inr ⟨rfl, ⟨List.mem_of_getElem? (i := 341) (by decide +kernel), by decide +kernel⟩⟩, ⟨List.mem_of_getElem? (i := 32) (by decide +kernel), by decide +kernel⟩, by decide +kernel, by decide +kernel, by decide +kernel, by decide⟩
theorem v_TB_process : vtM M_TB_process 2 := ⟨mc_TB_process, ⟨List.mem_of_getElem? (i := 339) (by decide +kernel), by decide +kernel⟩, ⟨List.mem_of_getElem? (i := 340) (by decide +kernel), by decide +kernel⟩, by decide +kernel, by decide⟩
def M_TB_pool : ev_M := (⟨"TypedBlood", "pool", "(II)I"⟩, prog_1_method_6_code, 5, some (.int), [], 5)
theorem mc_TB_pool : mcw M_TB_pool := ⟨Or.inr ⟨rfl, ⟨List.mem_of_getElem? (i := 400) (by decide +kernel), by decide +kernel⟩⟩, ⟨List.mem_of_getElem? (i := 32) (by decide +kernel), by decide +kernel⟩, by decide +kernel, by decide +kernel, by decide +kernel, by decide⟩
theorem v_TB_pool : vtM M_TB_pool 2 := ⟨mc_TB_pool, ⟨List.mem_of_getElem? (i := 398) (by decide +kernel), by decide +kernel⟩, ⟨List.mem_of_getElem? (i := 399) (by decide +kernel), by decide +kernel⟩, by decide +kernel, by decide⟩
def M_TB_patient : ev_M := (⟨"TypedBlood", "patient", "()I"⟩, prog_1_method_7_code, 1, some (.int), [], 4)
theorem mc_TB_patient : mcw M_TB_patient := ⟨Or.inr ⟨rfl, ⟨List.mem_of_getElem? (i := 414) (by decide +kernel), by decide +kernel⟩⟩, ⟨List.mem_of_getElem? (i := 32) (by decide +kernel), by decide +kernel⟩, by decide +kernel, by decide +kernel, by decide +kernel, by decide⟩
theorem v_TB_patient : vtM M_TB_patient 0 := ⟨mc_TB_patient, ⟨List.mem_of_getElem? (i := 412) (by decide +kernel), by decide +kernel⟩, ⟨List.mem_of_getElem? (i := 413) (by decide +kernel), by decide +kernel⟩, by decide +kernel, by decide⟩
def M_TB_sample : ev_M := (⟨"TypedBlood", "sample", "(III)I"⟩, prog_1_method_8_code, 5, some (.int), [], 5)
theorem mc_TB_sample : mcw M_TB_sample := ⟨Or.inr ⟨rfl, ⟨List.mem_of_getElem? (i := 454) (by decide +kernel), by decide +kernel⟩⟩, ⟨List.mem_of_getElem? (i := 32) (by decide +kernel), by decide +kernel⟩, by decide +kernel, by decide +kernel, by decide +kernel, by decide⟩
theorem v_TB_sample : vtM M_TB_sample 3 := ⟨mc_TB_sample, ⟨List.mem_of_getElem? (i := 452) (by decide +kernel), by decide +kernel⟩, ⟨List.mem_of_getElem? (i := 453) (by decide +kernel), by decide +kernel⟩, by decide +kernel, by decide⟩
def M_TB_unlock : ev_M := (⟨"TypedBlood", "unlock", "(III)V"⟩, prog_1_method_9_code, 5, none, [], 5)
theorem mc_TB_unlock : mcw M_TB_unlock := ⟨Or.inr ⟨rfl, ⟨List.mem_of_getElem? (i := 472) (by decide +kernel), by decide +kernel⟩⟩, ⟨List.mem_of_getElem? (i := 32) (by decide +kernel), by decide +kernel⟩, by decide +kernel, by decide +kernel, by decide +kernel, by decide⟩
theorem v_TB_unlock : vtM M_TB_unlock 3 := ⟨mc_TB_unlock, ⟨List.mem_of_getElem? (i := 470) (by decide +kernel), by decide +kernel⟩, ⟨List.mem_of_getElem? (i := 471) (by decide +kernel), by decide +kernel⟩, by decide +kernel, by decide⟩
def M_TB_antibody : ev_M := (⟨"TypedBlood", "antibody", "(II)I"⟩, prog_1_method_10_code, 4, some (.int), [], 5)
theorem mc_TB_antibody : mcw M_TB_antibody := ⟨Or.inr ⟨rfl, ⟨List.mem_of_getElem? (i := 484) (by decide +kernel), by decide +kernel⟩⟩, ⟨List.mem_of_getElem? (i := 32) (by decide +kernel), by decide +kernel⟩, by decide +kernel, by decide +kernel, by decide +kernel, by decide⟩
theorem v_TB_antibody : vtM M_TB_antibody 2 := ⟨mc_TB_antibody, ⟨List.mem_of_getElem? (i := 482) (by decide +kernel), by decide +kernel⟩, ⟨List.mem_of_getElem? (i := 483) (by decide +kernel), by decide +kernel⟩, by decide +kernel, by decide⟩
def M_TB_need : ev_M := (⟨"TypedBlood", "need", "(II)I"⟩, prog_1_method_11_code, 5, some (.int), [], 5)
theorem mc_TB_need : mcw M_TB_need := ⟨Or.inr ⟨rfl, ⟨List.mem_of_getElem? (i := 498) (by decide +kernel), by decide +kernel⟩⟩, ⟨List.mem_of_getElem? (i := 32) (by decide +kernel), by decide +kernel⟩, by decide +kernel, by decide +kernel, by decide +kernel, by decide⟩
theorem v_TB_need : vtM M_TB_need 2 := ⟨mc_TB_need, ⟨List.mem_of_getElem? (i := 496) (by decide +kernel), by decide +kernel⟩, ⟨List.mem_of_getElem? (i := 497) (by decide +kernel), by decide +kernel⟩, by decide +kernel, by decide⟩
def M_TB_crossmatch : ev_M := (⟨"TypedBlood", "crossmatch", "(IIZ)V"⟩, prog_1_method_12_code, 6, none, [], 5)
theorem mc_TB_crossmatch : mcw M_TB_crossmatch := ⟨Or.inr ⟨rfl, ⟨List.mem_of_getElem? (i := 506) (by decide +kernel), by decide +kernel⟩⟩, ⟨List.mem_of_getElem? (i := 32) (by decide +kernel), by decide +kernel⟩, by decide +kernel, by decide +kernel, by decide +kernel, by decide⟩
theorem v_TB_crossmatch : vtM M_TB_crossmatch 3 := ⟨mc_TB_crossmatch, ⟨List.mem_of_getElem? (i := 504) (by decide +kernel), by decide +kernel⟩, ⟨List.mem_of_getElem? (i := 505) (by decide +kernel), by decide +kernel⟩, by decide +kernel, by decide⟩
def M_TB_reserve : ev_M := (⟨"TypedBlood", "reserve", "(II)I"⟩, prog_1_method_13_code, 5, some (.int), [], 5)
theorem mc_TB_reserve : mcw M_TB_reserve := ⟨Or.inr ⟨rfl, ⟨List.mem_of_getElem? (i := 523) (by decide +kernel), by decide +kernel⟩⟩, ⟨List.mem_of_getElem? (i := 32) (by decide +kernel), by decide +kernel⟩, by decide +kernel, by decide +kernel, by decide +kernel, by decide⟩
theorem v_TB_reserve : vtM M_TB_reserve 2 := ⟨mc_TB_reserve, ⟨List.mem_of_getElem? (i := 521) (by decide +kernel), by decide +kernel⟩, ⟨List.mem_of_getElem? (i := 522) (by decide +kernel), by decide +kernel⟩, by decide +kernel, by decide⟩
def M_TB_release : ev_M := (⟨"TypedBlood", "release", "(I)I"⟩, prog_1_method_14_code, 4, some (.int), [], 5)
theorem mc_TB_release : mcw M_TB_release := ⟨Or.inr ⟨rfl, ⟨List.mem_of_getElem? (i := 558) (by decide +kernel), by decide +kernel⟩⟩, ⟨List.mem_of_getElem? (i := 32) (by decide +kernel), by decide +kernel⟩, by decide +kernel, by decide +kernel, by decide +kernel, by decide⟩
theorem v_TB_release : vtM M_TB_release 1 := ⟨mc_TB_release, ⟨List.mem_of_getElem? (i := 556) (by decide +kernel), by decide +kernel⟩, ⟨List.mem_of_getElem? (i := 557) (by decide +kernel), by decide +kernel⟩, by decide +kernel, by decide⟩
def M_TB_issue : ev_M := (⟨"TypedBlood", "issue", "(II)I"⟩, prog_1_method_15_code, 5, some (.int), [], 5)
theorem mc_TB_issue : mcw M_TB_issue := ⟨Or.inr ⟨rfl, ⟨List.mem_of_getElem? (i := 567) (by decide +kernel), by decide +kernel⟩⟩, ⟨List.mem_of_getElem? (i := 32) (by decide +kernel), by decide +kernel⟩, by decide +kernel, by decide +kernel, by decide +kernel, by decide⟩
theorem v_TB_issue : vtM M_TB_issue 2 := ⟨mc_TB_issue, ⟨List.mem_of_getElem? (i := 565) (by decide +kernel), by decide +kernel⟩, ⟨List.mem_of_getElem? (i := 566) (by decide +kernel), by decide +kernel⟩, by decide +kernel, by decide⟩
def M_TB_emergency : ev_M := (⟨"TypedBlood", "emergency", "(III)I"⟩, prog_1_method_16_code, 6, some (.int), [], 5)
theorem mc_TB_emergency : mcw M_TB_emergency := ⟨Or.inr ⟨rfl, ⟨List.mem_of_getElem? (i := 595) (by decide +kernel), by decide +kernel⟩⟩, ⟨List.mem_of_getElem? (i := 32) (by decide +kernel), by decide +kernel⟩, by decide +kernel, by decide +kernel, by decide +kernel, by decide⟩
theorem v_TB_emergency : vtM M_TB_emergency 3 := ⟨mc_TB_emergency, ⟨List.mem_of_getElem? (i := 593) (by decide +kernel), by decide +kernel⟩, ⟨List.mem_of_getElem? (i := 594) (by decide +kernel), by decide +kernel⟩, by decide +kernel, by decide⟩
def M_TB_giveBack : ev_M := (⟨"TypedBlood", "giveBack", "(I)I"⟩, prog_1_method_17_code, 4, some (.int), [], 5)
theorem mc_TB_giveBack : mcw M_TB_giveBack := ⟨Or.inr ⟨rfl, ⟨List.mem_of_getElem? (i := 608) (by decide +kernel), by decide +kernel⟩⟩, ⟨List.mem_of_getElem? (i := 32) (by decide +kernel), by decide +kernel⟩, by decide +kernel, by decide +kernel, by decide +kernel, by decide⟩
theorem v_TB_giveBack : vtM M_TB_giveBack 1 := ⟨mc_TB_giveBack, ⟨List.mem_of_getElem? (i := 606) (by decide +kernel), by decide +kernel⟩, ⟨List.mem_of_getElem? (i := 607) (by decide +kernel), by decide +kernel⟩, by decide +kernel, by decide⟩
def M_TB_transfused : ev_M := (⟨"TypedBlood", "transfused", "(I)I"⟩, prog_1_method_18_code, 3, some (.int), [], 5)
theorem mc_TB_transfused : mcw M_TB_transfused := ⟨Or.inr ⟨rfl, ⟨List.mem_of_getElem? (i := 616) (by decide +kernel), by decide +kernel⟩⟩, ⟨List.mem_of_getElem? (i := 32) (by decide +kernel), by decide +kernel⟩, by decide +kernel, by decide +kernel, by decide +kernel, by decide⟩
theorem v_TB_transfused : vtM M_TB_transfused 1 := ⟨mc_TB_transfused, ⟨List.mem_of_getElem? (i := 614) (by decide +kernel), by decide +kernel⟩, ⟨List.mem_of_getElem? (i := 615) (by decide +kernel), by decide +kernel⟩, by decide +kernel, by decide⟩
def M_TB_discard : ev_M := (⟨"TypedBlood", "discard", "(II)I"⟩, prog_1_method_19_code, 5, some (.int), [], 5)
theorem mc_TB_discard : mcw M_TB_discard := ⟨Or.inr ⟨rfl, ⟨List.mem_of_getElem? (i := 624) (by decide +kernel), by decide +kernel⟩⟩, ⟨List.mem_of_getElem? (i := 32) (by decide +kernel), by decide +kernel⟩, by decide +kernel, by decide +kernel, by decide +kernel, by decide⟩
theorem v_TB_discard : vtM M_TB_discard 2 := ⟨mc_TB_discard, ⟨List.mem_of_getElem? (i := 622) (by decide +kernel), by decide +kernel⟩, ⟨List.mem_of_getElem? (i := 623) (by decide +kernel), by decide +kernel⟩, by decide +kernel, by decide⟩
def M_TB_quarantine : ev_M := (⟨"TypedBlood", "quarantine", "(IZ)I"⟩, prog_1_method_20_code, 6, some (.int), [], 4)
theorem mc_TB_quarantine : mcw M_TB_quarantine := ⟨Or.inr ⟨rfl, ⟨List.mem_of_getElem? (i := 637) (by decide +kernel), by decide +kernel⟩⟩, ⟨List.mem_of_getElem? (i := 32) (by decide +kernel), by decide +kernel⟩, by decide +kernel, by decide +kernel, by decide +kernel, by decide⟩
theorem v_TB_quarantine : vtM M_TB_quarantine 2 := ⟨mc_TB_quarantine, ⟨List.mem_of_getElem? (i := 635) (by decide +kernel), by decide +kernel⟩, ⟨List.mem_of_getElem? (i := 636) (by decide +kernel), by decide +kernel⟩, by decide +kernel, by decide⟩
def M_TB_of : ev_M := (⟨"TypedBlood", "of", "(II)I"⟩, prog_1_method_21_code, 4, some (.int), [], 5)
theorem mc_TB_of : mcw M_TB_of := ⟨Or.inr ⟨rfl, ⟨List.mem_of_getElem? (i := 646) (by decide +kernel), by decide +kernel⟩⟩, ⟨List.mem_of_getElem? (i := 32) (by decide +kernel), by decide +kernel⟩, by decide +kernel, by decide +kernel, by decide +kernel, by decide⟩
theorem v_TB_of : vtM M_TB_of 2 := ⟨mc_TB_of, ⟨List.mem_of_getElem? (i := 644) (by decide +kernel), by decide +kernel⟩, ⟨List.mem_of_getElem? (i := 645) (by decide +kernel), by decide +kernel⟩, by decide +kernel, by decide⟩
def M_TB_has : ev_M := (⟨"TypedBlood", "has", "(II)I"⟩, prog_1_method_22_code, 4, some (.int), [], 5)
theorem mc_TB_has : mcw M_TB_has := ⟨Or.inr ⟨rfl, ⟨List.mem_of_getElem? (i := 669) (by decide +kernel), by decide +kernel⟩⟩, ⟨List.mem_of_getElem? (i := 32) (by decide +kernel), by decide +kernel⟩, by decide +kernel, by decide +kernel, by decide +kernel, by decide⟩
theorem v_TB_has : vtM M_TB_has 2 := ⟨mc_TB_has, ⟨List.mem_of_getElem? (i := 667) (by decide +kernel), by decide +kernel⟩, ⟨List.mem_of_getElem? (i := 668) (by decide +kernel), by decide +kernel⟩, by decide +kernel, by decide⟩
def M_TB_who : ev_M := (⟨"TypedBlood", "who", "(II)I"⟩, prog_1_method_23_code, 4, some (.int), [], 5)
theorem mc_TB_who : mcw M_TB_who := ⟨Or.inr ⟨rfl, ⟨List.mem_of_getElem? (i := 680) (by decide +kernel), by decide +kernel⟩⟩, ⟨List.mem_of_getElem? (i := 32) (by decide +kernel), by decide +kernel⟩, by decide +kernel, by decide +kernel, by decide +kernel, by decide⟩
theorem v_TB_who : vtM M_TB_who 2 := ⟨mc_TB_who, ⟨List.mem_of_getElem? (i := 678) (by decide +kernel), by decide +kernel⟩, ⟨List.mem_of_getElem? (i := 679) (by decide +kernel), by decide +kernel⟩, by decide +kernel, by decide⟩
def M_TB_why : ev_M := (⟨"TypedBlood", "why", "(II)I"⟩, prog_1_method_24_code, 5, some (.int), [], 5)
theorem mc_TB_why : mcw M_TB_why := ⟨Or.inr ⟨rfl, ⟨List.mem_of_getElem? (i := 687) (by decide +kernel), by decide +kernel⟩⟩, ⟨List.mem_of_getElem? (i := 32) (by decide +kernel), by decide +kernel⟩, by decide +kernel, by decide +kernel, by decide +kernel, by decide⟩
theorem v_TB_why : vtM M_TB_why 2 := ⟨mc_TB_why, ⟨List.mem_of_getElem? (i := 685) (by decide +kernel), by decide +kernel⟩, ⟨List.mem_of_getElem? (i := 686) (by decide +kernel), by decide +kernel⟩, by decide +kernel, by decide⟩
def M_TB_offer : ev_M := (⟨"TypedBlood", "offer", "(III)I"⟩, prog_1_method_25_code, 7, some (.int), [], 5)
theorem mc_TB_offer : mcw M_TB_offer := ⟨Or.inr ⟨rfl, ⟨List.mem_of_getElem? (i := 694) (by decide +kernel), by decide +kernel⟩⟩, ⟨List.mem_of_getElem? (i := 32) (by decide +kernel), by decide +kernel⟩, by decide +kernel, by decide +kernel, by decide +kernel, by decide⟩
theorem v_TB_offer : vtM M_TB_offer 3 := ⟨mc_TB_offer, ⟨List.mem_of_getElem? (i := 692) (by decide +kernel), by decide +kernel⟩, ⟨List.mem_of_getElem? (i := 693) (by decide +kernel), by decide +kernel⟩, by decide +kernel, by decide⟩
def M_TB_stock : ev_M := (⟨"TypedBlood", "stock", "(III)I"⟩, prog_1_method_26_code, 9, some (.int), [], 4)
theorem mc_TB_stock : mcw M_TB_stock := ⟨Or.inr ⟨rfl, ⟨List.mem_of_getElem? (i := 714) (by decide +kernel), by decide +kernel⟩⟩, ⟨List.mem_of_getElem? (i := 32) (by decide +kernel), by decide +kernel⟩, by decide +kernel, by decide +kernel, by decide +kernel, by decide⟩
theorem v_TB_stock : vtM M_TB_stock 3 := ⟨mc_TB_stock, ⟨List.mem_of_getElem? (i := 712) (by decide +kernel), by decide +kernel⟩, ⟨List.mem_of_getElem? (i := 713) (by decide +kernel), by decide +kernel⟩, by decide +kernel, by decide⟩
def M_TB_expiring : ev_M := (⟨"TypedBlood", "expiring", "(II)I"⟩, prog_1_method_27_code, 5, some (.int), [], 4)
theorem mc_TB_expiring : mcw M_TB_expiring := ⟨Or.inr ⟨rfl, ⟨List.mem_of_getElem? (i := 722) (by decide +kernel), by decide +kernel⟩⟩, ⟨List.mem_of_getElem? (i := 32) (by decide +kernel), by decide +kernel⟩, by decide +kernel, by decide +kernel, by decide +kernel, by decide⟩
theorem v_TB_expiring : vtM M_TB_expiring 2 := ⟨mc_TB_expiring, ⟨List.mem_of_getElem? (i := 720) (by decide +kernel), by decide +kernel⟩, ⟨List.mem_of_getElem? (i := 721) (by decide +kernel), by decide +kernel⟩, by decide +kernel, by decide⟩
def M_TB_lookback : ev_M := (⟨"TypedBlood", "lookback", "(II)I"⟩, prog_1_method_28_code, 5, some (.int), [], 4)
theorem mc_TB_lookback : mcw M_TB_lookback := ⟨Or.inr ⟨rfl, ⟨List.mem_of_getElem? (i := 730) (by decide +kernel), by decide +kernel⟩⟩, ⟨List.mem_of_getElem? (i := 32) (by decide +kernel), by decide +kernel⟩, by decide +kernel, by decide +kernel, by decide +kernel, by decide⟩
theorem v_TB_lookback : vtM M_TB_lookback 2 := ⟨mc_TB_lookback, ⟨List.mem_of_getElem? (i := 728) (by decide +kernel), by decide +kernel⟩, ⟨List.mem_of_getElem? (i := 729) (by decide +kernel), by decide +kernel⟩, by decide +kernel, by decide⟩
def M_TB_received : ev_M := (⟨"TypedBlood", "received", "(II)I"⟩, prog_1_method_29_code, 4, some (.int), [], 5)
theorem mc_TB_received : mcw M_TB_received := ⟨Or.inr ⟨rfl, ⟨List.mem_of_getElem? (i := 741) (by decide +kernel), by decide +kernel⟩⟩, ⟨List.mem_of_getElem? (i := 32) (by decide +kernel), by decide +kernel⟩, by decide +kernel, by decide +kernel, by decide +kernel, by decide⟩
theorem v_TB_received : vtM M_TB_received 2 := ⟨mc_TB_received, ⟨List.mem_of_getElem? (i := 739) (by decide +kernel), by decide +kernel⟩, ⟨List.mem_of_getElem? (i := 740) (by decide +kernel), by decide +kernel⟩, by decide +kernel, by decide⟩
def M_TB_count : ev_M := (⟨"TypedBlood", "count", "(II)I"⟩, prog_1_method_30_code, 5, some (.int), [], 4)
theorem mc_TB_count : mcw M_TB_count := ⟨Or.inr ⟨rfl, ⟨List.mem_of_getElem? (i := 748) (by decide +kernel), by decide +kernel⟩⟩, ⟨List.mem_of_getElem? (i := 32) (by decide +kernel), by decide +kernel⟩, by decide +kernel, by decide +kernel, by decide +kernel, by decide⟩
theorem v_TB_count : vtM M_TB_count 2 := ⟨mc_TB_count, ⟨List.mem_of_getElem? (i := 746) (by decide +kernel), by decide +kernel⟩, ⟨List.mem_of_getElem? (i := 747) (by decide +kernel), by decide +kernel⟩, by decide +kernel, by decide⟩
def M_TB_isBelow : ev_M := (⟨"TypedBlood", "isBelow", "(II)Z"⟩, prog_1_method_31_code, 2, some (.boolean), [], 0)
theorem mc_TB_isBelow : mcw M_TB_isBelow := ⟨Or.inr ⟨rfl, ⟨List.mem_of_getElem? (i := 199) (by decide +kernel), by decide +kernel⟩⟩, ⟨List.mem_of_getElem? (i := 32) (by decide +kernel), by decide +kernel⟩, by decide +kernel, by decide +kernel, by decide +kernel, by decide⟩
theorem s_TB_isBelow : stM M_TB_isBelow 2 := ⟨mc_TB_isBelow, ⟨List.mem_of_getElem? (i := 198) (by decide +kernel), by decide +kernel⟩, by decide +kernel, by decide⟩
def M_TB_isBloodType : ev_M := (⟨"TypedBlood", "isBloodType", "(II)Z"⟩, prog_1_method_32_code, 2, some (.boolean), [], 1)
theorem mc_TB_isBloodType : mcw M_TB_isBloodType := ⟨Or.inr ⟨rfl, ⟨List.mem_of_getElem? (i := 202) (by decide +kernel), by decide +kernel⟩⟩, ⟨List.mem_of_getElem? (i := 32) (by decide +kernel), by decide +kernel⟩, by decide +kernel, by decide +kernel, by decide +kernel, by decide⟩
theorem s_TB_isBloodType : stM M_TB_isBloodType 2 := ⟨mc_TB_isBloodType, ⟨List.mem_of_getElem? (i := 201) (by decide +kernel), by decide +kernel⟩, by decide +kernel, by decide⟩
def M_TB_unitAt : ev_M := (⟨"TypedBlood", "unitAt", "(I)LTypedBlood$Unit;"⟩, prog_1_method_33_code, 2, some (.object "TypedBlood$Unit"), [], 4)
theorem mc_TB_unitAt : mcw M_TB_unitAt := ⟨Or.inr ⟨rfl, ⟨List.mem_of_getElem? (i := 311) (by decide +kernel), by decide +kernel⟩⟩, ⟨List.mem_of_getElem? (i := 32) (by decide +kernel), by decide +kernel⟩, by decide +kernel, by decide +kernel, by decide +kernel, by decide⟩
theorem v_TB_unitAt : vtM M_TB_unitAt 1 := ⟨mc_TB_unitAt, ⟨List.mem_of_getElem? (i := 310) (by decide +kernel), by decide +kernel⟩, ⟨List.mem_of_getElem? (i := 3) (by decide +kernel), by decide +kernel⟩, by decide +kernel, by decide⟩
def M_TB_patientAt : ev_M := (⟨"TypedBlood", "patientAt", "(I)LTypedBlood$Patient;"⟩, prog_1_method_34_code, 2, some (.object "TypedBlood$Patient"), [], 4)
theorem mc_TB_patientAt : mcw M_TB_patientAt := ⟨Or.inr ⟨rfl, ⟨List.mem_of_getElem? (i := 458) (by decide +kernel), by decide +kernel⟩⟩, ⟨List.mem_of_getElem? (i := 32) (by decide +kernel), by decide +kernel⟩, by decide +kernel, by decide +kernel, by decide +kernel, by decide⟩
theorem v_TB_patientAt : vtM M_TB_patientAt 1 := ⟨mc_TB_patientAt, ⟨List.mem_of_getElem? (i := 457) (by decide +kernel), by decide +kernel⟩, ⟨List.mem_of_getElem? (i := 9) (by decide +kernel), by decide +kernel⟩, by decide +kernel, by decide⟩
def M_TB_hasRoomFor : ev_M := (⟨"TypedBlood", "hasRoomFor", "(I)Z"⟩, prog_1_method_35_code, 2, some (.boolean), [], 0)
theorem mc_TB_hasRoomFor : mcw M_TB_hasRoomFor := ⟨Or.inr ⟨rfl, ⟨List.mem_of_getElem? (i := 209) (by decide +kernel), by decide +kernel⟩⟩, ⟨List.mem_of_getElem? (i := 32) (by decide +kernel), by decide +kernel⟩, by decide +kernel, by decide +kernel, by decide +kernel, by decide⟩
theorem v_TB_hasRoomFor : vtM M_TB_hasRoomFor 1 := ⟨mc_TB_hasRoomFor, ⟨List.mem_of_getElem? (i := 208) (by decide +kernel), by decide +kernel⟩, ⟨List.mem_of_getElem? (i := 1) (by decide +kernel), by decide +kernel⟩, by decide +kernel, by decide⟩
def M_TB_isReady : ev_M := (⟨"TypedBlood", "isReady", "(LTypedBlood$Unit;)Z"⟩, prog_1_method_36_code, 2, some (.boolean), [], 2)
theorem mc_TB_isReady : mcw M_TB_isReady := ⟨Or.inr ⟨rfl, ⟨List.mem_of_getElem? (i := 346) (by decide +kernel), by decide +kernel⟩⟩, ⟨List.mem_of_getElem? (i := 32) (by decide +kernel), by decide +kernel⟩, by decide +kernel, by decide +kernel, by decide +kernel, by decide⟩
theorem v_TB_isReady : vtM M_TB_isReady 1 := ⟨mc_TB_isReady, ⟨List.mem_of_getElem? (i := 345) (by decide +kernel), by decide +kernel⟩, ⟨List.mem_of_getElem? (i := 4) (by decide +kernel), by decide +kernel⟩, by decide +kernel, by decide⟩
def M_TB_isUsable : ev_M := (⟨"TypedBlood", "isUsable", "(LTypedBlood$Unit;)Z"⟩, prog_1_method_37_code, 2, some (.boolean), [], 1)
theorem mc_TB_isUsable : mcw M_TB_isUsable := ⟨Or.inr ⟨rfl, ⟨List.mem_of_getElem? (i := 350) (by decide +kernel), by decide +kernel⟩⟩, ⟨List.mem_of_getElem? (i := 32) (by decide +kernel), by decide +kernel⟩, by decide +kernel, by decide +kernel, by decide +kernel, by decide⟩
theorem v_TB_isUsable : vtM M_TB_isUsable 1 := ⟨mc_TB_isUsable, ⟨List.mem_of_getElem? (i := 349) (by decide +kernel), by decide +kernel⟩, ⟨List.mem_of_getElem? (i := 5) (by decide +kernel), by decide +kernel⟩, by decide +kernel, by decide⟩
def M_TB_mayLeaveFor : ev_M := (⟨"TypedBlood", "mayLeaveFor", "(ILTypedBlood$Unit;)Z"⟩, prog_1_method_38_code, 4, some (.boolean), [], 2)
theorem mc_TB_mayLeaveFor : mcw M_TB_mayLeaveFor := ⟨Or.inr ⟨rfl, ⟨List.mem_of_getElem? (i := 571) (by decide +kernel), by decide +kernel⟩⟩, ⟨List.mem_of_getElem? (i := 32) (by decide +kernel), by decide +kernel⟩, by decide +kernel, by decide +kernel, by decide +kernel, by decide⟩
theorem v_TB_mayLeaveFor : vtM M_TB_mayLeaveFor 2 := ⟨mc_TB_mayLeaveFor, ⟨List.mem_of_getElem? (i := 570) (by decide +kernel), by decide +kernel⟩, ⟨List.mem_of_getElem? (i := 11) (by decide +kernel), by decide +kernel⟩, by decide +kernel, by decide⟩
def M_TB_isCleared : ev_M := (⟨"TypedBlood", "isCleared", "(LTypedBlood$Patient;LTypedBlood$Unit;I)Z"⟩, prog_1_method_39_code, 5, some (.boolean), [], 3)
theorem mc_TB_isCleared : mcw M_TB_isCleared := ⟨Or.inr ⟨rfl, ⟨List.mem_of_getElem? (i := 528) (by decide +kernel), by decide +kernel⟩⟩, ⟨List.mem_of_getElem? (i := 32) (by decide +kernel), by decide +kernel⟩, by decide +kernel, by decide +kernel, by decide +kernel, by decide⟩
theorem v_TB_isCleared : vtM M_TB_isCleared 3 := ⟨mc_TB_isCleared, ⟨List.mem_of_getElem? (i := 527) (by decide +kernel), by decide +kernel⟩, ⟨List.mem_of_getElem? (i := 10) (by decide +kernel), by decide +kernel⟩, by decide +kernel, by decide⟩
def M_TB_handOver : ev_M := (⟨"TypedBlood", "handOver", "(LTypedBlood$Unit;II)I"⟩, prog_1_method_40_code, 6, some (.int), [], 1)
theorem mc_TB_handOver : mcw M_TB_handOver := ⟨Or.inr ⟨rfl, ⟨List.mem_of_getElem? (i := 580) (by decide +kernel), by decide +kernel⟩⟩, ⟨List.mem_of_getElem? (i := 32) (by decide +kernel), by decide +kernel⟩, by decide +kernel, by decide +kernel, by decide +kernel, by decide⟩
theorem v_TB_handOver : vtM M_TB_handOver 3 := ⟨mc_TB_handOver, ⟨List.mem_of_getElem? (i := 579) (by decide +kernel), by decide +kernel⟩, ⟨List.mem_of_getElem? (i := 12) (by decide +kernel), by decide +kernel⟩, by decide +kernel, by decide⟩
def M_TB_firstIssue : ev_M := (⟨"TypedBlood", "firstIssue", "(II)I"⟩, prog_1_method_41_code, 6, some (.int), [], 1)
theorem mc_TB_firstIssue : mcw M_TB_firstIssue := ⟨Or.inr ⟨rfl, ⟨List.mem_of_getElem? (i := 734) (by decide +kernel), by decide +kernel⟩⟩, ⟨List.mem_of_getElem? (i := 32) (by decide +kernel), by decide +kernel⟩, by decide +kernel, by decide +kernel, by decide +kernel, by decide⟩
theorem v_TB_firstIssue : vtM M_TB_firstIssue 2 := ⟨mc_TB_firstIssue, ⟨List.mem_of_getElem? (i := 733) (by decide +kernel), by decide +kernel⟩, ⟨List.mem_of_getElem? (i := 13) (by decide +kernel), by decide +kernel⟩, by decide +kernel, by decide⟩
def M_TB_suits : ev_M := (⟨"TypedBlood", "suits", "(II)Z"⟩, prog_1_method_42_code, 2, some (.boolean), [], 0)
theorem mc_TB_suits : mcw M_TB_suits := ⟨Or.inr ⟨rfl, ⟨List.mem_of_getElem? (i := 362) (by decide +kernel), by decide +kernel⟩⟩, ⟨List.mem_of_getElem? (i := 32) (by decide +kernel), by decide +kernel⟩, by decide +kernel, by decide +kernel, by decide +kernel, by decide⟩
theorem s_TB_suits : stM M_TB_suits 2 := ⟨mc_TB_suits, ⟨List.mem_of_getElem? (i := 361) (by decide +kernel), by decide +kernel⟩, by decide +kernel, by decide⟩
def M_TB_keepSplitProducts : ev_M := (⟨"TypedBlood", "keepSplitProducts", "(LTypedBlood$Unit;)I"⟩, prog_1_method_43_code, 3, some (.int), [], 2)
theorem mc_TB_keepSplitProducts : mcw M_TB_keepSplitProducts := ⟨Or.inr ⟨rfl, ⟨List.mem_of_getElem? (i := 382) (by decide +kernel), by decide +kernel⟩⟩, ⟨List.mem_of_getElem? (i := 32) (by decide +kernel), by decide +kernel⟩, by decide +kernel, by decide +kernel, by decide +kernel, by decide⟩
theorem v_TB_keepSplitProducts : vtM M_TB_keepSplitProducts 1 := ⟨mc_TB_keepSplitProducts, ⟨List.mem_of_getElem? (i := 381) (by decide +kernel), by decide +kernel⟩, ⟨List.mem_of_getElem? (i := 6) (by decide +kernel), by decide +kernel⟩, by decide +kernel, by decide⟩
def M_TB_keepProduct : ev_M := (⟨"TypedBlood", "keepProduct", "(LTypedBlood$Unit;III)I"⟩, prog_1_method_44_code, 7, some (.int), [], 1)
theorem mc_TB_keepProduct : mcw M_TB_keepProduct := ⟨Or.inr ⟨rfl, ⟨List.mem_of_getElem? (i := 386) (by decide +kernel), by decide +kernel⟩⟩, ⟨List.mem_of_getElem? (i := 32) (by decide +kernel), by decide +kernel⟩, by decide +kernel, by decide +kernel, by decide +kernel, by decide⟩
theorem v_TB_keepProduct : vtM M_TB_keepProduct 4 := ⟨mc_TB_keepProduct, ⟨List.mem_of_getElem? (i := 385) (by decide +kernel), by decide +kernel⟩, ⟨List.mem_of_getElem? (i := 7) (by decide +kernel), by decide +kernel⟩, by decide +kernel, by decide⟩
def M_TB_keepPooled : ev_M := (⟨"TypedBlood", "keepPooled", "(LTypedBlood$Unit;LTypedBlood$Unit;)I"⟩, prog_1_method_45_code, 5, some (.int), [], 1)
theorem mc_TB_keepPooled : mcw M_TB_keepPooled := ⟨Or.inr ⟨rfl, ⟨List.mem_of_getElem? (i := 407) (by decide +kernel), by decide +kernel⟩⟩, ⟨List.mem_of_getElem? (i := 32) (by decide +kernel), by decide +kernel⟩, by decide +kernel, by decide +kernel, by decide +kernel, by decide⟩
theorem v_TB_keepPooled : vtM M_TB_keepPooled 2 := ⟨mc_TB_keepPooled, ⟨List.mem_of_getElem? (i := 406) (by decide +kernel), by decide +kernel⟩, ⟨List.mem_of_getElem? (i := 8) (by decide +kernel), by decide +kernel⟩, by decide +kernel, by decide⟩
def M_TB_keep : ev_M := (⟨"TypedBlood", "keep", "(LTypedBlood$Unit;)I"⟩, prog_1_method_46_code, 2, some (.int), [], 0)
theorem mc_TB_keep : mcw M_TB_keep := ⟨Or.inr ⟨rfl, ⟨List.mem_of_getElem? (i := 299) (by decide +kernel), by decide +kernel⟩⟩, ⟨List.mem_of_getElem? (i := 32) (by decide +kernel), by decide +kernel⟩, by decide +kernel, by decide +kernel, by decide +kernel, by decide⟩
theorem v_TB_keep : vtM M_TB_keep 1 := ⟨mc_TB_keep, ⟨List.mem_of_getElem? (i := 298) (by decide +kernel), by decide +kernel⟩, ⟨List.mem_of_getElem? (i := 2) (by decide +kernel), by decide +kernel⟩, by decide +kernel, by decide⟩
def M_UN_init : ev_M := (⟨"TypedBlood$Unit", "<init>", "(IIIII)V"⟩, prog_5_method_1_code, 6, none, [], 0)
theorem mc_UN_init : mcw M_UN_init := ⟨Or.inr ⟨rfl, ⟨List.mem_of_getElem? (i := 229) (by decide +kernel), by decide +kernel⟩⟩, ⟨List.mem_of_getElem? (i := 40) (by decide +kernel), by decide +kernel⟩, by decide +kernel, by decide +kernel, by decide +kernel, by decide⟩
theorem i_UN_init : itM M_UN_init 5 := ⟨mc_UN_init, ⟨List.mem_of_getElem? (i := 228) (by decide +kernel), by decide +kernel⟩, ⟨List.mem_of_getElem? (i := 229) (by decide +kernel), by decide +kernel⟩, rfl, by decide +kernel, by decide⟩
def M_UN_isExpired : ev_M := (⟨"TypedBlood$Unit", "isExpired", "(I)Z"⟩, prog_5_method_2_code, 2, some (.boolean), [], 0)
theorem mc_UN_isExpired : mcw M_UN_isExpired := ⟨Or.inr ⟨rfl, ⟨List.mem_of_getElem? (i := 354) (by decide +kernel), by decide +kernel⟩⟩, ⟨List.mem_of_getElem? (i := 40) (by decide +kernel), by decide +kernel⟩, by decide +kernel, by decide +kernel, by decide +kernel, by decide⟩
theorem v_UN_isExpired : vtM M_UN_isExpired 1 := ⟨mc_UN_isExpired, ⟨List.mem_of_getElem? (i := 352) (by decide +kernel), by decide +kernel⟩, ⟨List.mem_of_getElem? (i := 353) (by decide +kernel), by decide +kernel⟩, by decide +kernel, by decide⟩
def M_UN_isBarred : ev_M := (⟨"TypedBlood$Unit", "isBarred", "(I)Z"⟩, prog_5_method_3_code, 2, some (.boolean), [], 0)
theorem mc_UN_isBarred : mcw M_UN_isBarred := ⟨Or.inr ⟨rfl, ⟨List.mem_of_getElem? (i := 358) (by decide +kernel), by decide +kernel⟩⟩, ⟨List.mem_of_getElem? (i := 40) (by decide +kernel), by decide +kernel⟩, by decide +kernel, by decide +kernel, by decide +kernel, by decide⟩
theorem v_UN_isBarred : vtM M_UN_isBarred 1 := ⟨mc_UN_isBarred, ⟨List.mem_of_getElem? (i := 356) (by decide +kernel), by decide +kernel⟩, ⟨List.mem_of_getElem? (i := 357) (by decide +kernel), by decide +kernel⟩, by decide +kernel, by decide⟩
def M_UN_isInHouse : ev_M := (⟨"TypedBlood$Unit", "isInHouse", "()Z"⟩, prog_5_method_4_code, 1, some (.boolean), [], 0)
theorem mc_UN_isInHouse : mcw M_UN_isInHouse := ⟨Or.inr ⟨rfl, ⟨List.mem_of_getElem? (i := 510) (by decide +kernel), by decide +kernel⟩⟩, ⟨List.mem_of_getElem? (i := 40) (by decide +kernel), by decide +kernel⟩, by decide +kernel, by decide +kernel, by decide +kernel, by decide⟩
theorem v_UN_isInHouse : vtM M_UN_isInHouse 0 := ⟨mc_UN_isInHouse, ⟨List.mem_of_getElem? (i := 508) (by decide +kernel), by decide +kernel⟩, ⟨List.mem_of_getElem? (i := 509) (by decide +kernel), by decide +kernel⟩, by decide +kernel, by decide⟩
def M_UN_isForEmergencies : ev_M := (⟨"TypedBlood$Unit", "isForEmergencies", "()Z"⟩, prog_5_method_5_code, 1, some (.boolean), [], 0)
theorem mc_UN_isForEmergencies : mcw M_UN_isForEmergencies := ⟨Or.inr ⟨rfl, ⟨List.mem_of_getElem? (i := 600) (by decide +kernel), by decide +kernel⟩⟩, ⟨List.mem_of_getElem? (i := 40) (by decide +kernel), by decide +kernel⟩, by decide +kernel, by decide +kernel, by decide +kernel, by decide⟩
theorem v_UN_isForEmergencies : vtM M_UN_isForEmergencies 0 := ⟨mc_UN_isForEmergencies, ⟨List.mem_of_getElem? (i := 598) (by decide +kernel), by decide +kernel⟩, ⟨List.mem_of_getElem? (i := 599) (by decide +kernel), by decide +kernel⟩, by decide +kernel, by decide⟩
def M_UN_wentTo : ev_M := (⟨"TypedBlood$Unit", "wentTo", "(I)Z"⟩, prog_5_method_6_code, 2, some (.boolean), [], 0)
theorem mc_UN_wentTo : mcw M_UN_wentTo := ⟨Or.inr ⟨rfl, ⟨List.mem_of_getElem? (i := 588) (by decide +kernel), by decide +kernel⟩⟩, ⟨List.mem_of_getElem? (i := 40) (by decide +kernel), by decide +kernel⟩, by decide +kernel, by decide +kernel, by decide +kernel, by decide⟩
theorem v_UN_wentTo : vtM M_UN_wentTo 1 := ⟨mc_UN_wentTo, ⟨List.mem_of_getElem? (i := 586) (by decide +kernel), by decide +kernel⟩, ⟨List.mem_of_getElem? (i := 587) (by decide +kernel), by decide +kernel⟩, by decide +kernel, by decide⟩
def M_UN_antigenValue : ev_M := (⟨"TypedBlood$Unit", "antigenValue", "(I)I"⟩, prog_5_method_7_code, 3, some (.int), [], 0)
theorem mc_UN_antigenValue : mcw M_UN_antigenValue := ⟨Or.inr ⟨rfl, ⟨List.mem_of_getElem? (i := 673) (by decide +kernel), by decide +kernel⟩⟩, ⟨List.mem_of_getElem? (i := 40) (by decide +kernel), by decide +kernel⟩, by decide +kernel, by decide +kernel, by decide +kernel, by decide⟩
theorem v_UN_antigenValue : vtM M_UN_antigenValue 1 := ⟨mc_UN_antigenValue, ⟨List.mem_of_getElem? (i := 671) (by decide +kernel), by decide +kernel⟩, ⟨List.mem_of_getElem? (i := 672) (by decide +kernel), by decide +kernel⟩, by decide +kernel, by decide⟩
def M_UN_setAntigen : ev_M := (⟨"TypedBlood$Unit", "setAntigen", "(II)V"⟩, prog_5_method_8_code, 4, none, [], 0)
theorem mc_UN_setAntigen : mcw M_UN_setAntigen := ⟨Or.inr ⟨rfl, ⟨List.mem_of_getElem? (i := 333) (by decide +kernel), by decide +kernel⟩⟩, ⟨List.mem_of_getElem? (i := 40) (by decide +kernel), by decide +kernel⟩, by decide +kernel, by decide +kernel, by decide +kernel, by decide⟩
theorem v_UN_setAntigen : vtM M_UN_setAntigen 2 := ⟨mc_UN_setAntigen, ⟨List.mem_of_getElem? (i := 331) (by decide +kernel), by decide +kernel⟩, ⟨List.mem_of_getElem? (i := 332) (by decide +kernel), by decide +kernel⟩, by decide +kernel, by decide⟩
def M_UN_reserveFor : ev_M := (⟨"TypedBlood$Unit", "reserveFor", "(II)V"⟩, prog_5_method_9_code, 3, none, [], 0)
theorem mc_UN_reserveFor : mcw M_UN_reserveFor := ⟨Or.inr ⟨rfl, ⟨List.mem_of_getElem? (i := 551) (by decide +kernel), by decide +kernel⟩⟩, ⟨List.mem_of_getElem? (i := 40) (by decide +kernel), by decide +kernel⟩, by decide +kernel, by decide +kernel, by decide +kernel, by decide⟩
theorem v_UN_reserveFor : vtM M_UN_reserveFor 2 := ⟨mc_UN_reserveFor, ⟨List.mem_of_getElem? (i := 549) (by decide +kernel), by decide +kernel⟩, ⟨List.mem_of_getElem? (i := 550) (by decide +kernel), by decide +kernel⟩, by decide +kernel, by decide⟩
def M_UN_endReservationWhenOver : ev_M := (⟨"TypedBlood$Unit", "endReservationWhenOver", "(I)V"⟩, prog_5_method_10_code, 2, none, [], 1)
theorem mc_UN_endReservationWhenOver : mcw M_UN_endReservationWhenOver := ⟨Or.inr ⟨rfl, ⟨List.mem_of_getElem? (i := 184) (by decide +kernel), by decide +kernel⟩⟩, ⟨List.mem_of_getElem? (i := 40) (by decide +kernel), by decide +kernel⟩, by decide +kernel, by decide +kernel, by decide +kernel, by decide⟩
theorem v_UN_endReservationWhenOver : vtM M_UN_endReservationWhenOver 1 := ⟨mc_UN_endReservationWhenOver, ⟨List.mem_of_getElem? (i := 182) (by decide +kernel), by decide +kernel⟩, ⟨List.mem_of_getElem? (i := 183) (by decide +kernel), by decide +kernel⟩, by decide +kernel, by decide⟩
def M_UN_store : ev_M := (⟨"TypedBlood$Unit", "store", "()V"⟩, prog_5_method_11_code, 1, none, [], 0)
theorem mc_UN_store : mcw M_UN_store := ⟨Or.inr ⟨rfl, ⟨List.mem_of_getElem? (i := 188) (by decide +kernel), by decide +kernel⟩⟩, ⟨List.mem_of_getElem? (i := 40) (by decide +kernel), by decide +kernel⟩, by decide +kernel, by decide +kernel, by decide +kernel, by decide⟩
theorem v_UN_store : vtM M_UN_store 0 := ⟨mc_UN_store, ⟨List.mem_of_getElem? (i := 186) (by decide +kernel), by decide +kernel⟩, ⟨List.mem_of_getElem? (i := 187) (by decide +kernel), by decide +kernel⟩, by decide +kernel, by decide⟩
def M_UN_issueTo : ev_M := (⟨"TypedBlood$Unit", "issueTo", "(IIII)V"⟩, prog_5_method_12_code, 5, none, [], 0)
theorem mc_UN_issueTo : mcw M_UN_issueTo := ⟨Or.inr ⟨rfl, ⟨List.mem_of_getElem? (i := 584) (by decide +kernel), by decide +kernel⟩⟩, ⟨List.mem_of_getElem? (i := 40) (by decide +kernel), by decide +kernel⟩, by decide +kernel, by decide +kernel, by decide +kernel, by decide⟩
theorem v_UN_issueTo : vtM M_UN_issueTo 4 := ⟨mc_UN_issueTo, ⟨List.mem_of_getElem? (i := 582) (by decide +kernel), by decide +kernel⟩, ⟨List.mem_of_getElem? (i := 583) (by decide +kernel), by decide +kernel⟩, by decide +kernel, by decide⟩
def M_UN_throwAway : ev_M := (⟨"TypedBlood$Unit", "throwAway", "(I)V"⟩, prog_5_method_13_code, 2, none, [], 0)
theorem mc_UN_throwAway : mcw M_UN_throwAway := ⟨Or.inr ⟨rfl, ⟨List.mem_of_getElem? (i := 630) (by decide +kernel), by decide +kernel⟩⟩, ⟨List.mem_of_getElem? (i := 40) (by decide +kernel), by decide +kernel⟩, by decide +kernel, by decide +kernel, by decide +kernel, by decide⟩
theorem v_UN_throwAway : vtM M_UN_throwAway 1 := ⟨mc_UN_throwAway, ⟨List.mem_of_getElem? (i := 628) (by decide +kernel), by decide +kernel⟩, ⟨List.mem_of_getElem? (i := 629) (by decide +kernel), by decide +kernel⟩, by decide +kernel, by decide⟩
def M_PA_init : ev_M := (⟨"TypedBlood$Patient", "<init>", "()V"⟩, prog_2_method_1_code, 2, none, [], 0)
theorem mc_PA_init : mcw M_PA_init := ⟨Or.inr ⟨rfl, ⟨List.mem_of_getElem? (i := 419) (by decide +kernel), by decide +kernel⟩⟩, ⟨List.mem_of_getElem? (i := 44) (by decide +kernel), by decide +kernel⟩, by decide +kernel, by decide +kernel, by decide +kernel, by decide⟩
theorem i_PA_init : itM M_PA_init 0 := ⟨mc_PA_init, ⟨List.mem_of_getElem? (i := 418) (by decide +kernel), by decide +kernel⟩, ⟨List.mem_of_getElem? (i := 419) (by decide +kernel), by decide +kernel⟩, rfl, by decide +kernel, by decide⟩
def M_PA_takeSample : ev_M := (⟨"TypedBlood$Patient", "takeSample", "(III)V"⟩, prog_2_method_2_code, 4, none, [], 0)
theorem mc_PA_takeSample : mcw M_PA_takeSample := ⟨Or.inr ⟨rfl, ⟨List.mem_of_getElem? (i := 465) (by decide +kernel), by decide +kernel⟩⟩, ⟨List.mem_of_getElem? (i := 44) (by decide +kernel), by decide +kernel⟩, by decide +kernel, by decide +kernel, by decide +kernel, by decide⟩
theorem v_PA_takeSample : vtM M_PA_takeSample 3 := ⟨mc_PA_takeSample, ⟨List.mem_of_getElem? (i := 463) (by decide +kernel), by decide +kernel⟩, ⟨List.mem_of_getElem? (i := 464) (by decide +kernel), by decide +kernel⟩, by decide +kernel, by decide⟩
def M_PA_confirm : ev_M := (⟨"TypedBlood$Patient", "confirm", "(II)V"⟩, prog_2_method_3_code, 3, none, [], 0)
theorem mc_PA_confirm : mcw M_PA_confirm := ⟨Or.inr ⟨rfl, ⟨List.mem_of_getElem? (i := 477) (by decide +kernel), by decide +kernel⟩⟩, ⟨List.mem_of_getElem? (i := 44) (by decide +kernel), by decide +kernel⟩, by decide +kernel, by decide +kernel, by decide +kernel, by decide⟩
theorem v_PA_confirm : vtM M_PA_confirm 2 := ⟨mc_PA_confirm, ⟨List.mem_of_getElem? (i := 475) (by decide +kernel), by decide +kernel⟩, ⟨List.mem_of_getElem? (i := 476) (by decide +kernel), by decide +kernel⟩, by decide +kernel, by decide⟩
def M_PA_hasFreshSample : ev_M := (⟨"TypedBlood$Patient", "hasFreshSample", "(I)Z"⟩, prog_2_method_4_code, 2, some (.boolean), [], 0)
theorem mc_PA_hasFreshSample : mcw M_PA_hasFreshSample := ⟨Or.inr ⟨rfl, ⟨List.mem_of_getElem? (i := 575) (by decide +kernel), by decide +kernel⟩⟩, ⟨List.mem_of_getElem? (i := 44) (by decide +kernel), by decide +kernel⟩, by decide +kernel, by decide +kernel, by decide +kernel, by decide⟩
theorem v_PA_hasFreshSample : vtM M_PA_hasFreshSample 1 := ⟨mc_PA_hasFreshSample, ⟨List.mem_of_getElem? (i := 573) (by decide +kernel), by decide +kernel⟩, ⟨List.mem_of_getElem? (i := 574) (by decide +kernel), by decide +kernel⟩, by decide +kernel, by decide⟩
def M_PA_noteCrossmatch : ev_M := (⟨"TypedBlood$Patient", "noteCrossmatch", "(II)V"⟩, prog_2_method_5_code, 3, none, [], 0)
theorem mc_PA_noteCrossmatch : mcw M_PA_noteCrossmatch := ⟨Or.inr ⟨rfl, ⟨List.mem_of_getElem? (i := 516) (by decide +kernel), by decide +kernel⟩⟩, ⟨List.mem_of_getElem? (i := 44) (by decide +kernel), by decide +kernel⟩, by decide +kernel, by decide +kernel, by decide +kernel, by decide⟩
theorem v_PA_noteCrossmatch : vtM M_PA_noteCrossmatch 2 := ⟨mc_PA_noteCrossmatch, ⟨List.mem_of_getElem? (i := 514) (by decide +kernel), by decide +kernel⟩, ⟨List.mem_of_getElem? (i := 515) (by decide +kernel), by decide +kernel⟩, by decide +kernel, by decide⟩
def M_PA_hasValidCrossmatch : ev_M := (⟨"TypedBlood$Patient", "hasValidCrossmatch", "(II)Z"⟩, prog_2_method_6_code, 3, some (.boolean), [], 0)
theorem mc_PA_hasValidCrossmatch : mcw M_PA_hasValidCrossmatch := ⟨Or.inr ⟨rfl, ⟨List.mem_of_getElem? (i := 532) (by decide +kernel), by decide +kernel⟩⟩, ⟨List.mem_of_getElem? (i := 44) (by decide +kernel), by decide +kernel⟩, by decide +kernel, by decide +kernel, by decide +kernel, by decide⟩
theorem v_PA_hasValidCrossmatch : vtM M_PA_hasValidCrossmatch 2 := ⟨mc_PA_hasValidCrossmatch, ⟨List.mem_of_getElem? (i := 530) (by decide +kernel), by decide +kernel⟩, ⟨List.mem_of_getElem? (i := 531) (by decide +kernel), by decide +kernel⟩, by decide +kernel, by decide⟩
def M_PA_groupOr : ev_M := (⟨"TypedBlood$Patient", "groupOr", "(I)I"⟩, prog_2_method_7_code, 2, some (.int), [], 0)
theorem mc_PA_groupOr : mcw M_PA_groupOr := ⟨Or.inr ⟨rfl, ⟨List.mem_of_getElem? (i := 542) (by decide +kernel), by decide +kernel⟩⟩, ⟨List.mem_of_getElem? (i := 44) (by decide +kernel), by decide +kernel⟩, by decide +kernel, by decide +kernel, by decide +kernel, by decide⟩
theorem v_PA_groupOr : vtM M_PA_groupOr 1 := ⟨mc_PA_groupOr, ⟨List.mem_of_getElem? (i := 540) (by decide +kernel), by decide +kernel⟩, ⟨List.mem_of_getElem? (i := 541) (by decide +kernel), by decide +kernel⟩, by decide +kernel, by decide⟩
def M_PA_isConfirmedWithRhesus : ev_M := (⟨"TypedBlood$Patient", "isConfirmedWithRhesus", "()Z"⟩, prog_2_method_8_code, 1, some (.boolean), [], 0)
theorem mc_PA_isConfirmedWithRhesus : mcw M_PA_isConfirmedWithRhesus := ⟨Or.inr ⟨rfl, ⟨List.mem_of_getElem? (i := 546) (by decide +kernel), by decide +kernel⟩⟩, ⟨List.mem_of_getElem? (i := 44) (by decide +kernel), by decide +kernel⟩, by decide +kernel, by decide +kernel, by decide +kernel, by decide⟩
theorem v_PA_isConfirmedWithRhesus : vtM M_PA_isConfirmedWithRhesus 0 := ⟨mc_PA_isConfirmedWithRhesus, ⟨List.mem_of_getElem? (i := 544) (by decide +kernel), by decide +kernel⟩, ⟨List.mem_of_getElem? (i := 545) (by decide +kernel), by decide +kernel⟩, by decide +kernel, by decide⟩
def M_RU_reason : ev_M := (⟨"TypedBlood$Rules", "reason", "(LTypedBlood$Patient;LTypedBlood$Unit;)I"⟩, prog_4_method_2_code, 2, some (.int), [], 2)
theorem mc_RU_reason : mcw M_RU_reason := ⟨Or.inr ⟨rfl, ⟨List.mem_of_getElem? (i := 535) (by decide +kernel), by decide +kernel⟩⟩, ⟨List.mem_of_getElem? (i := 46) (by decide +kernel), by decide +kernel⟩, by decide +kernel, by decide +kernel, by decide +kernel, by decide⟩
theorem s_RU_reason : stM M_RU_reason 2 := ⟨mc_RU_reason, ⟨List.mem_of_getElem? (i := 534) (by decide +kernel), by decide +kernel⟩, by decide +kernel, by decide⟩
def M_RU_groupFits : ev_M := (⟨"TypedBlood$Rules", "groupFits", "(LTypedBlood$Patient;LTypedBlood$Unit;)Z"⟩, prog_4_method_3_code, 2, some (.boolean), [], 1)
theorem mc_RU_groupFits : mcw M_RU_groupFits := ⟨Or.inr ⟨rfl, ⟨List.mem_of_getElem? (i := 538) (by decide +kernel), by decide +kernel⟩⟩, ⟨List.mem_of_getElem? (i := 46) (by decide +kernel), by decide +kernel⟩, by decide +kernel, by decide +kernel, by decide +kernel, by decide⟩
theorem s_RU_groupFits : stM M_RU_groupFits 2 := ⟨mc_RU_groupFits, ⟨List.mem_of_getElem? (i := 537) (by decide +kernel), by decide +kernel⟩, by decide +kernel, by decide⟩
def M_RK_init : ev_M := (⟨"TypedBlood$Ranking", "<init>", "(I)V"⟩, prog_3_method_1_code, 2, none, [], 0)
theorem mc_RK_init : mcw M_RK_init := ⟨Or.inr ⟨rfl, ⟨List.mem_of_getElem? (i := 64) (by decide +kernel), by decide +kernel⟩⟩, ⟨List.mem_of_getElem? (i := 33) (by decide +kernel), by decide +kernel⟩, by decide +kernel, by decide +kernel, by decide +kernel, by decide⟩
theorem i_RK_init : itM M_RK_init 1 := ⟨mc_RK_init, ⟨List.mem_of_getElem? (i := 63) (by decide +kernel), by decide +kernel⟩, ⟨List.mem_of_getElem? (i := 64) (by decide +kernel), by decide +kernel⟩, rfl, by decide +kernel, by decide⟩
def M_RK_empty : ev_M := (⟨"TypedBlood$Ranking", "empty", "()V"⟩, prog_3_method_2_code, 1, none, [], 0)
theorem mc_RK_empty : mcw M_RK_empty := ⟨Or.inr ⟨rfl, ⟨List.mem_of_getElem? (i := 699) (by decide +kernel), by decide +kernel⟩⟩, ⟨List.mem_of_getElem? (i := 33) (by decide +kernel), by decide +kernel⟩, by decide +kernel, by decide +kernel, by decide +kernel, by decide⟩
theorem v_RK_empty : vtM M_RK_empty 0 := ⟨mc_RK_empty, ⟨List.mem_of_getElem? (i := 697) (by decide +kernel), by decide +kernel⟩, ⟨List.mem_of_getElem? (i := 698) (by decide +kernel), by decide +kernel⟩, by decide +kernel, by decide⟩
def M_RK_insert : ev_M := (⟨"TypedBlood$Ranking", "insert", "(II)V"⟩, prog_3_method_3_code, 4, none, [], 0)
theorem mc_RK_insert : mcw M_RK_insert := ⟨Or.inr ⟨rfl, ⟨List.mem_of_getElem? (i := 703) (by decide +kernel), by decide +kernel⟩⟩, ⟨List.mem_of_getElem? (i := 33) (by decide +kernel), by decide +kernel⟩, by decide +kernel, by decide +kernel, by decide +kernel, by decide⟩
theorem v_RK_insert : vtM M_RK_insert 2 := ⟨mc_RK_insert, ⟨List.mem_of_getElem? (i := 701) (by decide +kernel), by decide +kernel⟩, ⟨List.mem_of_getElem? (i := 702) (by decide +kernel), by decide +kernel⟩, by decide +kernel, by decide⟩
def M_RK_at : ev_M := (⟨"TypedBlood$Ranking", "at", "(I)I"⟩, prog_3_method_4_code, 2, some (.int), [], 0)
theorem mc_RK_at : mcw M_RK_at := ⟨Or.inr ⟨rfl, ⟨List.mem_of_getElem? (i := 707) (by decide +kernel), by decide +kernel⟩⟩, ⟨List.mem_of_getElem? (i := 33) (by decide +kernel), by decide +kernel⟩, by decide +kernel, by decide +kernel, by decide +kernel, by decide⟩
theorem v_RK_at : vtM M_RK_at 1 := ⟨mc_RK_at, ⟨List.mem_of_getElem? (i := 705) (by decide +kernel), by decide +kernel⟩, ⟨List.mem_of_getElem? (i := 706) (by decide +kernel), by decide +kernel⟩, by decide +kernel, by decide⟩
def M_MO_init : ev_M := (⟨"TypedBloodModel", "<init>", "()V"⟩, prog_7_method_1_code, 2, none, [], 0)
theorem mc_MO_init : mcw M_MO_init := ⟨Or.inr ⟨rfl, ⟨List.mem_of_getElem? (i := 754) (by decide +kernel), by decide +kernel⟩⟩, ⟨List.mem_of_getElem? (i := 34) (by decide +kernel), by decide +kernel⟩, by decide +kernel, by decide +kernel, by decide +kernel, by decide⟩
theorem i_MO_init : itM M_MO_init 0 := ⟨mc_MO_init, ⟨List.mem_of_getElem? (i := 753) (by decide +kernel), by decide +kernel⟩, ⟨List.mem_of_getElem? (i := 754) (by decide +kernel), by decide +kernel⟩, rfl, by decide +kernel, by decide⟩
def M_MO_thrown : ev_M := (⟨"TypedBloodModel", "thrown", "()I"⟩, prog_7_method_2_code, 1, some (.int), [], 0)
theorem mc_MO_thrown : mcw M_MO_thrown := ⟨Or.inr ⟨rfl, ⟨List.mem_of_getElem? (i := 838) (by decide +kernel), by decide +kernel⟩⟩, ⟨List.mem_of_getElem? (i := 34) (by decide +kernel), by decide +kernel⟩, by decide +kernel, by decide +kernel, by decide +kernel, by decide⟩
theorem v_MO_thrown : vtM M_MO_thrown 0 := ⟨mc_MO_thrown, ⟨List.mem_of_getElem? (i := 836) (by decide +kernel), by decide +kernel⟩, ⟨List.mem_of_getElem? (i := 837) (by decide +kernel), by decide +kernel⟩, by decide +kernel, by decide⟩
def M_MO_refused : ev_M := (⟨"TypedBloodModel", "refused", "(ZZZZ)Z"⟩, prog_7_method_3_code, 5, some (.boolean), [], 0)
theorem mc_MO_refused : mcw M_MO_refused := ⟨Or.inr ⟨rfl, ⟨List.mem_of_getElem? (i := 850) (by decide +kernel), by decide +kernel⟩⟩, ⟨List.mem_of_getElem? (i := 34) (by decide +kernel), by decide +kernel⟩, by decide +kernel, by decide +kernel, by decide +kernel, by decide⟩
theorem v_MO_refused : vtM M_MO_refused 4 := ⟨mc_MO_refused, ⟨List.mem_of_getElem? (i := 849) (by decide +kernel), by decide +kernel⟩, ⟨List.mem_of_getElem? (i := 14) (by decide +kernel), by decide +kernel⟩, by decide +kernel, by decide⟩
def M_MO_in : ev_M := (⟨"TypedBloodModel", "in", "(III)Z"⟩, prog_7_method_4_code, 3, some (.boolean), [], 0)
theorem mc_MO_in : mcw M_MO_in := ⟨Or.inr ⟨rfl, ⟨List.mem_of_getElem? (i := 846) (by decide +kernel), by decide +kernel⟩⟩, ⟨List.mem_of_getElem? (i := 34) (by decide +kernel), by decide +kernel⟩, by decide +kernel, by decide +kernel, by decide +kernel, by decide⟩
theorem s_MO_in : stM M_MO_in 3 := ⟨mc_MO_in, ⟨List.mem_of_getElem? (i := 845) (by decide +kernel), by decide +kernel⟩, by decide +kernel, by decide⟩
def M_MO_isUnit : ev_M := (⟨"TypedBloodModel", "isUnit", "(I)Z"⟩, prog_7_method_5_code, 2, some (.boolean), [], 1)
theorem mc_MO_isUnit : mcw M_MO_isUnit := ⟨Or.inr ⟨rfl, ⟨List.mem_of_getElem? (i := 867) (by decide +kernel), by decide +kernel⟩⟩, ⟨List.mem_of_getElem? (i := 34) (by decide +kernel), by decide +kernel⟩, by decide +kernel, by decide +kernel, by decide +kernel, by decide⟩
theorem v_MO_isUnit : vtM M_MO_isUnit 1 := ⟨mc_MO_isUnit, ⟨List.mem_of_getElem? (i := 866) (by decide +kernel), by decide +kernel⟩, ⟨List.mem_of_getElem? (i := 16) (by decide +kernel), by decide +kernel⟩, by decide +kernel, by decide⟩
def M_MO_isPatient : ev_M := (⟨"TypedBloodModel", "isPatient", "(I)Z"⟩, prog_7_method_6_code, 2, some (.boolean), [], 1)
theorem mc_MO_isPatient : mcw M_MO_isPatient := ⟨Or.inr ⟨rfl, ⟨List.mem_of_getElem? (i := 906) (by decide +kernel), by decide +kernel⟩⟩, ⟨List.mem_of_getElem? (i := 34) (by decide +kernel), by decide +kernel⟩, by decide +kernel, by decide +kernel, by decide +kernel, by decide⟩
theorem v_MO_isPatient : vtM M_MO_isPatient 1 := ⟨mc_MO_isPatient, ⟨List.mem_of_getElem? (i := 905) (by decide +kernel), by decide +kernel⟩, ⟨List.mem_of_getElem? (i := 21) (by decide +kernel), by decide +kernel⟩, by decide +kernel, by decide⟩
def M_MO_pass : ev_M := (⟨"TypedBloodModel", "pass", "(I)I"⟩, prog_7_method_7_code, 2, some (.int), [], 1)
theorem mc_MO_pass : mcw M_MO_pass := ⟨Or.inr ⟨rfl, ⟨List.mem_of_getElem? (i := 842) (by decide +kernel), by decide +kernel⟩⟩, ⟨List.mem_of_getElem? (i := 34) (by decide +kernel), by decide +kernel⟩, by decide +kernel, by decide +kernel, by decide +kernel, by decide⟩
theorem v_MO_pass : vtM M_MO_pass 1 := ⟨mc_MO_pass, ⟨List.mem_of_getElem? (i := 840) (by decide +kernel), by decide +kernel⟩, ⟨List.mem_of_getElem? (i := 841) (by decide +kernel), by decide +kernel⟩, by decide +kernel, by decide⟩
def M_MO_stateOf : ev_M := (⟨"TypedBloodModel", "stateOf", "(I)I"⟩, prog_7_method_8_code, 2, some (.int), [], 0)
theorem mc_MO_stateOf : mcw M_MO_stateOf := ⟨Or.inr ⟨rfl, ⟨List.mem_of_getElem? (i := 871) (by decide +kernel), by decide +kernel⟩⟩, ⟨List.mem_of_getElem? (i := 34) (by decide +kernel), by decide +kernel⟩, by decide +kernel, by decide +kernel, by decide +kernel, by decide⟩
theorem v_MO_stateOf : vtM M_MO_stateOf 1 := ⟨mc_MO_stateOf, ⟨List.mem_of_getElem? (i := 870) (by decide +kernel), by decide +kernel⟩, ⟨List.mem_of_getElem? (i := 17) (by decide +kernel), by decide +kernel⟩, by decide +kernel, by decide⟩
def M_MO_isExpired : ev_M := (⟨"TypedBloodModel", "isExpired", "(I)Z"⟩, prog_7_method_9_code, 2, some (.boolean), [], 0)
theorem mc_MO_isExpired : mcw M_MO_isExpired := ⟨Or.inr ⟨rfl, ⟨List.mem_of_getElem? (i := 883) (by decide +kernel), by decide +kernel⟩⟩, ⟨List.mem_of_getElem? (i := 34) (by decide +kernel), by decide +kernel⟩, by decide +kernel, by decide +kernel, by decide +kernel, by decide⟩
theorem v_MO_isExpired : vtM M_MO_isExpired 1 := ⟨mc_MO_isExpired, ⟨List.mem_of_getElem? (i := 882) (by decide +kernel), by decide +kernel⟩, ⟨List.mem_of_getElem? (i := 19) (by decide +kernel), by decide +kernel⟩, by decide +kernel, by decide⟩
def M_MO_isBarred : ev_M := (⟨"TypedBloodModel", "isBarred", "(I)Z"⟩, prog_7_method_10_code, 2, some (.boolean), [], 0)
theorem mc_MO_isBarred : mcw M_MO_isBarred := ⟨Or.inr ⟨rfl, ⟨List.mem_of_getElem? (i := 887) (by decide +kernel), by decide +kernel⟩⟩, ⟨List.mem_of_getElem? (i := 34) (by decide +kernel), by decide +kernel⟩, by decide +kernel, by decide +kernel, by decide +kernel, by decide⟩
theorem v_MO_isBarred : vtM M_MO_isBarred 1 := ⟨mc_MO_isBarred, ⟨List.mem_of_getElem? (i := 886) (by decide +kernel), by decide +kernel⟩, ⟨List.mem_of_getElem? (i := 20) (by decide +kernel), by decide +kernel⟩, by decide +kernel, by decide⟩
def M_MO_isReady : ev_M := (⟨"TypedBloodModel", "isReady", "(I)Z"⟩, prog_7_method_11_code, 2, some (.boolean), [], 1)
theorem mc_MO_isReady : mcw M_MO_isReady := ⟨Or.inr ⟨rfl, ⟨List.mem_of_getElem? (i := 879) (by decide +kernel), by decide +kernel⟩⟩, ⟨List.mem_of_getElem? (i := 34) (by decide +kernel), by decide +kernel⟩, by decide +kernel, by decide +kernel, by decide +kernel, by decide⟩
theorem v_MO_isReady : vtM M_MO_isReady 1 := ⟨mc_MO_isReady, ⟨List.mem_of_getElem? (i := 878) (by decide +kernel), by decide +kernel⟩, ⟨List.mem_of_getElem? (i := 18) (by decide +kernel), by decide +kernel⟩, by decide +kernel, by decide⟩
def M_MO_add : ev_M := (⟨"TypedBloodModel", "add", "(IIII)I"⟩, prog_7_method_12_code, 6, some (.int), [], 0)
theorem mc_MO_add : mcw M_MO_add := ⟨Or.inr ⟨rfl, ⟨List.mem_of_getElem? (i := 859) (by decide +kernel), by decide +kernel⟩⟩, ⟨List.mem_of_getElem? (i := 34) (by decide +kernel), by decide +kernel⟩, by decide +kernel, by decide +kernel, by decide +kernel, by decide⟩
theorem v_MO_add : vtM M_MO_add 4 := ⟨mc_MO_add, ⟨List.mem_of_getElem? (i := 858) (by decide +kernel), by decide +kernel⟩, ⟨List.mem_of_getElem? (i := 15) (by decide +kernel), by decide +kernel⟩, by decide +kernel, by decide⟩
def M_MO_unit : ev_M := (⟨"TypedBloodModel", "unit", "(IIIII)I"⟩, prog_7_method_13_code, 8, some (.int), [], 1)
theorem mc_MO_unit : mcw M_MO_unit := ⟨Or.inr ⟨rfl, ⟨List.mem_of_getElem? (i := 854) (by decide +kernel), by decide +kernel⟩⟩, ⟨List.mem_of_getElem? (i := 34) (by decide +kernel), by decide +kernel⟩, by decide +kernel, by decide +kernel, by decide +kernel, by decide⟩
theorem v_MO_unit : vtM M_MO_unit 5 := ⟨mc_MO_unit, ⟨List.mem_of_getElem? (i := 852) (by decide +kernel), by decide +kernel⟩, ⟨List.mem_of_getElem? (i := 853) (by decide +kernel), by decide +kernel⟩, by decide +kernel, by decide⟩
def M_MO_antigen : ev_M := (⟨"TypedBloodModel", "antigen", "(III)V"⟩, prog_7_method_14_code, 4, none, [], 2)
theorem mc_MO_antigen : mcw M_MO_antigen := ⟨Or.inr ⟨rfl, ⟨List.mem_of_getElem? (i := 863) (by decide +kernel), by decide +kernel⟩⟩, ⟨List.mem_of_getElem? (i := 34) (by decide +kernel), by decide +kernel⟩, by decide +kernel, by decide +kernel, by decide +kernel, by decide⟩
theorem v_MO_antigen : vtM M_MO_antigen 3 := ⟨mc_MO_antigen, ⟨List.mem_of_getElem? (i := 861) (by decide +kernel), by decide +kernel⟩, ⟨List.mem_of_getElem? (i := 862) (by decide +kernel), by decide +kernel⟩, by decide +kernel, by decide⟩
def M_MO_suits : ev_M := (⟨"TypedBloodModel", "suits", "(II)Z"⟩, prog_7_method_15_code, 2, some (.boolean), [], 0)
theorem mc_MO_suits : mcw M_MO_suits := ⟨Or.inr ⟨rfl, ⟨List.mem_of_getElem? (i := 890) (by decide +kernel), by decide +kernel⟩⟩, ⟨List.mem_of_getElem? (i := 34) (by decide +kernel), by decide +kernel⟩, by decide +kernel, by decide +kernel, by decide +kernel, by decide⟩
theorem s_MO_suits : stM M_MO_suits 2 := ⟨mc_MO_suits, ⟨List.mem_of_getElem? (i := 889) (by decide +kernel), by decide +kernel⟩, by decide +kernel, by decide⟩
def M_MO_process : ev_M := (⟨"TypedBloodModel", "process", "(II)I"⟩, prog_7_method_16_code, 6, some (.int), [], 2)
theorem mc_MO_process : mcw M_MO_process := ⟨Or.inr ⟨rfl, ⟨List.mem_of_getElem? (i := 875) (by decide +kernel), by decide +kernel⟩⟩, ⟨List.mem_of_getElem? (i := 34) (by decide +kernel), by decide +kernel⟩, by decide +kernel, by decide +kernel, by decide +kernel, by decide⟩
theorem v_MO_process : vtM M_MO_process 2 := ⟨mc_MO_process, ⟨List.mem_of_getElem? (i := 873) (by decide +kernel), by decide +kernel⟩, ⟨List.mem_of_getElem? (i := 874) (by decide +kernel), by decide +kernel⟩, by decide +kernel, by decide⟩
def M_MO_pool : ev_M := (⟨"TypedBloodModel", "pool", "(II)I"⟩, prog_7_method_17_code, 7, some (.int), [], 2)
theorem mc_MO_pool : mcw M_MO_pool := ⟨Or.inr ⟨rfl, ⟨List.mem_of_getElem? (i := 894) (by decide +kernel), by decide +kernel⟩⟩, ⟨List.mem_of_getElem? (i := 34) (by decide +kernel), by decide +kernel⟩, by decide +kernel, by decide +kernel, by decide +kernel, by decide⟩
theorem v_MO_pool : vtM M_MO_pool 2 := ⟨mc_MO_pool, ⟨List.mem_of_getElem? (i := 892) (by decide +kernel), by decide +kernel⟩, ⟨List.mem_of_getElem? (i := 893) (by decide +kernel), by decide +kernel⟩, by decide +kernel, by decide⟩
def M_MO_patient : ev_M := (⟨"TypedBloodModel", "patient", "()I"⟩, prog_7_method_18_code, 1, some (.int), [], 1)
theorem mc_MO_patient : mcw M_MO_patient := ⟨Or.inr ⟨rfl, ⟨List.mem_of_getElem? (i := 898) (by decide +kernel), by decide +kernel⟩⟩, ⟨List.mem_of_getElem? (i := 34) (by decide +kernel), by decide +kernel⟩, by decide +kernel, by decide +kernel, by decide +kernel, by decide⟩
theorem v_MO_patient : vtM M_MO_patient 0 := ⟨mc_MO_patient, ⟨List.mem_of_getElem? (i := 896) (by decide +kernel), by decide +kernel⟩, ⟨List.mem_of_getElem? (i := 897) (by decide +kernel), by decide +kernel⟩, by decide +kernel, by decide⟩
def M_MO_sample : ev_M := (⟨"TypedBloodModel", "sample", "(III)I"⟩, prog_7_method_19_code, 6, some (.int), [], 2)
theorem mc_MO_sample : mcw M_MO_sample := ⟨Or.inr ⟨rfl, ⟨List.mem_of_getElem? (i := 902) (by decide +kernel), by decide +kernel⟩⟩, ⟨List.mem_of_getElem? (i := 34) (by decide +kernel), by decide +kernel⟩, by decide +kernel, by decide +kernel, by decide +kernel, by decide⟩
theorem v_MO_sample : vtM M_MO_sample 3 := ⟨mc_MO_sample, ⟨List.mem_of_getElem? (i := 900) (by decide +kernel), by decide +kernel⟩, ⟨List.mem_of_getElem? (i := 901) (by decide +kernel), by decide +kernel⟩, by decide +kernel, by decide⟩
def M_MO_unlock : ev_M := (⟨"TypedBloodModel", "unlock", "(III)V"⟩, prog_7_method_20_code, 5, none, [], 2)
theorem mc_MO_unlock : mcw M_MO_unlock := ⟨Or.inr ⟨rfl, ⟨List.mem_of_getElem? (i := 910) (by decide +kernel), by decide +kernel⟩⟩, ⟨List.mem_of_getElem? (i := 34) (by decide +kernel), by decide +kernel⟩, by decide +kernel, by decide +kernel, by decide +kernel, by decide⟩
theorem v_MO_unlock : vtM M_MO_unlock 3 := ⟨mc_MO_unlock, ⟨List.mem_of_getElem? (i := 908) (by decide +kernel), by decide +kernel⟩, ⟨List.mem_of_getElem? (i := 909) (by decide +kernel), by decide +kernel⟩, by decide +kernel, by decide⟩
def M_MO_bitsOf : ev_M := (⟨"TypedBloodModel", "bitsOf", "(I)I"⟩, prog_7_method_21_code, 3, some (.int), [], 0)
theorem mc_MO_bitsOf : mcw M_MO_bitsOf := ⟨Or.inr ⟨rfl, ⟨List.mem_of_getElem? (i := 917) (by decide +kernel), by decide +kernel⟩⟩, ⟨List.mem_of_getElem? (i := 34) (by decide +kernel), by decide +kernel⟩, by decide +kernel, by decide +kernel, by decide +kernel, by decide⟩
theorem s_MO_bitsOf : stM M_MO_bitsOf 1 := ⟨mc_MO_bitsOf, ⟨List.mem_of_getElem? (i := 916) (by decide +kernel), by decide +kernel⟩, by decide +kernel, by decide⟩
def M_MO_antibody : ev_M := (⟨"TypedBloodModel", "antibody", "(II)I"⟩, prog_7_method_22_code, 3, some (.int), [], 2)
theorem mc_MO_antibody : mcw M_MO_antibody := ⟨Or.inr ⟨rfl, ⟨List.mem_of_getElem? (i := 914) (by decide +kernel), by decide +kernel⟩⟩, ⟨List.mem_of_getElem? (i := 34) (by decide +kernel), by decide +kernel⟩, by decide +kernel, by decide +kernel, by decide +kernel, by decide⟩
theorem v_MO_antibody : vtM M_MO_antibody 2 := ⟨mc_MO_antibody, ⟨List.mem_of_getElem? (i := 912) (by decide +kernel), by decide +kernel⟩, ⟨List.mem_of_getElem? (i := 913) (by decide +kernel), by decide +kernel⟩, by decide +kernel, by decide⟩
def M_MO_need : ev_M := (⟨"TypedBloodModel", "need", "(II)I"⟩, prog_7_method_23_code, 4, some (.int), [], 2)
theorem mc_MO_need : mcw M_MO_need := ⟨Or.inr ⟨rfl, ⟨List.mem_of_getElem? (i := 921) (by decide +kernel), by decide +kernel⟩⟩, ⟨List.mem_of_getElem? (i := 34) (by decide +kernel), by decide +kernel⟩, by decide +kernel, by decide +kernel, by decide +kernel, by decide⟩
theorem v_MO_need : vtM M_MO_need 2 := ⟨mc_MO_need, ⟨List.mem_of_getElem? (i := 919) (by decide +kernel), by decide +kernel⟩, ⟨List.mem_of_getElem? (i := 920) (by decide +kernel), by decide +kernel⟩, by decide +kernel, by decide⟩
def M_MO_reasonFor : ev_M := (⟨"TypedBloodModel", "reasonFor", "(II)I"⟩, prog_7_method_24_code, 8, some (.int), [], 0)
theorem mc_MO_reasonFor : mcw M_MO_reasonFor := ⟨Or.inr ⟨rfl, ⟨List.mem_of_getElem? (i := 933) (by decide +kernel), by decide +kernel⟩⟩, ⟨List.mem_of_getElem? (i := 34) (by decide +kernel), by decide +kernel⟩, by decide +kernel, by decide +kernel, by decide +kernel, by decide⟩
theorem v_MO_reasonFor : vtM M_MO_reasonFor 2 := ⟨mc_MO_reasonFor, ⟨List.mem_of_getElem? (i := 932) (by decide +kernel), by decide +kernel⟩, ⟨List.mem_of_getElem? (i := 22) (by decide +kernel), by decide +kernel⟩, by decide +kernel, by decide⟩
def M_MO_isMatched : ev_M := (⟨"TypedBloodModel", "isMatched", "(II)Z"⟩, prog_7_method_25_code, 4, some (.boolean), [], 0)
theorem mc_MO_isMatched : mcw M_MO_isMatched := ⟨Or.inr ⟨rfl, ⟨List.mem_of_getElem? (i := 937) (by decide +kernel), by decide +kernel⟩⟩, ⟨List.mem_of_getElem? (i := 34) (by decide +kernel), by decide +kernel⟩, by decide +kernel, by decide +kernel, by decide +kernel, by decide⟩
theorem v_MO_isMatched : vtM M_MO_isMatched 2 := ⟨mc_MO_isMatched, ⟨List.mem_of_getElem? (i := 936) (by decide +kernel), by decide +kernel⟩, ⟨List.mem_of_getElem? (i := 23) (by decide +kernel), by decide +kernel⟩, by decide +kernel, by decide⟩
def M_MO_crossmatch : ev_M := (⟨"TypedBloodModel", "crossmatch", "(IIZ)V"⟩, prog_7_method_26_code, 6, none, [], 2)
theorem mc_MO_crossmatch : mcw M_MO_crossmatch := ⟨Or.inr ⟨rfl, ⟨List.mem_of_getElem? (i := 925) (by decide +kernel), by decide +kernel⟩⟩, ⟨List.mem_of_getElem? (i := 34) (by decide +kernel), by decide +kernel⟩, by decide +kernel, by decide +kernel, by decide +kernel, by decide⟩
theorem v_MO_crossmatch : vtM M_MO_crossmatch 3 := ⟨mc_MO_crossmatch, ⟨List.mem_of_getElem? (i := 923) (by decide +kernel), by decide +kernel⟩, ⟨List.mem_of_getElem? (i := 924) (by decide +kernel), by decide +kernel⟩, by decide +kernel, by decide⟩
def M_MO_reserve : ev_M := (⟨"TypedBloodModel", "reserve", "(II)I"⟩, prog_7_method_27_code, 5, some (.int), [], 2)
theorem mc_MO_reserve : mcw M_MO_reserve := ⟨Or.inr ⟨rfl, ⟨List.mem_of_getElem? (i := 929) (by decide +kernel), by decide +kernel⟩⟩, ⟨List.mem_of_getElem? (i := 34) (by decide +kernel), by decide +kernel⟩, by decide +kernel, by decide +kernel, by decide +kernel, by decide⟩
theorem v_MO_reserve : vtM M_MO_reserve 2 := ⟨mc_MO_reserve, ⟨List.mem_of_getElem? (i := 927) (by decide +kernel), by decide +kernel⟩, ⟨List.mem_of_getElem? (i := 928) (by decide +kernel), by decide +kernel⟩, by decide +kernel, by decide⟩
def M_MO_release : ev_M := (⟨"TypedBloodModel", "release", "(I)I"⟩, prog_7_method_28_code, 3, some (.int), [], 2)
theorem mc_MO_release : mcw M_MO_release := ⟨Or.inr ⟨rfl, ⟨List.mem_of_getElem? (i := 941) (by decide +kernel), by decide +kernel⟩⟩, ⟨List.mem_of_getElem? (i := 34) (by decide +kernel), by decide +kernel⟩, by decide +kernel, by decide +kernel, by decide +kernel, by decide⟩
theorem v_MO_release : vtM M_MO_release 1 := ⟨mc_MO_release, ⟨List.mem_of_getElem? (i := 939) (by decide +kernel), by decide +kernel⟩, ⟨List.mem_of_getElem? (i := 940) (by decide +kernel), by decide +kernel⟩, by decide +kernel, by decide⟩
def M_MO_mayGo : ev_M := (⟨"TypedBloodModel", "mayGo", "(II)Z"⟩, prog_7_method_29_code, 5, some (.boolean), [], 1)
theorem mc_MO_mayGo : mcw M_MO_mayGo := ⟨Or.inr ⟨rfl, ⟨List.mem_of_getElem? (i := 949) (by decide +kernel), by decide +kernel⟩⟩, ⟨List.mem_of_getElem? (i := 34) (by decide +kernel), by decide +kernel⟩, by decide +kernel, by decide +kernel, by decide +kernel, by decide⟩
theorem v_MO_mayGo : vtM M_MO_mayGo 2 := ⟨mc_MO_mayGo, ⟨List.mem_of_getElem? (i := 948) (by decide +kernel), by decide +kernel⟩, ⟨List.mem_of_getElem? (i := 24) (by decide +kernel), by decide +kernel⟩, by decide +kernel, by decide⟩
def M_MO_go : ev_M := (⟨"TypedBloodModel", "go", "(III)I"⟩, prog_7_method_30_code, 6, some (.int), [], 0)
theorem mc_MO_go : mcw M_MO_go := ⟨Or.inr ⟨rfl, ⟨List.mem_of_getElem? (i := 953) (by decide +kernel), by decide +kernel⟩⟩, ⟨List.mem_of_getElem? (i := 34) (by decide +kernel), by decide +kernel⟩, by decide +kernel, by decide +kernel, by decide +kernel, by decide⟩
theorem v_MO_go : vtM M_MO_go 3 := ⟨mc_MO_go, ⟨List.mem_of_getElem? (i := 952) (by decide +kernel), by decide +kernel⟩, ⟨List.mem_of_getElem? (i := 25) (by decide +kernel), by decide +kernel⟩, by decide +kernel, by decide⟩
def M_MO_issue : ev_M := (⟨"TypedBloodModel", "issue", "(II)I"⟩, prog_7_method_31_code, 5, some (.int), [], 2)
theorem mc_MO_issue : mcw M_MO_issue := ⟨Or.inr ⟨rfl, ⟨List.mem_of_getElem? (i := 945) (by decide +kernel), by decide +kernel⟩⟩, ⟨List.mem_of_getElem? (i := 34) (by decide +kernel), by decide +kernel⟩, by decide +kernel, by decide +kernel, by decide +kernel, by decide⟩
theorem v_MO_issue : vtM M_MO_issue 2 := ⟨mc_MO_issue, ⟨List.mem_of_getElem? (i := 943) (by decide +kernel), by decide +kernel⟩, ⟨List.mem_of_getElem? (i := 944) (by decide +kernel), by decide +kernel⟩, by decide +kernel, by decide⟩
def M_MO_emergency : ev_M := (⟨"TypedBloodModel", "emergency", "(III)I"⟩, prog_7_method_32_code, 7, some (.int), [], 2)
theorem mc_MO_emergency : mcw M_MO_emergency := ⟨Or.inr ⟨rfl, ⟨List.mem_of_getElem? (i := 957) (by decide +kernel), by decide +kernel⟩⟩, ⟨List.mem_of_getElem? (i := 34) (by decide +kernel), by decide +kernel⟩, by decide +kernel, by decide +kernel, by decide +kernel, by decide⟩
theorem v_MO_emergency : vtM M_MO_emergency 3 := ⟨mc_MO_emergency, ⟨List.mem_of_getElem? (i := 955) (by decide +kernel), by decide +kernel⟩, ⟨List.mem_of_getElem? (i := 956) (by decide +kernel), by decide +kernel⟩, by decide +kernel, by decide⟩
def M_MO_giveBack : ev_M := (⟨"TypedBloodModel", "giveBack", "(I)I"⟩, prog_7_method_33_code, 3, some (.int), [], 2)
theorem mc_MO_giveBack : mcw M_MO_giveBack := ⟨Or.inr ⟨rfl, ⟨List.mem_of_getElem? (i := 961) (by decide +kernel), by decide +kernel⟩⟩, ⟨List.mem_of_getElem? (i := 34) (by decide +kernel), by decide +kernel⟩, by decide +kernel, by decide +kernel, by decide +kernel, by decide⟩
theorem v_MO_giveBack : vtM M_MO_giveBack 1 := ⟨mc_MO_giveBack, ⟨List.mem_of_getElem? (i := 959) (by decide +kernel), by decide +kernel⟩, ⟨List.mem_of_getElem? (i := 960) (by decide +kernel), by decide +kernel⟩, by decide +kernel, by decide⟩
def M_MO_transfused : ev_M := (⟨"TypedBloodModel", "transfused", "(I)I"⟩, prog_7_method_34_code, 3, some (.int), [], 2)
theorem mc_MO_transfused : mcw M_MO_transfused := ⟨Or.inr ⟨rfl, ⟨List.mem_of_getElem? (i := 965) (by decide +kernel), by decide +kernel⟩⟩, ⟨List.mem_of_getElem? (i := 34) (by decide +kernel), by decide +kernel⟩, by decide +kernel, by decide +kernel, by decide +kernel, by decide⟩
theorem v_MO_transfused : vtM M_MO_transfused 1 := ⟨mc_MO_transfused, ⟨List.mem_of_getElem? (i := 963) (by decide +kernel), by decide +kernel⟩, ⟨List.mem_of_getElem? (i := 964) (by decide +kernel), by decide +kernel⟩, by decide +kernel, by decide⟩
def M_MO_discard : ev_M := (⟨"TypedBloodModel", "discard", "(II)I"⟩, prog_7_method_35_code, 5, some (.int), [], 2)
theorem mc_MO_discard : mcw M_MO_discard := ⟨Or.inr ⟨rfl, ⟨List.mem_of_getElem? (i := 969) (by decide +kernel), by decide +kernel⟩⟩, ⟨List.mem_of_getElem? (i := 34) (by decide +kernel), by decide +kernel⟩, by decide +kernel, by decide +kernel, by decide +kernel, by decide⟩
theorem v_MO_discard : vtM M_MO_discard 2 := ⟨mc_MO_discard, ⟨List.mem_of_getElem? (i := 967) (by decide +kernel), by decide +kernel⟩, ⟨List.mem_of_getElem? (i := 968) (by decide +kernel), by decide +kernel⟩, by decide +kernel, by decide⟩
def M_MO_quarantine : ev_M := (⟨"TypedBloodModel", "quarantine", "(IZ)I"⟩, prog_7_method_36_code, 5, some (.int), [], 1)
theorem mc_MO_quarantine : mcw M_MO_quarantine := ⟨Or.inr ⟨rfl, ⟨List.mem_of_getElem? (i := 973) (by decide +kernel), by decide +kernel⟩⟩, ⟨List.mem_of_getElem? (i := 34) (by decide +kernel), by decide +kernel⟩, by decide +kernel, by decide +kernel, by decide +kernel, by decide⟩
theorem v_MO_quarantine : vtM M_MO_quarantine 2 := ⟨mc_MO_quarantine, ⟨List.mem_of_getElem? (i := 971) (by decide +kernel), by decide +kernel⟩, ⟨List.mem_of_getElem? (i := 972) (by decide +kernel), by decide +kernel⟩, by decide +kernel, by decide⟩
def M_MO_field : ev_M := (⟨"TypedBloodModel", "field", "(II)I"⟩, prog_7_method_37_code, 3, some (.int), [], 1)
theorem mc_MO_field : mcw M_MO_field := ⟨Or.inr ⟨rfl, ⟨List.mem_of_getElem? (i := 981) (by decide +kernel), by decide +kernel⟩⟩, ⟨List.mem_of_getElem? (i := 34) (by decide +kernel), by decide +kernel⟩, by decide +kernel, by decide +kernel, by decide +kernel, by decide⟩
theorem v_MO_field : vtM M_MO_field 2 := ⟨mc_MO_field, ⟨List.mem_of_getElem? (i := 980) (by decide +kernel), by decide +kernel⟩, ⟨List.mem_of_getElem? (i := 26) (by decide +kernel), by decide +kernel⟩, by decide +kernel, by decide⟩
def M_MO_of : ev_M := (⟨"TypedBloodModel", "of", "(II)I"⟩, prog_7_method_38_code, 3, some (.int), [], 2)
theorem mc_MO_of : mcw M_MO_of := ⟨Or.inr ⟨rfl, ⟨List.mem_of_getElem? (i := 977) (by decide +kernel), by decide +kernel⟩⟩, ⟨List.mem_of_getElem? (i := 34) (by decide +kernel), by decide +kernel⟩, by decide +kernel, by decide +kernel, by decide +kernel, by decide⟩
theorem v_MO_of : vtM M_MO_of 2 := ⟨mc_MO_of, ⟨List.mem_of_getElem? (i := 975) (by decide +kernel), by decide +kernel⟩, ⟨List.mem_of_getElem? (i := 976) (by decide +kernel), by decide +kernel⟩, by decide +kernel, by decide⟩
def M_MO_has : ev_M := (⟨"TypedBloodModel", "has", "(II)I"⟩, prog_7_method_39_code, 3, some (.int), [], 2)
theorem mc_MO_has : mcw M_MO_has := ⟨Or.inr ⟨rfl, ⟨List.mem_of_getElem? (i := 985) (by decide +kernel), by decide +kernel⟩⟩, ⟨List.mem_of_getElem? (i := 34) (by decide +kernel), by decide +kernel⟩, by decide +kernel, by decide +kernel, by decide +kernel, by decide⟩
theorem v_MO_has : vtM M_MO_has 2 := ⟨mc_MO_has, ⟨List.mem_of_getElem? (i := 983) (by decide +kernel), by decide +kernel⟩, ⟨List.mem_of_getElem? (i := 984) (by decide +kernel), by decide +kernel⟩, by decide +kernel, by decide⟩
def M_MO_who : ev_M := (⟨"TypedBloodModel", "who", "(II)I"⟩, prog_7_method_40_code, 3, some (.int), [], 2)
theorem mc_MO_who : mcw M_MO_who := ⟨Or.inr ⟨rfl, ⟨List.mem_of_getElem? (i := 989) (by decide +kernel), by decide +kernel⟩⟩, ⟨List.mem_of_getElem? (i := 34) (by decide +kernel), by decide +kernel⟩, by decide +kernel, by decide +kernel, by decide +kernel, by decide⟩
theorem v_MO_who : vtM M_MO_who 2 := ⟨mc_MO_who, ⟨List.mem_of_getElem? (i := 987) (by decide +kernel), by decide +kernel⟩, ⟨List.mem_of_getElem? (i := 988) (by decide +kernel), by decide +kernel⟩, by decide +kernel, by decide⟩
def M_MO_why : ev_M := (⟨"TypedBloodModel", "why", "(II)I"⟩, prog_7_method_41_code, 3, some (.int), [], 2)
theorem mc_MO_why : mcw M_MO_why := ⟨Or.inr ⟨rfl, ⟨List.mem_of_getElem? (i := 993) (by decide +kernel), by decide +kernel⟩⟩, ⟨List.mem_of_getElem? (i := 34) (by decide +kernel), by decide +kernel⟩, by decide +kernel, by decide +kernel, by decide +kernel, by decide⟩
theorem v_MO_why : vtM M_MO_why 2 := ⟨mc_MO_why, ⟨List.mem_of_getElem? (i := 991) (by decide +kernel), by decide +kernel⟩, ⟨List.mem_of_getElem? (i := 992) (by decide +kernel), by decide +kernel⟩, by decide +kernel, by decide⟩
def M_MO_isBefore : ev_M := (⟨"TypedBloodModel", "isBefore", "(II)Z"⟩, prog_7_method_42_code, 3, some (.boolean), [], 0)
theorem mc_MO_isBefore : mcw M_MO_isBefore := ⟨Or.inr ⟨rfl, ⟨List.mem_of_getElem? (i := 1005) (by decide +kernel), by decide +kernel⟩⟩, ⟨List.mem_of_getElem? (i := 34) (by decide +kernel), by decide +kernel⟩, by decide +kernel, by decide +kernel, by decide +kernel, by decide⟩
theorem v_MO_isBefore : vtM M_MO_isBefore 2 := ⟨mc_MO_isBefore, ⟨List.mem_of_getElem? (i := 1004) (by decide +kernel), by decide +kernel⟩, ⟨List.mem_of_getElem? (i := 28) (by decide +kernel), by decide +kernel⟩, by decide +kernel, by decide⟩
def M_MO_isOffered : ev_M := (⟨"TypedBloodModel", "isOffered", "(III)Z"⟩, prog_7_method_43_code, 4, some (.boolean), [], 2)
theorem mc_MO_isOffered : mcw M_MO_isOffered := ⟨Or.inr ⟨rfl, ⟨List.mem_of_getElem? (i := 1001) (by decide +kernel), by decide +kernel⟩⟩, ⟨List.mem_of_getElem? (i := 34) (by decide +kernel), by decide +kernel⟩, by decide +kernel, by decide +kernel, by decide +kernel, by decide⟩
theorem v_MO_isOffered : vtM M_MO_isOffered 3 := ⟨mc_MO_isOffered, ⟨List.mem_of_getElem? (i := 1000) (by decide +kernel), by decide +kernel⟩, ⟨List.mem_of_getElem? (i := 27) (by decide +kernel), by decide +kernel⟩, by decide +kernel, by decide⟩
def M_MO_offer : ev_M := (⟨"TypedBloodModel", "offer", "(III)I"⟩, prog_7_method_44_code, 7, some (.int), [], 3)
theorem mc_MO_offer : mcw M_MO_offer := ⟨Or.inr ⟨rfl, ⟨List.mem_of_getElem? (i := 997) (by decide +kernel), by decide +kernel⟩⟩, ⟨List.mem_of_getElem? (i := 34) (by decide +kernel), by decide +kernel⟩, by decide +kernel, by decide +kernel, by decide +kernel, by decide⟩
theorem v_MO_offer : vtM M_MO_offer 3 := ⟨mc_MO_offer, ⟨List.mem_of_getElem? (i := 995) (by decide +kernel), by decide +kernel⟩, ⟨List.mem_of_getElem? (i := 996) (by decide +kernel), by decide +kernel⟩, by decide +kernel, by decide⟩
def M_MO_stock : ev_M := (⟨"TypedBloodModel", "stock", "(III)I"⟩, prog_7_method_45_code, 7, some (.int), [], 2)
theorem mc_MO_stock : mcw M_MO_stock := ⟨Or.inr ⟨rfl, ⟨List.mem_of_getElem? (i := 1009) (by decide +kernel), by decide +kernel⟩⟩, ⟨List.mem_of_getElem? (i := 34) (by decide +kernel), by decide +kernel⟩, by decide +kernel, by decide +kernel, by decide +kernel, by decide⟩
theorem v_MO_stock : vtM M_MO_stock 3 := ⟨mc_MO_stock, ⟨List.mem_of_getElem? (i := 1007) (by decide +kernel), by decide +kernel⟩, ⟨List.mem_of_getElem? (i := 1008) (by decide +kernel), by decide +kernel⟩, by decide +kernel, by decide⟩
def M_MO_expiresIn : ev_M := (⟨"TypedBloodModel", "expiresIn", "(II)Z"⟩, prog_7_method_46_code, 3, some (.boolean), [], 1)
theorem mc_MO_expiresIn : mcw M_MO_expiresIn := ⟨Or.inr ⟨rfl, ⟨List.mem_of_getElem? (i := 1017) (by decide +kernel), by decide +kernel⟩⟩, ⟨List.mem_of_getElem? (i := 34) (by decide +kernel), by decide +kernel⟩, by decide +kernel, by decide +kernel, by decide +kernel, by decide⟩
theorem v_MO_expiresIn : vtM M_MO_expiresIn 2 := ⟨mc_MO_expiresIn, ⟨List.mem_of_getElem? (i := 1016) (by decide +kernel), by decide +kernel⟩, ⟨List.mem_of_getElem? (i := 29) (by decide +kernel), by decide +kernel⟩, by decide +kernel, by decide⟩
def M_MO_expiring : ev_M := (⟨"TypedBloodModel", "expiring", "(II)I"⟩, prog_7_method_47_code, 6, some (.int), [], 2)
theorem mc_MO_expiring : mcw M_MO_expiring := ⟨Or.inr ⟨rfl, ⟨List.mem_of_getElem? (i := 1013) (by decide +kernel), by decide +kernel⟩⟩, ⟨List.mem_of_getElem? (i := 34) (by decide +kernel), by decide +kernel⟩, by decide +kernel, by decide +kernel, by decide +kernel, by decide⟩
theorem v_MO_expiring : vtM M_MO_expiring 2 := ⟨mc_MO_expiring, ⟨List.mem_of_getElem? (i := 1011) (by decide +kernel), by decide +kernel⟩, ⟨List.mem_of_getElem? (i := 1012) (by decide +kernel), by decide +kernel⟩, by decide +kernel, by decide⟩
def M_MO_firstIssue : ev_M := (⟨"TypedBloodModel", "firstIssue", "(II)I"⟩, prog_7_method_48_code, 6, some (.int), [], 0)
theorem mc_MO_firstIssue : mcw M_MO_firstIssue := ⟨Or.inr ⟨rfl, ⟨List.mem_of_getElem? (i := 1025) (by decide +kernel), by decide +kernel⟩⟩, ⟨List.mem_of_getElem? (i := 34) (by decide +kernel), by decide +kernel⟩, by decide +kernel, by decide +kernel, by decide +kernel, by decide⟩
theorem v_MO_firstIssue : vtM M_MO_firstIssue 2 := ⟨mc_MO_firstIssue, ⟨List.mem_of_getElem? (i := 1024) (by decide +kernel), by decide +kernel⟩, ⟨List.mem_of_getElem? (i := 30) (by decide +kernel), by decide +kernel⟩, by decide +kernel, by decide⟩
def M_MO_lookback : ev_M := (⟨"TypedBloodModel", "lookback", "(II)I"⟩, prog_7_method_49_code, 8, some (.int), [], 1)
theorem mc_MO_lookback : mcw M_MO_lookback := ⟨Or.inr ⟨rfl, ⟨List.mem_of_getElem? (i := 1021) (by decide +kernel), by decide +kernel⟩⟩, ⟨List.mem_of_getElem? (i := 34) (by decide +kernel), by decide +kernel⟩, by decide +kernel, by decide +kernel, by decide +kernel, by decide⟩
theorem v_MO_lookback : vtM M_MO_lookback 2 := ⟨mc_MO_lookback, ⟨List.mem_of_getElem? (i := 1019) (by decide +kernel), by decide +kernel⟩, ⟨List.mem_of_getElem? (i := 1020) (by decide +kernel), by decide +kernel⟩, by decide +kernel, by decide⟩
def M_MO_received : ev_M := (⟨"TypedBloodModel", "received", "(II)I"⟩, prog_7_method_50_code, 6, some (.int), [], 2)
theorem mc_MO_received : mcw M_MO_received := ⟨Or.inr ⟨rfl, ⟨List.mem_of_getElem? (i := 1029) (by decide +kernel), by decide +kernel⟩⟩, ⟨List.mem_of_getElem? (i := 34) (by decide +kernel), by decide +kernel⟩, by decide +kernel, by decide +kernel, by decide +kernel, by decide⟩
theorem v_MO_received : vtM M_MO_received 2 := ⟨mc_MO_received, ⟨List.mem_of_getElem? (i := 1027) (by decide +kernel), by decide +kernel⟩, ⟨List.mem_of_getElem? (i := 1028) (by decide +kernel), by decide +kernel⟩, by decide +kernel, by decide⟩
def M_MO_count : ev_M := (⟨"TypedBloodModel", "count", "(II)I"⟩, prog_7_method_51_code, 5, some (.int), [], 1)
theorem mc_MO_count : mcw M_MO_count := ⟨Or.inr ⟨rfl, ⟨List.mem_of_getElem? (i := 1033) (by decide +kernel), by decide +kernel⟩⟩, ⟨List.mem_of_getElem? (i := 34) (by decide +kernel), by decide +kernel⟩, by decide +kernel, by decide +kernel, by decide +kernel, by decide⟩
theorem v_MO_count : vtM M_MO_count 2 := ⟨mc_MO_count, ⟨List.mem_of_getElem? (i := 1031) (by decide +kernel), by decide +kernel⟩, ⟨List.mem_of_getElem? (i := 1032) (by decide +kernel), by decide +kernel⟩, by decide +kernel, by decide⟩
def M_LW_pass : ev_M := (⟨"TypedBloodLaw", "pass", "(LTypedBlood;I[J)I"⟩, method_3_code, 4, some (.int), [(0, 9, 12, 13)], 5)
theorem mc_LW_pass : mcw M_LW_pass := ⟨Or.inl ⟨List.mem_of_getElem? (i := 104) (by decide +kernel), by decide +kernel⟩, ⟨List.mem_of_getElem? (i := 31) (by decide +kernel), by decide +kernel⟩, by decide +kernel, by decide +kernel, by decide +kernel, by decide⟩
theorem s_LW_pass : stM M_LW_pass 3 := ⟨mc_LW_pass, ⟨List.mem_of_getElem? (i := 103) (by decide +kernel), by decide +kernel⟩, by decide +kernel, by decide⟩
def M_LW_unit : ev_M := (⟨"TypedBloodLaw", "unit", "(LTypedBlood;IIIII[J)I"⟩, method_4_code, 8, some (.int), [(0, 16, 19, 13), (0, 16, 23, 19)], 5)
theorem mc_LW_unit : mcw M_LW_unit := ⟨Or.inl ⟨List.mem_of_getElem? (i := 191) (by decide +kernel), by decide +kernel⟩, ⟨List.mem_of_getElem? (i := 31) (by decide +kernel), by decide +kernel⟩, by decide +kernel, by decide +kernel, by decide +kernel, by decide⟩
theorem s_LW_unit : stM M_LW_unit 7 := ⟨mc_LW_unit, ⟨List.mem_of_getElem? (i := 190) (by decide +kernel), by decide +kernel⟩, by decide +kernel, by decide⟩
def M_LW_antigen : ev_M := (⟨"TypedBloodLaw", "antigen", "(LTypedBlood;III)I"⟩, method_5_code, 5, some (.int), [(0, 7, 10, 25), (0, 7, 14, 13), (0, 7, 18, 19)], 6)
theorem mc_LW_antigen : mcw M_LW_antigen := ⟨Or.inl ⟨List.mem_of_getElem? (i := 302) (by decide +kernel), by decide +kernel⟩, ⟨List.mem_of_getElem? (i := 31) (by decide +kernel), by decide +kernel⟩, by decide +kernel, by decide +kernel, by decide +kernel, by decide⟩
theorem s_LW_antigen : stM M_LW_antigen 4 := ⟨mc_LW_antigen, ⟨List.mem_of_getElem? (i := 301) (by decide +kernel), by decide +kernel⟩, by decide +kernel, by decide⟩
def M_LW_process : ev_M := (⟨"TypedBloodLaw", "process", "(LTypedBlood;II[J)I"⟩, method_6_code, 5, some (.int), [(0, 10, 13, 25), (0, 10, 17, 13), (0, 10, 21, 19), (0, 10, 25, 31)], 6)
theorem mc_LW_process : mcw M_LW_process := ⟨Or.inl ⟨List.mem_of_getElem? (i := 336) (by decide +kernel), by decide +kernel⟩, ⟨List.mem_of_getElem? (i := 31) (by decide +kernel), by decide +kernel⟩, by decide +kernel, by decide +kernel, by decide +kernel, by decide⟩
theorem s_LW_process : stM M_LW_process 4 := ⟨mc_LW_process, ⟨List.mem_of_getElem? (i := 335) (by decide +kernel), by decide +kernel⟩, by decide +kernel, by decide⟩
def M_LW_pool : ev_M := (⟨"TypedBloodLaw", "pool", "(LTypedBlood;II[J)I"⟩, method_7_code, 5, some (.int), [(0, 10, 13, 25), (0, 10, 17, 13), (0, 10, 21, 19), (0, 10, 25, 31)], 6)
theorem mc_LW_pool : mcw M_LW_pool := ⟨Or.inl ⟨List.mem_of_getElem? (i := 396) (by decide +kernel), by decide +kernel⟩, ⟨List.mem_of_getElem? (i := 31) (by decide +kernel), by decide +kernel⟩, by decide +kernel, by decide +kernel, by decide +kernel, by decide⟩
theorem s_LW_pool : stM M_LW_pool 4 := ⟨mc_LW_pool, ⟨List.mem_of_getElem? (i := 395) (by decide +kernel), by decide +kernel⟩, by decide +kernel, by decide⟩
def M_LW_patient : ev_M := (⟨"TypedBloodLaw", "patient", "(LTypedBlood;[J)I"⟩, method_8_code, 3, some (.int), [(0, 8, 11, 19)], 5)
theorem mc_LW_patient : mcw M_LW_patient := ⟨Or.inl ⟨List.mem_of_getElem? (i := 410) (by decide +kernel), by decide +kernel⟩, ⟨List.mem_of_getElem? (i := 31) (by decide +kernel), by decide +kernel⟩, by decide +kernel, by decide +kernel, by decide +kernel, by decide⟩
theorem s_LW_patient : stM M_LW_patient 2 := ⟨mc_LW_patient, ⟨List.mem_of_getElem? (i := 409) (by decide +kernel), by decide +kernel⟩, by decide +kernel, by decide⟩
def M_LW_sample : ev_M := (⟨"TypedBloodLaw", "sample", "(LTypedBlood;III[J)I"⟩, method_9_code, 6, some (.int), [(0, 12, 15, 25), (0, 12, 19, 13), (0, 12, 23, 19)], 6)
theorem mc_LW_sample : mcw M_LW_sample := ⟨Or.inl ⟨List.mem_of_getElem? (i := 450) (by decide +kernel), by decide +kernel⟩, ⟨List.mem_of_getElem? (i := 31) (by decide +kernel), by decide +kernel⟩, by decide +kernel, by decide +kernel, by decide +kernel, by decide⟩
theorem s_LW_sample : stM M_LW_sample 5 := ⟨mc_LW_sample, ⟨List.mem_of_getElem? (i := 449) (by decide +kernel), by decide +kernel⟩, by decide +kernel, by decide⟩
def M_LW_unlock : ev_M := (⟨"TypedBloodLaw", "unlock", "(LTypedBlood;III)I"⟩, method_10_code, 5, some (.int), [(0, 7, 10, 25), (0, 7, 14, 13), (0, 7, 18, 19)], 6)
theorem mc_LW_unlock : mcw M_LW_unlock := ⟨Or.inl ⟨List.mem_of_getElem? (i := 468) (by decide +kernel), by decide +kernel⟩, ⟨List.mem_of_getElem? (i := 31) (by decide +kernel), by decide +kernel⟩, by decide +kernel, by decide +kernel, by decide +kernel, by decide⟩
theorem s_LW_unlock : stM M_LW_unlock 4 := ⟨mc_LW_unlock, ⟨List.mem_of_getElem? (i := 467) (by decide +kernel), by decide +kernel⟩, by decide +kernel, by decide⟩
def M_LW_antibody : ev_M := (⟨"TypedBloodLaw", "antibody", "(LTypedBlood;II[J)I"⟩, method_11_code, 5, some (.int), [(0, 10, 13, 25), (0, 10, 17, 13)], 6)
theorem mc_LW_antibody : mcw M_LW_antibody := ⟨Or.inl ⟨List.mem_of_getElem? (i := 480) (by decide +kernel), by decide +kernel⟩, ⟨List.mem_of_getElem? (i := 31) (by decide +kernel), by decide +kernel⟩, by decide +kernel, by decide +kernel, by decide +kernel, by decide⟩
theorem s_LW_antibody : stM M_LW_antibody 4 := ⟨mc_LW_antibody, ⟨List.mem_of_getElem? (i := 479) (by decide +kernel), by decide +kernel⟩, by decide +kernel, by decide⟩
def M_LW_need : ev_M := (⟨"TypedBloodLaw", "need", "(LTypedBlood;II[J)I"⟩, method_12_code, 5, some (.int), [(0, 10, 13, 25), (0, 10, 17, 13)], 6)
theorem mc_LW_need : mcw M_LW_need := ⟨Or.inl ⟨List.mem_of_getElem? (i := 494) (by decide +kernel), by decide +kernel⟩, ⟨List.mem_of_getElem? (i := 31) (by decide +kernel), by decide +kernel⟩, by decide +kernel, by decide +kernel, by decide +kernel, by decide⟩
theorem s_LW_need : stM M_LW_need 4 := ⟨mc_LW_need, ⟨List.mem_of_getElem? (i := 493) (by decide +kernel), by decide +kernel⟩, by decide +kernel, by decide⟩
def M_LW_crossmatch : ev_M := (⟨"TypedBloodLaw", "crossmatch", "(LTypedBlood;IIZ)I"⟩, method_13_code, 5, some (.int), [(0, 7, 10, 25), (0, 7, 14, 19), (0, 7, 18, 31)], 6)
theorem mc_LW_crossmatch : mcw M_LW_crossmatch := ⟨Or.inl ⟨List.mem_of_getElem? (i := 502) (by decide +kernel), by decide +kernel⟩, ⟨List.mem_of_getElem? (i := 31) (by decide +kernel), by decide +kernel⟩, by decide +kernel, by decide +kernel, by decide +kernel, by decide⟩
theorem s_LW_crossmatch : stM M_LW_crossmatch 4 := ⟨mc_LW_crossmatch, ⟨List.mem_of_getElem? (i := 501) (by decide +kernel), by decide +kernel⟩, by decide +kernel, by decide⟩
def M_LW_reserve : ev_M := (⟨"TypedBloodLaw", "reserve", "(LTypedBlood;II[J)I"⟩, method_14_code, 5, some (.int), [(0, 10, 13, 25), (0, 10, 17, 19), (0, 10, 21, 31)], 6)
theorem mc_LW_reserve : mcw M_LW_reserve := ⟨Or.inl ⟨List.mem_of_getElem? (i := 519) (by decide +kernel), by decide +kernel⟩, ⟨List.mem_of_getElem? (i := 31) (by decide +kernel), by decide +kernel⟩, by decide +kernel, by decide +kernel, by decide +kernel, by decide⟩
theorem s_LW_reserve : stM M_LW_reserve 4 := ⟨mc_LW_reserve, ⟨List.mem_of_getElem? (i := 518) (by decide +kernel), by decide +kernel⟩, by decide +kernel, by decide⟩
def M_LW_release : ev_M := (⟨"TypedBloodLaw", "release", "(LTypedBlood;I[J)I"⟩, method_15_code, 4, some (.int), [(0, 9, 12, 25), (0, 9, 15, 19)], 6)
theorem mc_LW_release : mcw M_LW_release := ⟨Or.inl ⟨List.mem_of_getElem? (i := 554) (by decide +kernel), by decide +kernel⟩, ⟨List.mem_of_getElem? (i := 31) (by decide +kernel), by decide +kernel⟩, by decide +kernel, by decide +kernel, by decide +kernel, by decide⟩
theorem s_LW_release : stM M_LW_release 3 := ⟨mc_LW_release, ⟨List.mem_of_getElem? (i := 553) (by decide +kernel), by decide +kernel⟩, by decide +kernel, by decide⟩
def M_LW_issue : ev_M := (⟨"TypedBloodLaw", "issue", "(LTypedBlood;II[J)I"⟩, method_16_code, 5, some (.int), [(0, 10, 13, 25), (0, 10, 17, 19), (0, 10, 21, 31)], 6)
theorem mc_LW_issue : mcw M_LW_issue := ⟨Or.inl ⟨List.mem_of_getElem? (i := 563) (by decide +kernel), by decide +kernel⟩, ⟨List.mem_of_getElem? (i := 31) (by decide +kernel), by decide +kernel⟩, by decide +kernel, by decide +kernel, by decide +kernel, by decide⟩
theorem s_LW_issue : stM M_LW_issue 4 := ⟨mc_LW_issue, ⟨List.mem_of_getElem? (i := 562) (by decide +kernel), by decide +kernel⟩, by decide +kernel, by decide⟩
def M_LW_emergency : ev_M := (⟨"TypedBloodLaw", "emergency", "(LTypedBlood;III[J)I"⟩, method_17_code, 6, some (.int), [(0, 12, 15, 25), (0, 12, 19, 13), (0, 12, 23, 19), (0, 12, 27, 31)], 6)
theorem mc_LW_emergency : mcw M_LW_emergency := ⟨Or.inl ⟨List.mem_of_getElem? (i := 591) (by decide +kernel), by decide +kernel⟩, ⟨List.mem_of_getElem? (i := 31) (by decide +kernel), by decide +kernel⟩, by decide +kernel, by decide +kernel, by decide +kernel, by decide⟩
theorem s_LW_emergency : stM M_LW_emergency 5 := ⟨mc_LW_emergency, ⟨List.mem_of_getElem? (i := 590) (by decide +kernel), by decide +kernel⟩, by decide +kernel, by decide⟩
def M_LW_giveBack : ev_M := (⟨"TypedBloodLaw", "giveBack", "(LTypedBlood;I[J)I"⟩, method_18_code, 4, some (.int), [(0, 9, 12, 25), (0, 9, 15, 19)], 6)
theorem mc_LW_giveBack : mcw M_LW_giveBack := ⟨Or.inl ⟨List.mem_of_getElem? (i := 604) (by decide +kernel), by decide +kernel⟩, ⟨List.mem_of_getElem? (i := 31) (by decide +kernel), by decide +kernel⟩, by decide +kernel, by decide +kernel, by decide +kernel, by decide⟩
theorem s_LW_giveBack : stM M_LW_giveBack 3 := ⟨mc_LW_giveBack, ⟨List.mem_of_getElem? (i := 603) (by decide +kernel), by decide +kernel⟩, by decide +kernel, by decide⟩
def M_LW_transfused : ev_M := (⟨"TypedBloodLaw", "transfused", "(LTypedBlood;I[J)I"⟩, method_19_code, 4, some (.int), [(0, 9, 12, 25), (0, 9, 15, 19)], 6)
theorem mc_LW_transfused : mcw M_LW_transfused := ⟨Or.inl ⟨List.mem_of_getElem? (i := 612) (by decide +kernel), by decide +kernel⟩, ⟨List.mem_of_getElem? (i := 31) (by decide +kernel), by decide +kernel⟩, by decide +kernel, by decide +kernel, by decide +kernel, by decide⟩
theorem s_LW_transfused : stM M_LW_transfused 3 := ⟨mc_LW_transfused, ⟨List.mem_of_getElem? (i := 611) (by decide +kernel), by decide +kernel⟩, by decide +kernel, by decide⟩
def M_LW_discard : ev_M := (⟨"TypedBloodLaw", "discard", "(LTypedBlood;II[J)I"⟩, method_20_code, 5, some (.int), [(0, 10, 13, 25), (0, 10, 17, 13), (0, 10, 21, 19)], 6)
theorem mc_LW_discard : mcw M_LW_discard := ⟨Or.inl ⟨List.mem_of_getElem? (i := 620) (by decide +kernel), by decide +kernel⟩, ⟨List.mem_of_getElem? (i := 31) (by decide +kernel), by decide +kernel⟩, by decide +kernel, by decide +kernel, by decide +kernel, by decide⟩
theorem s_LW_discard : stM M_LW_discard 4 := ⟨mc_LW_discard, ⟨List.mem_of_getElem? (i := 619) (by decide +kernel), by decide +kernel⟩, by decide +kernel, by decide⟩
def M_LW_quarantine : ev_M := (⟨"TypedBloodLaw", "quarantine", "(LTypedBlood;IZ[J)I"⟩, method_21_code, 5, some (.int), [(0, 10, 13, 13)], 5)
theorem mc_LW_quarantine : mcw M_LW_quarantine := ⟨Or.inl ⟨List.mem_of_getElem? (i := 633) (by decide +kernel), by decide +kernel⟩, ⟨List.mem_of_getElem? (i := 31) (by decide +kernel), by decide +kernel⟩, by decide +kernel, by decide +kernel, by decide +kernel, by decide⟩
theorem s_LW_quarantine : stM M_LW_quarantine 4 := ⟨mc_LW_quarantine, ⟨List.mem_of_getElem? (i := 632) (by decide +kernel), by decide +kernel⟩, by decide +kernel, by decide⟩
def M_LW_of : ev_M := (⟨"TypedBloodLaw", "of", "(LTypedBlood;II[J)I"⟩, method_22_code, 5, some (.int), [(0, 10, 13, 25), (0, 10, 17, 85)], 6)
theorem mc_LW_of : mcw M_LW_of := ⟨Or.inl ⟨List.mem_of_getElem? (i := 641) (by decide +kernel), by decide +kernel⟩, ⟨List.mem_of_getElem? (i := 31) (by decide +kernel), by decide +kernel⟩, by decide +kernel, by decide +kernel, by decide +kernel, by decide⟩
theorem s_LW_of : stM M_LW_of 4 := ⟨mc_LW_of, ⟨List.mem_of_getElem? (i := 640) (by decide +kernel), by decide +kernel⟩, by decide +kernel, by decide⟩
def M_LW_has : ev_M := (⟨"TypedBloodLaw", "has", "(LTypedBlood;II[J)I"⟩, method_23_code, 5, some (.int), [(0, 10, 13, 25), (0, 10, 17, 85)], 6)
theorem mc_LW_has : mcw M_LW_has := ⟨Or.inl ⟨List.mem_of_getElem? (i := 665) (by decide +kernel), by decide +kernel⟩, ⟨List.mem_of_getElem? (i := 31) (by decide +kernel), by decide +kernel⟩, by decide +kernel, by decide +kernel, by decide +kernel, by decide⟩
theorem s_LW_has : stM M_LW_has 4 := ⟨mc_LW_has, ⟨List.mem_of_getElem? (i := 664) (by decide +kernel), by decide +kernel⟩, by decide +kernel, by decide⟩
def M_LW_who : ev_M := (⟨"TypedBloodLaw", "who", "(LTypedBlood;II[J)I"⟩, method_24_code, 5, some (.int), [(0, 10, 13, 25), (0, 10, 17, 85)], 6)
theorem mc_LW_who : mcw M_LW_who := ⟨Or.inl ⟨List.mem_of_getElem? (i := 676) (by decide +kernel), by decide +kernel⟩, ⟨List.mem_of_getElem? (i := 31) (by decide +kernel), by decide +kernel⟩, by decide +kernel, by decide +kernel, by decide +kernel, by decide⟩
theorem s_LW_who : stM M_LW_who 4 := ⟨mc_LW_who, ⟨List.mem_of_getElem? (i := 675) (by decide +kernel), by decide +kernel⟩, by decide +kernel, by decide⟩
def M_LW_why : ev_M := (⟨"TypedBloodLaw", "why", "(LTypedBlood;II[J)I"⟩, method_25_code, 5, some (.int), [(0, 10, 13, 25)], 6)
theorem mc_LW_why : mcw M_LW_why := ⟨Or.inl ⟨List.mem_of_getElem? (i := 683) (by decide +kernel), by decide +kernel⟩, ⟨List.mem_of_getElem? (i := 31) (by decide +kernel), by decide +kernel⟩, by decide +kernel, by decide +kernel, by decide +kernel, by decide⟩
theorem s_LW_why : stM M_LW_why 4 := ⟨mc_LW_why, ⟨List.mem_of_getElem? (i := 682) (by decide +kernel), by decide +kernel⟩, by decide +kernel, by decide⟩
def M_LW_offer : ev_M := (⟨"TypedBloodLaw", "offer", "(LTypedBlood;III[J)I"⟩, method_26_code, 6, some (.int), [(0, 12, 15, 25), (0, 12, 19, 13)], 6)
theorem mc_LW_offer : mcw M_LW_offer := ⟨Or.inl ⟨List.mem_of_getElem? (i := 690) (by decide +kernel), by decide +kernel⟩, ⟨List.mem_of_getElem? (i := 31) (by decide +kernel), by decide +kernel⟩, by decide +kernel, by decide +kernel, by decide +kernel, by decide⟩
theorem s_LW_offer : stM M_LW_offer 5 := ⟨mc_LW_offer, ⟨List.mem_of_getElem? (i := 689) (by decide +kernel), by decide +kernel⟩, by decide +kernel, by decide⟩
def M_LW_stock : ev_M := (⟨"TypedBloodLaw", "stock", "(LTypedBlood;III[J)I"⟩, method_27_code, 6, some (.int), [(0, 12, 15, 13)], 5)
theorem mc_LW_stock : mcw M_LW_stock := ⟨Or.inl ⟨List.mem_of_getElem? (i := 710) (by decide +kernel), by decide +kernel⟩, ⟨List.mem_of_getElem? (i := 31) (by decide +kernel), by decide +kernel⟩, by decide +kernel, by decide +kernel, by decide +kernel, by decide⟩
theorem s_LW_stock : stM M_LW_stock 5 := ⟨mc_LW_stock, ⟨List.mem_of_getElem? (i := 709) (by decide +kernel), by decide +kernel⟩, by decide +kernel, by decide⟩
def M_LW_expiring : ev_M := (⟨"TypedBloodLaw", "expiring", "(LTypedBlood;II[J)I"⟩, method_28_code, 5, some (.int), [(0, 10, 13, 13)], 5)
theorem mc_LW_expiring : mcw M_LW_expiring := ⟨Or.inl ⟨List.mem_of_getElem? (i := 718) (by decide +kernel), by decide +kernel⟩, ⟨List.mem_of_getElem? (i := 31) (by decide +kernel), by decide +kernel⟩, by decide +kernel, by decide +kernel, by decide +kernel, by decide⟩
theorem s_LW_expiring : stM M_LW_expiring 4 := ⟨mc_LW_expiring, ⟨List.mem_of_getElem? (i := 717) (by decide +kernel), by decide +kernel⟩, by decide +kernel, by decide⟩
def M_LW_lookback : ev_M := (⟨"TypedBloodLaw", "lookback", "(LTypedBlood;II[J)I"⟩, method_29_code, 5, some (.int), [(0, 10, 13, 13)], 5)
theorem mc_LW_lookback : mcw M_LW_lookback := ⟨Or.inl ⟨List.mem_of_getElem? (i := 726) (by decide +kernel), by decide +kernel⟩, ⟨List.mem_of_getElem? (i := 31) (by decide +kernel), by decide +kernel⟩, by decide +kernel, by decide +kernel, by decide +kernel, by decide⟩
theorem s_LW_lookback : stM M_LW_lookback 4 := ⟨mc_LW_lookback, ⟨List.mem_of_getElem? (i := 725) (by decide +kernel), by decide +kernel⟩, by decide +kernel, by decide⟩
def M_LW_received : ev_M := (⟨"TypedBloodLaw", "received", "(LTypedBlood;II[J)I"⟩, method_30_code, 5, some (.int), [(0, 10, 13, 25)], 6)
theorem mc_LW_received : mcw M_LW_received := ⟨Or.inl ⟨List.mem_of_getElem? (i := 737) (by decide +kernel), by decide +kernel⟩, ⟨List.mem_of_getElem? (i := 31) (by decide +kernel), by decide +kernel⟩, by decide +kernel, by decide +kernel, by decide +kernel, by decide⟩
theorem s_LW_received : stM M_LW_received 4 := ⟨mc_LW_received, ⟨List.mem_of_getElem? (i := 736) (by decide +kernel), by decide +kernel⟩, by decide +kernel, by decide⟩
def M_LW_count : ev_M := (⟨"TypedBloodLaw", "count", "(LTypedBlood;II[J)I"⟩, method_31_code, 5, some (.int), [(0, 10, 13, 13)], 5)
theorem mc_LW_count : mcw M_LW_count := ⟨Or.inl ⟨List.mem_of_getElem? (i := 744) (by decide +kernel), by decide +kernel⟩, ⟨List.mem_of_getElem? (i := 31) (by decide +kernel), by decide +kernel⟩, by decide +kernel, by decide +kernel, by decide +kernel, by decide⟩
theorem s_LW_count : stM M_LW_count 4 := ⟨mc_LW_count, ⟨List.mem_of_getElem? (i := 743) (by decide +kernel), by decide +kernel⟩, by decide +kernel, by decide⟩
def M_LW_law : ev_M := (⟨"TypedBloodLaw", "law", "([I)Z"⟩, code, 7, some (.boolean), [], 9)
def M_JI_bitCount : ev_M := (⟨"java/lang/Integer", "bitCount", "(I)I"⟩, prog_12_method_49_code, 1, some (.int), [], 0)
theorem mc_JI_bitCount : mcw M_JI_bitCount := ⟨Or.inr ⟨rfl, ⟨List.mem_of_getElem? (i := 488) (by decide +kernel), by decide +kernel⟩⟩, ⟨List.mem_of_getElem? (i := 45) (by decide +kernel), by decide +kernel⟩, by decide +kernel, by decide +kernel, by decide +kernel, by decide⟩
theorem s_JI_bitCount : stM M_JI_bitCount 1 := ⟨mc_JI_bitCount, ⟨List.mem_of_getElem? (i := 487) (by decide +kernel), by decide +kernel⟩, by decide +kernel, by decide⟩
def M_JM_min : ev_M := (⟨"java/lang/Math", "min", "(II)I"⟩, prog_13_method_69_code, 2, some (.int), [], 0)
theorem mc_JM_min : mcw M_JM_min := ⟨Or.inr ⟨rfl, ⟨List.mem_of_getElem? (i := 389) (by decide +kernel), by decide +kernel⟩⟩, ⟨List.mem_of_getElem? (i := 43) (by decide +kernel), by decide +kernel⟩, by decide +kernel, by decide +kernel, by decide +kernel, by decide⟩
theorem s_JM_min : stM M_JM_min 2 := ⟨mc_JM_min, ⟨List.mem_of_getElem? (i := 388) (by decide +kernel), by decide +kernel⟩, by decide +kernel, by decide⟩
theorem w_oi : wd (.instanceMethod Lib.objectInit) := ⟨List.mem_of_getElem? (i := 54) (by decide +kernel), by decide +kernel⟩
theorem w_oc : wd (.code Lib.objectInit ⟨#[0xb1]⟩ 1 none) := ⟨List.mem_of_getElem? (i := 55) (by decide +kernel), by decide +kernel⟩
theorem cl_LW_8 : wd (.classLink "TypedBloodLaw" 8 "TypedBlood") := ⟨List.mem_of_getElem? (i := 48) (by decide +kernel), by decide +kernel⟩
theorem nw_LW_8 : nwd "TypedBloodLaw" 8 0 := ⟨by decide, cl_LW_8, ⟨List.mem_of_getElem? (i := 49) (by decide +kernel), by decide +kernel⟩, ⟨List.mem_of_getElem? (i := 32) (by decide +kernel), by decide +kernel⟩⟩
theorem lk_LW_114 : wd (.methodLink "TypedBloodLaw" 114 ⟨"TypedBlood", "<init>", "()V"⟩) := ⟨List.mem_of_getElem? (i := 50) (by decide +kernel), by decide +kernel⟩
theorem lk_TB_1 : wd (.methodLink "TypedBlood" 1 ⟨"java/lang/Object", "<init>", "()V"⟩) := ⟨List.mem_of_getElem? (i := 53) (by decide +kernel), by decide +kernel⟩
theorem cl_TB_9 : wd (.classLink "TypedBlood" 9 "TypedBlood$Unit") := ⟨List.mem_of_getElem? (i := 56) (by decide +kernel), by decide +kernel⟩
theorem nw_TB_9 : nwd "TypedBlood" 9 1 := ⟨by decide, cl_TB_9, ⟨List.mem_of_getElem? (i := 226) (by decide +kernel), by decide +kernel⟩, ⟨List.mem_of_getElem? (i := 40) (by decide +kernel), by decide +kernel⟩⟩
theorem cl_TB_15 : wd (.classLink "TypedBlood" 15 "TypedBlood$Patient") := ⟨List.mem_of_getElem? (i := 58) (by decide +kernel), by decide +kernel⟩
theorem nw_TB_15 : nwd "TypedBlood" 15 2 := ⟨by decide, cl_TB_15, ⟨List.mem_of_getElem? (i := 416) (by decide +kernel), by decide +kernel⟩, ⟨List.mem_of_getElem? (i := 44) (by decide +kernel), by decide +kernel⟩⟩
theorem cl_TB_21 : wd (.classLink "TypedBlood" 21 "TypedBlood$Ranking") := ⟨List.mem_of_getElem? (i := 60) (by decide +kernel), by decide +kernel⟩
theorem nw_TB_21 : nwd "TypedBlood" 21 3 := ⟨by decide, cl_TB_21, ⟨List.mem_of_getElem? (i := 61) (by decide +kernel), by decide +kernel⟩, ⟨List.mem_of_getElem? (i := 33) (by decide +kernel), by decide +kernel⟩⟩
theorem lk_TB_23 : wd (.methodLink "TypedBlood" 23 ⟨"TypedBlood$Ranking", "<init>", "(I)V"⟩) := ⟨List.mem_of_getElem? (i := 62) (by decide +kernel), by decide +kernel⟩
theorem lk_RK_3 : wd (.methodLink "TypedBlood$Ranking" 3 ⟨"java/lang/Object", "<init>", "()V"⟩) := ⟨List.mem_of_getElem? (i := 65) (by decide +kernel), by decide +kernel⟩
theorem fl_RK_9 : fld "TypedBlood$Ranking" 9 3 0 := ⟨by decide, by decide, ⟨List.mem_of_getElem? (i := 66) (by decide +kernel), by decide +kernel⟩⟩
theorem fl_RK_15 : fld "TypedBlood$Ranking" 15 3 1 := ⟨by decide, by decide, ⟨List.mem_of_getElem? (i := 67) (by decide +kernel), by decide +kernel⟩⟩
theorem fl_RK_18 : fld "TypedBlood$Ranking" 18 3 2 := ⟨by decide, by decide, ⟨List.mem_of_getElem? (i := 68) (by decide +kernel), by decide +kernel⟩⟩
theorem fl_TB_11 : fld "TypedBlood" 11 0 0 := ⟨by decide, by decide, ⟨List.mem_of_getElem? (i := 77) (by decide +kernel), by decide +kernel⟩⟩
theorem fl_TB_17 : fld "TypedBlood" 17 0 1 := ⟨by decide, by decide, ⟨List.mem_of_getElem? (i := 78) (by decide +kernel), by decide +kernel⟩⟩
theorem fl_TB_26 : fld "TypedBlood" 26 0 2 := ⟨by decide, by decide, ⟨List.mem_of_getElem? (i := 79) (by decide +kernel), by decide +kernel⟩⟩
theorem fl_TB_42 : fld "TypedBlood" 42 0 3 := ⟨by decide, by decide, ⟨List.mem_of_getElem? (i := 80) (by decide +kernel), by decide +kernel⟩⟩
theorem fl_TB_140 : fld "TypedBlood" 140 0 4 := ⟨by decide, by decide, ⟨List.mem_of_getElem? (i := 81) (by decide +kernel), by decide +kernel⟩⟩
theorem fl_TB_38 : fld "TypedBlood" 38 0 5 := ⟨by decide, by decide, ⟨List.mem_of_getElem? (i := 82) (by decide +kernel), by decide +kernel⟩⟩
theorem fl_TB_257 : fld "TypedBlood" 257 0 6 := ⟨by decide, by decide, ⟨List.mem_of_getElem? (i := 83) (by decide +kernel), by decide +kernel⟩⟩
theorem fl_TB_328 : fld "TypedBlood" 328 0 7 := ⟨by decide, by decide, ⟨List.mem_of_getElem? (i := 84) (by decide +kernel), by decide +kernel⟩⟩
theorem lk_LW_118 : wd (.methodLink "TypedBloodLaw" 118 ⟨"TypedBloodLaw", "pass", "(LTypedBlood;I[J)I"⟩) := ⟨List.mem_of_getElem? (i := 102) (by decide +kernel), by decide +kernel⟩
theorem lk_LW_7 : wd (.methodLink "TypedBloodLaw" 7 ⟨"TypedBlood", "pass", "(I)I"⟩) := ⟨List.mem_of_getElem? (i := 106) (by decide +kernel), by decide +kernel⟩
theorem w_con_TB_30 : wd (.constant "TypedBlood" 30 50000) := ⟨List.mem_of_getElem? (i := 110) (by decide +kernel), by decide +kernel⟩
theorem lk_TB_45 : wd (.methodLink "TypedBlood" 45 ⟨"TypedBlood$Unit", "endReservationWhenOver", "(I)V"⟩) := ⟨List.mem_of_getElem? (i := 181) (by decide +kernel), by decide +kernel⟩
theorem lk_UN_45 : wd (.methodLink "TypedBlood$Unit" 45 ⟨"TypedBlood$Unit", "store", "()V"⟩) := ⟨List.mem_of_getElem? (i := 185) (by decide +kernel), by decide +kernel⟩
theorem lk_LW_127 : wd (.methodLink "TypedBloodLaw" 127 ⟨"TypedBloodLaw", "unit", "(LTypedBlood;IIIII[J)I"⟩) := ⟨List.mem_of_getElem? (i := 189) (by decide +kernel), by decide +kernel⟩
theorem lk_LW_15 : wd (.methodLink "TypedBloodLaw" 15 ⟨"TypedBlood", "unit", "(IIIII)I"⟩) := ⟨List.mem_of_getElem? (i := 193) (by decide +kernel), by decide +kernel⟩
theorem lk_TB_48 : wd (.methodLink "TypedBlood" 48 ⟨"TypedBlood", "isBelow", "(II)Z"⟩) := ⟨List.mem_of_getElem? (i := 197) (by decide +kernel), by decide +kernel⟩
theorem lk_TB_52 : wd (.methodLink "TypedBlood" 52 ⟨"TypedBlood", "isBloodType", "(II)Z"⟩) := ⟨List.mem_of_getElem? (i := 200) (by decide +kernel), by decide +kernel⟩
theorem w_con_TB_57 : wd (.constant "TypedBlood" 57 60000) := ⟨List.mem_of_getElem? (i := 204) (by decide +kernel), by decide +kernel⟩
theorem lk_TB_60 : wd (.methodLink "TypedBlood" 60 ⟨"TypedBlood", "hasRoomFor", "(I)Z"⟩) := ⟨List.mem_of_getElem? (i := 206) (by decide +kernel), by decide +kernel⟩
theorem lk_TB_69 : wd (.methodLink "TypedBlood" 69 ⟨"TypedBlood$Unit", "<init>", "(IIIII)V"⟩) := ⟨List.mem_of_getElem? (i := 227) (by decide +kernel), by decide +kernel⟩
theorem lk_UN_3 : wd (.methodLink "TypedBlood$Unit" 3 ⟨"java/lang/Object", "<init>", "()V"⟩) := ⟨List.mem_of_getElem? (i := 230) (by decide +kernel), by decide +kernel⟩
theorem fl_UN_21 : fld "TypedBlood$Unit" 21 1 0 := ⟨by decide, by decide, ⟨List.mem_of_getElem? (i := 231) (by decide +kernel), by decide +kernel⟩⟩
theorem fl_RU_9 : fld "TypedBlood$Rules" 9 1 0 := ⟨by decide, by decide, ⟨List.mem_of_getElem? (i := 232) (by decide +kernel), by decide +kernel⟩⟩
theorem fl_TB_99 : fld "TypedBlood" 99 1 0 := ⟨by decide, by decide, ⟨List.mem_of_getElem? (i := 233) (by decide +kernel), by decide +kernel⟩⟩
theorem fl_UN_24 : fld "TypedBlood$Unit" 24 1 1 := ⟨by decide, by decide, ⟨List.mem_of_getElem? (i := 234) (by decide +kernel), by decide +kernel⟩⟩
theorem fl_RU_42 : fld "TypedBlood$Rules" 42 1 1 := ⟨by decide, by decide, ⟨List.mem_of_getElem? (i := 235) (by decide +kernel), by decide +kernel⟩⟩
theorem fl_TB_128 : fld "TypedBlood" 128 1 1 := ⟨by decide, by decide, ⟨List.mem_of_getElem? (i := 236) (by decide +kernel), by decide +kernel⟩⟩
theorem fl_UN_27 : fld "TypedBlood$Unit" 27 1 2 := ⟨by decide, by decide, ⟨List.mem_of_getElem? (i := 237) (by decide +kernel), by decide +kernel⟩⟩
theorem fl_RU_21 : fld "TypedBlood$Rules" 21 1 2 := ⟨by decide, by decide, ⟨List.mem_of_getElem? (i := 238) (by decide +kernel), by decide +kernel⟩⟩
theorem fl_TB_131 : fld "TypedBlood" 131 1 2 := ⟨by decide, by decide, ⟨List.mem_of_getElem? (i := 239) (by decide +kernel), by decide +kernel⟩⟩
theorem fl_UN_30 : fld "TypedBlood$Unit" 30 1 3 := ⟨by decide, by decide, ⟨List.mem_of_getElem? (i := 240) (by decide +kernel), by decide +kernel⟩⟩
theorem fl_TB_335 : fld "TypedBlood" 335 1 3 := ⟨by decide, by decide, ⟨List.mem_of_getElem? (i := 241) (by decide +kernel), by decide +kernel⟩⟩
theorem fl_UN_33 : fld "TypedBlood$Unit" 33 1 4 := ⟨by decide, by decide, ⟨List.mem_of_getElem? (i := 242) (by decide +kernel), by decide +kernel⟩⟩
theorem fl_TB_266 : fld "TypedBlood" 266 1 4 := ⟨by decide, by decide, ⟨List.mem_of_getElem? (i := 243) (by decide +kernel), by decide +kernel⟩⟩
theorem fl_UN_36 : fld "TypedBlood$Unit" 36 1 5 := ⟨by decide, by decide, ⟨List.mem_of_getElem? (i := 244) (by decide +kernel), by decide +kernel⟩⟩
theorem fl_TB_343 : fld "TypedBlood" 343 1 5 := ⟨by decide, by decide, ⟨List.mem_of_getElem? (i := 245) (by decide +kernel), by decide +kernel⟩⟩
theorem fl_RU_33 : fld "TypedBlood$Rules" 33 1 6 := ⟨by decide, by decide, ⟨List.mem_of_getElem? (i := 246) (by decide +kernel), by decide +kernel⟩⟩
theorem fl_UN_39 : fld "TypedBlood$Unit" 39 1 6 := ⟨by decide, by decide, ⟨List.mem_of_getElem? (i := 247) (by decide +kernel), by decide +kernel⟩⟩
theorem fl_TB_346 : fld "TypedBlood" 346 1 6 := ⟨by decide, by decide, ⟨List.mem_of_getElem? (i := 248) (by decide +kernel), by decide +kernel⟩⟩
theorem fl_RU_39 : fld "TypedBlood$Rules" 39 1 7 := ⟨by decide, by decide, ⟨List.mem_of_getElem? (i := 249) (by decide +kernel), by decide +kernel⟩⟩
theorem fl_TB_263 : fld "TypedBlood" 263 1 7 := ⟨by decide, by decide, ⟨List.mem_of_getElem? (i := 250) (by decide +kernel), by decide +kernel⟩⟩
theorem fl_UN_9 : fld "TypedBlood$Unit" 9 1 8 := ⟨by decide, by decide, ⟨List.mem_of_getElem? (i := 251) (by decide +kernel), by decide +kernel⟩⟩
theorem fl_TB_82 : fld "TypedBlood" 82 1 8 := ⟨by decide, by decide, ⟨List.mem_of_getElem? (i := 252) (by decide +kernel), by decide +kernel⟩⟩
theorem fl_UN_15 : fld "TypedBlood$Unit" 15 1 9 := ⟨by decide, by decide, ⟨List.mem_of_getElem? (i := 253) (by decide +kernel), by decide +kernel⟩⟩
theorem fl_TB_209 : fld "TypedBlood" 209 1 9 := ⟨by decide, by decide, ⟨List.mem_of_getElem? (i := 254) (by decide +kernel), by decide +kernel⟩⟩
theorem fl_UN_42 : fld "TypedBlood$Unit" 42 1 10 := ⟨by decide, by decide, ⟨List.mem_of_getElem? (i := 255) (by decide +kernel), by decide +kernel⟩⟩
theorem fl_TB_204 : fld "TypedBlood" 204 1 10 := ⟨by decide, by decide, ⟨List.mem_of_getElem? (i := 256) (by decide +kernel), by decide +kernel⟩⟩
theorem fl_UN_51 : fld "TypedBlood$Unit" 51 1 11 := ⟨by decide, by decide, ⟨List.mem_of_getElem? (i := 257) (by decide +kernel), by decide +kernel⟩⟩
theorem fl_TB_241 : fld "TypedBlood" 241 1 11 := ⟨by decide, by decide, ⟨List.mem_of_getElem? (i := 258) (by decide +kernel), by decide +kernel⟩⟩
theorem fl_UN_18 : fld "TypedBlood$Unit" 18 1 12 := ⟨by decide, by decide, ⟨List.mem_of_getElem? (i := 259) (by decide +kernel), by decide +kernel⟩⟩
theorem fl_TB_310 : fld "TypedBlood" 310 1 12 := ⟨by decide, by decide, ⟨List.mem_of_getElem? (i := 260) (by decide +kernel), by decide +kernel⟩⟩
theorem fl_UN_48 : fld "TypedBlood$Unit" 48 1 13 := ⟨by decide, by decide, ⟨List.mem_of_getElem? (i := 261) (by decide +kernel), by decide +kernel⟩⟩
theorem fl_TB_269 : fld "TypedBlood" 269 1 13 := ⟨by decide, by decide, ⟨List.mem_of_getElem? (i := 262) (by decide +kernel), by decide +kernel⟩⟩
theorem fl_UN_54 : fld "TypedBlood$Unit" 54 1 14 := ⟨by decide, by decide, ⟨List.mem_of_getElem? (i := 263) (by decide +kernel), by decide +kernel⟩⟩
theorem fl_TB_272 : fld "TypedBlood" 272 1 14 := ⟨by decide, by decide, ⟨List.mem_of_getElem? (i := 264) (by decide +kernel), by decide +kernel⟩⟩
theorem lk_TB_72 : wd (.methodLink "TypedBlood" 72 ⟨"TypedBlood", "keep", "(LTypedBlood$Unit;)I"⟩) := ⟨List.mem_of_getElem? (i := 296) (by decide +kernel), by decide +kernel⟩
theorem lk_LW_131 : wd (.methodLink "TypedBloodLaw" 131 ⟨"TypedBloodLaw", "antigen", "(LTypedBlood;III)I"⟩) := ⟨List.mem_of_getElem? (i := 300) (by decide +kernel), by decide +kernel⟩
theorem lk_LW_21 : wd (.methodLink "TypedBloodLaw" 21 ⟨"TypedBlood", "antigen", "(III)V"⟩) := ⟨List.mem_of_getElem? (i := 304) (by decide +kernel), by decide +kernel⟩
theorem lk_TB_76 : wd (.methodLink "TypedBlood" 76 ⟨"TypedBlood", "unitAt", "(I)LTypedBlood$Unit;"⟩) := ⟨List.mem_of_getElem? (i := 308) (by decide +kernel), by decide +kernel⟩
theorem lk_TB_87 : wd (.methodLink "TypedBlood" 87 ⟨"TypedBlood$Unit", "setAntigen", "(II)V"⟩) := ⟨List.mem_of_getElem? (i := 330) (by decide +kernel), by decide +kernel⟩
theorem lk_LW_135 : wd (.methodLink "TypedBloodLaw" 135 ⟨"TypedBloodLaw", "process", "(LTypedBlood;II[J)I"⟩) := ⟨List.mem_of_getElem? (i := 334) (by decide +kernel), by decide +kernel⟩
theorem lk_LW_27 : wd (.methodLink "TypedBloodLaw" 27 ⟨"TypedBlood", "process", "(II)I"⟩) := ⟨List.mem_of_getElem? (i := 338) (by decide +kernel), by decide +kernel⟩
theorem lk_TB_93 : wd (.methodLink "TypedBlood" 93 ⟨"TypedBlood", "isReady", "(LTypedBlood$Unit;)Z"⟩) := ⟨List.mem_of_getElem? (i := 343) (by decide +kernel), by decide +kernel⟩
theorem lk_TB_322 : wd (.methodLink "TypedBlood" 322 ⟨"TypedBlood", "isUsable", "(LTypedBlood$Unit;)Z"⟩) := ⟨List.mem_of_getElem? (i := 347) (by decide +kernel), by decide +kernel⟩
theorem lk_TB_300 : wd (.methodLink "TypedBlood" 300 ⟨"TypedBlood$Unit", "isExpired", "(I)Z"⟩) := ⟨List.mem_of_getElem? (i := 351) (by decide +kernel), by decide +kernel⟩
theorem lk_TB_260 : wd (.methodLink "TypedBlood" 260 ⟨"TypedBlood$Unit", "isBarred", "(I)Z"⟩) := ⟨List.mem_of_getElem? (i := 355) (by decide +kernel), by decide +kernel⟩
theorem lk_TB_102 : wd (.methodLink "TypedBlood" 102 ⟨"TypedBlood", "suits", "(II)Z"⟩) := ⟨List.mem_of_getElem? (i := 360) (by decide +kernel), by decide +kernel⟩
theorem lk_TB_110 : wd (.methodLink "TypedBlood" 110 ⟨"TypedBlood", "keepSplitProducts", "(LTypedBlood$Unit;)I"⟩) := ⟨List.mem_of_getElem? (i := 379) (by decide +kernel), by decide +kernel⟩
theorem lk_TB_120 : wd (.methodLink "TypedBlood" 120 ⟨"TypedBlood", "keepProduct", "(LTypedBlood$Unit;III)I"⟩) := ⟨List.mem_of_getElem? (i := 383) (by decide +kernel), by decide +kernel⟩
theorem lk_TB_338 : wd (.methodLink "TypedBlood" 338 ⟨"java/lang/Math", "min", "(II)I"⟩) := ⟨List.mem_of_getElem? (i := 387) (by decide +kernel), by decide +kernel⟩
theorem fs_TB_117 : wd (.fieldLink "TypedBlood" 117 "TypedBlood" "PRODUCT_LIMIT" "[I") := ⟨List.mem_of_getElem? (i := 390) (by decide +kernel), by decide +kernel⟩
theorem fs_TB_113 : wd (.fieldLink "TypedBlood" 113 "TypedBlood" "ADDED_MARK" "[I") := ⟨List.mem_of_getElem? (i := 392) (by decide +kernel), by decide +kernel⟩
theorem lk_LW_139 : wd (.methodLink "TypedBloodLaw" 139 ⟨"TypedBloodLaw", "pool", "(LTypedBlood;II[J)I"⟩) := ⟨List.mem_of_getElem? (i := 394) (by decide +kernel), by decide +kernel⟩
theorem lk_LW_33 : wd (.methodLink "TypedBloodLaw" 33 ⟨"TypedBlood", "pool", "(II)I"⟩) := ⟨List.mem_of_getElem? (i := 397) (by decide +kernel), by decide +kernel⟩
theorem lk_TB_136 : wd (.methodLink "TypedBlood" 136 ⟨"TypedBlood", "keepPooled", "(LTypedBlood$Unit;LTypedBlood$Unit;)I"⟩) := ⟨List.mem_of_getElem? (i := 404) (by decide +kernel), by decide +kernel⟩
theorem lk_LW_142 : wd (.methodLink "TypedBloodLaw" 142 ⟨"TypedBloodLaw", "patient", "(LTypedBlood;[J)I"⟩) := ⟨List.mem_of_getElem? (i := 408) (by decide +kernel), by decide +kernel⟩
theorem lk_LW_36 : wd (.methodLink "TypedBloodLaw" 36 ⟨"TypedBlood", "patient", "()I"⟩) := ⟨List.mem_of_getElem? (i := 411) (by decide +kernel), by decide +kernel⟩
theorem lk_TB_145 : wd (.methodLink "TypedBlood" 145 ⟨"TypedBlood$Patient", "<init>", "()V"⟩) := ⟨List.mem_of_getElem? (i := 417) (by decide +kernel), by decide +kernel⟩
theorem lk_PA_3 : wd (.methodLink "TypedBlood$Patient" 3 ⟨"java/lang/Object", "<init>", "()V"⟩) := ⟨List.mem_of_getElem? (i := 420) (by decide +kernel), by decide +kernel⟩
theorem fl_PA_9 : fld "TypedBlood$Patient" 9 2 0 := ⟨by decide, by decide, ⟨List.mem_of_getElem? (i := 421) (by decide +kernel), by decide +kernel⟩⟩
theorem fl_TB_152 : fld "TypedBlood" 152 2 0 := ⟨by decide, by decide, ⟨List.mem_of_getElem? (i := 422) (by decide +kernel), by decide +kernel⟩⟩
theorem fl_PA_15 : fld "TypedBlood$Patient" 15 2 1 := ⟨by decide, by decide, ⟨List.mem_of_getElem? (i := 423) (by decide +kernel), by decide +kernel⟩⟩
theorem fl_TB_283 : fld "TypedBlood" 283 2 1 := ⟨by decide, by decide, ⟨List.mem_of_getElem? (i := 424) (by decide +kernel), by decide +kernel⟩⟩
theorem fl_PA_18 : fld "TypedBlood$Patient" 18 2 2 := ⟨by decide, by decide, ⟨List.mem_of_getElem? (i := 425) (by decide +kernel), by decide +kernel⟩⟩
theorem fl_TB_284 : fld "TypedBlood" 284 2 2 := ⟨by decide, by decide, ⟨List.mem_of_getElem? (i := 426) (by decide +kernel), by decide +kernel⟩⟩
theorem fl_PA_25 : fld "TypedBlood$Patient" 25 2 3 := ⟨by decide, by decide, ⟨List.mem_of_getElem? (i := 427) (by decide +kernel), by decide +kernel⟩⟩
theorem fl_RU_30 : fld "TypedBlood$Rules" 30 2 4 := ⟨by decide, by decide, ⟨List.mem_of_getElem? (i := 428) (by decide +kernel), by decide +kernel⟩⟩
theorem fl_TB_168 : fld "TypedBlood" 168 2 4 := ⟨by decide, by decide, ⟨List.mem_of_getElem? (i := 429) (by decide +kernel), by decide +kernel⟩⟩
theorem fl_RU_36 : fld "TypedBlood$Rules" 36 2 5 := ⟨by decide, by decide, ⟨List.mem_of_getElem? (i := 430) (by decide +kernel), by decide +kernel⟩⟩
theorem fl_TB_179 : fld "TypedBlood" 179 2 5 := ⟨by decide, by decide, ⟨List.mem_of_getElem? (i := 431) (by decide +kernel), by decide +kernel⟩⟩
theorem fl_PA_21 : fld "TypedBlood$Patient" 21 2 6 := ⟨by decide, by decide, ⟨List.mem_of_getElem? (i := 432) (by decide +kernel), by decide +kernel⟩⟩
theorem lk_LW_146 : wd (.methodLink "TypedBloodLaw" 146 ⟨"TypedBloodLaw", "sample", "(LTypedBlood;III[J)I"⟩) := ⟨List.mem_of_getElem? (i := 448) (by decide +kernel), by decide +kernel⟩
theorem lk_LW_40 : wd (.methodLink "TypedBloodLaw" 40 ⟨"TypedBlood", "sample", "(III)I"⟩) := ⟨List.mem_of_getElem? (i := 451) (by decide +kernel), by decide +kernel⟩
theorem lk_TB_146 : wd (.methodLink "TypedBlood" 146 ⟨"TypedBlood", "patientAt", "(I)LTypedBlood$Patient;"⟩) := ⟨List.mem_of_getElem? (i := 455) (by decide +kernel), by decide +kernel⟩
theorem lk_TB_157 : wd (.methodLink "TypedBlood" 157 ⟨"TypedBlood$Patient", "takeSample", "(III)V"⟩) := ⟨List.mem_of_getElem? (i := 462) (by decide +kernel), by decide +kernel⟩
theorem lk_LW_150 : wd (.methodLink "TypedBloodLaw" 150 ⟨"TypedBloodLaw", "unlock", "(LTypedBlood;III)I"⟩) := ⟨List.mem_of_getElem? (i := 466) (by decide +kernel), by decide +kernel⟩
theorem lk_LW_44 : wd (.methodLink "TypedBloodLaw" 44 ⟨"TypedBlood", "unlock", "(III)V"⟩) := ⟨List.mem_of_getElem? (i := 469) (by decide +kernel), by decide +kernel⟩
theorem lk_TB_163 : wd (.methodLink "TypedBlood" 163 ⟨"TypedBlood$Patient", "confirm", "(II)V"⟩) := ⟨List.mem_of_getElem? (i := 474) (by decide +kernel), by decide +kernel⟩
theorem lk_LW_153 : wd (.methodLink "TypedBloodLaw" 153 ⟨"TypedBloodLaw", "antibody", "(LTypedBlood;II[J)I"⟩) := ⟨List.mem_of_getElem? (i := 478) (by decide +kernel), by decide +kernel⟩
theorem lk_LW_47 : wd (.methodLink "TypedBloodLaw" 47 ⟨"TypedBlood", "antibody", "(II)I"⟩) := ⟨List.mem_of_getElem? (i := 481) (by decide +kernel), by decide +kernel⟩
theorem lk_TB_171 : wd (.methodLink "TypedBlood" 171 ⟨"java/lang/Integer", "bitCount", "(I)I"⟩) := ⟨List.mem_of_getElem? (i := 486) (by decide +kernel), by decide +kernel⟩
theorem w_con_JI_265 : wd (.constant "java/lang/Integer" 265 1431655765) := ⟨List.mem_of_getElem? (i := 489) (by decide +kernel), by decide +kernel⟩
theorem w_con_JI_266 : wd (.constant "java/lang/Integer" 266 858993459) := ⟨List.mem_of_getElem? (i := 490) (by decide +kernel), by decide +kernel⟩
theorem w_con_JI_267 : wd (.constant "java/lang/Integer" 267 252645135) := ⟨List.mem_of_getElem? (i := 491) (by decide +kernel), by decide +kernel⟩
theorem lk_LW_156 : wd (.methodLink "TypedBloodLaw" 156 ⟨"TypedBloodLaw", "need", "(LTypedBlood;II[J)I"⟩) := ⟨List.mem_of_getElem? (i := 492) (by decide +kernel), by decide +kernel⟩
theorem lk_LW_50 : wd (.methodLink "TypedBloodLaw" 50 ⟨"TypedBlood", "need", "(II)I"⟩) := ⟨List.mem_of_getElem? (i := 495) (by decide +kernel), by decide +kernel⟩
theorem lk_LW_159 : wd (.methodLink "TypedBloodLaw" 159 ⟨"TypedBloodLaw", "crossmatch", "(LTypedBlood;IIZ)I"⟩) := ⟨List.mem_of_getElem? (i := 500) (by decide +kernel), by decide +kernel⟩
theorem lk_LW_53 : wd (.methodLink "TypedBloodLaw" 53 ⟨"TypedBlood", "crossmatch", "(IIZ)V"⟩) := ⟨List.mem_of_getElem? (i := 503) (by decide +kernel), by decide +kernel⟩
theorem lk_TB_182 : wd (.methodLink "TypedBlood" 182 ⟨"TypedBlood$Unit", "isInHouse", "()Z"⟩) := ⟨List.mem_of_getElem? (i := 507) (by decide +kernel), by decide +kernel⟩
theorem lk_TB_190 : wd (.methodLink "TypedBlood" 190 ⟨"TypedBlood$Patient", "noteCrossmatch", "(II)V"⟩) := ⟨List.mem_of_getElem? (i := 513) (by decide +kernel), by decide +kernel⟩
theorem lk_LW_163 : wd (.methodLink "TypedBloodLaw" 163 ⟨"TypedBloodLaw", "reserve", "(LTypedBlood;II[J)I"⟩) := ⟨List.mem_of_getElem? (i := 517) (by decide +kernel), by decide +kernel⟩
theorem lk_LW_57 : wd (.methodLink "TypedBloodLaw" 57 ⟨"TypedBlood", "reserve", "(II)I"⟩) := ⟨List.mem_of_getElem? (i := 520) (by decide +kernel), by decide +kernel⟩
theorem lk_TB_195 : wd (.methodLink "TypedBlood" 195 ⟨"TypedBlood", "isCleared", "(LTypedBlood$Patient;LTypedBlood$Unit;I)Z"⟩) := ⟨List.mem_of_getElem? (i := 525) (by decide +kernel), by decide +kernel⟩
theorem lk_TB_325 : wd (.methodLink "TypedBlood" 325 ⟨"TypedBlood$Patient", "hasValidCrossmatch", "(II)Z"⟩) := ⟨List.mem_of_getElem? (i := 529) (by decide +kernel), by decide +kernel⟩
theorem lk_TB_233 : wd (.methodLink "TypedBlood" 233 ⟨"TypedBlood$Rules", "reason", "(LTypedBlood$Patient;LTypedBlood$Unit;)I"⟩) := ⟨List.mem_of_getElem? (i := 533) (by decide +kernel), by decide +kernel⟩
theorem lk_RU_15 : wd (.methodLink "TypedBlood$Rules" 15 ⟨"TypedBlood$Rules", "groupFits", "(LTypedBlood$Patient;LTypedBlood$Unit;)Z"⟩) := ⟨List.mem_of_getElem? (i := 536) (by decide +kernel), by decide +kernel⟩
theorem lk_RU_45 : wd (.methodLink "TypedBlood$Rules" 45 ⟨"TypedBlood$Patient", "groupOr", "(I)I"⟩) := ⟨List.mem_of_getElem? (i := 539) (by decide +kernel), by decide +kernel⟩
theorem lk_RU_24 : wd (.methodLink "TypedBlood$Rules" 24 ⟨"TypedBlood$Patient", "isConfirmedWithRhesus", "()Z"⟩) := ⟨List.mem_of_getElem? (i := 543) (by decide +kernel), by decide +kernel⟩
theorem lk_TB_201 : wd (.methodLink "TypedBlood" 201 ⟨"TypedBlood$Unit", "reserveFor", "(II)V"⟩) := ⟨List.mem_of_getElem? (i := 548) (by decide +kernel), by decide +kernel⟩
theorem lk_LW_166 : wd (.methodLink "TypedBloodLaw" 166 ⟨"TypedBloodLaw", "release", "(LTypedBlood;I[J)I"⟩) := ⟨List.mem_of_getElem? (i := 552) (by decide +kernel), by decide +kernel⟩
theorem lk_LW_60 : wd (.methodLink "TypedBloodLaw" 60 ⟨"TypedBlood", "release", "(I)I"⟩) := ⟨List.mem_of_getElem? (i := 555) (by decide +kernel), by decide +kernel⟩
theorem lk_TB_212 : wd (.methodLink "TypedBlood" 212 ⟨"TypedBlood$Unit", "store", "()V"⟩) := ⟨List.mem_of_getElem? (i := 560) (by decide +kernel), by decide +kernel⟩
theorem lk_LW_169 : wd (.methodLink "TypedBloodLaw" 169 ⟨"TypedBloodLaw", "issue", "(LTypedBlood;II[J)I"⟩) := ⟨List.mem_of_getElem? (i := 561) (by decide +kernel), by decide +kernel⟩
theorem lk_LW_63 : wd (.methodLink "TypedBloodLaw" 63 ⟨"TypedBlood", "issue", "(II)I"⟩) := ⟨List.mem_of_getElem? (i := 564) (by decide +kernel), by decide +kernel⟩
theorem lk_TB_215 : wd (.methodLink "TypedBlood" 215 ⟨"TypedBlood", "mayLeaveFor", "(ILTypedBlood$Unit;)Z"⟩) := ⟨List.mem_of_getElem? (i := 568) (by decide +kernel), by decide +kernel⟩
theorem lk_TB_219 : wd (.methodLink "TypedBlood" 219 ⟨"TypedBlood$Patient", "hasFreshSample", "(I)Z"⟩) := ⟨List.mem_of_getElem? (i := 572) (by decide +kernel), by decide +kernel⟩
theorem lk_TB_224 : wd (.methodLink "TypedBlood" 224 ⟨"TypedBlood", "handOver", "(LTypedBlood$Unit;II)I"⟩) := ⟨List.mem_of_getElem? (i := 577) (by decide +kernel), by decide +kernel⟩
theorem lk_TB_331 : wd (.methodLink "TypedBlood" 331 ⟨"TypedBlood$Unit", "issueTo", "(IIII)V"⟩) := ⟨List.mem_of_getElem? (i := 581) (by decide +kernel), by decide +kernel⟩
theorem lk_TB_307 : wd (.methodLink "TypedBlood" 307 ⟨"TypedBlood$Unit", "wentTo", "(I)Z"⟩) := ⟨List.mem_of_getElem? (i := 585) (by decide +kernel), by decide +kernel⟩
theorem lk_LW_172 : wd (.methodLink "TypedBloodLaw" 172 ⟨"TypedBloodLaw", "emergency", "(LTypedBlood;III[J)I"⟩) := ⟨List.mem_of_getElem? (i := 589) (by decide +kernel), by decide +kernel⟩
theorem lk_LW_66 : wd (.methodLink "TypedBloodLaw" 66 ⟨"TypedBlood", "emergency", "(III)I"⟩) := ⟨List.mem_of_getElem? (i := 592) (by decide +kernel), by decide +kernel⟩
theorem lk_TB_230 : wd (.methodLink "TypedBlood" 230 ⟨"TypedBlood$Unit", "isForEmergencies", "()Z"⟩) := ⟨List.mem_of_getElem? (i := 597) (by decide +kernel), by decide +kernel⟩
theorem lk_LW_175 : wd (.methodLink "TypedBloodLaw" 175 ⟨"TypedBloodLaw", "giveBack", "(LTypedBlood;I[J)I"⟩) := ⟨List.mem_of_getElem? (i := 602) (by decide +kernel), by decide +kernel⟩
theorem lk_LW_69 : wd (.methodLink "TypedBloodLaw" 69 ⟨"TypedBlood", "giveBack", "(I)I"⟩) := ⟨List.mem_of_getElem? (i := 605) (by decide +kernel), by decide +kernel⟩
theorem lk_LW_178 : wd (.methodLink "TypedBloodLaw" 178 ⟨"TypedBloodLaw", "transfused", "(LTypedBlood;I[J)I"⟩) := ⟨List.mem_of_getElem? (i := 610) (by decide +kernel), by decide +kernel⟩
theorem lk_LW_72 : wd (.methodLink "TypedBloodLaw" 72 ⟨"TypedBlood", "transfused", "(I)I"⟩) := ⟨List.mem_of_getElem? (i := 613) (by decide +kernel), by decide +kernel⟩
theorem lk_LW_181 : wd (.methodLink "TypedBloodLaw" 181 ⟨"TypedBloodLaw", "discard", "(LTypedBlood;II[J)I"⟩) := ⟨List.mem_of_getElem? (i := 618) (by decide +kernel), by decide +kernel⟩
theorem lk_LW_75 : wd (.methodLink "TypedBloodLaw" 75 ⟨"TypedBlood", "discard", "(II)I"⟩) := ⟨List.mem_of_getElem? (i := 621) (by decide +kernel), by decide +kernel⟩
theorem lk_TB_252 : wd (.methodLink "TypedBlood" 252 ⟨"TypedBlood$Unit", "throwAway", "(I)V"⟩) := ⟨List.mem_of_getElem? (i := 627) (by decide +kernel), by decide +kernel⟩
theorem lk_LW_184 : wd (.methodLink "TypedBloodLaw" 184 ⟨"TypedBloodLaw", "quarantine", "(LTypedBlood;IZ[J)I"⟩) := ⟨List.mem_of_getElem? (i := 631) (by decide +kernel), by decide +kernel⟩
theorem lk_LW_78 : wd (.methodLink "TypedBloodLaw" 78 ⟨"TypedBlood", "quarantine", "(IZ)I"⟩) := ⟨List.mem_of_getElem? (i := 634) (by decide +kernel), by decide +kernel⟩
theorem lk_LW_188 : wd (.methodLink "TypedBloodLaw" 188 ⟨"TypedBloodLaw", "of", "(LTypedBlood;II[J)I"⟩) := ⟨List.mem_of_getElem? (i := 639) (by decide +kernel), by decide +kernel⟩
theorem lk_LW_82 : wd (.methodLink "TypedBloodLaw" 82 ⟨"TypedBlood", "of", "(II)I"⟩) := ⟨List.mem_of_getElem? (i := 643) (by decide +kernel), by decide +kernel⟩
theorem lk_LW_191 : wd (.methodLink "TypedBloodLaw" 191 ⟨"TypedBloodLaw", "has", "(LTypedBlood;II[J)I"⟩) := ⟨List.mem_of_getElem? (i := 663) (by decide +kernel), by decide +kernel⟩
theorem lk_LW_87 : wd (.methodLink "TypedBloodLaw" 87 ⟨"TypedBlood", "has", "(II)I"⟩) := ⟨List.mem_of_getElem? (i := 666) (by decide +kernel), by decide +kernel⟩
theorem lk_TB_280 : wd (.methodLink "TypedBlood" 280 ⟨"TypedBlood$Unit", "antigenValue", "(I)I"⟩) := ⟨List.mem_of_getElem? (i := 670) (by decide +kernel), by decide +kernel⟩
theorem lk_LW_194 : wd (.methodLink "TypedBloodLaw" 194 ⟨"TypedBloodLaw", "who", "(LTypedBlood;II[J)I"⟩) := ⟨List.mem_of_getElem? (i := 674) (by decide +kernel), by decide +kernel⟩
theorem lk_LW_90 : wd (.methodLink "TypedBloodLaw" 90 ⟨"TypedBlood", "who", "(II)I"⟩) := ⟨List.mem_of_getElem? (i := 677) (by decide +kernel), by decide +kernel⟩
theorem lk_LW_197 : wd (.methodLink "TypedBloodLaw" 197 ⟨"TypedBloodLaw", "why", "(LTypedBlood;II[J)I"⟩) := ⟨List.mem_of_getElem? (i := 681) (by decide +kernel), by decide +kernel⟩
theorem lk_LW_93 : wd (.methodLink "TypedBloodLaw" 93 ⟨"TypedBlood", "why", "(II)I"⟩) := ⟨List.mem_of_getElem? (i := 684) (by decide +kernel), by decide +kernel⟩
theorem lk_LW_200 : wd (.methodLink "TypedBloodLaw" 200 ⟨"TypedBloodLaw", "offer", "(LTypedBlood;III[J)I"⟩) := ⟨List.mem_of_getElem? (i := 688) (by decide +kernel), by decide +kernel⟩
theorem lk_LW_96 : wd (.methodLink "TypedBloodLaw" 96 ⟨"TypedBlood", "offer", "(III)I"⟩) := ⟨List.mem_of_getElem? (i := 691) (by decide +kernel), by decide +kernel⟩
theorem lk_TB_287 : wd (.methodLink "TypedBlood" 287 ⟨"TypedBlood$Ranking", "empty", "()V"⟩) := ⟨List.mem_of_getElem? (i := 696) (by decide +kernel), by decide +kernel⟩
theorem lk_TB_290 : wd (.methodLink "TypedBlood" 290 ⟨"TypedBlood$Ranking", "insert", "(II)V"⟩) := ⟨List.mem_of_getElem? (i := 700) (by decide +kernel), by decide +kernel⟩
theorem lk_TB_293 : wd (.methodLink "TypedBlood" 293 ⟨"TypedBlood$Ranking", "at", "(I)I"⟩) := ⟨List.mem_of_getElem? (i := 704) (by decide +kernel), by decide +kernel⟩
theorem lk_LW_203 : wd (.methodLink "TypedBloodLaw" 203 ⟨"TypedBloodLaw", "stock", "(LTypedBlood;III[J)I"⟩) := ⟨List.mem_of_getElem? (i := 708) (by decide +kernel), by decide +kernel⟩
theorem lk_LW_99 : wd (.methodLink "TypedBloodLaw" 99 ⟨"TypedBlood", "stock", "(III)I"⟩) := ⟨List.mem_of_getElem? (i := 711) (by decide +kernel), by decide +kernel⟩
theorem lk_LW_206 : wd (.methodLink "TypedBloodLaw" 206 ⟨"TypedBloodLaw", "expiring", "(LTypedBlood;II[J)I"⟩) := ⟨List.mem_of_getElem? (i := 716) (by decide +kernel), by decide +kernel⟩
theorem lk_LW_102 : wd (.methodLink "TypedBloodLaw" 102 ⟨"TypedBlood", "expiring", "(II)I"⟩) := ⟨List.mem_of_getElem? (i := 719) (by decide +kernel), by decide +kernel⟩
theorem lk_LW_209 : wd (.methodLink "TypedBloodLaw" 209 ⟨"TypedBloodLaw", "lookback", "(LTypedBlood;II[J)I"⟩) := ⟨List.mem_of_getElem? (i := 724) (by decide +kernel), by decide +kernel⟩
theorem lk_LW_105 : wd (.methodLink "TypedBloodLaw" 105 ⟨"TypedBlood", "lookback", "(II)I"⟩) := ⟨List.mem_of_getElem? (i := 727) (by decide +kernel), by decide +kernel⟩
theorem lk_TB_303 : wd (.methodLink "TypedBlood" 303 ⟨"TypedBlood", "firstIssue", "(II)I"⟩) := ⟨List.mem_of_getElem? (i := 731) (by decide +kernel), by decide +kernel⟩
theorem lk_LW_212 : wd (.methodLink "TypedBloodLaw" 212 ⟨"TypedBloodLaw", "received", "(LTypedBlood;II[J)I"⟩) := ⟨List.mem_of_getElem? (i := 735) (by decide +kernel), by decide +kernel⟩
theorem lk_LW_108 : wd (.methodLink "TypedBloodLaw" 108 ⟨"TypedBlood", "received", "(II)I"⟩) := ⟨List.mem_of_getElem? (i := 738) (by decide +kernel), by decide +kernel⟩
theorem lk_LW_215 : wd (.methodLink "TypedBloodLaw" 215 ⟨"TypedBloodLaw", "count", "(LTypedBlood;II[J)I"⟩) := ⟨List.mem_of_getElem? (i := 742) (by decide +kernel), by decide +kernel⟩
theorem lk_LW_111 : wd (.methodLink "TypedBloodLaw" 111 ⟨"TypedBlood", "count", "(II)I"⟩) := ⟨List.mem_of_getElem? (i := 745) (by decide +kernel), by decide +kernel⟩
theorem cl_LW_115 : wd (.classLink "TypedBloodLaw" 115 "TypedBloodModel") := ⟨List.mem_of_getElem? (i := 750) (by decide +kernel), by decide +kernel⟩
theorem nw_LW_115 : nwd "TypedBloodLaw" 115 4 := ⟨by decide, cl_LW_115, ⟨List.mem_of_getElem? (i := 751) (by decide +kernel), by decide +kernel⟩, ⟨List.mem_of_getElem? (i := 34) (by decide +kernel), by decide +kernel⟩⟩
theorem lk_LW_117 : wd (.methodLink "TypedBloodLaw" 117 ⟨"TypedBloodModel", "<init>", "()V"⟩) := ⟨List.mem_of_getElem? (i := 752) (by decide +kernel), by decide +kernel⟩
theorem lk_MO_1 : wd (.methodLink "TypedBloodModel" 1 ⟨"java/lang/Object", "<init>", "()V"⟩) := ⟨List.mem_of_getElem? (i := 755) (by decide +kernel), by decide +kernel⟩
theorem fl_MO_70 : fld "TypedBloodModel" 70 4 0 := ⟨by decide, by decide, ⟨List.mem_of_getElem? (i := 756) (by decide +kernel), by decide +kernel⟩⟩
theorem fl_MO_89 : fld "TypedBloodModel" 89 4 1 := ⟨by decide, by decide, ⟨List.mem_of_getElem? (i := 757) (by decide +kernel), by decide +kernel⟩⟩
theorem fl_MO_74 : fld "TypedBloodModel" 74 4 2 := ⟨by decide, by decide, ⟨List.mem_of_getElem? (i := 758) (by decide +kernel), by decide +kernel⟩⟩
theorem fl_MO_7 : fld "TypedBloodModel" 7 4 3 := ⟨by decide, by decide, ⟨List.mem_of_getElem? (i := 759) (by decide +kernel), by decide +kernel⟩⟩
theorem fl_MO_13 : fld "TypedBloodModel" 13 4 4 := ⟨by decide, by decide, ⟨List.mem_of_getElem? (i := 760) (by decide +kernel), by decide +kernel⟩⟩
theorem fl_MO_16 : fld "TypedBloodModel" 16 4 5 := ⟨by decide, by decide, ⟨List.mem_of_getElem? (i := 761) (by decide +kernel), by decide +kernel⟩⟩
theorem fl_MO_19 : fld "TypedBloodModel" 19 4 6 := ⟨by decide, by decide, ⟨List.mem_of_getElem? (i := 762) (by decide +kernel), by decide +kernel⟩⟩
theorem fl_MO_22 : fld "TypedBloodModel" 22 4 7 := ⟨by decide, by decide, ⟨List.mem_of_getElem? (i := 763) (by decide +kernel), by decide +kernel⟩⟩
theorem fl_MO_25 : fld "TypedBloodModel" 25 4 8 := ⟨by decide, by decide, ⟨List.mem_of_getElem? (i := 764) (by decide +kernel), by decide +kernel⟩⟩
theorem fl_MO_28 : fld "TypedBloodModel" 28 4 9 := ⟨by decide, by decide, ⟨List.mem_of_getElem? (i := 765) (by decide +kernel), by decide +kernel⟩⟩
theorem fl_MO_31 : fld "TypedBloodModel" 31 4 10 := ⟨by decide, by decide, ⟨List.mem_of_getElem? (i := 766) (by decide +kernel), by decide +kernel⟩⟩
theorem fl_MO_34 : fld "TypedBloodModel" 34 4 11 := ⟨by decide, by decide, ⟨List.mem_of_getElem? (i := 767) (by decide +kernel), by decide +kernel⟩⟩
theorem fl_MO_37 : fld "TypedBloodModel" 37 4 12 := ⟨by decide, by decide, ⟨List.mem_of_getElem? (i := 768) (by decide +kernel), by decide +kernel⟩⟩
theorem fl_MO_40 : fld "TypedBloodModel" 40 4 13 := ⟨by decide, by decide, ⟨List.mem_of_getElem? (i := 769) (by decide +kernel), by decide +kernel⟩⟩
theorem fl_MO_43 : fld "TypedBloodModel" 43 4 14 := ⟨by decide, by decide, ⟨List.mem_of_getElem? (i := 770) (by decide +kernel), by decide +kernel⟩⟩
theorem fl_MO_46 : fld "TypedBloodModel" 46 4 15 := ⟨by decide, by decide, ⟨List.mem_of_getElem? (i := 771) (by decide +kernel), by decide +kernel⟩⟩
theorem fl_MO_49 : fld "TypedBloodModel" 49 4 16 := ⟨by decide, by decide, ⟨List.mem_of_getElem? (i := 772) (by decide +kernel), by decide +kernel⟩⟩
theorem fl_MO_134 : fld "TypedBloodModel" 134 4 17 := ⟨by decide, by decide, ⟨List.mem_of_getElem? (i := 773) (by decide +kernel), by decide +kernel⟩⟩
theorem fl_MO_92 : fld "TypedBloodModel" 92 4 18 := ⟨by decide, by decide, ⟨List.mem_of_getElem? (i := 774) (by decide +kernel), by decide +kernel⟩⟩
theorem fl_MO_81 : fld "TypedBloodModel" 81 4 19 := ⟨by decide, by decide, ⟨List.mem_of_getElem? (i := 775) (by decide +kernel), by decide +kernel⟩⟩
theorem fl_MO_52 : fld "TypedBloodModel" 52 4 20 := ⟨by decide, by decide, ⟨List.mem_of_getElem? (i := 776) (by decide +kernel), by decide +kernel⟩⟩
theorem fl_MO_55 : fld "TypedBloodModel" 55 4 21 := ⟨by decide, by decide, ⟨List.mem_of_getElem? (i := 777) (by decide +kernel), by decide +kernel⟩⟩
theorem fl_MO_58 : fld "TypedBloodModel" 58 4 22 := ⟨by decide, by decide, ⟨List.mem_of_getElem? (i := 778) (by decide +kernel), by decide +kernel⟩⟩
theorem fl_MO_61 : fld "TypedBloodModel" 61 4 23 := ⟨by decide, by decide, ⟨List.mem_of_getElem? (i := 779) (by decide +kernel), by decide +kernel⟩⟩
theorem fl_MO_64 : fld "TypedBloodModel" 64 4 24 := ⟨by decide, by decide, ⟨List.mem_of_getElem? (i := 780) (by decide +kernel), by decide +kernel⟩⟩
theorem fl_MO_67 : fld "TypedBloodModel" 67 4 25 := ⟨by decide, by decide, ⟨List.mem_of_getElem? (i := 781) (by decide +kernel), by decide +kernel⟩⟩
theorem lk_LW_124 : wd (.methodLink "TypedBloodLaw" 124 ⟨"TypedBloodModel", "thrown", "()I"⟩) := ⟨List.mem_of_getElem? (i := 835) (by decide +kernel), by decide +kernel⟩
theorem lk_LW_123 : wd (.methodLink "TypedBloodLaw" 123 ⟨"TypedBloodModel", "pass", "(I)I"⟩) := ⟨List.mem_of_getElem? (i := 839) (by decide +kernel), by decide +kernel⟩
theorem w_con_MO_84 : wd (.constant "TypedBloodModel" 84 50000) := ⟨List.mem_of_getElem? (i := 843) (by decide +kernel), by decide +kernel⟩
theorem lk_MO_77 : wd (.methodLink "TypedBloodModel" 77 ⟨"TypedBloodModel", "in", "(III)Z"⟩) := ⟨List.mem_of_getElem? (i := 844) (by decide +kernel), by decide +kernel⟩
theorem lk_MO_85 : wd (.methodLink "TypedBloodModel" 85 ⟨"TypedBloodModel", "refused", "(ZZZZ)Z"⟩) := ⟨List.mem_of_getElem? (i := 847) (by decide +kernel), by decide +kernel⟩
theorem lk_LW_130 : wd (.methodLink "TypedBloodLaw" 130 ⟨"TypedBloodModel", "unit", "(IIIII)I"⟩) := ⟨List.mem_of_getElem? (i := 851) (by decide +kernel), by decide +kernel⟩
theorem w_con_MO_106 : wd (.constant "TypedBloodModel" 106 60000) := ⟨List.mem_of_getElem? (i := 855) (by decide +kernel), by decide +kernel⟩
theorem lk_MO_107 : wd (.methodLink "TypedBloodModel" 107 ⟨"TypedBloodModel", "add", "(IIII)I"⟩) := ⟨List.mem_of_getElem? (i := 856) (by decide +kernel), by decide +kernel⟩
theorem lk_LW_134 : wd (.methodLink "TypedBloodLaw" 134 ⟨"TypedBloodModel", "antigen", "(III)V"⟩) := ⟨List.mem_of_getElem? (i := 860) (by decide +kernel), by decide +kernel⟩
theorem lk_MO_111 : wd (.methodLink "TypedBloodModel" 111 ⟨"TypedBloodModel", "isUnit", "(I)Z"⟩) := ⟨List.mem_of_getElem? (i := 864) (by decide +kernel), by decide +kernel⟩
theorem lk_MO_95 : wd (.methodLink "TypedBloodModel" 95 ⟨"TypedBloodModel", "stateOf", "(I)I"⟩) := ⟨List.mem_of_getElem? (i := 868) (by decide +kernel), by decide +kernel⟩
theorem lk_LW_138 : wd (.methodLink "TypedBloodLaw" 138 ⟨"TypedBloodModel", "process", "(II)I"⟩) := ⟨List.mem_of_getElem? (i := 872) (by decide +kernel), by decide +kernel⟩
theorem lk_MO_114 : wd (.methodLink "TypedBloodModel" 114 ⟨"TypedBloodModel", "isReady", "(I)Z"⟩) := ⟨List.mem_of_getElem? (i := 876) (by decide +kernel), by decide +kernel⟩
theorem lk_MO_99 : wd (.methodLink "TypedBloodModel" 99 ⟨"TypedBloodModel", "isExpired", "(I)Z"⟩) := ⟨List.mem_of_getElem? (i := 880) (by decide +kernel), by decide +kernel⟩
theorem lk_MO_103 : wd (.methodLink "TypedBloodModel" 103 ⟨"TypedBloodModel", "isBarred", "(I)Z"⟩) := ⟨List.mem_of_getElem? (i := 884) (by decide +kernel), by decide +kernel⟩
theorem lk_MO_117 : wd (.methodLink "TypedBloodModel" 117 ⟨"TypedBloodModel", "suits", "(II)Z"⟩) := ⟨List.mem_of_getElem? (i := 888) (by decide +kernel), by decide +kernel⟩
theorem lk_LW_141 : wd (.methodLink "TypedBloodLaw" 141 ⟨"TypedBloodModel", "pool", "(II)I"⟩) := ⟨List.mem_of_getElem? (i := 891) (by decide +kernel), by decide +kernel⟩
theorem lk_LW_145 : wd (.methodLink "TypedBloodLaw" 145 ⟨"TypedBloodModel", "patient", "()I"⟩) := ⟨List.mem_of_getElem? (i := 895) (by decide +kernel), by decide +kernel⟩
theorem lk_LW_149 : wd (.methodLink "TypedBloodLaw" 149 ⟨"TypedBloodModel", "sample", "(III)I"⟩) := ⟨List.mem_of_getElem? (i := 899) (by decide +kernel), by decide +kernel⟩
theorem lk_MO_121 : wd (.methodLink "TypedBloodModel" 121 ⟨"TypedBloodModel", "isPatient", "(I)Z"⟩) := ⟨List.mem_of_getElem? (i := 903) (by decide +kernel), by decide +kernel⟩
theorem lk_LW_152 : wd (.methodLink "TypedBloodLaw" 152 ⟨"TypedBloodModel", "unlock", "(III)V"⟩) := ⟨List.mem_of_getElem? (i := 907) (by decide +kernel), by decide +kernel⟩
theorem lk_LW_155 : wd (.methodLink "TypedBloodLaw" 155 ⟨"TypedBloodModel", "antibody", "(II)I"⟩) := ⟨List.mem_of_getElem? (i := 911) (by decide +kernel), by decide +kernel⟩
theorem lk_MO_124 : wd (.methodLink "TypedBloodModel" 124 ⟨"TypedBloodModel", "bitsOf", "(I)I"⟩) := ⟨List.mem_of_getElem? (i := 915) (by decide +kernel), by decide +kernel⟩
theorem lk_LW_158 : wd (.methodLink "TypedBloodLaw" 158 ⟨"TypedBloodModel", "need", "(II)I"⟩) := ⟨List.mem_of_getElem? (i := 918) (by decide +kernel), by decide +kernel⟩
theorem lk_LW_162 : wd (.methodLink "TypedBloodLaw" 162 ⟨"TypedBloodModel", "crossmatch", "(IIZ)V"⟩) := ⟨List.mem_of_getElem? (i := 922) (by decide +kernel), by decide +kernel⟩
theorem lk_LW_165 : wd (.methodLink "TypedBloodLaw" 165 ⟨"TypedBloodModel", "reserve", "(II)I"⟩) := ⟨List.mem_of_getElem? (i := 926) (by decide +kernel), by decide +kernel⟩
theorem lk_MO_127 : wd (.methodLink "TypedBloodModel" 127 ⟨"TypedBloodModel", "reasonFor", "(II)I"⟩) := ⟨List.mem_of_getElem? (i := 930) (by decide +kernel), by decide +kernel⟩
theorem lk_MO_131 : wd (.methodLink "TypedBloodModel" 131 ⟨"TypedBloodModel", "isMatched", "(II)Z"⟩) := ⟨List.mem_of_getElem? (i := 934) (by decide +kernel), by decide +kernel⟩
theorem lk_LW_168 : wd (.methodLink "TypedBloodLaw" 168 ⟨"TypedBloodModel", "release", "(I)I"⟩) := ⟨List.mem_of_getElem? (i := 938) (by decide +kernel), by decide +kernel⟩
theorem lk_LW_171 : wd (.methodLink "TypedBloodLaw" 171 ⟨"TypedBloodModel", "issue", "(II)I"⟩) := ⟨List.mem_of_getElem? (i := 942) (by decide +kernel), by decide +kernel⟩
theorem lk_MO_137 : wd (.methodLink "TypedBloodModel" 137 ⟨"TypedBloodModel", "mayGo", "(II)Z"⟩) := ⟨List.mem_of_getElem? (i := 946) (by decide +kernel), by decide +kernel⟩
theorem lk_MO_140 : wd (.methodLink "TypedBloodModel" 140 ⟨"TypedBloodModel", "go", "(III)I"⟩) := ⟨List.mem_of_getElem? (i := 950) (by decide +kernel), by decide +kernel⟩
theorem lk_LW_174 : wd (.methodLink "TypedBloodLaw" 174 ⟨"TypedBloodModel", "emergency", "(III)I"⟩) := ⟨List.mem_of_getElem? (i := 954) (by decide +kernel), by decide +kernel⟩
theorem lk_LW_177 : wd (.methodLink "TypedBloodLaw" 177 ⟨"TypedBloodModel", "giveBack", "(I)I"⟩) := ⟨List.mem_of_getElem? (i := 958) (by decide +kernel), by decide +kernel⟩
theorem lk_LW_180 : wd (.methodLink "TypedBloodLaw" 180 ⟨"TypedBloodModel", "transfused", "(I)I"⟩) := ⟨List.mem_of_getElem? (i := 962) (by decide +kernel), by decide +kernel⟩
theorem lk_LW_183 : wd (.methodLink "TypedBloodLaw" 183 ⟨"TypedBloodModel", "discard", "(II)I"⟩) := ⟨List.mem_of_getElem? (i := 966) (by decide +kernel), by decide +kernel⟩
theorem lk_LW_187 : wd (.methodLink "TypedBloodLaw" 187 ⟨"TypedBloodModel", "quarantine", "(IZ)I"⟩) := ⟨List.mem_of_getElem? (i := 970) (by decide +kernel), by decide +kernel⟩
theorem lk_LW_190 : wd (.methodLink "TypedBloodLaw" 190 ⟨"TypedBloodModel", "of", "(II)I"⟩) := ⟨List.mem_of_getElem? (i := 974) (by decide +kernel), by decide +kernel⟩
theorem lk_MO_144 : wd (.methodLink "TypedBloodModel" 144 ⟨"TypedBloodModel", "field", "(II)I"⟩) := ⟨List.mem_of_getElem? (i := 978) (by decide +kernel), by decide +kernel⟩
theorem lk_LW_193 : wd (.methodLink "TypedBloodLaw" 193 ⟨"TypedBloodModel", "has", "(II)I"⟩) := ⟨List.mem_of_getElem? (i := 982) (by decide +kernel), by decide +kernel⟩
theorem lk_LW_196 : wd (.methodLink "TypedBloodLaw" 196 ⟨"TypedBloodModel", "who", "(II)I"⟩) := ⟨List.mem_of_getElem? (i := 986) (by decide +kernel), by decide +kernel⟩
theorem lk_LW_199 : wd (.methodLink "TypedBloodLaw" 199 ⟨"TypedBloodModel", "why", "(II)I"⟩) := ⟨List.mem_of_getElem? (i := 990) (by decide +kernel), by decide +kernel⟩
theorem lk_LW_202 : wd (.methodLink "TypedBloodLaw" 202 ⟨"TypedBloodModel", "offer", "(III)I"⟩) := ⟨List.mem_of_getElem? (i := 994) (by decide +kernel), by decide +kernel⟩
theorem lk_MO_147 : wd (.methodLink "TypedBloodModel" 147 ⟨"TypedBloodModel", "isOffered", "(III)Z"⟩) := ⟨List.mem_of_getElem? (i := 998) (by decide +kernel), by decide +kernel⟩
theorem lk_MO_150 : wd (.methodLink "TypedBloodModel" 150 ⟨"TypedBloodModel", "isBefore", "(II)Z"⟩) := ⟨List.mem_of_getElem? (i := 1002) (by decide +kernel), by decide +kernel⟩
theorem lk_LW_205 : wd (.methodLink "TypedBloodLaw" 205 ⟨"TypedBloodModel", "stock", "(III)I"⟩) := ⟨List.mem_of_getElem? (i := 1006) (by decide +kernel), by decide +kernel⟩
theorem lk_LW_208 : wd (.methodLink "TypedBloodLaw" 208 ⟨"TypedBloodModel", "expiring", "(II)I"⟩) := ⟨List.mem_of_getElem? (i := 1010) (by decide +kernel), by decide +kernel⟩
theorem lk_MO_153 : wd (.methodLink "TypedBloodModel" 153 ⟨"TypedBloodModel", "expiresIn", "(II)Z"⟩) := ⟨List.mem_of_getElem? (i := 1014) (by decide +kernel), by decide +kernel⟩
theorem lk_LW_211 : wd (.methodLink "TypedBloodLaw" 211 ⟨"TypedBloodModel", "lookback", "(II)I"⟩) := ⟨List.mem_of_getElem? (i := 1018) (by decide +kernel), by decide +kernel⟩
theorem lk_MO_156 : wd (.methodLink "TypedBloodModel" 156 ⟨"TypedBloodModel", "firstIssue", "(II)I"⟩) := ⟨List.mem_of_getElem? (i := 1022) (by decide +kernel), by decide +kernel⟩
theorem lk_LW_214 : wd (.methodLink "TypedBloodLaw" 214 ⟨"TypedBloodModel", "received", "(II)I"⟩) := ⟨List.mem_of_getElem? (i := 1026) (by decide +kernel), by decide +kernel⟩
theorem lk_LW_217 : wd (.methodLink "TypedBloodLaw" 217 ⟨"TypedBloodModel", "count", "(II)I"⟩) := ⟨List.mem_of_getElem? (i := 1030) (by decide +kernel), by decide +kernel⟩
theorem w_ao_3 : wd (.arrayOver (.object "TypedBlood$Unit")) := ⟨List.mem_of_getElem? (i := 57) (by decide +kernel), by decide +kernel⟩
theorem w_ao_4 : wd (.arrayOver (.object "TypedBlood$Patient")) := ⟨List.mem_of_getElem? (i := 59) (by decide +kernel), by decide +kernel⟩
theorem w_ac_int : wd (.arrayClass .int) := ⟨List.mem_of_getElem? (i := 76) (by decide +kernel), by decide +kernel⟩
theorem w_ac_long : wd (.arrayClass .long) := ⟨List.mem_of_getElem? (i := 1034) (by decide +kernel), by decide +kernel⟩
