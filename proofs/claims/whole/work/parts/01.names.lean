-- ===== PART A: goes FIRST, ahead of the names: the tables' words, and 'selects' of the private methods out of them =====
/-- a private method of a class that the tables say can be made, by its rows of tables_1 -/
def lw_okq (q : MethodName × Nat) : Prop := (q.1.cls ≠ "java/lang/invoke/MethodHandle" ∧ q.1.cls ≠ "java/lang/invoke/VarHandle") ∧ Cond.instantiable q.1.cls q.2 ∈ tables_1 ∧ Cond.privateMethod q.1 ∈ tables_1 ∧ Cond.instanceMethod q.1 ∈ tables_1
theorem lw_p0 : lw_okq (⟨"GrainDole", "isOver", "()Z"⟩, 11) := ⟨⟨by decide +kernel, by decide +kernel⟩, List.mem_of_getElem? (i := 21) (by decide +kernel), List.mem_of_getElem? (i := 340) (by decide +kernel), List.mem_of_getElem? (i := 341) (by decide +kernel)⟩
theorem lw_p1 : lw_okq (⟨"GrainDole$LawReader", "startAnew", "()V"⟩, 6) := ⟨⟨by decide +kernel, by decide +kernel⟩, List.mem_of_getElem? (i := 43) (by decide +kernel), List.mem_of_getElem? (i := 355) (by decide +kernel), List.mem_of_getElem? (i := 356) (by decide +kernel)⟩
theorem lw_p2 : lw_okq (⟨"GrainDole$LawReader", "startToken", "()V"⟩, 6) := ⟨⟨by decide +kernel, by decide +kernel⟩, List.mem_of_getElem? (i := 43) (by decide +kernel), List.mem_of_getElem? (i := 361) (by decide +kernel), List.mem_of_getElem? (i := 362) (by decide +kernel)⟩
theorem lw_p3 : lw_okq (⟨"GrainDole$LawReader", "readClause", "()V"⟩, 6) := ⟨⟨by decide +kernel, by decide +kernel⟩, List.mem_of_getElem? (i := 43) (by decide +kernel), List.mem_of_getElem? (i := 370) (by decide +kernel), List.mem_of_getElem? (i := 371) (by decide +kernel)⟩
theorem lw_p4 : lw_okq (⟨"GrainDole$LawReader", "readWord", "()V"⟩, 6) := ⟨⟨by decide +kernel, by decide +kernel⟩, List.mem_of_getElem? (i := 43) (by decide +kernel), List.mem_of_getElem? (i := 374) (by decide +kernel), List.mem_of_getElem? (i := 375) (by decide +kernel)⟩
theorem lw_p5 : lw_okq (⟨"GrainDole$LawReader", "clauseNamed", "()I"⟩, 6) := ⟨⟨by decide +kernel, by decide +kernel⟩, List.mem_of_getElem? (i := 43) (by decide +kernel), List.mem_of_getElem? (i := 381) (by decide +kernel), List.mem_of_getElem? (i := 382) (by decide +kernel)⟩
theorem lw_p6 : lw_okq (⟨"GrainDole$LawReader", "isWord", "(Ljava/lang/String;)Z"⟩, 6) := ⟨⟨by decide +kernel, by decide +kernel⟩, List.mem_of_getElem? (i := 43) (by decide +kernel), List.mem_of_getElem? (i := 386) (by decide +kernel), List.mem_of_getElem? (i := 387) (by decide +kernel)⟩
theorem lw_p7 : lw_okq (⟨"GrainDole$LawReader", "refuse", "(I)V"⟩, 6) := ⟨⟨by decide +kernel, by decide +kernel⟩, List.mem_of_getElem? (i := 43) (by decide +kernel), List.mem_of_getElem? (i := 444) (by decide +kernel), List.mem_of_getElem? (i := 445) (by decide +kernel)⟩
theorem lw_p8 : lw_okq (⟨"GrainDole$LawReader", "readNumber", "(II)I"⟩, 6) := ⟨⟨by decide +kernel, by decide +kernel⟩, List.mem_of_getElem? (i := 43) (by decide +kernel), List.mem_of_getElem? (i := 448) (by decide +kernel), List.mem_of_getElem? (i := 449) (by decide +kernel)⟩
theorem lw_p9 : lw_okq (⟨"GrainDole$LawReader", "readYesOrNo", "()I"⟩, 6) := ⟨⟨by decide +kernel, by decide +kernel⟩, List.mem_of_getElem? (i := 43) (by decide +kernel), List.mem_of_getElem? (i := 452) (by decide +kernel), List.mem_of_getElem? (i := 453) (by decide +kernel)⟩
theorem lw_p10 : lw_okq (⟨"GrainDole$LawReader", "goesOn", "()Z"⟩, 6) := ⟨⟨by decide +kernel, by decide +kernel⟩, List.mem_of_getElem? (i := 43) (by decide +kernel), List.mem_of_getElem? (i := 462) (by decide +kernel), List.mem_of_getElem? (i := 463) (by decide +kernel)⟩
theorem lw_p11 : lw_okq (⟨"GrainDole$Roll", "putInOrder", "(I)V"⟩, 8) := ⟨⟨by decide +kernel, by decide +kernel⟩, List.mem_of_getElem? (i := 88) (by decide +kernel), List.mem_of_getElem? (i := 514) (by decide +kernel), List.mem_of_getElem? (i := 515) (by decide +kernel)⟩
theorem lw_p12 : lw_okq (⟨"GrainDole$Standing", "comesAbout", "(I)Z"⟩, 9) := ⟨⟨by decide +kernel, by decide +kernel⟩, List.mem_of_getElem? (i := 119) (by decide +kernel), List.mem_of_getElem? (i := 561) (by decide +kernel), List.mem_of_getElem? (i := 562) (by decide +kernel)⟩
theorem lw_p13 : lw_okq (⟨"GrainDole$Standing", "enrol", "(III)Z"⟩, 9) := ⟨⟨by decide +kernel, by decide +kernel⟩, List.mem_of_getElem? (i := 119) (by decide +kernel), List.mem_of_getElem? (i := 581) (by decide +kernel), List.mem_of_getElem? (i := 582) (by decide +kernel)⟩
theorem lw_p14 : lw_okq (⟨"GrainDole$Standing", "canTakePlace", "(I)Z"⟩, 9) := ⟨⟨by decide +kernel, by decide +kernel⟩, List.mem_of_getElem? (i := 119) (by decide +kernel), List.mem_of_getElem? (i := 586) (by decide +kernel), List.mem_of_getElem? (i := 587) (by decide +kernel)⟩
theorem lw_p15 : lw_okq (⟨"GrainDole$Standing", "seat", "(II)V"⟩, 9) := ⟨⟨by decide +kernel, by decide +kernel⟩, List.mem_of_getElem? (i := 119) (by decide +kernel), List.mem_of_getElem? (i := 591) (by decide +kernel), List.mem_of_getElem? (i := 592) (by decide +kernel)⟩
def lw_privs_1 : List (MethodName × Nat) := [(⟨"GrainDole", "isOver", "()Z"⟩, 11), (⟨"GrainDole$LawReader", "startAnew", "()V"⟩, 6), (⟨"GrainDole$LawReader", "startToken", "()V"⟩, 6), (⟨"GrainDole$LawReader", "readClause", "()V"⟩, 6), (⟨"GrainDole$LawReader", "readWord", "()V"⟩, 6), (⟨"GrainDole$LawReader", "clauseNamed", "()I"⟩, 6), (⟨"GrainDole$LawReader", "isWord", "(Ljava/lang/String;)Z"⟩, 6), (⟨"GrainDole$LawReader", "refuse", "(I)V"⟩, 6), (⟨"GrainDole$LawReader", "readNumber", "(II)I"⟩, 6), (⟨"GrainDole$LawReader", "readYesOrNo", "()I"⟩, 6), (⟨"GrainDole$LawReader", "goesOn", "()Z"⟩, 6), (⟨"GrainDole$Roll", "putInOrder", "(I)V"⟩, 8), (⟨"GrainDole$Standing", "comesAbout", "(I)Z"⟩, 9), (⟨"GrainDole$Standing", "enrol", "(III)Z"⟩, 9), (⟨"GrainDole$Standing", "canTakePlace", "(I)Z"⟩, 9), (⟨"GrainDole$Standing", "seat", "(II)V"⟩, 9)]
theorem lw_r1 : ∀ q ∈ lw_privs_1, lw_okq q := List.forall_mem_cons.mpr ⟨lw_p0, List.forall_mem_cons.mpr ⟨lw_p1, List.forall_mem_cons.mpr ⟨lw_p2, List.forall_mem_cons.mpr ⟨lw_p3, List.forall_mem_cons.mpr ⟨lw_p4, List.forall_mem_cons.mpr ⟨lw_p5, List.forall_mem_cons.mpr ⟨lw_p6, List.forall_mem_cons.mpr ⟨lw_p7, List.forall_mem_cons.mpr ⟨lw_p8, List.forall_mem_cons.mpr ⟨lw_p9, List.forall_mem_cons.mpr ⟨lw_p10, List.forall_mem_cons.mpr ⟨lw_p11, List.forall_mem_cons.mpr ⟨lw_p12, List.forall_mem_cons.mpr ⟨lw_p13, List.forall_mem_cons.mpr ⟨lw_p14, List.forall_mem_cons.mpr ⟨lw_p15, fun _ h => absurd h List.not_mem_nil⟩⟩⟩⟩⟩⟩⟩⟩⟩⟩⟩⟩⟩⟩⟩⟩
theorem lw_p16 : lw_okq (⟨"GrainDole$Standing", "bury", "(I)Z"⟩, 9) := ⟨⟨by decide +kernel, by decide +kernel⟩, List.mem_of_getElem? (i := 119) (by decide +kernel), List.mem_of_getElem? (i := 595) (by decide +kernel), List.mem_of_getElem? (i := 596) (by decide +kernel)⟩
theorem lw_p17 : lw_okq (⟨"GrainDole$Standing", "vacate", "(I)V"⟩, 9) := ⟨⟨by decide +kernel, by decide +kernel⟩, List.mem_of_getElem? (i := 119) (by decide +kernel), List.mem_of_getElem? (i := 599) (by decide +kernel), List.mem_of_getElem? (i := 600) (by decide +kernel)⟩
theorem lw_p18 : lw_okq (⟨"GrainDole$Standing", "sell", "(III)Z"⟩, 9) := ⟨⟨by decide +kernel, by decide +kernel⟩, List.mem_of_getElem? (i := 119) (by decide +kernel), List.mem_of_getElem? (i := 603) (by decide +kernel), List.mem_of_getElem? (i := 604) (by decide +kernel)⟩
theorem lw_p19 : lw_okq (⟨"GrainDole$Standing", "strike", "(I)Z"⟩, 9) := ⟨⟨by decide +kernel, by decide +kernel⟩, List.mem_of_getElem? (i := 119) (by decide +kernel), List.mem_of_getElem? (i := 613) (by decide +kernel), List.mem_of_getElem? (i := 614) (by decide +kernel)⟩
theorem lw_p20 : lw_okq (⟨"GrainDole$Parting", "dueShares", "(I)I"⟩, 7) := ⟨⟨by decide +kernel, by decide +kernel⟩, List.mem_of_getElem? (i := 250) (by decide +kernel), List.mem_of_getElem? (i := 788) (by decide +kernel), List.mem_of_getElem? (i := 789) (by decide +kernel)⟩
theorem lw_p21 : lw_okq (⟨"GrainDole$Parting", "cutByRank", "(LGrainDole$LawBook;I)I"⟩, 7) := ⟨⟨by decide +kernel, by decide +kernel⟩, List.mem_of_getElem? (i := 250) (by decide +kernel), List.mem_of_getElem? (i := 794) (by decide +kernel), List.mem_of_getElem? (i := 795) (by decide +kernel)⟩
theorem lw_p22 : lw_okq (⟨"GrainDole$Parting", "cutToWhatIsThere", "(II)V"⟩, 7) := ⟨⟨by decide +kernel, by decide +kernel⟩, List.mem_of_getElem? (i := 250) (by decide +kernel), List.mem_of_getElem? (i := 799) (by decide +kernel), List.mem_of_getElem? (i := 800) (by decide +kernel)⟩
theorem lw_p23 : lw_okq (⟨"GrainDole$Parting", "hand", "(I)I"⟩, 7) := ⟨⟨by decide +kernel, by decide +kernel⟩, List.mem_of_getElem? (i := 250) (by decide +kernel), List.mem_of_getElem? (i := 807) (by decide +kernel), List.mem_of_getElem? (i := 808) (by decide +kernel)⟩
theorem lw_p24 : lw_okq (⟨"GrainDole$Ledger", "grow", "(I)V"⟩, 7) := ⟨⟨by decide +kernel, by decide +kernel⟩, List.mem_of_getElem? (i := 222) (by decide +kernel), List.mem_of_getElem? (i := 820) (by decide +kernel), List.mem_of_getElem? (i := 821) (by decide +kernel)⟩
theorem lw_p25 : lw_okq (⟨"GrainDole$Ledger", "placesServed", "(I)I"⟩, 7) := ⟨⟨by decide +kernel, by decide +kernel⟩, List.mem_of_getElem? (i := 222) (by decide +kernel), List.mem_of_getElem? (i := 852) (by decide +kernel), List.mem_of_getElem? (i := 853) (by decide +kernel)⟩
theorem lw_p26 : lw_okq (⟨"GrainDole$Ledger", "startOf", "(I)I"⟩, 7) := ⟨⟨by decide +kernel, by decide +kernel⟩, List.mem_of_getElem? (i := 222) (by decide +kernel), List.mem_of_getElem? (i := 856) (by decide +kernel), List.mem_of_getElem? (i := 857) (by decide +kernel)⟩
theorem lw_p27 : lw_okq (⟨"GrainDole$Ledger", "endOf", "(I)I"⟩, 7) := ⟨⟨by decide +kernel, by decide +kernel⟩, List.mem_of_getElem? (i := 222) (by decide +kernel), List.mem_of_getElem? (i := 860) (by decide +kernel), List.mem_of_getElem? (i := 861) (by decide +kernel)⟩
theorem lw_p28 : lw_okq (⟨"GrainDole", "isParted", "(I)Z"⟩, 11) := ⟨⟨by decide +kernel, by decide +kernel⟩, List.mem_of_getElem? (i := 21) (by decide +kernel), List.mem_of_getElem? (i := 873) (by decide +kernel), List.mem_of_getElem? (i := 874) (by decide +kernel)⟩
theorem lw_p29 : lw_okq (⟨"GrainDoleModel", "four", "(I)V"⟩, 52) := ⟨⟨by decide +kernel, by decide +kernel⟩, List.mem_of_getElem? (i := 923) (by decide +kernel), List.mem_of_getElem? (i := 1090) (by decide +kernel), List.mem_of_getElem? (i := 1091) (by decide +kernel)⟩
theorem lw_p30 : lw_okq (⟨"GrainDoleModel", "empties", "(I)V"⟩, 52) := ⟨⟨by decide +kernel, by decide +kernel⟩, List.mem_of_getElem? (i := 923) (by decide +kernel), List.mem_of_getElem? (i := 1105) (by decide +kernel), List.mem_of_getElem? (i := 1106) (by decide +kernel)⟩
theorem lw_p31 : lw_okq (⟨"GrainDoleModel", "see", "()I"⟩, 52) := ⟨⟨by decide +kernel, by decide +kernel⟩, List.mem_of_getElem? (i := 923) (by decide +kernel), List.mem_of_getElem? (i := 1109) (by decide +kernel), List.mem_of_getElem? (i := 1110) (by decide +kernel)⟩
def lw_privs_2 : List (MethodName × Nat) := [(⟨"GrainDole$Standing", "bury", "(I)Z"⟩, 9), (⟨"GrainDole$Standing", "vacate", "(I)V"⟩, 9), (⟨"GrainDole$Standing", "sell", "(III)Z"⟩, 9), (⟨"GrainDole$Standing", "strike", "(I)Z"⟩, 9), (⟨"GrainDole$Parting", "dueShares", "(I)I"⟩, 7), (⟨"GrainDole$Parting", "cutByRank", "(LGrainDole$LawBook;I)I"⟩, 7), (⟨"GrainDole$Parting", "cutToWhatIsThere", "(II)V"⟩, 7), (⟨"GrainDole$Parting", "hand", "(I)I"⟩, 7), (⟨"GrainDole$Ledger", "grow", "(I)V"⟩, 7), (⟨"GrainDole$Ledger", "placesServed", "(I)I"⟩, 7), (⟨"GrainDole$Ledger", "startOf", "(I)I"⟩, 7), (⟨"GrainDole$Ledger", "endOf", "(I)I"⟩, 7), (⟨"GrainDole", "isParted", "(I)Z"⟩, 11), (⟨"GrainDoleModel", "four", "(I)V"⟩, 52), (⟨"GrainDoleModel", "empties", "(I)V"⟩, 52), (⟨"GrainDoleModel", "see", "()I"⟩, 52)]
theorem lw_r2 : ∀ q ∈ lw_privs_2, lw_okq q := List.forall_mem_cons.mpr ⟨lw_p16, List.forall_mem_cons.mpr ⟨lw_p17, List.forall_mem_cons.mpr ⟨lw_p18, List.forall_mem_cons.mpr ⟨lw_p19, List.forall_mem_cons.mpr ⟨lw_p20, List.forall_mem_cons.mpr ⟨lw_p21, List.forall_mem_cons.mpr ⟨lw_p22, List.forall_mem_cons.mpr ⟨lw_p23, List.forall_mem_cons.mpr ⟨lw_p24, List.forall_mem_cons.mpr ⟨lw_p25, List.forall_mem_cons.mpr ⟨lw_p26, List.forall_mem_cons.mpr ⟨lw_p27, List.forall_mem_cons.mpr ⟨lw_p28, List.forall_mem_cons.mpr ⟨lw_p29, List.forall_mem_cons.mpr ⟨lw_p30, List.forall_mem_cons.mpr ⟨lw_p31, fun _ h => absurd h List.not_mem_nil⟩⟩⟩⟩⟩⟩⟩⟩⟩⟩⟩⟩⟩⟩⟩⟩
theorem lw_p32 : lw_okq (⟨"GrainDoleModel", "clause", "(I)Z"⟩, 52) := ⟨⟨by decide +kernel, by decide +kernel⟩, List.mem_of_getElem? (i := 923) (by decide +kernel), List.mem_of_getElem? (i := 1113) (by decide +kernel), List.mem_of_getElem? (i := 1114) (by decide +kernel)⟩
theorem lw_p33 : lw_okq (⟨"GrainDoleModel", "clauseOf", "()I"⟩, 52) := ⟨⟨by decide +kernel, by decide +kernel⟩, List.mem_of_getElem? (i := 923) (by decide +kernel), List.mem_of_getElem? (i := 1117) (by decide +kernel), List.mem_of_getElem? (i := 1118) (by decide +kernel)⟩
theorem lw_p34 : lw_okq (⟨"GrainDoleModel", "looks", "()V"⟩, 52) := ⟨⟨by decide +kernel, by decide +kernel⟩, List.mem_of_getElem? (i := 923) (by decide +kernel), List.mem_of_getElem? (i := 1121) (by decide +kernel), List.mem_of_getElem? (i := 1122) (by decide +kernel)⟩
theorem lw_p35 : lw_okq (⟨"GrainDoleModel", "isText", "(IIIIIII)Z"⟩, 52) := ⟨⟨by decide +kernel, by decide +kernel⟩, List.mem_of_getElem? (i := 923) (by decide +kernel), List.mem_of_getElem? (i := 1125) (by decide +kernel), List.mem_of_getElem? (i := 1126) (by decide +kernel)⟩
theorem lw_p36 : lw_okq (⟨"GrainDoleModel", "fails", "(II)Z"⟩, 52) := ⟨⟨by decide +kernel, by decide +kernel⟩, List.mem_of_getElem? (i := 923) (by decide +kernel), List.mem_of_getElem? (i := 1129) (by decide +kernel), List.mem_of_getElem? (i := 1130) (by decide +kernel)⟩
theorem lw_p37 : lw_okq (⟨"GrainDoleModel", "number", "(II)Z"⟩, 52) := ⟨⟨by decide +kernel, by decide +kernel⟩, List.mem_of_getElem? (i := 923) (by decide +kernel), List.mem_of_getElem? (i := 1133) (by decide +kernel), List.mem_of_getElem? (i := 1134) (by decide +kernel)⟩
theorem lw_p38 : lw_okq (⟨"GrainDoleModel", "lawNumberOf", "(III)I"⟩, 52) := ⟨⟨by decide +kernel, by decide +kernel⟩, List.mem_of_getElem? (i := 923) (by decide +kernel), List.mem_of_getElem? (i := 1147) (by decide +kernel), List.mem_of_getElem? (i := 1148) (by decide +kernel)⟩
theorem lw_p39 : lw_okq (⟨"GrainDoleModel", "lawOf", "(II)I"⟩, 52) := ⟨⟨by decide +kernel, by decide +kernel⟩, List.mem_of_getElem? (i := 923) (by decide +kernel), List.mem_of_getElem? (i := 1151) (by decide +kernel), List.mem_of_getElem? (i := 1152) (by decide +kernel)⟩
theorem lw_p40 : lw_okq (⟨"GrainDoleModel", "list", "(II)V"⟩, 52) := ⟨⟨by decide +kernel, by decide +kernel⟩, List.mem_of_getElem? (i := 923) (by decide +kernel), List.mem_of_getElem? (i := 1163) (by decide +kernel), List.mem_of_getElem? (i := 1164) (by decide +kernel)⟩
theorem lw_p41 : lw_okq (⟨"GrainDoleModel", "goes", "(I)Z"⟩, 52) := ⟨⟨by decide +kernel, by decide +kernel⟩, List.mem_of_getElem? (i := 923) (by decide +kernel), List.mem_of_getElem? (i := 1167) (by decide +kernel), List.mem_of_getElem? (i := 1168) (by decide +kernel)⟩
theorem lw_p42 : lw_okq (⟨"GrainDoleModel", "placeOf", "(I)I"⟩, 52) := ⟨⟨by decide +kernel, by decide +kernel⟩, List.mem_of_getElem? (i := 923) (by decide +kernel), List.mem_of_getElem? (i := 1171) (by decide +kernel), List.mem_of_getElem? (i := 1172) (by decide +kernel)⟩
theorem lw_p43 : lw_okq (⟨"GrainDoleModel", "listKnown", "(II)I"⟩, 52) := ⟨⟨by decide +kernel, by decide +kernel⟩, List.mem_of_getElem? (i := 923) (by decide +kernel), List.mem_of_getElem? (i := 1175) (by decide +kernel), List.mem_of_getElem? (i := 1176) (by decide +kernel)⟩
theorem lw_p44 : lw_okq (⟨"GrainDoleModel", "lies", "(I)I"⟩, 52) := ⟨⟨by decide +kernel, by decide +kernel⟩, List.mem_of_getElem? (i := 923) (by decide +kernel), List.mem_of_getElem? (i := 1196) (by decide +kernel), List.mem_of_getElem? (i := 1197) (by decide +kernel)⟩
theorem lw_p45 : lw_okq (⟨"GrainDoleModel", "throwsOut", "()I"⟩, 52) := ⟨⟨by decide +kernel, by decide +kernel⟩, List.mem_of_getElem? (i := 923) (by decide +kernel), List.mem_of_getElem? (i := 1228) (by decide +kernel), List.mem_of_getElem? (i := 1229) (by decide +kernel)⟩
theorem lw_p46 : lw_okq (⟨"GrainDoleModel", "all", "()I"⟩, 52) := ⟨⟨by decide +kernel, by decide +kernel⟩, List.mem_of_getElem? (i := 923) (by decide +kernel), List.mem_of_getElem? (i := 1232) (by decide +kernel), List.mem_of_getElem? (i := 1233) (by decide +kernel)⟩
theorem lw_p47 : lw_okq (⟨"GrainDoleModel", "lean", "(II)V"⟩, 52) := ⟨⟨by decide +kernel, by decide +kernel⟩, List.mem_of_getElem? (i := 923) (by decide +kernel), List.mem_of_getElem? (i := 1236) (by decide +kernel), List.mem_of_getElem? (i := 1237) (by decide +kernel)⟩
def lw_privs_3 : List (MethodName × Nat) := [(⟨"GrainDoleModel", "clause", "(I)Z"⟩, 52), (⟨"GrainDoleModel", "clauseOf", "()I"⟩, 52), (⟨"GrainDoleModel", "looks", "()V"⟩, 52), (⟨"GrainDoleModel", "isText", "(IIIIIII)Z"⟩, 52), (⟨"GrainDoleModel", "fails", "(II)Z"⟩, 52), (⟨"GrainDoleModel", "number", "(II)Z"⟩, 52), (⟨"GrainDoleModel", "lawNumberOf", "(III)I"⟩, 52), (⟨"GrainDoleModel", "lawOf", "(II)I"⟩, 52), (⟨"GrainDoleModel", "list", "(II)V"⟩, 52), (⟨"GrainDoleModel", "goes", "(I)Z"⟩, 52), (⟨"GrainDoleModel", "placeOf", "(I)I"⟩, 52), (⟨"GrainDoleModel", "listKnown", "(II)I"⟩, 52), (⟨"GrainDoleModel", "lies", "(I)I"⟩, 52), (⟨"GrainDoleModel", "throwsOut", "()I"⟩, 52), (⟨"GrainDoleModel", "all", "()I"⟩, 52), (⟨"GrainDoleModel", "lean", "(II)V"⟩, 52)]
theorem lw_r3 : ∀ q ∈ lw_privs_3, lw_okq q := List.forall_mem_cons.mpr ⟨lw_p32, List.forall_mem_cons.mpr ⟨lw_p33, List.forall_mem_cons.mpr ⟨lw_p34, List.forall_mem_cons.mpr ⟨lw_p35, List.forall_mem_cons.mpr ⟨lw_p36, List.forall_mem_cons.mpr ⟨lw_p37, List.forall_mem_cons.mpr ⟨lw_p38, List.forall_mem_cons.mpr ⟨lw_p39, List.forall_mem_cons.mpr ⟨lw_p40, List.forall_mem_cons.mpr ⟨lw_p41, List.forall_mem_cons.mpr ⟨lw_p42, List.forall_mem_cons.mpr ⟨lw_p43, List.forall_mem_cons.mpr ⟨lw_p44, List.forall_mem_cons.mpr ⟨lw_p45, List.forall_mem_cons.mpr ⟨lw_p46, List.forall_mem_cons.mpr ⟨lw_p47, fun _ h => absurd h List.not_mem_nil⟩⟩⟩⟩⟩⟩⟩⟩⟩⟩⟩⟩⟩⟩⟩⟩
theorem lw_p48 : lw_okq (⟨"GrainDoleModel", "takesCorn", "(I)V"⟩, 52) := ⟨⟨by decide +kernel, by decide +kernel⟩, List.mem_of_getElem? (i := 923) (by decide +kernel), List.mem_of_getElem? (i := 1240) (by decide +kernel), List.mem_of_getElem? (i := 1241) (by decide +kernel)⟩
def lw_privs_4 : List (MethodName × Nat) := [(⟨"GrainDoleModel", "takesCorn", "(I)V"⟩, 52)]
theorem lw_r4 : ∀ q ∈ lw_privs_4, lw_okq q := List.forall_mem_cons.mpr ⟨lw_p48, fun _ h => absurd h List.not_mem_nil⟩
def lw_privs : List (MethodName × Nat) := lw_privs_1 ++ (lw_privs_2 ++ (lw_privs_3 ++ (lw_privs_4)))
def lw_tbl : List Cond := k2_sels lw_privs ++ tables_1
theorem lw_privs_ok : ∀ q ∈ lw_privs, lw_okq q := by
  show ∀ q ∈ lw_privs_1 ++ (lw_privs_2 ++ (lw_privs_3 ++ (lw_privs_4))), lw_okq q
  exact List.forall_mem_append.mpr ⟨lw_r1, List.forall_mem_append.mpr ⟨lw_r2, List.forall_mem_append.mpr ⟨lw_r3, lw_r4⟩⟩⟩

/-! ===== BEGIN words of one list among another's, by their places ===== -/
theorem goodIn_r {big : List Cond} (ws : List Cond) (ps : List Nat) (hp : ws = ps.filterMap (fun i => big[i]?)) (h : ws.all goodWord = true) : GoodIn big ws := by
  intro w hw
  have h1 := List.all_eq_true.mp h w hw
  rw [hp] at hw
  obtain ⟨i, -, hi⟩ := List.mem_filterMap.mp hw
  have hm : w ∈ big := by first | exact List.mem_of_getElem? hi | exact List.getElem?_mem hi
  exact ⟨hm, good_of_word h1⟩
theorem goodIn_app {big a b : List Cond} (ha : GoodIn big a) (hb : GoodIn big b) : GoodIn big (a ++ b) := fun w h => (List.mem_append.mp h).elim (ha w) (hb w)
theorem goodIn_ca {big a b : List Cond} {c : Cond} (ha : GoodIn big (c :: a)) (hb : GoodIn big b) : GoodIn big (c :: (a ++ b)) := fun w h => (List.mem_cons.mp h).elim (fun e => ha w (List.mem_cons.mpr (Or.inl e))) (fun h => (List.mem_append.mp h).elim (fun h => ha w (List.mem_cons.mpr (Or.inr h))) (hb w))
theorem goodIn_sub {big ws : List Cond} (hm : ∀ w ∈ ws, w ∈ big) (h : ws.all goodWord = true) : GoodIn big ws := fun w hw => ⟨hm w hw, good_of_word (List.all_eq_true.mp h w hw)⟩
/-! ===== END ===== -/
def RX0 : String := "GrainDole$Fleet"
def TX0 : u_T := fun k => match k with
  | 0 => ("GrainDole$Fleet", "contracts", "[I", true)
  | 1 => ("GrainDole$Fleet", "months", "[I", true)
  | _ => ("GrainDole$Fleet", "size", "I", false)
def tyX0 : Nat → FieldType := fun k => match k with
  | 0 => .array .int
  | 1 => .array .int
  | _ => .int
theorem nmX0 : ∀ a, a < 3 → ∀ b, b < 3 → a ≠ b → (TX0 a).2.1 ≠ (TX0 b).2.1 := by decide +kernel
theorem tyX0_ok : ∀ k, k < 3 → parseFieldDescriptor (TX0 k).2.2.1 = some (tyX0 k) := by decide +kernel
abbrev cX0_init : ByteArray := prog_2_method_1_code
def yX0_init : MethodName := ⟨RX0, "<init>", "()V"⟩
abbrev cX0_size : ByteArray := prog_2_method_2_code
def yX0_size : MethodName := ⟨RX0, "size", "()I"⟩
abbrev cX0_isFull : ByteArray := prog_2_method_3_code
def yX0_isFull : MethodName := ⟨RX0, "isFull", "()Z"⟩
abbrev cX0_has : ByteArray := prog_2_method_4_code
def yX0_has : MethodName := ⟨RX0, "has", "(I)Z"⟩
abbrev cX0_add : ByteArray := prog_2_method_5_code
def yX0_add : MethodName := ⟨RX0, "add", "(II)I"⟩
abbrev cX0_contractOf : ByteArray := prog_2_method_6_code
def yX0_contractOf : MethodName := ⟨RX0, "contractOf", "(I)I"⟩
abbrev cX0_monthOf : ByteArray := prog_2_method_7_code
def yX0_monthOf : MethodName := ⟨RX0, "monthOf", "(I)I"⟩
def RX1 : String := "GrainDole$LawBook"
def TX1 : u_T := fun k => match k with
  | 0 => ("GrainDole$LawBook", "values", "[I", true)
  | 1 => ("GrainDole$LawBook", "months", "[I", true)
  | 2 => ("GrainDole$LawBook", "knownFrom", "[I", true)
  | _ => ("GrainDole$LawBook", "size", "I", false)
def tyX1 : Nat → FieldType := fun k => match k with
  | 0 => .array .int
  | 1 => .array .int
  | 2 => .array .int
  | _ => .int
theorem nmX1 : ∀ a, a < 4 → ∀ b, b < 4 → a ≠ b → (TX1 a).2.1 ≠ (TX1 b).2.1 := by decide +kernel
theorem tyX1_ok : ∀ k, k < 4 → parseFieldDescriptor (TX1 k).2.2.1 = some (tyX1 k) := by decide +kernel
abbrev cX1_init : ByteArray := prog_3_method_1_code
def yX1_init : MethodName := ⟨RX1, "<init>", "()V"⟩
abbrev cX1_size : ByteArray := prog_3_method_2_code
def yX1_size : MethodName := ⟨RX1, "size", "()I"⟩
abbrev cX1_isFull : ByteArray := prog_3_method_3_code
def yX1_isFull : MethodName := ⟨RX1, "isFull", "()Z"⟩
abbrev cX1_add : ByteArray := prog_3_method_4_code
def yX1_add : MethodName := ⟨RX1, "add", "(IILGrainDole$LawReader;)I"⟩
abbrev cX1_inForce : ByteArray := prog_3_method_5_code
def yX1_inForce : MethodName := ⟨RX1, "inForce", "(II)I"⟩
abbrev cX1_value : ByteArray := prog_3_method_6_code
def yX1_value : MethodName := ⟨RX1, "value", "(II)I"⟩
def RX2 : String := "GrainDole$LawReader"
def TX2 : u_T := fun k => match k with
  | 0 => ("GrainDole$LawReader", "tape", "LGrainDole$Tape;", true)
  | 1 => ("GrainDole$LawReader", "values", "[I", true)
  | 2 => ("GrainDole$LawReader", "told", "[Z", true)
  | 3 => ("GrainDole$LawReader", "place", "I", false)
  | 4 => ("GrainDole$LawReader", "tokenStart", "I", false)
  | _ => ("GrainDole$LawReader", "fault", "I", false)
def tyX2 : Nat → FieldType := fun k => match k with
  | 0 => .object "GrainDole$Tape"
  | 1 => .array .int
  | 2 => .array .boolean
  | 3 => .int
  | 4 => .int
  | _ => .int
theorem nmX2 : ∀ a, a < 6 → ∀ b, b < 6 → a ≠ b → (TX2 a).2.1 ≠ (TX2 b).2.1 := by decide +kernel
theorem tyX2_ok : ∀ k, k < 6 → parseFieldDescriptor (TX2 k).2.2.1 = some (tyX2 k) := by decide +kernel
abbrev cX2_init : ByteArray := prog_4_method_1_code
def yX2_init : MethodName := ⟨RX2, "<init>", "(LGrainDole$Tape;)V"⟩
abbrev cX2_read : ByteArray := prog_4_method_2_code
def yX2_read : MethodName := ⟨RX2, "read", "()I"⟩
abbrev cX2_value : ByteArray := prog_4_method_3_code
def yX2_value : MethodName := ⟨RX2, "value", "(I)I"⟩
abbrev cX2_startAnew : ByteArray := prog_4_method_4_code
def yX2_startAnew : MethodName := ⟨RX2, "startAnew", "()V"⟩
abbrev cX2_readClause : ByteArray := prog_4_method_5_code
def yX2_readClause : MethodName := ⟨RX2, "readClause", "()V"⟩
abbrev cX2_goesOn : ByteArray := prog_4_method_6_code
def yX2_goesOn : MethodName := ⟨RX2, "goesOn", "()Z"⟩
abbrev cX2_readYesOrNo : ByteArray := prog_4_method_7_code
def yX2_readYesOrNo : MethodName := ⟨RX2, "readYesOrNo", "()I"⟩
abbrev cX2_readWord : ByteArray := prog_4_method_8_code
def yX2_readWord : MethodName := ⟨RX2, "readWord", "()V"⟩
abbrev cX2_readNumber : ByteArray := prog_4_method_9_code
def yX2_readNumber : MethodName := ⟨RX2, "readNumber", "(II)I"⟩
abbrev cX2_startToken : ByteArray := prog_4_method_10_code
def yX2_startToken : MethodName := ⟨RX2, "startToken", "()V"⟩
abbrev cX2_clauseNamed : ByteArray := prog_4_method_11_code
def yX2_clauseNamed : MethodName := ⟨RX2, "clauseNamed", "()I"⟩
abbrev cX2_isWord : ByteArray := prog_4_method_12_code
def yX2_isWord : MethodName := ⟨RX2, "isWord", "(Ljava/lang/String;)Z"⟩
abbrev cX2_refuse : ByteArray := prog_4_method_13_code
def yX2_refuse : MethodName := ⟨RX2, "refuse", "(I)V"⟩
abbrev cX2_isBetween : ByteArray := prog_4_method_14_code
def yX2_isBetween : MethodName := ⟨RX2, "isBetween", "(III)Z"⟩
def RX3 : String := "GrainDole$Ledger"
def TX3 : u_T := fun k => match k with
  | 0 => ("GrainDole$Ledger", "facts", "[I", true)
  | 1 => ("GrainDole$Ledger", "ends", "[I", true)
  | 2 => ("GrainDole$Ledger", "places", "[I", false)
  | 3 => ("GrainDole$Ledger", "citizens", "[I", false)
  | 4 => ("GrainDole$Ledger", "lots", "[I", false)
  | 5 => ("GrainDole$Ledger", "measures", "[I", false)
  | _ => ("GrainDole$Ledger", "size", "I", false)
def tyX3 : Nat → FieldType := fun k => match k with
  | 0 => .array .int
  | 1 => .array .int
  | 2 => .array .int
  | 3 => .array .int
  | 4 => .array .int
  | 5 => .array .int
  | _ => .int
theorem nmX3 : ∀ a, a < 7 → ∀ b, b < 7 → a ≠ b → (TX3 a).2.1 ≠ (TX3 b).2.1 := by decide +kernel
theorem tyX3_ok : ∀ k, k < 7 → parseFieldDescriptor (TX3 k).2.2.1 = some (tyX3 k) := by decide +kernel
abbrev cX3_init : ByteArray := prog_5_method_1_code
def yX3_init : MethodName := ⟨RX3, "<init>", "()V"⟩
abbrev cX3_note : ByteArray := prog_5_method_2_code
def yX3_note : MethodName := ⟨RX3, "note", "(IIII)V"⟩
abbrev cX3_grow : ByteArray := prog_5_method_3_code
def yX3_grow : MethodName := ⟨RX3, "grow", "(I)V"⟩
abbrev cX3_close : ByteArray := prog_5_method_4_code
def yX3_close : MethodName := ⟨RX3, "close", "(IIIIIZ)V"⟩
abbrev cX3_fact : ByteArray := prog_5_method_5_code
def yX3_fact : MethodName := ⟨RX3, "fact", "(II)I"⟩
abbrev cX3_sum : ByteArray := prog_5_method_6_code
def yX3_sum : MethodName := ⟨RX3, "sum", "(II)I"⟩
abbrev cX3_lotOf : ByteArray := prog_5_method_7_code
def yX3_lotOf : MethodName := ⟨RX3, "lotOf", "(III)I"⟩
abbrev cX3_hadWrongly : ByteArray := prog_5_method_8_code
def yX3_hadWrongly : MethodName := ⟨RX3, "hadWrongly", "(IILGrainDole$Standing;)I"⟩
abbrev cX3_placesServed : ByteArray := prog_5_method_9_code
def yX3_placesServed : MethodName := ⟨RX3, "placesServed", "(I)I"⟩
abbrev cX3_startOf : ByteArray := prog_5_method_10_code
def yX3_startOf : MethodName := ⟨RX3, "startOf", "(I)I"⟩
abbrev cX3_endOf : ByteArray := prog_5_method_11_code
def yX3_endOf : MethodName := ⟨RX3, "endOf", "(I)I"⟩
def RX4 : String := "GrainDole$Parting"
def TX4 : u_T := fun k => match k with
  | 0 => ("GrainDole$Parting", "standing", "LGrainDole$Standing;", true)
  | 1 => ("GrainDole$Parting", "stores", "LGrainDole$Stores;", true)
  | 2 => ("GrainDole$Parting", "tokens", "LGrainDole$Tokens;", true)
  | 3 => ("GrainDole$Parting", "ledger", "LGrainDole$Ledger;", true)
  | 4 => ("GrainDole$Parting", "due", "[I", true)
  | 5 => ("GrainDole$Parting", "dueByShare", "I", false)
  | _ => ("GrainDole$Parting", "lean", "Z", false)
def tyX4 : Nat → FieldType := fun k => match k with
  | 0 => .object "GrainDole$Standing"
  | 1 => .object "GrainDole$Stores"
  | 2 => .object "GrainDole$Tokens"
  | 3 => .object "GrainDole$Ledger"
  | 4 => .array .int
  | 5 => .int
  | _ => .boolean
theorem nmX4 : ∀ a, a < 7 → ∀ b, b < 7 → a ≠ b → (TX4 a).2.1 ≠ (TX4 b).2.1 := by decide +kernel
theorem tyX4_ok : ∀ k, k < 7 → parseFieldDescriptor (TX4 k).2.2.1 = some (tyX4 k) := by decide +kernel
abbrev cX4_init : ByteArray := prog_6_method_1_code
def yX4_init : MethodName := ⟨RX4, "<init>", "(LGrainDole$Standing;LGrainDole$Stores;LGrainDole$Tokens;LGrainDole$Ledger;)V"⟩
abbrev cX4_dueByShare : ByteArray := prog_6_method_2_code
def yX4_dueByShare : MethodName := ⟨RX4, "dueByShare", "()I"⟩
abbrev cX4_isLean : ByteArray := prog_6_method_3_code
def yX4_isLean : MethodName := ⟨RX4, "isLean", "()Z"⟩
abbrev cX4_settle : ByteArray := prog_6_method_4_code
def yX4_settle : MethodName := ⟨RX4, "settle", "(LGrainDole$LawBook;I)V"⟩
abbrev cX4_handOut : ByteArray := prog_6_method_5_code
def yX4_handOut : MethodName := ⟨RX4, "handOut", "()I"⟩
abbrev cX4_dueShares : ByteArray := prog_6_method_6_code
def yX4_dueShares : MethodName := ⟨RX4, "dueShares", "(I)I"⟩
abbrev cX4_cutByRank : ByteArray := prog_6_method_7_code
def yX4_cutByRank : MethodName := ⟨RX4, "cutByRank", "(LGrainDole$LawBook;I)I"⟩
abbrev cX4_cutToWhatIsThere : ByteArray := prog_6_method_8_code
def yX4_cutToWhatIsThere : MethodName := ⟨RX4, "cutToWhatIsThere", "(II)V"⟩
abbrev cX4_hand : ByteArray := prog_6_method_9_code
def yX4_hand : MethodName := ⟨RX4, "hand", "(I)I"⟩
def RX5 : String := "GrainDole$Roll"
def TX5 : u_T := fun k => match k with
  | 0 => ("GrainDole$Roll", "kinds", "[I", true)
  | 1 => ("GrainDole$Roll", "months", "[I", true)
  | 2 => ("GrainDole$Roll", "places", "[I", true)
  | 3 => ("GrainDole$Roll", "citizens", "[I", true)
  | 4 => ("GrainDole$Roll", "ranks", "[I", true)
  | 5 => ("GrainDole$Roll", "knownFrom", "[I", true)
  | 6 => ("GrainDole$Roll", "order", "[I", true)
  | _ => ("GrainDole$Roll", "size", "I", false)
def tyX5 : Nat → FieldType := fun k => match k with
  | 0 => .array .int
  | 1 => .array .int
  | 2 => .array .int
  | 3 => .array .int
  | 4 => .array .int
  | 5 => .array .int
  | 6 => .array .int
  | _ => .int
theorem nmX5 : ∀ a, a < 8 → ∀ b, b < 8 → a ≠ b → (TX5 a).2.1 ≠ (TX5 b).2.1 := by decide +kernel
theorem tyX5_ok : ∀ k, k < 8 → parseFieldDescriptor (TX5 k).2.2.1 = some (tyX5 k) := by decide +kernel
abbrev cX5_init : ByteArray := prog_7_method_1_code
def yX5_init : MethodName := ⟨RX5, "<init>", "()V"⟩
abbrev cX5_canBe : ByteArray := prog_7_method_2_code
def yX5_canBe : MethodName := ⟨RX5, "canBe", "(IIII)Z"⟩
abbrev cX5_size : ByteArray := prog_7_method_3_code
def yX5_size : MethodName := ⟨RX5, "size", "()I"⟩
abbrev cX5_isFull : ByteArray := prog_7_method_4_code
def yX5_isFull : MethodName := ⟨RX5, "isFull", "()Z"⟩
abbrev cX5_has : ByteArray := prog_7_method_5_code
def yX5_has : MethodName := ⟨RX5, "has", "(I)Z"⟩
abbrev cX5_add : ByteArray := prog_7_method_6_code
def yX5_add : MethodName := ⟨RX5, "add", "(IIIIII)I"⟩
abbrev cX5_putInOrder : ByteArray := prog_7_method_7_code
def yX5_putInOrder : MethodName := ⟨RX5, "putInOrder", "(I)V"⟩
abbrev cX5_inOrder : ByteArray := prog_7_method_8_code
def yX5_inOrder : MethodName := ⟨RX5, "inOrder", "(I)I"⟩
abbrev cX5_kindOf : ByteArray := prog_7_method_9_code
def yX5_kindOf : MethodName := ⟨RX5, "kindOf", "(I)I"⟩
abbrev cX5_monthOf : ByteArray := prog_7_method_10_code
def yX5_monthOf : MethodName := ⟨RX5, "monthOf", "(I)I"⟩
abbrev cX5_placeOf : ByteArray := prog_7_method_11_code
def yX5_placeOf : MethodName := ⟨RX5, "placeOf", "(I)I"⟩
abbrev cX5_citizenOf : ByteArray := prog_7_method_12_code
def yX5_citizenOf : MethodName := ⟨RX5, "citizenOf", "(I)I"⟩
abbrev cX5_rankOf : ByteArray := prog_7_method_13_code
def yX5_rankOf : MethodName := ⟨RX5, "rankOf", "(I)I"⟩
abbrev cX5_knownFrom : ByteArray := prog_7_method_14_code
def yX5_knownFrom : MethodName := ⟨RX5, "knownFrom", "(I)I"⟩
def RX6 : String := "GrainDole$Standing"
def TX6 : u_T := fun k => match k with
  | 0 => ("GrainDole$Standing", "roll", "LGrainDole$Roll;", true)
  | 1 => ("GrainDole$Standing", "laws", "LGrainDole$LawBook;", true)
  | 2 => ("GrainDole$Standing", "citizens", "[I", true)
  | 3 => ("GrainDole$Standing", "ranks", "[I", true)
  | 4 => ("GrainDole$Standing", "places", "[I", true)
  | 5 => ("GrainDole$Standing", "dead", "[Z", true)
  | 6 => ("GrainDole$Standing", "voids", "[Z", true)
  | 7 => ("GrainDole$Standing", "known", "I", false)
  | _ => ("GrainDole$Standing", "taken", "I", false)
def tyX6 : Nat → FieldType := fun k => match k with
  | 0 => .object "GrainDole$Roll"
  | 1 => .object "GrainDole$LawBook"
  | 2 => .array .int
  | 3 => .array .int
  | 4 => .array .int
  | 5 => .array .boolean
  | 6 => .array .boolean
  | 7 => .int
  | _ => .int
theorem nmX6 : ∀ a, a < 9 → ∀ b, b < 9 → a ≠ b → (TX6 a).2.1 ≠ (TX6 b).2.1 := by decide +kernel
theorem tyX6_ok : ∀ k, k < 9 → parseFieldDescriptor (TX6 k).2.2.1 = some (tyX6 k) := by decide +kernel
abbrev cX6_init : ByteArray := prog_8_method_1_code
def yX6_init : MethodName := ⟨RX6, "<init>", "(LGrainDole$Roll;LGrainDole$LawBook;)V"⟩
abbrev cX6_draw : ByteArray := prog_8_method_2_code
def yX6_draw : MethodName := ⟨RX6, "draw", "(II)V"⟩
abbrev cX6_open : ByteArray := prog_8_method_3_code
def yX6_open : MethodName := ⟨RX6, "open", "(I)V"⟩
abbrev cX6_advance : ByteArray := prog_8_method_4_code
def yX6_advance : MethodName := ⟨RX6, "advance", "(I)V"⟩
abbrev cX6_wasVoid : ByteArray := prog_8_method_5_code
def yX6_wasVoid : MethodName := ⟨RX6, "wasVoid", "(I)Z"⟩
abbrev cX6_citizenAt : ByteArray := prog_8_method_6_code
def yX6_citizenAt : MethodName := ⟨RX6, "citizenAt", "(I)I"⟩
abbrev cX6_rankAt : ByteArray := prog_8_method_7_code
def yX6_rankAt : MethodName := ⟨RX6, "rankAt", "(I)I"⟩
abbrev cX6_comesAbout : ByteArray := prog_8_method_8_code
def yX6_comesAbout : MethodName := ⟨RX6, "comesAbout", "(I)Z"⟩
abbrev cX6_enrol : ByteArray := prog_8_method_9_code
def yX6_enrol : MethodName := ⟨RX6, "enrol", "(III)Z"⟩
abbrev cX6_bury : ByteArray := prog_8_method_10_code
def yX6_bury : MethodName := ⟨RX6, "bury", "(I)Z"⟩
abbrev cX6_sell : ByteArray := prog_8_method_11_code
def yX6_sell : MethodName := ⟨RX6, "sell", "(III)Z"⟩
abbrev cX6_strike : ByteArray := prog_8_method_12_code
def yX6_strike : MethodName := ⟨RX6, "strike", "(I)Z"⟩
abbrev cX6_canTakePlace : ByteArray := prog_8_method_13_code
def yX6_canTakePlace : MethodName := ⟨RX6, "canTakePlace", "(I)Z"⟩
abbrev cX6_seat : ByteArray := prog_8_method_14_code
def yX6_seat : MethodName := ⟨RX6, "seat", "(II)V"⟩
abbrev cX6_vacate : ByteArray := prog_8_method_15_code
def yX6_vacate : MethodName := ⟨RX6, "vacate", "(I)V"⟩
def RX7 : String := "GrainDole$Stores"
def TX7 : u_T := fun k => match k with
  | 0 => ("GrainDole$Stores", "rooms", "[I", true)
  | 1 => ("GrainDole$Stores", "lying", "[I", true)
  | 2 => ("GrainDole$Stores", "ships", "[I", true)
  | 3 => ("GrainDole$Stores", "granaries", "[I", true)
  | 4 => ("GrainDole$Stores", "months", "[I", true)
  | 5 => ("GrainDole$Stores", "landed", "[I", true)
  | 6 => ("GrainDole$Stores", "rest", "[I", true)
  | 7 => ("GrainDole$Stores", "thrown", "[I", true)
  | 8 => ("GrainDole$Stores", "damps", "[Z", true)
  | _ => ("GrainDole$Stores", "size", "I", false)
def tyX7 : Nat → FieldType := fun k => match k with
  | 0 => .array .int
  | 1 => .array .int
  | 2 => .array .int
  | 3 => .array .int
  | 4 => .array .int
  | 5 => .array .int
  | 6 => .array .int
  | 7 => .array .int
  | 8 => .array .boolean
  | _ => .int
theorem nmX7 : ∀ a, a < 10 → ∀ b, b < 10 → a ≠ b → (TX7 a).2.1 ≠ (TX7 b).2.1 := by decide +kernel
theorem tyX7_ok : ∀ k, k < 10 → parseFieldDescriptor (TX7 k).2.2.1 = some (tyX7 k) := by decide +kernel
abbrev cX7_init : ByteArray := prog_9_method_1_code
def yX7_init : MethodName := ⟨RX7, "<init>", "()V"⟩
abbrev cX7_size : ByteArray := prog_9_method_2_code
def yX7_size : MethodName := ⟨RX7, "size", "()I"⟩
abbrev cX7_isFull : ByteArray := prog_9_method_3_code
def yX7_isFull : MethodName := ⟨RX7, "isFull", "()Z"⟩
abbrev cX7_has : ByteArray := prog_9_method_4_code
def yX7_has : MethodName := ⟨RX7, "has", "(I)Z"⟩
abbrev cX7_lyingIn : ByteArray := prog_9_method_5_code
def yX7_lyingIn : MethodName := ⟨RX7, "lyingIn", "(I)I"⟩
abbrev cX7_lyingInAll : ByteArray := prog_9_method_6_code
def yX7_lyingInAll : MethodName := ⟨RX7, "lyingInAll", "()I"⟩
abbrev cX7_spaceIn : ByteArray := prog_9_method_7_code
def yX7_spaceIn : MethodName := ⟨RX7, "spaceIn", "(I)I"⟩
abbrev cX7_changeRoom : ByteArray := prog_9_method_8_code
def yX7_changeRoom : MethodName := ⟨RX7, "changeRoom", "(II)I"⟩
abbrev cX7_add : ByteArray := prog_9_method_9_code
def yX7_add : MethodName := ⟨RX7, "add", "(IIIIZ)V"⟩
abbrev cX7_fact : ByteArray := prog_9_method_10_code
def yX7_fact : MethodName := ⟨RX7, "fact", "(II)I"⟩
abbrev cX7_landedBy : ByteArray := prog_9_method_11_code
def yX7_landedBy : MethodName := ⟨RX7, "landedBy", "(II)I"⟩
abbrev cX7_throwOut : ByteArray := prog_9_method_12_code
def yX7_throwOut : MethodName := ⟨RX7, "throwOut", "(III)I"⟩
abbrev cX7_take : ByteArray := prog_9_method_13_code
def yX7_take : MethodName := ⟨RX7, "take", "(II)I"⟩
def RX8 : String := "GrainDole$Tape"
def TX8 : u_T := fun k => match k with
  | 0 => ("GrainDole$Tape", "bytes", "[I", true)
  | _ => ("GrainDole$Tape", "length", "I", false)
def tyX8 : Nat → FieldType := fun k => match k with
  | 0 => .array .int
  | _ => .int
theorem nmX8 : ∀ a, a < 2 → ∀ b, b < 2 → a ≠ b → (TX8 a).2.1 ≠ (TX8 b).2.1 := by decide +kernel
theorem tyX8_ok : ∀ k, k < 2 → parseFieldDescriptor (TX8 k).2.2.1 = some (tyX8 k) := by decide +kernel
abbrev cX8_init : ByteArray := prog_10_method_1_code
def yX8_init : MethodName := ⟨RX8, "<init>", "()V"⟩
abbrev cX8_length : ByteArray := prog_10_method_2_code
def yX8_length : MethodName := ⟨RX8, "length", "()I"⟩
abbrev cX8_hasSpace : ByteArray := prog_10_method_3_code
def yX8_hasSpace : MethodName := ⟨RX8, "hasSpace", "(I)Z"⟩
abbrev cX8_append : ByteArray := prog_10_method_4_code
def yX8_append : MethodName := ⟨RX8, "append", "(I)V"⟩
abbrev cX8_cut : ByteArray := prog_10_method_5_code
def yX8_cut : MethodName := ⟨RX8, "cut", "(I)V"⟩
abbrev cX8_at : ByteArray := prog_10_method_6_code
def yX8_at : MethodName := ⟨RX8, "at", "(I)I"⟩
def RX9 : String := "GrainDole$Tokens"
def TX9 : u_T := fun k => match k with
  | 0 => ("GrainDole$Tokens", "sworn", "[Z", true)
  | 1 => ("GrainDole$Tokens", "shown", "[Z", true)
  | _ => ("GrainDole$Tokens", "frauds", "[I", true)
def tyX9 : Nat → FieldType := fun k => match k with
  | 0 => .array .boolean
  | 1 => .array .boolean
  | _ => .array .int
theorem nmX9 : ∀ a, a < 3 → ∀ b, b < 3 → a ≠ b → (TX9 a).2.1 ≠ (TX9 b).2.1 := by decide +kernel
theorem tyX9_ok : ∀ k, k < 3 → parseFieldDescriptor (TX9 k).2.2.1 = some (tyX9 k) := by decide +kernel
abbrev cX9_init : ByteArray := prog_11_method_1_code
def yX9_init : MethodName := ⟨RX9, "<init>", "()V"⟩
abbrev cX9_isSworn : ByteArray := prog_11_method_2_code
def yX9_isSworn : MethodName := ⟨RX9, "isSworn", "(I)Z"⟩
abbrev cX9_setSworn : ByteArray := prog_11_method_3_code
def yX9_setSworn : MethodName := ⟨RX9, "setSworn", "(I)V"⟩
abbrev cX9_wasShownGood : ByteArray := prog_11_method_4_code
def yX9_wasShownGood : MethodName := ⟨RX9, "wasShownGood", "(I)Z"⟩
abbrev cX9_judge : ByteArray := prog_11_method_5_code
def yX9_judge : MethodName := ⟨RX9, "judge", "(II)I"⟩
abbrev cX9_note : ByteArray := prog_11_method_6_code
def yX9_note : MethodName := ⟨RX9, "note", "(III)V"⟩
abbrev cX9_fraudsAt : ByteArray := prog_11_method_7_code
def yX9_fraudsAt : MethodName := ⟨RX9, "fraudsAt", "(I)I"⟩
abbrev cX9_clear : ByteArray := prog_11_method_8_code
def yX9_clear : MethodName := ⟨RX9, "clear", "()V"⟩
def RX10 : String := "GrainDole"
def TX10 : u_T := fun k => match k with
  | 0 => ("GrainDole", "tape", "LGrainDole$Tape;", true)
  | 1 => ("GrainDole", "reader", "LGrainDole$LawReader;", true)
  | 2 => ("GrainDole", "laws", "LGrainDole$LawBook;", true)
  | 3 => ("GrainDole", "roll", "LGrainDole$Roll;", true)
  | 4 => ("GrainDole", "standing", "LGrainDole$Standing;", true)
  | 5 => ("GrainDole", "fleet", "LGrainDole$Fleet;", true)
  | 6 => ("GrainDole", "stores", "LGrainDole$Stores;", true)
  | 7 => ("GrainDole", "tokens", "LGrainDole$Tokens;", true)
  | 8 => ("GrainDole", "ledger", "LGrainDole$Ledger;", true)
  | 9 => ("GrainDole", "parting", "LGrainDole$Parting;", true)
  | _ => ("GrainDole", "now", "I", false)
def tyX10 : Nat → FieldType := fun k => match k with
  | 0 => .object "GrainDole$Tape"
  | 1 => .object "GrainDole$LawReader"
  | 2 => .object "GrainDole$LawBook"
  | 3 => .object "GrainDole$Roll"
  | 4 => .object "GrainDole$Standing"
  | 5 => .object "GrainDole$Fleet"
  | 6 => .object "GrainDole$Stores"
  | 7 => .object "GrainDole$Tokens"
  | 8 => .object "GrainDole$Ledger"
  | 9 => .object "GrainDole$Parting"
  | _ => .int
theorem nmX10 : ∀ a, a < 11 → ∀ b, b < 11 → a ≠ b → (TX10 a).2.1 ≠ (TX10 b).2.1 := by decide +kernel
theorem tyX10_ok : ∀ k, k < 11 → parseFieldDescriptor (TX10 k).2.2.1 = some (tyX10 k) := by decide +kernel
abbrev cX10_init : ByteArray := prog_1_method_1_code
def yX10_init : MethodName := ⟨RX10, "<init>", "()V"⟩
abbrev cX10_feed : ByteArray := prog_1_method_2_code
def yX10_feed : MethodName := ⟨RX10, "feed", "(IIIII)I"⟩
abbrev cX10_end : ByteArray := prog_1_method_3_code
def yX10_end : MethodName := ⟨RX10, "end", "(I)I"⟩
abbrev cX10_law : ByteArray := prog_1_method_4_code
def yX10_law : MethodName := ⟨RX10, "law", "(I)I"⟩
abbrev cX10_holds : ByteArray := prog_1_method_5_code
def yX10_holds : MethodName := ⟨RX10, "holds", "(III)I"⟩
abbrev cX10_enter : ByteArray := prog_1_method_6_code
def yX10_enter : MethodName := ⟨RX10, "enter", "(IIIII)I"⟩
abbrev cX10_isVoid : ByteArray := prog_1_method_7_code
def yX10_isVoid : MethodName := ⟨RX10, "isVoid", "(II)I"⟩
abbrev cX10_holder : ByteArray := prog_1_method_8_code
def yX10_holder : MethodName := ⟨RX10, "holder", "(III)I"⟩
abbrev cX10_rank : ByteArray := prog_1_method_9_code
def yX10_rank : MethodName := ⟨RX10, "rank", "(III)I"⟩
abbrev cX10_ship : ByteArray := prog_1_method_10_code
def yX10_ship : MethodName := ⟨RX10, "ship", "(II)I"⟩
abbrev cX10_room : ByteArray := prog_1_method_11_code
def yX10_room : MethodName := ⟨RX10, "room", "(II)I"⟩
abbrev cX10_land : ByteArray := prog_1_method_12_code
def yX10_land : MethodName := ⟨RX10, "land", "(IIIZ)I"⟩
abbrev cX10_lot : ByteArray := prog_1_method_13_code
def yX10_lot : MethodName := ⟨RX10, "lot", "(II)I"⟩
abbrev cX10_premium : ByteArray := prog_1_method_14_code
def yX10_premium : MethodName := ⟨RX10, "premium", "(I)I"⟩
abbrev cX10_swear : ByteArray := prog_1_method_15_code
def yX10_swear : MethodName := ⟨RX10, "swear", "(I)Z"⟩
abbrev cX10_show : ByteArray := prog_1_method_16_code
def yX10_show : MethodName := ⟨RX10, "show", "(III)I"⟩
abbrev cX10_frauds : ByteArray := prog_1_method_17_code
def yX10_frauds : MethodName := ⟨RX10, "frauds", "(I)I"⟩
abbrev cX10_part : ByteArray := prog_1_method_18_code
def yX10_part : MethodName := ⟨RX10, "part", "()I"⟩
abbrev cX10_month : ByteArray := prog_1_method_19_code
def yX10_month : MethodName := ⟨RX10, "month", "(II)I"⟩
abbrev cX10_given : ByteArray := prog_1_method_20_code
def yX10_given : MethodName := ⟨RX10, "given", "(II)I"⟩
abbrev cX10_from : ByteArray := prog_1_method_21_code
def yX10_from : MethodName := ⟨RX10, "from", "(III)I"⟩
abbrev cX10_back : ByteArray := prog_1_method_22_code
def yX10_back : MethodName := ⟨RX10, "back", "(I)I"⟩
abbrev cX10_count : ByteArray := prog_1_method_23_code
def yX10_count : MethodName := ⟨RX10, "count", "(I)I"⟩
abbrev cX10_isOver : ByteArray := prog_1_method_24_code
def yX10_isOver : MethodName := ⟨RX10, "isOver", "()Z"⟩
abbrev cX10_isParted : ByteArray := prog_1_method_25_code
def yX10_isParted : MethodName := ⟨RX10, "isParted", "(I)Z"⟩
abbrev cX10_isMonth : ByteArray := prog_1_method_26_code
def yX10_isMonth : MethodName := ⟨RX10, "isMonth", "(I)Z"⟩
abbrev cX10_isPlace : ByteArray := prog_1_method_27_code
def yX10_isPlace : MethodName := ⟨RX10, "isPlace", "(I)Z"⟩
abbrev cX10_isCitizen : ByteArray := prog_1_method_28_code
def yX10_isCitizen : MethodName := ⟨RX10, "isCitizen", "(I)Z"⟩
abbrev cX10_isRank : ByteArray := prog_1_method_29_code
def yX10_isRank : MethodName := ⟨RX10, "isRank", "(I)Z"⟩
abbrev cX10_isGranary : ByteArray := prog_1_method_30_code
def yX10_isGranary : MethodName := ⟨RX10, "isGranary", "(I)Z"⟩
abbrev cX10_isGate : ByteArray := prog_1_method_31_code
def yX10_isGate : MethodName := ⟨RX10, "isGate", "(I)Z"⟩
abbrev cX10_isCargo : ByteArray := prog_1_method_32_code
def yX10_isCargo : MethodName := ⟨RX10, "isCargo", "(I)Z"⟩
def RX11 : String := "GrainDoleModel"
def TX11 : u_T := fun k => match k with
  | 0 => ("GrainDoleModel", "now", "I", false)
  | 1 => ("GrainDoleModel", "tape", "[B", true)
  | 2 => ("GrainDoleModel", "taped", "I", false)
  | 3 => ("GrainDoleModel", "laws", "I", false)
  | 4 => ("GrainDoleModel", "lawFrom", "[I", true)
  | 5 => ("GrainDoleModel", "lawKnown", "[I", true)
  | 6 => ("GrainDoleModel", "lawNumber", "[I", true)
  | 7 => ("GrainDoleModel", "entries", "I", false)
  | 8 => ("GrainDoleModel", "kind", "[I", true)
  | 9 => ("GrainDoleModel", "monthOf", "[I", true)
  | 10 => ("GrainDoleModel", "one", "[I", true)
  | 11 => ("GrainDoleModel", "two", "[I", true)
  | 12 => ("GrainDoleModel", "three", "[I", true)
  | 13 => ("GrainDoleModel", "known", "[I", true)
  | 14 => ("GrainDoleModel", "ships", "I", false)
  | 15 => ("GrainDoleModel", "contract", "[I", true)
  | 16 => ("GrainDoleModel", "contractMonth", "[I", true)
  | 17 => ("GrainDoleModel", "room", "[I", true)
  | 18 => ("GrainDoleModel", "lots", "I", false)
  | 19 => ("GrainDoleModel", "lotShip", "[I", true)
  | 20 => ("GrainDoleModel", "lotGranary", "[I", true)
  | 21 => ("GrainDoleModel", "lotMonth", "[I", true)
  | 22 => ("GrainDoleModel", "lotMany", "[I", true)
  | 23 => ("GrainDoleModel", "lotLeft", "[I", true)
  | 24 => ("GrainDoleModel", "lotThrown", "[I", true)
  | 25 => ("GrainDoleModel", "isDamp", "[Z", true)
  | 26 => ("GrainDoleModel", "isSworn", "[Z", true)
  | 27 => ("GrainDoleModel", "isShown", "[Z", true)
  | 28 => ("GrainDoleModel", "frauds", "[I", true)
  | 29 => ("GrainDoleModel", "monthNumber", "[I", true)
  | 30 => ("GrainDoleModel", "given", "[I", true)
  | 31 => ("GrainDoleModel", "givenTo", "[I", true)
  | 32 => ("GrainDoleModel", "takes", "I", false)
  | 33 => ("GrainDoleModel", "takeFrom", "[I", true)
  | 34 => ("GrainDoleModel", "takeLot", "[I", true)
  | 35 => ("GrainDoleModel", "takePlace", "[I", true)
  | 36 => ("GrainDoleModel", "takeMany", "[I", true)
  | 37 => ("GrainDoleModel", "next", "I", false)
  | 38 => ("GrainDoleModel", "fault", "I", false)
  | 39 => ("GrainDoleModel", "wordFrom", "I", false)
  | 40 => ("GrainDoleModel", "wordSize", "I", false)
  | 41 => ("GrainDoleModel", "said", "I", false)
  | 42 => ("GrainDoleModel", "word", "[I", true)
  | 43 => ("GrainDoleModel", "seen", "I", false)
  | 44 => ("GrainDoleModel", "holderOf", "[I", true)
  | 45 => ("GrainDoleModel", "rankOf", "[I", true)
  | 46 => ("GrainDoleModel", "isDead", "[Z", true)
  | 47 => ("GrainDoleModel", "isVoided", "[Z", true)
  | 48 => ("GrainDoleModel", "order", "[I", true)
  | 49 => ("GrainDoleModel", "listBy", "I", false)
  | 50 => ("GrainDoleModel", "due", "[I", true)
  | _ => ("GrainDoleModel", "wants", "[Z", true)
def tyX11 : Nat → FieldType := fun k => match k with
  | 0 => .int
  | 1 => .array .byte
  | 2 => .int
  | 3 => .int
  | 4 => .array .int
  | 5 => .array .int
  | 6 => .array .int
  | 7 => .int
  | 8 => .array .int
  | 9 => .array .int
  | 10 => .array .int
  | 11 => .array .int
  | 12 => .array .int
  | 13 => .array .int
  | 14 => .int
  | 15 => .array .int
  | 16 => .array .int
  | 17 => .array .int
  | 18 => .int
  | 19 => .array .int
  | 20 => .array .int
  | 21 => .array .int
  | 22 => .array .int
  | 23 => .array .int
  | 24 => .array .int
  | 25 => .array .boolean
  | 26 => .array .boolean
  | 27 => .array .boolean
  | 28 => .array .int
  | 29 => .array .int
  | 30 => .array .int
  | 31 => .array .int
  | 32 => .int
  | 33 => .array .int
  | 34 => .array .int
  | 35 => .array .int
  | 36 => .array .int
  | 37 => .int
  | 38 => .int
  | 39 => .int
  | 40 => .int
  | 41 => .int
  | 42 => .array .int
  | 43 => .int
  | 44 => .array .int
  | 45 => .array .int
  | 46 => .array .boolean
  | 47 => .array .boolean
  | 48 => .array .int
  | 49 => .int
  | 50 => .array .int
  | _ => .array .boolean
theorem nmX11 : ∀ a, a < 52 → ∀ b, b < 52 → a ≠ b → (TX11 a).2.1 ≠ (TX11 b).2.1 := by decide +kernel
theorem tyX11_ok : ∀ k, k < 52 → parseFieldDescriptor (TX11 k).2.2.1 = some (tyX11 k) := by decide +kernel
abbrev cX11_init : ByteArray := prog_13_method_1_code
def yX11_init : MethodName := ⟨RX11, "<init>", "()V"⟩
abbrev cX11_in : ByteArray := prog_13_method_2_code
def yX11_in : MethodName := ⟨RX11, "in", "(III)Z"⟩
abbrev cX11_four : ByteArray := prog_13_method_3_code
def yX11_four : MethodName := ⟨RX11, "four", "(I)V"⟩
abbrev cX11_feed : ByteArray := prog_13_method_4_code
def yX11_feed : MethodName := ⟨RX11, "feed", "(IIIII)I"⟩
abbrev cX11_end : ByteArray := prog_13_method_5_code
def yX11_end : MethodName := ⟨RX11, "end", "(I)I"⟩
abbrev cX11_fails : ByteArray := prog_13_method_6_code
def yX11_fails : MethodName := ⟨RX11, "fails", "(II)Z"⟩
abbrev cX11_see : ByteArray := prog_13_method_7_code
def yX11_see : MethodName := ⟨RX11, "see", "()I"⟩
abbrev cX11_isDigit : ByteArray := prog_13_method_8_code
def yX11_isDigit : MethodName := ⟨RX11, "isDigit", "(I)Z"⟩
abbrev cX11_looks : ByteArray := prog_13_method_9_code
def yX11_looks : MethodName := ⟨RX11, "looks", "()V"⟩
abbrev cX11_number : ByteArray := prog_13_method_10_code
def yX11_number : MethodName := ⟨RX11, "number", "(II)Z"⟩
abbrev cX11_isText : ByteArray := prog_13_method_11_code
def yX11_isText : MethodName := ⟨RX11, "isText", "(IIIIIII)Z"⟩
abbrev cX11_clauseOf : ByteArray := prog_13_method_12_code
def yX11_clauseOf : MethodName := ⟨RX11, "clauseOf", "()I"⟩
abbrev cX11_empties : ByteArray := prog_13_method_13_code
def yX11_empties : MethodName := ⟨RX11, "empties", "(I)V"⟩
abbrev cX11_clause : ByteArray := prog_13_method_14_code
def yX11_clause : MethodName := ⟨RX11, "clause", "(I)Z"⟩
abbrev cX11_law : ByteArray := prog_13_method_15_code
def yX11_law : MethodName := ⟨RX11, "law", "(I)I"⟩
abbrev cX11_lawOf : ByteArray := prog_13_method_16_code
def yX11_lawOf : MethodName := ⟨RX11, "lawOf", "(II)I"⟩
abbrev cX11_lawNumberOf : ByteArray := prog_13_method_17_code
def yX11_lawNumberOf : MethodName := ⟨RX11, "lawNumberOf", "(III)I"⟩
abbrev cX11_isMonth : ByteArray := prog_13_method_18_code
def yX11_isMonth : MethodName := ⟨RX11, "isMonth", "(I)Z"⟩
abbrev cX11_holds : ByteArray := prog_13_method_19_code
def yX11_holds : MethodName := ⟨RX11, "holds", "(III)I"⟩
abbrev cX11_placeOf : ByteArray := prog_13_method_20_code
def yX11_placeOf : MethodName := ⟨RX11, "placeOf", "(I)I"⟩
abbrev cX11_goes : ByteArray := prog_13_method_21_code
def yX11_goes : MethodName := ⟨RX11, "goes", "(I)Z"⟩
abbrev cX11_listKnown : ByteArray := prog_13_method_22_code
def yX11_listKnown : MethodName := ⟨RX11, "listKnown", "(II)I"⟩
abbrev cX11_list : ByteArray := prog_13_method_23_code
def yX11_list : MethodName := ⟨RX11, "list", "(II)V"⟩
abbrev cX11_enter : ByteArray := prog_13_method_24_code
def yX11_enter : MethodName := ⟨RX11, "enter", "(IIIII)I"⟩
abbrev cX11_isVoid : ByteArray := prog_13_method_25_code
def yX11_isVoid : MethodName := ⟨RX11, "isVoid", "(II)I"⟩
abbrev cX11_holder : ByteArray := prog_13_method_26_code
def yX11_holder : MethodName := ⟨RX11, "holder", "(III)I"⟩
abbrev cX11_rank : ByteArray := prog_13_method_27_code
def yX11_rank : MethodName := ⟨RX11, "rank", "(III)I"⟩
abbrev cX11_ship : ByteArray := prog_13_method_28_code
def yX11_ship : MethodName := ⟨RX11, "ship", "(II)I"⟩
abbrev cX11_lies : ByteArray := prog_13_method_29_code
def yX11_lies : MethodName := ⟨RX11, "lies", "(I)I"⟩
abbrev cX11_room : ByteArray := prog_13_method_30_code
def yX11_room : MethodName := ⟨RX11, "room", "(II)I"⟩
abbrev cX11_land : ByteArray := prog_13_method_31_code
def yX11_land : MethodName := ⟨RX11, "land", "(IIIZ)I"⟩
abbrev cX11_lot : ByteArray := prog_13_method_32_code
def yX11_lot : MethodName := ⟨RX11, "lot", "(II)I"⟩
abbrev cX11_premium : ByteArray := prog_13_method_33_code
def yX11_premium : MethodName := ⟨RX11, "premium", "(I)I"⟩
abbrev cX11_swear : ByteArray := prog_13_method_34_code
def yX11_swear : MethodName := ⟨RX11, "swear", "(I)Z"⟩
abbrev cX11_show : ByteArray := prog_13_method_35_code
def yX11_show : MethodName := ⟨RX11, "show", "(III)I"⟩
abbrev cX11_frauds : ByteArray := prog_13_method_36_code
def yX11_frauds : MethodName := ⟨RX11, "frauds", "(I)I"⟩
abbrev cX11_throwsOut : ByteArray := prog_13_method_37_code
def yX11_throwsOut : MethodName := ⟨RX11, "throwsOut", "()I"⟩
abbrev cX11_all : ByteArray := prog_13_method_38_code
def yX11_all : MethodName := ⟨RX11, "all", "()I"⟩
abbrev cX11_lean : ByteArray := prog_13_method_39_code
def yX11_lean : MethodName := ⟨RX11, "lean", "(II)V"⟩
abbrev cX11_part : ByteArray := prog_13_method_40_code
def yX11_part : MethodName := ⟨RX11, "part", "()I"⟩
abbrev cX11_takesCorn : ByteArray := prog_13_method_41_code
def yX11_takesCorn : MethodName := ⟨RX11, "takesCorn", "(I)V"⟩
abbrev cX11_month : ByteArray := prog_13_method_42_code
def yX11_month : MethodName := ⟨RX11, "month", "(II)I"⟩
abbrev cX11_given : ByteArray := prog_13_method_43_code
def yX11_given : MethodName := ⟨RX11, "given", "(II)I"⟩
abbrev cX11_from : ByteArray := prog_13_method_44_code
def yX11_from : MethodName := ⟨RX11, "from", "(III)I"⟩
abbrev cX11_back : ByteArray := prog_13_method_45_code
def yX11_back : MethodName := ⟨RX11, "back", "(I)I"⟩
abbrev cX11_count : ByteArray := prog_13_method_46_code
def yX11_count : MethodName := ⟨RX11, "count", "(I)I"⟩
def RJx8e188 : String := "java/lang/Cloneable"
def TJx8e188 : u_T := fun k => match k with
  | _ => ("", "", "", false)
def tyJx8e188 : Nat → FieldType := fun k => match k with
  | _ => .int
theorem nmJx8e188 : ∀ a, a < 0 → ∀ b, b < 0 → a ≠ b → (TJx8e188 a).2.1 ≠ (TJx8e188 b).2.1 := by decide +kernel
theorem tyJx8e188_ok : ∀ k, k < 0 → parseFieldDescriptor (TJx8e188 k).2.2.1 = some (tyJx8e188 k) := by decide +kernel
def RJ9 : String := "java/lang/Math"
def TJ9 : u_T := fun k => match k with
  | _ => ("", "", "", false)
def tyJ9 : Nat → FieldType := fun k => match k with
  | _ => .int
theorem nmJ9 : ∀ a, a < 0 → ∀ b, b < 0 → a ≠ b → (TJ9 a).2.1 ≠ (TJ9 b).2.1 := by decide +kernel
theorem tyJ9_ok : ∀ k, k < 0 → parseFieldDescriptor (TJ9 k).2.2.1 = some (tyJ9 k) := by decide +kernel
abbrev cJ9_max_7cf53 : ByteArray := prog_15_method_65_code
def yJ9_max_7cf53 : MethodName := ⟨RJ9, "max", "(II)I"⟩
abbrev cJ9_min_7cf53 : ByteArray := prog_15_method_69_code
def yJ9_min_7cf53 : MethodName := ⟨RJ9, "min", "(II)I"⟩
def RJ0 : String := "java/lang/String"
def TJ0 : u_T := fun k => match k with
  | _ => ("", "", "", false)
def tyJ0 : Nat → FieldType := fun k => match k with
  | _ => .int
theorem nmJ0 : ∀ a, a < 0 → ∀ b, b < 0 → a ≠ b → (TJ0 a).2.1 ≠ (TJ0 b).2.1 := by decide +kernel
theorem tyJ0_ok : ∀ k, k < 0 → parseFieldDescriptor (TJ0 k).2.2.1 = some (tyJ0 k) := by decide +kernel
abbrev cJ0_length_8abf5 : ByteArray := prog_16_method_54_code
def yJ0_length_8abf5 : MethodName := ⟨RJ0, "length", "()I"⟩
abbrev cJ0_charAt_5068e : ByteArray := prog_16_method_56_code
def yJ0_charAt_5068e : MethodName := ⟨RJ0, "charAt", "(I)C"⟩
abbrev cJ0_coder_7d493 : ByteArray := prog_16_method_152_code
def yJ0_coder_7d493 : MethodName := ⟨RJ0, "coder", "()B"⟩
abbrev cJ0_isLatin1_aae02 : ByteArray := prog_16_method_154_code
def yJ0_isLatin1_aae02 : MethodName := ⟨RJ0, "isLatin1", "()Z"⟩
abbrev cJ0_checkIndex_df160 : ByteArray := prog_16_method_155_code
def yJ0_checkIndex_df160 : MethodName := ⟨RJ0, "checkIndex", "(II)V"⟩
def RJ1 : String := "java/lang/StringLatin1"
def TJ1 : u_T := fun k => match k with
  | _ => ("", "", "", false)
def tyJ1 : Nat → FieldType := fun k => match k with
  | _ => .int
theorem nmJ1 : ∀ a, a < 0 → ∀ b, b < 0 → a ≠ b → (TJ1 a).2.1 ≠ (TJ1 b).2.1 := by decide +kernel
theorem tyJ1_ok : ∀ k, k < 0 → parseFieldDescriptor (TJ1 k).2.2.1 = some (tyJ1 k) := by decide +kernel
abbrev cJ1_charAt_3b067 : ByteArray := prog_17_method_2_code
def yJ1_charAt_3b067 : MethodName := ⟨RJ1, "charAt", "([BI)C"⟩
def RJ2 : String := "java/lang/StringUTF16"
def TJ2 : u_T := fun k => match k with
  | _ => ("", "", "", false)
def tyJ2 : Nat → FieldType := fun k => match k with
  | _ => .int
theorem nmJ2 : ∀ a, a < 0 → ∀ b, b < 0 → a ≠ b → (TJ2 a).2.1 ≠ (TJ2 b).2.1 := by decide +kernel
theorem tyJ2_ok : ∀ k, k < 0 → parseFieldDescriptor (TJ2 k).2.2.1 = some (tyJ2 k) := by decide +kernel
abbrev cJ2_getChar_3b067 : ByteArray := prog_18_method_5_code
def yJ2_getChar_3b067 : MethodName := ⟨RJ2, "getChar", "([BI)C"⟩
abbrev cJ2_length_9d52b : ByteArray := prog_18_method_6_code
def yJ2_length_9d52b : MethodName := ⟨RJ2, "length", "([B)I"⟩
abbrev cJ2_charAt_3b067 : ByteArray := prog_18_method_83_code
def yJ2_charAt_3b067 : MethodName := ⟨RJ2, "charAt", "([BI)C"⟩
abbrev cJ2_checkIndex_2214a : ByteArray := prog_18_method_91_code
def yJ2_checkIndex_2214a : MethodName := ⟨RJ2, "checkIndex", "(I[B)V"⟩
def RJ10 : String := "java/lang/System"
def TJ10 : u_T := fun k => match k with
  | _ => ("", "", "", false)
def tyJ10 : Nat → FieldType := fun k => match k with
  | _ => .int
theorem nmJ10 : ∀ a, a < 0 → ∀ b, b < 0 → a ≠ b → (TJ10 a).2.1 ≠ (TJ10 b).2.1 := by decide +kernel
theorem tyJ10_ok : ∀ k, k < 0 → parseFieldDescriptor (TJ10 k).2.2.1 = some (tyJ10 k) := by decide +kernel
def RJ7 : String := "java/util/Arrays"
def TJ7 : u_T := fun k => match k with
  | _ => ("", "", "", false)
def tyJ7 : Nat → FieldType := fun k => match k with
  | _ => .int
theorem nmJ7 : ∀ a, a < 0 → ∀ b, b < 0 → a ≠ b → (TJ7 a).2.1 ≠ (TJ7 b).2.1 := by decide +kernel
theorem tyJ7_ok : ∀ k, k < 0 → parseFieldDescriptor (TJ7 k).2.2.1 = some (tyJ7 k) := by decide +kernel
abbrev cJ7_fill_53178 : ByteArray := prog_20_method_103_code
def yJ7_fill_53178 : MethodName := ⟨RJ7, "fill", "([II)V"⟩
abbrev cJ7_copyOf_59c91 : ByteArray := prog_20_method_123_code
def yJ7_copyOf_59c91 : MethodName := ⟨RJ7, "copyOf", "([II)[I"⟩
def RJ3 : String := "jdk/internal/util/Preconditions"
def TJ3 : u_T := fun k => match k with
  | _ => ("", "", "", false)
def tyJ3 : Nat → FieldType := fun k => match k with
  | _ => .int
theorem nmJ3 : ∀ a, a < 0 → ∀ b, b < 0 → a ≠ b → (TJ3 a).2.1 ≠ (TJ3 b).2.1 := by decide +kernel
theorem tyJ3_ok : ∀ k, k < 0 → parseFieldDescriptor (TJ3 k).2.2.1 = some (tyJ3 k) := by decide +kernel
abbrev cJ3_checkIndex_8e157 : ByteArray := prog_21_method_11_code
def yJ3_checkIndex_8e157 : MethodName := ⟨RJ3, "checkIndex", "(IILjava/util/function/BiFunction;)I"⟩
def RL : String := "GrainDoleLaw"
abbrev cL_law : ByteArray := code
def yL_law : MethodName := ⟨RL, "law", "([I)Z"⟩
abbrev vwCl : List vw_C := [(RX0, TX0, 3), (RX1, TX1, 4), (RX2, TX2, 6), (RX3, TX3, 7), (RX4, TX4, 7), (RX5, TX5, 8), (RX6, TX6, 9), (RX7, TX7, 10), (RX8, TX8, 2), (RX9, TX9, 3), (RX10, TX10, 11), (RX11, TX11, 52)]
def uw : List Cond := lw_tbl.filter goodWord
theorem uw_good : ∀ w ∈ uw, goodWord w = true := fun w h => (List.mem_filter.mp h).2
theorem uw_tbl : ∀ w ∈ uw, w ∈ lw_tbl := fun w h => (List.mem_filter.mp h).1
set_option maxRecDepth 20000 in
theorem in_X0 : ∀ w ∈ u_ws RX0 TX0 3, w ∈ uw := fun w hw => List.mem_filter.mpr ⟨(goodIn_r (big := lw_tbl) (u_ws RX0 TX0 3) [210, 212, 214] (by decide +kernel) (by decide +kernel) w hw).1, List.all_eq_true.mp (by decide +kernel : (u_ws RX0 TX0 3).all goodWord = true) w hw⟩
set_option maxRecDepth 20000 in
theorem in_X1 : ∀ w ∈ u_ws RX1 TX1 4, w ∈ uw := fun w hw => List.mem_filter.mpr ⟨(goodIn_r (big := lw_tbl) (u_ws RX1 TX1 4) [127, 129, 131, 133] (by decide +kernel) (by decide +kernel) w hw).1, List.all_eq_true.mp (by decide +kernel : (u_ws RX1 TX1 4).all goodWord = true) w hw⟩
set_option maxRecDepth 20000 in
theorem in_X2 : ∀ w ∈ u_ws RX2 TX2 6, w ∈ uw := fun w hw => List.mem_filter.mpr ⟨(goodIn_r (big := lw_tbl) (u_ws RX2 TX2 6) [103, 105, 107, 109, 111, 113] (by decide +kernel) (by decide +kernel) w hw).1, List.all_eq_true.mp (by decide +kernel : (u_ws RX2 TX2 6).all goodWord = true) w hw⟩
set_option maxRecDepth 20000 in
theorem in_X3 : ∀ w ∈ u_ws RX3 TX3 7, w ∈ uw := fun w hw => List.mem_filter.mpr ⟨(goodIn_r (big := lw_tbl) (u_ws RX3 TX3 7) [283, 285, 287, 289, 291, 293, 295] (by decide +kernel) (by decide +kernel) w hw).1, List.all_eq_true.mp (by decide +kernel : (u_ws RX3 TX3 7).all goodWord = true) w hw⟩
set_option maxRecDepth 20000 in
theorem in_X4 : ∀ w ∈ u_ws RX4 TX4 7, w ∈ uw := fun w hw => List.mem_filter.mpr ⟨(goodIn_r (big := lw_tbl) (u_ws RX4 TX4 7) [311, 313, 315, 317, 319, 321, 323] (by decide +kernel) (by decide +kernel) w hw).1, List.all_eq_true.mp (by decide +kernel : (u_ws RX4 TX4 7).all goodWord = true) w hw⟩
set_option maxRecDepth 20000 in
theorem in_X5 : ∀ w ∈ u_ws RX5 TX5 8, w ∈ uw := fun w hw => List.mem_filter.mpr ⟨(goodIn_r (big := lw_tbl) (u_ws RX5 TX5 8) [150, 152, 154, 156, 158, 160, 162, 164] (by decide +kernel) (by decide +kernel) w hw).1, List.all_eq_true.mp (by decide +kernel : (u_ws RX5 TX5 8).all goodWord = true) w hw⟩
set_option maxRecDepth 20000 in
theorem in_X6 : ∀ w ∈ u_ws RX6 TX6 9, w ∈ uw := fun w hw => List.mem_filter.mpr ⟨(goodIn_r (big := lw_tbl) (u_ws RX6 TX6 9) [182, 184, 186, 188, 190, 192, 194, 196, 198] (by decide +kernel) (by decide +kernel) w hw).1, List.all_eq_true.mp (by decide +kernel : (u_ws RX6 TX6 9).all goodWord = true) w hw⟩
set_option maxRecDepth 20000 in
theorem in_X7 : ∀ w ∈ u_ws RX7 TX7 10, w ∈ uw := fun w hw => List.mem_filter.mpr ⟨(goodIn_r (big := lw_tbl) (u_ws RX7 TX7 10) [233, 235, 237, 239, 241, 243, 245, 247, 249, 251] (by decide +kernel) (by decide +kernel) w hw).1, List.all_eq_true.mp (by decide +kernel : (u_ws RX7 TX7 10).all goodWord = true) w hw⟩
set_option maxRecDepth 20000 in
theorem in_X8 : ∀ w ∈ u_ws RX8 TX8 2, w ∈ uw := fun w hw => List.mem_filter.mpr ⟨(goodIn_r (big := lw_tbl) (u_ws RX8 TX8 2) [85, 87] (by decide +kernel) (by decide +kernel) w hw).1, List.all_eq_true.mp (by decide +kernel : (u_ws RX8 TX8 2).all goodWord = true) w hw⟩
set_option maxRecDepth 20000 in
theorem in_X9 : ∀ w ∈ u_ws RX9 TX9 3, w ∈ uw := fun w hw => List.mem_filter.mpr ⟨(goodIn_r (big := lw_tbl) (u_ws RX9 TX9 3) [263, 265, 267] (by decide +kernel) (by decide +kernel) w hw).1, List.all_eq_true.mp (by decide +kernel : (u_ws RX9 TX9 3).all goodWord = true) w hw⟩
set_option maxRecDepth 20000 in
theorem in_X10 : ∀ w ∈ u_ws RX10 TX10 11, w ∈ uw := fun w hw => List.mem_filter.mpr ⟨(goodIn_r (big := lw_tbl) (u_ws RX10 TX10 11) [337, 339, 341, 343, 345, 347, 349, 351, 353, 355, 357] (by decide +kernel) (by decide +kernel) w hw).1, List.all_eq_true.mp (by decide +kernel : (u_ws RX10 TX10 11).all goodWord = true) w hw⟩
set_option maxRecDepth 20000 in
theorem in_X11 : ∀ w ∈ u_ws RX11 TX11 52, w ∈ uw := fun w hw => List.mem_filter.mpr ⟨(goodIn_r (big := lw_tbl) (u_ws RX11 TX11 52) [1029, 1031, 1033, 1035, 1037, 1039, 1041, 1043, 1045, 1047, 1049, 1051, 1053, 1055, 1057, 1059, 1061, 1063, 1065, 1067, 1069, 1071, 1073, 1075, 1077, 1079, 1081, 1083, 1085, 1087, 1089, 1091, 1093, 1095, 1097, 1099, 1101, 1103, 1105, 1107, 1109, 1111, 1113, 1115, 1117, 1119, 1121, 1123, 1125, 1127, 1129, 1131] (by decide +kernel) (by decide +kernel) w hw).1, List.all_eq_true.mp (by decide +kernel : (u_ws RX11 TX11 52).all goodWord = true) w hw⟩
