section
/-- a private method of a class that the tables say can be made, by its rows of tables_1 -/
def lw_okq (q : MethodName × Nat) : Prop := (q.1.cls ≠ "java/lang/invoke/MethodHandle" ∧ q.1.cls ≠ "java/lang/invoke/VarHandle") ∧ Cond.instantiable q.1.cls q.2 ∈ tables_1 ∧ Cond.privateMethod q.1 ∈ tables_1 ∧ Cond.instanceMethod q.1 ∈ tables_1
theorem lw_p0 : lw_okq (⟨"ShadowRows$Field", "isTaken", "(I)Z"⟩, 11) := ⟨⟨by decide +kernel, by decide +kernel⟩, List.mem_of_getElem? (i := 27) (by decide +kernel), List.mem_of_getElem? (i := 291) (by decide +kernel), List.mem_of_getElem? (i := 292) (by decide +kernel)⟩
theorem lw_p1 : lw_okq (⟨"ShadowRows$History", "dropOldest", "()V"⟩, 2) := ⟨⟨by decide +kernel, by decide +kernel⟩, List.mem_of_getElem? (i := 218) (by decide +kernel), List.mem_of_getElem? (i := 299) (by decide +kernel), List.mem_of_getElem? (i := 300) (by decide +kernel)⟩
theorem lw_p2 : lw_okq (⟨"ShadowRows$Offers", "close", "(I)V"⟩, 3) := ⟨⟨by decide +kernel, by decide +kernel⟩, List.mem_of_getElem? (i := 33) (by decide +kernel), List.mem_of_getElem? (i := 393) (by decide +kernel), List.mem_of_getElem? (i := 394) (by decide +kernel)⟩
theorem lw_p3 : lw_okq (⟨"ShadowRows$Market", "serve", "(I)I"⟩, 1) := ⟨⟨by decide +kernel, by decide +kernel⟩, List.mem_of_getElem? (i := 139) (by decide +kernel), List.mem_of_getElem? (i := 413) (by decide +kernel), List.mem_of_getElem? (i := 414) (by decide +kernel)⟩
theorem lw_p4 : lw_okq (⟨"ShadowRows$Market", "suits", "(II)Z"⟩, 1) := ⟨⟨by decide +kernel, by decide +kernel⟩, List.mem_of_getElem? (i := 139) (by decide +kernel), List.mem_of_getElem? (i := 417) (by decide +kernel), List.mem_of_getElem? (i := 418) (by decide +kernel)⟩
theorem lw_p5 : lw_okq (⟨"ShadowRows$Market", "trade", "(II)I"⟩, 1) := ⟨⟨by decide +kernel, by decide +kernel⟩, List.mem_of_getElem? (i := 139) (by decide +kernel), List.mem_of_getElem? (i := 422) (by decide +kernel), List.mem_of_getElem? (i := 423) (by decide +kernel)⟩
theorem lw_p6 : lw_okq (⟨"ShadowRows$Light", "lossBetween", "(II)I"⟩, 6) := ⟨⟨by decide +kernel, by decide +kernel⟩, List.mem_of_getElem? (i := 112) (by decide +kernel), List.mem_of_getElem? (i := 452) (by decide +kernel), List.mem_of_getElem? (i := 453) (by decide +kernel)⟩
theorem lw_p7 : lw_okq (⟨"ShadowRows$Light", "limitOf", "(I)I"⟩, 6) := ⟨⟨by decide +kernel, by decide +kernel⟩, List.mem_of_getElem? (i := 112) (by decide +kernel), List.mem_of_getElem? (i := 462) (by decide +kernel), List.mem_of_getElem? (i := 463) (by decide +kernel)⟩
theorem lw_p8 : lw_okq (⟨"ShadowRows", "gainMeasure", "(III)I"⟩, 9) := ⟨⟨by decide +kernel, by decide +kernel⟩, List.mem_of_getElem? (i := 19) (by decide +kernel), List.mem_of_getElem? (i := 556) (by decide +kernel), List.mem_of_getElem? (i := 557) (by decide +kernel)⟩
theorem lw_p9 : lw_okq (⟨"ShadowRows$TiltSearch", "findTops", "()V"⟩, 7) := ⟨⟨by decide +kernel, by decide +kernel⟩, List.mem_of_getElem? (i := 149) (by decide +kernel), List.mem_of_getElem? (i := 575) (by decide +kernel), List.mem_of_getElem? (i := 576) (by decide +kernel)⟩
theorem lw_p10 : lw_okq (⟨"ShadowRows$TiltSearch", "sortRows", "()V"⟩, 7) := ⟨⟨by decide +kernel, by decide +kernel⟩, List.mem_of_getElem? (i := 149) (by decide +kernel), List.mem_of_getElem? (i := 582) (by decide +kernel), List.mem_of_getElem? (i := 583) (by decide +kernel)⟩
theorem lw_p11 : lw_okq (⟨"ShadowRows$TiltSearch", "shadeOn", "(II)I"⟩, 7) := ⟨⟨by decide +kernel, by decide +kernel⟩, List.mem_of_getElem? (i := 149) (by decide +kernel), List.mem_of_getElem? (i := 590) (by decide +kernel), List.mem_of_getElem? (i := 591) (by decide +kernel)⟩
theorem lw_p12 : lw_okq (⟨"ShadowRows$TiltSearch", "stepOf", "(I)I"⟩, 7) := ⟨⟨by decide +kernel, by decide +kernel⟩, List.mem_of_getElem? (i := 149) (by decide +kernel), List.mem_of_getElem? (i := 595) (by decide +kernel), List.mem_of_getElem? (i := 596) (by decide +kernel)⟩
theorem lw_p13 : lw_okq (⟨"ShadowRows$OrderReader", "readDigit", "(I)Z"⟩, 5) := ⟨⟨by decide +kernel, by decide +kernel⟩, List.mem_of_getElem? (i := 194) (by decide +kernel), List.mem_of_getElem? (i := 730) (by decide +kernel), List.mem_of_getElem? (i := 731) (by decide +kernel)⟩
theorem lw_p14 : lw_okq (⟨"ShadowRows$OrderReader", "digitHere", "()I"⟩, 5) := ⟨⟨by decide +kernel, by decide +kernel⟩, List.mem_of_getElem? (i := 194) (by decide +kernel), List.mem_of_getElem? (i := 734) (by decide +kernel), List.mem_of_getElem? (i := 735) (by decide +kernel)⟩
theorem lw_p15 : lw_okq (⟨"ShadowRows$OrderReader", "keepNumber", "(I)V"⟩, 5) := ⟨⟨by decide +kernel, by decide +kernel⟩, List.mem_of_getElem? (i := 194) (by decide +kernel), List.mem_of_getElem? (i := 738) (by decide +kernel), List.mem_of_getElem? (i := 739) (by decide +kernel)⟩
def lw_privs_1 : List (MethodName × Nat) := [(⟨"ShadowRows$Field", "isTaken", "(I)Z"⟩, 11), (⟨"ShadowRows$History", "dropOldest", "()V"⟩, 2), (⟨"ShadowRows$Offers", "close", "(I)V"⟩, 3), (⟨"ShadowRows$Market", "serve", "(I)I"⟩, 1), (⟨"ShadowRows$Market", "suits", "(II)Z"⟩, 1), (⟨"ShadowRows$Market", "trade", "(II)I"⟩, 1), (⟨"ShadowRows$Light", "lossBetween", "(II)I"⟩, 6), (⟨"ShadowRows$Light", "limitOf", "(I)I"⟩, 6), (⟨"ShadowRows", "gainMeasure", "(III)I"⟩, 9), (⟨"ShadowRows$TiltSearch", "findTops", "()V"⟩, 7), (⟨"ShadowRows$TiltSearch", "sortRows", "()V"⟩, 7), (⟨"ShadowRows$TiltSearch", "shadeOn", "(II)I"⟩, 7), (⟨"ShadowRows$TiltSearch", "stepOf", "(I)I"⟩, 7), (⟨"ShadowRows$OrderReader", "readDigit", "(I)Z"⟩, 5), (⟨"ShadowRows$OrderReader", "digitHere", "()I"⟩, 5), (⟨"ShadowRows$OrderReader", "keepNumber", "(I)V"⟩, 5)]
theorem lw_r1 : ∀ q ∈ lw_privs_1, lw_okq q := List.forall_mem_cons.mpr ⟨lw_p0, List.forall_mem_cons.mpr ⟨lw_p1, List.forall_mem_cons.mpr ⟨lw_p2, List.forall_mem_cons.mpr ⟨lw_p3, List.forall_mem_cons.mpr ⟨lw_p4, List.forall_mem_cons.mpr ⟨lw_p5, List.forall_mem_cons.mpr ⟨lw_p6, List.forall_mem_cons.mpr ⟨lw_p7, List.forall_mem_cons.mpr ⟨lw_p8, List.forall_mem_cons.mpr ⟨lw_p9, List.forall_mem_cons.mpr ⟨lw_p10, List.forall_mem_cons.mpr ⟨lw_p11, List.forall_mem_cons.mpr ⟨lw_p12, List.forall_mem_cons.mpr ⟨lw_p13, List.forall_mem_cons.mpr ⟨lw_p14, List.forall_mem_cons.mpr ⟨lw_p15, fun _ h => absurd h List.not_mem_nil⟩⟩⟩⟩⟩⟩⟩⟩⟩⟩⟩⟩⟩⟩⟩⟩
theorem lw_p16 : lw_okq (⟨"ShadowRows$OrderReader", "readTerms", "()Z"⟩, 5) := ⟨⟨by decide +kernel, by decide +kernel⟩, List.mem_of_getElem? (i := 194) (by decide +kernel), List.mem_of_getElem? (i := 746) (by decide +kernel), List.mem_of_getElem? (i := 747) (by decide +kernel)⟩
theorem lw_p17 : lw_okq (⟨"ShadowRows$OrderReader", "readNumber", "()Z"⟩, 5) := ⟨⟨by decide +kernel, by decide +kernel⟩, List.mem_of_getElem? (i := 194) (by decide +kernel), List.mem_of_getElem? (i := 750) (by decide +kernel), List.mem_of_getElem? (i := 751) (by decide +kernel)⟩
theorem lw_p18 : lw_okq (⟨"ShadowRows", "carryOrdersOut", "()I"⟩, 9) := ⟨⟨by decide +kernel, by decide +kernel⟩, List.mem_of_getElem? (i := 19) (by decide +kernel), List.mem_of_getElem? (i := 759) (by decide +kernel), List.mem_of_getElem? (i := 760) (by decide +kernel)⟩
theorem lw_p19 : lw_okq (⟨"ShadowRows", "carryOneOut", "()I"⟩, 9) := ⟨⟨by decide +kernel, by decide +kernel⟩, List.mem_of_getElem? (i := 19) (by decide +kernel), List.mem_of_getElem? (i := 765) (by decide +kernel), List.mem_of_getElem? (i := 766) (by decide +kernel)⟩
theorem lw_p20 : lw_okq (⟨"ShadowRowsModel", "isPlaceTaken", "(I)Z"⟩, 17) := ⟨⟨by decide +kernel, by decide +kernel⟩, List.mem_of_getElem? (i := 787) (by decide +kernel), List.mem_of_getElem? (i := 852) (by decide +kernel), List.mem_of_getElem? (i := 853) (by decide +kernel)⟩
theorem lw_p21 : lw_okq (⟨"ShadowRowsModel", "part", "(II)I"⟩, 17) := ⟨⟨by decide +kernel, by decide +kernel⟩, List.mem_of_getElem? (i := 787) (by decide +kernel), List.mem_of_getElem? (i := 856) (by decide +kernel), List.mem_of_getElem? (i := 857) (by decide +kernel)⟩
theorem lw_p22 : lw_okq (⟨"ShadowRowsModel", "record", "()V"⟩, 17) := ⟨⟨by decide +kernel, by decide +kernel⟩, List.mem_of_getElem? (i := 787) (by decide +kernel), List.mem_of_getElem? (i := 860) (by decide +kernel), List.mem_of_getElem? (i := 861) (by decide +kernel)⟩
theorem lw_p23 : lw_okq (⟨"ShadowRowsModel", "whyNotTilted", "(II)I"⟩, 17) := ⟨⟨by decide +kernel, by decide +kernel⟩, List.mem_of_getElem? (i := 787) (by decide +kernel), List.mem_of_getElem? (i := 871) (by decide +kernel), List.mem_of_getElem? (i := 872) (by decide +kernel)⟩
theorem lw_p24 : lw_okq (⟨"ShadowRowsModel", "isRow", "(I)Z"⟩, 17) := ⟨⟨by decide +kernel, by decide +kernel⟩, List.mem_of_getElem? (i := 787) (by decide +kernel), List.mem_of_getElem? (i := 875) (by decide +kernel), List.mem_of_getElem? (i := 876) (by decide +kernel)⟩
theorem lw_p25 : lw_okq (⟨"ShadowRowsModel", "tilted", "(II)I"⟩, 17) := ⟨⟨by decide +kernel, by decide +kernel⟩, List.mem_of_getElem? (i := 787) (by decide +kernel), List.mem_of_getElem? (i := 879) (by decide +kernel), List.mem_of_getElem? (i := 880) (by decide +kernel)⟩
theorem lw_p26 : lw_okq (⟨"ShadowRowsModel", "whyNotGranted", "(IIII)I"⟩, 17) := ⟨⟨by decide +kernel, by decide +kernel⟩, List.mem_of_getElem? (i := 787) (by decide +kernel), List.mem_of_getElem? (i := 898) (by decide +kernel), List.mem_of_getElem? (i := 899) (by decide +kernel)⟩
theorem lw_p27 : lw_okq (⟨"ShadowRowsModel", "rightOf", "(III)I"⟩, 17) := ⟨⟨by decide +kernel, by decide +kernel⟩, List.mem_of_getElem? (i := 787) (by decide +kernel), List.mem_of_getElem? (i := 902) (by decide +kernel), List.mem_of_getElem? (i := 903) (by decide +kernel)⟩
theorem lw_p28 : lw_okq (⟨"ShadowRowsModel", "setRight", "(IIII)V"⟩, 17) := ⟨⟨by decide +kernel, by decide +kernel⟩, List.mem_of_getElem? (i := 787) (by decide +kernel), List.mem_of_getElem? (i := 906) (by decide +kernel), List.mem_of_getElem? (i := 907) (by decide +kernel)⟩
theorem lw_p29 : lw_okq (⟨"ShadowRowsModel", "whyNotAsked", "(IIII)I"⟩, 17) := ⟨⟨by decide +kernel, by decide +kernel⟩, List.mem_of_getElem? (i := 787) (by decide +kernel), List.mem_of_getElem? (i := 914) (by decide +kernel), List.mem_of_getElem? (i := 915) (by decide +kernel)⟩
theorem lw_p30 : lw_okq (⟨"ShadowRowsModel", "asked", "(IIII)I"⟩, 17) := ⟨⟨by decide +kernel, by decide +kernel⟩, List.mem_of_getElem? (i := 787) (by decide +kernel), List.mem_of_getElem? (i := 921) (by decide +kernel), List.mem_of_getElem? (i := 922) (by decide +kernel)⟩
theorem lw_p31 : lw_okq (⟨"ShadowRowsModel", "whyNotBid", "(IIIII)I"⟩, 17) := ⟨⟨by decide +kernel, by decide +kernel⟩, List.mem_of_getElem? (i := 787) (by decide +kernel), List.mem_of_getElem? (i := 929) (by decide +kernel), List.mem_of_getElem? (i := 930) (by decide +kernel)⟩
def lw_privs_2 : List (MethodName × Nat) := [(⟨"ShadowRows$OrderReader", "readTerms", "()Z"⟩, 5), (⟨"ShadowRows$OrderReader", "readNumber", "()Z"⟩, 5), (⟨"ShadowRows", "carryOrdersOut", "()I"⟩, 9), (⟨"ShadowRows", "carryOneOut", "()I"⟩, 9), (⟨"ShadowRowsModel", "isPlaceTaken", "(I)Z"⟩, 17), (⟨"ShadowRowsModel", "part", "(II)I"⟩, 17), (⟨"ShadowRowsModel", "record", "()V"⟩, 17), (⟨"ShadowRowsModel", "whyNotTilted", "(II)I"⟩, 17), (⟨"ShadowRowsModel", "isRow", "(I)Z"⟩, 17), (⟨"ShadowRowsModel", "tilted", "(II)I"⟩, 17), (⟨"ShadowRowsModel", "whyNotGranted", "(IIII)I"⟩, 17), (⟨"ShadowRowsModel", "rightOf", "(III)I"⟩, 17), (⟨"ShadowRowsModel", "setRight", "(IIII)V"⟩, 17), (⟨"ShadowRowsModel", "whyNotAsked", "(IIII)I"⟩, 17), (⟨"ShadowRowsModel", "asked", "(IIII)I"⟩, 17), (⟨"ShadowRowsModel", "whyNotBid", "(IIIII)I"⟩, 17)]
theorem lw_r2 : ∀ q ∈ lw_privs_2, lw_okq q := List.forall_mem_cons.mpr ⟨lw_p16, List.forall_mem_cons.mpr ⟨lw_p17, List.forall_mem_cons.mpr ⟨lw_p18, List.forall_mem_cons.mpr ⟨lw_p19, List.forall_mem_cons.mpr ⟨lw_p20, List.forall_mem_cons.mpr ⟨lw_p21, List.forall_mem_cons.mpr ⟨lw_p22, List.forall_mem_cons.mpr ⟨lw_p23, List.forall_mem_cons.mpr ⟨lw_p24, List.forall_mem_cons.mpr ⟨lw_p25, List.forall_mem_cons.mpr ⟨lw_p26, List.forall_mem_cons.mpr ⟨lw_p27, List.forall_mem_cons.mpr ⟨lw_p28, List.forall_mem_cons.mpr ⟨lw_p29, List.forall_mem_cons.mpr ⟨lw_p30, List.forall_mem_cons.mpr ⟨lw_p31, fun _ h => absurd h List.not_mem_nil⟩⟩⟩⟩⟩⟩⟩⟩⟩⟩⟩⟩⟩⟩⟩⟩
theorem lw_p32 : lw_okq (⟨"ShadowRowsModel", "bought", "(IIIII)I"⟩, 17) := ⟨⟨by decide +kernel, by decide +kernel⟩, List.mem_of_getElem? (i := 787) (by decide +kernel), List.mem_of_getElem? (i := 933) (by decide +kernel), List.mem_of_getElem? (i := 934) (by decide +kernel)⟩
theorem lw_p33 : lw_okq (⟨"ShadowRowsModel", "dropAsk", "(I)V"⟩, 17) := ⟨⟨by decide +kernel, by decide +kernel⟩, List.mem_of_getElem? (i := 787) (by decide +kernel), List.mem_of_getElem? (i := 941) (by decide +kernel), List.mem_of_getElem? (i := 942) (by decide +kernel)⟩
theorem lw_p34 : lw_okq (⟨"ShadowRowsModel", "dropBid", "(I)V"⟩, 17) := ⟨⟨by decide +kernel, by decide +kernel⟩, List.mem_of_getElem? (i := 787) (by decide +kernel), List.mem_of_getElem? (i := 945) (by decide +kernel), List.mem_of_getElem? (i := 946) (by decide +kernel)⟩
theorem lw_p35 : lw_okq (⟨"ShadowRowsModel", "matched", "()I"⟩, 17) := ⟨⟨by decide +kernel, by decide +kernel⟩, List.mem_of_getElem? (i := 787) (by decide +kernel), List.mem_of_getElem? (i := 953) (by decide +kernel), List.mem_of_getElem? (i := 954) (by decide +kernel)⟩
theorem lw_p36 : lw_okq (⟨"ShadowRowsModel", "placeOfBid", "(I)I"⟩, 17) := ⟨⟨by decide +kernel, by decide +kernel⟩, List.mem_of_getElem? (i := 787) (by decide +kernel), List.mem_of_getElem? (i := 957) (by decide +kernel), List.mem_of_getElem? (i := 958) (by decide +kernel)⟩
theorem lw_p37 : lw_okq (⟨"ShadowRowsModel", "bidPart", "(II)I"⟩, 17) := ⟨⟨by decide +kernel, by decide +kernel⟩, List.mem_of_getElem? (i := 787) (by decide +kernel), List.mem_of_getElem? (i := 961) (by decide +kernel), List.mem_of_getElem? (i := 962) (by decide +kernel)⟩
theorem lw_p38 : lw_okq (⟨"ShadowRowsModel", "tradedBy", "(I)I"⟩, 17) := ⟨⟨by decide +kernel, by decide +kernel⟩, List.mem_of_getElem? (i := 787) (by decide +kernel), List.mem_of_getElem? (i := 965) (by decide +kernel), List.mem_of_getElem? (i := 966) (by decide +kernel)⟩
theorem lw_p39 : lw_okq (⟨"ShadowRowsModel", "nextAsk", "(I)I"⟩, 17) := ⟨⟨by decide +kernel, by decide +kernel⟩, List.mem_of_getElem? (i := 787) (by decide +kernel), List.mem_of_getElem? (i := 969) (by decide +kernel), List.mem_of_getElem? (i := 970) (by decide +kernel)⟩
theorem lw_p40 : lw_okq (⟨"ShadowRowsModel", "askPart", "(II)I"⟩, 17) := ⟨⟨by decide +kernel, by decide +kernel⟩, List.mem_of_getElem? (i := 787) (by decide +kernel), List.mem_of_getElem? (i := 973) (by decide +kernel), List.mem_of_getElem? (i := 974) (by decide +kernel)⟩
theorem lw_p41 : lw_okq (⟨"ShadowRowsModel", "yieldOf", "(I)I"⟩, 17) := ⟨⟨by decide +kernel, by decide +kernel⟩, List.mem_of_getElem? (i := 787) (by decide +kernel), List.mem_of_getElem? (i := 982) (by decide +kernel), List.mem_of_getElem? (i := 983) (by decide +kernel)⟩
theorem lw_p42 : lw_okq (⟨"ShadowRowsModel", "yieldIn", "(II)I"⟩, 17) := ⟨⟨by decide +kernel, by decide +kernel⟩, List.mem_of_getElem? (i := 787) (by decide +kernel), List.mem_of_getElem? (i := 986) (by decide +kernel), List.mem_of_getElem? (i := 987) (by decide +kernel)⟩
theorem lw_p43 : lw_okq (⟨"ShadowRowsModel", "heightIn", "(II)I"⟩, 17) := ⟨⟨by decide +kernel, by decide +kernel⟩, List.mem_of_getElem? (i := 787) (by decide +kernel), List.mem_of_getElem? (i := 990) (by decide +kernel), List.mem_of_getElem? (i := 991) (by decide +kernel)⟩
theorem lw_p44 : lw_okq (⟨"ShadowRowsModel", "tiltIn", "(III)I"⟩, 17) := ⟨⟨by decide +kernel, by decide +kernel⟩, List.mem_of_getElem? (i := 787) (by decide +kernel), List.mem_of_getElem? (i := 994) (by decide +kernel), List.mem_of_getElem? (i := 995) (by decide +kernel)⟩
theorem lw_p45 : lw_okq (⟨"ShadowRowsModel", "isFlat", "(I)Z"⟩, 17) := ⟨⟨by decide +kernel, by decide +kernel⟩, List.mem_of_getElem? (i := 787) (by decide +kernel), List.mem_of_getElem? (i := 998) (by decide +kernel), List.mem_of_getElem? (i := 999) (by decide +kernel)⟩
theorem lw_p46 : lw_okq (⟨"ShadowRowsModel", "keepsRights", "(III)Z"⟩, 17) := ⟨⟨by decide +kernel, by decide +kernel⟩, List.mem_of_getElem? (i := 787) (by decide +kernel), List.mem_of_getElem? (i := 1002) (by decide +kernel), List.mem_of_getElem? (i := 1003) (by decide +kernel)⟩
theorem lw_p47 : lw_okq (⟨"ShadowRowsModel", "shadow", "(IIII)I"⟩, 17) := ⟨⟨by decide +kernel, by decide +kernel⟩, List.mem_of_getElem? (i := 787) (by decide +kernel), List.mem_of_getElem? (i := 1006) (by decide +kernel), List.mem_of_getElem? (i := 1007) (by decide +kernel)⟩
def lw_privs_3 : List (MethodName × Nat) := [(⟨"ShadowRowsModel", "bought", "(IIIII)I"⟩, 17), (⟨"ShadowRowsModel", "dropAsk", "(I)V"⟩, 17), (⟨"ShadowRowsModel", "dropBid", "(I)V"⟩, 17), (⟨"ShadowRowsModel", "matched", "()I"⟩, 17), (⟨"ShadowRowsModel", "placeOfBid", "(I)I"⟩, 17), (⟨"ShadowRowsModel", "bidPart", "(II)I"⟩, 17), (⟨"ShadowRowsModel", "tradedBy", "(I)I"⟩, 17), (⟨"ShadowRowsModel", "nextAsk", "(I)I"⟩, 17), (⟨"ShadowRowsModel", "askPart", "(II)I"⟩, 17), (⟨"ShadowRowsModel", "yieldOf", "(I)I"⟩, 17), (⟨"ShadowRowsModel", "yieldIn", "(II)I"⟩, 17), (⟨"ShadowRowsModel", "heightIn", "(II)I"⟩, 17), (⟨"ShadowRowsModel", "tiltIn", "(III)I"⟩, 17), (⟨"ShadowRowsModel", "isFlat", "(I)Z"⟩, 17), (⟨"ShadowRowsModel", "keepsRights", "(III)Z"⟩, 17), (⟨"ShadowRowsModel", "shadow", "(IIII)I"⟩, 17)]
theorem lw_r3 : ∀ q ∈ lw_privs_3, lw_okq q := List.forall_mem_cons.mpr ⟨lw_p32, List.forall_mem_cons.mpr ⟨lw_p33, List.forall_mem_cons.mpr ⟨lw_p34, List.forall_mem_cons.mpr ⟨lw_p35, List.forall_mem_cons.mpr ⟨lw_p36, List.forall_mem_cons.mpr ⟨lw_p37, List.forall_mem_cons.mpr ⟨lw_p38, List.forall_mem_cons.mpr ⟨lw_p39, List.forall_mem_cons.mpr ⟨lw_p40, List.forall_mem_cons.mpr ⟨lw_p41, List.forall_mem_cons.mpr ⟨lw_p42, List.forall_mem_cons.mpr ⟨lw_p43, List.forall_mem_cons.mpr ⟨lw_p44, List.forall_mem_cons.mpr ⟨lw_p45, List.forall_mem_cons.mpr ⟨lw_p46, List.forall_mem_cons.mpr ⟨lw_p47, fun _ h => absurd h List.not_mem_nil⟩⟩⟩⟩⟩⟩⟩⟩⟩⟩⟩⟩⟩⟩⟩⟩
theorem lw_p48 : lw_okq (⟨"ShadowRowsModel", "shadeOf", "(II)I"⟩, 17) := ⟨⟨by decide +kernel, by decide +kernel⟩, List.mem_of_getElem? (i := 787) (by decide +kernel), List.mem_of_getElem? (i := 1013) (by decide +kernel), List.mem_of_getElem? (i := 1014) (by decide +kernel)⟩
theorem lw_p49 : lw_okq (⟨"ShadowRowsModel", "blamed", "(II)I"⟩, 17) := ⟨⟨by decide +kernel, by decide +kernel⟩, List.mem_of_getElem? (i := 787) (by decide +kernel), List.mem_of_getElem? (i := 1017) (by decide +kernel), List.mem_of_getElem? (i := 1018) (by decide +kernel)⟩
theorem lw_p50 : lw_okq (⟨"ShadowRowsModel", "shadowIn", "(III)I"⟩, 17) := ⟨⟨by decide +kernel, by decide +kernel⟩, List.mem_of_getElem? (i := 787) (by decide +kernel), List.mem_of_getElem? (i := 1021) (by decide +kernel), List.mem_of_getElem? (i := 1022) (by decide +kernel)⟩
theorem lw_p51 : lw_okq (⟨"ShadowRowsModel", "far", "(II)I"⟩, 17) := ⟨⟨by decide +kernel, by decide +kernel⟩, List.mem_of_getElem? (i := 787) (by decide +kernel), List.mem_of_getElem? (i := 1025) (by decide +kernel), List.mem_of_getElem? (i := 1026) (by decide +kernel)⟩
theorem lw_p52 : lw_okq (⟨"ShadowRowsModel", "fullYield", "(I)I"⟩, 17) := ⟨⟨by decide +kernel, by decide +kernel⟩, List.mem_of_getElem? (i := 787) (by decide +kernel), List.mem_of_getElem? (i := 1032) (by decide +kernel), List.mem_of_getElem? (i := 1033) (by decide +kernel)⟩
theorem lw_p53 : lw_okq (⟨"ShadowRowsModel", "lowHours", "(I)I"⟩, 17) := ⟨⟨by decide +kernel, by decide +kernel⟩, List.mem_of_getElem? (i := 787) (by decide +kernel), List.mem_of_getElem? (i := 1036) (by decide +kernel), List.mem_of_getElem? (i := 1037) (by decide +kernel)⟩
theorem lw_p54 : lw_okq (⟨"ShadowRowsModel", "shadeHours", "(I)I"⟩, 17) := ⟨⟨by decide +kernel, by decide +kernel⟩, List.mem_of_getElem? (i := 787) (by decide +kernel), List.mem_of_getElem? (i := 1040) (by decide +kernel), List.mem_of_getElem? (i := 1041) (by decide +kernel)⟩
theorem lw_p55 : lw_okq (⟨"ShadowRowsModel", "mostBlamed", "(I)I"⟩, 17) := ⟨⟨by decide +kernel, by decide +kernel⟩, List.mem_of_getElem? (i := 787) (by decide +kernel), List.mem_of_getElem? (i := 1044) (by decide +kernel), List.mem_of_getElem? (i := 1045) (by decide +kernel)⟩
theorem lw_p56 : lw_okq (⟨"ShadowRowsModel", "blamedHours", "(II)I"⟩, 17) := ⟨⟨by decide +kernel, by decide +kernel⟩, List.mem_of_getElem? (i := 787) (by decide +kernel), List.mem_of_getElem? (i := 1048) (by decide +kernel), List.mem_of_getElem? (i := 1049) (by decide +kernel)⟩
theorem lw_p57 : lw_okq (⟨"ShadowRowsModel", "allYields", "()I"⟩, 17) := ⟨⟨by decide +kernel, by decide +kernel⟩, List.mem_of_getElem? (i := 787) (by decide +kernel), List.mem_of_getElem? (i := 1068) (by decide +kernel), List.mem_of_getElem? (i := 1069) (by decide +kernel)⟩
theorem lw_p58 : lw_okq (⟨"ShadowRowsModel", "findHeights", "()V"⟩, 17) := ⟨⟨by decide +kernel, by decide +kernel⟩, List.mem_of_getElem? (i := 787) (by decide +kernel), List.mem_of_getElem? (i := 1085) (by decide +kernel), List.mem_of_getElem? (i := 1086) (by decide +kernel)⟩
theorem lw_p59 : lw_okq (⟨"ShadowRowsModel", "yieldsBy", "()I"⟩, 17) := ⟨⟨by decide +kernel, by decide +kernel⟩, List.mem_of_getElem? (i := 787) (by decide +kernel), List.mem_of_getElem? (i := 1095) (by decide +kernel), List.mem_of_getElem? (i := 1096) (by decide +kernel)⟩
theorem lw_p60 : lw_okq (⟨"ShadowRowsModel", "findFault", "()I"⟩, 17) := ⟨⟨by decide +kernel, by decide +kernel⟩, List.mem_of_getElem? (i := 787) (by decide +kernel), List.mem_of_getElem? (i := 1112) (by decide +kernel), List.mem_of_getElem? (i := 1113) (by decide +kernel)⟩
theorem lw_p61 : lw_okq (⟨"ShadowRowsModel", "readsOrder", "()Z"⟩, 17) := ⟨⟨by decide +kernel, by decide +kernel⟩, List.mem_of_getElem? (i := 787) (by decide +kernel), List.mem_of_getElem? (i := 1116) (by decide +kernel), List.mem_of_getElem? (i := 1117) (by decide +kernel)⟩
theorem lw_p62 : lw_okq (⟨"ShadowRowsModel", "character", "(I)I"⟩, 17) := ⟨⟨by decide +kernel, by decide +kernel⟩, List.mem_of_getElem? (i := 787) (by decide +kernel), List.mem_of_getElem? (i := 1120) (by decide +kernel), List.mem_of_getElem? (i := 1121) (by decide +kernel)⟩
theorem lw_p63 : lw_okq (⟨"ShadowRowsModel", "takeDigit", "(I)I"⟩, 17) := ⟨⟨by decide +kernel, by decide +kernel⟩, List.mem_of_getElem? (i := 787) (by decide +kernel), List.mem_of_getElem? (i := 1124) (by decide +kernel), List.mem_of_getElem? (i := 1125) (by decide +kernel)⟩
def lw_privs_4 : List (MethodName × Nat) := [(⟨"ShadowRowsModel", "shadeOf", "(II)I"⟩, 17), (⟨"ShadowRowsModel", "blamed", "(II)I"⟩, 17), (⟨"ShadowRowsModel", "shadowIn", "(III)I"⟩, 17), (⟨"ShadowRowsModel", "far", "(II)I"⟩, 17), (⟨"ShadowRowsModel", "fullYield", "(I)I"⟩, 17), (⟨"ShadowRowsModel", "lowHours", "(I)I"⟩, 17), (⟨"ShadowRowsModel", "shadeHours", "(I)I"⟩, 17), (⟨"ShadowRowsModel", "mostBlamed", "(I)I"⟩, 17), (⟨"ShadowRowsModel", "blamedHours", "(II)I"⟩, 17), (⟨"ShadowRowsModel", "allYields", "()I"⟩, 17), (⟨"ShadowRowsModel", "findHeights", "()V"⟩, 17), (⟨"ShadowRowsModel", "yieldsBy", "()I"⟩, 17), (⟨"ShadowRowsModel", "findFault", "()I"⟩, 17), (⟨"ShadowRowsModel", "readsOrder", "()Z"⟩, 17), (⟨"ShadowRowsModel", "character", "(I)I"⟩, 17), (⟨"ShadowRowsModel", "takeDigit", "(I)I"⟩, 17)]
theorem lw_r4 : ∀ q ∈ lw_privs_4, lw_okq q := List.forall_mem_cons.mpr ⟨lw_p48, List.forall_mem_cons.mpr ⟨lw_p49, List.forall_mem_cons.mpr ⟨lw_p50, List.forall_mem_cons.mpr ⟨lw_p51, List.forall_mem_cons.mpr ⟨lw_p52, List.forall_mem_cons.mpr ⟨lw_p53, List.forall_mem_cons.mpr ⟨lw_p54, List.forall_mem_cons.mpr ⟨lw_p55, List.forall_mem_cons.mpr ⟨lw_p56, List.forall_mem_cons.mpr ⟨lw_p57, List.forall_mem_cons.mpr ⟨lw_p58, List.forall_mem_cons.mpr ⟨lw_p59, List.forall_mem_cons.mpr ⟨lw_p60, List.forall_mem_cons.mpr ⟨lw_p61, List.forall_mem_cons.mpr ⟨lw_p62, List.forall_mem_cons.mpr ⟨lw_p63, fun _ h => absurd h List.not_mem_nil⟩⟩⟩⟩⟩⟩⟩⟩⟩⟩⟩⟩⟩⟩⟩⟩
theorem lw_p64 : lw_okq (⟨"ShadowRowsModel", "takes", "(I)Z"⟩, 17) := ⟨⟨by decide +kernel, by decide +kernel⟩, List.mem_of_getElem? (i := 787) (by decide +kernel), List.mem_of_getElem? (i := 1128) (by decide +kernel), List.mem_of_getElem? (i := 1129) (by decide +kernel)⟩
theorem lw_p65 : lw_okq (⟨"ShadowRowsModel", "takesDeal", "()Z"⟩, 17) := ⟨⟨by decide +kernel, by decide +kernel⟩, List.mem_of_getElem? (i := 787) (by decide +kernel), List.mem_of_getElem? (i := 1132) (by decide +kernel), List.mem_of_getElem? (i := 1133) (by decide +kernel)⟩
theorem lw_p66 : lw_okq (⟨"ShadowRowsModel", "takeNumber", "()I"⟩, 17) := ⟨⟨by decide +kernel, by decide +kernel⟩, List.mem_of_getElem? (i := 787) (by decide +kernel), List.mem_of_getElem? (i := 1136) (by decide +kernel), List.mem_of_getElem? (i := 1137) (by decide +kernel)⟩
theorem lw_p67 : lw_okq (⟨"ShadowRowsModel", "does", "()Z"⟩, 17) := ⟨⟨by decide +kernel, by decide +kernel⟩, List.mem_of_getElem? (i := 787) (by decide +kernel), List.mem_of_getElem? (i := 1144) (by decide +kernel), List.mem_of_getElem? (i := 1145) (by decide +kernel)⟩
def lw_privs_5 : List (MethodName × Nat) := [(⟨"ShadowRowsModel", "takes", "(I)Z"⟩, 17), (⟨"ShadowRowsModel", "takesDeal", "()Z"⟩, 17), (⟨"ShadowRowsModel", "takeNumber", "()I"⟩, 17), (⟨"ShadowRowsModel", "does", "()Z"⟩, 17)]
theorem lw_r5 : ∀ q ∈ lw_privs_5, lw_okq q := List.forall_mem_cons.mpr ⟨lw_p64, List.forall_mem_cons.mpr ⟨lw_p65, List.forall_mem_cons.mpr ⟨lw_p66, List.forall_mem_cons.mpr ⟨lw_p67, fun _ h => absurd h List.not_mem_nil⟩⟩⟩⟩
def lw_privs : List (MethodName × Nat) := lw_privs_1 ++ (lw_privs_2 ++ (lw_privs_3 ++ (lw_privs_4 ++ (lw_privs_5))))
def lw_tbl : List Cond := k2_sels lw_privs ++ tables_1
theorem lw_privs_ok : ∀ q ∈ lw_privs, lw_okq q := by
  show ∀ q ∈ lw_privs_1 ++ (lw_privs_2 ++ (lw_privs_3 ++ (lw_privs_4 ++ (lw_privs_5)))), lw_okq q
  exact List.forall_mem_append.mpr ⟨lw_r1, List.forall_mem_append.mpr ⟨lw_r2, List.forall_mem_append.mpr ⟨lw_r3, List.forall_mem_append.mpr ⟨lw_r4, lw_r5⟩⟩⟩⟩
end
section
def RX0 : String := "ShadowRows$Field"
def TX0 : u_T := fun k => match k with
  | 0 => ("ShadowRows$Field", "rows", "I", false)
  | 1 => ("ShadowRows$Field", "place", "[I", true)
  | 2 => ("ShadowRows$Field", "length", "[I", true)
  | 3 => ("ShadowRows$Field", "tilt", "[I", true)
  | 4 => ("ShadowRows$Field", "purse", "[I", true)
  | 5 => ("ShadowRows$Field", "wind", "[I", true)
  | 6 => ("ShadowRows$Field", "stow", "I", false)
  | 7 => ("ShadowRows$Field", "right", "[I", true)
  | 8 => ("ShadowRows$Field", "asks", "LShadowRows$Offers;", true)
  | 9 => ("ShadowRows$Field", "bids", "LShadowRows$Offers;", true)
  | _ => ("ShadowRows$Field", "traded", "I", false)
def tyX0 : Nat → FieldType := fun k => match k with
  | 0 => .int
  | 1 => .array .int
  | 2 => .array .int
  | 3 => .array .int
  | 4 => .array .int
  | 5 => .array .int
  | 6 => .int
  | 7 => .array .int
  | 8 => .object "ShadowRows$Offers"
  | 9 => .object "ShadowRows$Offers"
  | _ => .int
theorem nmX0 : ∀ a, a < 11 → ∀ b, b < 11 → a ≠ b → (TX0 a).2.1 ≠ (TX0 b).2.1 := by decide +kernel
theorem tyX0_ok : ∀ k, k < 11 → parseFieldDescriptor (TX0 k).2.2.1 = some (tyX0 k) := by decide +kernel
abbrev cX0_init : ByteArray := prog_2_method_1_code
def yX0_init : MethodName := ⟨RX0, "<init>", "()V"⟩
abbrev cX0_copyFrom : ByteArray := prog_2_method_2_code
def yX0_copyFrom : MethodName := ⟨RX0, "copyFrom", "(LShadowRows$Field;)V"⟩
abbrev cX0_hasRow : ByteArray := prog_2_method_3_code
def yX0_hasRow : MethodName := ⟨RX0, "hasRow", "(I)Z"⟩
abbrev cX0_rightAt : ByteArray := prog_2_method_4_code
def yX0_rightAt : MethodName := ⟨RX0, "rightAt", "(III)I"⟩
abbrev cX0_offersOf : ByteArray := prog_2_method_5_code
def yX0_offersOf : MethodName := ⟨RX0, "offersOf", "(I)LShadowRows$Offers;"⟩
abbrev cX0_build : ByteArray := prog_2_method_6_code
def yX0_build : MethodName := ⟨RX0, "build", "(III)I"⟩
abbrev cX0_isTaken : ByteArray := prog_2_method_7_code
def yX0_isTaken : MethodName := ⟨RX0, "isTaken", "(I)Z"⟩
abbrev cX0_changeTilt : ByteArray := prog_2_method_8_code
def yX0_changeTilt : MethodName := ⟨RX0, "changeTilt", "(II)I"⟩
abbrev cX0_changeWind : ByteArray := prog_2_method_9_code
def yX0_changeWind : MethodName := ⟨RX0, "changeWind", "(II)I"⟩
abbrev cX0_changeStow : ByteArray := prog_2_method_10_code
def yX0_changeStow : MethodName := ⟨RX0, "changeStow", "(I)I"⟩
abbrev cX0_rightError : ByteArray := prog_2_method_11_code
def yX0_rightError : MethodName := ⟨RX0, "rightError", "(IIII)I"⟩
abbrev cX0_changeRight : ByteArray := prog_2_method_12_code
def yX0_changeRight : MethodName := ⟨RX0, "changeRight", "(IIII)I"⟩
def RX1 : String := "ShadowRows$History"
def TX1 : u_T := fun k => match k with
  | 0 => ("ShadowRows$History", "size", "I", false)
  | _ => ("ShadowRows$History", "states", "[LShadowRows$Field;", true)
def tyX1 : Nat → FieldType := fun k => match k with
  | 0 => .int
  | _ => .array (.object "ShadowRows$Field")
theorem nmX1 : ∀ a, a < 2 → ∀ b, b < 2 → a ≠ b → (TX1 a).2.1 ≠ (TX1 b).2.1 := by decide +kernel
theorem tyX1_ok : ∀ k, k < 2 → parseFieldDescriptor (TX1 k).2.2.1 = some (tyX1 k) := by decide +kernel
abbrev cX1_init : ByteArray := prog_3_method_1_code
def yX1_init : MethodName := ⟨RX1, "<init>", "()V"⟩
abbrev cX1_mark : ByteArray := prog_3_method_2_code
def yX1_mark : MethodName := ⟨RX1, "mark", "(LShadowRows$Field;)V"⟩
abbrev cX1_keep : ByteArray := prog_3_method_3_code
def yX1_keep : MethodName := ⟨RX1, "keep", "(I)I"⟩
abbrev cX1_dropOldest : ByteArray := prog_3_method_4_code
def yX1_dropOldest : MethodName := ⟨RX1, "dropOldest", "()V"⟩
abbrev cX1_goBack : ByteArray := prog_3_method_5_code
def yX1_goBack : MethodName := ⟨RX1, "goBack", "(LShadowRows$Field;)I"⟩
def RX2 : String := "ShadowRows$Light"
def TX2 : u_T := fun k => match k with
  | 0 => ("ShadowRows$Light", "field", "LShadowRows$Field;", true)
  | 1 => ("ShadowRows$Light", "hour", "I", false)
  | 2 => ("ShadowRows$Light", "losses", "[I", true)
  | 3 => ("ShadowRows$Light", "limits", "[I", true)
  | 4 => ("ShadowRows$Light", "heights", "[I", true)
  | _ => ("ShadowRows$Light", "hoursToBlame", "[I", true)
def tyX2 : Nat → FieldType := fun k => match k with
  | 0 => .object "ShadowRows$Field"
  | 1 => .int
  | 2 => .array .int
  | 3 => .array .int
  | 4 => .array .int
  | _ => .array .int
theorem nmX2 : ∀ a, a < 6 → ∀ b, b < 6 → a ≠ b → (TX2 a).2.1 ≠ (TX2 b).2.1 := by decide +kernel
theorem tyX2_ok : ∀ k, k < 6 → parseFieldDescriptor (TX2 k).2.2.1 = some (tyX2 k) := by decide +kernel
abbrev cX2_init : ByteArray := prog_4_method_1_code
def yX2_init : MethodName := ⟨RX2, "<init>", "(LShadowRows$Field;)V"⟩
abbrev cX2_look : ByteArray := prog_4_method_2_code
def yX2_look : MethodName := ⟨RX2, "look", "(I)V"⟩
abbrev cX2_isFlat : ByteArray := prog_4_method_3_code
def yX2_isFlat : MethodName := ⟨RX2, "isFlat", "()Z"⟩
abbrev cX2_sun : ByteArray := prog_4_method_4_code
def yX2_sun : MethodName := ⟨RX2, "sun", "()I"⟩
abbrev cX2_ahead : ByteArray := prog_4_method_5_code
def yX2_ahead : MethodName := ⟨RX2, "ahead", "(II)I"⟩
abbrev cX2_lossBetween : ByteArray := prog_4_method_6_code
def yX2_lossBetween : MethodName := ⟨RX2, "lossBetween", "(II)I"⟩
abbrev cX2_limitOf : ByteArray := prog_4_method_7_code
def yX2_limitOf : MethodName := ⟨RX2, "limitOf", "(I)I"⟩
abbrev cX2_tiltOf : ByteArray := prog_4_method_8_code
def yX2_tiltOf : MethodName := ⟨RX2, "tiltOf", "(I)I"⟩
abbrev cX2_shadow : ByteArray := prog_4_method_9_code
def yX2_shadow : MethodName := ⟨RX2, "shadow", "(III)I"⟩
abbrev cX2_toBlame : ByteArray := prog_4_method_10_code
def yX2_toBlame : MethodName := ⟨RX2, "toBlame", "(I)I"⟩
abbrev cX2_shade : ByteArray := prog_4_method_11_code
def yX2_shade : MethodName := ⟨RX2, "shade", "(I)I"⟩
abbrev cX2_unshadedYield : ByteArray := prog_4_method_12_code
def yX2_unshadedYield : MethodName := ⟨RX2, "unshadedYield", "(I)I"⟩
abbrev cX2_yieldNow : ByteArray := prog_4_method_13_code
def yX2_yieldNow : MethodName := ⟨RX2, "yieldNow", "(I)I"⟩
abbrev cX2_yieldOfDay : ByteArray := prog_4_method_14_code
def yX2_yieldOfDay : MethodName := ⟨RX2, "yieldOfDay", "(I)I"⟩
abbrev cX2_unshadedYieldOfDay : ByteArray := prog_4_method_15_code
def yX2_unshadedYieldOfDay : MethodName := ⟨RX2, "unshadedYieldOfDay", "(I)I"⟩
abbrev cX2_yieldOfAll : ByteArray := prog_4_method_16_code
def yX2_yieldOfAll : MethodName := ⟨RX2, "yieldOfAll", "()I"⟩
abbrev cX2_hoursLowered : ByteArray := prog_4_method_17_code
def yX2_hoursLowered : MethodName := ⟨RX2, "hoursLowered", "(I)I"⟩
abbrev cX2_hoursShaded : ByteArray := prog_4_method_18_code
def yX2_hoursShaded : MethodName := ⟨RX2, "hoursShaded", "(I)I"⟩
abbrev cX2_mostToBlame : ByteArray := prog_4_method_19_code
def yX2_mostToBlame : MethodName := ⟨RX2, "mostToBlame", "(I)I"⟩
def RX3 : String := "ShadowRows$Market"
def TX3 : u_T := fun k => match k with
  | _ => ("ShadowRows$Market", "field", "LShadowRows$Field;", true)
def tyX3 : Nat → FieldType := fun k => match k with
  | _ => .object "ShadowRows$Field"
theorem nmX3 : ∀ a, a < 1 → ∀ b, b < 1 → a ≠ b → (TX3 a).2.1 ≠ (TX3 b).2.1 := by decide +kernel
theorem tyX3_ok : ∀ k, k < 1 → parseFieldDescriptor (TX3 k).2.2.1 = some (tyX3 k) := by decide +kernel
abbrev cX3_init : ByteArray := prog_5_method_1_code
def yX3_init : MethodName := ⟨RX3, "<init>", "(LShadowRows$Field;)V"⟩
abbrev cX3_addAsk : ByteArray := prog_5_method_2_code
def yX3_addAsk : MethodName := ⟨RX3, "addAsk", "(IIII)I"⟩
abbrev cX3_addBid : ByteArray := prog_5_method_3_code
def yX3_addBid : MethodName := ⟨RX3, "addBid", "(IIIII)I"⟩
abbrev cX3_isBadOffer : ByteArray := prog_5_method_4_code
def yX3_isBadOffer : MethodName := ⟨RX3, "isBadOffer", "(II)Z"⟩
abbrev cX3_tradeAll : ByteArray := prog_5_method_5_code
def yX3_tradeAll : MethodName := ⟨RX3, "tradeAll", "()I"⟩
abbrev cX3_serve : ByteArray := prog_5_method_6_code
def yX3_serve : MethodName := ⟨RX3, "serve", "(I)I"⟩
abbrev cX3_suits : ByteArray := prog_5_method_7_code
def yX3_suits : MethodName := ⟨RX3, "suits", "(II)Z"⟩
abbrev cX3_trade : ByteArray := prog_5_method_8_code
def yX3_trade : MethodName := ⟨RX3, "trade", "(II)I"⟩
def RX4 : String := "ShadowRows$Offers"
def TX4 : u_T := fun k => match k with
  | 0 => ("ShadowRows$Offers", "size", "I", false)
  | 1 => ("ShadowRows$Offers", "values", "[I", true)
  | _ => ("ShadowRows$Offers", "sorted", "[I", true)
def tyX4 : Nat → FieldType := fun k => match k with
  | 0 => .int
  | 1 => .array .int
  | _ => .array .int
theorem nmX4 : ∀ a, a < 3 → ∀ b, b < 3 → a ≠ b → (TX4 a).2.1 ≠ (TX4 b).2.1 := by decide +kernel
theorem tyX4_ok : ∀ k, k < 3 → parseFieldDescriptor (TX4 k).2.2.1 = some (tyX4 k) := by decide +kernel
abbrev cX4_init : ByteArray := prog_6_method_1_code
def yX4_init : MethodName := ⟨RX4, "<init>", "()V"⟩
abbrev cX4_copyFrom : ByteArray := prog_6_method_2_code
def yX4_copyFrom : MethodName := ⟨RX4, "copyFrom", "(LShadowRows$Offers;)V"⟩
abbrev cX4_has : ByteArray := prog_6_method_3_code
def yX4_has : MethodName := ⟨RX4, "has", "(I)Z"⟩
abbrev cX4_get : ByteArray := prog_6_method_4_code
def yX4_get : MethodName := ⟨RX4, "get", "(II)I"⟩
abbrev cX4_add : ByteArray := prog_6_method_5_code
def yX4_add : MethodName := ⟨RX4, "add", "(IIIII)I"⟩
abbrev cX4_remove : ByteArray := prog_6_method_6_code
def yX4_remove : MethodName := ⟨RX4, "remove", "(I)I"⟩
abbrev cX4_close : ByteArray := prog_6_method_7_code
def yX4_close : MethodName := ⟨RX4, "close", "(I)V"⟩
abbrev cX4_take : ByteArray := prog_6_method_8_code
def yX4_take : MethodName := ⟨RX4, "take", "(II)V"⟩
abbrev cX4_removeEmpty : ByteArray := prog_6_method_9_code
def yX4_removeEmpty : MethodName := ⟨RX4, "removeEmpty", "()V"⟩
abbrev cX4_sortByPrice : ByteArray := prog_6_method_10_code
def yX4_sortByPrice : MethodName := ⟨RX4, "sortByPrice", "(I)V"⟩
def RX5 : String := "ShadowRows$OrderReader"
def TX5 : u_T := fun k => match k with
  | 0 => ("ShadowRows$OrderReader", "pad", "LShadowRows$Pad;", true)
  | 1 => ("ShadowRows$OrderReader", "at", "I", false)
  | 2 => ("ShadowRows$OrderReader", "kind", "C", false)
  | 3 => ("ShadowRows$OrderReader", "numbers", "[I", true)
  | _ => ("ShadowRows$OrderReader", "found", "I", false)
def tyX5 : Nat → FieldType := fun k => match k with
  | 0 => .object "ShadowRows$Pad"
  | 1 => .int
  | 2 => .char
  | 3 => .array .int
  | _ => .int
theorem nmX5 : ∀ a, a < 5 → ∀ b, b < 5 → a ≠ b → (TX5 a).2.1 ≠ (TX5 b).2.1 := by decide +kernel
theorem tyX5_ok : ∀ k, k < 5 → parseFieldDescriptor (TX5 k).2.2.1 = some (tyX5 k) := by decide +kernel
abbrev cX5_init : ByteArray := prog_7_method_1_code
def yX5_init : MethodName := ⟨RX5, "<init>", "(LShadowRows$Pad;)V"⟩
abbrev cX5_start : ByteArray := prog_7_method_2_code
def yX5_start : MethodName := ⟨RX5, "start", "()V"⟩
abbrev cX5_findFault : ByteArray := prog_7_method_3_code
def yX5_findFault : MethodName := ⟨RX5, "findFault", "()I"⟩
abbrev cX5_readOrder : ByteArray := prog_7_method_4_code
def yX5_readOrder : MethodName := ⟨RX5, "readOrder", "()Z"⟩
abbrev cX5_readTerms : ByteArray := prog_7_method_5_code
def yX5_readTerms : MethodName := ⟨RX5, "readTerms", "()Z"⟩
abbrev cX5_readSign : ByteArray := prog_7_method_6_code
def yX5_readSign : MethodName := ⟨RX5, "readSign", "(C)Z"⟩
abbrev cX5_readDigit : ByteArray := prog_7_method_7_code
def yX5_readDigit : MethodName := ⟨RX5, "readDigit", "(I)Z"⟩
abbrev cX5_readNumber : ByteArray := prog_7_method_8_code
def yX5_readNumber : MethodName := ⟨RX5, "readNumber", "()Z"⟩
abbrev cX5_digitHere : ByteArray := prog_7_method_9_code
def yX5_digitHere : MethodName := ⟨RX5, "digitHere", "()I"⟩
abbrev cX5_keepNumber : ByteArray := prog_7_method_10_code
def yX5_keepNumber : MethodName := ⟨RX5, "keepNumber", "(I)V"⟩
def RX6 : String := "ShadowRows$Pad"
def TX6 : u_T := fun k => match k with
  | 0 => ("ShadowRows$Pad", "signs", "[C", true)
  | _ => ("ShadowRows$Pad", "length", "I", false)
def tyX6 : Nat → FieldType := fun k => match k with
  | 0 => .array .char
  | _ => .int
theorem nmX6 : ∀ a, a < 2 → ∀ b, b < 2 → a ≠ b → (TX6 a).2.1 ≠ (TX6 b).2.1 := by decide +kernel
theorem tyX6_ok : ∀ k, k < 2 → parseFieldDescriptor (TX6 k).2.2.1 = some (tyX6 k) := by decide +kernel
abbrev cX6_init : ByteArray := prog_8_method_1_code
def yX6_init : MethodName := ⟨RX6, "<init>", "()V"⟩
abbrev cX6_append : ByteArray := prog_8_method_2_code
def yX6_append : MethodName := ⟨RX6, "append", "(J)I"⟩
abbrev cX6_countSigns : ByteArray := prog_8_method_3_code
def yX6_countSigns : MethodName := ⟨RX6, "countSigns", "(J)I"⟩
abbrev cX6_clear : ByteArray := prog_8_method_4_code
def yX6_clear : MethodName := ⟨RX6, "clear", "()I"⟩
def RX7 : String := "ShadowRows$TiltSearch"
def TX7 : u_T := fun k => match k with
  | 0 => ("ShadowRows$TiltSearch", "field", "LShadowRows$Field;", true)
  | 1 => ("ShadowRows$TiltSearch", "light", "LShadowRows$Light;", true)
  | 2 => ("ShadowRows$TiltSearch", "sums", "[I", true)
  | 3 => ("ShadowRows$TiltSearch", "best", "I", false)
  | 4 => ("ShadowRows$TiltSearch", "tops", "[I", true)
  | 5 => ("ShadowRows$TiltSearch", "order", "[I", true)
  | _ => ("ShadowRows$TiltSearch", "heights", "[I", true)
def tyX7 : Nat → FieldType := fun k => match k with
  | 0 => .object "ShadowRows$Field"
  | 1 => .object "ShadowRows$Light"
  | 2 => .array .int
  | 3 => .int
  | 4 => .array .int
  | 5 => .array .int
  | _ => .array .int
theorem nmX7 : ∀ a, a < 7 → ∀ b, b < 7 → a ≠ b → (TX7 a).2.1 ≠ (TX7 b).2.1 := by decide +kernel
theorem tyX7_ok : ∀ k, k < 7 → parseFieldDescriptor (TX7 k).2.2.1 = some (tyX7 k) := by decide +kernel
abbrev cX7_init : ByteArray := prog_9_method_1_code
def yX7_init : MethodName := ⟨RX7, "<init>", "(LShadowRows$Field;LShadowRows$Light;)V"⟩
abbrev cX7_run : ByteArray := prog_9_method_2_code
def yX7_run : MethodName := ⟨RX7, "run", "()V"⟩
abbrev cX7_bestTiltOf : ByteArray := prog_9_method_3_code
def yX7_bestTiltOf : MethodName := ⟨RX7, "bestTiltOf", "(I)I"⟩
abbrev cX7_bestYields : ByteArray := prog_9_method_4_code
def yX7_bestYields : MethodName := ⟨RX7, "bestYields", "()I"⟩
abbrev cX7_stepOf : ByteArray := prog_9_method_5_code
def yX7_stepOf : MethodName := ⟨RX7, "stepOf", "(I)I"⟩
abbrev cX7_findTops : ByteArray := prog_9_method_6_code
def yX7_findTops : MethodName := ⟨RX7, "findTops", "()V"⟩
abbrev cX7_sortRows : ByteArray := prog_9_method_7_code
def yX7_sortRows : MethodName := ⟨RX7, "sortRows", "()V"⟩
abbrev cX7_layRows : ByteArray := prog_9_method_8_code
def yX7_layRows : MethodName := ⟨RX7, "layRows", "(LShadowRows$TiltSearch;III)V"⟩
abbrev cX7_shadeOn : ByteArray := prog_9_method_9_code
def yX7_shadeOn : MethodName := ⟨RX7, "shadeOn", "(II)I"⟩
def RX8 : String := "ShadowRows"
def TX8 : u_T := fun k => match k with
  | 0 => ("ShadowRows", "field", "LShadowRows$Field;", true)
  | 1 => ("ShadowRows", "light", "LShadowRows$Light;", true)
  | 2 => ("ShadowRows", "market", "LShadowRows$Market;", true)
  | 3 => ("ShadowRows", "search", "LShadowRows$TiltSearch;", true)
  | 4 => ("ShadowRows", "pad", "LShadowRows$Pad;", true)
  | 5 => ("ShadowRows", "reader", "LShadowRows$OrderReader;", true)
  | 6 => ("ShadowRows", "history", "LShadowRows$History;", true)
  | 7 => ("ShadowRows", "slots", "[LShadowRows$Field;", true)
  | _ => ("ShadowRows", "saved", "[Z", true)
def tyX8 : Nat → FieldType := fun k => match k with
  | 0 => .object "ShadowRows$Field"
  | 1 => .object "ShadowRows$Light"
  | 2 => .object "ShadowRows$Market"
  | 3 => .object "ShadowRows$TiltSearch"
  | 4 => .object "ShadowRows$Pad"
  | 5 => .object "ShadowRows$OrderReader"
  | 6 => .object "ShadowRows$History"
  | 7 => .array (.object "ShadowRows$Field")
  | _ => .array .boolean
theorem nmX8 : ∀ a, a < 9 → ∀ b, b < 9 → a ≠ b → (TX8 a).2.1 ≠ (TX8 b).2.1 := by decide +kernel
theorem tyX8_ok : ∀ k, k < 9 → parseFieldDescriptor (TX8 k).2.2.1 = some (tyX8 k) := by decide +kernel
abbrev cX8_init : ByteArray := prog_1_method_1_code
def yX8_init : MethodName := ⟨RX8, "<init>", "()V"⟩
abbrev cX8_row : ByteArray := prog_1_method_2_code
def yX8_row : MethodName := ⟨RX8, "row", "(III)I"⟩
abbrev cX8_tilt : ByteArray := prog_1_method_3_code
def yX8_tilt : MethodName := ⟨RX8, "tilt", "(II)I"⟩
abbrev cX8_wind : ByteArray := prog_1_method_4_code
def yX8_wind : MethodName := ⟨RX8, "wind", "(II)I"⟩
abbrev cX8_stow : ByteArray := prog_1_method_5_code
def yX8_stow : MethodName := ⟨RX8, "stow", "(I)I"⟩
abbrev cX8_grant : ByteArray := prog_1_method_6_code
def yX8_grant : MethodName := ⟨RX8, "grant", "(IIII)I"⟩
abbrev cX8_ask : ByteArray := prog_1_method_7_code
def yX8_ask : MethodName := ⟨RX8, "ask", "(IIII)I"⟩
abbrev cX8_bid : ByteArray := prog_1_method_8_code
def yX8_bid : MethodName := ⟨RX8, "bid", "(IIIII)I"⟩
abbrev cX8_takeBack : ByteArray := prog_1_method_9_code
def yX8_takeBack : MethodName := ⟨RX8, "takeBack", "(II)I"⟩
abbrev cX8_match : ByteArray := prog_1_method_10_code
def yX8_match : MethodName := ⟨RX8, "match", "()I"⟩
abbrev cX8_ofRow : ByteArray := prog_1_method_11_code
def yX8_ofRow : MethodName := ⟨RX8, "ofRow", "(II)I"⟩
abbrev cX8_inHour : ByteArray := prog_1_method_12_code
def yX8_inHour : MethodName := ⟨RX8, "inHour", "(III)I"⟩
abbrev cX8_over : ByteArray := prog_1_method_13_code
def yX8_over : MethodName := ⟨RX8, "over", "(IIII)I"⟩
abbrev cX8_offer : ByteArray := prog_1_method_14_code
def yX8_offer : MethodName := ⟨RX8, "offer", "(III)I"⟩
abbrev cX8_count : ByteArray := prog_1_method_15_code
def yX8_count : MethodName := ⟨RX8, "count", "(I)I"⟩
abbrev cX8_worth : ByteArray := prog_1_method_16_code
def yX8_worth : MethodName := ⟨RX8, "worth", "(IIIII)I"⟩
abbrev cX8_gainMeasure : ByteArray := prog_1_method_17_code
def yX8_gainMeasure : MethodName := ⟨RX8, "gainMeasure", "(III)I"⟩
abbrev cX8_bestTilt : ByteArray := prog_1_method_18_code
def yX8_bestTilt : MethodName := ⟨RX8, "bestTilt", "(II)I"⟩
abbrev cX8_bestTilts : ByteArray := prog_1_method_19_code
def yX8_bestTilts : MethodName := ⟨RX8, "bestTilts", "(I)I"⟩
abbrev cX8_put : ByteArray := prog_1_method_20_code
def yX8_put : MethodName := ⟨RX8, "put", "(J)I"⟩
abbrev cX8_wipe : ByteArray := prog_1_method_21_code
def yX8_wipe : MethodName := ⟨RX8, "wipe", "()I"⟩
abbrev cX8_fault : ByteArray := prog_1_method_22_code
def yX8_fault : MethodName := ⟨RX8, "fault", "()I"⟩
abbrev cX8_carryOut : ByteArray := prog_1_method_23_code
def yX8_carryOut : MethodName := ⟨RX8, "carryOut", "()I"⟩
abbrev cX8_carryOrdersOut : ByteArray := prog_1_method_24_code
def yX8_carryOrdersOut : MethodName := ⟨RX8, "carryOrdersOut", "()I"⟩
abbrev cX8_carryOneOut : ByteArray := prog_1_method_25_code
def yX8_carryOneOut : MethodName := ⟨RX8, "carryOneOut", "()I"⟩
abbrev cX8_undo : ByteArray := prog_1_method_26_code
def yX8_undo : MethodName := ⟨RX8, "undo", "()I"⟩
abbrev cX8_save : ByteArray := prog_1_method_27_code
def yX8_save : MethodName := ⟨RX8, "save", "(I)I"⟩
abbrev cX8_restore : ByteArray := prog_1_method_28_code
def yX8_restore : MethodName := ⟨RX8, "restore", "(I)I"⟩
abbrev cX8_outside : ByteArray := prog_1_method_29_code
def yX8_outside : MethodName := ⟨RX8, "outside", "(III)Z"⟩
abbrev cX8_isHour : ByteArray := prog_1_method_30_code
def yX8_isHour : MethodName := ⟨RX8, "isHour", "(I)Z"⟩
def RX9 : String := "ShadowRowsModel"
def TX9 : u_T := fun k => match k with
  | 0 => ("ShadowRowsModel", "state", "[I", true)
  | 1 => ("ShadowRowsModel", "history", "[I", true)
  | 2 => ("ShadowRowsModel", "recorded", "I", false)
  | 3 => ("ShadowRowsModel", "slots", "[I", true)
  | 4 => ("ShadowRowsModel", "isSaved", "[I", true)
  | 5 => ("ShadowRowsModel", "pad", "[I", true)
  | 6 => ("ShadowRowsModel", "padLength", "I", false)
  | 7 => ("ShadowRowsModel", "lying", "[I", true)
  | 8 => ("ShadowRowsModel", "heights", "[I", true)
  | 9 => ("ShadowRowsModel", "tilts", "[I", true)
  | 10 => ("ShadowRowsModel", "at", "I", false)
  | 11 => ("ShadowRowsModel", "letter", "I", false)
  | 12 => ("ShadowRowsModel", "first", "I", false)
  | 13 => ("ShadowRowsModel", "second", "I", false)
  | 14 => ("ShadowRowsModel", "third", "I", false)
  | 15 => ("ShadowRowsModel", "fourth", "I", false)
  | _ => ("ShadowRowsModel", "fifth", "I", false)
def tyX9 : Nat → FieldType := fun k => match k with
  | 0 => .array .int
  | 1 => .array .int
  | 2 => .int
  | 3 => .array .int
  | 4 => .array .int
  | 5 => .array .int
  | 6 => .int
  | 7 => .array .int
  | 8 => .array .int
  | 9 => .array .int
  | 10 => .int
  | 11 => .int
  | 12 => .int
  | 13 => .int
  | 14 => .int
  | 15 => .int
  | _ => .int
theorem nmX9 : ∀ a, a < 17 → ∀ b, b < 17 → a ≠ b → (TX9 a).2.1 ≠ (TX9 b).2.1 := by decide +kernel
theorem tyX9_ok : ∀ k, k < 17 → parseFieldDescriptor (TX9 k).2.2.1 = some (tyX9 k) := by decide +kernel
abbrev cX9_init : ByteArray := prog_11_method_1_code
def yX9_init : MethodName := ⟨RX9, "<init>", "()V"⟩
abbrev cX9_copy : ByteArray := prog_11_method_3_code
def yX9_copy : MethodName := ⟨RX9, "copy", "([II[II)V"⟩
abbrev cX9_within : ByteArray := prog_11_method_4_code
def yX9_within : MethodName := ⟨RX9, "within", "(III)Z"⟩
abbrev cX9_record : ByteArray := prog_11_method_5_code
def yX9_record : MethodName := ⟨RX9, "record", "()V"⟩
abbrev cX9_isRow : ByteArray := prog_11_method_6_code
def yX9_isRow : MethodName := ⟨RX9, "isRow", "(I)Z"⟩
abbrev cX9_isHour : ByteArray := prog_11_method_7_code
def yX9_isHour : MethodName := ⟨RX9, "isHour", "(I)Z"⟩
abbrev cX9_part : ByteArray := prog_11_method_8_code
def yX9_part : MethodName := ⟨RX9, "part", "(II)I"⟩
abbrev cX9_rightOf : ByteArray := prog_11_method_9_code
def yX9_rightOf : MethodName := ⟨RX9, "rightOf", "(III)I"⟩
abbrev cX9_setRight : ByteArray := prog_11_method_10_code
def yX9_setRight : MethodName := ⟨RX9, "setRight", "(IIII)V"⟩
abbrev cX9_slopeOf : ByteArray := prog_11_method_11_code
def yX9_slopeOf : MethodName := ⟨RX9, "slopeOf", "(I)I"⟩
abbrev cX9_sunOf : ByteArray := prog_11_method_12_code
def yX9_sunOf : MethodName := ⟨RX9, "sunOf", "(I)I"⟩
abbrev cX9_shadow : ByteArray := prog_11_method_13_code
def yX9_shadow : MethodName := ⟨RX9, "shadow", "(IIII)I"⟩
abbrev cX9_isFlat : ByteArray := prog_11_method_14_code
def yX9_isFlat : MethodName := ⟨RX9, "isFlat", "(I)Z"⟩
abbrev cX9_keepsRights : ByteArray := prog_11_method_15_code
def yX9_keepsRights : MethodName := ⟨RX9, "keepsRights", "(III)Z"⟩
abbrev cX9_tiltIn : ByteArray := prog_11_method_16_code
def yX9_tiltIn : MethodName := ⟨RX9, "tiltIn", "(III)I"⟩
abbrev cX9_heightIn : ByteArray := prog_11_method_17_code
def yX9_heightIn : MethodName := ⟨RX9, "heightIn", "(II)I"⟩
abbrev cX9_shadowIn : ByteArray := prog_11_method_18_code
def yX9_shadowIn : MethodName := ⟨RX9, "shadowIn", "(III)I"⟩
abbrev cX9_far : ByteArray := prog_11_method_19_code
def yX9_far : MethodName := ⟨RX9, "far", "(II)I"⟩
abbrev cX9_blamed : ByteArray := prog_11_method_20_code
def yX9_blamed : MethodName := ⟨RX9, "blamed", "(II)I"⟩
abbrev cX9_shadeOf : ByteArray := prog_11_method_21_code
def yX9_shadeOf : MethodName := ⟨RX9, "shadeOf", "(II)I"⟩
abbrev cX9_yieldIn : ByteArray := prog_11_method_22_code
def yX9_yieldIn : MethodName := ⟨RX9, "yieldIn", "(II)I"⟩
abbrev cX9_yieldOf : ByteArray := prog_11_method_23_code
def yX9_yieldOf : MethodName := ⟨RX9, "yieldOf", "(I)I"⟩
abbrev cX9_allYields : ByteArray := prog_11_method_24_code
def yX9_allYields : MethodName := ⟨RX9, "allYields", "()I"⟩
abbrev cX9_isPlaceTaken : ByteArray := prog_11_method_25_code
def yX9_isPlaceTaken : MethodName := ⟨RX9, "isPlaceTaken", "(I)Z"⟩
abbrev cX9_row : ByteArray := prog_11_method_26_code
def yX9_row : MethodName := ⟨RX9, "row", "(III)I"⟩
abbrev cX9_whyNotTilted : ByteArray := prog_11_method_27_code
def yX9_whyNotTilted : MethodName := ⟨RX9, "whyNotTilted", "(II)I"⟩
abbrev cX9_tilted : ByteArray := prog_11_method_28_code
def yX9_tilted : MethodName := ⟨RX9, "tilted", "(II)I"⟩
abbrev cX9_tilt : ByteArray := prog_11_method_29_code
def yX9_tilt : MethodName := ⟨RX9, "tilt", "(II)I"⟩
abbrev cX9_wind : ByteArray := prog_11_method_30_code
def yX9_wind : MethodName := ⟨RX9, "wind", "(II)I"⟩
abbrev cX9_stow : ByteArray := prog_11_method_31_code
def yX9_stow : MethodName := ⟨RX9, "stow", "(I)I"⟩
abbrev cX9_whyNotGranted : ByteArray := prog_11_method_32_code
def yX9_whyNotGranted : MethodName := ⟨RX9, "whyNotGranted", "(IIII)I"⟩
abbrev cX9_grant : ByteArray := prog_11_method_33_code
def yX9_grant : MethodName := ⟨RX9, "grant", "(IIII)I"⟩
abbrev cX9_areUnits : ByteArray := prog_11_method_34_code
def yX9_areUnits : MethodName := ⟨RX9, "areUnits", "(II)Z"⟩
abbrev cX9_whyNotAsked : ByteArray := prog_11_method_35_code
def yX9_whyNotAsked : MethodName := ⟨RX9, "whyNotAsked", "(IIII)I"⟩
abbrev cX9_asked : ByteArray := prog_11_method_36_code
def yX9_asked : MethodName := ⟨RX9, "asked", "(IIII)I"⟩
abbrev cX9_ask : ByteArray := prog_11_method_37_code
def yX9_ask : MethodName := ⟨RX9, "ask", "(IIII)I"⟩
abbrev cX9_whyNotBid : ByteArray := prog_11_method_38_code
def yX9_whyNotBid : MethodName := ⟨RX9, "whyNotBid", "(IIIII)I"⟩
abbrev cX9_bought : ByteArray := prog_11_method_39_code
def yX9_bought : MethodName := ⟨RX9, "bought", "(IIIII)I"⟩
abbrev cX9_bid : ByteArray := prog_11_method_40_code
def yX9_bid : MethodName := ⟨RX9, "bid", "(IIIII)I"⟩
abbrev cX9_dropAsk : ByteArray := prog_11_method_41_code
def yX9_dropAsk : MethodName := ⟨RX9, "dropAsk", "(I)V"⟩
abbrev cX9_dropBid : ByteArray := prog_11_method_42_code
def yX9_dropBid : MethodName := ⟨RX9, "dropBid", "(I)V"⟩
abbrev cX9_takeBack : ByteArray := prog_11_method_43_code
def yX9_takeBack : MethodName := ⟨RX9, "takeBack", "(II)I"⟩
abbrev cX9_askPart : ByteArray := prog_11_method_44_code
def yX9_askPart : MethodName := ⟨RX9, "askPart", "(II)I"⟩
abbrev cX9_bidPart : ByteArray := prog_11_method_45_code
def yX9_bidPart : MethodName := ⟨RX9, "bidPart", "(II)I"⟩
abbrev cX9_placeOfBid : ByteArray := prog_11_method_46_code
def yX9_placeOfBid : MethodName := ⟨RX9, "placeOfBid", "(I)I"⟩
abbrev cX9_nextAsk : ByteArray := prog_11_method_47_code
def yX9_nextAsk : MethodName := ⟨RX9, "nextAsk", "(I)I"⟩
abbrev cX9_tradedBy : ByteArray := prog_11_method_48_code
def yX9_tradedBy : MethodName := ⟨RX9, "tradedBy", "(I)I"⟩
abbrev cX9_matched : ByteArray := prog_11_method_49_code
def yX9_matched : MethodName := ⟨RX9, "matched", "()I"⟩
abbrev cX9_match : ByteArray := prog_11_method_50_code
def yX9_match : MethodName := ⟨RX9, "match", "()I"⟩
abbrev cX9_fullYield : ByteArray := prog_11_method_51_code
def yX9_fullYield : MethodName := ⟨RX9, "fullYield", "(I)I"⟩
abbrev cX9_lowHours : ByteArray := prog_11_method_52_code
def yX9_lowHours : MethodName := ⟨RX9, "lowHours", "(I)I"⟩
abbrev cX9_shadeHours : ByteArray := prog_11_method_53_code
def yX9_shadeHours : MethodName := ⟨RX9, "shadeHours", "(I)I"⟩
abbrev cX9_blamedHours : ByteArray := prog_11_method_54_code
def yX9_blamedHours : MethodName := ⟨RX9, "blamedHours", "(II)I"⟩
abbrev cX9_mostBlamed : ByteArray := prog_11_method_55_code
def yX9_mostBlamed : MethodName := ⟨RX9, "mostBlamed", "(I)I"⟩
abbrev cX9_ofRow : ByteArray := prog_11_method_56_code
def yX9_ofRow : MethodName := ⟨RX9, "ofRow", "(II)I"⟩
abbrev cX9_inHour : ByteArray := prog_11_method_57_code
def yX9_inHour : MethodName := ⟨RX9, "inHour", "(III)I"⟩
abbrev cX9_over : ByteArray := prog_11_method_58_code
def yX9_over : MethodName := ⟨RX9, "over", "(IIII)I"⟩
abbrev cX9_offer : ByteArray := prog_11_method_59_code
def yX9_offer : MethodName := ⟨RX9, "offer", "(III)I"⟩
abbrev cX9_count : ByteArray := prog_11_method_60_code
def yX9_count : MethodName := ⟨RX9, "count", "(I)I"⟩
abbrev cX9_worth : ByteArray := prog_11_method_61_code
def yX9_worth : MethodName := ⟨RX9, "worth", "(IIIII)I"⟩
abbrev cX9_bestTilt : ByteArray := prog_11_method_62_code
def yX9_bestTilt : MethodName := ⟨RX9, "bestTilt", "(II)I"⟩
abbrev cX9_lyingAt : ByteArray := prog_11_method_63_code
def yX9_lyingAt : MethodName := ⟨RX9, "lyingAt", "(III)I"⟩
abbrev cX9_heightAt : ByteArray := prog_11_method_64_code
def yX9_heightAt : MethodName := ⟨RX9, "heightAt", "(IIII)I"⟩
abbrev cX9_findHeights : ByteArray := prog_11_method_65_code
def yX9_findHeights : MethodName := ⟨RX9, "findHeights", "()V"⟩
abbrev cX9_yieldsBy : ByteArray := prog_11_method_66_code
def yX9_yieldsBy : MethodName := ⟨RX9, "yieldsBy", "()I"⟩
abbrev cX9_bestTilts : ByteArray := prog_11_method_67_code
def yX9_bestTilts : MethodName := ⟨RX9, "bestTilts", "(I)I"⟩
abbrev cX9_put : ByteArray := prog_11_method_68_code
def yX9_put : MethodName := ⟨RX9, "put", "(J)I"⟩
abbrev cX9_wipe : ByteArray := prog_11_method_69_code
def yX9_wipe : MethodName := ⟨RX9, "wipe", "()I"⟩
abbrev cX9_character : ByteArray := prog_11_method_70_code
def yX9_character : MethodName := ⟨RX9, "character", "(I)I"⟩
abbrev cX9_takeDigit : ByteArray := prog_11_method_71_code
def yX9_takeDigit : MethodName := ⟨RX9, "takeDigit", "(I)I"⟩
abbrev cX9_takes : ByteArray := prog_11_method_72_code
def yX9_takes : MethodName := ⟨RX9, "takes", "(I)Z"⟩
abbrev cX9_takeNumber : ByteArray := prog_11_method_73_code
def yX9_takeNumber : MethodName := ⟨RX9, "takeNumber", "()I"⟩
abbrev cX9_takesDeal : ByteArray := prog_11_method_74_code
def yX9_takesDeal : MethodName := ⟨RX9, "takesDeal", "()Z"⟩
abbrev cX9_readsOrder : ByteArray := prog_11_method_75_code
def yX9_readsOrder : MethodName := ⟨RX9, "readsOrder", "()Z"⟩
abbrev cX9_findFault : ByteArray := prog_11_method_76_code
def yX9_findFault : MethodName := ⟨RX9, "findFault", "()I"⟩
abbrev cX9_fault : ByteArray := prog_11_method_77_code
def yX9_fault : MethodName := ⟨RX9, "fault", "()I"⟩
abbrev cX9_does : ByteArray := prog_11_method_78_code
def yX9_does : MethodName := ⟨RX9, "does", "()Z"⟩
abbrev cX9_carryOut : ByteArray := prog_11_method_79_code
def yX9_carryOut : MethodName := ⟨RX9, "carryOut", "()I"⟩
abbrev cX9_undo : ByteArray := prog_11_method_80_code
def yX9_undo : MethodName := ⟨RX9, "undo", "()I"⟩
abbrev cX9_save : ByteArray := prog_11_method_81_code
def yX9_save : MethodName := ⟨RX9, "save", "(I)I"⟩
abbrev cX9_restore : ByteArray := prog_11_method_82_code
def yX9_restore : MethodName := ⟨RX9, "restore", "(I)I"⟩
def RJ11 : String := "java/lang/Character"
abbrev cJ11_isValidCodePoint_9a6ad : ByteArray := prog_12_method_11_code
def yJ11_isValidCodePoint_9a6ad : MethodName := ⟨RJ11, "isValidCodePoint", "(I)Z"⟩
abbrev cJ11_highSurrogate_5068e : ByteArray := prog_12_method_28_code
def yJ11_highSurrogate_5068e : MethodName := ⟨RJ11, "highSurrogate", "(I)C"⟩
abbrev cJ11_lowSurrogate_5068e : ByteArray := prog_12_method_29_code
def yJ11_lowSurrogate_5068e : MethodName := ⟨RJ11, "lowSurrogate", "(I)C"⟩
def RJ9 : String := "java/lang/Math"
abbrev cJ9_max_7cf53 : ByteArray := prog_13_method_65_code
def yJ9_max_7cf53 : MethodName := ⟨RJ9, "max", "(II)I"⟩
abbrev cJ9_min_7cf53 : ByteArray := prog_13_method_69_code
def yJ9_min_7cf53 : MethodName := ⟨RJ9, "min", "(II)I"⟩
def RJ0 : String := "java/lang/String"
abbrev cJ0_length_8abf5 : ByteArray := prog_14_method_54_code
def yJ0_length_8abf5 : MethodName := ⟨RJ0, "length", "()I"⟩
abbrev cJ0_indexOf_0f7a4 : ByteArray := prog_14_method_79_code
def yJ0_indexOf_0f7a4 : MethodName := ⟨RJ0, "indexOf", "(I)I"⟩
abbrev cJ0_indexOf_7cf53 : ByteArray := prog_14_method_80_code
def yJ0_indexOf_7cf53 : MethodName := ⟨RJ0, "indexOf", "(II)I"⟩
abbrev cJ0_coder_7d493 : ByteArray := prog_14_method_152_code
def yJ0_coder_7d493 : MethodName := ⟨RJ0, "coder", "()B"⟩
abbrev cJ0_isLatin1_aae02 : ByteArray := prog_14_method_154_code
def yJ0_isLatin1_aae02 : MethodName := ⟨RJ0, "isLatin1", "()Z"⟩
abbrev cJ0_checkBoundsBeginEnd_23922 : ByteArray := prog_14_method_158_code
def yJ0_checkBoundsBeginEnd_23922 : MethodName := ⟨RJ0, "checkBoundsBeginEnd", "(III)V"⟩
def RJ1 : String := "java/lang/StringLatin1"
abbrev cJ1_canEncode_9a6ad : ByteArray := prog_15_method_4_code
def yJ1_canEncode_9a6ad : MethodName := ⟨RJ1, "canEncode", "(I)Z"⟩
abbrev cJ1_indexOf_4cfef : ByteArray := prog_15_method_22_code
def yJ1_indexOf_4cfef : MethodName := ⟨RJ1, "indexOf", "([BIII)I"⟩
abbrev cJ1_indexOfChar_4cfef : ByteArray := prog_15_method_23_code
def yJ1_indexOfChar_4cfef : MethodName := ⟨RJ1, "indexOfChar", "([BIII)I"⟩
def RJ2 : String := "java/lang/StringUTF16"
abbrev cJ2_getChar_3b067 : ByteArray := prog_16_method_5_code
def yJ2_getChar_3b067 : MethodName := ⟨RJ2, "getChar", "([BI)C"⟩
abbrev cJ2_length_9d52b : ByteArray := prog_16_method_6_code
def yJ2_length_9d52b : MethodName := ⟨RJ2, "length", "([B)I"⟩
abbrev cJ2_indexOf_4cfef : ByteArray := prog_16_method_40_code
def yJ2_indexOf_4cfef : MethodName := ⟨RJ2, "indexOf", "([BIII)I"⟩
abbrev cJ2_indexOfChar_4cfef : ByteArray := prog_16_method_47_code
def yJ2_indexOfChar_4cfef : MethodName := ⟨RJ2, "indexOfChar", "([BIII)I"⟩
abbrev cJ2_indexOfCharUnsafe_4cfef : ByteArray := prog_16_method_48_code
def yJ2_indexOfCharUnsafe_4cfef : MethodName := ⟨RJ2, "indexOfCharUnsafe", "([BIII)I"⟩
abbrev cJ2_indexOfSupplementary_4cfef : ByteArray := prog_16_method_49_code
def yJ2_indexOfSupplementary_4cfef : MethodName := ⟨RJ2, "indexOfSupplementary", "([BIII)I"⟩
abbrev cJ2_checkBoundsBeginEnd_d044e : ByteArray := prog_16_method_93_code
def yJ2_checkBoundsBeginEnd_d044e : MethodName := ⟨RJ2, "checkBoundsBeginEnd", "(II[B)V"⟩
def RJ10 : String := "java/lang/System"
def RJ3 : String := "jdk/internal/util/Preconditions"
abbrev cJ3_checkFromToIndex_8c36e : ByteArray := prog_18_method_12_code
def yJ3_checkFromToIndex_8c36e : MethodName := ⟨RJ3, "checkFromToIndex", "(IIILjava/util/function/BiFunction;)I"⟩
def RL : String := "ShadowRowsLaw"
abbrev cL_law : ByteArray := code
def yL_law : MethodName := ⟨RL, "law", "([I)Z"⟩
abbrev vwCl : List vw_C := [(RX0, TX0, 11), (RX1, TX1, 2), (RX2, TX2, 6), (RX3, TX3, 1), (RX4, TX4, 3), (RX5, TX5, 5), (RX6, TX6, 2), (RX7, TX7, 7), (RX8, TX8, 9), (RX9, TX9, 17)]
end
section
theorem dX0_init_0 : decode cX0_init 0 = .ok (.aload_n 0, 1) := by decide +kernel
theorem dX0_init_1 : decode cX0_init 1 = .ok (.invokespecial 3, 3) := by decide +kernel
theorem dX0_init_4 : decode cX0_init 4 = .ok (.aload_n 0, 1) := by decide +kernel
theorem dX0_init_5 : decode cX0_init 5 = .ok (.iconst 0, 1) := by decide +kernel
theorem dX0_init_6 : decode cX0_init 6 = .ok (.putfield 9, 3) := by decide +kernel
theorem dX0_init_9 : decode cX0_init 9 = .ok (.aload_n 0, 1) := by decide +kernel
theorem dX0_init_10 : decode cX0_init 10 = .ok (.bipush 6, 2) := by decide +kernel
theorem dX0_init_12 : decode cX0_init 12 = .ok (.newarray .int, 2) := by decide +kernel
theorem dX0_init_14 : decode cX0_init 14 = .ok (.putfield 15, 3) := by decide +kernel
theorem dX0_init_17 : decode cX0_init 17 = .ok (.aload_n 0, 1) := by decide +kernel
theorem dX0_init_18 : decode cX0_init 18 = .ok (.bipush 6, 2) := by decide +kernel
theorem dX0_init_20 : decode cX0_init 20 = .ok (.newarray .int, 2) := by decide +kernel
theorem dX0_init_22 : decode cX0_init 22 = .ok (.putfield 19, 3) := by decide +kernel
theorem dX0_init_25 : decode cX0_init 25 = .ok (.aload_n 0, 1) := by decide +kernel
theorem dX0_init_26 : decode cX0_init 26 = .ok (.bipush 6, 2) := by decide +kernel
theorem dX0_init_28 : decode cX0_init 28 = .ok (.newarray .int, 2) := by decide +kernel
theorem dX0_init_30 : decode cX0_init 30 = .ok (.putfield 22, 3) := by decide +kernel
theorem dX0_init_33 : decode cX0_init 33 = .ok (.aload_n 0, 1) := by decide +kernel
theorem dX0_init_34 : decode cX0_init 34 = .ok (.bipush 6, 2) := by decide +kernel
theorem dX0_init_36 : decode cX0_init 36 = .ok (.newarray .int, 2) := by decide +kernel
theorem dX0_init_38 : decode cX0_init 38 = .ok (.putfield 25, 3) := by decide +kernel
theorem dX0_init_41 : decode cX0_init 41 = .ok (.aload_n 0, 1) := by decide +kernel
theorem dX0_init_42 : decode cX0_init 42 = .ok (.bipush 10, 2) := by decide +kernel
theorem dX0_init_44 : decode cX0_init 44 = .ok (.newarray .int, 2) := by decide +kernel
theorem dX0_init_46 : decode cX0_init 46 = .ok (.putfield 28, 3) := by decide +kernel
theorem dX0_init_49 : decode cX0_init 49 = .ok (.aload_n 0, 1) := by decide +kernel
theorem dX0_init_50 : decode cX0_init 50 = .ok (.bipush 7, 2) := by decide +kernel
theorem dX0_init_52 : decode cX0_init 52 = .ok (.putfield 31, 3) := by decide +kernel
theorem dX0_init_55 : decode cX0_init 55 = .ok (.aload_n 0, 1) := by decide +kernel
theorem dX0_init_56 : decode cX0_init 56 = .ok (.sipush 360, 3) := by decide +kernel
theorem dX0_init_59 : decode cX0_init 59 = .ok (.newarray .int, 2) := by decide +kernel
theorem dX0_init_61 : decode cX0_init 61 = .ok (.putfield 34, 3) := by decide +kernel
theorem dX0_init_64 : decode cX0_init 64 = .ok (.aload_n 0, 1) := by decide +kernel
theorem dX0_init_65 : decode cX0_init 65 = .ok (.new 37, 3) := by decide +kernel
theorem dX0_init_68 : decode cX0_init 68 = .ok (.dup, 1) := by decide +kernel
theorem dX0_init_69 : decode cX0_init 69 = .ok (.invokespecial 39, 3) := by decide +kernel
theorem dX0_init_72 : decode cX0_init 72 = .ok (.putfield 40, 3) := by decide +kernel
theorem dX0_init_75 : decode cX0_init 75 = .ok (.aload_n 0, 1) := by decide +kernel
theorem dX0_init_76 : decode cX0_init 76 = .ok (.new 37, 3) := by decide +kernel
theorem dX0_init_79 : decode cX0_init 79 = .ok (.dup, 1) := by decide +kernel
theorem dX0_init_80 : decode cX0_init 80 = .ok (.invokespecial 39, 3) := by decide +kernel
theorem dX0_init_83 : decode cX0_init 83 = .ok (.putfield 44, 3) := by decide +kernel
theorem dX0_init_86 : decode cX0_init 86 = .ok (.aload_n 0, 1) := by decide +kernel
theorem dX0_init_87 : decode cX0_init 87 = .ok (.iconst 0, 1) := by decide +kernel
theorem dX0_init_88 : decode cX0_init 88 = .ok (.putfield 47, 3) := by decide +kernel
theorem dX0_init_91 : decode cX0_init 91 = .ok (.return_, 1) := by decide +kernel
theorem dX0_copyFrom_0 : decode cX0_copyFrom 0 = .ok (.aload_n 0, 1) := by decide +kernel
theorem dX0_copyFrom_1 : decode cX0_copyFrom 1 = .ok (.aload_n 1, 1) := by decide +kernel
theorem dX0_copyFrom_2 : decode cX0_copyFrom 2 = .ok (.getfield 9, 3) := by decide +kernel
theorem dX0_copyFrom_5 : decode cX0_copyFrom 5 = .ok (.putfield 9, 3) := by decide +kernel
theorem dX0_copyFrom_8 : decode cX0_copyFrom 8 = .ok (.aload_n 1, 1) := by decide +kernel
theorem dX0_copyFrom_9 : decode cX0_copyFrom 9 = .ok (.getfield 15, 3) := by decide +kernel
theorem dX0_copyFrom_12 : decode cX0_copyFrom 12 = .ok (.iconst 0, 1) := by decide +kernel
theorem dX0_copyFrom_13 : decode cX0_copyFrom 13 = .ok (.aload_n 0, 1) := by decide +kernel
theorem dX0_copyFrom_14 : decode cX0_copyFrom 14 = .ok (.getfield 15, 3) := by decide +kernel
theorem dX0_copyFrom_17 : decode cX0_copyFrom 17 = .ok (.iconst 0, 1) := by decide +kernel
theorem dX0_copyFrom_18 : decode cX0_copyFrom 18 = .ok (.bipush 6, 2) := by decide +kernel
theorem dX0_copyFrom_20 : decode cX0_copyFrom 20 = .ok (.invokestatic 50, 3) := by decide +kernel
theorem dX0_copyFrom_23 : decode cX0_copyFrom 23 = .ok (.aload_n 1, 1) := by decide +kernel
theorem dX0_copyFrom_24 : decode cX0_copyFrom 24 = .ok (.getfield 19, 3) := by decide +kernel
theorem dX0_copyFrom_27 : decode cX0_copyFrom 27 = .ok (.iconst 0, 1) := by decide +kernel
theorem dX0_copyFrom_28 : decode cX0_copyFrom 28 = .ok (.aload_n 0, 1) := by decide +kernel
theorem dX0_copyFrom_29 : decode cX0_copyFrom 29 = .ok (.getfield 19, 3) := by decide +kernel
theorem dX0_copyFrom_32 : decode cX0_copyFrom 32 = .ok (.iconst 0, 1) := by decide +kernel
theorem dX0_copyFrom_33 : decode cX0_copyFrom 33 = .ok (.bipush 6, 2) := by decide +kernel
theorem dX0_copyFrom_35 : decode cX0_copyFrom 35 = .ok (.invokestatic 50, 3) := by decide +kernel
theorem dX0_copyFrom_38 : decode cX0_copyFrom 38 = .ok (.aload_n 1, 1) := by decide +kernel
theorem dX0_copyFrom_39 : decode cX0_copyFrom 39 = .ok (.getfield 22, 3) := by decide +kernel
theorem dX0_copyFrom_42 : decode cX0_copyFrom 42 = .ok (.iconst 0, 1) := by decide +kernel
theorem dX0_copyFrom_43 : decode cX0_copyFrom 43 = .ok (.aload_n 0, 1) := by decide +kernel
theorem dX0_copyFrom_44 : decode cX0_copyFrom 44 = .ok (.getfield 22, 3) := by decide +kernel
theorem dX0_copyFrom_47 : decode cX0_copyFrom 47 = .ok (.iconst 0, 1) := by decide +kernel
theorem dX0_copyFrom_48 : decode cX0_copyFrom 48 = .ok (.bipush 6, 2) := by decide +kernel
theorem dX0_copyFrom_50 : decode cX0_copyFrom 50 = .ok (.invokestatic 50, 3) := by decide +kernel
theorem dX0_copyFrom_53 : decode cX0_copyFrom 53 = .ok (.aload_n 1, 1) := by decide +kernel
theorem dX0_copyFrom_54 : decode cX0_copyFrom 54 = .ok (.getfield 25, 3) := by decide +kernel
theorem dX0_copyFrom_57 : decode cX0_copyFrom 57 = .ok (.iconst 0, 1) := by decide +kernel
theorem dX0_copyFrom_58 : decode cX0_copyFrom 58 = .ok (.aload_n 0, 1) := by decide +kernel
theorem dX0_copyFrom_59 : decode cX0_copyFrom 59 = .ok (.getfield 25, 3) := by decide +kernel
theorem dX0_copyFrom_62 : decode cX0_copyFrom 62 = .ok (.iconst 0, 1) := by decide +kernel
theorem dX0_copyFrom_63 : decode cX0_copyFrom 63 = .ok (.bipush 6, 2) := by decide +kernel
theorem dX0_copyFrom_65 : decode cX0_copyFrom 65 = .ok (.invokestatic 50, 3) := by decide +kernel
theorem dX0_copyFrom_68 : decode cX0_copyFrom 68 = .ok (.aload_n 1, 1) := by decide +kernel
theorem dX0_copyFrom_69 : decode cX0_copyFrom 69 = .ok (.getfield 28, 3) := by decide +kernel
theorem dX0_copyFrom_72 : decode cX0_copyFrom 72 = .ok (.iconst 0, 1) := by decide +kernel
theorem dX0_copyFrom_73 : decode cX0_copyFrom 73 = .ok (.aload_n 0, 1) := by decide +kernel
theorem dX0_copyFrom_74 : decode cX0_copyFrom 74 = .ok (.getfield 28, 3) := by decide +kernel
theorem dX0_copyFrom_77 : decode cX0_copyFrom 77 = .ok (.iconst 0, 1) := by decide +kernel
theorem dX0_copyFrom_78 : decode cX0_copyFrom 78 = .ok (.bipush 10, 2) := by decide +kernel
theorem dX0_copyFrom_80 : decode cX0_copyFrom 80 = .ok (.invokestatic 50, 3) := by decide +kernel
theorem dX0_copyFrom_83 : decode cX0_copyFrom 83 = .ok (.aload_n 0, 1) := by decide +kernel
theorem dX0_copyFrom_84 : decode cX0_copyFrom 84 = .ok (.aload_n 1, 1) := by decide +kernel
theorem dX0_copyFrom_85 : decode cX0_copyFrom 85 = .ok (.getfield 31, 3) := by decide +kernel
theorem dX0_copyFrom_88 : decode cX0_copyFrom 88 = .ok (.putfield 31, 3) := by decide +kernel
theorem dX0_copyFrom_91 : decode cX0_copyFrom 91 = .ok (.aload_n 1, 1) := by decide +kernel
theorem dX0_copyFrom_92 : decode cX0_copyFrom 92 = .ok (.getfield 34, 3) := by decide +kernel
theorem dX0_copyFrom_95 : decode cX0_copyFrom 95 = .ok (.iconst 0, 1) := by decide +kernel
theorem dX0_copyFrom_96 : decode cX0_copyFrom 96 = .ok (.aload_n 0, 1) := by decide +kernel
theorem dX0_copyFrom_97 : decode cX0_copyFrom 97 = .ok (.getfield 34, 3) := by decide +kernel
theorem dX0_copyFrom_100 : decode cX0_copyFrom 100 = .ok (.iconst 0, 1) := by decide +kernel
theorem dX0_copyFrom_101 : decode cX0_copyFrom 101 = .ok (.sipush 360, 3) := by decide +kernel
theorem dX0_copyFrom_104 : decode cX0_copyFrom 104 = .ok (.invokestatic 50, 3) := by decide +kernel
theorem dX0_copyFrom_107 : decode cX0_copyFrom 107 = .ok (.aload_n 0, 1) := by decide +kernel
theorem dX0_copyFrom_108 : decode cX0_copyFrom 108 = .ok (.getfield 40, 3) := by decide +kernel
theorem dX0_copyFrom_111 : decode cX0_copyFrom 111 = .ok (.aload_n 1, 1) := by decide +kernel
theorem dX0_copyFrom_112 : decode cX0_copyFrom 112 = .ok (.getfield 40, 3) := by decide +kernel
theorem dX0_copyFrom_115 : decode cX0_copyFrom 115 = .ok (.invokevirtual 56, 3) := by decide +kernel
theorem dX0_copyFrom_118 : decode cX0_copyFrom 118 = .ok (.aload_n 0, 1) := by decide +kernel
theorem dX0_copyFrom_119 : decode cX0_copyFrom 119 = .ok (.getfield 44, 3) := by decide +kernel
theorem dX0_copyFrom_122 : decode cX0_copyFrom 122 = .ok (.aload_n 1, 1) := by decide +kernel
theorem dX0_copyFrom_123 : decode cX0_copyFrom 123 = .ok (.getfield 44, 3) := by decide +kernel
theorem dX0_copyFrom_126 : decode cX0_copyFrom 126 = .ok (.invokevirtual 56, 3) := by decide +kernel
theorem dX0_copyFrom_129 : decode cX0_copyFrom 129 = .ok (.aload_n 0, 1) := by decide +kernel
theorem dX0_copyFrom_130 : decode cX0_copyFrom 130 = .ok (.aload_n 1, 1) := by decide +kernel
theorem dX0_copyFrom_131 : decode cX0_copyFrom 131 = .ok (.getfield 47, 3) := by decide +kernel
theorem dX0_copyFrom_134 : decode cX0_copyFrom 134 = .ok (.putfield 47, 3) := by decide +kernel
theorem dX0_copyFrom_137 : decode cX0_copyFrom 137 = .ok (.return_, 1) := by decide +kernel
theorem dX0_hasRow_0 : decode cX0_hasRow 0 = .ok (.iload_n 1, 1) := by decide +kernel
theorem dX0_hasRow_1 : decode cX0_hasRow 1 = .ok (.iconst 0, 1) := by decide +kernel
theorem dX0_hasRow_2 : decode cX0_hasRow 2 = .ok (.aload_n 0, 1) := by decide +kernel
theorem dX0_hasRow_3 : decode cX0_hasRow 3 = .ok (.getfield 9, 3) := by decide +kernel
theorem dX0_hasRow_6 : decode cX0_hasRow 6 = .ok (.iconst 1, 1) := by decide +kernel
theorem dX0_hasRow_7 : decode cX0_hasRow 7 = .ok (.isub, 1) := by decide +kernel
theorem dX0_hasRow_8 : decode cX0_hasRow 8 = .ok (.invokestatic 60, 3) := by decide +kernel
theorem dX0_hasRow_11 : decode cX0_hasRow 11 = .ok (.ifCond .ne 7, 3) := by decide +kernel
theorem dX0_hasRow_14 : decode cX0_hasRow 14 = .ok (.iconst 1, 1) := by decide +kernel
theorem dX0_hasRow_15 : decode cX0_hasRow 15 = .ok (.goto 4, 3) := by decide +kernel
theorem dX0_hasRow_18 : decode cX0_hasRow 18 = .ok (.iconst 0, 1) := by decide +kernel
theorem dX0_hasRow_19 : decode cX0_hasRow 19 = .ok (.ireturn, 1) := by decide +kernel
theorem dX0_rightAt_0 : decode cX0_rightAt 0 = .ok (.iload_n 0, 1) := by decide +kernel
theorem dX0_rightAt_1 : decode cX0_rightAt 1 = .ok (.bipush 6, 2) := by decide +kernel
theorem dX0_rightAt_3 : decode cX0_rightAt 3 = .ok (.imul, 1) := by decide +kernel
theorem dX0_rightAt_4 : decode cX0_rightAt 4 = .ok (.iload_n 1, 1) := by decide +kernel
theorem dX0_rightAt_5 : decode cX0_rightAt 5 = .ok (.iadd, 1) := by decide +kernel
theorem dX0_rightAt_6 : decode cX0_rightAt 6 = .ok (.bipush 10, 2) := by decide +kernel
theorem dX0_rightAt_8 : decode cX0_rightAt 8 = .ok (.imul, 1) := by decide +kernel
theorem dX0_rightAt_9 : decode cX0_rightAt 9 = .ok (.iload_n 2, 1) := by decide +kernel
theorem dX0_rightAt_10 : decode cX0_rightAt 10 = .ok (.iadd, 1) := by decide +kernel
theorem dX0_rightAt_11 : decode cX0_rightAt 11 = .ok (.ireturn, 1) := by decide +kernel
theorem dX0_offersOf_0 : decode cX0_offersOf 0 = .ok (.iload_n 1, 1) := by decide +kernel
theorem dX0_offersOf_1 : decode cX0_offersOf 1 = .ok (.ifCond .ne 10, 3) := by decide +kernel
theorem dX0_offersOf_4 : decode cX0_offersOf 4 = .ok (.aload_n 0, 1) := by decide +kernel
theorem dX0_offersOf_5 : decode cX0_offersOf 5 = .ok (.getfield 40, 3) := by decide +kernel
theorem dX0_offersOf_8 : decode cX0_offersOf 8 = .ok (.goto 7, 3) := by decide +kernel
theorem dX0_offersOf_11 : decode cX0_offersOf 11 = .ok (.aload_n 0, 1) := by decide +kernel
theorem dX0_offersOf_12 : decode cX0_offersOf 12 = .ok (.getfield 44, 3) := by decide +kernel
theorem dX0_offersOf_15 : decode cX0_offersOf 15 = .ok (.areturn, 1) := by decide +kernel
theorem dX0_build_0 : decode cX0_build 0 = .ok (.iload_n 1, 1) := by decide +kernel
theorem dX0_build_1 : decode cX0_build 1 = .ok (.iconst 0, 1) := by decide +kernel
theorem dX0_build_2 : decode cX0_build 2 = .ok (.sipush 200, 3) := by decide +kernel
theorem dX0_build_5 : decode cX0_build 5 = .ok (.invokestatic 60, 3) := by decide +kernel
theorem dX0_build_8 : decode cX0_build 8 = .ok (.ifCond .ne 22, 3) := by decide +kernel
theorem dX0_build_11 : decode cX0_build 11 = .ok (.iload_n 2, 1) := by decide +kernel
theorem dX0_build_12 : decode cX0_build 12 = .ok (.iconst 1, 1) := by decide +kernel
theorem dX0_build_13 : decode cX0_build 13 = .ok (.bipush 20, 2) := by decide +kernel
theorem dX0_build_15 : decode cX0_build 15 = .ok (.invokestatic 60, 3) := by decide +kernel
theorem dX0_build_18 : decode cX0_build 18 = .ok (.ifCond .ne 12, 3) := by decide +kernel
theorem dX0_build_21 : decode cX0_build 21 = .ok (.iload_n 3, 1) := by decide +kernel
theorem dX0_build_22 : decode cX0_build 22 = .ok (.iconst 0, 1) := by decide +kernel
theorem dX0_build_23 : decode cX0_build 23 = .ok (.iconst 4, 1) := by decide +kernel
theorem dX0_build_24 : decode cX0_build 24 = .ok (.invokestatic 60, 3) := by decide +kernel
theorem dX0_build_27 : decode cX0_build 27 = .ok (.ifCond .eq 6, 3) := by decide +kernel
theorem dX0_build_30 : decode cX0_build 30 = .ok (.bipush (-2), 2) := by decide +kernel
theorem dX0_build_32 : decode cX0_build 32 = .ok (.ireturn, 1) := by decide +kernel
theorem dX0_build_33 : decode cX0_build 33 = .ok (.aload_n 0, 1) := by decide +kernel
theorem dX0_build_34 : decode cX0_build 34 = .ok (.getfield 9, 3) := by decide +kernel
theorem dX0_build_37 : decode cX0_build 37 = .ok (.bipush 6, 2) := by decide +kernel
theorem dX0_build_39 : decode cX0_build 39 = .ok (.if_icmp .lt 6, 3) := by decide +kernel
theorem dX0_build_42 : decode cX0_build 42 = .ok (.bipush (-4), 2) := by decide +kernel
theorem dX0_build_44 : decode cX0_build 44 = .ok (.ireturn, 1) := by decide +kernel
theorem dX0_build_45 : decode cX0_build 45 = .ok (.aload_n 0, 1) := by decide +kernel
theorem dX0_build_46 : decode cX0_build 46 = .ok (.iload_n 1, 1) := by decide +kernel
theorem dX0_build_47 : decode cX0_build 47 = .ok (.invokevirtual 64, 3) := by decide +kernel
theorem dX0_build_50 : decode cX0_build 50 = .ok (.ifCond .eq 6, 3) := by decide +kernel
theorem dX0_build_53 : decode cX0_build 53 = .ok (.bipush (-5), 2) := by decide +kernel
theorem dX0_build_55 : decode cX0_build 55 = .ok (.ireturn, 1) := by decide +kernel
theorem dX0_build_56 : decode cX0_build 56 = .ok (.aload_n 0, 1) := by decide +kernel
theorem dX0_build_57 : decode cX0_build 57 = .ok (.getfield 9, 3) := by decide +kernel
theorem dX0_build_60 : decode cX0_build 60 = .ok (.istore 4, 2) := by decide +kernel
theorem dX0_build_62 : decode cX0_build 62 = .ok (.aload_n 0, 1) := by decide +kernel
theorem dX0_build_63 : decode cX0_build 63 = .ok (.getfield 15, 3) := by decide +kernel
theorem dX0_build_66 : decode cX0_build 66 = .ok (.iload 4, 2) := by decide +kernel
theorem dX0_build_68 : decode cX0_build 68 = .ok (.iload_n 1, 1) := by decide +kernel
theorem dX0_build_69 : decode cX0_build 69 = .ok (.iastore, 1) := by decide +kernel
theorem dX0_build_70 : decode cX0_build 70 = .ok (.aload_n 0, 1) := by decide +kernel
theorem dX0_build_71 : decode cX0_build 71 = .ok (.getfield 19, 3) := by decide +kernel
theorem dX0_build_74 : decode cX0_build 74 = .ok (.iload 4, 2) := by decide +kernel
theorem dX0_build_76 : decode cX0_build 76 = .ok (.iload_n 2, 1) := by decide +kernel
theorem dX0_build_77 : decode cX0_build 77 = .ok (.iastore, 1) := by decide +kernel
theorem dX0_build_78 : decode cX0_build 78 = .ok (.aload_n 0, 1) := by decide +kernel
theorem dX0_build_79 : decode cX0_build 79 = .ok (.getfield 22, 3) := by decide +kernel
theorem dX0_build_82 : decode cX0_build 82 = .ok (.iload 4, 2) := by decide +kernel
theorem dX0_build_84 : decode cX0_build 84 = .ok (.iload_n 3, 1) := by decide +kernel
theorem dX0_build_85 : decode cX0_build 85 = .ok (.iastore, 1) := by decide +kernel
theorem dX0_build_86 : decode cX0_build 86 = .ok (.aload_n 0, 1) := by decide +kernel
theorem dX0_build_87 : decode cX0_build 87 = .ok (.dup, 1) := by decide +kernel
theorem dX0_build_88 : decode cX0_build 88 = .ok (.getfield 9, 3) := by decide +kernel
theorem dX0_build_91 : decode cX0_build 91 = .ok (.iconst 1, 1) := by decide +kernel
theorem dX0_build_92 : decode cX0_build 92 = .ok (.iadd, 1) := by decide +kernel
theorem dX0_build_93 : decode cX0_build 93 = .ok (.putfield 9, 3) := by decide +kernel
theorem dX0_build_96 : decode cX0_build 96 = .ok (.iload 4, 2) := by decide +kernel
theorem dX0_build_98 : decode cX0_build 98 = .ok (.ireturn, 1) := by decide +kernel
theorem dX0_isTaken_0 : decode cX0_isTaken 0 = .ok (.iconst 0, 1) := by decide +kernel
theorem dX0_isTaken_1 : decode cX0_isTaken 1 = .ok (.istore_n 2, 1) := by decide +kernel
theorem dX0_isTaken_2 : decode cX0_isTaken 2 = .ok (.iload_n 2, 1) := by decide +kernel
theorem dX0_isTaken_3 : decode cX0_isTaken 3 = .ok (.aload_n 0, 1) := by decide +kernel
theorem dX0_isTaken_4 : decode cX0_isTaken 4 = .ok (.getfield 9, 3) := by decide +kernel
theorem dX0_isTaken_7 : decode cX0_isTaken 7 = .ok (.if_icmp .ge 21, 3) := by decide +kernel
theorem dX0_isTaken_10 : decode cX0_isTaken 10 = .ok (.aload_n 0, 1) := by decide +kernel
theorem dX0_isTaken_11 : decode cX0_isTaken 11 = .ok (.getfield 15, 3) := by decide +kernel
theorem dX0_isTaken_14 : decode cX0_isTaken 14 = .ok (.iload_n 2, 1) := by decide +kernel
theorem dX0_isTaken_15 : decode cX0_isTaken 15 = .ok (.iaload, 1) := by decide +kernel
theorem dX0_isTaken_16 : decode cX0_isTaken 16 = .ok (.iload_n 1, 1) := by decide +kernel
theorem dX0_isTaken_17 : decode cX0_isTaken 17 = .ok (.if_icmp .ne 5, 3) := by decide +kernel
theorem dX0_isTaken_20 : decode cX0_isTaken 20 = .ok (.iconst 1, 1) := by decide +kernel
theorem dX0_isTaken_21 : decode cX0_isTaken 21 = .ok (.ireturn, 1) := by decide +kernel
theorem dX0_isTaken_22 : decode cX0_isTaken 22 = .ok (.iinc 2 1, 3) := by decide +kernel
theorem dX0_isTaken_25 : decode cX0_isTaken 25 = .ok (.goto (-23), 3) := by decide +kernel
theorem dX0_isTaken_28 : decode cX0_isTaken 28 = .ok (.iconst 0, 1) := by decide +kernel
theorem dX0_isTaken_29 : decode cX0_isTaken 29 = .ok (.ireturn, 1) := by decide +kernel
theorem dX0_changeTilt_0 : decode cX0_changeTilt 0 = .ok (.aload_n 0, 1) := by decide +kernel
theorem dX0_changeTilt_1 : decode cX0_changeTilt 1 = .ok (.iload_n 1, 1) := by decide +kernel
theorem dX0_changeTilt_2 : decode cX0_changeTilt 2 = .ok (.invokevirtual 68, 3) := by decide +kernel
theorem dX0_changeTilt_5 : decode cX0_changeTilt 5 = .ok (.ifCond .ne 5, 3) := by decide +kernel
theorem dX0_changeTilt_8 : decode cX0_changeTilt 8 = .ok (.iconst (-1), 1) := by decide +kernel
theorem dX0_changeTilt_9 : decode cX0_changeTilt 9 = .ok (.ireturn, 1) := by decide +kernel
theorem dX0_changeTilt_10 : decode cX0_changeTilt 10 = .ok (.iload_n 2, 1) := by decide +kernel
theorem dX0_changeTilt_11 : decode cX0_changeTilt 11 = .ok (.iconst 0, 1) := by decide +kernel
theorem dX0_changeTilt_12 : decode cX0_changeTilt 12 = .ok (.iconst 4, 1) := by decide +kernel
theorem dX0_changeTilt_13 : decode cX0_changeTilt 13 = .ok (.invokestatic 60, 3) := by decide +kernel
theorem dX0_changeTilt_16 : decode cX0_changeTilt 16 = .ok (.ifCond .eq 6, 3) := by decide +kernel
theorem dX0_changeTilt_19 : decode cX0_changeTilt 19 = .ok (.bipush (-2), 2) := by decide +kernel
theorem dX0_changeTilt_21 : decode cX0_changeTilt 21 = .ok (.ireturn, 1) := by decide +kernel
theorem dX0_changeTilt_22 : decode cX0_changeTilt 22 = .ok (.aload_n 0, 1) := by decide +kernel
theorem dX0_changeTilt_23 : decode cX0_changeTilt 23 = .ok (.getfield 22, 3) := by decide +kernel
theorem dX0_changeTilt_26 : decode cX0_changeTilt 26 = .ok (.iload_n 1, 1) := by decide +kernel
theorem dX0_changeTilt_27 : decode cX0_changeTilt 27 = .ok (.iaload, 1) := by decide +kernel
theorem dX0_changeTilt_28 : decode cX0_changeTilt 28 = .ok (.istore_n 3, 1) := by decide +kernel
theorem dX0_changeTilt_29 : decode cX0_changeTilt 29 = .ok (.aload_n 0, 1) := by decide +kernel
theorem dX0_changeTilt_30 : decode cX0_changeTilt 30 = .ok (.getfield 22, 3) := by decide +kernel
theorem dX0_changeTilt_33 : decode cX0_changeTilt 33 = .ok (.iload_n 1, 1) := by decide +kernel
theorem dX0_changeTilt_34 : decode cX0_changeTilt 34 = .ok (.iload_n 2, 1) := by decide +kernel
theorem dX0_changeTilt_35 : decode cX0_changeTilt 35 = .ok (.iastore, 1) := by decide +kernel
theorem dX0_changeTilt_36 : decode cX0_changeTilt 36 = .ok (.iload_n 3, 1) := by decide +kernel
theorem dX0_changeTilt_37 : decode cX0_changeTilt 37 = .ok (.ireturn, 1) := by decide +kernel
theorem dX0_changeWind_0 : decode cX0_changeWind 0 = .ok (.iload_n 1, 1) := by decide +kernel
theorem dX0_changeWind_1 : decode cX0_changeWind 1 = .ok (.invokestatic 71, 3) := by decide +kernel
theorem dX0_changeWind_4 : decode cX0_changeWind 4 = .ok (.ifCond .ne 5, 3) := by decide +kernel
theorem dX0_changeWind_7 : decode cX0_changeWind 7 = .ok (.iconst (-1), 1) := by decide +kernel
theorem dX0_changeWind_8 : decode cX0_changeWind 8 = .ok (.ireturn, 1) := by decide +kernel
theorem dX0_changeWind_9 : decode cX0_changeWind 9 = .ok (.iload_n 2, 1) := by decide +kernel
theorem dX0_changeWind_10 : decode cX0_changeWind 10 = .ok (.iconst 0, 1) := by decide +kernel
theorem dX0_changeWind_11 : decode cX0_changeWind 11 = .ok (.bipush 9, 2) := by decide +kernel
theorem dX0_changeWind_13 : decode cX0_changeWind 13 = .ok (.invokestatic 60, 3) := by decide +kernel
theorem dX0_changeWind_16 : decode cX0_changeWind 16 = .ok (.ifCond .eq 6, 3) := by decide +kernel
theorem dX0_changeWind_19 : decode cX0_changeWind 19 = .ok (.bipush (-2), 2) := by decide +kernel
theorem dX0_changeWind_21 : decode cX0_changeWind 21 = .ok (.ireturn, 1) := by decide +kernel
theorem dX0_changeWind_22 : decode cX0_changeWind 22 = .ok (.aload_n 0, 1) := by decide +kernel
theorem dX0_changeWind_23 : decode cX0_changeWind 23 = .ok (.getfield 28, 3) := by decide +kernel
theorem dX0_changeWind_26 : decode cX0_changeWind 26 = .ok (.iload_n 1, 1) := by decide +kernel
theorem dX0_changeWind_27 : decode cX0_changeWind 27 = .ok (.iaload, 1) := by decide +kernel
theorem dX0_changeWind_28 : decode cX0_changeWind 28 = .ok (.istore_n 3, 1) := by decide +kernel
theorem dX0_changeWind_29 : decode cX0_changeWind 29 = .ok (.aload_n 0, 1) := by decide +kernel
theorem dX0_changeWind_30 : decode cX0_changeWind 30 = .ok (.getfield 28, 3) := by decide +kernel
theorem dX0_changeWind_33 : decode cX0_changeWind 33 = .ok (.iload_n 1, 1) := by decide +kernel
theorem dX0_changeWind_34 : decode cX0_changeWind 34 = .ok (.iload_n 2, 1) := by decide +kernel
theorem dX0_changeWind_35 : decode cX0_changeWind 35 = .ok (.iastore, 1) := by decide +kernel
theorem dX0_changeWind_36 : decode cX0_changeWind 36 = .ok (.iload_n 3, 1) := by decide +kernel
theorem dX0_changeWind_37 : decode cX0_changeWind 37 = .ok (.ireturn, 1) := by decide +kernel
theorem dX0_changeStow_0 : decode cX0_changeStow 0 = .ok (.iload_n 1, 1) := by decide +kernel
theorem dX0_changeStow_1 : decode cX0_changeStow 1 = .ok (.iconst 1, 1) := by decide +kernel
theorem dX0_changeStow_2 : decode cX0_changeStow 2 = .ok (.bipush 10, 2) := by decide +kernel
theorem dX0_changeStow_4 : decode cX0_changeStow 4 = .ok (.invokestatic 60, 3) := by decide +kernel
theorem dX0_changeStow_7 : decode cX0_changeStow 7 = .ok (.ifCond .eq 6, 3) := by decide +kernel
theorem dX0_changeStow_10 : decode cX0_changeStow 10 = .ok (.bipush (-2), 2) := by decide +kernel
theorem dX0_changeStow_12 : decode cX0_changeStow 12 = .ok (.ireturn, 1) := by decide +kernel
theorem dX0_changeStow_13 : decode cX0_changeStow 13 = .ok (.aload_n 0, 1) := by decide +kernel
theorem dX0_changeStow_14 : decode cX0_changeStow 14 = .ok (.getfield 31, 3) := by decide +kernel
theorem dX0_changeStow_17 : decode cX0_changeStow 17 = .ok (.istore_n 2, 1) := by decide +kernel
theorem dX0_changeStow_18 : decode cX0_changeStow 18 = .ok (.aload_n 0, 1) := by decide +kernel
theorem dX0_changeStow_19 : decode cX0_changeStow 19 = .ok (.iload_n 1, 1) := by decide +kernel
theorem dX0_changeStow_20 : decode cX0_changeStow 20 = .ok (.putfield 31, 3) := by decide +kernel
theorem dX0_changeStow_23 : decode cX0_changeStow 23 = .ok (.iload_n 2, 1) := by decide +kernel
theorem dX0_changeStow_24 : decode cX0_changeStow 24 = .ok (.ireturn, 1) := by decide +kernel
theorem dX0_rightError_0 : decode cX0_rightError 0 = .ok (.aload_n 0, 1) := by decide +kernel
theorem dX0_rightError_1 : decode cX0_rightError 1 = .ok (.iload_n 1, 1) := by decide +kernel
theorem dX0_rightError_2 : decode cX0_rightError 2 = .ok (.invokevirtual 68, 3) := by decide +kernel
theorem dX0_rightError_5 : decode cX0_rightError 5 = .ok (.ifCond .eq 18, 3) := by decide +kernel
theorem dX0_rightError_8 : decode cX0_rightError 8 = .ok (.aload_n 0, 1) := by decide +kernel
theorem dX0_rightError_9 : decode cX0_rightError 9 = .ok (.iload_n 2, 1) := by decide +kernel
theorem dX0_rightError_10 : decode cX0_rightError 10 = .ok (.invokevirtual 68, 3) := by decide +kernel
theorem dX0_rightError_13 : decode cX0_rightError 13 = .ok (.ifCond .eq 10, 3) := by decide +kernel
theorem dX0_rightError_16 : decode cX0_rightError 16 = .ok (.iload_n 3, 1) := by decide +kernel
theorem dX0_rightError_17 : decode cX0_rightError 17 = .ok (.invokestatic 71, 3) := by decide +kernel
theorem dX0_rightError_20 : decode cX0_rightError 20 = .ok (.ifCond .ne 5, 3) := by decide +kernel
theorem dX0_rightError_23 : decode cX0_rightError 23 = .ok (.iconst (-1), 1) := by decide +kernel
theorem dX0_rightError_24 : decode cX0_rightError 24 = .ok (.ireturn, 1) := by decide +kernel
theorem dX0_rightError_25 : decode cX0_rightError 25 = .ok (.iload_n 1, 1) := by decide +kernel
theorem dX0_rightError_26 : decode cX0_rightError 26 = .ok (.iload_n 2, 1) := by decide +kernel
theorem dX0_rightError_27 : decode cX0_rightError 27 = .ok (.if_icmp .eq 15, 3) := by decide +kernel
theorem dX0_rightError_30 : decode cX0_rightError 30 = .ok (.iload 4, 2) := by decide +kernel
theorem dX0_rightError_32 : decode cX0_rightError 32 = .ok (.iconst 0, 1) := by decide +kernel
theorem dX0_rightError_33 : decode cX0_rightError 33 = .ok (.sipush 999, 3) := by decide +kernel
theorem dX0_rightError_36 : decode cX0_rightError 36 = .ok (.invokestatic 60, 3) := by decide +kernel
theorem dX0_rightError_39 : decode cX0_rightError 39 = .ok (.ifCond .eq 8, 3) := by decide +kernel
theorem dX0_rightError_42 : decode cX0_rightError 42 = .ok (.bipush (-2), 2) := by decide +kernel
theorem dX0_rightError_44 : decode cX0_rightError 44 = .ok (.goto 4, 3) := by decide +kernel
theorem dX0_rightError_47 : decode cX0_rightError 47 = .ok (.iconst 0, 1) := by decide +kernel
theorem dX0_rightError_48 : decode cX0_rightError 48 = .ok (.ireturn, 1) := by decide +kernel
theorem dX0_changeRight_0 : decode cX0_changeRight 0 = .ok (.aload_n 0, 1) := by decide +kernel
theorem dX0_changeRight_1 : decode cX0_changeRight 1 = .ok (.iload_n 1, 1) := by decide +kernel
theorem dX0_changeRight_2 : decode cX0_changeRight 2 = .ok (.iload_n 2, 1) := by decide +kernel
theorem dX0_changeRight_3 : decode cX0_changeRight 3 = .ok (.iload_n 3, 1) := by decide +kernel
theorem dX0_changeRight_4 : decode cX0_changeRight 4 = .ok (.iload 4, 2) := by decide +kernel
theorem dX0_changeRight_6 : decode cX0_changeRight 6 = .ok (.invokevirtual 74, 3) := by decide +kernel
theorem dX0_changeRight_9 : decode cX0_changeRight 9 = .ok (.istore 5, 2) := by decide +kernel
theorem dX0_changeRight_11 : decode cX0_changeRight 11 = .ok (.iload 5, 2) := by decide +kernel
theorem dX0_changeRight_13 : decode cX0_changeRight 13 = .ok (.ifCond .eq 6, 3) := by decide +kernel
theorem dX0_changeRight_16 : decode cX0_changeRight 16 = .ok (.iload 5, 2) := by decide +kernel
theorem dX0_changeRight_18 : decode cX0_changeRight 18 = .ok (.ireturn, 1) := by decide +kernel
theorem dX0_changeRight_19 : decode cX0_changeRight 19 = .ok (.iload_n 1, 1) := by decide +kernel
theorem dX0_changeRight_20 : decode cX0_changeRight 20 = .ok (.iload_n 2, 1) := by decide +kernel
theorem dX0_changeRight_21 : decode cX0_changeRight 21 = .ok (.iload_n 3, 1) := by decide +kernel
theorem dX0_changeRight_22 : decode cX0_changeRight 22 = .ok (.invokestatic 78, 3) := by decide +kernel
theorem dX0_changeRight_25 : decode cX0_changeRight 25 = .ok (.istore 6, 2) := by decide +kernel
theorem dX0_changeRight_27 : decode cX0_changeRight 27 = .ok (.aload_n 0, 1) := by decide +kernel
theorem dX0_changeRight_28 : decode cX0_changeRight 28 = .ok (.getfield 34, 3) := by decide +kernel
theorem dX0_changeRight_31 : decode cX0_changeRight 31 = .ok (.iload 6, 2) := by decide +kernel
theorem dX0_changeRight_33 : decode cX0_changeRight 33 = .ok (.iaload, 1) := by decide +kernel
theorem dX0_changeRight_34 : decode cX0_changeRight 34 = .ok (.istore 7, 2) := by decide +kernel
theorem dX0_changeRight_36 : decode cX0_changeRight 36 = .ok (.aload_n 0, 1) := by decide +kernel
theorem dX0_changeRight_37 : decode cX0_changeRight 37 = .ok (.getfield 34, 3) := by decide +kernel
theorem dX0_changeRight_40 : decode cX0_changeRight 40 = .ok (.iload 6, 2) := by decide +kernel
theorem dX0_changeRight_42 : decode cX0_changeRight 42 = .ok (.iload 4, 2) := by decide +kernel
theorem dX0_changeRight_44 : decode cX0_changeRight 44 = .ok (.iastore, 1) := by decide +kernel
theorem dX0_changeRight_45 : decode cX0_changeRight 45 = .ok (.iload 7, 2) := by decide +kernel
theorem dX0_changeRight_47 : decode cX0_changeRight 47 = .ok (.ireturn, 1) := by decide +kernel
theorem dX1_init_0 : decode cX1_init 0 = .ok (.aload_n 0, 1) := by decide +kernel
theorem dX1_init_1 : decode cX1_init 1 = .ok (.invokespecial 3, 3) := by decide +kernel
theorem dX1_init_4 : decode cX1_init 4 = .ok (.aload_n 0, 1) := by decide +kernel
theorem dX1_init_5 : decode cX1_init 5 = .ok (.iconst 0, 1) := by decide +kernel
theorem dX1_init_6 : decode cX1_init 6 = .ok (.putfield 9, 3) := by decide +kernel
theorem dX1_init_9 : decode cX1_init 9 = .ok (.aload_n 0, 1) := by decide +kernel
theorem dX1_init_10 : decode cX1_init 10 = .ok (.bipush 7, 2) := by decide +kernel
theorem dX1_init_12 : decode cX1_init 12 = .ok (.anewarray 15, 3) := by decide +kernel
theorem dX1_init_15 : decode cX1_init 15 = .ok (.putfield 17, 3) := by decide +kernel
theorem dX1_init_18 : decode cX1_init 18 = .ok (.iconst 0, 1) := by decide +kernel
theorem dX1_init_19 : decode cX1_init 19 = .ok (.istore_n 1, 1) := by decide +kernel
theorem dX1_init_20 : decode cX1_init 20 = .ok (.iload_n 1, 1) := by decide +kernel
theorem dX1_init_21 : decode cX1_init 21 = .ok (.bipush 6, 2) := by decide +kernel
theorem dX1_init_23 : decode cX1_init 23 = .ok (.if_icmp .gt 22, 3) := by decide +kernel
theorem dX1_init_26 : decode cX1_init 26 = .ok (.aload_n 0, 1) := by decide +kernel
theorem dX1_init_27 : decode cX1_init 27 = .ok (.getfield 17, 3) := by decide +kernel
theorem dX1_init_30 : decode cX1_init 30 = .ok (.iload_n 1, 1) := by decide +kernel
theorem dX1_init_31 : decode cX1_init 31 = .ok (.new 15, 3) := by decide +kernel
theorem dX1_init_34 : decode cX1_init 34 = .ok (.dup, 1) := by decide +kernel
theorem dX1_init_35 : decode cX1_init 35 = .ok (.invokespecial 21, 3) := by decide +kernel
theorem dX1_init_38 : decode cX1_init 38 = .ok (.aastore, 1) := by decide +kernel
theorem dX1_init_39 : decode cX1_init 39 = .ok (.iinc 1 1, 3) := by decide +kernel
theorem dX1_init_42 : decode cX1_init 42 = .ok (.goto (-22), 3) := by decide +kernel
theorem dX1_init_45 : decode cX1_init 45 = .ok (.return_, 1) := by decide +kernel
theorem dX1_mark_0 : decode cX1_mark 0 = .ok (.aload_n 0, 1) := by decide +kernel
theorem dX1_mark_1 : decode cX1_mark 1 = .ok (.getfield 17, 3) := by decide +kernel
theorem dX1_mark_4 : decode cX1_mark 4 = .ok (.aload_n 0, 1) := by decide +kernel
theorem dX1_mark_5 : decode cX1_mark 5 = .ok (.getfield 9, 3) := by decide +kernel
theorem dX1_mark_8 : decode cX1_mark 8 = .ok (.aaload, 1) := by decide +kernel
theorem dX1_mark_9 : decode cX1_mark 9 = .ok (.aload_n 1, 1) := by decide +kernel
theorem dX1_mark_10 : decode cX1_mark 10 = .ok (.invokevirtual 22, 3) := by decide +kernel
theorem dX1_mark_13 : decode cX1_mark 13 = .ok (.return_, 1) := by decide +kernel
theorem dX1_keep_0 : decode cX1_keep 0 = .ok (.iload_n 1, 1) := by decide +kernel
theorem dX1_keep_1 : decode cX1_keep 1 = .ok (.ifCond .lt 25, 3) := by decide +kernel
theorem dX1_keep_4 : decode cX1_keep 4 = .ok (.aload_n 0, 1) := by decide +kernel
theorem dX1_keep_5 : decode cX1_keep 5 = .ok (.getfield 9, 3) := by decide +kernel
theorem dX1_keep_8 : decode cX1_keep 8 = .ok (.bipush 6, 2) := by decide +kernel
theorem dX1_keep_10 : decode cX1_keep 10 = .ok (.if_icmp .ge 16, 3) := by decide +kernel
theorem dX1_keep_13 : decode cX1_keep 13 = .ok (.aload_n 0, 1) := by decide +kernel
theorem dX1_keep_14 : decode cX1_keep 14 = .ok (.dup, 1) := by decide +kernel
theorem dX1_keep_15 : decode cX1_keep 15 = .ok (.getfield 9, 3) := by decide +kernel
theorem dX1_keep_18 : decode cX1_keep 18 = .ok (.iconst 1, 1) := by decide +kernel
theorem dX1_keep_19 : decode cX1_keep 19 = .ok (.iadd, 1) := by decide +kernel
theorem dX1_keep_20 : decode cX1_keep 20 = .ok (.putfield 9, 3) := by decide +kernel
theorem dX1_keep_23 : decode cX1_keep 23 = .ok (.goto 11, 3) := by decide +kernel
theorem dX1_keep_26 : decode cX1_keep 26 = .ok (.iload_n 1, 1) := by decide +kernel
theorem dX1_keep_27 : decode cX1_keep 27 = .ok (.ifCond .lt 7, 3) := by decide +kernel
theorem dX1_keep_30 : decode cX1_keep 30 = .ok (.aload_n 0, 1) := by decide +kernel
theorem dX1_keep_31 : decode cX1_keep 31 = .ok (.invokevirtual 26, 3) := by decide +kernel
theorem dX1_keep_34 : decode cX1_keep 34 = .ok (.iload_n 1, 1) := by decide +kernel
theorem dX1_keep_35 : decode cX1_keep 35 = .ok (.ireturn, 1) := by decide +kernel
theorem dX1_dropOldest_0 : decode cX1_dropOldest 0 = .ok (.aload_n 0, 1) := by decide +kernel
theorem dX1_dropOldest_1 : decode cX1_dropOldest 1 = .ok (.getfield 17, 3) := by decide +kernel
theorem dX1_dropOldest_4 : decode cX1_dropOldest 4 = .ok (.iconst 0, 1) := by decide +kernel
theorem dX1_dropOldest_5 : decode cX1_dropOldest 5 = .ok (.aaload, 1) := by decide +kernel
theorem dX1_dropOldest_6 : decode cX1_dropOldest 6 = .ok (.astore_n 1, 1) := by decide +kernel
theorem dX1_dropOldest_7 : decode cX1_dropOldest 7 = .ok (.iconst 0, 1) := by decide +kernel
theorem dX1_dropOldest_8 : decode cX1_dropOldest 8 = .ok (.istore_n 2, 1) := by decide +kernel
theorem dX1_dropOldest_9 : decode cX1_dropOldest 9 = .ok (.iload_n 2, 1) := by decide +kernel
theorem dX1_dropOldest_10 : decode cX1_dropOldest 10 = .ok (.bipush 6, 2) := by decide +kernel
theorem dX1_dropOldest_12 : decode cX1_dropOldest 12 = .ok (.if_icmp .ge 23, 3) := by decide +kernel
theorem dX1_dropOldest_15 : decode cX1_dropOldest 15 = .ok (.aload_n 0, 1) := by decide +kernel
theorem dX1_dropOldest_16 : decode cX1_dropOldest 16 = .ok (.getfield 17, 3) := by decide +kernel
theorem dX1_dropOldest_19 : decode cX1_dropOldest 19 = .ok (.iload_n 2, 1) := by decide +kernel
theorem dX1_dropOldest_20 : decode cX1_dropOldest 20 = .ok (.aload_n 0, 1) := by decide +kernel
theorem dX1_dropOldest_21 : decode cX1_dropOldest 21 = .ok (.getfield 17, 3) := by decide +kernel
theorem dX1_dropOldest_24 : decode cX1_dropOldest 24 = .ok (.iload_n 2, 1) := by decide +kernel
theorem dX1_dropOldest_25 : decode cX1_dropOldest 25 = .ok (.iconst 1, 1) := by decide +kernel
theorem dX1_dropOldest_26 : decode cX1_dropOldest 26 = .ok (.iadd, 1) := by decide +kernel
theorem dX1_dropOldest_27 : decode cX1_dropOldest 27 = .ok (.aaload, 1) := by decide +kernel
theorem dX1_dropOldest_28 : decode cX1_dropOldest 28 = .ok (.aastore, 1) := by decide +kernel
theorem dX1_dropOldest_29 : decode cX1_dropOldest 29 = .ok (.iinc 2 1, 3) := by decide +kernel
theorem dX1_dropOldest_32 : decode cX1_dropOldest 32 = .ok (.goto (-23), 3) := by decide +kernel
theorem dX1_dropOldest_35 : decode cX1_dropOldest 35 = .ok (.aload_n 0, 1) := by decide +kernel
theorem dX1_dropOldest_36 : decode cX1_dropOldest 36 = .ok (.getfield 17, 3) := by decide +kernel
theorem dX1_dropOldest_39 : decode cX1_dropOldest 39 = .ok (.bipush 6, 2) := by decide +kernel
theorem dX1_dropOldest_41 : decode cX1_dropOldest 41 = .ok (.aload_n 1, 1) := by decide +kernel
theorem dX1_dropOldest_42 : decode cX1_dropOldest 42 = .ok (.aastore, 1) := by decide +kernel
theorem dX1_dropOldest_43 : decode cX1_dropOldest 43 = .ok (.return_, 1) := by decide +kernel
theorem dX1_goBack_0 : decode cX1_goBack 0 = .ok (.aload_n 0, 1) := by decide +kernel
theorem dX1_goBack_1 : decode cX1_goBack 1 = .ok (.getfield 9, 3) := by decide +kernel
theorem dX1_goBack_4 : decode cX1_goBack 4 = .ok (.ifCond .ne 6, 3) := by decide +kernel
theorem dX1_goBack_7 : decode cX1_goBack 7 = .ok (.bipush (-5), 2) := by decide +kernel
theorem dX1_goBack_9 : decode cX1_goBack 9 = .ok (.ireturn, 1) := by decide +kernel
theorem dX1_goBack_10 : decode cX1_goBack 10 = .ok (.aload_n 0, 1) := by decide +kernel
theorem dX1_goBack_11 : decode cX1_goBack 11 = .ok (.dup, 1) := by decide +kernel
theorem dX1_goBack_12 : decode cX1_goBack 12 = .ok (.getfield 9, 3) := by decide +kernel
theorem dX1_goBack_15 : decode cX1_goBack 15 = .ok (.iconst 1, 1) := by decide +kernel
theorem dX1_goBack_16 : decode cX1_goBack 16 = .ok (.isub, 1) := by decide +kernel
theorem dX1_goBack_17 : decode cX1_goBack 17 = .ok (.putfield 9, 3) := by decide +kernel
theorem dX1_goBack_20 : decode cX1_goBack 20 = .ok (.aload_n 1, 1) := by decide +kernel
theorem dX1_goBack_21 : decode cX1_goBack 21 = .ok (.aload_n 0, 1) := by decide +kernel
theorem dX1_goBack_22 : decode cX1_goBack 22 = .ok (.getfield 17, 3) := by decide +kernel
theorem dX1_goBack_25 : decode cX1_goBack 25 = .ok (.aload_n 0, 1) := by decide +kernel
theorem dX1_goBack_26 : decode cX1_goBack 26 = .ok (.getfield 9, 3) := by decide +kernel
theorem dX1_goBack_29 : decode cX1_goBack 29 = .ok (.aaload, 1) := by decide +kernel
theorem dX1_goBack_30 : decode cX1_goBack 30 = .ok (.invokevirtual 22, 3) := by decide +kernel
theorem dX1_goBack_33 : decode cX1_goBack 33 = .ok (.aload_n 0, 1) := by decide +kernel
theorem dX1_goBack_34 : decode cX1_goBack 34 = .ok (.getfield 9, 3) := by decide +kernel
theorem dX1_goBack_37 : decode cX1_goBack 37 = .ok (.ireturn, 1) := by decide +kernel
theorem dX2_init_0 : decode cX2_init 0 = .ok (.aload_n 0, 1) := by decide +kernel
theorem dX2_init_1 : decode cX2_init 1 = .ok (.invokespecial 3, 3) := by decide +kernel
theorem dX2_init_4 : decode cX2_init 4 = .ok (.aload_n 0, 1) := by decide +kernel
theorem dX2_init_5 : decode cX2_init 5 = .ok (.iconst 0, 1) := by decide +kernel
theorem dX2_init_6 : decode cX2_init 6 = .ok (.putfield 9, 3) := by decide +kernel
theorem dX2_init_9 : decode cX2_init 9 = .ok (.aload_n 0, 1) := by decide +kernel
theorem dX2_init_10 : decode cX2_init 10 = .ok (.bipush 36, 2) := by decide +kernel
theorem dX2_init_12 : decode cX2_init 12 = .ok (.newarray .int, 2) := by decide +kernel
theorem dX2_init_14 : decode cX2_init 14 = .ok (.putfield 15, 3) := by decide +kernel
theorem dX2_init_17 : decode cX2_init 17 = .ok (.aload_n 0, 1) := by decide +kernel
theorem dX2_init_18 : decode cX2_init 18 = .ok (.bipush 6, 2) := by decide +kernel
theorem dX2_init_20 : decode cX2_init 20 = .ok (.newarray .int, 2) := by decide +kernel
theorem dX2_init_22 : decode cX2_init 22 = .ok (.putfield 19, 3) := by decide +kernel
theorem dX2_init_25 : decode cX2_init 25 = .ok (.aload_n 0, 1) := by decide +kernel
theorem dX2_init_26 : decode cX2_init 26 = .ok (.bipush 6, 2) := by decide +kernel
theorem dX2_init_28 : decode cX2_init 28 = .ok (.newarray .int, 2) := by decide +kernel
theorem dX2_init_30 : decode cX2_init 30 = .ok (.putfield 22, 3) := by decide +kernel
theorem dX2_init_33 : decode cX2_init 33 = .ok (.aload_n 0, 1) := by decide +kernel
theorem dX2_init_34 : decode cX2_init 34 = .ok (.bipush 6, 2) := by decide +kernel
theorem dX2_init_36 : decode cX2_init 36 = .ok (.newarray .int, 2) := by decide +kernel
theorem dX2_init_38 : decode cX2_init 38 = .ok (.putfield 25, 3) := by decide +kernel
theorem dX2_init_41 : decode cX2_init 41 = .ok (.aload_n 0, 1) := by decide +kernel
theorem dX2_init_42 : decode cX2_init 42 = .ok (.aload_n 1, 1) := by decide +kernel
theorem dX2_init_43 : decode cX2_init 43 = .ok (.putfield 28, 3) := by decide +kernel
theorem dX2_init_46 : decode cX2_init 46 = .ok (.return_, 1) := by decide +kernel
theorem dX2_look_0 : decode cX2_look 0 = .ok (.aload_n 0, 1) := by decide +kernel
theorem dX2_look_1 : decode cX2_look 1 = .ok (.iload_n 1, 1) := by decide +kernel
theorem dX2_look_2 : decode cX2_look 2 = .ok (.putfield 9, 3) := by decide +kernel
theorem dX2_look_5 : decode cX2_look 5 = .ok (.iconst 0, 1) := by decide +kernel
theorem dX2_look_6 : decode cX2_look 6 = .ok (.istore_n 2, 1) := by decide +kernel
theorem dX2_look_7 : decode cX2_look 7 = .ok (.iload_n 2, 1) := by decide +kernel
theorem dX2_look_8 : decode cX2_look 8 = .ok (.aload_n 0, 1) := by decide +kernel
theorem dX2_look_9 : decode cX2_look 9 = .ok (.getfield 28, 3) := by decide +kernel
theorem dX2_look_12 : decode cX2_look 12 = .ok (.getfield 32, 3) := by decide +kernel
theorem dX2_look_15 : decode cX2_look 15 = .ok (.if_icmp .ge 77, 3) := by decide +kernel
theorem dX2_look_18 : decode cX2_look 18 = .ok (.iconst 0, 1) := by decide +kernel
theorem dX2_look_19 : decode cX2_look 19 = .ok (.istore_n 3, 1) := by decide +kernel
theorem dX2_look_20 : decode cX2_look 20 = .ok (.iload_n 3, 1) := by decide +kernel
theorem dX2_look_21 : decode cX2_look 21 = .ok (.aload_n 0, 1) := by decide +kernel
theorem dX2_look_22 : decode cX2_look 22 = .ok (.getfield 28, 3) := by decide +kernel
theorem dX2_look_25 : decode cX2_look 25 = .ok (.getfield 32, 3) := by decide +kernel
theorem dX2_look_28 : decode cX2_look 28 = .ok (.if_icmp .ge 26, 3) := by decide +kernel
theorem dX2_look_31 : decode cX2_look 31 = .ok (.aload_n 0, 1) := by decide +kernel
theorem dX2_look_32 : decode cX2_look 32 = .ok (.getfield 15, 3) := by decide +kernel
theorem dX2_look_35 : decode cX2_look 35 = .ok (.iload_n 2, 1) := by decide +kernel
theorem dX2_look_36 : decode cX2_look 36 = .ok (.bipush 6, 2) := by decide +kernel
theorem dX2_look_38 : decode cX2_look 38 = .ok (.imul, 1) := by decide +kernel
theorem dX2_look_39 : decode cX2_look 39 = .ok (.iload_n 3, 1) := by decide +kernel
theorem dX2_look_40 : decode cX2_look 40 = .ok (.iadd, 1) := by decide +kernel
theorem dX2_look_41 : decode cX2_look 41 = .ok (.aload_n 0, 1) := by decide +kernel
theorem dX2_look_42 : decode cX2_look 42 = .ok (.iload_n 2, 1) := by decide +kernel
theorem dX2_look_43 : decode cX2_look 43 = .ok (.iload_n 3, 1) := by decide +kernel
theorem dX2_look_44 : decode cX2_look 44 = .ok (.invokevirtual 37, 3) := by decide +kernel
theorem dX2_look_47 : decode cX2_look 47 = .ok (.iastore, 1) := by decide +kernel
theorem dX2_look_48 : decode cX2_look 48 = .ok (.iinc 3 1, 3) := by decide +kernel
theorem dX2_look_51 : decode cX2_look 51 = .ok (.goto (-31), 3) := by decide +kernel
theorem dX2_look_54 : decode cX2_look 54 = .ok (.aload_n 0, 1) := by decide +kernel
theorem dX2_look_55 : decode cX2_look 55 = .ok (.getfield 19, 3) := by decide +kernel
theorem dX2_look_58 : decode cX2_look 58 = .ok (.iload_n 2, 1) := by decide +kernel
theorem dX2_look_59 : decode cX2_look 59 = .ok (.aload_n 0, 1) := by decide +kernel
theorem dX2_look_60 : decode cX2_look 60 = .ok (.iload_n 2, 1) := by decide +kernel
theorem dX2_look_61 : decode cX2_look 61 = .ok (.invokevirtual 41, 3) := by decide +kernel
theorem dX2_look_64 : decode cX2_look 64 = .ok (.iastore, 1) := by decide +kernel
theorem dX2_look_65 : decode cX2_look 65 = .ok (.aload_n 0, 1) := by decide +kernel
theorem dX2_look_66 : decode cX2_look 66 = .ok (.getfield 22, 3) := by decide +kernel
theorem dX2_look_69 : decode cX2_look 69 = .ok (.iload_n 2, 1) := by decide +kernel
theorem dX2_look_70 : decode cX2_look 70 = .ok (.aload_n 0, 1) := by decide +kernel
theorem dX2_look_71 : decode cX2_look 71 = .ok (.getfield 28, 3) := by decide +kernel
theorem dX2_look_74 : decode cX2_look 74 = .ok (.getfield 45, 3) := by decide +kernel
theorem dX2_look_77 : decode cX2_look 77 = .ok (.iload_n 2, 1) := by decide +kernel
theorem dX2_look_78 : decode cX2_look 78 = .ok (.iaload, 1) := by decide +kernel
theorem dX2_look_79 : decode cX2_look 79 = .ok (.aload_n 0, 1) := by decide +kernel
theorem dX2_look_80 : decode cX2_look 80 = .ok (.iload_n 2, 1) := by decide +kernel
theorem dX2_look_81 : decode cX2_look 81 = .ok (.invokevirtual 48, 3) := by decide +kernel
theorem dX2_look_84 : decode cX2_look 84 = .ok (.imul, 1) := by decide +kernel
theorem dX2_look_85 : decode cX2_look 85 = .ok (.iastore, 1) := by decide +kernel
theorem dX2_look_86 : decode cX2_look 86 = .ok (.iinc 2 1, 3) := by decide +kernel
theorem dX2_look_89 : decode cX2_look 89 = .ok (.goto (-82), 3) := by decide +kernel
theorem dX2_look_92 : decode cX2_look 92 = .ok (.return_, 1) := by decide +kernel
theorem dX2_isFlat_0 : decode cX2_isFlat 0 = .ok (.aload_n 0, 1) := by decide +kernel
theorem dX2_isFlat_1 : decode cX2_isFlat 1 = .ok (.getfield 28, 3) := by decide +kernel
theorem dX2_isFlat_4 : decode cX2_isFlat 4 = .ok (.getfield 51, 3) := by decide +kernel
theorem dX2_isFlat_7 : decode cX2_isFlat 7 = .ok (.aload_n 0, 1) := by decide +kernel
theorem dX2_isFlat_8 : decode cX2_isFlat 8 = .ok (.getfield 9, 3) := by decide +kernel
theorem dX2_isFlat_11 : decode cX2_isFlat 11 = .ok (.iaload, 1) := by decide +kernel
theorem dX2_isFlat_12 : decode cX2_isFlat 12 = .ok (.aload_n 0, 1) := by decide +kernel
theorem dX2_isFlat_13 : decode cX2_isFlat 13 = .ok (.getfield 28, 3) := by decide +kernel
theorem dX2_isFlat_16 : decode cX2_isFlat 16 = .ok (.getfield 54, 3) := by decide +kernel
theorem dX2_isFlat_19 : decode cX2_isFlat 19 = .ok (.if_icmp .lt 7, 3) := by decide +kernel
theorem dX2_isFlat_22 : decode cX2_isFlat 22 = .ok (.iconst 1, 1) := by decide +kernel
theorem dX2_isFlat_23 : decode cX2_isFlat 23 = .ok (.goto 4, 3) := by decide +kernel
theorem dX2_isFlat_26 : decode cX2_isFlat 26 = .ok (.iconst 0, 1) := by decide +kernel
theorem dX2_isFlat_27 : decode cX2_isFlat 27 = .ok (.ireturn, 1) := by decide +kernel
theorem dX2_sun_0 : decode cX2_sun 0 = .ok (.getstatic 57, 3) := by decide +kernel
theorem dX2_sun_3 : decode cX2_sun 3 = .ok (.aload_n 0, 1) := by decide +kernel
theorem dX2_sun_4 : decode cX2_sun 4 = .ok (.getfield 9, 3) := by decide +kernel
theorem dX2_sun_7 : decode cX2_sun 7 = .ok (.iaload, 1) := by decide +kernel
theorem dX2_sun_8 : decode cX2_sun 8 = .ok (.ireturn, 1) := by decide +kernel
theorem dX2_ahead_0 : decode cX2_ahead 0 = .ok (.aload_n 0, 1) := by decide +kernel
theorem dX2_ahead_1 : decode cX2_ahead 1 = .ok (.getfield 28, 3) := by decide +kernel
theorem dX2_ahead_4 : decode cX2_ahead 4 = .ok (.getfield 60, 3) := by decide +kernel
theorem dX2_ahead_7 : decode cX2_ahead 7 = .ok (.iload_n 2, 1) := by decide +kernel
theorem dX2_ahead_8 : decode cX2_ahead 8 = .ok (.iaload, 1) := by decide +kernel
theorem dX2_ahead_9 : decode cX2_ahead 9 = .ok (.aload_n 0, 1) := by decide +kernel
theorem dX2_ahead_10 : decode cX2_ahead 10 = .ok (.getfield 28, 3) := by decide +kernel
theorem dX2_ahead_13 : decode cX2_ahead 13 = .ok (.getfield 60, 3) := by decide +kernel
theorem dX2_ahead_16 : decode cX2_ahead 16 = .ok (.iload_n 1, 1) := by decide +kernel
theorem dX2_ahead_17 : decode cX2_ahead 17 = .ok (.iaload, 1) := by decide +kernel
theorem dX2_ahead_18 : decode cX2_ahead 18 = .ok (.isub, 1) := by decide +kernel
theorem dX2_ahead_19 : decode cX2_ahead 19 = .ok (.istore_n 3, 1) := by decide +kernel
theorem dX2_ahead_20 : decode cX2_ahead 20 = .ok (.aload_n 0, 1) := by decide +kernel
theorem dX2_ahead_21 : decode cX2_ahead 21 = .ok (.getfield 9, 3) := by decide +kernel
theorem dX2_ahead_24 : decode cX2_ahead 24 = .ok (.iconst 5, 1) := by decide +kernel
theorem dX2_ahead_25 : decode cX2_ahead 25 = .ok (.if_icmp .ge 7, 3) := by decide +kernel
theorem dX2_ahead_28 : decode cX2_ahead 28 = .ok (.iload_n 3, 1) := by decide +kernel
theorem dX2_ahead_29 : decode cX2_ahead 29 = .ok (.goto 5, 3) := by decide +kernel
theorem dX2_ahead_32 : decode cX2_ahead 32 = .ok (.iload_n 3, 1) := by decide +kernel
theorem dX2_ahead_33 : decode cX2_ahead 33 = .ok (.ineg, 1) := by decide +kernel
theorem dX2_ahead_34 : decode cX2_ahead 34 = .ok (.ireturn, 1) := by decide +kernel
theorem dX2_lossBetween_0 : decode cX2_lossBetween 0 = .ok (.aload_n 0, 1) := by decide +kernel
theorem dX2_lossBetween_1 : decode cX2_lossBetween 1 = .ok (.iload_n 1, 1) := by decide +kernel
theorem dX2_lossBetween_2 : decode cX2_lossBetween 2 = .ok (.iload_n 2, 1) := by decide +kernel
theorem dX2_lossBetween_3 : decode cX2_lossBetween 3 = .ok (.invokevirtual 63, 3) := by decide +kernel
theorem dX2_lossBetween_6 : decode cX2_lossBetween 6 = .ok (.istore_n 3, 1) := by decide +kernel
theorem dX2_lossBetween_7 : decode cX2_lossBetween 7 = .ok (.getstatic 66, 3) := by decide +kernel
theorem dX2_lossBetween_10 : decode cX2_lossBetween 10 = .ok (.aload_n 0, 1) := by decide +kernel
theorem dX2_lossBetween_11 : decode cX2_lossBetween 11 = .ok (.getfield 9, 3) := by decide +kernel
theorem dX2_lossBetween_14 : decode cX2_lossBetween 14 = .ok (.iaload, 1) := by decide +kernel
theorem dX2_lossBetween_15 : decode cX2_lossBetween 15 = .ok (.istore 4, 2) := by decide +kernel
theorem dX2_lossBetween_17 : decode cX2_lossBetween 17 = .ok (.iload_n 3, 1) := by decide +kernel
theorem dX2_lossBetween_18 : decode cX2_lossBetween 18 = .ok (.ifCond .le 17, 3) := by decide +kernel
theorem dX2_lossBetween_21 : decode cX2_lossBetween 21 = .ok (.iconst 2, 1) := by decide +kernel
theorem dX2_lossBetween_22 : decode cX2_lossBetween 22 = .ok (.iload_n 3, 1) := by decide +kernel
theorem dX2_lossBetween_23 : decode cX2_lossBetween 23 = .ok (.imul, 1) := by decide +kernel
theorem dX2_lossBetween_24 : decode cX2_lossBetween 24 = .ok (.iload 4, 2) := by decide +kernel
theorem dX2_lossBetween_26 : decode cX2_lossBetween 26 = .ok (.iadd, 1) := by decide +kernel
theorem dX2_lossBetween_27 : decode cX2_lossBetween 27 = .ok (.iconst 1, 1) := by decide +kernel
theorem dX2_lossBetween_28 : decode cX2_lossBetween 28 = .ok (.isub, 1) := by decide +kernel
theorem dX2_lossBetween_29 : decode cX2_lossBetween 29 = .ok (.iload 4, 2) := by decide +kernel
theorem dX2_lossBetween_31 : decode cX2_lossBetween 31 = .ok (.idiv, 1) := by decide +kernel
theorem dX2_lossBetween_32 : decode cX2_lossBetween 32 = .ok (.goto 6, 3) := by decide +kernel
theorem dX2_lossBetween_35 : decode cX2_lossBetween 35 = .ok (.sipush 1000, 3) := by decide +kernel
theorem dX2_lossBetween_38 : decode cX2_lossBetween 38 = .ok (.ireturn, 1) := by decide +kernel
theorem dX2_limitOf_0 : decode cX2_limitOf 0 = .ok (.aload_n 0, 1) := by decide +kernel
theorem dX2_limitOf_1 : decode cX2_limitOf 1 = .ok (.invokevirtual 69, 3) := by decide +kernel
theorem dX2_limitOf_4 : decode cX2_limitOf 4 = .ok (.ifCond .eq 5, 3) := by decide +kernel
theorem dX2_limitOf_7 : decode cX2_limitOf 7 = .ok (.iconst 0, 1) := by decide +kernel
theorem dX2_limitOf_8 : decode cX2_limitOf 8 = .ok (.ireturn, 1) := by decide +kernel
theorem dX2_limitOf_9 : decode cX2_limitOf 9 = .ok (.sipush 1000, 3) := by decide +kernel
theorem dX2_limitOf_12 : decode cX2_limitOf 12 = .ok (.istore_n 2, 1) := by decide +kernel
theorem dX2_limitOf_13 : decode cX2_limitOf 13 = .ok (.iconst 0, 1) := by decide +kernel
theorem dX2_limitOf_14 : decode cX2_limitOf 14 = .ok (.istore_n 3, 1) := by decide +kernel
theorem dX2_limitOf_15 : decode cX2_limitOf 15 = .ok (.iload_n 3, 1) := by decide +kernel
theorem dX2_limitOf_16 : decode cX2_limitOf 16 = .ok (.aload_n 0, 1) := by decide +kernel
theorem dX2_limitOf_17 : decode cX2_limitOf 17 = .ok (.getfield 28, 3) := by decide +kernel
theorem dX2_limitOf_20 : decode cX2_limitOf 20 = .ok (.getfield 32, 3) := by decide +kernel
theorem dX2_limitOf_23 : decode cX2_limitOf 23 = .ok (.if_icmp .ge 52, 3) := by decide +kernel
theorem dX2_limitOf_26 : decode cX2_limitOf 26 = .ok (.iload_n 3, 1) := by decide +kernel
theorem dX2_limitOf_27 : decode cX2_limitOf 27 = .ok (.iload_n 1, 1) := by decide +kernel
theorem dX2_limitOf_28 : decode cX2_limitOf 28 = .ok (.if_icmp .eq 41, 3) := by decide +kernel
theorem dX2_limitOf_31 : decode cX2_limitOf 31 = .ok (.aload_n 0, 1) := by decide +kernel
theorem dX2_limitOf_32 : decode cX2_limitOf 32 = .ok (.getfield 28, 3) := by decide +kernel
theorem dX2_limitOf_35 : decode cX2_limitOf 35 = .ok (.getfield 73, 3) := by decide +kernel
theorem dX2_limitOf_38 : decode cX2_limitOf 38 = .ok (.iload_n 1, 1) := by decide +kernel
theorem dX2_limitOf_39 : decode cX2_limitOf 39 = .ok (.iload_n 3, 1) := by decide +kernel
theorem dX2_limitOf_40 : decode cX2_limitOf 40 = .ok (.aload_n 0, 1) := by decide +kernel
theorem dX2_limitOf_41 : decode cX2_limitOf 41 = .ok (.getfield 9, 3) := by decide +kernel
theorem dX2_limitOf_44 : decode cX2_limitOf 44 = .ok (.invokestatic 76, 3) := by decide +kernel
theorem dX2_limitOf_47 : decode cX2_limitOf 47 = .ok (.iaload, 1) := by decide +kernel
theorem dX2_limitOf_48 : decode cX2_limitOf 48 = .ok (.istore 4, 2) := by decide +kernel
theorem dX2_limitOf_50 : decode cX2_limitOf 50 = .ok (.iload_n 2, 1) := by decide +kernel
theorem dX2_limitOf_51 : decode cX2_limitOf 51 = .ok (.iload 4, 2) := by decide +kernel
theorem dX2_limitOf_53 : decode cX2_limitOf 53 = .ok (.aload_n 0, 1) := by decide +kernel
theorem dX2_limitOf_54 : decode cX2_limitOf 54 = .ok (.getfield 15, 3) := by decide +kernel
theorem dX2_limitOf_57 : decode cX2_limitOf 57 = .ok (.iload_n 1, 1) := by decide +kernel
theorem dX2_limitOf_58 : decode cX2_limitOf 58 = .ok (.bipush 6, 2) := by decide +kernel
theorem dX2_limitOf_60 : decode cX2_limitOf 60 = .ok (.imul, 1) := by decide +kernel
theorem dX2_limitOf_61 : decode cX2_limitOf 61 = .ok (.iload_n 3, 1) := by decide +kernel
theorem dX2_limitOf_62 : decode cX2_limitOf 62 = .ok (.iadd, 1) := by decide +kernel
theorem dX2_limitOf_63 : decode cX2_limitOf 63 = .ok (.iaload, 1) := by decide +kernel
theorem dX2_limitOf_64 : decode cX2_limitOf 64 = .ok (.iadd, 1) := by decide +kernel
theorem dX2_limitOf_65 : decode cX2_limitOf 65 = .ok (.invokestatic 80, 3) := by decide +kernel
theorem dX2_limitOf_68 : decode cX2_limitOf 68 = .ok (.istore_n 2, 1) := by decide +kernel
theorem dX2_limitOf_69 : decode cX2_limitOf 69 = .ok (.iinc 3 1, 3) := by decide +kernel
theorem dX2_limitOf_72 : decode cX2_limitOf 72 = .ok (.goto (-57), 3) := by decide +kernel
theorem dX2_limitOf_75 : decode cX2_limitOf 75 = .ok (.iconst 4, 1) := by decide +kernel
theorem dX2_limitOf_76 : decode cX2_limitOf 76 = .ok (.istore_n 3, 1) := by decide +kernel
theorem dX2_limitOf_77 : decode cX2_limitOf 77 = .ok (.iload_n 3, 1) := by decide +kernel
theorem dX2_limitOf_78 : decode cX2_limitOf 78 = .ok (.ifCond .le 24, 3) := by decide +kernel
theorem dX2_limitOf_81 : decode cX2_limitOf 81 = .ok (.aload_n 0, 1) := by decide +kernel
theorem dX2_limitOf_82 : decode cX2_limitOf 82 = .ok (.getfield 28, 3) := by decide +kernel
theorem dX2_limitOf_85 : decode cX2_limitOf 85 = .ok (.getfield 45, 3) := by decide +kernel
theorem dX2_limitOf_88 : decode cX2_limitOf 88 = .ok (.iload_n 1, 1) := by decide +kernel
theorem dX2_limitOf_89 : decode cX2_limitOf 89 = .ok (.iaload, 1) := by decide +kernel
theorem dX2_limitOf_90 : decode cX2_limitOf 90 = .ok (.iload_n 3, 1) := by decide +kernel
theorem dX2_limitOf_91 : decode cX2_limitOf 91 = .ok (.imul, 1) := by decide +kernel
theorem dX2_limitOf_92 : decode cX2_limitOf 92 = .ok (.iload_n 2, 1) := by decide +kernel
theorem dX2_limitOf_93 : decode cX2_limitOf 93 = .ok (.if_icmp .le 9, 3) := by decide +kernel
theorem dX2_limitOf_96 : decode cX2_limitOf 96 = .ok (.iinc 3 (-1), 3) := by decide +kernel
theorem dX2_limitOf_99 : decode cX2_limitOf 99 = .ok (.goto (-22), 3) := by decide +kernel
theorem dX2_limitOf_102 : decode cX2_limitOf 102 = .ok (.iload_n 3, 1) := by decide +kernel
theorem dX2_limitOf_103 : decode cX2_limitOf 103 = .ok (.ireturn, 1) := by decide +kernel
theorem dX2_tiltOf_0 : decode cX2_tiltOf 0 = .ok (.aload_n 0, 1) := by decide +kernel
theorem dX2_tiltOf_1 : decode cX2_tiltOf 1 = .ok (.getfield 28, 3) := by decide +kernel
theorem dX2_tiltOf_4 : decode cX2_tiltOf 4 = .ok (.getfield 85, 3) := by decide +kernel
theorem dX2_tiltOf_7 : decode cX2_tiltOf 7 = .ok (.iload_n 1, 1) := by decide +kernel
theorem dX2_tiltOf_8 : decode cX2_tiltOf 8 = .ok (.iaload, 1) := by decide +kernel
theorem dX2_tiltOf_9 : decode cX2_tiltOf 9 = .ok (.aload_n 0, 1) := by decide +kernel
theorem dX2_tiltOf_10 : decode cX2_tiltOf 10 = .ok (.getfield 19, 3) := by decide +kernel
theorem dX2_tiltOf_13 : decode cX2_tiltOf 13 = .ok (.iload_n 1, 1) := by decide +kernel
theorem dX2_tiltOf_14 : decode cX2_tiltOf 14 = .ok (.iaload, 1) := by decide +kernel
theorem dX2_tiltOf_15 : decode cX2_tiltOf 15 = .ok (.invokestatic 80, 3) := by decide +kernel
theorem dX2_tiltOf_18 : decode cX2_tiltOf 18 = .ok (.ireturn, 1) := by decide +kernel
theorem dX2_shadow_0 : decode cX2_shadow 0 = .ok (.iconst 0, 1) := by decide +kernel
theorem dX2_shadow_1 : decode cX2_shadow 1 = .ok (.iload_n 3, 1) := by decide +kernel
theorem dX2_shadow_2 : decode cX2_shadow 2 = .ok (.aload_n 0, 1) := by decide +kernel
theorem dX2_shadow_3 : decode cX2_shadow 3 = .ok (.getfield 15, 3) := by decide +kernel
theorem dX2_shadow_6 : decode cX2_shadow 6 = .ok (.iload_n 1, 1) := by decide +kernel
theorem dX2_shadow_7 : decode cX2_shadow 7 = .ok (.bipush 6, 2) := by decide +kernel
theorem dX2_shadow_9 : decode cX2_shadow 9 = .ok (.imul, 1) := by decide +kernel
theorem dX2_shadow_10 : decode cX2_shadow 10 = .ok (.iload_n 2, 1) := by decide +kernel
theorem dX2_shadow_11 : decode cX2_shadow 11 = .ok (.iadd, 1) := by decide +kernel
theorem dX2_shadow_12 : decode cX2_shadow 12 = .ok (.iaload, 1) := by decide +kernel
theorem dX2_shadow_13 : decode cX2_shadow 13 = .ok (.isub, 1) := by decide +kernel
theorem dX2_shadow_14 : decode cX2_shadow 14 = .ok (.invokestatic 88, 3) := by decide +kernel
theorem dX2_shadow_17 : decode cX2_shadow 17 = .ok (.ireturn, 1) := by decide +kernel
theorem dX2_toBlame_0 : decode cX2_toBlame 0 = .ok (.bipush (-6), 2) := by decide +kernel
theorem dX2_toBlame_2 : decode cX2_toBlame 2 = .ok (.istore_n 2, 1) := by decide +kernel
theorem dX2_toBlame_3 : decode cX2_toBlame 3 = .ok (.iconst 0, 1) := by decide +kernel
theorem dX2_toBlame_4 : decode cX2_toBlame 4 = .ok (.istore_n 3, 1) := by decide +kernel
theorem dX2_toBlame_5 : decode cX2_toBlame 5 = .ok (.iconst 0, 1) := by decide +kernel
theorem dX2_toBlame_6 : decode cX2_toBlame 6 = .ok (.istore 4, 2) := by decide +kernel
theorem dX2_toBlame_8 : decode cX2_toBlame 8 = .ok (.iconst 0, 1) := by decide +kernel
theorem dX2_toBlame_9 : decode cX2_toBlame 9 = .ok (.istore 5, 2) := by decide +kernel
theorem dX2_toBlame_11 : decode cX2_toBlame 11 = .ok (.iload 5, 2) := by decide +kernel
theorem dX2_toBlame_13 : decode cX2_toBlame 13 = .ok (.aload_n 0, 1) := by decide +kernel
theorem dX2_toBlame_14 : decode cX2_toBlame 14 = .ok (.getfield 28, 3) := by decide +kernel
theorem dX2_toBlame_17 : decode cX2_toBlame 17 = .ok (.getfield 32, 3) := by decide +kernel
theorem dX2_toBlame_20 : decode cX2_toBlame 20 = .ok (.if_icmp .ge 79, 3) := by decide +kernel
theorem dX2_toBlame_23 : decode cX2_toBlame 23 = .ok (.iload 5, 2) := by decide +kernel
theorem dX2_toBlame_25 : decode cX2_toBlame 25 = .ok (.iload_n 1, 1) := by decide +kernel
theorem dX2_toBlame_26 : decode cX2_toBlame 26 = .ok (.if_icmp .ne 7, 3) := by decide +kernel
theorem dX2_toBlame_29 : decode cX2_toBlame 29 = .ok (.iconst 0, 1) := by decide +kernel
theorem dX2_toBlame_30 : decode cX2_toBlame 30 = .ok (.goto 17, 3) := by decide +kernel
theorem dX2_toBlame_33 : decode cX2_toBlame 33 = .ok (.aload_n 0, 1) := by decide +kernel
theorem dX2_toBlame_34 : decode cX2_toBlame 34 = .ok (.iload 5, 2) := by decide +kernel
theorem dX2_toBlame_36 : decode cX2_toBlame 36 = .ok (.iload_n 1, 1) := by decide +kernel
theorem dX2_toBlame_37 : decode cX2_toBlame 37 = .ok (.aload_n 0, 1) := by decide +kernel
theorem dX2_toBlame_38 : decode cX2_toBlame 38 = .ok (.getfield 22, 3) := by decide +kernel
theorem dX2_toBlame_41 : decode cX2_toBlame 41 = .ok (.iload 5, 2) := by decide +kernel
theorem dX2_toBlame_43 : decode cX2_toBlame 43 = .ok (.iaload, 1) := by decide +kernel
theorem dX2_toBlame_44 : decode cX2_toBlame 44 = .ok (.invokevirtual 91, 3) := by decide +kernel
theorem dX2_toBlame_47 : decode cX2_toBlame 47 = .ok (.istore 6, 2) := by decide +kernel
theorem dX2_toBlame_49 : decode cX2_toBlame 49 = .ok (.aload_n 0, 1) := by decide +kernel
theorem dX2_toBlame_50 : decode cX2_toBlame 50 = .ok (.iload 5, 2) := by decide +kernel
theorem dX2_toBlame_52 : decode cX2_toBlame 52 = .ok (.iload_n 1, 1) := by decide +kernel
theorem dX2_toBlame_53 : decode cX2_toBlame 53 = .ok (.invokevirtual 63, 3) := by decide +kernel
theorem dX2_toBlame_56 : decode cX2_toBlame 56 = .ok (.istore 7, 2) := by decide +kernel
theorem dX2_toBlame_58 : decode cX2_toBlame 58 = .ok (.iload 6, 2) := by decide +kernel
theorem dX2_toBlame_60 : decode cX2_toBlame 60 = .ok (.iload_n 3, 1) := by decide +kernel
theorem dX2_toBlame_61 : decode cX2_toBlame 61 = .ok (.if_icmp .gt 22, 3) := by decide +kernel
theorem dX2_toBlame_64 : decode cX2_toBlame 64 = .ok (.iload_n 2, 1) := by decide +kernel
theorem dX2_toBlame_65 : decode cX2_toBlame 65 = .ok (.bipush (-6), 2) := by decide +kernel
theorem dX2_toBlame_67 : decode cX2_toBlame 67 = .ok (.if_icmp .eq 26, 3) := by decide +kernel
theorem dX2_toBlame_70 : decode cX2_toBlame 70 = .ok (.iload 6, 2) := by decide +kernel
theorem dX2_toBlame_72 : decode cX2_toBlame 72 = .ok (.iload_n 3, 1) := by decide +kernel
theorem dX2_toBlame_73 : decode cX2_toBlame 73 = .ok (.if_icmp .ne 20, 3) := by decide +kernel
theorem dX2_toBlame_76 : decode cX2_toBlame 76 = .ok (.iload 7, 2) := by decide +kernel
theorem dX2_toBlame_78 : decode cX2_toBlame 78 = .ok (.iload 4, 2) := by decide +kernel
theorem dX2_toBlame_80 : decode cX2_toBlame 80 = .ok (.if_icmp .ge 13, 3) := by decide +kernel
theorem dX2_toBlame_83 : decode cX2_toBlame 83 = .ok (.iload 5, 2) := by decide +kernel
theorem dX2_toBlame_85 : decode cX2_toBlame 85 = .ok (.istore_n 2, 1) := by decide +kernel
theorem dX2_toBlame_86 : decode cX2_toBlame 86 = .ok (.iload 6, 2) := by decide +kernel
theorem dX2_toBlame_88 : decode cX2_toBlame 88 = .ok (.istore_n 3, 1) := by decide +kernel
theorem dX2_toBlame_89 : decode cX2_toBlame 89 = .ok (.iload 7, 2) := by decide +kernel
theorem dX2_toBlame_91 : decode cX2_toBlame 91 = .ok (.istore 4, 2) := by decide +kernel
theorem dX2_toBlame_93 : decode cX2_toBlame 93 = .ok (.iinc 5 1, 3) := by decide +kernel
theorem dX2_toBlame_96 : decode cX2_toBlame 96 = .ok (.goto (-85), 3) := by decide +kernel
theorem dX2_toBlame_99 : decode cX2_toBlame 99 = .ok (.iload_n 2, 1) := by decide +kernel
theorem dX2_toBlame_100 : decode cX2_toBlame 100 = .ok (.ireturn, 1) := by decide +kernel
theorem dX2_shade_0 : decode cX2_shade 0 = .ok (.aload_n 0, 1) := by decide +kernel
theorem dX2_shade_1 : decode cX2_shade 1 = .ok (.iload_n 1, 1) := by decide +kernel
theorem dX2_shade_2 : decode cX2_shade 2 = .ok (.invokevirtual 94, 3) := by decide +kernel
theorem dX2_shade_5 : decode cX2_shade 5 = .ok (.istore_n 2, 1) := by decide +kernel
theorem dX2_shade_6 : decode cX2_shade 6 = .ok (.iload_n 2, 1) := by decide +kernel
theorem dX2_shade_7 : decode cX2_shade 7 = .ok (.bipush (-6), 2) := by decide +kernel
theorem dX2_shade_9 : decode cX2_shade 9 = .ok (.if_icmp .ne 7, 3) := by decide +kernel
theorem dX2_shade_12 : decode cX2_shade 12 = .ok (.iconst 0, 1) := by decide +kernel
theorem dX2_shade_13 : decode cX2_shade 13 = .ok (.goto 24, 3) := by decide +kernel
theorem dX2_shade_16 : decode cX2_shade 16 = .ok (.aload_n 0, 1) := by decide +kernel
theorem dX2_shade_17 : decode cX2_shade 17 = .ok (.getfield 22, 3) := by decide +kernel
theorem dX2_shade_20 : decode cX2_shade 20 = .ok (.iload_n 1, 1) := by decide +kernel
theorem dX2_shade_21 : decode cX2_shade 21 = .ok (.iaload, 1) := by decide +kernel
theorem dX2_shade_22 : decode cX2_shade 22 = .ok (.aload_n 0, 1) := by decide +kernel
theorem dX2_shade_23 : decode cX2_shade 23 = .ok (.iload_n 2, 1) := by decide +kernel
theorem dX2_shade_24 : decode cX2_shade 24 = .ok (.iload_n 1, 1) := by decide +kernel
theorem dX2_shade_25 : decode cX2_shade 25 = .ok (.aload_n 0, 1) := by decide +kernel
theorem dX2_shade_26 : decode cX2_shade 26 = .ok (.getfield 22, 3) := by decide +kernel
theorem dX2_shade_29 : decode cX2_shade 29 = .ok (.iload_n 2, 1) := by decide +kernel
theorem dX2_shade_30 : decode cX2_shade 30 = .ok (.iaload, 1) := by decide +kernel
theorem dX2_shade_31 : decode cX2_shade 31 = .ok (.invokevirtual 91, 3) := by decide +kernel
theorem dX2_shade_34 : decode cX2_shade 34 = .ok (.invokestatic 80, 3) := by decide +kernel
theorem dX2_shade_37 : decode cX2_shade 37 = .ok (.ireturn, 1) := by decide +kernel
theorem dX2_unshadedYield_0 : decode cX2_unshadedYield 0 = .ok (.aload_n 0, 1) := by decide +kernel
theorem dX2_unshadedYield_1 : decode cX2_unshadedYield 1 = .ok (.getfield 22, 3) := by decide +kernel
theorem dX2_unshadedYield_4 : decode cX2_unshadedYield 4 = .ok (.iload_n 1, 1) := by decide +kernel
theorem dX2_unshadedYield_5 : decode cX2_unshadedYield 5 = .ok (.iaload, 1) := by decide +kernel
theorem dX2_unshadedYield_6 : decode cX2_unshadedYield 6 = .ok (.aload_n 0, 1) := by decide +kernel
theorem dX2_unshadedYield_7 : decode cX2_unshadedYield 7 = .ok (.invokevirtual 97, 3) := by decide +kernel
theorem dX2_unshadedYield_10 : decode cX2_unshadedYield 10 = .ok (.imul, 1) := by decide +kernel
theorem dX2_unshadedYield_11 : decode cX2_unshadedYield 11 = .ok (.aload_n 0, 1) := by decide +kernel
theorem dX2_unshadedYield_12 : decode cX2_unshadedYield 12 = .ok (.getfield 28, 3) := by decide +kernel
theorem dX2_unshadedYield_15 : decode cX2_unshadedYield 15 = .ok (.getfield 45, 3) := by decide +kernel
theorem dX2_unshadedYield_18 : decode cX2_unshadedYield 18 = .ok (.iload_n 1, 1) := by decide +kernel
theorem dX2_unshadedYield_19 : decode cX2_unshadedYield 19 = .ok (.iaload, 1) := by decide +kernel
theorem dX2_unshadedYield_20 : decode cX2_unshadedYield 20 = .ok (.iadd, 1) := by decide +kernel
theorem dX2_unshadedYield_21 : decode cX2_unshadedYield 21 = .ok (.ireturn, 1) := by decide +kernel
theorem dX2_yieldNow_0 : decode cX2_yieldNow 0 = .ok (.aload_n 0, 1) := by decide +kernel
theorem dX2_yieldNow_1 : decode cX2_yieldNow 1 = .ok (.iload_n 1, 1) := by decide +kernel
theorem dX2_yieldNow_2 : decode cX2_yieldNow 2 = .ok (.invokevirtual 101, 3) := by decide +kernel
theorem dX2_yieldNow_5 : decode cX2_yieldNow 5 = .ok (.aload_n 0, 1) := by decide +kernel
theorem dX2_yieldNow_6 : decode cX2_yieldNow 6 = .ok (.iload_n 1, 1) := by decide +kernel
theorem dX2_yieldNow_7 : decode cX2_yieldNow 7 = .ok (.invokevirtual 104, 3) := by decide +kernel
theorem dX2_yieldNow_10 : decode cX2_yieldNow 10 = .ok (.aload_n 0, 1) := by decide +kernel
theorem dX2_yieldNow_11 : decode cX2_yieldNow 11 = .ok (.invokevirtual 97, 3) := by decide +kernel
theorem dX2_yieldNow_14 : decode cX2_yieldNow 14 = .ok (.imul, 1) := by decide +kernel
theorem dX2_yieldNow_15 : decode cX2_yieldNow 15 = .ok (.isub, 1) := by decide +kernel
theorem dX2_yieldNow_16 : decode cX2_yieldNow 16 = .ok (.ireturn, 1) := by decide +kernel
theorem dX2_yieldOfDay_0 : decode cX2_yieldOfDay 0 = .ok (.iconst 0, 1) := by decide +kernel
theorem dX2_yieldOfDay_1 : decode cX2_yieldOfDay 1 = .ok (.istore_n 2, 1) := by decide +kernel
theorem dX2_yieldOfDay_2 : decode cX2_yieldOfDay 2 = .ok (.iconst 0, 1) := by decide +kernel
theorem dX2_yieldOfDay_3 : decode cX2_yieldOfDay 3 = .ok (.istore_n 3, 1) := by decide +kernel
theorem dX2_yieldOfDay_4 : decode cX2_yieldOfDay 4 = .ok (.iload_n 3, 1) := by decide +kernel
theorem dX2_yieldOfDay_5 : decode cX2_yieldOfDay 5 = .ok (.bipush 10, 2) := by decide +kernel
theorem dX2_yieldOfDay_7 : decode cX2_yieldOfDay 7 = .ok (.if_icmp .ge 22, 3) := by decide +kernel
theorem dX2_yieldOfDay_10 : decode cX2_yieldOfDay 10 = .ok (.aload_n 0, 1) := by decide +kernel
theorem dX2_yieldOfDay_11 : decode cX2_yieldOfDay 11 = .ok (.iload_n 3, 1) := by decide +kernel
theorem dX2_yieldOfDay_12 : decode cX2_yieldOfDay 12 = .ok (.invokevirtual 107, 3) := by decide +kernel
theorem dX2_yieldOfDay_15 : decode cX2_yieldOfDay 15 = .ok (.iload_n 2, 1) := by decide +kernel
theorem dX2_yieldOfDay_16 : decode cX2_yieldOfDay 16 = .ok (.aload_n 0, 1) := by decide +kernel
theorem dX2_yieldOfDay_17 : decode cX2_yieldOfDay 17 = .ok (.iload_n 1, 1) := by decide +kernel
theorem dX2_yieldOfDay_18 : decode cX2_yieldOfDay 18 = .ok (.invokevirtual 111, 3) := by decide +kernel
theorem dX2_yieldOfDay_21 : decode cX2_yieldOfDay 21 = .ok (.iadd, 1) := by decide +kernel
theorem dX2_yieldOfDay_22 : decode cX2_yieldOfDay 22 = .ok (.istore_n 2, 1) := by decide +kernel
theorem dX2_yieldOfDay_23 : decode cX2_yieldOfDay 23 = .ok (.iinc 3 1, 3) := by decide +kernel
theorem dX2_yieldOfDay_26 : decode cX2_yieldOfDay 26 = .ok (.goto (-22), 3) := by decide +kernel
theorem dX2_yieldOfDay_29 : decode cX2_yieldOfDay 29 = .ok (.iload_n 2, 1) := by decide +kernel
theorem dX2_yieldOfDay_30 : decode cX2_yieldOfDay 30 = .ok (.ireturn, 1) := by decide +kernel
theorem dX2_unshadedYieldOfDay_0 : decode cX2_unshadedYieldOfDay 0 = .ok (.iconst 0, 1) := by decide +kernel
theorem dX2_unshadedYieldOfDay_1 : decode cX2_unshadedYieldOfDay 1 = .ok (.istore_n 2, 1) := by decide +kernel
theorem dX2_unshadedYieldOfDay_2 : decode cX2_unshadedYieldOfDay 2 = .ok (.iconst 0, 1) := by decide +kernel
theorem dX2_unshadedYieldOfDay_3 : decode cX2_unshadedYieldOfDay 3 = .ok (.istore_n 3, 1) := by decide +kernel
theorem dX2_unshadedYieldOfDay_4 : decode cX2_unshadedYieldOfDay 4 = .ok (.iload_n 3, 1) := by decide +kernel
theorem dX2_unshadedYieldOfDay_5 : decode cX2_unshadedYieldOfDay 5 = .ok (.bipush 10, 2) := by decide +kernel
theorem dX2_unshadedYieldOfDay_7 : decode cX2_unshadedYieldOfDay 7 = .ok (.if_icmp .ge 22, 3) := by decide +kernel
theorem dX2_unshadedYieldOfDay_10 : decode cX2_unshadedYieldOfDay 10 = .ok (.aload_n 0, 1) := by decide +kernel
theorem dX2_unshadedYieldOfDay_11 : decode cX2_unshadedYieldOfDay 11 = .ok (.iload_n 3, 1) := by decide +kernel
theorem dX2_unshadedYieldOfDay_12 : decode cX2_unshadedYieldOfDay 12 = .ok (.invokevirtual 107, 3) := by decide +kernel
theorem dX2_unshadedYieldOfDay_15 : decode cX2_unshadedYieldOfDay 15 = .ok (.iload_n 2, 1) := by decide +kernel
theorem dX2_unshadedYieldOfDay_16 : decode cX2_unshadedYieldOfDay 16 = .ok (.aload_n 0, 1) := by decide +kernel
theorem dX2_unshadedYieldOfDay_17 : decode cX2_unshadedYieldOfDay 17 = .ok (.iload_n 1, 1) := by decide +kernel
theorem dX2_unshadedYieldOfDay_18 : decode cX2_unshadedYieldOfDay 18 = .ok (.invokevirtual 101, 3) := by decide +kernel
theorem dX2_unshadedYieldOfDay_21 : decode cX2_unshadedYieldOfDay 21 = .ok (.iadd, 1) := by decide +kernel
theorem dX2_unshadedYieldOfDay_22 : decode cX2_unshadedYieldOfDay 22 = .ok (.istore_n 2, 1) := by decide +kernel
theorem dX2_unshadedYieldOfDay_23 : decode cX2_unshadedYieldOfDay 23 = .ok (.iinc 3 1, 3) := by decide +kernel
theorem dX2_unshadedYieldOfDay_26 : decode cX2_unshadedYieldOfDay 26 = .ok (.goto (-22), 3) := by decide +kernel
theorem dX2_unshadedYieldOfDay_29 : decode cX2_unshadedYieldOfDay 29 = .ok (.iload_n 2, 1) := by decide +kernel
theorem dX2_unshadedYieldOfDay_30 : decode cX2_unshadedYieldOfDay 30 = .ok (.ireturn, 1) := by decide +kernel
theorem dX2_yieldOfAll_0 : decode cX2_yieldOfAll 0 = .ok (.iconst 0, 1) := by decide +kernel
theorem dX2_yieldOfAll_1 : decode cX2_yieldOfAll 1 = .ok (.istore_n 1, 1) := by decide +kernel
theorem dX2_yieldOfAll_2 : decode cX2_yieldOfAll 2 = .ok (.iconst 0, 1) := by decide +kernel
theorem dX2_yieldOfAll_3 : decode cX2_yieldOfAll 3 = .ok (.istore_n 2, 1) := by decide +kernel
theorem dX2_yieldOfAll_4 : decode cX2_yieldOfAll 4 = .ok (.iload_n 2, 1) := by decide +kernel
theorem dX2_yieldOfAll_5 : decode cX2_yieldOfAll 5 = .ok (.bipush 10, 2) := by decide +kernel
theorem dX2_yieldOfAll_7 : decode cX2_yieldOfAll 7 = .ok (.if_icmp .ge 41, 3) := by decide +kernel
theorem dX2_yieldOfAll_10 : decode cX2_yieldOfAll 10 = .ok (.aload_n 0, 1) := by decide +kernel
theorem dX2_yieldOfAll_11 : decode cX2_yieldOfAll 11 = .ok (.iload_n 2, 1) := by decide +kernel
theorem dX2_yieldOfAll_12 : decode cX2_yieldOfAll 12 = .ok (.invokevirtual 107, 3) := by decide +kernel
theorem dX2_yieldOfAll_15 : decode cX2_yieldOfAll 15 = .ok (.iconst 0, 1) := by decide +kernel
theorem dX2_yieldOfAll_16 : decode cX2_yieldOfAll 16 = .ok (.istore_n 3, 1) := by decide +kernel
theorem dX2_yieldOfAll_17 : decode cX2_yieldOfAll 17 = .ok (.iload_n 3, 1) := by decide +kernel
theorem dX2_yieldOfAll_18 : decode cX2_yieldOfAll 18 = .ok (.aload_n 0, 1) := by decide +kernel
theorem dX2_yieldOfAll_19 : decode cX2_yieldOfAll 19 = .ok (.getfield 28, 3) := by decide +kernel
theorem dX2_yieldOfAll_22 : decode cX2_yieldOfAll 22 = .ok (.getfield 32, 3) := by decide +kernel
theorem dX2_yieldOfAll_25 : decode cX2_yieldOfAll 25 = .ok (.if_icmp .ge 17, 3) := by decide +kernel
theorem dX2_yieldOfAll_28 : decode cX2_yieldOfAll 28 = .ok (.iload_n 1, 1) := by decide +kernel
theorem dX2_yieldOfAll_29 : decode cX2_yieldOfAll 29 = .ok (.aload_n 0, 1) := by decide +kernel
theorem dX2_yieldOfAll_30 : decode cX2_yieldOfAll 30 = .ok (.iload_n 3, 1) := by decide +kernel
theorem dX2_yieldOfAll_31 : decode cX2_yieldOfAll 31 = .ok (.invokevirtual 111, 3) := by decide +kernel
theorem dX2_yieldOfAll_34 : decode cX2_yieldOfAll 34 = .ok (.iadd, 1) := by decide +kernel
theorem dX2_yieldOfAll_35 : decode cX2_yieldOfAll 35 = .ok (.istore_n 1, 1) := by decide +kernel
theorem dX2_yieldOfAll_36 : decode cX2_yieldOfAll 36 = .ok (.iinc 3 1, 3) := by decide +kernel
theorem dX2_yieldOfAll_39 : decode cX2_yieldOfAll 39 = .ok (.goto (-22), 3) := by decide +kernel
theorem dX2_yieldOfAll_42 : decode cX2_yieldOfAll 42 = .ok (.iinc 2 1, 3) := by decide +kernel
theorem dX2_yieldOfAll_45 : decode cX2_yieldOfAll 45 = .ok (.goto (-41), 3) := by decide +kernel
theorem dX2_yieldOfAll_48 : decode cX2_yieldOfAll 48 = .ok (.iload_n 1, 1) := by decide +kernel
theorem dX2_yieldOfAll_49 : decode cX2_yieldOfAll 49 = .ok (.ireturn, 1) := by decide +kernel
theorem dX2_hoursLowered_0 : decode cX2_hoursLowered 0 = .ok (.iconst 0, 1) := by decide +kernel
theorem dX2_hoursLowered_1 : decode cX2_hoursLowered 1 = .ok (.istore_n 2, 1) := by decide +kernel
theorem dX2_hoursLowered_2 : decode cX2_hoursLowered 2 = .ok (.iconst 0, 1) := by decide +kernel
theorem dX2_hoursLowered_3 : decode cX2_hoursLowered 3 = .ok (.istore_n 3, 1) := by decide +kernel
theorem dX2_hoursLowered_4 : decode cX2_hoursLowered 4 = .ok (.iload_n 3, 1) := by decide +kernel
theorem dX2_hoursLowered_5 : decode cX2_hoursLowered 5 = .ok (.bipush 10, 2) := by decide +kernel
theorem dX2_hoursLowered_7 : decode cX2_hoursLowered 7 = .ok (.if_icmp .ge 42, 3) := by decide +kernel
theorem dX2_hoursLowered_10 : decode cX2_hoursLowered 10 = .ok (.aload_n 0, 1) := by decide +kernel
theorem dX2_hoursLowered_11 : decode cX2_hoursLowered 11 = .ok (.iload_n 3, 1) := by decide +kernel
theorem dX2_hoursLowered_12 : decode cX2_hoursLowered 12 = .ok (.invokevirtual 107, 3) := by decide +kernel
theorem dX2_hoursLowered_15 : decode cX2_hoursLowered 15 = .ok (.aload_n 0, 1) := by decide +kernel
theorem dX2_hoursLowered_16 : decode cX2_hoursLowered 16 = .ok (.invokevirtual 69, 3) := by decide +kernel
theorem dX2_hoursLowered_19 : decode cX2_hoursLowered 19 = .ok (.ifCond .ne 24, 3) := by decide +kernel
theorem dX2_hoursLowered_22 : decode cX2_hoursLowered 22 = .ok (.aload_n 0, 1) := by decide +kernel
theorem dX2_hoursLowered_23 : decode cX2_hoursLowered 23 = .ok (.getfield 19, 3) := by decide +kernel
theorem dX2_hoursLowered_26 : decode cX2_hoursLowered 26 = .ok (.iload_n 1, 1) := by decide +kernel
theorem dX2_hoursLowered_27 : decode cX2_hoursLowered 27 = .ok (.iaload, 1) := by decide +kernel
theorem dX2_hoursLowered_28 : decode cX2_hoursLowered 28 = .ok (.aload_n 0, 1) := by decide +kernel
theorem dX2_hoursLowered_29 : decode cX2_hoursLowered 29 = .ok (.getfield 28, 3) := by decide +kernel
theorem dX2_hoursLowered_32 : decode cX2_hoursLowered 32 = .ok (.getfield 85, 3) := by decide +kernel
theorem dX2_hoursLowered_35 : decode cX2_hoursLowered 35 = .ok (.iload_n 1, 1) := by decide +kernel
theorem dX2_hoursLowered_36 : decode cX2_hoursLowered 36 = .ok (.iaload, 1) := by decide +kernel
theorem dX2_hoursLowered_37 : decode cX2_hoursLowered 37 = .ok (.if_icmp .ge 6, 3) := by decide +kernel
theorem dX2_hoursLowered_40 : decode cX2_hoursLowered 40 = .ok (.iinc 2 1, 3) := by decide +kernel
theorem dX2_hoursLowered_43 : decode cX2_hoursLowered 43 = .ok (.iinc 3 1, 3) := by decide +kernel
theorem dX2_hoursLowered_46 : decode cX2_hoursLowered 46 = .ok (.goto (-42), 3) := by decide +kernel
theorem dX2_hoursLowered_49 : decode cX2_hoursLowered 49 = .ok (.iload_n 2, 1) := by decide +kernel
theorem dX2_hoursLowered_50 : decode cX2_hoursLowered 50 = .ok (.ireturn, 1) := by decide +kernel
theorem dX2_hoursShaded_0 : decode cX2_hoursShaded 0 = .ok (.iconst 0, 1) := by decide +kernel
theorem dX2_hoursShaded_1 : decode cX2_hoursShaded 1 = .ok (.istore_n 2, 1) := by decide +kernel
theorem dX2_hoursShaded_2 : decode cX2_hoursShaded 2 = .ok (.iconst 0, 1) := by decide +kernel
theorem dX2_hoursShaded_3 : decode cX2_hoursShaded 3 = .ok (.istore_n 3, 1) := by decide +kernel
theorem dX2_hoursShaded_4 : decode cX2_hoursShaded 4 = .ok (.iload_n 3, 1) := by decide +kernel
theorem dX2_hoursShaded_5 : decode cX2_hoursShaded 5 = .ok (.bipush 10, 2) := by decide +kernel
theorem dX2_hoursShaded_7 : decode cX2_hoursShaded 7 = .ok (.if_icmp .ge 25, 3) := by decide +kernel
theorem dX2_hoursShaded_10 : decode cX2_hoursShaded 10 = .ok (.aload_n 0, 1) := by decide +kernel
theorem dX2_hoursShaded_11 : decode cX2_hoursShaded 11 = .ok (.iload_n 3, 1) := by decide +kernel
theorem dX2_hoursShaded_12 : decode cX2_hoursShaded 12 = .ok (.invokevirtual 107, 3) := by decide +kernel
theorem dX2_hoursShaded_15 : decode cX2_hoursShaded 15 = .ok (.aload_n 0, 1) := by decide +kernel
theorem dX2_hoursShaded_16 : decode cX2_hoursShaded 16 = .ok (.iload_n 1, 1) := by decide +kernel
theorem dX2_hoursShaded_17 : decode cX2_hoursShaded 17 = .ok (.invokevirtual 104, 3) := by decide +kernel
theorem dX2_hoursShaded_20 : decode cX2_hoursShaded 20 = .ok (.ifCond .le 6, 3) := by decide +kernel
theorem dX2_hoursShaded_23 : decode cX2_hoursShaded 23 = .ok (.iinc 2 1, 3) := by decide +kernel
theorem dX2_hoursShaded_26 : decode cX2_hoursShaded 26 = .ok (.iinc 3 1, 3) := by decide +kernel
theorem dX2_hoursShaded_29 : decode cX2_hoursShaded 29 = .ok (.goto (-25), 3) := by decide +kernel
theorem dX2_hoursShaded_32 : decode cX2_hoursShaded 32 = .ok (.iload_n 2, 1) := by decide +kernel
theorem dX2_hoursShaded_33 : decode cX2_hoursShaded 33 = .ok (.ireturn, 1) := by decide +kernel
theorem dX2_mostToBlame_0 : decode cX2_mostToBlame 0 = .ok (.iconst 0, 1) := by decide +kernel
theorem dX2_mostToBlame_1 : decode cX2_mostToBlame 1 = .ok (.istore_n 2, 1) := by decide +kernel
theorem dX2_mostToBlame_2 : decode cX2_mostToBlame 2 = .ok (.iload_n 2, 1) := by decide +kernel
theorem dX2_mostToBlame_3 : decode cX2_mostToBlame 3 = .ok (.bipush 6, 2) := by decide +kernel
theorem dX2_mostToBlame_5 : decode cX2_mostToBlame 5 = .ok (.if_icmp .ge 16, 3) := by decide +kernel
theorem dX2_mostToBlame_8 : decode cX2_mostToBlame 8 = .ok (.aload_n 0, 1) := by decide +kernel
theorem dX2_mostToBlame_9 : decode cX2_mostToBlame 9 = .ok (.getfield 25, 3) := by decide +kernel
theorem dX2_mostToBlame_12 : decode cX2_mostToBlame 12 = .ok (.iload_n 2, 1) := by decide +kernel
theorem dX2_mostToBlame_13 : decode cX2_mostToBlame 13 = .ok (.iconst 0, 1) := by decide +kernel
theorem dX2_mostToBlame_14 : decode cX2_mostToBlame 14 = .ok (.iastore, 1) := by decide +kernel
theorem dX2_mostToBlame_15 : decode cX2_mostToBlame 15 = .ok (.iinc 2 1, 3) := by decide +kernel
theorem dX2_mostToBlame_18 : decode cX2_mostToBlame 18 = .ok (.goto (-16), 3) := by decide +kernel
theorem dX2_mostToBlame_21 : decode cX2_mostToBlame 21 = .ok (.iconst 0, 1) := by decide +kernel
theorem dX2_mostToBlame_22 : decode cX2_mostToBlame 22 = .ok (.istore_n 2, 1) := by decide +kernel
theorem dX2_mostToBlame_23 : decode cX2_mostToBlame 23 = .ok (.iload_n 2, 1) := by decide +kernel
theorem dX2_mostToBlame_24 : decode cX2_mostToBlame 24 = .ok (.bipush 10, 2) := by decide +kernel
theorem dX2_mostToBlame_26 : decode cX2_mostToBlame 26 = .ok (.if_icmp .ge 36, 3) := by decide +kernel
theorem dX2_mostToBlame_29 : decode cX2_mostToBlame 29 = .ok (.aload_n 0, 1) := by decide +kernel
theorem dX2_mostToBlame_30 : decode cX2_mostToBlame 30 = .ok (.iload_n 2, 1) := by decide +kernel
theorem dX2_mostToBlame_31 : decode cX2_mostToBlame 31 = .ok (.invokevirtual 107, 3) := by decide +kernel
theorem dX2_mostToBlame_34 : decode cX2_mostToBlame 34 = .ok (.aload_n 0, 1) := by decide +kernel
theorem dX2_mostToBlame_35 : decode cX2_mostToBlame 35 = .ok (.iload_n 1, 1) := by decide +kernel
theorem dX2_mostToBlame_36 : decode cX2_mostToBlame 36 = .ok (.invokevirtual 94, 3) := by decide +kernel
theorem dX2_mostToBlame_39 : decode cX2_mostToBlame 39 = .ok (.istore_n 3, 1) := by decide +kernel
theorem dX2_mostToBlame_40 : decode cX2_mostToBlame 40 = .ok (.iload_n 3, 1) := by decide +kernel
theorem dX2_mostToBlame_41 : decode cX2_mostToBlame 41 = .ok (.bipush (-6), 2) := by decide +kernel
theorem dX2_mostToBlame_43 : decode cX2_mostToBlame 43 = .ok (.if_icmp .eq 13, 3) := by decide +kernel
theorem dX2_mostToBlame_46 : decode cX2_mostToBlame 46 = .ok (.aload_n 0, 1) := by decide +kernel
theorem dX2_mostToBlame_47 : decode cX2_mostToBlame 47 = .ok (.getfield 25, 3) := by decide +kernel
theorem dX2_mostToBlame_50 : decode cX2_mostToBlame 50 = .ok (.iload_n 3, 1) := by decide +kernel
theorem dX2_mostToBlame_51 : decode cX2_mostToBlame 51 = .ok (.dup2, 1) := by decide +kernel
theorem dX2_mostToBlame_52 : decode cX2_mostToBlame 52 = .ok (.iaload, 1) := by decide +kernel
theorem dX2_mostToBlame_53 : decode cX2_mostToBlame 53 = .ok (.iconst 1, 1) := by decide +kernel
theorem dX2_mostToBlame_54 : decode cX2_mostToBlame 54 = .ok (.iadd, 1) := by decide +kernel
theorem dX2_mostToBlame_55 : decode cX2_mostToBlame 55 = .ok (.iastore, 1) := by decide +kernel
theorem dX2_mostToBlame_56 : decode cX2_mostToBlame 56 = .ok (.iinc 2 1, 3) := by decide +kernel
theorem dX2_mostToBlame_59 : decode cX2_mostToBlame 59 = .ok (.goto (-36), 3) := by decide +kernel
theorem dX2_mostToBlame_62 : decode cX2_mostToBlame 62 = .ok (.iconst 0, 1) := by decide +kernel
theorem dX2_mostToBlame_63 : decode cX2_mostToBlame 63 = .ok (.istore_n 2, 1) := by decide +kernel
theorem dX2_mostToBlame_64 : decode cX2_mostToBlame 64 = .ok (.iconst 1, 1) := by decide +kernel
theorem dX2_mostToBlame_65 : decode cX2_mostToBlame 65 = .ok (.istore_n 3, 1) := by decide +kernel
theorem dX2_mostToBlame_66 : decode cX2_mostToBlame 66 = .ok (.iload_n 3, 1) := by decide +kernel
theorem dX2_mostToBlame_67 : decode cX2_mostToBlame 67 = .ok (.bipush 6, 2) := by decide +kernel
theorem dX2_mostToBlame_69 : decode cX2_mostToBlame 69 = .ok (.if_icmp .ge 26, 3) := by decide +kernel
theorem dX2_mostToBlame_72 : decode cX2_mostToBlame 72 = .ok (.aload_n 0, 1) := by decide +kernel
theorem dX2_mostToBlame_73 : decode cX2_mostToBlame 73 = .ok (.getfield 25, 3) := by decide +kernel
theorem dX2_mostToBlame_76 : decode cX2_mostToBlame 76 = .ok (.iload_n 3, 1) := by decide +kernel
theorem dX2_mostToBlame_77 : decode cX2_mostToBlame 77 = .ok (.iaload, 1) := by decide +kernel
theorem dX2_mostToBlame_78 : decode cX2_mostToBlame 78 = .ok (.aload_n 0, 1) := by decide +kernel
theorem dX2_mostToBlame_79 : decode cX2_mostToBlame 79 = .ok (.getfield 25, 3) := by decide +kernel
theorem dX2_mostToBlame_82 : decode cX2_mostToBlame 82 = .ok (.iload_n 2, 1) := by decide +kernel
theorem dX2_mostToBlame_83 : decode cX2_mostToBlame 83 = .ok (.iaload, 1) := by decide +kernel
theorem dX2_mostToBlame_84 : decode cX2_mostToBlame 84 = .ok (.if_icmp .le 5, 3) := by decide +kernel
theorem dX2_mostToBlame_87 : decode cX2_mostToBlame 87 = .ok (.iload_n 3, 1) := by decide +kernel
theorem dX2_mostToBlame_88 : decode cX2_mostToBlame 88 = .ok (.istore_n 2, 1) := by decide +kernel
theorem dX2_mostToBlame_89 : decode cX2_mostToBlame 89 = .ok (.iinc 3 1, 3) := by decide +kernel
theorem dX2_mostToBlame_92 : decode cX2_mostToBlame 92 = .ok (.goto (-26), 3) := by decide +kernel
theorem dX2_mostToBlame_95 : decode cX2_mostToBlame 95 = .ok (.aload_n 0, 1) := by decide +kernel
theorem dX2_mostToBlame_96 : decode cX2_mostToBlame 96 = .ok (.getfield 25, 3) := by decide +kernel
theorem dX2_mostToBlame_99 : decode cX2_mostToBlame 99 = .ok (.iload_n 2, 1) := by decide +kernel
theorem dX2_mostToBlame_100 : decode cX2_mostToBlame 100 = .ok (.iaload, 1) := by decide +kernel
theorem dX2_mostToBlame_101 : decode cX2_mostToBlame 101 = .ok (.ifCond .ne 8, 3) := by decide +kernel
theorem dX2_mostToBlame_104 : decode cX2_mostToBlame 104 = .ok (.bipush (-6), 2) := by decide +kernel
theorem dX2_mostToBlame_106 : decode cX2_mostToBlame 106 = .ok (.goto 4, 3) := by decide +kernel
theorem dX2_mostToBlame_109 : decode cX2_mostToBlame 109 = .ok (.iload_n 2, 1) := by decide +kernel
theorem dX2_mostToBlame_110 : decode cX2_mostToBlame 110 = .ok (.ireturn, 1) := by decide +kernel
theorem dX3_init_0 : decode cX3_init 0 = .ok (.aload_n 0, 1) := by decide +kernel
theorem dX3_init_1 : decode cX3_init 1 = .ok (.invokespecial 3, 3) := by decide +kernel
theorem dX3_init_4 : decode cX3_init 4 = .ok (.aload_n 0, 1) := by decide +kernel
theorem dX3_init_5 : decode cX3_init 5 = .ok (.aload_n 1, 1) := by decide +kernel
theorem dX3_init_6 : decode cX3_init 6 = .ok (.putfield 9, 3) := by decide +kernel
theorem dX3_init_9 : decode cX3_init 9 = .ok (.return_, 1) := by decide +kernel
theorem dX3_addAsk_0 : decode cX3_addAsk 0 = .ok (.aload_n 0, 1) := by decide +kernel
theorem dX3_addAsk_1 : decode cX3_addAsk 1 = .ok (.getfield 9, 3) := by decide +kernel
theorem dX3_addAsk_4 : decode cX3_addAsk 4 = .ok (.iload_n 1, 1) := by decide +kernel
theorem dX3_addAsk_5 : decode cX3_addAsk 5 = .ok (.invokevirtual 15, 3) := by decide +kernel
theorem dX3_addAsk_8 : decode cX3_addAsk 8 = .ok (.ifCond .eq 10, 3) := by decide +kernel
theorem dX3_addAsk_11 : decode cX3_addAsk 11 = .ok (.iload_n 2, 1) := by decide +kernel
theorem dX3_addAsk_12 : decode cX3_addAsk 12 = .ok (.invokestatic 21, 3) := by decide +kernel
theorem dX3_addAsk_15 : decode cX3_addAsk 15 = .ok (.ifCond .ne 5, 3) := by decide +kernel
theorem dX3_addAsk_18 : decode cX3_addAsk 18 = .ok (.iconst (-1), 1) := by decide +kernel
theorem dX3_addAsk_19 : decode cX3_addAsk 19 = .ok (.ireturn, 1) := by decide +kernel
theorem dX3_addAsk_20 : decode cX3_addAsk 20 = .ok (.iload_n 3, 1) := by decide +kernel
theorem dX3_addAsk_21 : decode cX3_addAsk 21 = .ok (.iload 4, 2) := by decide +kernel
theorem dX3_addAsk_23 : decode cX3_addAsk 23 = .ok (.invokestatic 24, 3) := by decide +kernel
theorem dX3_addAsk_26 : decode cX3_addAsk 26 = .ok (.ifCond .eq 6, 3) := by decide +kernel
theorem dX3_addAsk_29 : decode cX3_addAsk 29 = .ok (.bipush (-2), 2) := by decide +kernel
theorem dX3_addAsk_31 : decode cX3_addAsk 31 = .ok (.ireturn, 1) := by decide +kernel
theorem dX3_addAsk_32 : decode cX3_addAsk 32 = .ok (.aload_n 0, 1) := by decide +kernel
theorem dX3_addAsk_33 : decode cX3_addAsk 33 = .ok (.getfield 9, 3) := by decide +kernel
theorem dX3_addAsk_36 : decode cX3_addAsk 36 = .ok (.getfield 28, 3) := by decide +kernel
theorem dX3_addAsk_39 : decode cX3_addAsk 39 = .ok (.iload_n 1, 1) := by decide +kernel
theorem dX3_addAsk_40 : decode cX3_addAsk 40 = .ok (.iload_n 2, 1) := by decide +kernel
theorem dX3_addAsk_41 : decode cX3_addAsk 41 = .ok (.iload_n 3, 1) := by decide +kernel
theorem dX3_addAsk_42 : decode cX3_addAsk 42 = .ok (.iload 4, 2) := by decide +kernel
theorem dX3_addAsk_44 : decode cX3_addAsk 44 = .ok (.bipush (-6), 2) := by decide +kernel
theorem dX3_addAsk_46 : decode cX3_addAsk 46 = .ok (.invokevirtual 32, 3) := by decide +kernel
theorem dX3_addAsk_49 : decode cX3_addAsk 49 = .ok (.ireturn, 1) := by decide +kernel
theorem dX3_addBid_0 : decode cX3_addBid 0 = .ok (.aload_n 0, 1) := by decide +kernel
theorem dX3_addBid_1 : decode cX3_addBid 1 = .ok (.getfield 9, 3) := by decide +kernel
theorem dX3_addBid_4 : decode cX3_addBid 4 = .ok (.iload_n 1, 1) := by decide +kernel
theorem dX3_addBid_5 : decode cX3_addBid 5 = .ok (.invokevirtual 15, 3) := by decide +kernel
theorem dX3_addBid_8 : decode cX3_addBid 8 = .ok (.ifCond .eq 21, 3) := by decide +kernel
theorem dX3_addBid_11 : decode cX3_addBid 11 = .ok (.aload_n 0, 1) := by decide +kernel
theorem dX3_addBid_12 : decode cX3_addBid 12 = .ok (.getfield 9, 3) := by decide +kernel
theorem dX3_addBid_15 : decode cX3_addBid 15 = .ok (.iload_n 2, 1) := by decide +kernel
theorem dX3_addBid_16 : decode cX3_addBid 16 = .ok (.invokevirtual 15, 3) := by decide +kernel
theorem dX3_addBid_19 : decode cX3_addBid 19 = .ok (.ifCond .eq 10, 3) := by decide +kernel
theorem dX3_addBid_22 : decode cX3_addBid 22 = .ok (.iload_n 3, 1) := by decide +kernel
theorem dX3_addBid_23 : decode cX3_addBid 23 = .ok (.invokestatic 21, 3) := by decide +kernel
theorem dX3_addBid_26 : decode cX3_addBid 26 = .ok (.ifCond .ne 5, 3) := by decide +kernel
theorem dX3_addBid_29 : decode cX3_addBid 29 = .ok (.iconst (-1), 1) := by decide +kernel
theorem dX3_addBid_30 : decode cX3_addBid 30 = .ok (.ireturn, 1) := by decide +kernel
theorem dX3_addBid_31 : decode cX3_addBid 31 = .ok (.iload_n 1, 1) := by decide +kernel
theorem dX3_addBid_32 : decode cX3_addBid 32 = .ok (.iload_n 2, 1) := by decide +kernel
theorem dX3_addBid_33 : decode cX3_addBid 33 = .ok (.if_icmp .eq 13, 3) := by decide +kernel
theorem dX3_addBid_36 : decode cX3_addBid 36 = .ok (.iload 4, 2) := by decide +kernel
theorem dX3_addBid_38 : decode cX3_addBid 38 = .ok (.iload 5, 2) := by decide +kernel
theorem dX3_addBid_40 : decode cX3_addBid 40 = .ok (.invokestatic 24, 3) := by decide +kernel
theorem dX3_addBid_43 : decode cX3_addBid 43 = .ok (.ifCond .eq 6, 3) := by decide +kernel
theorem dX3_addBid_46 : decode cX3_addBid 46 = .ok (.bipush (-2), 2) := by decide +kernel
theorem dX3_addBid_48 : decode cX3_addBid 48 = .ok (.ireturn, 1) := by decide +kernel
theorem dX3_addBid_49 : decode cX3_addBid 49 = .ok (.aload_n 0, 1) := by decide +kernel
theorem dX3_addBid_50 : decode cX3_addBid 50 = .ok (.getfield 9, 3) := by decide +kernel
theorem dX3_addBid_53 : decode cX3_addBid 53 = .ok (.getfield 38, 3) := by decide +kernel
theorem dX3_addBid_56 : decode cX3_addBid 56 = .ok (.iload_n 2, 1) := by decide +kernel
theorem dX3_addBid_57 : decode cX3_addBid 57 = .ok (.iload_n 3, 1) := by decide +kernel
theorem dX3_addBid_58 : decode cX3_addBid 58 = .ok (.iload 4, 2) := by decide +kernel
theorem dX3_addBid_60 : decode cX3_addBid 60 = .ok (.iload 5, 2) := by decide +kernel
theorem dX3_addBid_62 : decode cX3_addBid 62 = .ok (.iload_n 1, 1) := by decide +kernel
theorem dX3_addBid_63 : decode cX3_addBid 63 = .ok (.invokevirtual 32, 3) := by decide +kernel
theorem dX3_addBid_66 : decode cX3_addBid 66 = .ok (.ireturn, 1) := by decide +kernel
theorem dX3_isBadOffer_0 : decode cX3_isBadOffer 0 = .ok (.iload_n 0, 1) := by decide +kernel
theorem dX3_isBadOffer_1 : decode cX3_isBadOffer 1 = .ok (.iconst 1, 1) := by decide +kernel
theorem dX3_isBadOffer_2 : decode cX3_isBadOffer 2 = .ok (.sipush 200, 3) := by decide +kernel
theorem dX3_isBadOffer_5 : decode cX3_isBadOffer 5 = .ok (.invokestatic 41, 3) := by decide +kernel
theorem dX3_isBadOffer_8 : decode cX3_isBadOffer 8 = .ok (.ifCond .ne 14, 3) := by decide +kernel
theorem dX3_isBadOffer_11 : decode cX3_isBadOffer 11 = .ok (.iload_n 1, 1) := by decide +kernel
theorem dX3_isBadOffer_12 : decode cX3_isBadOffer 12 = .ok (.iconst 0, 1) := by decide +kernel
theorem dX3_isBadOffer_13 : decode cX3_isBadOffer 13 = .ok (.sipush 999, 3) := by decide +kernel
theorem dX3_isBadOffer_16 : decode cX3_isBadOffer 16 = .ok (.invokestatic 41, 3) := by decide +kernel
theorem dX3_isBadOffer_19 : decode cX3_isBadOffer 19 = .ok (.ifCond .eq 7, 3) := by decide +kernel
theorem dX3_isBadOffer_22 : decode cX3_isBadOffer 22 = .ok (.iconst 1, 1) := by decide +kernel
theorem dX3_isBadOffer_23 : decode cX3_isBadOffer 23 = .ok (.goto 4, 3) := by decide +kernel
theorem dX3_isBadOffer_26 : decode cX3_isBadOffer 26 = .ok (.iconst 0, 1) := by decide +kernel
theorem dX3_isBadOffer_27 : decode cX3_isBadOffer 27 = .ok (.ireturn, 1) := by decide +kernel
theorem dX3_tradeAll_0 : decode cX3_tradeAll 0 = .ok (.aload_n 0, 1) := by decide +kernel
theorem dX3_tradeAll_1 : decode cX3_tradeAll 1 = .ok (.getfield 9, 3) := by decide +kernel
theorem dX3_tradeAll_4 : decode cX3_tradeAll 4 = .ok (.getfield 38, 3) := by decide +kernel
theorem dX3_tradeAll_7 : decode cX3_tradeAll 7 = .ok (.astore_n 1, 1) := by decide +kernel
theorem dX3_tradeAll_8 : decode cX3_tradeAll 8 = .ok (.aload_n 1, 1) := by decide +kernel
theorem dX3_tradeAll_9 : decode cX3_tradeAll 9 = .ok (.iconst (-1), 1) := by decide +kernel
theorem dX3_tradeAll_10 : decode cX3_tradeAll 10 = .ok (.invokevirtual 45, 3) := by decide +kernel
theorem dX3_tradeAll_13 : decode cX3_tradeAll 13 = .ok (.aload_n 0, 1) := by decide +kernel
theorem dX3_tradeAll_14 : decode cX3_tradeAll 14 = .ok (.getfield 9, 3) := by decide +kernel
theorem dX3_tradeAll_17 : decode cX3_tradeAll 17 = .ok (.getfield 28, 3) := by decide +kernel
theorem dX3_tradeAll_20 : decode cX3_tradeAll 20 = .ok (.iconst 1, 1) := by decide +kernel
theorem dX3_tradeAll_21 : decode cX3_tradeAll 21 = .ok (.invokevirtual 45, 3) := by decide +kernel
theorem dX3_tradeAll_24 : decode cX3_tradeAll 24 = .ok (.iconst 0, 1) := by decide +kernel
theorem dX3_tradeAll_25 : decode cX3_tradeAll 25 = .ok (.istore_n 2, 1) := by decide +kernel
theorem dX3_tradeAll_26 : decode cX3_tradeAll 26 = .ok (.iconst 0, 1) := by decide +kernel
theorem dX3_tradeAll_27 : decode cX3_tradeAll 27 = .ok (.istore_n 3, 1) := by decide +kernel
theorem dX3_tradeAll_28 : decode cX3_tradeAll 28 = .ok (.iload_n 3, 1) := by decide +kernel
theorem dX3_tradeAll_29 : decode cX3_tradeAll 29 = .ok (.aload_n 1, 1) := by decide +kernel
theorem dX3_tradeAll_30 : decode cX3_tradeAll 30 = .ok (.getfield 49, 3) := by decide +kernel
theorem dX3_tradeAll_33 : decode cX3_tradeAll 33 = .ok (.if_icmp .ge 22, 3) := by decide +kernel
theorem dX3_tradeAll_36 : decode cX3_tradeAll 36 = .ok (.iload_n 2, 1) := by decide +kernel
theorem dX3_tradeAll_37 : decode cX3_tradeAll 37 = .ok (.aload_n 0, 1) := by decide +kernel
theorem dX3_tradeAll_38 : decode cX3_tradeAll 38 = .ok (.aload_n 1, 1) := by decide +kernel
theorem dX3_tradeAll_39 : decode cX3_tradeAll 39 = .ok (.getfield 53, 3) := by decide +kernel
theorem dX3_tradeAll_42 : decode cX3_tradeAll 42 = .ok (.iload_n 3, 1) := by decide +kernel
theorem dX3_tradeAll_43 : decode cX3_tradeAll 43 = .ok (.iaload, 1) := by decide +kernel
theorem dX3_tradeAll_44 : decode cX3_tradeAll 44 = .ok (.invokevirtual 57, 3) := by decide +kernel
theorem dX3_tradeAll_47 : decode cX3_tradeAll 47 = .ok (.iadd, 1) := by decide +kernel
theorem dX3_tradeAll_48 : decode cX3_tradeAll 48 = .ok (.istore_n 2, 1) := by decide +kernel
theorem dX3_tradeAll_49 : decode cX3_tradeAll 49 = .ok (.iinc 3 1, 3) := by decide +kernel
theorem dX3_tradeAll_52 : decode cX3_tradeAll 52 = .ok (.goto (-24), 3) := by decide +kernel
theorem dX3_tradeAll_55 : decode cX3_tradeAll 55 = .ok (.aload_n 1, 1) := by decide +kernel
theorem dX3_tradeAll_56 : decode cX3_tradeAll 56 = .ok (.invokevirtual 61, 3) := by decide +kernel
theorem dX3_tradeAll_59 : decode cX3_tradeAll 59 = .ok (.aload_n 0, 1) := by decide +kernel
theorem dX3_tradeAll_60 : decode cX3_tradeAll 60 = .ok (.getfield 9, 3) := by decide +kernel
theorem dX3_tradeAll_63 : decode cX3_tradeAll 63 = .ok (.getfield 28, 3) := by decide +kernel
theorem dX3_tradeAll_66 : decode cX3_tradeAll 66 = .ok (.invokevirtual 61, 3) := by decide +kernel
theorem dX3_tradeAll_69 : decode cX3_tradeAll 69 = .ok (.aload_n 0, 1) := by decide +kernel
theorem dX3_tradeAll_70 : decode cX3_tradeAll 70 = .ok (.getfield 9, 3) := by decide +kernel
theorem dX3_tradeAll_73 : decode cX3_tradeAll 73 = .ok (.dup, 1) := by decide +kernel
theorem dX3_tradeAll_74 : decode cX3_tradeAll 74 = .ok (.getfield 64, 3) := by decide +kernel
theorem dX3_tradeAll_77 : decode cX3_tradeAll 77 = .ok (.iload_n 2, 1) := by decide +kernel
theorem dX3_tradeAll_78 : decode cX3_tradeAll 78 = .ok (.iadd, 1) := by decide +kernel
theorem dX3_tradeAll_79 : decode cX3_tradeAll 79 = .ok (.putfield 64, 3) := by decide +kernel
theorem dX3_tradeAll_82 : decode cX3_tradeAll 82 = .ok (.iload_n 2, 1) := by decide +kernel
theorem dX3_tradeAll_83 : decode cX3_tradeAll 83 = .ok (.ireturn, 1) := by decide +kernel
theorem dX3_serve_0 : decode cX3_serve 0 = .ok (.iconst 0, 1) := by decide +kernel
theorem dX3_serve_1 : decode cX3_serve 1 = .ok (.istore_n 2, 1) := by decide +kernel
theorem dX3_serve_2 : decode cX3_serve 2 = .ok (.iconst 0, 1) := by decide +kernel
theorem dX3_serve_3 : decode cX3_serve 3 = .ok (.istore_n 3, 1) := by decide +kernel
theorem dX3_serve_4 : decode cX3_serve 4 = .ok (.iload_n 3, 1) := by decide +kernel
theorem dX3_serve_5 : decode cX3_serve 5 = .ok (.aload_n 0, 1) := by decide +kernel
theorem dX3_serve_6 : decode cX3_serve 6 = .ok (.getfield 9, 3) := by decide +kernel
theorem dX3_serve_9 : decode cX3_serve 9 = .ok (.getfield 28, 3) := by decide +kernel
theorem dX3_serve_12 : decode cX3_serve 12 = .ok (.getfield 49, 3) := by decide +kernel
theorem dX3_serve_15 : decode cX3_serve 15 = .ok (.if_icmp .ge 43, 3) := by decide +kernel
theorem dX3_serve_18 : decode cX3_serve 18 = .ok (.aload_n 0, 1) := by decide +kernel
theorem dX3_serve_19 : decode cX3_serve 19 = .ok (.getfield 9, 3) := by decide +kernel
theorem dX3_serve_22 : decode cX3_serve 22 = .ok (.getfield 28, 3) := by decide +kernel
theorem dX3_serve_25 : decode cX3_serve 25 = .ok (.getfield 53, 3) := by decide +kernel
theorem dX3_serve_28 : decode cX3_serve 28 = .ok (.iload_n 3, 1) := by decide +kernel
theorem dX3_serve_29 : decode cX3_serve 29 = .ok (.iaload, 1) := by decide +kernel
theorem dX3_serve_30 : decode cX3_serve 30 = .ok (.istore 4, 2) := by decide +kernel
theorem dX3_serve_32 : decode cX3_serve 32 = .ok (.aload_n 0, 1) := by decide +kernel
theorem dX3_serve_33 : decode cX3_serve 33 = .ok (.iload_n 1, 1) := by decide +kernel
theorem dX3_serve_34 : decode cX3_serve 34 = .ok (.iload 4, 2) := by decide +kernel
theorem dX3_serve_36 : decode cX3_serve 36 = .ok (.invokevirtual 67, 3) := by decide +kernel
theorem dX3_serve_39 : decode cX3_serve 39 = .ok (.ifCond .eq 13, 3) := by decide +kernel
theorem dX3_serve_42 : decode cX3_serve 42 = .ok (.iload_n 2, 1) := by decide +kernel
theorem dX3_serve_43 : decode cX3_serve 43 = .ok (.aload_n 0, 1) := by decide +kernel
theorem dX3_serve_44 : decode cX3_serve 44 = .ok (.iload_n 1, 1) := by decide +kernel
theorem dX3_serve_45 : decode cX3_serve 45 = .ok (.iload 4, 2) := by decide +kernel
theorem dX3_serve_47 : decode cX3_serve 47 = .ok (.invokevirtual 70, 3) := by decide +kernel
theorem dX3_serve_50 : decode cX3_serve 50 = .ok (.iadd, 1) := by decide +kernel
theorem dX3_serve_51 : decode cX3_serve 51 = .ok (.istore_n 2, 1) := by decide +kernel
theorem dX3_serve_52 : decode cX3_serve 52 = .ok (.iinc 3 1, 3) := by decide +kernel
theorem dX3_serve_55 : decode cX3_serve 55 = .ok (.goto (-51), 3) := by decide +kernel
theorem dX3_serve_58 : decode cX3_serve 58 = .ok (.iload_n 2, 1) := by decide +kernel
theorem dX3_serve_59 : decode cX3_serve 59 = .ok (.ireturn, 1) := by decide +kernel
theorem dX3_suits_0 : decode cX3_suits 0 = .ok (.aload_n 0, 1) := by decide +kernel
theorem dX3_suits_1 : decode cX3_suits 1 = .ok (.getfield 9, 3) := by decide +kernel
theorem dX3_suits_4 : decode cX3_suits 4 = .ok (.getfield 28, 3) := by decide +kernel
theorem dX3_suits_7 : decode cX3_suits 7 = .ok (.astore_n 3, 1) := by decide +kernel
theorem dX3_suits_8 : decode cX3_suits 8 = .ok (.aload_n 0, 1) := by decide +kernel
theorem dX3_suits_9 : decode cX3_suits 9 = .ok (.getfield 9, 3) := by decide +kernel
theorem dX3_suits_12 : decode cX3_suits 12 = .ok (.getfield 38, 3) := by decide +kernel
theorem dX3_suits_15 : decode cX3_suits 15 = .ok (.astore 4, 2) := by decide +kernel
theorem dX3_suits_17 : decode cX3_suits 17 = .ok (.aload_n 3, 1) := by decide +kernel
theorem dX3_suits_18 : decode cX3_suits 18 = .ok (.iload_n 2, 1) := by decide +kernel
theorem dX3_suits_19 : decode cX3_suits 19 = .ok (.iconst 0, 1) := by decide +kernel
theorem dX3_suits_20 : decode cX3_suits 20 = .ok (.invokevirtual 74, 3) := by decide +kernel
theorem dX3_suits_23 : decode cX3_suits 23 = .ok (.aload 4, 2) := by decide +kernel
theorem dX3_suits_25 : decode cX3_suits 25 = .ok (.iload_n 1, 1) := by decide +kernel
theorem dX3_suits_26 : decode cX3_suits 26 = .ok (.iconst 0, 1) := by decide +kernel
theorem dX3_suits_27 : decode cX3_suits 27 = .ok (.invokevirtual 74, 3) := by decide +kernel
theorem dX3_suits_30 : decode cX3_suits 30 = .ok (.if_icmp .ne 39, 3) := by decide +kernel
theorem dX3_suits_33 : decode cX3_suits 33 = .ok (.aload_n 3, 1) := by decide +kernel
theorem dX3_suits_34 : decode cX3_suits 34 = .ok (.iload_n 2, 1) := by decide +kernel
theorem dX3_suits_35 : decode cX3_suits 35 = .ok (.iconst 1, 1) := by decide +kernel
theorem dX3_suits_36 : decode cX3_suits 36 = .ok (.invokevirtual 74, 3) := by decide +kernel
theorem dX3_suits_39 : decode cX3_suits 39 = .ok (.aload 4, 2) := by decide +kernel
theorem dX3_suits_41 : decode cX3_suits 41 = .ok (.iload_n 1, 1) := by decide +kernel
theorem dX3_suits_42 : decode cX3_suits 42 = .ok (.iconst 1, 1) := by decide +kernel
theorem dX3_suits_43 : decode cX3_suits 43 = .ok (.invokevirtual 74, 3) := by decide +kernel
theorem dX3_suits_46 : decode cX3_suits 46 = .ok (.if_icmp .ne 23, 3) := by decide +kernel
theorem dX3_suits_49 : decode cX3_suits 49 = .ok (.aload_n 3, 1) := by decide +kernel
theorem dX3_suits_50 : decode cX3_suits 50 = .ok (.iload_n 2, 1) := by decide +kernel
theorem dX3_suits_51 : decode cX3_suits 51 = .ok (.iconst 3, 1) := by decide +kernel
theorem dX3_suits_52 : decode cX3_suits 52 = .ok (.invokevirtual 74, 3) := by decide +kernel
theorem dX3_suits_55 : decode cX3_suits 55 = .ok (.aload 4, 2) := by decide +kernel
theorem dX3_suits_57 : decode cX3_suits 57 = .ok (.iload_n 1, 1) := by decide +kernel
theorem dX3_suits_58 : decode cX3_suits 58 = .ok (.iconst 3, 1) := by decide +kernel
theorem dX3_suits_59 : decode cX3_suits 59 = .ok (.invokevirtual 74, 3) := by decide +kernel
theorem dX3_suits_62 : decode cX3_suits 62 = .ok (.if_icmp .gt 7, 3) := by decide +kernel
theorem dX3_suits_65 : decode cX3_suits 65 = .ok (.iconst 1, 1) := by decide +kernel
theorem dX3_suits_66 : decode cX3_suits 66 = .ok (.goto 4, 3) := by decide +kernel
theorem dX3_suits_69 : decode cX3_suits 69 = .ok (.iconst 0, 1) := by decide +kernel
theorem dX3_suits_70 : decode cX3_suits 70 = .ok (.ireturn, 1) := by decide +kernel
theorem dX3_trade_0 : decode cX3_trade 0 = .ok (.aload_n 0, 1) := by decide +kernel
theorem dX3_trade_1 : decode cX3_trade 1 = .ok (.getfield 9, 3) := by decide +kernel
theorem dX3_trade_4 : decode cX3_trade 4 = .ok (.getfield 38, 3) := by decide +kernel
theorem dX3_trade_7 : decode cX3_trade 7 = .ok (.iload_n 1, 1) := by decide +kernel
theorem dX3_trade_8 : decode cX3_trade 8 = .ok (.iconst 4, 1) := by decide +kernel
theorem dX3_trade_9 : decode cX3_trade 9 = .ok (.invokevirtual 74, 3) := by decide +kernel
theorem dX3_trade_12 : decode cX3_trade 12 = .ok (.istore_n 3, 1) := by decide +kernel
theorem dX3_trade_13 : decode cX3_trade 13 = .ok (.aload_n 0, 1) := by decide +kernel
theorem dX3_trade_14 : decode cX3_trade 14 = .ok (.getfield 9, 3) := by decide +kernel
theorem dX3_trade_17 : decode cX3_trade 17 = .ok (.getfield 28, 3) := by decide +kernel
theorem dX3_trade_20 : decode cX3_trade 20 = .ok (.iload_n 2, 1) := by decide +kernel
theorem dX3_trade_21 : decode cX3_trade 21 = .ok (.iconst 0, 1) := by decide +kernel
theorem dX3_trade_22 : decode cX3_trade 22 = .ok (.invokevirtual 74, 3) := by decide +kernel
theorem dX3_trade_25 : decode cX3_trade 25 = .ok (.istore 4, 2) := by decide +kernel
theorem dX3_trade_27 : decode cX3_trade 27 = .ok (.iload_n 3, 1) := by decide +kernel
theorem dX3_trade_28 : decode cX3_trade 28 = .ok (.iload 4, 2) := by decide +kernel
theorem dX3_trade_30 : decode cX3_trade 30 = .ok (.aload_n 0, 1) := by decide +kernel
theorem dX3_trade_31 : decode cX3_trade 31 = .ok (.getfield 9, 3) := by decide +kernel
theorem dX3_trade_34 : decode cX3_trade 34 = .ok (.getfield 28, 3) := by decide +kernel
theorem dX3_trade_37 : decode cX3_trade 37 = .ok (.iload_n 2, 1) := by decide +kernel
theorem dX3_trade_38 : decode cX3_trade 38 = .ok (.iconst 1, 1) := by decide +kernel
theorem dX3_trade_39 : decode cX3_trade 39 = .ok (.invokevirtual 74, 3) := by decide +kernel
theorem dX3_trade_42 : decode cX3_trade 42 = .ok (.invokestatic 77, 3) := by decide +kernel
theorem dX3_trade_45 : decode cX3_trade 45 = .ok (.istore 5, 2) := by decide +kernel
theorem dX3_trade_47 : decode cX3_trade 47 = .ok (.aload_n 0, 1) := by decide +kernel
theorem dX3_trade_48 : decode cX3_trade 48 = .ok (.getfield 9, 3) := by decide +kernel
theorem dX3_trade_51 : decode cX3_trade 51 = .ok (.getfield 38, 3) := by decide +kernel
theorem dX3_trade_54 : decode cX3_trade 54 = .ok (.iload_n 1, 1) := by decide +kernel
theorem dX3_trade_55 : decode cX3_trade 55 = .ok (.iconst 2, 1) := by decide +kernel
theorem dX3_trade_56 : decode cX3_trade 56 = .ok (.invokevirtual 74, 3) := by decide +kernel
theorem dX3_trade_59 : decode cX3_trade 59 = .ok (.aload_n 0, 1) := by decide +kernel
theorem dX3_trade_60 : decode cX3_trade 60 = .ok (.getfield 9, 3) := by decide +kernel
theorem dX3_trade_63 : decode cX3_trade 63 = .ok (.getfield 28, 3) := by decide +kernel
theorem dX3_trade_66 : decode cX3_trade 66 = .ok (.iload_n 2, 1) := by decide +kernel
theorem dX3_trade_67 : decode cX3_trade 67 = .ok (.iconst 2, 1) := by decide +kernel
theorem dX3_trade_68 : decode cX3_trade 68 = .ok (.invokevirtual 74, 3) := by decide +kernel
theorem dX3_trade_71 : decode cX3_trade 71 = .ok (.invokestatic 81, 3) := by decide +kernel
theorem dX3_trade_74 : decode cX3_trade 74 = .ok (.istore 6, 2) := by decide +kernel
theorem dX3_trade_76 : decode cX3_trade 76 = .ok (.iload 6, 2) := by decide +kernel
theorem dX3_trade_78 : decode cX3_trade 78 = .ok (.sipush 999, 3) := by decide +kernel
theorem dX3_trade_81 : decode cX3_trade 81 = .ok (.aload_n 0, 1) := by decide +kernel
theorem dX3_trade_82 : decode cX3_trade 82 = .ok (.getfield 9, 3) := by decide +kernel
theorem dX3_trade_85 : decode cX3_trade 85 = .ok (.getfield 86, 3) := by decide +kernel
theorem dX3_trade_88 : decode cX3_trade 88 = .ok (.iload 5, 2) := by decide +kernel
theorem dX3_trade_90 : decode cX3_trade 90 = .ok (.iaload, 1) := by decide +kernel
theorem dX3_trade_91 : decode cX3_trade 91 = .ok (.isub, 1) := by decide +kernel
theorem dX3_trade_92 : decode cX3_trade 92 = .ok (.invokestatic 81, 3) := by decide +kernel
theorem dX3_trade_95 : decode cX3_trade 95 = .ok (.istore 7, 2) := by decide +kernel
theorem dX3_trade_97 : decode cX3_trade 97 = .ok (.iload 7, 2) := by decide +kernel
theorem dX3_trade_99 : decode cX3_trade 99 = .ok (.aload_n 0, 1) := by decide +kernel
theorem dX3_trade_100 : decode cX3_trade 100 = .ok (.getfield 9, 3) := by decide +kernel
theorem dX3_trade_103 : decode cX3_trade 103 = .ok (.getfield 28, 3) := by decide +kernel
theorem dX3_trade_106 : decode cX3_trade 106 = .ok (.iload_n 2, 1) := by decide +kernel
theorem dX3_trade_107 : decode cX3_trade 107 = .ok (.iconst 3, 1) := by decide +kernel
theorem dX3_trade_108 : decode cX3_trade 108 = .ok (.invokevirtual 74, 3) := by decide +kernel
theorem dX3_trade_111 : decode cX3_trade 111 = .ok (.imul, 1) := by decide +kernel
theorem dX3_trade_112 : decode cX3_trade 112 = .ok (.istore 8, 2) := by decide +kernel
theorem dX3_trade_114 : decode cX3_trade 114 = .ok (.aload_n 0, 1) := by decide +kernel
theorem dX3_trade_115 : decode cX3_trade 115 = .ok (.getfield 9, 3) := by decide +kernel
theorem dX3_trade_118 : decode cX3_trade 118 = .ok (.getfield 86, 3) := by decide +kernel
theorem dX3_trade_121 : decode cX3_trade 121 = .ok (.iload 5, 2) := by decide +kernel
theorem dX3_trade_123 : decode cX3_trade 123 = .ok (.dup2, 1) := by decide +kernel
theorem dX3_trade_124 : decode cX3_trade 124 = .ok (.iaload, 1) := by decide +kernel
theorem dX3_trade_125 : decode cX3_trade 125 = .ok (.iload 7, 2) := by decide +kernel
theorem dX3_trade_127 : decode cX3_trade 127 = .ok (.iadd, 1) := by decide +kernel
theorem dX3_trade_128 : decode cX3_trade 128 = .ok (.iastore, 1) := by decide +kernel
theorem dX3_trade_129 : decode cX3_trade 129 = .ok (.aload_n 0, 1) := by decide +kernel
theorem dX3_trade_130 : decode cX3_trade 130 = .ok (.getfield 9, 3) := by decide +kernel
theorem dX3_trade_133 : decode cX3_trade 133 = .ok (.getfield 89, 3) := by decide +kernel
theorem dX3_trade_136 : decode cX3_trade 136 = .ok (.iload_n 3, 1) := by decide +kernel
theorem dX3_trade_137 : decode cX3_trade 137 = .ok (.dup2, 1) := by decide +kernel
theorem dX3_trade_138 : decode cX3_trade 138 = .ok (.iaload, 1) := by decide +kernel
theorem dX3_trade_139 : decode cX3_trade 139 = .ok (.iload 8, 2) := by decide +kernel
theorem dX3_trade_141 : decode cX3_trade 141 = .ok (.isub, 1) := by decide +kernel
theorem dX3_trade_142 : decode cX3_trade 142 = .ok (.iastore, 1) := by decide +kernel
theorem dX3_trade_143 : decode cX3_trade 143 = .ok (.aload_n 0, 1) := by decide +kernel
theorem dX3_trade_144 : decode cX3_trade 144 = .ok (.getfield 9, 3) := by decide +kernel
theorem dX3_trade_147 : decode cX3_trade 147 = .ok (.getfield 89, 3) := by decide +kernel
theorem dX3_trade_150 : decode cX3_trade 150 = .ok (.iload 4, 2) := by decide +kernel
theorem dX3_trade_152 : decode cX3_trade 152 = .ok (.dup2, 1) := by decide +kernel
theorem dX3_trade_153 : decode cX3_trade 153 = .ok (.iaload, 1) := by decide +kernel
theorem dX3_trade_154 : decode cX3_trade 154 = .ok (.iload 8, 2) := by decide +kernel
theorem dX3_trade_156 : decode cX3_trade 156 = .ok (.iadd, 1) := by decide +kernel
theorem dX3_trade_157 : decode cX3_trade 157 = .ok (.iastore, 1) := by decide +kernel
theorem dX3_trade_158 : decode cX3_trade 158 = .ok (.aload_n 0, 1) := by decide +kernel
theorem dX3_trade_159 : decode cX3_trade 159 = .ok (.getfield 9, 3) := by decide +kernel
theorem dX3_trade_162 : decode cX3_trade 162 = .ok (.getfield 38, 3) := by decide +kernel
theorem dX3_trade_165 : decode cX3_trade 165 = .ok (.iload_n 1, 1) := by decide +kernel
theorem dX3_trade_166 : decode cX3_trade 166 = .ok (.iload 7, 2) := by decide +kernel
theorem dX3_trade_168 : decode cX3_trade 168 = .ok (.invokevirtual 92, 3) := by decide +kernel
theorem dX3_trade_171 : decode cX3_trade 171 = .ok (.aload_n 0, 1) := by decide +kernel
theorem dX3_trade_172 : decode cX3_trade 172 = .ok (.getfield 9, 3) := by decide +kernel
theorem dX3_trade_175 : decode cX3_trade 175 = .ok (.getfield 28, 3) := by decide +kernel
theorem dX3_trade_178 : decode cX3_trade 178 = .ok (.iload_n 2, 1) := by decide +kernel
theorem dX3_trade_179 : decode cX3_trade 179 = .ok (.iload 7, 2) := by decide +kernel
theorem dX3_trade_181 : decode cX3_trade 181 = .ok (.invokevirtual 92, 3) := by decide +kernel
theorem dX3_trade_184 : decode cX3_trade 184 = .ok (.iload 7, 2) := by decide +kernel
theorem dX3_trade_186 : decode cX3_trade 186 = .ok (.ireturn, 1) := by decide +kernel
theorem dX4_init_0 : decode cX4_init 0 = .ok (.aload_n 0, 1) := by decide +kernel
theorem dX4_init_1 : decode cX4_init 1 = .ok (.invokespecial 3, 3) := by decide +kernel
theorem dX4_init_4 : decode cX4_init 4 = .ok (.aload_n 0, 1) := by decide +kernel
theorem dX4_init_5 : decode cX4_init 5 = .ok (.iconst 0, 1) := by decide +kernel
theorem dX4_init_6 : decode cX4_init 6 = .ok (.putfield 9, 3) := by decide +kernel
theorem dX4_init_9 : decode cX4_init 9 = .ok (.aload_n 0, 1) := by decide +kernel
theorem dX4_init_10 : decode cX4_init 10 = .ok (.bipush 50, 2) := by decide +kernel
theorem dX4_init_12 : decode cX4_init 12 = .ok (.newarray .int, 2) := by decide +kernel
theorem dX4_init_14 : decode cX4_init 14 = .ok (.putfield 15, 3) := by decide +kernel
theorem dX4_init_17 : decode cX4_init 17 = .ok (.aload_n 0, 1) := by decide +kernel
theorem dX4_init_18 : decode cX4_init 18 = .ok (.bipush 10, 2) := by decide +kernel
theorem dX4_init_20 : decode cX4_init 20 = .ok (.newarray .int, 2) := by decide +kernel
theorem dX4_init_22 : decode cX4_init 22 = .ok (.putfield 19, 3) := by decide +kernel
theorem dX4_init_25 : decode cX4_init 25 = .ok (.return_, 1) := by decide +kernel
theorem dX4_copyFrom_0 : decode cX4_copyFrom 0 = .ok (.aload_n 0, 1) := by decide +kernel
theorem dX4_copyFrom_1 : decode cX4_copyFrom 1 = .ok (.aload_n 1, 1) := by decide +kernel
theorem dX4_copyFrom_2 : decode cX4_copyFrom 2 = .ok (.getfield 9, 3) := by decide +kernel
theorem dX4_copyFrom_5 : decode cX4_copyFrom 5 = .ok (.putfield 9, 3) := by decide +kernel
theorem dX4_copyFrom_8 : decode cX4_copyFrom 8 = .ok (.aload_n 1, 1) := by decide +kernel
theorem dX4_copyFrom_9 : decode cX4_copyFrom 9 = .ok (.getfield 15, 3) := by decide +kernel
theorem dX4_copyFrom_12 : decode cX4_copyFrom 12 = .ok (.iconst 0, 1) := by decide +kernel
theorem dX4_copyFrom_13 : decode cX4_copyFrom 13 = .ok (.aload_n 0, 1) := by decide +kernel
theorem dX4_copyFrom_14 : decode cX4_copyFrom 14 = .ok (.getfield 15, 3) := by decide +kernel
theorem dX4_copyFrom_17 : decode cX4_copyFrom 17 = .ok (.iconst 0, 1) := by decide +kernel
theorem dX4_copyFrom_18 : decode cX4_copyFrom 18 = .ok (.bipush 50, 2) := by decide +kernel
theorem dX4_copyFrom_20 : decode cX4_copyFrom 20 = .ok (.invokestatic 22, 3) := by decide +kernel
theorem dX4_copyFrom_23 : decode cX4_copyFrom 23 = .ok (.return_, 1) := by decide +kernel
theorem dX4_has_0 : decode cX4_has 0 = .ok (.iload_n 1, 1) := by decide +kernel
theorem dX4_has_1 : decode cX4_has 1 = .ok (.iconst 0, 1) := by decide +kernel
theorem dX4_has_2 : decode cX4_has 2 = .ok (.aload_n 0, 1) := by decide +kernel
theorem dX4_has_3 : decode cX4_has 3 = .ok (.getfield 9, 3) := by decide +kernel
theorem dX4_has_6 : decode cX4_has 6 = .ok (.iconst 1, 1) := by decide +kernel
theorem dX4_has_7 : decode cX4_has 7 = .ok (.isub, 1) := by decide +kernel
theorem dX4_has_8 : decode cX4_has 8 = .ok (.invokestatic 28, 3) := by decide +kernel
theorem dX4_has_11 : decode cX4_has 11 = .ok (.ifCond .ne 7, 3) := by decide +kernel
theorem dX4_has_14 : decode cX4_has 14 = .ok (.iconst 1, 1) := by decide +kernel
theorem dX4_has_15 : decode cX4_has 15 = .ok (.goto 4, 3) := by decide +kernel
theorem dX4_has_18 : decode cX4_has 18 = .ok (.iconst 0, 1) := by decide +kernel
theorem dX4_has_19 : decode cX4_has 19 = .ok (.ireturn, 1) := by decide +kernel
theorem dX4_get_0 : decode cX4_get 0 = .ok (.aload_n 0, 1) := by decide +kernel
theorem dX4_get_1 : decode cX4_get 1 = .ok (.getfield 15, 3) := by decide +kernel
theorem dX4_get_4 : decode cX4_get 4 = .ok (.iload_n 1, 1) := by decide +kernel
theorem dX4_get_5 : decode cX4_get 5 = .ok (.iconst 5, 1) := by decide +kernel
theorem dX4_get_6 : decode cX4_get 6 = .ok (.imul, 1) := by decide +kernel
theorem dX4_get_7 : decode cX4_get 7 = .ok (.iload_n 2, 1) := by decide +kernel
theorem dX4_get_8 : decode cX4_get 8 = .ok (.iadd, 1) := by decide +kernel
theorem dX4_get_9 : decode cX4_get 9 = .ok (.iaload, 1) := by decide +kernel
theorem dX4_get_10 : decode cX4_get 10 = .ok (.ireturn, 1) := by decide +kernel
theorem dX4_add_0 : decode cX4_add 0 = .ok (.aload_n 0, 1) := by decide +kernel
theorem dX4_add_1 : decode cX4_add 1 = .ok (.getfield 9, 3) := by decide +kernel
theorem dX4_add_4 : decode cX4_add 4 = .ok (.bipush 10, 2) := by decide +kernel
theorem dX4_add_6 : decode cX4_add 6 = .ok (.if_icmp .lt 6, 3) := by decide +kernel
theorem dX4_add_9 : decode cX4_add 9 = .ok (.bipush (-4), 2) := by decide +kernel
theorem dX4_add_11 : decode cX4_add 11 = .ok (.ireturn, 1) := by decide +kernel
theorem dX4_add_12 : decode cX4_add 12 = .ok (.aload_n 0, 1) := by decide +kernel
theorem dX4_add_13 : decode cX4_add 13 = .ok (.getfield 9, 3) := by decide +kernel
theorem dX4_add_16 : decode cX4_add 16 = .ok (.iconst 5, 1) := by decide +kernel
theorem dX4_add_17 : decode cX4_add 17 = .ok (.imul, 1) := by decide +kernel
theorem dX4_add_18 : decode cX4_add 18 = .ok (.istore 6, 2) := by decide +kernel
theorem dX4_add_20 : decode cX4_add 20 = .ok (.aload_n 0, 1) := by decide +kernel
theorem dX4_add_21 : decode cX4_add 21 = .ok (.getfield 15, 3) := by decide +kernel
theorem dX4_add_24 : decode cX4_add 24 = .ok (.iload 6, 2) := by decide +kernel
theorem dX4_add_26 : decode cX4_add 26 = .ok (.iconst 0, 1) := by decide +kernel
theorem dX4_add_27 : decode cX4_add 27 = .ok (.iadd, 1) := by decide +kernel
theorem dX4_add_28 : decode cX4_add 28 = .ok (.iload_n 1, 1) := by decide +kernel
theorem dX4_add_29 : decode cX4_add 29 = .ok (.iastore, 1) := by decide +kernel
theorem dX4_add_30 : decode cX4_add 30 = .ok (.aload_n 0, 1) := by decide +kernel
theorem dX4_add_31 : decode cX4_add 31 = .ok (.getfield 15, 3) := by decide +kernel
theorem dX4_add_34 : decode cX4_add 34 = .ok (.iload 6, 2) := by decide +kernel
theorem dX4_add_36 : decode cX4_add 36 = .ok (.iconst 1, 1) := by decide +kernel
theorem dX4_add_37 : decode cX4_add 37 = .ok (.iadd, 1) := by decide +kernel
theorem dX4_add_38 : decode cX4_add 38 = .ok (.iload_n 2, 1) := by decide +kernel
theorem dX4_add_39 : decode cX4_add 39 = .ok (.iastore, 1) := by decide +kernel
theorem dX4_add_40 : decode cX4_add 40 = .ok (.aload_n 0, 1) := by decide +kernel
theorem dX4_add_41 : decode cX4_add 41 = .ok (.getfield 15, 3) := by decide +kernel
theorem dX4_add_44 : decode cX4_add 44 = .ok (.iload 6, 2) := by decide +kernel
theorem dX4_add_46 : decode cX4_add 46 = .ok (.iconst 2, 1) := by decide +kernel
theorem dX4_add_47 : decode cX4_add 47 = .ok (.iadd, 1) := by decide +kernel
theorem dX4_add_48 : decode cX4_add 48 = .ok (.iload_n 3, 1) := by decide +kernel
theorem dX4_add_49 : decode cX4_add 49 = .ok (.iastore, 1) := by decide +kernel
theorem dX4_add_50 : decode cX4_add 50 = .ok (.aload_n 0, 1) := by decide +kernel
theorem dX4_add_51 : decode cX4_add 51 = .ok (.getfield 15, 3) := by decide +kernel
theorem dX4_add_54 : decode cX4_add 54 = .ok (.iload 6, 2) := by decide +kernel
theorem dX4_add_56 : decode cX4_add 56 = .ok (.iconst 3, 1) := by decide +kernel
theorem dX4_add_57 : decode cX4_add 57 = .ok (.iadd, 1) := by decide +kernel
theorem dX4_add_58 : decode cX4_add 58 = .ok (.iload 4, 2) := by decide +kernel
theorem dX4_add_60 : decode cX4_add 60 = .ok (.iastore, 1) := by decide +kernel
theorem dX4_add_61 : decode cX4_add 61 = .ok (.aload_n 0, 1) := by decide +kernel
theorem dX4_add_62 : decode cX4_add 62 = .ok (.getfield 15, 3) := by decide +kernel
theorem dX4_add_65 : decode cX4_add 65 = .ok (.iload 6, 2) := by decide +kernel
theorem dX4_add_67 : decode cX4_add 67 = .ok (.iconst 4, 1) := by decide +kernel
theorem dX4_add_68 : decode cX4_add 68 = .ok (.iadd, 1) := by decide +kernel
theorem dX4_add_69 : decode cX4_add 69 = .ok (.iload 5, 2) := by decide +kernel
theorem dX4_add_71 : decode cX4_add 71 = .ok (.iastore, 1) := by decide +kernel
theorem dX4_add_72 : decode cX4_add 72 = .ok (.aload_n 0, 1) := by decide +kernel
theorem dX4_add_73 : decode cX4_add 73 = .ok (.dup, 1) := by decide +kernel
theorem dX4_add_74 : decode cX4_add 74 = .ok (.getfield 9, 3) := by decide +kernel
theorem dX4_add_77 : decode cX4_add 77 = .ok (.iconst 1, 1) := by decide +kernel
theorem dX4_add_78 : decode cX4_add 78 = .ok (.iadd, 1) := by decide +kernel
theorem dX4_add_79 : decode cX4_add 79 = .ok (.putfield 9, 3) := by decide +kernel
theorem dX4_add_82 : decode cX4_add 82 = .ok (.aload_n 0, 1) := by decide +kernel
theorem dX4_add_83 : decode cX4_add 83 = .ok (.getfield 9, 3) := by decide +kernel
theorem dX4_add_86 : decode cX4_add 86 = .ok (.ireturn, 1) := by decide +kernel
theorem dX4_remove_0 : decode cX4_remove 0 = .ok (.aload_n 0, 1) := by decide +kernel
theorem dX4_remove_1 : decode cX4_remove 1 = .ok (.iload_n 1, 1) := by decide +kernel
theorem dX4_remove_2 : decode cX4_remove 2 = .ok (.invokevirtual 32, 3) := by decide +kernel
theorem dX4_remove_5 : decode cX4_remove 5 = .ok (.ifCond .ne 5, 3) := by decide +kernel
theorem dX4_remove_8 : decode cX4_remove 8 = .ok (.iconst (-1), 1) := by decide +kernel
theorem dX4_remove_9 : decode cX4_remove 9 = .ok (.ireturn, 1) := by decide +kernel
theorem dX4_remove_10 : decode cX4_remove 10 = .ok (.aload_n 0, 1) := by decide +kernel
theorem dX4_remove_11 : decode cX4_remove 11 = .ok (.iload_n 1, 1) := by decide +kernel
theorem dX4_remove_12 : decode cX4_remove 12 = .ok (.invokevirtual 36, 3) := by decide +kernel
theorem dX4_remove_15 : decode cX4_remove 15 = .ok (.aload_n 0, 1) := by decide +kernel
theorem dX4_remove_16 : decode cX4_remove 16 = .ok (.getfield 9, 3) := by decide +kernel
theorem dX4_remove_19 : decode cX4_remove 19 = .ok (.ireturn, 1) := by decide +kernel
theorem dX4_close_0 : decode cX4_close 0 = .ok (.iload_n 1, 1) := by decide +kernel
theorem dX4_close_1 : decode cX4_close 1 = .ok (.iconst 1, 1) := by decide +kernel
theorem dX4_close_2 : decode cX4_close 2 = .ok (.iadd, 1) := by decide +kernel
theorem dX4_close_3 : decode cX4_close 3 = .ok (.iconst 5, 1) := by decide +kernel
theorem dX4_close_4 : decode cX4_close 4 = .ok (.imul, 1) := by decide +kernel
theorem dX4_close_5 : decode cX4_close 5 = .ok (.istore_n 2, 1) := by decide +kernel
theorem dX4_close_6 : decode cX4_close 6 = .ok (.aload_n 0, 1) := by decide +kernel
theorem dX4_close_7 : decode cX4_close 7 = .ok (.getfield 15, 3) := by decide +kernel
theorem dX4_close_10 : decode cX4_close 10 = .ok (.iload_n 2, 1) := by decide +kernel
theorem dX4_close_11 : decode cX4_close 11 = .ok (.aload_n 0, 1) := by decide +kernel
theorem dX4_close_12 : decode cX4_close 12 = .ok (.getfield 15, 3) := by decide +kernel
theorem dX4_close_15 : decode cX4_close 15 = .ok (.iload_n 2, 1) := by decide +kernel
theorem dX4_close_16 : decode cX4_close 16 = .ok (.iconst 5, 1) := by decide +kernel
theorem dX4_close_17 : decode cX4_close 17 = .ok (.isub, 1) := by decide +kernel
theorem dX4_close_18 : decode cX4_close 18 = .ok (.aload_n 0, 1) := by decide +kernel
theorem dX4_close_19 : decode cX4_close 19 = .ok (.getfield 9, 3) := by decide +kernel
theorem dX4_close_22 : decode cX4_close 22 = .ok (.iconst 5, 1) := by decide +kernel
theorem dX4_close_23 : decode cX4_close 23 = .ok (.imul, 1) := by decide +kernel
theorem dX4_close_24 : decode cX4_close 24 = .ok (.iload_n 2, 1) := by decide +kernel
theorem dX4_close_25 : decode cX4_close 25 = .ok (.isub, 1) := by decide +kernel
theorem dX4_close_26 : decode cX4_close 26 = .ok (.invokestatic 22, 3) := by decide +kernel
theorem dX4_close_29 : decode cX4_close 29 = .ok (.aload_n 0, 1) := by decide +kernel
theorem dX4_close_30 : decode cX4_close 30 = .ok (.dup, 1) := by decide +kernel
theorem dX4_close_31 : decode cX4_close 31 = .ok (.getfield 9, 3) := by decide +kernel
theorem dX4_close_34 : decode cX4_close 34 = .ok (.iconst 1, 1) := by decide +kernel
theorem dX4_close_35 : decode cX4_close 35 = .ok (.isub, 1) := by decide +kernel
theorem dX4_close_36 : decode cX4_close 36 = .ok (.putfield 9, 3) := by decide +kernel
theorem dX4_close_39 : decode cX4_close 39 = .ok (.return_, 1) := by decide +kernel
theorem dX4_take_0 : decode cX4_take 0 = .ok (.aload_n 0, 1) := by decide +kernel
theorem dX4_take_1 : decode cX4_take 1 = .ok (.getfield 15, 3) := by decide +kernel
theorem dX4_take_4 : decode cX4_take 4 = .ok (.iload_n 1, 1) := by decide +kernel
theorem dX4_take_5 : decode cX4_take 5 = .ok (.iconst 5, 1) := by decide +kernel
theorem dX4_take_6 : decode cX4_take 6 = .ok (.imul, 1) := by decide +kernel
theorem dX4_take_7 : decode cX4_take 7 = .ok (.iconst 2, 1) := by decide +kernel
theorem dX4_take_8 : decode cX4_take 8 = .ok (.iadd, 1) := by decide +kernel
theorem dX4_take_9 : decode cX4_take 9 = .ok (.dup2, 1) := by decide +kernel
theorem dX4_take_10 : decode cX4_take 10 = .ok (.iaload, 1) := by decide +kernel
theorem dX4_take_11 : decode cX4_take 11 = .ok (.iload_n 2, 1) := by decide +kernel
theorem dX4_take_12 : decode cX4_take 12 = .ok (.isub, 1) := by decide +kernel
theorem dX4_take_13 : decode cX4_take 13 = .ok (.iastore, 1) := by decide +kernel
theorem dX4_take_14 : decode cX4_take 14 = .ok (.return_, 1) := by decide +kernel
theorem dX4_removeEmpty_0 : decode cX4_removeEmpty 0 = .ok (.aload_n 0, 1) := by decide +kernel
theorem dX4_removeEmpty_1 : decode cX4_removeEmpty 1 = .ok (.getfield 9, 3) := by decide +kernel
theorem dX4_removeEmpty_4 : decode cX4_removeEmpty 4 = .ok (.iconst 1, 1) := by decide +kernel
theorem dX4_removeEmpty_5 : decode cX4_removeEmpty 5 = .ok (.isub, 1) := by decide +kernel
theorem dX4_removeEmpty_6 : decode cX4_removeEmpty 6 = .ok (.istore_n 1, 1) := by decide +kernel
theorem dX4_removeEmpty_7 : decode cX4_removeEmpty 7 = .ok (.iload_n 1, 1) := by decide +kernel
theorem dX4_removeEmpty_8 : decode cX4_removeEmpty 8 = .ok (.ifCond .lt 23, 3) := by decide +kernel
theorem dX4_removeEmpty_11 : decode cX4_removeEmpty 11 = .ok (.aload_n 0, 1) := by decide +kernel
theorem dX4_removeEmpty_12 : decode cX4_removeEmpty 12 = .ok (.iload_n 1, 1) := by decide +kernel
theorem dX4_removeEmpty_13 : decode cX4_removeEmpty 13 = .ok (.iconst 2, 1) := by decide +kernel
theorem dX4_removeEmpty_14 : decode cX4_removeEmpty 14 = .ok (.invokevirtual 40, 3) := by decide +kernel
theorem dX4_removeEmpty_17 : decode cX4_removeEmpty 17 = .ok (.ifCond .ne 8, 3) := by decide +kernel
theorem dX4_removeEmpty_20 : decode cX4_removeEmpty 20 = .ok (.aload_n 0, 1) := by decide +kernel
theorem dX4_removeEmpty_21 : decode cX4_removeEmpty 21 = .ok (.iload_n 1, 1) := by decide +kernel
theorem dX4_removeEmpty_22 : decode cX4_removeEmpty 22 = .ok (.invokevirtual 36, 3) := by decide +kernel
theorem dX4_removeEmpty_25 : decode cX4_removeEmpty 25 = .ok (.iinc 1 (-1), 3) := by decide +kernel
theorem dX4_removeEmpty_28 : decode cX4_removeEmpty 28 = .ok (.goto (-21), 3) := by decide +kernel
theorem dX4_removeEmpty_31 : decode cX4_removeEmpty 31 = .ok (.return_, 1) := by decide +kernel
theorem dX4_sortByPrice_0 : decode cX4_sortByPrice 0 = .ok (.iconst 0, 1) := by decide +kernel
theorem dX4_sortByPrice_1 : decode cX4_sortByPrice 1 = .ok (.istore_n 2, 1) := by decide +kernel
theorem dX4_sortByPrice_2 : decode cX4_sortByPrice 2 = .ok (.iload_n 2, 1) := by decide +kernel
theorem dX4_sortByPrice_3 : decode cX4_sortByPrice 3 = .ok (.aload_n 0, 1) := by decide +kernel
theorem dX4_sortByPrice_4 : decode cX4_sortByPrice 4 = .ok (.getfield 9, 3) := by decide +kernel
theorem dX4_sortByPrice_7 : decode cX4_sortByPrice 7 = .ok (.if_icmp .ge 76, 3) := by decide +kernel
theorem dX4_sortByPrice_10 : decode cX4_sortByPrice 10 = .ok (.iload_n 1, 1) := by decide +kernel
theorem dX4_sortByPrice_11 : decode cX4_sortByPrice 11 = .ok (.aload_n 0, 1) := by decide +kernel
theorem dX4_sortByPrice_12 : decode cX4_sortByPrice 12 = .ok (.iload_n 2, 1) := by decide +kernel
theorem dX4_sortByPrice_13 : decode cX4_sortByPrice 13 = .ok (.iconst 3, 1) := by decide +kernel
theorem dX4_sortByPrice_14 : decode cX4_sortByPrice 14 = .ok (.invokevirtual 40, 3) := by decide +kernel
theorem dX4_sortByPrice_17 : decode cX4_sortByPrice 17 = .ok (.imul, 1) := by decide +kernel
theorem dX4_sortByPrice_18 : decode cX4_sortByPrice 18 = .ok (.istore_n 3, 1) := by decide +kernel
theorem dX4_sortByPrice_19 : decode cX4_sortByPrice 19 = .ok (.iload_n 2, 1) := by decide +kernel
theorem dX4_sortByPrice_20 : decode cX4_sortByPrice 20 = .ok (.istore 4, 2) := by decide +kernel
theorem dX4_sortByPrice_22 : decode cX4_sortByPrice 22 = .ok (.iload 4, 2) := by decide +kernel
theorem dX4_sortByPrice_24 : decode cX4_sortByPrice 24 = .ok (.ifCond .le 45, 3) := by decide +kernel
theorem dX4_sortByPrice_27 : decode cX4_sortByPrice 27 = .ok (.iload_n 1, 1) := by decide +kernel
theorem dX4_sortByPrice_28 : decode cX4_sortByPrice 28 = .ok (.aload_n 0, 1) := by decide +kernel
theorem dX4_sortByPrice_29 : decode cX4_sortByPrice 29 = .ok (.aload_n 0, 1) := by decide +kernel
theorem dX4_sortByPrice_30 : decode cX4_sortByPrice 30 = .ok (.getfield 19, 3) := by decide +kernel
theorem dX4_sortByPrice_33 : decode cX4_sortByPrice 33 = .ok (.iload 4, 2) := by decide +kernel
theorem dX4_sortByPrice_35 : decode cX4_sortByPrice 35 = .ok (.iconst 1, 1) := by decide +kernel
theorem dX4_sortByPrice_36 : decode cX4_sortByPrice 36 = .ok (.isub, 1) := by decide +kernel
theorem dX4_sortByPrice_37 : decode cX4_sortByPrice 37 = .ok (.iaload, 1) := by decide +kernel
theorem dX4_sortByPrice_38 : decode cX4_sortByPrice 38 = .ok (.iconst 3, 1) := by decide +kernel
theorem dX4_sortByPrice_39 : decode cX4_sortByPrice 39 = .ok (.invokevirtual 40, 3) := by decide +kernel
theorem dX4_sortByPrice_42 : decode cX4_sortByPrice 42 = .ok (.imul, 1) := by decide +kernel
theorem dX4_sortByPrice_43 : decode cX4_sortByPrice 43 = .ok (.iload_n 3, 1) := by decide +kernel
theorem dX4_sortByPrice_44 : decode cX4_sortByPrice 44 = .ok (.if_icmp .le 25, 3) := by decide +kernel
theorem dX4_sortByPrice_47 : decode cX4_sortByPrice 47 = .ok (.aload_n 0, 1) := by decide +kernel
theorem dX4_sortByPrice_48 : decode cX4_sortByPrice 48 = .ok (.getfield 19, 3) := by decide +kernel
theorem dX4_sortByPrice_51 : decode cX4_sortByPrice 51 = .ok (.iload 4, 2) := by decide +kernel
theorem dX4_sortByPrice_53 : decode cX4_sortByPrice 53 = .ok (.aload_n 0, 1) := by decide +kernel
theorem dX4_sortByPrice_54 : decode cX4_sortByPrice 54 = .ok (.getfield 19, 3) := by decide +kernel
theorem dX4_sortByPrice_57 : decode cX4_sortByPrice 57 = .ok (.iload 4, 2) := by decide +kernel
theorem dX4_sortByPrice_59 : decode cX4_sortByPrice 59 = .ok (.iconst 1, 1) := by decide +kernel
theorem dX4_sortByPrice_60 : decode cX4_sortByPrice 60 = .ok (.isub, 1) := by decide +kernel
theorem dX4_sortByPrice_61 : decode cX4_sortByPrice 61 = .ok (.iaload, 1) := by decide +kernel
theorem dX4_sortByPrice_62 : decode cX4_sortByPrice 62 = .ok (.iastore, 1) := by decide +kernel
theorem dX4_sortByPrice_63 : decode cX4_sortByPrice 63 = .ok (.iinc 4 (-1), 3) := by decide +kernel
theorem dX4_sortByPrice_66 : decode cX4_sortByPrice 66 = .ok (.goto (-44), 3) := by decide +kernel
theorem dX4_sortByPrice_69 : decode cX4_sortByPrice 69 = .ok (.aload_n 0, 1) := by decide +kernel
theorem dX4_sortByPrice_70 : decode cX4_sortByPrice 70 = .ok (.getfield 19, 3) := by decide +kernel
theorem dX4_sortByPrice_73 : decode cX4_sortByPrice 73 = .ok (.iload 4, 2) := by decide +kernel
theorem dX4_sortByPrice_75 : decode cX4_sortByPrice 75 = .ok (.iload_n 2, 1) := by decide +kernel
theorem dX4_sortByPrice_76 : decode cX4_sortByPrice 76 = .ok (.iastore, 1) := by decide +kernel
theorem dX4_sortByPrice_77 : decode cX4_sortByPrice 77 = .ok (.iinc 2 1, 3) := by decide +kernel
theorem dX4_sortByPrice_80 : decode cX4_sortByPrice 80 = .ok (.goto (-78), 3) := by decide +kernel
theorem dX4_sortByPrice_83 : decode cX4_sortByPrice 83 = .ok (.return_, 1) := by decide +kernel
theorem dX5_init_0 : decode cX5_init 0 = .ok (.aload_n 0, 1) := by decide +kernel
theorem dX5_init_1 : decode cX5_init 1 = .ok (.invokespecial 3, 3) := by decide +kernel
theorem dX5_init_4 : decode cX5_init 4 = .ok (.aload_n 0, 1) := by decide +kernel
theorem dX5_init_5 : decode cX5_init 5 = .ok (.iconst 0, 1) := by decide +kernel
theorem dX5_init_6 : decode cX5_init 6 = .ok (.putfield 9, 3) := by decide +kernel
theorem dX5_init_9 : decode cX5_init 9 = .ok (.aload_n 0, 1) := by decide +kernel
theorem dX5_init_10 : decode cX5_init 10 = .ok (.bipush 109, 2) := by decide +kernel
theorem dX5_init_12 : decode cX5_init 12 = .ok (.putfield 15, 3) := by decide +kernel
theorem dX5_init_15 : decode cX5_init 15 = .ok (.aload_n 0, 1) := by decide +kernel
theorem dX5_init_16 : decode cX5_init 16 = .ok (.iconst 5, 1) := by decide +kernel
theorem dX5_init_17 : decode cX5_init 17 = .ok (.newarray .int, 2) := by decide +kernel
theorem dX5_init_19 : decode cX5_init 19 = .ok (.putfield 19, 3) := by decide +kernel
theorem dX5_init_22 : decode cX5_init 22 = .ok (.aload_n 0, 1) := by decide +kernel
theorem dX5_init_23 : decode cX5_init 23 = .ok (.iconst 0, 1) := by decide +kernel
theorem dX5_init_24 : decode cX5_init 24 = .ok (.putfield 23, 3) := by decide +kernel
theorem dX5_init_27 : decode cX5_init 27 = .ok (.aload_n 0, 1) := by decide +kernel
theorem dX5_init_28 : decode cX5_init 28 = .ok (.aload_n 1, 1) := by decide +kernel
theorem dX5_init_29 : decode cX5_init 29 = .ok (.putfield 26, 3) := by decide +kernel
theorem dX5_init_32 : decode cX5_init 32 = .ok (.return_, 1) := by decide +kernel
theorem dX5_start_0 : decode cX5_start 0 = .ok (.aload_n 0, 1) := by decide +kernel
theorem dX5_start_1 : decode cX5_start 1 = .ok (.iconst 0, 1) := by decide +kernel
theorem dX5_start_2 : decode cX5_start 2 = .ok (.putfield 9, 3) := by decide +kernel
theorem dX5_start_5 : decode cX5_start 5 = .ok (.return_, 1) := by decide +kernel
theorem dX5_findFault_0 : decode cX5_findFault 0 = .ok (.aload_n 0, 1) := by decide +kernel
theorem dX5_findFault_1 : decode cX5_findFault 1 = .ok (.invokevirtual 30, 3) := by decide +kernel
theorem dX5_findFault_4 : decode cX5_findFault 4 = .ok (.iconst 0, 1) := by decide +kernel
theorem dX5_findFault_5 : decode cX5_findFault 5 = .ok (.istore_n 1, 1) := by decide +kernel
theorem dX5_findFault_6 : decode cX5_findFault 6 = .ok (.iload_n 1, 1) := by decide +kernel
theorem dX5_findFault_7 : decode cX5_findFault 7 = .ok (.bipush 80, 2) := by decide +kernel
theorem dX5_findFault_9 : decode cX5_findFault 9 = .ok (.if_icmp .gt 52, 3) := by decide +kernel
theorem dX5_findFault_12 : decode cX5_findFault 12 = .ok (.aload_n 0, 1) := by decide +kernel
theorem dX5_findFault_13 : decode cX5_findFault 13 = .ok (.invokevirtual 33, 3) := by decide +kernel
theorem dX5_findFault_16 : decode cX5_findFault 16 = .ok (.ifCond .ne 8, 3) := by decide +kernel
theorem dX5_findFault_19 : decode cX5_findFault 19 = .ok (.aload_n 0, 1) := by decide +kernel
theorem dX5_findFault_20 : decode cX5_findFault 20 = .ok (.getfield 9, 3) := by decide +kernel
theorem dX5_findFault_23 : decode cX5_findFault 23 = .ok (.ireturn, 1) := by decide +kernel
theorem dX5_findFault_24 : decode cX5_findFault 24 = .ok (.aload_n 0, 1) := by decide +kernel
theorem dX5_findFault_25 : decode cX5_findFault 25 = .ok (.getfield 9, 3) := by decide +kernel
theorem dX5_findFault_28 : decode cX5_findFault 28 = .ok (.aload_n 0, 1) := by decide +kernel
theorem dX5_findFault_29 : decode cX5_findFault 29 = .ok (.getfield 26, 3) := by decide +kernel
theorem dX5_findFault_32 : decode cX5_findFault 32 = .ok (.getfield 37, 3) := by decide +kernel
theorem dX5_findFault_35 : decode cX5_findFault 35 = .ok (.if_icmp .lt 6, 3) := by decide +kernel
theorem dX5_findFault_38 : decode cX5_findFault 38 = .ok (.bipush (-6), 2) := by decide +kernel
theorem dX5_findFault_40 : decode cX5_findFault 40 = .ok (.ireturn, 1) := by decide +kernel
theorem dX5_findFault_41 : decode cX5_findFault 41 = .ok (.aload_n 0, 1) := by decide +kernel
theorem dX5_findFault_42 : decode cX5_findFault 42 = .ok (.bipush 59, 2) := by decide +kernel
theorem dX5_findFault_44 : decode cX5_findFault 44 = .ok (.invokevirtual 42, 3) := by decide +kernel
theorem dX5_findFault_47 : decode cX5_findFault 47 = .ok (.ifCond .ne 8, 3) := by decide +kernel
theorem dX5_findFault_50 : decode cX5_findFault 50 = .ok (.aload_n 0, 1) := by decide +kernel
theorem dX5_findFault_51 : decode cX5_findFault 51 = .ok (.getfield 9, 3) := by decide +kernel
theorem dX5_findFault_54 : decode cX5_findFault 54 = .ok (.ireturn, 1) := by decide +kernel
theorem dX5_findFault_55 : decode cX5_findFault 55 = .ok (.iinc 1 1, 3) := by decide +kernel
theorem dX5_findFault_58 : decode cX5_findFault 58 = .ok (.goto (-52), 3) := by decide +kernel
theorem dX5_findFault_61 : decode cX5_findFault 61 = .ok (.aload_n 0, 1) := by decide +kernel
theorem dX5_findFault_62 : decode cX5_findFault 62 = .ok (.getfield 9, 3) := by decide +kernel
theorem dX5_findFault_65 : decode cX5_findFault 65 = .ok (.ireturn, 1) := by decide +kernel
theorem dX5_readOrder_0 : decode cX5_readOrder 0 = .ok (.aload_n 0, 1) := by decide +kernel
theorem dX5_readOrder_1 : decode cX5_readOrder 1 = .ok (.iconst 0, 1) := by decide +kernel
theorem dX5_readOrder_2 : decode cX5_readOrder 2 = .ok (.putfield 23, 3) := by decide +kernel
theorem dX5_readOrder_5 : decode cX5_readOrder 5 = .ok (.aload_n 0, 1) := by decide +kernel
theorem dX5_readOrder_6 : decode cX5_readOrder 6 = .ok (.getfield 9, 3) := by decide +kernel
theorem dX5_readOrder_9 : decode cX5_readOrder 9 = .ok (.aload_n 0, 1) := by decide +kernel
theorem dX5_readOrder_10 : decode cX5_readOrder 10 = .ok (.getfield 26, 3) := by decide +kernel
theorem dX5_readOrder_13 : decode cX5_readOrder 13 = .ok (.getfield 37, 3) := by decide +kernel
theorem dX5_readOrder_16 : decode cX5_readOrder 16 = .ok (.if_icmp .ge 23, 3) := by decide +kernel
theorem dX5_readOrder_19 : decode cX5_readOrder 19 = .ok (.ldc 46, 2) := by decide +kernel
theorem dX5_readOrder_21 : decode cX5_readOrder 21 = .ok (.aload_n 0, 1) := by decide +kernel
theorem dX5_readOrder_22 : decode cX5_readOrder 22 = .ok (.getfield 26, 3) := by decide +kernel
theorem dX5_readOrder_25 : decode cX5_readOrder 25 = .ok (.getfield 48, 3) := by decide +kernel
theorem dX5_readOrder_28 : decode cX5_readOrder 28 = .ok (.aload_n 0, 1) := by decide +kernel
theorem dX5_readOrder_29 : decode cX5_readOrder 29 = .ok (.getfield 9, 3) := by decide +kernel
theorem dX5_readOrder_32 : decode cX5_readOrder 32 = .ok (.caload, 1) := by decide +kernel
theorem dX5_readOrder_33 : decode cX5_readOrder 33 = .ok (.invokevirtual 52, 3) := by decide +kernel
theorem dX5_readOrder_36 : decode cX5_readOrder 36 = .ok (.ifCond .ge 5, 3) := by decide +kernel
theorem dX5_readOrder_39 : decode cX5_readOrder 39 = .ok (.iconst 0, 1) := by decide +kernel
theorem dX5_readOrder_40 : decode cX5_readOrder 40 = .ok (.ireturn, 1) := by decide +kernel
theorem dX5_readOrder_41 : decode cX5_readOrder 41 = .ok (.aload_n 0, 1) := by decide +kernel
theorem dX5_readOrder_42 : decode cX5_readOrder 42 = .ok (.aload_n 0, 1) := by decide +kernel
theorem dX5_readOrder_43 : decode cX5_readOrder 43 = .ok (.getfield 26, 3) := by decide +kernel
theorem dX5_readOrder_46 : decode cX5_readOrder 46 = .ok (.getfield 48, 3) := by decide +kernel
theorem dX5_readOrder_49 : decode cX5_readOrder 49 = .ok (.aload_n 0, 1) := by decide +kernel
theorem dX5_readOrder_50 : decode cX5_readOrder 50 = .ok (.getfield 9, 3) := by decide +kernel
theorem dX5_readOrder_53 : decode cX5_readOrder 53 = .ok (.caload, 1) := by decide +kernel
theorem dX5_readOrder_54 : decode cX5_readOrder 54 = .ok (.putfield 15, 3) := by decide +kernel
theorem dX5_readOrder_57 : decode cX5_readOrder 57 = .ok (.aload_n 0, 1) := by decide +kernel
theorem dX5_readOrder_58 : decode cX5_readOrder 58 = .ok (.dup, 1) := by decide +kernel
theorem dX5_readOrder_59 : decode cX5_readOrder 59 = .ok (.getfield 9, 3) := by decide +kernel
theorem dX5_readOrder_62 : decode cX5_readOrder 62 = .ok (.iconst 1, 1) := by decide +kernel
theorem dX5_readOrder_63 : decode cX5_readOrder 63 = .ok (.iadd, 1) := by decide +kernel
theorem dX5_readOrder_64 : decode cX5_readOrder 64 = .ok (.putfield 9, 3) := by decide +kernel
theorem dX5_readOrder_67 : decode cX5_readOrder 67 = .ok (.aload_n 0, 1) := by decide +kernel
theorem dX5_readOrder_68 : decode cX5_readOrder 68 = .ok (.getfield 15, 3) := by decide +kernel
theorem dX5_readOrder_71 : decode cX5_readOrder 71 = .ok (.lookupswitch 164 #[(97, 105), (98, 126), (116, 41), (119, 72)], 41) := by decide +kernel
theorem dX5_readOrder_112 : decode cX5_readOrder 112 = .ok (.aload_n 0, 1) := by decide +kernel
theorem dX5_readOrder_113 : decode cX5_readOrder 113 = .ok (.iconst 5, 1) := by decide +kernel
theorem dX5_readOrder_114 : decode cX5_readOrder 114 = .ok (.invokevirtual 58, 3) := by decide +kernel
theorem dX5_readOrder_117 : decode cX5_readOrder 117 = .ok (.ifCond .eq 24, 3) := by decide +kernel
theorem dX5_readOrder_120 : decode cX5_readOrder 120 = .ok (.aload_n 0, 1) := by decide +kernel
theorem dX5_readOrder_121 : decode cX5_readOrder 121 = .ok (.bipush 61, 2) := by decide +kernel
theorem dX5_readOrder_123 : decode cX5_readOrder 123 = .ok (.invokevirtual 42, 3) := by decide +kernel
theorem dX5_readOrder_126 : decode cX5_readOrder 126 = .ok (.ifCond .eq 15, 3) := by decide +kernel
theorem dX5_readOrder_129 : decode cX5_readOrder 129 = .ok (.aload_n 0, 1) := by decide +kernel
theorem dX5_readOrder_130 : decode cX5_readOrder 130 = .ok (.iconst 4, 1) := by decide +kernel
theorem dX5_readOrder_131 : decode cX5_readOrder 131 = .ok (.invokevirtual 58, 3) := by decide +kernel
theorem dX5_readOrder_134 : decode cX5_readOrder 134 = .ok (.ifCond .eq 7, 3) := by decide +kernel
theorem dX5_readOrder_137 : decode cX5_readOrder 137 = .ok (.iconst 1, 1) := by decide +kernel
theorem dX5_readOrder_138 : decode cX5_readOrder 138 = .ok (.goto 4, 3) := by decide +kernel
theorem dX5_readOrder_141 : decode cX5_readOrder 141 = .ok (.iconst 0, 1) := by decide +kernel
theorem dX5_readOrder_142 : decode cX5_readOrder 142 = .ok (.ireturn, 1) := by decide +kernel
theorem dX5_readOrder_143 : decode cX5_readOrder 143 = .ok (.aload_n 0, 1) := by decide +kernel
theorem dX5_readOrder_144 : decode cX5_readOrder 144 = .ok (.bipush 9, 2) := by decide +kernel
theorem dX5_readOrder_146 : decode cX5_readOrder 146 = .ok (.invokevirtual 58, 3) := by decide +kernel
theorem dX5_readOrder_149 : decode cX5_readOrder 149 = .ok (.ifCond .eq 25, 3) := by decide +kernel
theorem dX5_readOrder_152 : decode cX5_readOrder 152 = .ok (.aload_n 0, 1) := by decide +kernel
theorem dX5_readOrder_153 : decode cX5_readOrder 153 = .ok (.bipush 61, 2) := by decide +kernel
theorem dX5_readOrder_155 : decode cX5_readOrder 155 = .ok (.invokevirtual 42, 3) := by decide +kernel
theorem dX5_readOrder_158 : decode cX5_readOrder 158 = .ok (.ifCond .eq 16, 3) := by decide +kernel
theorem dX5_readOrder_161 : decode cX5_readOrder 161 = .ok (.aload_n 0, 1) := by decide +kernel
theorem dX5_readOrder_162 : decode cX5_readOrder 162 = .ok (.bipush 9, 2) := by decide +kernel
theorem dX5_readOrder_164 : decode cX5_readOrder 164 = .ok (.invokevirtual 58, 3) := by decide +kernel
theorem dX5_readOrder_167 : decode cX5_readOrder 167 = .ok (.ifCond .eq 7, 3) := by decide +kernel
theorem dX5_readOrder_170 : decode cX5_readOrder 170 = .ok (.iconst 1, 1) := by decide +kernel
theorem dX5_readOrder_171 : decode cX5_readOrder 171 = .ok (.goto 4, 3) := by decide +kernel
theorem dX5_readOrder_174 : decode cX5_readOrder 174 = .ok (.iconst 0, 1) := by decide +kernel
theorem dX5_readOrder_175 : decode cX5_readOrder 175 = .ok (.ireturn, 1) := by decide +kernel
theorem dX5_readOrder_176 : decode cX5_readOrder 176 = .ok (.aload_n 0, 1) := by decide +kernel
theorem dX5_readOrder_177 : decode cX5_readOrder 177 = .ok (.iconst 5, 1) := by decide +kernel
theorem dX5_readOrder_178 : decode cX5_readOrder 178 = .ok (.invokevirtual 58, 3) := by decide +kernel
theorem dX5_readOrder_181 : decode cX5_readOrder 181 = .ok (.ifCond .eq 14, 3) := by decide +kernel
theorem dX5_readOrder_184 : decode cX5_readOrder 184 = .ok (.aload_n 0, 1) := by decide +kernel
theorem dX5_readOrder_185 : decode cX5_readOrder 185 = .ok (.invokevirtual 62, 3) := by decide +kernel
theorem dX5_readOrder_188 : decode cX5_readOrder 188 = .ok (.ifCond .eq 7, 3) := by decide +kernel
theorem dX5_readOrder_191 : decode cX5_readOrder 191 = .ok (.iconst 1, 1) := by decide +kernel
theorem dX5_readOrder_192 : decode cX5_readOrder 192 = .ok (.goto 4, 3) := by decide +kernel
theorem dX5_readOrder_195 : decode cX5_readOrder 195 = .ok (.iconst 0, 1) := by decide +kernel
theorem dX5_readOrder_196 : decode cX5_readOrder 196 = .ok (.ireturn, 1) := by decide +kernel
theorem dX5_readOrder_197 : decode cX5_readOrder 197 = .ok (.aload_n 0, 1) := by decide +kernel
theorem dX5_readOrder_198 : decode cX5_readOrder 198 = .ok (.iconst 5, 1) := by decide +kernel
theorem dX5_readOrder_199 : decode cX5_readOrder 199 = .ok (.invokevirtual 58, 3) := by decide +kernel
theorem dX5_readOrder_202 : decode cX5_readOrder 202 = .ok (.ifCond .eq 31, 3) := by decide +kernel
theorem dX5_readOrder_205 : decode cX5_readOrder 205 = .ok (.aload_n 0, 1) := by decide +kernel
theorem dX5_readOrder_206 : decode cX5_readOrder 206 = .ok (.bipush 62, 2) := by decide +kernel
theorem dX5_readOrder_208 : decode cX5_readOrder 208 = .ok (.invokevirtual 42, 3) := by decide +kernel
theorem dX5_readOrder_211 : decode cX5_readOrder 211 = .ok (.ifCond .eq 22, 3) := by decide +kernel
theorem dX5_readOrder_214 : decode cX5_readOrder 214 = .ok (.aload_n 0, 1) := by decide +kernel
theorem dX5_readOrder_215 : decode cX5_readOrder 215 = .ok (.iconst 5, 1) := by decide +kernel
theorem dX5_readOrder_216 : decode cX5_readOrder 216 = .ok (.invokevirtual 58, 3) := by decide +kernel
theorem dX5_readOrder_219 : decode cX5_readOrder 219 = .ok (.ifCond .eq 14, 3) := by decide +kernel
theorem dX5_readOrder_222 : decode cX5_readOrder 222 = .ok (.aload_n 0, 1) := by decide +kernel
theorem dX5_readOrder_223 : decode cX5_readOrder 223 = .ok (.invokevirtual 62, 3) := by decide +kernel
theorem dX5_readOrder_226 : decode cX5_readOrder 226 = .ok (.ifCond .eq 7, 3) := by decide +kernel
theorem dX5_readOrder_229 : decode cX5_readOrder 229 = .ok (.iconst 1, 1) := by decide +kernel
theorem dX5_readOrder_230 : decode cX5_readOrder 230 = .ok (.goto 4, 3) := by decide +kernel
theorem dX5_readOrder_233 : decode cX5_readOrder 233 = .ok (.iconst 0, 1) := by decide +kernel
theorem dX5_readOrder_234 : decode cX5_readOrder 234 = .ok (.ireturn, 1) := by decide +kernel
theorem dX5_readOrder_235 : decode cX5_readOrder 235 = .ok (.iconst 1, 1) := by decide +kernel
theorem dX5_readOrder_236 : decode cX5_readOrder 236 = .ok (.ireturn, 1) := by decide +kernel
theorem dX5_readTerms_0 : decode cX5_readTerms 0 = .ok (.aload_n 0, 1) := by decide +kernel
theorem dX5_readTerms_1 : decode cX5_readTerms 1 = .ok (.bipush 64, 2) := by decide +kernel
theorem dX5_readTerms_3 : decode cX5_readTerms 3 = .ok (.invokevirtual 42, 3) := by decide +kernel
theorem dX5_readTerms_6 : decode cX5_readTerms 6 = .ok (.ifCond .eq 48, 3) := by decide +kernel
theorem dX5_readTerms_9 : decode cX5_readTerms 9 = .ok (.aload_n 0, 1) := by decide +kernel
theorem dX5_readTerms_10 : decode cX5_readTerms 10 = .ok (.bipush 9, 2) := by decide +kernel
theorem dX5_readTerms_12 : decode cX5_readTerms 12 = .ok (.invokevirtual 58, 3) := by decide +kernel
theorem dX5_readTerms_15 : decode cX5_readTerms 15 = .ok (.ifCond .eq 39, 3) := by decide +kernel
theorem dX5_readTerms_18 : decode cX5_readTerms 18 = .ok (.aload_n 0, 1) := by decide +kernel
theorem dX5_readTerms_19 : decode cX5_readTerms 19 = .ok (.bipush 42, 2) := by decide +kernel
theorem dX5_readTerms_21 : decode cX5_readTerms 21 = .ok (.invokevirtual 42, 3) := by decide +kernel
theorem dX5_readTerms_24 : decode cX5_readTerms 24 = .ok (.ifCond .eq 30, 3) := by decide +kernel
theorem dX5_readTerms_27 : decode cX5_readTerms 27 = .ok (.aload_n 0, 1) := by decide +kernel
theorem dX5_readTerms_28 : decode cX5_readTerms 28 = .ok (.invokevirtual 65, 3) := by decide +kernel
theorem dX5_readTerms_31 : decode cX5_readTerms 31 = .ok (.ifCond .eq 23, 3) := by decide +kernel
theorem dX5_readTerms_34 : decode cX5_readTerms 34 = .ok (.aload_n 0, 1) := by decide +kernel
theorem dX5_readTerms_35 : decode cX5_readTerms 35 = .ok (.bipush 58, 2) := by decide +kernel
theorem dX5_readTerms_37 : decode cX5_readTerms 37 = .ok (.invokevirtual 42, 3) := by decide +kernel
theorem dX5_readTerms_40 : decode cX5_readTerms 40 = .ok (.ifCond .eq 14, 3) := by decide +kernel
theorem dX5_readTerms_43 : decode cX5_readTerms 43 = .ok (.aload_n 0, 1) := by decide +kernel
theorem dX5_readTerms_44 : decode cX5_readTerms 44 = .ok (.invokevirtual 65, 3) := by decide +kernel
theorem dX5_readTerms_47 : decode cX5_readTerms 47 = .ok (.ifCond .eq 7, 3) := by decide +kernel
theorem dX5_readTerms_50 : decode cX5_readTerms 50 = .ok (.iconst 1, 1) := by decide +kernel
theorem dX5_readTerms_51 : decode cX5_readTerms 51 = .ok (.goto 4, 3) := by decide +kernel
theorem dX5_readTerms_54 : decode cX5_readTerms 54 = .ok (.iconst 0, 1) := by decide +kernel
theorem dX5_readTerms_55 : decode cX5_readTerms 55 = .ok (.ireturn, 1) := by decide +kernel
theorem dX5_readSign_0 : decode cX5_readSign 0 = .ok (.aload_n 0, 1) := by decide +kernel
theorem dX5_readSign_1 : decode cX5_readSign 1 = .ok (.getfield 9, 3) := by decide +kernel
theorem dX5_readSign_4 : decode cX5_readSign 4 = .ok (.aload_n 0, 1) := by decide +kernel
theorem dX5_readSign_5 : decode cX5_readSign 5 = .ok (.getfield 26, 3) := by decide +kernel
theorem dX5_readSign_8 : decode cX5_readSign 8 = .ok (.getfield 37, 3) := by decide +kernel
theorem dX5_readSign_11 : decode cX5_readSign 11 = .ok (.if_icmp .ge 19, 3) := by decide +kernel
theorem dX5_readSign_14 : decode cX5_readSign 14 = .ok (.aload_n 0, 1) := by decide +kernel
theorem dX5_readSign_15 : decode cX5_readSign 15 = .ok (.getfield 26, 3) := by decide +kernel
theorem dX5_readSign_18 : decode cX5_readSign 18 = .ok (.getfield 48, 3) := by decide +kernel
theorem dX5_readSign_21 : decode cX5_readSign 21 = .ok (.aload_n 0, 1) := by decide +kernel
theorem dX5_readSign_22 : decode cX5_readSign 22 = .ok (.getfield 9, 3) := by decide +kernel
theorem dX5_readSign_25 : decode cX5_readSign 25 = .ok (.caload, 1) := by decide +kernel
theorem dX5_readSign_26 : decode cX5_readSign 26 = .ok (.iload_n 1, 1) := by decide +kernel
theorem dX5_readSign_27 : decode cX5_readSign 27 = .ok (.if_icmp .eq 5, 3) := by decide +kernel
theorem dX5_readSign_30 : decode cX5_readSign 30 = .ok (.iconst 0, 1) := by decide +kernel
theorem dX5_readSign_31 : decode cX5_readSign 31 = .ok (.ireturn, 1) := by decide +kernel
theorem dX5_readSign_32 : decode cX5_readSign 32 = .ok (.aload_n 0, 1) := by decide +kernel
theorem dX5_readSign_33 : decode cX5_readSign 33 = .ok (.dup, 1) := by decide +kernel
theorem dX5_readSign_34 : decode cX5_readSign 34 = .ok (.getfield 9, 3) := by decide +kernel
theorem dX5_readSign_37 : decode cX5_readSign 37 = .ok (.iconst 1, 1) := by decide +kernel
theorem dX5_readSign_38 : decode cX5_readSign 38 = .ok (.iadd, 1) := by decide +kernel
theorem dX5_readSign_39 : decode cX5_readSign 39 = .ok (.putfield 9, 3) := by decide +kernel
theorem dX5_readSign_42 : decode cX5_readSign 42 = .ok (.iconst 1, 1) := by decide +kernel
theorem dX5_readSign_43 : decode cX5_readSign 43 = .ok (.ireturn, 1) := by decide +kernel
theorem dX5_readDigit_0 : decode cX5_readDigit 0 = .ok (.aload_n 0, 1) := by decide +kernel
theorem dX5_readDigit_1 : decode cX5_readDigit 1 = .ok (.invokevirtual 68, 3) := by decide +kernel
theorem dX5_readDigit_4 : decode cX5_readDigit 4 = .ok (.istore_n 2, 1) := by decide +kernel
theorem dX5_readDigit_5 : decode cX5_readDigit 5 = .ok (.iload_n 2, 1) := by decide +kernel
theorem dX5_readDigit_6 : decode cX5_readDigit 6 = .ok (.ifCond .lt 8, 3) := by decide +kernel
theorem dX5_readDigit_9 : decode cX5_readDigit 9 = .ok (.iload_n 2, 1) := by decide +kernel
theorem dX5_readDigit_10 : decode cX5_readDigit 10 = .ok (.iload_n 1, 1) := by decide +kernel
theorem dX5_readDigit_11 : decode cX5_readDigit 11 = .ok (.if_icmp .le 5, 3) := by decide +kernel
theorem dX5_readDigit_14 : decode cX5_readDigit 14 = .ok (.iconst 0, 1) := by decide +kernel
theorem dX5_readDigit_15 : decode cX5_readDigit 15 = .ok (.ireturn, 1) := by decide +kernel
theorem dX5_readDigit_16 : decode cX5_readDigit 16 = .ok (.aload_n 0, 1) := by decide +kernel
theorem dX5_readDigit_17 : decode cX5_readDigit 17 = .ok (.dup, 1) := by decide +kernel
theorem dX5_readDigit_18 : decode cX5_readDigit 18 = .ok (.getfield 9, 3) := by decide +kernel
theorem dX5_readDigit_21 : decode cX5_readDigit 21 = .ok (.iconst 1, 1) := by decide +kernel
theorem dX5_readDigit_22 : decode cX5_readDigit 22 = .ok (.iadd, 1) := by decide +kernel
theorem dX5_readDigit_23 : decode cX5_readDigit 23 = .ok (.putfield 9, 3) := by decide +kernel
theorem dX5_readDigit_26 : decode cX5_readDigit 26 = .ok (.aload_n 0, 1) := by decide +kernel
theorem dX5_readDigit_27 : decode cX5_readDigit 27 = .ok (.iload_n 2, 1) := by decide +kernel
theorem dX5_readDigit_28 : decode cX5_readDigit 28 = .ok (.invokevirtual 72, 3) := by decide +kernel
theorem dX5_readDigit_31 : decode cX5_readDigit 31 = .ok (.iconst 1, 1) := by decide +kernel
theorem dX5_readDigit_32 : decode cX5_readDigit 32 = .ok (.ireturn, 1) := by decide +kernel
theorem dX5_readNumber_0 : decode cX5_readNumber 0 = .ok (.aload_n 0, 1) := by decide +kernel
theorem dX5_readNumber_1 : decode cX5_readNumber 1 = .ok (.invokevirtual 68, 3) := by decide +kernel
theorem dX5_readNumber_4 : decode cX5_readNumber 4 = .ok (.istore_n 1, 1) := by decide +kernel
theorem dX5_readNumber_5 : decode cX5_readNumber 5 = .ok (.iload_n 1, 1) := by decide +kernel
theorem dX5_readNumber_6 : decode cX5_readNumber 6 = .ok (.ifCond .ge 5, 3) := by decide +kernel
theorem dX5_readNumber_9 : decode cX5_readNumber 9 = .ok (.iconst 0, 1) := by decide +kernel
theorem dX5_readNumber_10 : decode cX5_readNumber 10 = .ok (.ireturn, 1) := by decide +kernel
theorem dX5_readNumber_11 : decode cX5_readNumber 11 = .ok (.aload_n 0, 1) := by decide +kernel
theorem dX5_readNumber_12 : decode cX5_readNumber 12 = .ok (.dup, 1) := by decide +kernel
theorem dX5_readNumber_13 : decode cX5_readNumber 13 = .ok (.getfield 9, 3) := by decide +kernel
theorem dX5_readNumber_16 : decode cX5_readNumber 16 = .ok (.iconst 1, 1) := by decide +kernel
theorem dX5_readNumber_17 : decode cX5_readNumber 17 = .ok (.iadd, 1) := by decide +kernel
theorem dX5_readNumber_18 : decode cX5_readNumber 18 = .ok (.putfield 9, 3) := by decide +kernel
theorem dX5_readNumber_21 : decode cX5_readNumber 21 = .ok (.iconst 1, 1) := by decide +kernel
theorem dX5_readNumber_22 : decode cX5_readNumber 22 = .ok (.istore_n 2, 1) := by decide +kernel
theorem dX5_readNumber_23 : decode cX5_readNumber 23 = .ok (.iload_n 2, 1) := by decide +kernel
theorem dX5_readNumber_24 : decode cX5_readNumber 24 = .ok (.iconst 3, 1) := by decide +kernel
theorem dX5_readNumber_25 : decode cX5_readNumber 25 = .ok (.if_icmp .ge 40, 3) := by decide +kernel
theorem dX5_readNumber_28 : decode cX5_readNumber 28 = .ok (.iload_n 1, 1) := by decide +kernel
theorem dX5_readNumber_29 : decode cX5_readNumber 29 = .ok (.ifCond .le 36, 3) := by decide +kernel
theorem dX5_readNumber_32 : decode cX5_readNumber 32 = .ok (.aload_n 0, 1) := by decide +kernel
theorem dX5_readNumber_33 : decode cX5_readNumber 33 = .ok (.invokevirtual 68, 3) := by decide +kernel
theorem dX5_readNumber_36 : decode cX5_readNumber 36 = .ok (.ifCond .lt 29, 3) := by decide +kernel
theorem dX5_readNumber_39 : decode cX5_readNumber 39 = .ok (.iload_n 1, 1) := by decide +kernel
theorem dX5_readNumber_40 : decode cX5_readNumber 40 = .ok (.bipush 10, 2) := by decide +kernel
theorem dX5_readNumber_42 : decode cX5_readNumber 42 = .ok (.imul, 1) := by decide +kernel
theorem dX5_readNumber_43 : decode cX5_readNumber 43 = .ok (.aload_n 0, 1) := by decide +kernel
theorem dX5_readNumber_44 : decode cX5_readNumber 44 = .ok (.invokevirtual 68, 3) := by decide +kernel
theorem dX5_readNumber_47 : decode cX5_readNumber 47 = .ok (.iadd, 1) := by decide +kernel
theorem dX5_readNumber_48 : decode cX5_readNumber 48 = .ok (.istore_n 1, 1) := by decide +kernel
theorem dX5_readNumber_49 : decode cX5_readNumber 49 = .ok (.aload_n 0, 1) := by decide +kernel
theorem dX5_readNumber_50 : decode cX5_readNumber 50 = .ok (.dup, 1) := by decide +kernel
theorem dX5_readNumber_51 : decode cX5_readNumber 51 = .ok (.getfield 9, 3) := by decide +kernel
theorem dX5_readNumber_54 : decode cX5_readNumber 54 = .ok (.iconst 1, 1) := by decide +kernel
theorem dX5_readNumber_55 : decode cX5_readNumber 55 = .ok (.iadd, 1) := by decide +kernel
theorem dX5_readNumber_56 : decode cX5_readNumber 56 = .ok (.putfield 9, 3) := by decide +kernel
theorem dX5_readNumber_59 : decode cX5_readNumber 59 = .ok (.iinc 2 1, 3) := by decide +kernel
theorem dX5_readNumber_62 : decode cX5_readNumber 62 = .ok (.goto (-39), 3) := by decide +kernel
theorem dX5_readNumber_65 : decode cX5_readNumber 65 = .ok (.aload_n 0, 1) := by decide +kernel
theorem dX5_readNumber_66 : decode cX5_readNumber 66 = .ok (.iload_n 1, 1) := by decide +kernel
theorem dX5_readNumber_67 : decode cX5_readNumber 67 = .ok (.invokevirtual 72, 3) := by decide +kernel
theorem dX5_readNumber_70 : decode cX5_readNumber 70 = .ok (.iconst 1, 1) := by decide +kernel
theorem dX5_readNumber_71 : decode cX5_readNumber 71 = .ok (.ireturn, 1) := by decide +kernel
theorem dX5_digitHere_0 : decode cX5_digitHere 0 = .ok (.aload_n 0, 1) := by decide +kernel
theorem dX5_digitHere_1 : decode cX5_digitHere 1 = .ok (.getfield 9, 3) := by decide +kernel
theorem dX5_digitHere_4 : decode cX5_digitHere 4 = .ok (.aload_n 0, 1) := by decide +kernel
theorem dX5_digitHere_5 : decode cX5_digitHere 5 = .ok (.getfield 26, 3) := by decide +kernel
theorem dX5_digitHere_8 : decode cX5_digitHere 8 = .ok (.getfield 37, 3) := by decide +kernel
theorem dX5_digitHere_11 : decode cX5_digitHere 11 = .ok (.if_icmp .ge 37, 3) := by decide +kernel
theorem dX5_digitHere_14 : decode cX5_digitHere 14 = .ok (.aload_n 0, 1) := by decide +kernel
theorem dX5_digitHere_15 : decode cX5_digitHere 15 = .ok (.getfield 26, 3) := by decide +kernel
theorem dX5_digitHere_18 : decode cX5_digitHere 18 = .ok (.getfield 48, 3) := by decide +kernel
theorem dX5_digitHere_21 : decode cX5_digitHere 21 = .ok (.aload_n 0, 1) := by decide +kernel
theorem dX5_digitHere_22 : decode cX5_digitHere 22 = .ok (.getfield 9, 3) := by decide +kernel
theorem dX5_digitHere_25 : decode cX5_digitHere 25 = .ok (.caload, 1) := by decide +kernel
theorem dX5_digitHere_26 : decode cX5_digitHere 26 = .ok (.bipush 48, 2) := by decide +kernel
theorem dX5_digitHere_28 : decode cX5_digitHere 28 = .ok (.if_icmp .lt 20, 3) := by decide +kernel
theorem dX5_digitHere_31 : decode cX5_digitHere 31 = .ok (.aload_n 0, 1) := by decide +kernel
theorem dX5_digitHere_32 : decode cX5_digitHere 32 = .ok (.getfield 26, 3) := by decide +kernel
theorem dX5_digitHere_35 : decode cX5_digitHere 35 = .ok (.getfield 48, 3) := by decide +kernel
theorem dX5_digitHere_38 : decode cX5_digitHere 38 = .ok (.aload_n 0, 1) := by decide +kernel
theorem dX5_digitHere_39 : decode cX5_digitHere 39 = .ok (.getfield 9, 3) := by decide +kernel
theorem dX5_digitHere_42 : decode cX5_digitHere 42 = .ok (.caload, 1) := by decide +kernel
theorem dX5_digitHere_43 : decode cX5_digitHere 43 = .ok (.bipush 57, 2) := by decide +kernel
theorem dX5_digitHere_45 : decode cX5_digitHere 45 = .ok (.if_icmp .le 6, 3) := by decide +kernel
theorem dX5_digitHere_48 : decode cX5_digitHere 48 = .ok (.bipush (-6), 2) := by decide +kernel
theorem dX5_digitHere_50 : decode cX5_digitHere 50 = .ok (.ireturn, 1) := by decide +kernel
theorem dX5_digitHere_51 : decode cX5_digitHere 51 = .ok (.aload_n 0, 1) := by decide +kernel
theorem dX5_digitHere_52 : decode cX5_digitHere 52 = .ok (.getfield 26, 3) := by decide +kernel
theorem dX5_digitHere_55 : decode cX5_digitHere 55 = .ok (.getfield 48, 3) := by decide +kernel
theorem dX5_digitHere_58 : decode cX5_digitHere 58 = .ok (.aload_n 0, 1) := by decide +kernel
theorem dX5_digitHere_59 : decode cX5_digitHere 59 = .ok (.getfield 9, 3) := by decide +kernel
theorem dX5_digitHere_62 : decode cX5_digitHere 62 = .ok (.caload, 1) := by decide +kernel
theorem dX5_digitHere_63 : decode cX5_digitHere 63 = .ok (.bipush 48, 2) := by decide +kernel
theorem dX5_digitHere_65 : decode cX5_digitHere 65 = .ok (.isub, 1) := by decide +kernel
theorem dX5_digitHere_66 : decode cX5_digitHere 66 = .ok (.ireturn, 1) := by decide +kernel
theorem dX5_keepNumber_0 : decode cX5_keepNumber 0 = .ok (.aload_n 0, 1) := by decide +kernel
theorem dX5_keepNumber_1 : decode cX5_keepNumber 1 = .ok (.getfield 23, 3) := by decide +kernel
theorem dX5_keepNumber_4 : decode cX5_keepNumber 4 = .ok (.iconst 5, 1) := by decide +kernel
theorem dX5_keepNumber_5 : decode cX5_keepNumber 5 = .ok (.if_icmp .ge 23, 3) := by decide +kernel
theorem dX5_keepNumber_8 : decode cX5_keepNumber 8 = .ok (.aload_n 0, 1) := by decide +kernel
theorem dX5_keepNumber_9 : decode cX5_keepNumber 9 = .ok (.getfield 19, 3) := by decide +kernel
theorem dX5_keepNumber_12 : decode cX5_keepNumber 12 = .ok (.aload_n 0, 1) := by decide +kernel
theorem dX5_keepNumber_13 : decode cX5_keepNumber 13 = .ok (.getfield 23, 3) := by decide +kernel
theorem dX5_keepNumber_16 : decode cX5_keepNumber 16 = .ok (.iload_n 1, 1) := by decide +kernel
theorem dX5_keepNumber_17 : decode cX5_keepNumber 17 = .ok (.iastore, 1) := by decide +kernel
theorem dX5_keepNumber_18 : decode cX5_keepNumber 18 = .ok (.aload_n 0, 1) := by decide +kernel
theorem dX5_keepNumber_19 : decode cX5_keepNumber 19 = .ok (.dup, 1) := by decide +kernel
theorem dX5_keepNumber_20 : decode cX5_keepNumber 20 = .ok (.getfield 23, 3) := by decide +kernel
theorem dX5_keepNumber_23 : decode cX5_keepNumber 23 = .ok (.iconst 1, 1) := by decide +kernel
theorem dX5_keepNumber_24 : decode cX5_keepNumber 24 = .ok (.iadd, 1) := by decide +kernel
theorem dX5_keepNumber_25 : decode cX5_keepNumber 25 = .ok (.putfield 23, 3) := by decide +kernel
theorem dX5_keepNumber_28 : decode cX5_keepNumber 28 = .ok (.return_, 1) := by decide +kernel
theorem dX6_init_0 : decode cX6_init 0 = .ok (.aload_n 0, 1) := by decide +kernel
theorem dX6_init_1 : decode cX6_init 1 = .ok (.invokespecial 3, 3) := by decide +kernel
theorem dX6_init_4 : decode cX6_init 4 = .ok (.aload_n 0, 1) := by decide +kernel
theorem dX6_init_5 : decode cX6_init 5 = .ok (.bipush 80, 2) := by decide +kernel
theorem dX6_init_7 : decode cX6_init 7 = .ok (.newarray .char, 2) := by decide +kernel
theorem dX6_init_9 : decode cX6_init 9 = .ok (.putfield 9, 3) := by decide +kernel
theorem dX6_init_12 : decode cX6_init 12 = .ok (.aload_n 0, 1) := by decide +kernel
theorem dX6_init_13 : decode cX6_init 13 = .ok (.iconst 0, 1) := by decide +kernel
theorem dX6_init_14 : decode cX6_init 14 = .ok (.putfield 15, 3) := by decide +kernel
theorem dX6_init_17 : decode cX6_init 17 = .ok (.return_, 1) := by decide +kernel
theorem dX6_append_0 : decode cX6_append 0 = .ok (.lload_n 1, 1) := by decide +kernel
theorem dX6_append_1 : decode cX6_append 1 = .ok (.invokestatic 19, 3) := by decide +kernel
theorem dX6_append_4 : decode cX6_append 4 = .ok (.istore_n 3, 1) := by decide +kernel
theorem dX6_append_5 : decode cX6_append 5 = .ok (.iload_n 3, 1) := by decide +kernel
theorem dX6_append_6 : decode cX6_append 6 = .ok (.ifCond .ne 6, 3) := by decide +kernel
theorem dX6_append_9 : decode cX6_append 9 = .ok (.bipush (-2), 2) := by decide +kernel
theorem dX6_append_11 : decode cX6_append 11 = .ok (.ireturn, 1) := by decide +kernel
theorem dX6_append_12 : decode cX6_append 12 = .ok (.aload_n 0, 1) := by decide +kernel
theorem dX6_append_13 : decode cX6_append 13 = .ok (.getfield 15, 3) := by decide +kernel
theorem dX6_append_16 : decode cX6_append 16 = .ok (.iload_n 3, 1) := by decide +kernel
theorem dX6_append_17 : decode cX6_append 17 = .ok (.iadd, 1) := by decide +kernel
theorem dX6_append_18 : decode cX6_append 18 = .ok (.bipush 80, 2) := by decide +kernel
theorem dX6_append_20 : decode cX6_append 20 = .ok (.if_icmp .le 6, 3) := by decide +kernel
theorem dX6_append_23 : decode cX6_append 23 = .ok (.bipush (-4), 2) := by decide +kernel
theorem dX6_append_25 : decode cX6_append 25 = .ok (.ireturn, 1) := by decide +kernel
theorem dX6_append_26 : decode cX6_append 26 = .ok (.lload_n 1, 1) := by decide +kernel
theorem dX6_append_27 : decode cX6_append 27 = .ok (.lstore 4, 2) := by decide +kernel
theorem dX6_append_29 : decode cX6_append 29 = .ok (.aload_n 0, 1) := by decide +kernel
theorem dX6_append_30 : decode cX6_append 30 = .ok (.getfield 15, 3) := by decide +kernel
theorem dX6_append_33 : decode cX6_append 33 = .ok (.iload_n 3, 1) := by decide +kernel
theorem dX6_append_34 : decode cX6_append 34 = .ok (.iadd, 1) := by decide +kernel
theorem dX6_append_35 : decode cX6_append 35 = .ok (.iconst 1, 1) := by decide +kernel
theorem dX6_append_36 : decode cX6_append 36 = .ok (.isub, 1) := by decide +kernel
theorem dX6_append_37 : decode cX6_append 37 = .ok (.istore 6, 2) := by decide +kernel
theorem dX6_append_39 : decode cX6_append 39 = .ok (.iload 6, 2) := by decide +kernel
theorem dX6_append_41 : decode cX6_append 41 = .ok (.aload_n 0, 1) := by decide +kernel
theorem dX6_append_42 : decode cX6_append 42 = .ok (.getfield 15, 3) := by decide +kernel
theorem dX6_append_45 : decode cX6_append 45 = .ok (.if_icmp .lt 31, 3) := by decide +kernel
theorem dX6_append_48 : decode cX6_append 48 = .ok (.aload_n 0, 1) := by decide +kernel
theorem dX6_append_49 : decode cX6_append 49 = .ok (.getfield 9, 3) := by decide +kernel
theorem dX6_append_52 : decode cX6_append 52 = .ok (.iload 6, 2) := by decide +kernel
theorem dX6_append_54 : decode cX6_append 54 = .ok (.lload 4, 2) := by decide +kernel
theorem dX6_append_56 : decode cX6_append 56 = .ok (.ldc2_w 23, 3) := by decide +kernel
theorem dX6_append_59 : decode cX6_append 59 = .ok (.land, 1) := by decide +kernel
theorem dX6_append_60 : decode cX6_append 60 = .ok (.l2i, 1) := by decide +kernel
theorem dX6_append_61 : decode cX6_append 61 = .ok (.i2c, 1) := by decide +kernel
theorem dX6_append_62 : decode cX6_append 62 = .ok (.castore, 1) := by decide +kernel
theorem dX6_append_63 : decode cX6_append 63 = .ok (.lload 4, 2) := by decide +kernel
theorem dX6_append_65 : decode cX6_append 65 = .ok (.bipush 8, 2) := by decide +kernel
theorem dX6_append_67 : decode cX6_append 67 = .ok (.lushr, 1) := by decide +kernel
theorem dX6_append_68 : decode cX6_append 68 = .ok (.lstore 4, 2) := by decide +kernel
theorem dX6_append_70 : decode cX6_append 70 = .ok (.iinc 6 (-1), 3) := by decide +kernel
theorem dX6_append_73 : decode cX6_append 73 = .ok (.goto (-34), 3) := by decide +kernel
theorem dX6_append_76 : decode cX6_append 76 = .ok (.aload_n 0, 1) := by decide +kernel
theorem dX6_append_77 : decode cX6_append 77 = .ok (.dup, 1) := by decide +kernel
theorem dX6_append_78 : decode cX6_append 78 = .ok (.getfield 15, 3) := by decide +kernel
theorem dX6_append_81 : decode cX6_append 81 = .ok (.iload_n 3, 1) := by decide +kernel
theorem dX6_append_82 : decode cX6_append 82 = .ok (.iadd, 1) := by decide +kernel
theorem dX6_append_83 : decode cX6_append 83 = .ok (.putfield 15, 3) := by decide +kernel
theorem dX6_append_86 : decode cX6_append 86 = .ok (.aload_n 0, 1) := by decide +kernel
theorem dX6_append_87 : decode cX6_append 87 = .ok (.getfield 15, 3) := by decide +kernel
theorem dX6_append_90 : decode cX6_append 90 = .ok (.ireturn, 1) := by decide +kernel
theorem dX6_countSigns_0 : decode cX6_countSigns 0 = .ok (.lload_n 0, 1) := by decide +kernel
theorem dX6_countSigns_1 : decode cX6_countSigns 1 = .ok (.lstore_n 2, 1) := by decide +kernel
theorem dX6_countSigns_2 : decode cX6_countSigns 2 = .ok (.iconst 0, 1) := by decide +kernel
theorem dX6_countSigns_3 : decode cX6_countSigns 3 = .ok (.istore 4, 2) := by decide +kernel
theorem dX6_countSigns_5 : decode cX6_countSigns 5 = .ok (.lload_n 2, 1) := by decide +kernel
theorem dX6_countSigns_6 : decode cX6_countSigns 6 = .ok (.lconst 0, 1) := by decide +kernel
theorem dX6_countSigns_7 : decode cX6_countSigns 7 = .ok (.lcmp, 1) := by decide +kernel
theorem dX6_countSigns_8 : decode cX6_countSigns 8 = .ok (.ifCond .eq 48, 3) := by decide +kernel
theorem dX6_countSigns_11 : decode cX6_countSigns 11 = .ok (.iload 4, 2) := by decide +kernel
theorem dX6_countSigns_13 : decode cX6_countSigns 13 = .ok (.bipush 8, 2) := by decide +kernel
theorem dX6_countSigns_15 : decode cX6_countSigns 15 = .ok (.if_icmp .ge 41, 3) := by decide +kernel
theorem dX6_countSigns_18 : decode cX6_countSigns 18 = .ok (.lload_n 2, 1) := by decide +kernel
theorem dX6_countSigns_19 : decode cX6_countSigns 19 = .ok (.ldc2_w 23, 3) := by decide +kernel
theorem dX6_countSigns_22 : decode cX6_countSigns 22 = .ok (.land, 1) := by decide +kernel
theorem dX6_countSigns_23 : decode cX6_countSigns 23 = .ok (.lstore 5, 2) := by decide +kernel
theorem dX6_countSigns_25 : decode cX6_countSigns 25 = .ok (.lload 5, 2) := by decide +kernel
theorem dX6_countSigns_27 : decode cX6_countSigns 27 = .ok (.ldc2_w 25, 3) := by decide +kernel
theorem dX6_countSigns_30 : decode cX6_countSigns 30 = .ok (.lcmp, 1) := by decide +kernel
theorem dX6_countSigns_31 : decode cX6_countSigns 31 = .ok (.ifCond .lt 12, 3) := by decide +kernel
theorem dX6_countSigns_34 : decode cX6_countSigns 34 = .ok (.lload 5, 2) := by decide +kernel
theorem dX6_countSigns_36 : decode cX6_countSigns 36 = .ok (.ldc2_w 27, 3) := by decide +kernel
theorem dX6_countSigns_39 : decode cX6_countSigns 39 = .ok (.lcmp, 1) := by decide +kernel
theorem dX6_countSigns_40 : decode cX6_countSigns 40 = .ok (.ifCond .le 5, 3) := by decide +kernel
theorem dX6_countSigns_43 : decode cX6_countSigns 43 = .ok (.iconst 0, 1) := by decide +kernel
theorem dX6_countSigns_44 : decode cX6_countSigns 44 = .ok (.ireturn, 1) := by decide +kernel
theorem dX6_countSigns_45 : decode cX6_countSigns 45 = .ok (.iinc 4 1, 3) := by decide +kernel
theorem dX6_countSigns_48 : decode cX6_countSigns 48 = .ok (.lload_n 2, 1) := by decide +kernel
theorem dX6_countSigns_49 : decode cX6_countSigns 49 = .ok (.bipush 8, 2) := by decide +kernel
theorem dX6_countSigns_51 : decode cX6_countSigns 51 = .ok (.lushr, 1) := by decide +kernel
theorem dX6_countSigns_52 : decode cX6_countSigns 52 = .ok (.lstore_n 2, 1) := by decide +kernel
theorem dX6_countSigns_53 : decode cX6_countSigns 53 = .ok (.goto (-48), 3) := by decide +kernel
theorem dX6_countSigns_56 : decode cX6_countSigns 56 = .ok (.iload 4, 2) := by decide +kernel
theorem dX6_countSigns_58 : decode cX6_countSigns 58 = .ok (.ireturn, 1) := by decide +kernel
theorem dX6_clear_0 : decode cX6_clear 0 = .ok (.aload_n 0, 1) := by decide +kernel
theorem dX6_clear_1 : decode cX6_clear 1 = .ok (.getfield 15, 3) := by decide +kernel
theorem dX6_clear_4 : decode cX6_clear 4 = .ok (.istore_n 1, 1) := by decide +kernel
theorem dX6_clear_5 : decode cX6_clear 5 = .ok (.aload_n 0, 1) := by decide +kernel
theorem dX6_clear_6 : decode cX6_clear 6 = .ok (.iconst 0, 1) := by decide +kernel
theorem dX6_clear_7 : decode cX6_clear 7 = .ok (.putfield 15, 3) := by decide +kernel
theorem dX6_clear_10 : decode cX6_clear 10 = .ok (.iload_n 1, 1) := by decide +kernel
theorem dX6_clear_11 : decode cX6_clear 11 = .ok (.ireturn, 1) := by decide +kernel
theorem dX7_init_0 : decode cX7_init 0 = .ok (.aload_n 0, 1) := by decide +kernel
theorem dX7_init_1 : decode cX7_init 1 = .ok (.invokespecial 3, 3) := by decide +kernel
theorem dX7_init_4 : decode cX7_init 4 = .ok (.aload_n 0, 1) := by decide +kernel
theorem dX7_init_5 : decode cX7_init 5 = .ok (.sipush 15625, 3) := by decide +kernel
theorem dX7_init_8 : decode cX7_init 8 = .ok (.newarray .int, 2) := by decide +kernel
theorem dX7_init_10 : decode cX7_init 10 = .ok (.putfield 9, 3) := by decide +kernel
theorem dX7_init_13 : decode cX7_init 13 = .ok (.aload_n 0, 1) := by decide +kernel
theorem dX7_init_14 : decode cX7_init 14 = .ok (.iconst 0, 1) := by decide +kernel
theorem dX7_init_15 : decode cX7_init 15 = .ok (.putfield 15, 3) := by decide +kernel
theorem dX7_init_18 : decode cX7_init 18 = .ok (.aload_n 0, 1) := by decide +kernel
theorem dX7_init_19 : decode cX7_init 19 = .ok (.bipush 6, 2) := by decide +kernel
theorem dX7_init_21 : decode cX7_init 21 = .ok (.newarray .int, 2) := by decide +kernel
theorem dX7_init_23 : decode cX7_init 23 = .ok (.putfield 19, 3) := by decide +kernel
theorem dX7_init_26 : decode cX7_init 26 = .ok (.aload_n 0, 1) := by decide +kernel
theorem dX7_init_27 : decode cX7_init 27 = .ok (.bipush 6, 2) := by decide +kernel
theorem dX7_init_29 : decode cX7_init 29 = .ok (.newarray .int, 2) := by decide +kernel
theorem dX7_init_31 : decode cX7_init 31 = .ok (.putfield 22, 3) := by decide +kernel
theorem dX7_init_34 : decode cX7_init 34 = .ok (.aload_n 0, 1) := by decide +kernel
theorem dX7_init_35 : decode cX7_init 35 = .ok (.bipush 6, 2) := by decide +kernel
theorem dX7_init_37 : decode cX7_init 37 = .ok (.newarray .int, 2) := by decide +kernel
theorem dX7_init_39 : decode cX7_init 39 = .ok (.putfield 25, 3) := by decide +kernel
theorem dX7_init_42 : decode cX7_init 42 = .ok (.aload_n 0, 1) := by decide +kernel
theorem dX7_init_43 : decode cX7_init 43 = .ok (.aload_n 1, 1) := by decide +kernel
theorem dX7_init_44 : decode cX7_init 44 = .ok (.putfield 28, 3) := by decide +kernel
theorem dX7_init_47 : decode cX7_init 47 = .ok (.aload_n 0, 1) := by decide +kernel
theorem dX7_init_48 : decode cX7_init 48 = .ok (.aload_n 2, 1) := by decide +kernel
theorem dX7_init_49 : decode cX7_init 49 = .ok (.putfield 32, 3) := by decide +kernel
theorem dX7_init_52 : decode cX7_init 52 = .ok (.return_, 1) := by decide +kernel
theorem dX7_run_0 : decode cX7_run 0 = .ok (.getstatic 36, 3) := by decide +kernel
theorem dX7_run_3 : decode cX7_run 3 = .ok (.aload_n 0, 1) := by decide +kernel
theorem dX7_run_4 : decode cX7_run 4 = .ok (.getfield 28, 3) := by decide +kernel
theorem dX7_run_7 : decode cX7_run 7 = .ok (.getfield 39, 3) := by decide +kernel
theorem dX7_run_10 : decode cX7_run 10 = .ok (.iaload, 1) := by decide +kernel
theorem dX7_run_11 : decode cX7_run 11 = .ok (.istore_n 1, 1) := by decide +kernel
theorem dX7_run_12 : decode cX7_run 12 = .ok (.iconst 0, 1) := by decide +kernel
theorem dX7_run_13 : decode cX7_run 13 = .ok (.istore_n 2, 1) := by decide +kernel
theorem dX7_run_14 : decode cX7_run 14 = .ok (.iload_n 2, 1) := by decide +kernel
theorem dX7_run_15 : decode cX7_run 15 = .ok (.iload_n 1, 1) := by decide +kernel
theorem dX7_run_16 : decode cX7_run 16 = .ok (.if_icmp .ge 16, 3) := by decide +kernel
theorem dX7_run_19 : decode cX7_run 19 = .ok (.aload_n 0, 1) := by decide +kernel
theorem dX7_run_20 : decode cX7_run 20 = .ok (.getfield 9, 3) := by decide +kernel
theorem dX7_run_23 : decode cX7_run 23 = .ok (.iload_n 2, 1) := by decide +kernel
theorem dX7_run_24 : decode cX7_run 24 = .ok (.iconst 0, 1) := by decide +kernel
theorem dX7_run_25 : decode cX7_run 25 = .ok (.iastore, 1) := by decide +kernel
theorem dX7_run_26 : decode cX7_run 26 = .ok (.iinc 2 1, 3) := by decide +kernel
theorem dX7_run_29 : decode cX7_run 29 = .ok (.goto (-15), 3) := by decide +kernel
theorem dX7_run_32 : decode cX7_run 32 = .ok (.aload_n 0, 1) := by decide +kernel
theorem dX7_run_33 : decode cX7_run 33 = .ok (.invokevirtual 44, 3) := by decide +kernel
theorem dX7_run_36 : decode cX7_run 36 = .ok (.iconst 0, 1) := by decide +kernel
theorem dX7_run_37 : decode cX7_run 37 = .ok (.istore_n 2, 1) := by decide +kernel
theorem dX7_run_38 : decode cX7_run 38 = .ok (.iload_n 2, 1) := by decide +kernel
theorem dX7_run_39 : decode cX7_run 39 = .ok (.bipush 10, 2) := by decide +kernel
theorem dX7_run_41 : decode cX7_run 41 = .ok (.if_icmp .ge 38, 3) := by decide +kernel
theorem dX7_run_44 : decode cX7_run 44 = .ok (.aload_n 0, 1) := by decide +kernel
theorem dX7_run_45 : decode cX7_run 45 = .ok (.getfield 32, 3) := by decide +kernel
theorem dX7_run_48 : decode cX7_run 48 = .ok (.iload_n 2, 1) := by decide +kernel
theorem dX7_run_49 : decode cX7_run 49 = .ok (.invokevirtual 47, 3) := by decide +kernel
theorem dX7_run_52 : decode cX7_run 52 = .ok (.aload_n 0, 1) := by decide +kernel
theorem dX7_run_53 : decode cX7_run 53 = .ok (.getfield 32, 3) := by decide +kernel
theorem dX7_run_56 : decode cX7_run 56 = .ok (.invokevirtual 53, 3) := by decide +kernel
theorem dX7_run_59 : decode cX7_run 59 = .ok (.ifCond .ne 14, 3) := by decide +kernel
theorem dX7_run_62 : decode cX7_run 62 = .ok (.aload_n 0, 1) := by decide +kernel
theorem dX7_run_63 : decode cX7_run 63 = .ok (.invokevirtual 57, 3) := by decide +kernel
theorem dX7_run_66 : decode cX7_run 66 = .ok (.aload_n 0, 1) := by decide +kernel
theorem dX7_run_67 : decode cX7_run 67 = .ok (.iconst 0, 1) := by decide +kernel
theorem dX7_run_68 : decode cX7_run 68 = .ok (.iconst 0, 1) := by decide +kernel
theorem dX7_run_69 : decode cX7_run 69 = .ok (.iconst 0, 1) := by decide +kernel
theorem dX7_run_70 : decode cX7_run 70 = .ok (.invokestatic 60, 3) := by decide +kernel
theorem dX7_run_73 : decode cX7_run 73 = .ok (.iinc 2 1, 3) := by decide +kernel
theorem dX7_run_76 : decode cX7_run 76 = .ok (.goto (-38), 3) := by decide +kernel
theorem dX7_run_79 : decode cX7_run 79 = .ok (.aload_n 0, 1) := by decide +kernel
theorem dX7_run_80 : decode cX7_run 80 = .ok (.iconst 0, 1) := by decide +kernel
theorem dX7_run_81 : decode cX7_run 81 = .ok (.putfield 15, 3) := by decide +kernel
theorem dX7_run_84 : decode cX7_run 84 = .ok (.iconst 1, 1) := by decide +kernel
theorem dX7_run_85 : decode cX7_run 85 = .ok (.istore_n 2, 1) := by decide +kernel
theorem dX7_run_86 : decode cX7_run 86 = .ok (.iload_n 2, 1) := by decide +kernel
theorem dX7_run_87 : decode cX7_run 87 = .ok (.iload_n 1, 1) := by decide +kernel
theorem dX7_run_88 : decode cX7_run 88 = .ok (.if_icmp .ge 32, 3) := by decide +kernel
theorem dX7_run_91 : decode cX7_run 91 = .ok (.aload_n 0, 1) := by decide +kernel
theorem dX7_run_92 : decode cX7_run 92 = .ok (.getfield 9, 3) := by decide +kernel
theorem dX7_run_95 : decode cX7_run 95 = .ok (.iload_n 2, 1) := by decide +kernel
theorem dX7_run_96 : decode cX7_run 96 = .ok (.iaload, 1) := by decide +kernel
theorem dX7_run_97 : decode cX7_run 97 = .ok (.aload_n 0, 1) := by decide +kernel
theorem dX7_run_98 : decode cX7_run 98 = .ok (.getfield 9, 3) := by decide +kernel
theorem dX7_run_101 : decode cX7_run 101 = .ok (.aload_n 0, 1) := by decide +kernel
theorem dX7_run_102 : decode cX7_run 102 = .ok (.getfield 15, 3) := by decide +kernel
theorem dX7_run_105 : decode cX7_run 105 = .ok (.iaload, 1) := by decide +kernel
theorem dX7_run_106 : decode cX7_run 106 = .ok (.if_icmp .le 8, 3) := by decide +kernel
theorem dX7_run_109 : decode cX7_run 109 = .ok (.aload_n 0, 1) := by decide +kernel
theorem dX7_run_110 : decode cX7_run 110 = .ok (.iload_n 2, 1) := by decide +kernel
theorem dX7_run_111 : decode cX7_run 111 = .ok (.putfield 15, 3) := by decide +kernel
theorem dX7_run_114 : decode cX7_run 114 = .ok (.iinc 2 1, 3) := by decide +kernel
theorem dX7_run_117 : decode cX7_run 117 = .ok (.goto (-31), 3) := by decide +kernel
theorem dX7_run_120 : decode cX7_run 120 = .ok (.return_, 1) := by decide +kernel
theorem dX7_bestTiltOf_0 : decode cX7_bestTiltOf 0 = .ok (.aload_n 0, 1) := by decide +kernel
theorem dX7_bestTiltOf_1 : decode cX7_bestTiltOf 1 = .ok (.getfield 15, 3) := by decide +kernel
theorem dX7_bestTiltOf_4 : decode cX7_bestTiltOf 4 = .ok (.aload_n 0, 1) := by decide +kernel
theorem dX7_bestTiltOf_5 : decode cX7_bestTiltOf 5 = .ok (.iload_n 1, 1) := by decide +kernel
theorem dX7_bestTiltOf_6 : decode cX7_bestTiltOf 6 = .ok (.invokevirtual 64, 3) := by decide +kernel
theorem dX7_bestTiltOf_9 : decode cX7_bestTiltOf 9 = .ok (.idiv, 1) := by decide +kernel
theorem dX7_bestTiltOf_10 : decode cX7_bestTiltOf 10 = .ok (.iconst 5, 1) := by decide +kernel
theorem dX7_bestTiltOf_11 : decode cX7_bestTiltOf 11 = .ok (.irem, 1) := by decide +kernel
theorem dX7_bestTiltOf_12 : decode cX7_bestTiltOf 12 = .ok (.ireturn, 1) := by decide +kernel
theorem dX7_bestYields_0 : decode cX7_bestYields 0 = .ok (.aload_n 0, 1) := by decide +kernel
theorem dX7_bestYields_1 : decode cX7_bestYields 1 = .ok (.getfield 9, 3) := by decide +kernel
theorem dX7_bestYields_4 : decode cX7_bestYields 4 = .ok (.aload_n 0, 1) := by decide +kernel
theorem dX7_bestYields_5 : decode cX7_bestYields 5 = .ok (.getfield 15, 3) := by decide +kernel
theorem dX7_bestYields_8 : decode cX7_bestYields 8 = .ok (.iaload, 1) := by decide +kernel
theorem dX7_bestYields_9 : decode cX7_bestYields 9 = .ok (.istore_n 1, 1) := by decide +kernel
theorem dX7_bestYields_10 : decode cX7_bestYields 10 = .ok (.iconst 0, 1) := by decide +kernel
theorem dX7_bestYields_11 : decode cX7_bestYields 11 = .ok (.istore_n 2, 1) := by decide +kernel
theorem dX7_bestYields_12 : decode cX7_bestYields 12 = .ok (.iload_n 2, 1) := by decide +kernel
theorem dX7_bestYields_13 : decode cX7_bestYields 13 = .ok (.aload_n 0, 1) := by decide +kernel
theorem dX7_bestYields_14 : decode cX7_bestYields 14 = .ok (.getfield 28, 3) := by decide +kernel
theorem dX7_bestYields_17 : decode cX7_bestYields 17 = .ok (.getfield 39, 3) := by decide +kernel
theorem dX7_bestYields_20 : decode cX7_bestYields 20 = .ok (.if_icmp .ge 24, 3) := by decide +kernel
theorem dX7_bestYields_23 : decode cX7_bestYields 23 = .ok (.iload_n 1, 1) := by decide +kernel
theorem dX7_bestYields_24 : decode cX7_bestYields 24 = .ok (.bipush 10, 2) := by decide +kernel
theorem dX7_bestYields_26 : decode cX7_bestYields 26 = .ok (.aload_n 0, 1) := by decide +kernel
theorem dX7_bestYields_27 : decode cX7_bestYields 27 = .ok (.getfield 28, 3) := by decide +kernel
theorem dX7_bestYields_30 : decode cX7_bestYields 30 = .ok (.getfield 68, 3) := by decide +kernel
theorem dX7_bestYields_33 : decode cX7_bestYields 33 = .ok (.iload_n 2, 1) := by decide +kernel
theorem dX7_bestYields_34 : decode cX7_bestYields 34 = .ok (.iaload, 1) := by decide +kernel
theorem dX7_bestYields_35 : decode cX7_bestYields 35 = .ok (.imul, 1) := by decide +kernel
theorem dX7_bestYields_36 : decode cX7_bestYields 36 = .ok (.iadd, 1) := by decide +kernel
theorem dX7_bestYields_37 : decode cX7_bestYields 37 = .ok (.istore_n 1, 1) := by decide +kernel
theorem dX7_bestYields_38 : decode cX7_bestYields 38 = .ok (.iinc 2 1, 3) := by decide +kernel
theorem dX7_bestYields_41 : decode cX7_bestYields 41 = .ok (.goto (-29), 3) := by decide +kernel
theorem dX7_bestYields_44 : decode cX7_bestYields 44 = .ok (.iload_n 1, 1) := by decide +kernel
theorem dX7_bestYields_45 : decode cX7_bestYields 45 = .ok (.ireturn, 1) := by decide +kernel
theorem dX7_stepOf_0 : decode cX7_stepOf 0 = .ok (.getstatic 36, 3) := by decide +kernel
theorem dX7_stepOf_3 : decode cX7_stepOf 3 = .ok (.aload_n 0, 1) := by decide +kernel
theorem dX7_stepOf_4 : decode cX7_stepOf 4 = .ok (.getfield 28, 3) := by decide +kernel
theorem dX7_stepOf_7 : decode cX7_stepOf 7 = .ok (.getfield 39, 3) := by decide +kernel
theorem dX7_stepOf_10 : decode cX7_stepOf 10 = .ok (.iconst 1, 1) := by decide +kernel
theorem dX7_stepOf_11 : decode cX7_stepOf 11 = .ok (.isub, 1) := by decide +kernel
theorem dX7_stepOf_12 : decode cX7_stepOf 12 = .ok (.iload_n 1, 1) := by decide +kernel
theorem dX7_stepOf_13 : decode cX7_stepOf 13 = .ok (.isub, 1) := by decide +kernel
theorem dX7_stepOf_14 : decode cX7_stepOf 14 = .ok (.iaload, 1) := by decide +kernel
theorem dX7_stepOf_15 : decode cX7_stepOf 15 = .ok (.ireturn, 1) := by decide +kernel
theorem dX7_findTops_0 : decode cX7_findTops 0 = .ok (.iconst 0, 1) := by decide +kernel
theorem dX7_findTops_1 : decode cX7_findTops 1 = .ok (.istore_n 1, 1) := by decide +kernel
theorem dX7_findTops_2 : decode cX7_findTops 2 = .ok (.iload_n 1, 1) := by decide +kernel
theorem dX7_findTops_3 : decode cX7_findTops 3 = .ok (.bipush 6, 2) := by decide +kernel
theorem dX7_findTops_5 : decode cX7_findTops 5 = .ok (.if_icmp .ge 16, 3) := by decide +kernel
theorem dX7_findTops_8 : decode cX7_findTops 8 = .ok (.aload_n 0, 1) := by decide +kernel
theorem dX7_findTops_9 : decode cX7_findTops 9 = .ok (.getfield 19, 3) := by decide +kernel
theorem dX7_findTops_12 : decode cX7_findTops 12 = .ok (.iload_n 1, 1) := by decide +kernel
theorem dX7_findTops_13 : decode cX7_findTops 13 = .ok (.iconst 0, 1) := by decide +kernel
theorem dX7_findTops_14 : decode cX7_findTops 14 = .ok (.iastore, 1) := by decide +kernel
theorem dX7_findTops_15 : decode cX7_findTops 15 = .ok (.iinc 1 1, 3) := by decide +kernel
theorem dX7_findTops_18 : decode cX7_findTops 18 = .ok (.goto (-16), 3) := by decide +kernel
theorem dX7_findTops_21 : decode cX7_findTops 21 = .ok (.iconst 0, 1) := by decide +kernel
theorem dX7_findTops_22 : decode cX7_findTops 22 = .ok (.istore_n 1, 1) := by decide +kernel
theorem dX7_findTops_23 : decode cX7_findTops 23 = .ok (.iload_n 1, 1) := by decide +kernel
theorem dX7_findTops_24 : decode cX7_findTops 24 = .ok (.bipush 10, 2) := by decide +kernel
theorem dX7_findTops_26 : decode cX7_findTops 26 = .ok (.if_icmp .ge 60, 3) := by decide +kernel
theorem dX7_findTops_29 : decode cX7_findTops 29 = .ok (.aload_n 0, 1) := by decide +kernel
theorem dX7_findTops_30 : decode cX7_findTops 30 = .ok (.getfield 32, 3) := by decide +kernel
theorem dX7_findTops_33 : decode cX7_findTops 33 = .ok (.iload_n 1, 1) := by decide +kernel
theorem dX7_findTops_34 : decode cX7_findTops 34 = .ok (.invokevirtual 47, 3) := by decide +kernel
theorem dX7_findTops_37 : decode cX7_findTops 37 = .ok (.iconst 0, 1) := by decide +kernel
theorem dX7_findTops_38 : decode cX7_findTops 38 = .ok (.istore_n 2, 1) := by decide +kernel
theorem dX7_findTops_39 : decode cX7_findTops 39 = .ok (.iload_n 2, 1) := by decide +kernel
theorem dX7_findTops_40 : decode cX7_findTops 40 = .ok (.aload_n 0, 1) := by decide +kernel
theorem dX7_findTops_41 : decode cX7_findTops 41 = .ok (.getfield 28, 3) := by decide +kernel
theorem dX7_findTops_44 : decode cX7_findTops 44 = .ok (.getfield 39, 3) := by decide +kernel
theorem dX7_findTops_47 : decode cX7_findTops 47 = .ok (.if_icmp .ge 33, 3) := by decide +kernel
theorem dX7_findTops_50 : decode cX7_findTops 50 = .ok (.aload_n 0, 1) := by decide +kernel
theorem dX7_findTops_51 : decode cX7_findTops 51 = .ok (.getfield 19, 3) := by decide +kernel
theorem dX7_findTops_54 : decode cX7_findTops 54 = .ok (.iload_n 2, 1) := by decide +kernel
theorem dX7_findTops_55 : decode cX7_findTops 55 = .ok (.aload_n 0, 1) := by decide +kernel
theorem dX7_findTops_56 : decode cX7_findTops 56 = .ok (.getfield 19, 3) := by decide +kernel
theorem dX7_findTops_59 : decode cX7_findTops 59 = .ok (.iload_n 2, 1) := by decide +kernel
theorem dX7_findTops_60 : decode cX7_findTops 60 = .ok (.iaload, 1) := by decide +kernel
theorem dX7_findTops_61 : decode cX7_findTops 61 = .ok (.aload_n 0, 1) := by decide +kernel
theorem dX7_findTops_62 : decode cX7_findTops 62 = .ok (.getfield 32, 3) := by decide +kernel
theorem dX7_findTops_65 : decode cX7_findTops 65 = .ok (.getfield 71, 3) := by decide +kernel
theorem dX7_findTops_68 : decode cX7_findTops 68 = .ok (.iload_n 2, 1) := by decide +kernel
theorem dX7_findTops_69 : decode cX7_findTops 69 = .ok (.iaload, 1) := by decide +kernel
theorem dX7_findTops_70 : decode cX7_findTops 70 = .ok (.invokestatic 74, 3) := by decide +kernel
theorem dX7_findTops_73 : decode cX7_findTops 73 = .ok (.iastore, 1) := by decide +kernel
theorem dX7_findTops_74 : decode cX7_findTops 74 = .ok (.iinc 2 1, 3) := by decide +kernel
theorem dX7_findTops_77 : decode cX7_findTops 77 = .ok (.goto (-38), 3) := by decide +kernel
theorem dX7_findTops_80 : decode cX7_findTops 80 = .ok (.iinc 1 1, 3) := by decide +kernel
theorem dX7_findTops_83 : decode cX7_findTops 83 = .ok (.goto (-60), 3) := by decide +kernel
theorem dX7_findTops_86 : decode cX7_findTops 86 = .ok (.return_, 1) := by decide +kernel
theorem dX7_sortRows_0 : decode cX7_sortRows 0 = .ok (.iconst 0, 1) := by decide +kernel
theorem dX7_sortRows_1 : decode cX7_sortRows 1 = .ok (.istore_n 1, 1) := by decide +kernel
theorem dX7_sortRows_2 : decode cX7_sortRows 2 = .ok (.iload_n 1, 1) := by decide +kernel
theorem dX7_sortRows_3 : decode cX7_sortRows 3 = .ok (.aload_n 0, 1) := by decide +kernel
theorem dX7_sortRows_4 : decode cX7_sortRows 4 = .ok (.getfield 28, 3) := by decide +kernel
theorem dX7_sortRows_7 : decode cX7_sortRows 7 = .ok (.getfield 39, 3) := by decide +kernel
theorem dX7_sortRows_10 : decode cX7_sortRows 10 = .ok (.if_icmp .ge 61, 3) := by decide +kernel
theorem dX7_sortRows_13 : decode cX7_sortRows 13 = .ok (.iload_n 1, 1) := by decide +kernel
theorem dX7_sortRows_14 : decode cX7_sortRows 14 = .ok (.istore_n 2, 1) := by decide +kernel
theorem dX7_sortRows_15 : decode cX7_sortRows 15 = .ok (.iload_n 2, 1) := by decide +kernel
theorem dX7_sortRows_16 : decode cX7_sortRows 16 = .ok (.ifCond .le 42, 3) := by decide +kernel
theorem dX7_sortRows_19 : decode cX7_sortRows 19 = .ok (.aload_n 0, 1) := by decide +kernel
theorem dX7_sortRows_20 : decode cX7_sortRows 20 = .ok (.getfield 32, 3) := by decide +kernel
theorem dX7_sortRows_23 : decode cX7_sortRows 23 = .ok (.iload_n 1, 1) := by decide +kernel
theorem dX7_sortRows_24 : decode cX7_sortRows 24 = .ok (.aload_n 0, 1) := by decide +kernel
theorem dX7_sortRows_25 : decode cX7_sortRows 25 = .ok (.getfield 22, 3) := by decide +kernel
theorem dX7_sortRows_28 : decode cX7_sortRows 28 = .ok (.iload_n 2, 1) := by decide +kernel
theorem dX7_sortRows_29 : decode cX7_sortRows 29 = .ok (.iconst 1, 1) := by decide +kernel
theorem dX7_sortRows_30 : decode cX7_sortRows 30 = .ok (.isub, 1) := by decide +kernel
theorem dX7_sortRows_31 : decode cX7_sortRows 31 = .ok (.iaload, 1) := by decide +kernel
theorem dX7_sortRows_32 : decode cX7_sortRows 32 = .ok (.invokevirtual 80, 3) := by decide +kernel
theorem dX7_sortRows_35 : decode cX7_sortRows 35 = .ok (.ifCond .le 23, 3) := by decide +kernel
theorem dX7_sortRows_38 : decode cX7_sortRows 38 = .ok (.aload_n 0, 1) := by decide +kernel
theorem dX7_sortRows_39 : decode cX7_sortRows 39 = .ok (.getfield 22, 3) := by decide +kernel
theorem dX7_sortRows_42 : decode cX7_sortRows 42 = .ok (.iload_n 2, 1) := by decide +kernel
theorem dX7_sortRows_43 : decode cX7_sortRows 43 = .ok (.aload_n 0, 1) := by decide +kernel
theorem dX7_sortRows_44 : decode cX7_sortRows 44 = .ok (.getfield 22, 3) := by decide +kernel
theorem dX7_sortRows_47 : decode cX7_sortRows 47 = .ok (.iload_n 2, 1) := by decide +kernel
theorem dX7_sortRows_48 : decode cX7_sortRows 48 = .ok (.iconst 1, 1) := by decide +kernel
theorem dX7_sortRows_49 : decode cX7_sortRows 49 = .ok (.isub, 1) := by decide +kernel
theorem dX7_sortRows_50 : decode cX7_sortRows 50 = .ok (.iaload, 1) := by decide +kernel
theorem dX7_sortRows_51 : decode cX7_sortRows 51 = .ok (.iastore, 1) := by decide +kernel
theorem dX7_sortRows_52 : decode cX7_sortRows 52 = .ok (.iinc 2 (-1), 3) := by decide +kernel
theorem dX7_sortRows_55 : decode cX7_sortRows 55 = .ok (.goto (-40), 3) := by decide +kernel
theorem dX7_sortRows_58 : decode cX7_sortRows 58 = .ok (.aload_n 0, 1) := by decide +kernel
theorem dX7_sortRows_59 : decode cX7_sortRows 59 = .ok (.getfield 22, 3) := by decide +kernel
theorem dX7_sortRows_62 : decode cX7_sortRows 62 = .ok (.iload_n 2, 1) := by decide +kernel
theorem dX7_sortRows_63 : decode cX7_sortRows 63 = .ok (.iload_n 1, 1) := by decide +kernel
theorem dX7_sortRows_64 : decode cX7_sortRows 64 = .ok (.iastore, 1) := by decide +kernel
theorem dX7_sortRows_65 : decode cX7_sortRows 65 = .ok (.iinc 1 1, 3) := by decide +kernel
theorem dX7_sortRows_68 : decode cX7_sortRows 68 = .ok (.goto (-66), 3) := by decide +kernel
theorem dX7_sortRows_71 : decode cX7_sortRows 71 = .ok (.return_, 1) := by decide +kernel
theorem dX7_layRows_0 : decode cX7_layRows 0 = .ok (.iload_n 1, 1) := by decide +kernel
theorem dX7_layRows_1 : decode cX7_layRows 1 = .ok (.aload_n 0, 1) := by decide +kernel
theorem dX7_layRows_2 : decode cX7_layRows 2 = .ok (.getfield 28, 3) := by decide +kernel
theorem dX7_layRows_5 : decode cX7_layRows 5 = .ok (.getfield 39, 3) := by decide +kernel
theorem dX7_layRows_8 : decode cX7_layRows 8 = .ok (.if_icmp .lt 14, 3) := by decide +kernel
theorem dX7_layRows_11 : decode cX7_layRows 11 = .ok (.aload_n 0, 1) := by decide +kernel
theorem dX7_layRows_12 : decode cX7_layRows 12 = .ok (.getfield 9, 3) := by decide +kernel
theorem dX7_layRows_15 : decode cX7_layRows 15 = .ok (.iload_n 2, 1) := by decide +kernel
theorem dX7_layRows_16 : decode cX7_layRows 16 = .ok (.dup2, 1) := by decide +kernel
theorem dX7_layRows_17 : decode cX7_layRows 17 = .ok (.iaload, 1) := by decide +kernel
theorem dX7_layRows_18 : decode cX7_layRows 18 = .ok (.iload_n 3, 1) := by decide +kernel
theorem dX7_layRows_19 : decode cX7_layRows 19 = .ok (.iadd, 1) := by decide +kernel
theorem dX7_layRows_20 : decode cX7_layRows 20 = .ok (.iastore, 1) := by decide +kernel
theorem dX7_layRows_21 : decode cX7_layRows 21 = .ok (.return_, 1) := by decide +kernel
theorem dX7_layRows_22 : decode cX7_layRows 22 = .ok (.aload_n 0, 1) := by decide +kernel
theorem dX7_layRows_23 : decode cX7_layRows 23 = .ok (.getfield 22, 3) := by decide +kernel
theorem dX7_layRows_26 : decode cX7_layRows 26 = .ok (.iload_n 1, 1) := by decide +kernel
theorem dX7_layRows_27 : decode cX7_layRows 27 = .ok (.iaload, 1) := by decide +kernel
theorem dX7_layRows_28 : decode cX7_layRows 28 = .ok (.istore 4, 2) := by decide +kernel
theorem dX7_layRows_30 : decode cX7_layRows 30 = .ok (.aload_n 0, 1) := by decide +kernel
theorem dX7_layRows_31 : decode cX7_layRows 31 = .ok (.iload 4, 2) := by decide +kernel
theorem dX7_layRows_33 : decode cX7_layRows 33 = .ok (.iload_n 1, 1) := by decide +kernel
theorem dX7_layRows_34 : decode cX7_layRows 34 = .ok (.invokevirtual 83, 3) := by decide +kernel
theorem dX7_layRows_37 : decode cX7_layRows 37 = .ok (.istore 5, 2) := by decide +kernel
theorem dX7_layRows_39 : decode cX7_layRows 39 = .ok (.aload_n 0, 1) := by decide +kernel
theorem dX7_layRows_40 : decode cX7_layRows 40 = .ok (.iload 4, 2) := by decide +kernel
theorem dX7_layRows_42 : decode cX7_layRows 42 = .ok (.invokevirtual 64, 3) := by decide +kernel
theorem dX7_layRows_45 : decode cX7_layRows 45 = .ok (.istore 6, 2) := by decide +kernel
theorem dX7_layRows_47 : decode cX7_layRows 47 = .ok (.aload_n 0, 1) := by decide +kernel
theorem dX7_layRows_48 : decode cX7_layRows 48 = .ok (.getfield 32, 3) := by decide +kernel
theorem dX7_layRows_51 : decode cX7_layRows 51 = .ok (.getfield 71, 3) := by decide +kernel
theorem dX7_layRows_54 : decode cX7_layRows 54 = .ok (.iload 4, 2) := by decide +kernel
theorem dX7_layRows_56 : decode cX7_layRows 56 = .ok (.iaload, 1) := by decide +kernel
theorem dX7_layRows_57 : decode cX7_layRows 57 = .ok (.istore 7, 2) := by decide +kernel
theorem dX7_layRows_59 : decode cX7_layRows 59 = .ok (.aload_n 0, 1) := by decide +kernel
theorem dX7_layRows_60 : decode cX7_layRows 60 = .ok (.getfield 28, 3) := by decide +kernel
theorem dX7_layRows_63 : decode cX7_layRows 63 = .ok (.getfield 68, 3) := by decide +kernel
theorem dX7_layRows_66 : decode cX7_layRows 66 = .ok (.iload 4, 2) := by decide +kernel
theorem dX7_layRows_68 : decode cX7_layRows 68 = .ok (.iaload, 1) := by decide +kernel
theorem dX7_layRows_69 : decode cX7_layRows 69 = .ok (.istore 8, 2) := by decide +kernel
theorem dX7_layRows_71 : decode cX7_layRows 71 = .ok (.aload_n 0, 1) := by decide +kernel
theorem dX7_layRows_72 : decode cX7_layRows 72 = .ok (.getfield 32, 3) := by decide +kernel
theorem dX7_layRows_75 : decode cX7_layRows 75 = .ok (.invokevirtual 86, 3) := by decide +kernel
theorem dX7_layRows_78 : decode cX7_layRows 78 = .ok (.istore 9, 2) := by decide +kernel
theorem dX7_layRows_80 : decode cX7_layRows 80 = .ok (.iconst 0, 1) := by decide +kernel
theorem dX7_layRows_81 : decode cX7_layRows 81 = .ok (.istore 10, 2) := by decide +kernel
theorem dX7_layRows_83 : decode cX7_layRows 83 = .ok (.iload 10, 2) := by decide +kernel
theorem dX7_layRows_85 : decode cX7_layRows 85 = .ok (.aload_n 0, 1) := by decide +kernel
theorem dX7_layRows_86 : decode cX7_layRows 86 = .ok (.getfield 19, 3) := by decide +kernel
theorem dX7_layRows_89 : decode cX7_layRows 89 = .ok (.iload 4, 2) := by decide +kernel
theorem dX7_layRows_91 : decode cX7_layRows 91 = .ok (.iaload, 1) := by decide +kernel
theorem dX7_layRows_92 : decode cX7_layRows 92 = .ok (.if_icmp .gt 62, 3) := by decide +kernel
theorem dX7_layRows_95 : decode cX7_layRows 95 = .ok (.iload 8, 2) := by decide +kernel
theorem dX7_layRows_97 : decode cX7_layRows 97 = .ok (.iload 10, 2) := by decide +kernel
theorem dX7_layRows_99 : decode cX7_layRows 99 = .ok (.iload 7, 2) := by decide +kernel
theorem dX7_layRows_101 : decode cX7_layRows 101 = .ok (.invokestatic 90, 3) := by decide +kernel
theorem dX7_layRows_104 : decode cX7_layRows 104 = .ok (.imul, 1) := by decide +kernel
theorem dX7_layRows_105 : decode cX7_layRows 105 = .ok (.istore 11, 2) := by decide +kernel
theorem dX7_layRows_107 : decode cX7_layRows 107 = .ok (.iconst 0, 1) := by decide +kernel
theorem dX7_layRows_108 : decode cX7_layRows 108 = .ok (.iload 11, 2) := by decide +kernel
theorem dX7_layRows_110 : decode cX7_layRows 110 = .ok (.iload 5, 2) := by decide +kernel
theorem dX7_layRows_112 : decode cX7_layRows 112 = .ok (.isub, 1) := by decide +kernel
theorem dX7_layRows_113 : decode cX7_layRows 113 = .ok (.invokestatic 74, 3) := by decide +kernel
theorem dX7_layRows_116 : decode cX7_layRows 116 = .ok (.iload 9, 2) := by decide +kernel
theorem dX7_layRows_118 : decode cX7_layRows 118 = .ok (.imul, 1) := by decide +kernel
theorem dX7_layRows_119 : decode cX7_layRows 119 = .ok (.istore 12, 2) := by decide +kernel
theorem dX7_layRows_121 : decode cX7_layRows 121 = .ok (.aload_n 0, 1) := by decide +kernel
theorem dX7_layRows_122 : decode cX7_layRows 122 = .ok (.getfield 25, 3) := by decide +kernel
theorem dX7_layRows_125 : decode cX7_layRows 125 = .ok (.iload 4, 2) := by decide +kernel
theorem dX7_layRows_127 : decode cX7_layRows 127 = .ok (.iload 11, 2) := by decide +kernel
theorem dX7_layRows_129 : decode cX7_layRows 129 = .ok (.iastore, 1) := by decide +kernel
theorem dX7_layRows_130 : decode cX7_layRows 130 = .ok (.aload_n 0, 1) := by decide +kernel
theorem dX7_layRows_131 : decode cX7_layRows 131 = .ok (.iload_n 1, 1) := by decide +kernel
theorem dX7_layRows_132 : decode cX7_layRows 132 = .ok (.iconst 1, 1) := by decide +kernel
theorem dX7_layRows_133 : decode cX7_layRows 133 = .ok (.iadd, 1) := by decide +kernel
theorem dX7_layRows_134 : decode cX7_layRows 134 = .ok (.iload_n 2, 1) := by decide +kernel
theorem dX7_layRows_135 : decode cX7_layRows 135 = .ok (.iload 10, 2) := by decide +kernel
theorem dX7_layRows_137 : decode cX7_layRows 137 = .ok (.iload 6, 2) := by decide +kernel
theorem dX7_layRows_139 : decode cX7_layRows 139 = .ok (.imul, 1) := by decide +kernel
theorem dX7_layRows_140 : decode cX7_layRows 140 = .ok (.iadd, 1) := by decide +kernel
theorem dX7_layRows_141 : decode cX7_layRows 141 = .ok (.iload_n 3, 1) := by decide +kernel
theorem dX7_layRows_142 : decode cX7_layRows 142 = .ok (.iload 12, 2) := by decide +kernel
theorem dX7_layRows_144 : decode cX7_layRows 144 = .ok (.iadd, 1) := by decide +kernel
theorem dX7_layRows_145 : decode cX7_layRows 145 = .ok (.invokestatic 60, 3) := by decide +kernel
theorem dX7_layRows_148 : decode cX7_layRows 148 = .ok (.iinc 10 1, 3) := by decide +kernel
theorem dX7_layRows_151 : decode cX7_layRows 151 = .ok (.goto (-68), 3) := by decide +kernel
theorem dX7_layRows_154 : decode cX7_layRows 154 = .ok (.return_, 1) := by decide +kernel
theorem dX7_shadeOn_0 : decode cX7_shadeOn 0 = .ok (.iconst 0, 1) := by decide +kernel
theorem dX7_shadeOn_1 : decode cX7_shadeOn 1 = .ok (.istore_n 3, 1) := by decide +kernel
theorem dX7_shadeOn_2 : decode cX7_shadeOn 2 = .ok (.iconst 0, 1) := by decide +kernel
theorem dX7_shadeOn_3 : decode cX7_shadeOn 3 = .ok (.istore 4, 2) := by decide +kernel
theorem dX7_shadeOn_5 : decode cX7_shadeOn 5 = .ok (.iload 4, 2) := by decide +kernel
theorem dX7_shadeOn_7 : decode cX7_shadeOn 7 = .ok (.iload_n 2, 1) := by decide +kernel
theorem dX7_shadeOn_8 : decode cX7_shadeOn 8 = .ok (.if_icmp .ge 40, 3) := by decide +kernel
theorem dX7_shadeOn_11 : decode cX7_shadeOn 11 = .ok (.aload_n 0, 1) := by decide +kernel
theorem dX7_shadeOn_12 : decode cX7_shadeOn 12 = .ok (.getfield 22, 3) := by decide +kernel
theorem dX7_shadeOn_15 : decode cX7_shadeOn 15 = .ok (.iload 4, 2) := by decide +kernel
theorem dX7_shadeOn_17 : decode cX7_shadeOn 17 = .ok (.iaload, 1) := by decide +kernel
theorem dX7_shadeOn_18 : decode cX7_shadeOn 18 = .ok (.istore 5, 2) := by decide +kernel
theorem dX7_shadeOn_20 : decode cX7_shadeOn 20 = .ok (.iload_n 3, 1) := by decide +kernel
theorem dX7_shadeOn_21 : decode cX7_shadeOn 21 = .ok (.aload_n 0, 1) := by decide +kernel
theorem dX7_shadeOn_22 : decode cX7_shadeOn 22 = .ok (.getfield 32, 3) := by decide +kernel
theorem dX7_shadeOn_25 : decode cX7_shadeOn 25 = .ok (.iload 5, 2) := by decide +kernel
theorem dX7_shadeOn_27 : decode cX7_shadeOn 27 = .ok (.iload_n 1, 1) := by decide +kernel
theorem dX7_shadeOn_28 : decode cX7_shadeOn 28 = .ok (.aload_n 0, 1) := by decide +kernel
theorem dX7_shadeOn_29 : decode cX7_shadeOn 29 = .ok (.getfield 25, 3) := by decide +kernel
theorem dX7_shadeOn_32 : decode cX7_shadeOn 32 = .ok (.iload 5, 2) := by decide +kernel
theorem dX7_shadeOn_34 : decode cX7_shadeOn 34 = .ok (.iaload, 1) := by decide +kernel
theorem dX7_shadeOn_35 : decode cX7_shadeOn 35 = .ok (.invokevirtual 93, 3) := by decide +kernel
theorem dX7_shadeOn_38 : decode cX7_shadeOn 38 = .ok (.invokestatic 74, 3) := by decide +kernel
theorem dX7_shadeOn_41 : decode cX7_shadeOn 41 = .ok (.istore_n 3, 1) := by decide +kernel
theorem dX7_shadeOn_42 : decode cX7_shadeOn 42 = .ok (.iinc 4 1, 3) := by decide +kernel
theorem dX7_shadeOn_45 : decode cX7_shadeOn 45 = .ok (.goto (-40), 3) := by decide +kernel
theorem dX7_shadeOn_48 : decode cX7_shadeOn 48 = .ok (.iload_n 3, 1) := by decide +kernel
theorem dX7_shadeOn_49 : decode cX7_shadeOn 49 = .ok (.ireturn, 1) := by decide +kernel
theorem dX8_init_0 : decode cX8_init 0 = .ok (.aload_n 0, 1) := by decide +kernel
theorem dX8_init_1 : decode cX8_init 1 = .ok (.invokespecial 1, 3) := by decide +kernel
theorem dX8_init_4 : decode cX8_init 4 = .ok (.aload_n 0, 1) := by decide +kernel
theorem dX8_init_5 : decode cX8_init 5 = .ok (.new 7, 3) := by decide +kernel
theorem dX8_init_8 : decode cX8_init 8 = .ok (.dup, 1) := by decide +kernel
theorem dX8_init_9 : decode cX8_init 9 = .ok (.invokespecial 9, 3) := by decide +kernel
theorem dX8_init_12 : decode cX8_init 12 = .ok (.putfield 10, 3) := by decide +kernel
theorem dX8_init_15 : decode cX8_init 15 = .ok (.aload_n 0, 1) := by decide +kernel
theorem dX8_init_16 : decode cX8_init 16 = .ok (.new 16, 3) := by decide +kernel
theorem dX8_init_19 : decode cX8_init 19 = .ok (.dup, 1) := by decide +kernel
theorem dX8_init_20 : decode cX8_init 20 = .ok (.aload_n 0, 1) := by decide +kernel
theorem dX8_init_21 : decode cX8_init 21 = .ok (.getfield 10, 3) := by decide +kernel
theorem dX8_init_24 : decode cX8_init 24 = .ok (.invokespecial 18, 3) := by decide +kernel
theorem dX8_init_27 : decode cX8_init 27 = .ok (.putfield 21, 3) := by decide +kernel
theorem dX8_init_30 : decode cX8_init 30 = .ok (.aload_n 0, 1) := by decide +kernel
theorem dX8_init_31 : decode cX8_init 31 = .ok (.new 25, 3) := by decide +kernel
theorem dX8_init_34 : decode cX8_init 34 = .ok (.dup, 1) := by decide +kernel
theorem dX8_init_35 : decode cX8_init 35 = .ok (.aload_n 0, 1) := by decide +kernel
theorem dX8_init_36 : decode cX8_init 36 = .ok (.getfield 10, 3) := by decide +kernel
theorem dX8_init_39 : decode cX8_init 39 = .ok (.invokespecial 27, 3) := by decide +kernel
theorem dX8_init_42 : decode cX8_init 42 = .ok (.putfield 28, 3) := by decide +kernel
theorem dX8_init_45 : decode cX8_init 45 = .ok (.aload_n 0, 1) := by decide +kernel
theorem dX8_init_46 : decode cX8_init 46 = .ok (.new 32, 3) := by decide +kernel
theorem dX8_init_49 : decode cX8_init 49 = .ok (.dup, 1) := by decide +kernel
theorem dX8_init_50 : decode cX8_init 50 = .ok (.aload_n 0, 1) := by decide +kernel
theorem dX8_init_51 : decode cX8_init 51 = .ok (.getfield 10, 3) := by decide +kernel
theorem dX8_init_54 : decode cX8_init 54 = .ok (.aload_n 0, 1) := by decide +kernel
theorem dX8_init_55 : decode cX8_init 55 = .ok (.getfield 21, 3) := by decide +kernel
theorem dX8_init_58 : decode cX8_init 58 = .ok (.invokespecial 34, 3) := by decide +kernel
theorem dX8_init_61 : decode cX8_init 61 = .ok (.putfield 37, 3) := by decide +kernel
theorem dX8_init_64 : decode cX8_init 64 = .ok (.aload_n 0, 1) := by decide +kernel
theorem dX8_init_65 : decode cX8_init 65 = .ok (.new 41, 3) := by decide +kernel
theorem dX8_init_68 : decode cX8_init 68 = .ok (.dup, 1) := by decide +kernel
theorem dX8_init_69 : decode cX8_init 69 = .ok (.invokespecial 43, 3) := by decide +kernel
theorem dX8_init_72 : decode cX8_init 72 = .ok (.putfield 44, 3) := by decide +kernel
theorem dX8_init_75 : decode cX8_init 75 = .ok (.aload_n 0, 1) := by decide +kernel
theorem dX8_init_76 : decode cX8_init 76 = .ok (.new 48, 3) := by decide +kernel
theorem dX8_init_79 : decode cX8_init 79 = .ok (.dup, 1) := by decide +kernel
theorem dX8_init_80 : decode cX8_init 80 = .ok (.aload_n 0, 1) := by decide +kernel
theorem dX8_init_81 : decode cX8_init 81 = .ok (.getfield 44, 3) := by decide +kernel
theorem dX8_init_84 : decode cX8_init 84 = .ok (.invokespecial 50, 3) := by decide +kernel
theorem dX8_init_87 : decode cX8_init 87 = .ok (.putfield 53, 3) := by decide +kernel
theorem dX8_init_90 : decode cX8_init 90 = .ok (.aload_n 0, 1) := by decide +kernel
theorem dX8_init_91 : decode cX8_init 91 = .ok (.new 57, 3) := by decide +kernel
theorem dX8_init_94 : decode cX8_init 94 = .ok (.dup, 1) := by decide +kernel
theorem dX8_init_95 : decode cX8_init 95 = .ok (.invokespecial 59, 3) := by decide +kernel
theorem dX8_init_98 : decode cX8_init 98 = .ok (.putfield 60, 3) := by decide +kernel
theorem dX8_init_101 : decode cX8_init 101 = .ok (.aload_n 0, 1) := by decide +kernel
theorem dX8_init_102 : decode cX8_init 102 = .ok (.iconst 2, 1) := by decide +kernel
theorem dX8_init_103 : decode cX8_init 103 = .ok (.anewarray 7, 3) := by decide +kernel
theorem dX8_init_106 : decode cX8_init 106 = .ok (.dup, 1) := by decide +kernel
theorem dX8_init_107 : decode cX8_init 107 = .ok (.iconst 0, 1) := by decide +kernel
theorem dX8_init_108 : decode cX8_init 108 = .ok (.new 7, 3) := by decide +kernel
theorem dX8_init_111 : decode cX8_init 111 = .ok (.dup, 1) := by decide +kernel
theorem dX8_init_112 : decode cX8_init 112 = .ok (.invokespecial 9, 3) := by decide +kernel
theorem dX8_init_115 : decode cX8_init 115 = .ok (.aastore, 1) := by decide +kernel
theorem dX8_init_116 : decode cX8_init 116 = .ok (.dup, 1) := by decide +kernel
theorem dX8_init_117 : decode cX8_init 117 = .ok (.iconst 1, 1) := by decide +kernel
theorem dX8_init_118 : decode cX8_init 118 = .ok (.new 7, 3) := by decide +kernel
theorem dX8_init_121 : decode cX8_init 121 = .ok (.dup, 1) := by decide +kernel
theorem dX8_init_122 : decode cX8_init 122 = .ok (.invokespecial 9, 3) := by decide +kernel
theorem dX8_init_125 : decode cX8_init 125 = .ok (.aastore, 1) := by decide +kernel
theorem dX8_init_126 : decode cX8_init 126 = .ok (.putfield 64, 3) := by decide +kernel
theorem dX8_init_129 : decode cX8_init 129 = .ok (.aload_n 0, 1) := by decide +kernel
theorem dX8_init_130 : decode cX8_init 130 = .ok (.iconst 2, 1) := by decide +kernel
theorem dX8_init_131 : decode cX8_init 131 = .ok (.newarray .boolean, 2) := by decide +kernel
theorem dX8_init_133 : decode cX8_init 133 = .ok (.putfield 68, 3) := by decide +kernel
theorem dX8_init_136 : decode cX8_init 136 = .ok (.return_, 1) := by decide +kernel
theorem dX8_row_0 : decode cX8_row 0 = .ok (.aload_n 0, 1) := by decide +kernel
theorem dX8_row_1 : decode cX8_row 1 = .ok (.getfield 60, 3) := by decide +kernel
theorem dX8_row_4 : decode cX8_row 4 = .ok (.aload_n 0, 1) := by decide +kernel
theorem dX8_row_5 : decode cX8_row 5 = .ok (.getfield 10, 3) := by decide +kernel
theorem dX8_row_8 : decode cX8_row 8 = .ok (.invokevirtual 72, 3) := by decide +kernel
theorem dX8_row_11 : decode cX8_row 11 = .ok (.aload_n 0, 1) := by decide +kernel
theorem dX8_row_12 : decode cX8_row 12 = .ok (.getfield 60, 3) := by decide +kernel
theorem dX8_row_15 : decode cX8_row 15 = .ok (.aload_n 0, 1) := by decide +kernel
theorem dX8_row_16 : decode cX8_row 16 = .ok (.getfield 10, 3) := by decide +kernel
theorem dX8_row_19 : decode cX8_row 19 = .ok (.iload_n 1, 1) := by decide +kernel
theorem dX8_row_20 : decode cX8_row 20 = .ok (.iload_n 2, 1) := by decide +kernel
theorem dX8_row_21 : decode cX8_row 21 = .ok (.iload_n 3, 1) := by decide +kernel
theorem dX8_row_22 : decode cX8_row 22 = .ok (.invokevirtual 75, 3) := by decide +kernel
theorem dX8_row_25 : decode cX8_row 25 = .ok (.invokevirtual 79, 3) := by decide +kernel
theorem dX8_row_28 : decode cX8_row 28 = .ok (.ireturn, 1) := by decide +kernel
theorem dX8_tilt_0 : decode cX8_tilt 0 = .ok (.aload_n 0, 1) := by decide +kernel
theorem dX8_tilt_1 : decode cX8_tilt 1 = .ok (.getfield 60, 3) := by decide +kernel
theorem dX8_tilt_4 : decode cX8_tilt 4 = .ok (.aload_n 0, 1) := by decide +kernel
theorem dX8_tilt_5 : decode cX8_tilt 5 = .ok (.getfield 10, 3) := by decide +kernel
theorem dX8_tilt_8 : decode cX8_tilt 8 = .ok (.invokevirtual 72, 3) := by decide +kernel
theorem dX8_tilt_11 : decode cX8_tilt 11 = .ok (.aload_n 0, 1) := by decide +kernel
theorem dX8_tilt_12 : decode cX8_tilt 12 = .ok (.getfield 60, 3) := by decide +kernel
theorem dX8_tilt_15 : decode cX8_tilt 15 = .ok (.aload_n 0, 1) := by decide +kernel
theorem dX8_tilt_16 : decode cX8_tilt 16 = .ok (.getfield 10, 3) := by decide +kernel
theorem dX8_tilt_19 : decode cX8_tilt 19 = .ok (.iload_n 1, 1) := by decide +kernel
theorem dX8_tilt_20 : decode cX8_tilt 20 = .ok (.iload_n 2, 1) := by decide +kernel
theorem dX8_tilt_21 : decode cX8_tilt 21 = .ok (.invokevirtual 83, 3) := by decide +kernel
theorem dX8_tilt_24 : decode cX8_tilt 24 = .ok (.invokevirtual 79, 3) := by decide +kernel
theorem dX8_tilt_27 : decode cX8_tilt 27 = .ok (.ireturn, 1) := by decide +kernel
theorem dX8_wind_0 : decode cX8_wind 0 = .ok (.aload_n 0, 1) := by decide +kernel
theorem dX8_wind_1 : decode cX8_wind 1 = .ok (.getfield 60, 3) := by decide +kernel
theorem dX8_wind_4 : decode cX8_wind 4 = .ok (.aload_n 0, 1) := by decide +kernel
theorem dX8_wind_5 : decode cX8_wind 5 = .ok (.getfield 10, 3) := by decide +kernel
theorem dX8_wind_8 : decode cX8_wind 8 = .ok (.invokevirtual 72, 3) := by decide +kernel
theorem dX8_wind_11 : decode cX8_wind 11 = .ok (.aload_n 0, 1) := by decide +kernel
theorem dX8_wind_12 : decode cX8_wind 12 = .ok (.getfield 60, 3) := by decide +kernel
theorem dX8_wind_15 : decode cX8_wind 15 = .ok (.aload_n 0, 1) := by decide +kernel
theorem dX8_wind_16 : decode cX8_wind 16 = .ok (.getfield 10, 3) := by decide +kernel
theorem dX8_wind_19 : decode cX8_wind 19 = .ok (.iload_n 1, 1) := by decide +kernel
theorem dX8_wind_20 : decode cX8_wind 20 = .ok (.iload_n 2, 1) := by decide +kernel
theorem dX8_wind_21 : decode cX8_wind 21 = .ok (.invokevirtual 87, 3) := by decide +kernel
theorem dX8_wind_24 : decode cX8_wind 24 = .ok (.invokevirtual 79, 3) := by decide +kernel
theorem dX8_wind_27 : decode cX8_wind 27 = .ok (.ireturn, 1) := by decide +kernel
theorem dX8_stow_0 : decode cX8_stow 0 = .ok (.aload_n 0, 1) := by decide +kernel
theorem dX8_stow_1 : decode cX8_stow 1 = .ok (.getfield 60, 3) := by decide +kernel
theorem dX8_stow_4 : decode cX8_stow 4 = .ok (.aload_n 0, 1) := by decide +kernel
theorem dX8_stow_5 : decode cX8_stow 5 = .ok (.getfield 10, 3) := by decide +kernel
theorem dX8_stow_8 : decode cX8_stow 8 = .ok (.invokevirtual 72, 3) := by decide +kernel
theorem dX8_stow_11 : decode cX8_stow 11 = .ok (.aload_n 0, 1) := by decide +kernel
theorem dX8_stow_12 : decode cX8_stow 12 = .ok (.getfield 60, 3) := by decide +kernel
theorem dX8_stow_15 : decode cX8_stow 15 = .ok (.aload_n 0, 1) := by decide +kernel
theorem dX8_stow_16 : decode cX8_stow 16 = .ok (.getfield 10, 3) := by decide +kernel
theorem dX8_stow_19 : decode cX8_stow 19 = .ok (.iload_n 1, 1) := by decide +kernel
theorem dX8_stow_20 : decode cX8_stow 20 = .ok (.invokevirtual 90, 3) := by decide +kernel
theorem dX8_stow_23 : decode cX8_stow 23 = .ok (.invokevirtual 79, 3) := by decide +kernel
theorem dX8_stow_26 : decode cX8_stow 26 = .ok (.ireturn, 1) := by decide +kernel
theorem dX8_grant_0 : decode cX8_grant 0 = .ok (.aload_n 0, 1) := by decide +kernel
theorem dX8_grant_1 : decode cX8_grant 1 = .ok (.getfield 60, 3) := by decide +kernel
theorem dX8_grant_4 : decode cX8_grant 4 = .ok (.aload_n 0, 1) := by decide +kernel
theorem dX8_grant_5 : decode cX8_grant 5 = .ok (.getfield 10, 3) := by decide +kernel
theorem dX8_grant_8 : decode cX8_grant 8 = .ok (.invokevirtual 72, 3) := by decide +kernel
theorem dX8_grant_11 : decode cX8_grant 11 = .ok (.aload_n 0, 1) := by decide +kernel
theorem dX8_grant_12 : decode cX8_grant 12 = .ok (.getfield 60, 3) := by decide +kernel
theorem dX8_grant_15 : decode cX8_grant 15 = .ok (.aload_n 0, 1) := by decide +kernel
theorem dX8_grant_16 : decode cX8_grant 16 = .ok (.getfield 10, 3) := by decide +kernel
theorem dX8_grant_19 : decode cX8_grant 19 = .ok (.iload_n 1, 1) := by decide +kernel
theorem dX8_grant_20 : decode cX8_grant 20 = .ok (.iload_n 2, 1) := by decide +kernel
theorem dX8_grant_21 : decode cX8_grant 21 = .ok (.iload_n 3, 1) := by decide +kernel
theorem dX8_grant_22 : decode cX8_grant 22 = .ok (.iload 4, 2) := by decide +kernel
theorem dX8_grant_24 : decode cX8_grant 24 = .ok (.invokevirtual 93, 3) := by decide +kernel
theorem dX8_grant_27 : decode cX8_grant 27 = .ok (.invokevirtual 79, 3) := by decide +kernel
theorem dX8_grant_30 : decode cX8_grant 30 = .ok (.ireturn, 1) := by decide +kernel
theorem dX8_ask_0 : decode cX8_ask 0 = .ok (.aload_n 0, 1) := by decide +kernel
theorem dX8_ask_1 : decode cX8_ask 1 = .ok (.getfield 60, 3) := by decide +kernel
theorem dX8_ask_4 : decode cX8_ask 4 = .ok (.aload_n 0, 1) := by decide +kernel
theorem dX8_ask_5 : decode cX8_ask 5 = .ok (.getfield 10, 3) := by decide +kernel
theorem dX8_ask_8 : decode cX8_ask 8 = .ok (.invokevirtual 72, 3) := by decide +kernel
theorem dX8_ask_11 : decode cX8_ask 11 = .ok (.aload_n 0, 1) := by decide +kernel
theorem dX8_ask_12 : decode cX8_ask 12 = .ok (.getfield 60, 3) := by decide +kernel
theorem dX8_ask_15 : decode cX8_ask 15 = .ok (.aload_n 0, 1) := by decide +kernel
theorem dX8_ask_16 : decode cX8_ask 16 = .ok (.getfield 28, 3) := by decide +kernel
theorem dX8_ask_19 : decode cX8_ask 19 = .ok (.iload_n 1, 1) := by decide +kernel
theorem dX8_ask_20 : decode cX8_ask 20 = .ok (.iload_n 2, 1) := by decide +kernel
theorem dX8_ask_21 : decode cX8_ask 21 = .ok (.iload_n 3, 1) := by decide +kernel
theorem dX8_ask_22 : decode cX8_ask 22 = .ok (.iload 4, 2) := by decide +kernel
theorem dX8_ask_24 : decode cX8_ask 24 = .ok (.invokevirtual 97, 3) := by decide +kernel
theorem dX8_ask_27 : decode cX8_ask 27 = .ok (.invokevirtual 79, 3) := by decide +kernel
theorem dX8_ask_30 : decode cX8_ask 30 = .ok (.ireturn, 1) := by decide +kernel
theorem dX8_bid_0 : decode cX8_bid 0 = .ok (.aload_n 0, 1) := by decide +kernel
theorem dX8_bid_1 : decode cX8_bid 1 = .ok (.getfield 60, 3) := by decide +kernel
theorem dX8_bid_4 : decode cX8_bid 4 = .ok (.aload_n 0, 1) := by decide +kernel
theorem dX8_bid_5 : decode cX8_bid 5 = .ok (.getfield 10, 3) := by decide +kernel
theorem dX8_bid_8 : decode cX8_bid 8 = .ok (.invokevirtual 72, 3) := by decide +kernel
theorem dX8_bid_11 : decode cX8_bid 11 = .ok (.aload_n 0, 1) := by decide +kernel
theorem dX8_bid_12 : decode cX8_bid 12 = .ok (.getfield 60, 3) := by decide +kernel
theorem dX8_bid_15 : decode cX8_bid 15 = .ok (.aload_n 0, 1) := by decide +kernel
theorem dX8_bid_16 : decode cX8_bid 16 = .ok (.getfield 28, 3) := by decide +kernel
theorem dX8_bid_19 : decode cX8_bid 19 = .ok (.iload_n 1, 1) := by decide +kernel
theorem dX8_bid_20 : decode cX8_bid 20 = .ok (.iload_n 2, 1) := by decide +kernel
theorem dX8_bid_21 : decode cX8_bid 21 = .ok (.iload_n 3, 1) := by decide +kernel
theorem dX8_bid_22 : decode cX8_bid 22 = .ok (.iload 4, 2) := by decide +kernel
theorem dX8_bid_24 : decode cX8_bid 24 = .ok (.iload 5, 2) := by decide +kernel
theorem dX8_bid_26 : decode cX8_bid 26 = .ok (.invokevirtual 100, 3) := by decide +kernel
theorem dX8_bid_29 : decode cX8_bid 29 = .ok (.invokevirtual 79, 3) := by decide +kernel
theorem dX8_bid_32 : decode cX8_bid 32 = .ok (.ireturn, 1) := by decide +kernel
theorem dX8_takeBack_0 : decode cX8_takeBack 0 = .ok (.iload_n 1, 1) := by decide +kernel
theorem dX8_takeBack_1 : decode cX8_takeBack 1 = .ok (.iconst 0, 1) := by decide +kernel
theorem dX8_takeBack_2 : decode cX8_takeBack 2 = .ok (.iconst 1, 1) := by decide +kernel
theorem dX8_takeBack_3 : decode cX8_takeBack 3 = .ok (.invokestatic 104, 3) := by decide +kernel
theorem dX8_takeBack_6 : decode cX8_takeBack 6 = .ok (.ifCond .eq 6, 3) := by decide +kernel
theorem dX8_takeBack_9 : decode cX8_takeBack 9 = .ok (.bipush (-2), 2) := by decide +kernel
theorem dX8_takeBack_11 : decode cX8_takeBack 11 = .ok (.ireturn, 1) := by decide +kernel
theorem dX8_takeBack_12 : decode cX8_takeBack 12 = .ok (.aload_n 0, 1) := by decide +kernel
theorem dX8_takeBack_13 : decode cX8_takeBack 13 = .ok (.getfield 60, 3) := by decide +kernel
theorem dX8_takeBack_16 : decode cX8_takeBack 16 = .ok (.aload_n 0, 1) := by decide +kernel
theorem dX8_takeBack_17 : decode cX8_takeBack 17 = .ok (.getfield 10, 3) := by decide +kernel
theorem dX8_takeBack_20 : decode cX8_takeBack 20 = .ok (.invokevirtual 72, 3) := by decide +kernel
theorem dX8_takeBack_23 : decode cX8_takeBack 23 = .ok (.aload_n 0, 1) := by decide +kernel
theorem dX8_takeBack_24 : decode cX8_takeBack 24 = .ok (.getfield 60, 3) := by decide +kernel
theorem dX8_takeBack_27 : decode cX8_takeBack 27 = .ok (.aload_n 0, 1) := by decide +kernel
theorem dX8_takeBack_28 : decode cX8_takeBack 28 = .ok (.getfield 10, 3) := by decide +kernel
theorem dX8_takeBack_31 : decode cX8_takeBack 31 = .ok (.iload_n 1, 1) := by decide +kernel
theorem dX8_takeBack_32 : decode cX8_takeBack 32 = .ok (.invokevirtual 108, 3) := by decide +kernel
theorem dX8_takeBack_35 : decode cX8_takeBack 35 = .ok (.iload_n 2, 1) := by decide +kernel
theorem dX8_takeBack_36 : decode cX8_takeBack 36 = .ok (.invokevirtual 112, 3) := by decide +kernel
theorem dX8_takeBack_39 : decode cX8_takeBack 39 = .ok (.invokevirtual 79, 3) := by decide +kernel
theorem dX8_takeBack_42 : decode cX8_takeBack 42 = .ok (.ireturn, 1) := by decide +kernel
theorem dX8_match_0 : decode cX8_match 0 = .ok (.aload_n 0, 1) := by decide +kernel
theorem dX8_match_1 : decode cX8_match 1 = .ok (.getfield 60, 3) := by decide +kernel
theorem dX8_match_4 : decode cX8_match 4 = .ok (.aload_n 0, 1) := by decide +kernel
theorem dX8_match_5 : decode cX8_match 5 = .ok (.getfield 10, 3) := by decide +kernel
theorem dX8_match_8 : decode cX8_match 8 = .ok (.invokevirtual 72, 3) := by decide +kernel
theorem dX8_match_11 : decode cX8_match 11 = .ok (.aload_n 0, 1) := by decide +kernel
theorem dX8_match_12 : decode cX8_match 12 = .ok (.getfield 60, 3) := by decide +kernel
theorem dX8_match_15 : decode cX8_match 15 = .ok (.aload_n 0, 1) := by decide +kernel
theorem dX8_match_16 : decode cX8_match 16 = .ok (.getfield 28, 3) := by decide +kernel
theorem dX8_match_19 : decode cX8_match 19 = .ok (.invokevirtual 117, 3) := by decide +kernel
theorem dX8_match_22 : decode cX8_match 22 = .ok (.invokevirtual 79, 3) := by decide +kernel
theorem dX8_match_25 : decode cX8_match 25 = .ok (.ireturn, 1) := by decide +kernel
theorem dX8_ofRow_0 : decode cX8_ofRow 0 = .ok (.aload_n 0, 1) := by decide +kernel
theorem dX8_ofRow_1 : decode cX8_ofRow 1 = .ok (.getfield 10, 3) := by decide +kernel
theorem dX8_ofRow_4 : decode cX8_ofRow 4 = .ok (.iload_n 1, 1) := by decide +kernel
theorem dX8_ofRow_5 : decode cX8_ofRow 5 = .ok (.invokevirtual 121, 3) := by decide +kernel
theorem dX8_ofRow_8 : decode cX8_ofRow 8 = .ok (.ifCond .ne 5, 3) := by decide +kernel
theorem dX8_ofRow_11 : decode cX8_ofRow 11 = .ok (.iconst (-1), 1) := by decide +kernel
theorem dX8_ofRow_12 : decode cX8_ofRow 12 = .ok (.ireturn, 1) := by decide +kernel
theorem dX8_ofRow_13 : decode cX8_ofRow 13 = .ok (.iload_n 2, 1) := by decide +kernel
theorem dX8_ofRow_14 : decode cX8_ofRow 14 = .ok (.tableswitch 138 0 8 #[50, 60, 70, 80, 93, 102, 111, 120, 129], 50) := by decide +kernel
theorem dX8_ofRow_64 : decode cX8_ofRow 64 = .ok (.aload_n 0, 1) := by decide +kernel
theorem dX8_ofRow_65 : decode cX8_ofRow 65 = .ok (.getfield 10, 3) := by decide +kernel
theorem dX8_ofRow_68 : decode cX8_ofRow 68 = .ok (.getfield 125, 3) := by decide +kernel
theorem dX8_ofRow_71 : decode cX8_ofRow 71 = .ok (.iload_n 1, 1) := by decide +kernel
theorem dX8_ofRow_72 : decode cX8_ofRow 72 = .ok (.iaload, 1) := by decide +kernel
theorem dX8_ofRow_73 : decode cX8_ofRow 73 = .ok (.ireturn, 1) := by decide +kernel
theorem dX8_ofRow_74 : decode cX8_ofRow 74 = .ok (.aload_n 0, 1) := by decide +kernel
theorem dX8_ofRow_75 : decode cX8_ofRow 75 = .ok (.getfield 10, 3) := by decide +kernel
theorem dX8_ofRow_78 : decode cX8_ofRow 78 = .ok (.getfield 129, 3) := by decide +kernel
theorem dX8_ofRow_81 : decode cX8_ofRow 81 = .ok (.iload_n 1, 1) := by decide +kernel
theorem dX8_ofRow_82 : decode cX8_ofRow 82 = .ok (.iaload, 1) := by decide +kernel
theorem dX8_ofRow_83 : decode cX8_ofRow 83 = .ok (.ireturn, 1) := by decide +kernel
theorem dX8_ofRow_84 : decode cX8_ofRow 84 = .ok (.aload_n 0, 1) := by decide +kernel
theorem dX8_ofRow_85 : decode cX8_ofRow 85 = .ok (.getfield 10, 3) := by decide +kernel
theorem dX8_ofRow_88 : decode cX8_ofRow 88 = .ok (.getfield 132, 3) := by decide +kernel
theorem dX8_ofRow_91 : decode cX8_ofRow 91 = .ok (.iload_n 1, 1) := by decide +kernel
theorem dX8_ofRow_92 : decode cX8_ofRow 92 = .ok (.iaload, 1) := by decide +kernel
theorem dX8_ofRow_93 : decode cX8_ofRow 93 = .ok (.ireturn, 1) := by decide +kernel
theorem dX8_ofRow_94 : decode cX8_ofRow 94 = .ok (.aload_n 0, 1) := by decide +kernel
theorem dX8_ofRow_95 : decode cX8_ofRow 95 = .ok (.getfield 10, 3) := by decide +kernel
theorem dX8_ofRow_98 : decode cX8_ofRow 98 = .ok (.getfield 135, 3) := by decide +kernel
theorem dX8_ofRow_101 : decode cX8_ofRow 101 = .ok (.iload_n 1, 1) := by decide +kernel
theorem dX8_ofRow_102 : decode cX8_ofRow 102 = .ok (.iaload, 1) := by decide +kernel
theorem dX8_ofRow_103 : decode cX8_ofRow 103 = .ok (.ldc 138, 2) := by decide +kernel
theorem dX8_ofRow_105 : decode cX8_ofRow 105 = .ok (.iadd, 1) := by decide +kernel
theorem dX8_ofRow_106 : decode cX8_ofRow 106 = .ok (.ireturn, 1) := by decide +kernel
theorem dX8_ofRow_107 : decode cX8_ofRow 107 = .ok (.aload_n 0, 1) := by decide +kernel
theorem dX8_ofRow_108 : decode cX8_ofRow 108 = .ok (.getfield 21, 3) := by decide +kernel
theorem dX8_ofRow_111 : decode cX8_ofRow 111 = .ok (.iload_n 1, 1) := by decide +kernel
theorem dX8_ofRow_112 : decode cX8_ofRow 112 = .ok (.invokevirtual 139, 3) := by decide +kernel
theorem dX8_ofRow_115 : decode cX8_ofRow 115 = .ok (.ireturn, 1) := by decide +kernel
theorem dX8_ofRow_116 : decode cX8_ofRow 116 = .ok (.aload_n 0, 1) := by decide +kernel
theorem dX8_ofRow_117 : decode cX8_ofRow 117 = .ok (.getfield 21, 3) := by decide +kernel
theorem dX8_ofRow_120 : decode cX8_ofRow 120 = .ok (.iload_n 1, 1) := by decide +kernel
theorem dX8_ofRow_121 : decode cX8_ofRow 121 = .ok (.invokevirtual 142, 3) := by decide +kernel
theorem dX8_ofRow_124 : decode cX8_ofRow 124 = .ok (.ireturn, 1) := by decide +kernel
theorem dX8_ofRow_125 : decode cX8_ofRow 125 = .ok (.aload_n 0, 1) := by decide +kernel
theorem dX8_ofRow_126 : decode cX8_ofRow 126 = .ok (.getfield 21, 3) := by decide +kernel
theorem dX8_ofRow_129 : decode cX8_ofRow 129 = .ok (.iload_n 1, 1) := by decide +kernel
theorem dX8_ofRow_130 : decode cX8_ofRow 130 = .ok (.invokevirtual 145, 3) := by decide +kernel
theorem dX8_ofRow_133 : decode cX8_ofRow 133 = .ok (.ireturn, 1) := by decide +kernel
theorem dX8_ofRow_134 : decode cX8_ofRow 134 = .ok (.aload_n 0, 1) := by decide +kernel
theorem dX8_ofRow_135 : decode cX8_ofRow 135 = .ok (.getfield 21, 3) := by decide +kernel
theorem dX8_ofRow_138 : decode cX8_ofRow 138 = .ok (.iload_n 1, 1) := by decide +kernel
theorem dX8_ofRow_139 : decode cX8_ofRow 139 = .ok (.invokevirtual 148, 3) := by decide +kernel
theorem dX8_ofRow_142 : decode cX8_ofRow 142 = .ok (.ireturn, 1) := by decide +kernel
theorem dX8_ofRow_143 : decode cX8_ofRow 143 = .ok (.aload_n 0, 1) := by decide +kernel
theorem dX8_ofRow_144 : decode cX8_ofRow 144 = .ok (.getfield 21, 3) := by decide +kernel
theorem dX8_ofRow_147 : decode cX8_ofRow 147 = .ok (.iload_n 1, 1) := by decide +kernel
theorem dX8_ofRow_148 : decode cX8_ofRow 148 = .ok (.invokevirtual 151, 3) := by decide +kernel
theorem dX8_ofRow_151 : decode cX8_ofRow 151 = .ok (.ireturn, 1) := by decide +kernel
theorem dX8_ofRow_152 : decode cX8_ofRow 152 = .ok (.bipush (-2), 2) := by decide +kernel
theorem dX8_ofRow_154 : decode cX8_ofRow 154 = .ok (.ireturn, 1) := by decide +kernel
theorem dX8_inHour_0 : decode cX8_inHour 0 = .ok (.aload_n 0, 1) := by decide +kernel
theorem dX8_inHour_1 : decode cX8_inHour 1 = .ok (.getfield 10, 3) := by decide +kernel
theorem dX8_inHour_4 : decode cX8_inHour 4 = .ok (.iload_n 1, 1) := by decide +kernel
theorem dX8_inHour_5 : decode cX8_inHour 5 = .ok (.invokevirtual 121, 3) := by decide +kernel
theorem dX8_inHour_8 : decode cX8_inHour 8 = .ok (.ifCond .eq 10, 3) := by decide +kernel
theorem dX8_inHour_11 : decode cX8_inHour 11 = .ok (.iload_n 2, 1) := by decide +kernel
theorem dX8_inHour_12 : decode cX8_inHour 12 = .ok (.invokestatic 154, 3) := by decide +kernel
theorem dX8_inHour_15 : decode cX8_inHour 15 = .ok (.ifCond .ne 5, 3) := by decide +kernel
theorem dX8_inHour_18 : decode cX8_inHour 18 = .ok (.iconst (-1), 1) := by decide +kernel
theorem dX8_inHour_19 : decode cX8_inHour 19 = .ok (.ireturn, 1) := by decide +kernel
theorem dX8_inHour_20 : decode cX8_inHour 20 = .ok (.aload_n 0, 1) := by decide +kernel
theorem dX8_inHour_21 : decode cX8_inHour 21 = .ok (.getfield 21, 3) := by decide +kernel
theorem dX8_inHour_24 : decode cX8_inHour 24 = .ok (.iload_n 2, 1) := by decide +kernel
theorem dX8_inHour_25 : decode cX8_inHour 25 = .ok (.invokevirtual 157, 3) := by decide +kernel
theorem dX8_inHour_28 : decode cX8_inHour 28 = .ok (.iload_n 3, 1) := by decide +kernel
theorem dX8_inHour_29 : decode cX8_inHour 29 = .ok (.tableswitch 81 0 4 #[35, 44, 54, 63, 72], 35) := by decide +kernel
theorem dX8_inHour_64 : decode cX8_inHour 64 = .ok (.aload_n 0, 1) := by decide +kernel
theorem dX8_inHour_65 : decode cX8_inHour 65 = .ok (.getfield 21, 3) := by decide +kernel
theorem dX8_inHour_68 : decode cX8_inHour 68 = .ok (.iload_n 1, 1) := by decide +kernel
theorem dX8_inHour_69 : decode cX8_inHour 69 = .ok (.invokevirtual 161, 3) := by decide +kernel
theorem dX8_inHour_72 : decode cX8_inHour 72 = .ok (.ireturn, 1) := by decide +kernel
theorem dX8_inHour_73 : decode cX8_inHour 73 = .ok (.aload_n 0, 1) := by decide +kernel
theorem dX8_inHour_74 : decode cX8_inHour 74 = .ok (.getfield 21, 3) := by decide +kernel
theorem dX8_inHour_77 : decode cX8_inHour 77 = .ok (.getfield 164, 3) := by decide +kernel
theorem dX8_inHour_80 : decode cX8_inHour 80 = .ok (.iload_n 1, 1) := by decide +kernel
theorem dX8_inHour_81 : decode cX8_inHour 81 = .ok (.iaload, 1) := by decide +kernel
theorem dX8_inHour_82 : decode cX8_inHour 82 = .ok (.ireturn, 1) := by decide +kernel
theorem dX8_inHour_83 : decode cX8_inHour 83 = .ok (.aload_n 0, 1) := by decide +kernel
theorem dX8_inHour_84 : decode cX8_inHour 84 = .ok (.getfield 21, 3) := by decide +kernel
theorem dX8_inHour_87 : decode cX8_inHour 87 = .ok (.iload_n 1, 1) := by decide +kernel
theorem dX8_inHour_88 : decode cX8_inHour 88 = .ok (.invokevirtual 167, 3) := by decide +kernel
theorem dX8_inHour_91 : decode cX8_inHour 91 = .ok (.ireturn, 1) := by decide +kernel
theorem dX8_inHour_92 : decode cX8_inHour 92 = .ok (.aload_n 0, 1) := by decide +kernel
theorem dX8_inHour_93 : decode cX8_inHour 93 = .ok (.getfield 21, 3) := by decide +kernel
theorem dX8_inHour_96 : decode cX8_inHour 96 = .ok (.iload_n 1, 1) := by decide +kernel
theorem dX8_inHour_97 : decode cX8_inHour 97 = .ok (.invokevirtual 170, 3) := by decide +kernel
theorem dX8_inHour_100 : decode cX8_inHour 100 = .ok (.ireturn, 1) := by decide +kernel
theorem dX8_inHour_101 : decode cX8_inHour 101 = .ok (.aload_n 0, 1) := by decide +kernel
theorem dX8_inHour_102 : decode cX8_inHour 102 = .ok (.getfield 21, 3) := by decide +kernel
theorem dX8_inHour_105 : decode cX8_inHour 105 = .ok (.iload_n 1, 1) := by decide +kernel
theorem dX8_inHour_106 : decode cX8_inHour 106 = .ok (.invokevirtual 173, 3) := by decide +kernel
theorem dX8_inHour_109 : decode cX8_inHour 109 = .ok (.ireturn, 1) := by decide +kernel
theorem dX8_inHour_110 : decode cX8_inHour 110 = .ok (.bipush (-2), 2) := by decide +kernel
theorem dX8_inHour_112 : decode cX8_inHour 112 = .ok (.ireturn, 1) := by decide +kernel
theorem dX8_over_0 : decode cX8_over 0 = .ok (.aload_n 0, 1) := by decide +kernel
theorem dX8_over_1 : decode cX8_over 1 = .ok (.getfield 10, 3) := by decide +kernel
theorem dX8_over_4 : decode cX8_over 4 = .ok (.iload_n 1, 1) := by decide +kernel
theorem dX8_over_5 : decode cX8_over 5 = .ok (.invokevirtual 121, 3) := by decide +kernel
theorem dX8_over_8 : decode cX8_over 8 = .ok (.ifCond .eq 21, 3) := by decide +kernel
theorem dX8_over_11 : decode cX8_over 11 = .ok (.aload_n 0, 1) := by decide +kernel
theorem dX8_over_12 : decode cX8_over 12 = .ok (.getfield 10, 3) := by decide +kernel
theorem dX8_over_15 : decode cX8_over 15 = .ok (.iload_n 2, 1) := by decide +kernel
theorem dX8_over_16 : decode cX8_over 16 = .ok (.invokevirtual 121, 3) := by decide +kernel
theorem dX8_over_19 : decode cX8_over 19 = .ok (.ifCond .eq 10, 3) := by decide +kernel
theorem dX8_over_22 : decode cX8_over 22 = .ok (.iload_n 3, 1) := by decide +kernel
theorem dX8_over_23 : decode cX8_over 23 = .ok (.invokestatic 154, 3) := by decide +kernel
theorem dX8_over_26 : decode cX8_over 26 = .ok (.ifCond .ne 5, 3) := by decide +kernel
theorem dX8_over_29 : decode cX8_over 29 = .ok (.iconst (-1), 1) := by decide +kernel
theorem dX8_over_30 : decode cX8_over 30 = .ok (.ireturn, 1) := by decide +kernel
theorem dX8_over_31 : decode cX8_over 31 = .ok (.iload_n 1, 1) := by decide +kernel
theorem dX8_over_32 : decode cX8_over 32 = .ok (.iload_n 2, 1) := by decide +kernel
theorem dX8_over_33 : decode cX8_over 33 = .ok (.if_icmp .ne 6, 3) := by decide +kernel
theorem dX8_over_36 : decode cX8_over 36 = .ok (.bipush (-2), 2) := by decide +kernel
theorem dX8_over_38 : decode cX8_over 38 = .ok (.ireturn, 1) := by decide +kernel
theorem dX8_over_39 : decode cX8_over 39 = .ok (.aload_n 0, 1) := by decide +kernel
theorem dX8_over_40 : decode cX8_over 40 = .ok (.getfield 21, 3) := by decide +kernel
theorem dX8_over_43 : decode cX8_over 43 = .ok (.iload_n 3, 1) := by decide +kernel
theorem dX8_over_44 : decode cX8_over 44 = .ok (.invokevirtual 157, 3) := by decide +kernel
theorem dX8_over_47 : decode cX8_over 47 = .ok (.iload 4, 2) := by decide +kernel
theorem dX8_over_49 : decode cX8_over 49 = .ok (.tableswitch 90 0 2 #[27, 42, 61], 27) := by decide +kernel
theorem dX8_over_76 : decode cX8_over 76 = .ok (.aload_n 0, 1) := by decide +kernel
theorem dX8_over_77 : decode cX8_over 77 = .ok (.getfield 10, 3) := by decide +kernel
theorem dX8_over_80 : decode cX8_over 80 = .ok (.getfield 176, 3) := by decide +kernel
theorem dX8_over_83 : decode cX8_over 83 = .ok (.iload_n 1, 1) := by decide +kernel
theorem dX8_over_84 : decode cX8_over 84 = .ok (.iload_n 2, 1) := by decide +kernel
theorem dX8_over_85 : decode cX8_over 85 = .ok (.iload_n 3, 1) := by decide +kernel
theorem dX8_over_86 : decode cX8_over 86 = .ok (.invokestatic 179, 3) := by decide +kernel
theorem dX8_over_89 : decode cX8_over 89 = .ok (.iaload, 1) := by decide +kernel
theorem dX8_over_90 : decode cX8_over 90 = .ok (.ireturn, 1) := by decide +kernel
theorem dX8_over_91 : decode cX8_over 91 = .ok (.aload_n 0, 1) := by decide +kernel
theorem dX8_over_92 : decode cX8_over 92 = .ok (.getfield 21, 3) := by decide +kernel
theorem dX8_over_95 : decode cX8_over 95 = .ok (.iload_n 1, 1) := by decide +kernel
theorem dX8_over_96 : decode cX8_over 96 = .ok (.iload_n 2, 1) := by decide +kernel
theorem dX8_over_97 : decode cX8_over 97 = .ok (.aload_n 0, 1) := by decide +kernel
theorem dX8_over_98 : decode cX8_over 98 = .ok (.getfield 21, 3) := by decide +kernel
theorem dX8_over_101 : decode cX8_over 101 = .ok (.getfield 164, 3) := by decide +kernel
theorem dX8_over_104 : decode cX8_over 104 = .ok (.iload_n 1, 1) := by decide +kernel
theorem dX8_over_105 : decode cX8_over 105 = .ok (.iaload, 1) := by decide +kernel
theorem dX8_over_106 : decode cX8_over 106 = .ok (.invokevirtual 182, 3) := by decide +kernel
theorem dX8_over_109 : decode cX8_over 109 = .ok (.ireturn, 1) := by decide +kernel
theorem dX8_over_110 : decode cX8_over 110 = .ok (.aload_n 0, 1) := by decide +kernel
theorem dX8_over_111 : decode cX8_over 111 = .ok (.getfield 21, 3) := by decide +kernel
theorem dX8_over_114 : decode cX8_over 114 = .ok (.iload_n 1, 1) := by decide +kernel
theorem dX8_over_115 : decode cX8_over 115 = .ok (.iload_n 2, 1) := by decide +kernel
theorem dX8_over_116 : decode cX8_over 116 = .ok (.aload_n 0, 1) := by decide +kernel
theorem dX8_over_117 : decode cX8_over 117 = .ok (.getfield 10, 3) := by decide +kernel
theorem dX8_over_120 : decode cX8_over 120 = .ok (.getfield 129, 3) := by decide +kernel
theorem dX8_over_123 : decode cX8_over 123 = .ok (.iload_n 1, 1) := by decide +kernel
theorem dX8_over_124 : decode cX8_over 124 = .ok (.iaload, 1) := by decide +kernel
theorem dX8_over_125 : decode cX8_over 125 = .ok (.aload_n 0, 1) := by decide +kernel
theorem dX8_over_126 : decode cX8_over 126 = .ok (.getfield 10, 3) := by decide +kernel
theorem dX8_over_129 : decode cX8_over 129 = .ok (.getfield 132, 3) := by decide +kernel
theorem dX8_over_132 : decode cX8_over 132 = .ok (.iload_n 1, 1) := by decide +kernel
theorem dX8_over_133 : decode cX8_over 133 = .ok (.iaload, 1) := by decide +kernel
theorem dX8_over_134 : decode cX8_over 134 = .ok (.imul, 1) := by decide +kernel
theorem dX8_over_135 : decode cX8_over 135 = .ok (.invokevirtual 182, 3) := by decide +kernel
theorem dX8_over_138 : decode cX8_over 138 = .ok (.ireturn, 1) := by decide +kernel
theorem dX8_over_139 : decode cX8_over 139 = .ok (.bipush (-2), 2) := by decide +kernel
theorem dX8_over_141 : decode cX8_over 141 = .ok (.ireturn, 1) := by decide +kernel
theorem dX8_offer_0 : decode cX8_offer 0 = .ok (.iload_n 1, 1) := by decide +kernel
theorem dX8_offer_1 : decode cX8_offer 1 = .ok (.iconst 0, 1) := by decide +kernel
theorem dX8_offer_2 : decode cX8_offer 2 = .ok (.iconst 1, 1) := by decide +kernel
theorem dX8_offer_3 : decode cX8_offer 3 = .ok (.invokestatic 104, 3) := by decide +kernel
theorem dX8_offer_6 : decode cX8_offer 6 = .ok (.ifCond .ne 12, 3) := by decide +kernel
theorem dX8_offer_9 : decode cX8_offer 9 = .ok (.iload_n 3, 1) := by decide +kernel
theorem dX8_offer_10 : decode cX8_offer 10 = .ok (.iconst 0, 1) := by decide +kernel
theorem dX8_offer_11 : decode cX8_offer 11 = .ok (.iconst 4, 1) := by decide +kernel
theorem dX8_offer_12 : decode cX8_offer 12 = .ok (.invokestatic 104, 3) := by decide +kernel
theorem dX8_offer_15 : decode cX8_offer 15 = .ok (.ifCond .eq 6, 3) := by decide +kernel
theorem dX8_offer_18 : decode cX8_offer 18 = .ok (.bipush (-2), 2) := by decide +kernel
theorem dX8_offer_20 : decode cX8_offer 20 = .ok (.ireturn, 1) := by decide +kernel
theorem dX8_offer_21 : decode cX8_offer 21 = .ok (.aload_n 0, 1) := by decide +kernel
theorem dX8_offer_22 : decode cX8_offer 22 = .ok (.getfield 10, 3) := by decide +kernel
theorem dX8_offer_25 : decode cX8_offer 25 = .ok (.iload_n 1, 1) := by decide +kernel
theorem dX8_offer_26 : decode cX8_offer 26 = .ok (.invokevirtual 108, 3) := by decide +kernel
theorem dX8_offer_29 : decode cX8_offer 29 = .ok (.astore 4, 2) := by decide +kernel
theorem dX8_offer_31 : decode cX8_offer 31 = .ok (.aload 4, 2) := by decide +kernel
theorem dX8_offer_33 : decode cX8_offer 33 = .ok (.iload_n 2, 1) := by decide +kernel
theorem dX8_offer_34 : decode cX8_offer 34 = .ok (.invokevirtual 185, 3) := by decide +kernel
theorem dX8_offer_37 : decode cX8_offer 37 = .ok (.ifCond .ne 5, 3) := by decide +kernel
theorem dX8_offer_40 : decode cX8_offer 40 = .ok (.iconst (-1), 1) := by decide +kernel
theorem dX8_offer_41 : decode cX8_offer 41 = .ok (.ireturn, 1) := by decide +kernel
theorem dX8_offer_42 : decode cX8_offer 42 = .ok (.aload 4, 2) := by decide +kernel
theorem dX8_offer_44 : decode cX8_offer 44 = .ok (.iload_n 2, 1) := by decide +kernel
theorem dX8_offer_45 : decode cX8_offer 45 = .ok (.iload_n 3, 1) := by decide +kernel
theorem dX8_offer_46 : decode cX8_offer 46 = .ok (.invokevirtual 188, 3) := by decide +kernel
theorem dX8_offer_49 : decode cX8_offer 49 = .ok (.ireturn, 1) := by decide +kernel
theorem dX8_count_0 : decode cX8_count 0 = .ok (.iload_n 1, 1) := by decide +kernel
theorem dX8_count_1 : decode cX8_count 1 = .ok (.tableswitch 117 0 7 #[47, 55, 66, 77, 85, 93, 101, 109], 47) := by decide +kernel
theorem dX8_count_48 : decode cX8_count 48 = .ok (.aload_n 0, 1) := by decide +kernel
theorem dX8_count_49 : decode cX8_count 49 = .ok (.getfield 10, 3) := by decide +kernel
theorem dX8_count_52 : decode cX8_count 52 = .ok (.getfield 191, 3) := by decide +kernel
theorem dX8_count_55 : decode cX8_count 55 = .ok (.ireturn, 1) := by decide +kernel
theorem dX8_count_56 : decode cX8_count 56 = .ok (.aload_n 0, 1) := by decide +kernel
theorem dX8_count_57 : decode cX8_count 57 = .ok (.getfield 10, 3) := by decide +kernel
theorem dX8_count_60 : decode cX8_count 60 = .ok (.getfield 195, 3) := by decide +kernel
theorem dX8_count_63 : decode cX8_count 63 = .ok (.getfield 199, 3) := by decide +kernel
theorem dX8_count_66 : decode cX8_count 66 = .ok (.ireturn, 1) := by decide +kernel
theorem dX8_count_67 : decode cX8_count 67 = .ok (.aload_n 0, 1) := by decide +kernel
theorem dX8_count_68 : decode cX8_count 68 = .ok (.getfield 10, 3) := by decide +kernel
theorem dX8_count_71 : decode cX8_count 71 = .ok (.getfield 202, 3) := by decide +kernel
theorem dX8_count_74 : decode cX8_count 74 = .ok (.getfield 199, 3) := by decide +kernel
theorem dX8_count_77 : decode cX8_count 77 = .ok (.ireturn, 1) := by decide +kernel
theorem dX8_count_78 : decode cX8_count 78 = .ok (.aload_n 0, 1) := by decide +kernel
theorem dX8_count_79 : decode cX8_count 79 = .ok (.getfield 21, 3) := by decide +kernel
theorem dX8_count_82 : decode cX8_count 82 = .ok (.invokevirtual 205, 3) := by decide +kernel
theorem dX8_count_85 : decode cX8_count 85 = .ok (.ireturn, 1) := by decide +kernel
theorem dX8_count_86 : decode cX8_count 86 = .ok (.aload_n 0, 1) := by decide +kernel
theorem dX8_count_87 : decode cX8_count 87 = .ok (.getfield 10, 3) := by decide +kernel
theorem dX8_count_90 : decode cX8_count 90 = .ok (.getfield 208, 3) := by decide +kernel
theorem dX8_count_93 : decode cX8_count 93 = .ok (.ireturn, 1) := by decide +kernel
theorem dX8_count_94 : decode cX8_count 94 = .ok (.aload_n 0, 1) := by decide +kernel
theorem dX8_count_95 : decode cX8_count 95 = .ok (.getfield 10, 3) := by decide +kernel
theorem dX8_count_98 : decode cX8_count 98 = .ok (.getfield 211, 3) := by decide +kernel
theorem dX8_count_101 : decode cX8_count 101 = .ok (.ireturn, 1) := by decide +kernel
theorem dX8_count_102 : decode cX8_count 102 = .ok (.aload_n 0, 1) := by decide +kernel
theorem dX8_count_103 : decode cX8_count 103 = .ok (.getfield 44, 3) := by decide +kernel
theorem dX8_count_106 : decode cX8_count 106 = .ok (.getfield 214, 3) := by decide +kernel
theorem dX8_count_109 : decode cX8_count 109 = .ok (.ireturn, 1) := by decide +kernel
theorem dX8_count_110 : decode cX8_count 110 = .ok (.aload_n 0, 1) := by decide +kernel
theorem dX8_count_111 : decode cX8_count 111 = .ok (.getfield 60, 3) := by decide +kernel
theorem dX8_count_114 : decode cX8_count 114 = .ok (.getfield 216, 3) := by decide +kernel
theorem dX8_count_117 : decode cX8_count 117 = .ok (.ireturn, 1) := by decide +kernel
theorem dX8_count_118 : decode cX8_count 118 = .ok (.iload_n 1, 1) := by decide +kernel
theorem dX8_count_119 : decode cX8_count 119 = .ok (.bipush 10, 2) := by decide +kernel
theorem dX8_count_121 : decode cX8_count 121 = .ok (.bipush 19, 2) := by decide +kernel
theorem dX8_count_123 : decode cX8_count 123 = .ok (.invokestatic 104, 3) := by decide +kernel
theorem dX8_count_126 : decode cX8_count 126 = .ok (.ifCond .eq 6, 3) := by decide +kernel
theorem dX8_count_129 : decode cX8_count 129 = .ok (.bipush (-2), 2) := by decide +kernel
theorem dX8_count_131 : decode cX8_count 131 = .ok (.ireturn, 1) := by decide +kernel
theorem dX8_count_132 : decode cX8_count 132 = .ok (.aload_n 0, 1) := by decide +kernel
theorem dX8_count_133 : decode cX8_count 133 = .ok (.getfield 10, 3) := by decide +kernel
theorem dX8_count_136 : decode cX8_count 136 = .ok (.getfield 217, 3) := by decide +kernel
theorem dX8_count_139 : decode cX8_count 139 = .ok (.iload_n 1, 1) := by decide +kernel
theorem dX8_count_140 : decode cX8_count 140 = .ok (.bipush 10, 2) := by decide +kernel
theorem dX8_count_142 : decode cX8_count 142 = .ok (.isub, 1) := by decide +kernel
theorem dX8_count_143 : decode cX8_count 143 = .ok (.iaload, 1) := by decide +kernel
theorem dX8_count_144 : decode cX8_count 144 = .ok (.ireturn, 1) := by decide +kernel
theorem dX8_worth_0 : decode cX8_worth 0 = .ok (.aload_n 0, 1) := by decide +kernel
theorem dX8_worth_1 : decode cX8_worth 1 = .ok (.getfield 10, 3) := by decide +kernel
theorem dX8_worth_4 : decode cX8_worth 4 = .ok (.iload_n 1, 1) := by decide +kernel
theorem dX8_worth_5 : decode cX8_worth 5 = .ok (.iload_n 2, 1) := by decide +kernel
theorem dX8_worth_6 : decode cX8_worth 6 = .ok (.iload_n 3, 1) := by decide +kernel
theorem dX8_worth_7 : decode cX8_worth 7 = .ok (.iload 4, 2) := by decide +kernel
theorem dX8_worth_9 : decode cX8_worth 9 = .ok (.invokevirtual 220, 3) := by decide +kernel
theorem dX8_worth_12 : decode cX8_worth 12 = .ok (.istore 6, 2) := by decide +kernel
theorem dX8_worth_14 : decode cX8_worth 14 = .ok (.iload 6, 2) := by decide +kernel
theorem dX8_worth_16 : decode cX8_worth 16 = .ok (.ifCond .eq 6, 3) := by decide +kernel
theorem dX8_worth_19 : decode cX8_worth 19 = .ok (.iload 6, 2) := by decide +kernel
theorem dX8_worth_21 : decode cX8_worth 21 = .ok (.ireturn, 1) := by decide +kernel
theorem dX8_worth_22 : decode cX8_worth 22 = .ok (.iload 5, 2) := by decide +kernel
theorem dX8_worth_24 : decode cX8_worth 24 = .ok (.iconst 0, 1) := by decide +kernel
theorem dX8_worth_25 : decode cX8_worth 25 = .ok (.iconst 2, 1) := by decide +kernel
theorem dX8_worth_26 : decode cX8_worth 26 = .ok (.invokestatic 104, 3) := by decide +kernel
theorem dX8_worth_29 : decode cX8_worth 29 = .ok (.ifCond .eq 6, 3) := by decide +kernel
theorem dX8_worth_32 : decode cX8_worth 32 = .ok (.bipush (-2), 2) := by decide +kernel
theorem dX8_worth_34 : decode cX8_worth 34 = .ok (.ireturn, 1) := by decide +kernel
theorem dX8_worth_35 : decode cX8_worth 35 = .ok (.aload_n 0, 1) := by decide +kernel
theorem dX8_worth_36 : decode cX8_worth 36 = .ok (.iload_n 1, 1) := by decide +kernel
theorem dX8_worth_37 : decode cX8_worth 37 = .ok (.iload_n 2, 1) := by decide +kernel
theorem dX8_worth_38 : decode cX8_worth 38 = .ok (.iload 5, 2) := by decide +kernel
theorem dX8_worth_40 : decode cX8_worth 40 = .ok (.invokevirtual 223, 3) := by decide +kernel
theorem dX8_worth_43 : decode cX8_worth 43 = .ok (.istore 7, 2) := by decide +kernel
theorem dX8_worth_45 : decode cX8_worth 45 = .ok (.aload_n 0, 1) := by decide +kernel
theorem dX8_worth_46 : decode cX8_worth 46 = .ok (.getfield 10, 3) := by decide +kernel
theorem dX8_worth_49 : decode cX8_worth 49 = .ok (.iload_n 1, 1) := by decide +kernel
theorem dX8_worth_50 : decode cX8_worth 50 = .ok (.iload_n 2, 1) := by decide +kernel
theorem dX8_worth_51 : decode cX8_worth 51 = .ok (.iload_n 3, 1) := by decide +kernel
theorem dX8_worth_52 : decode cX8_worth 52 = .ok (.iload 4, 2) := by decide +kernel
theorem dX8_worth_54 : decode cX8_worth 54 = .ok (.invokevirtual 93, 3) := by decide +kernel
theorem dX8_worth_57 : decode cX8_worth 57 = .ok (.istore 8, 2) := by decide +kernel
theorem dX8_worth_59 : decode cX8_worth 59 = .ok (.aload_n 0, 1) := by decide +kernel
theorem dX8_worth_60 : decode cX8_worth 60 = .ok (.iload_n 1, 1) := by decide +kernel
theorem dX8_worth_61 : decode cX8_worth 61 = .ok (.iload_n 2, 1) := by decide +kernel
theorem dX8_worth_62 : decode cX8_worth 62 = .ok (.iload 5, 2) := by decide +kernel
theorem dX8_worth_64 : decode cX8_worth 64 = .ok (.invokevirtual 223, 3) := by decide +kernel
theorem dX8_worth_67 : decode cX8_worth 67 = .ok (.istore 9, 2) := by decide +kernel
theorem dX8_worth_69 : decode cX8_worth 69 = .ok (.aload_n 0, 1) := by decide +kernel
theorem dX8_worth_70 : decode cX8_worth 70 = .ok (.getfield 10, 3) := by decide +kernel
theorem dX8_worth_73 : decode cX8_worth 73 = .ok (.iload_n 1, 1) := by decide +kernel
theorem dX8_worth_74 : decode cX8_worth 74 = .ok (.iload_n 2, 1) := by decide +kernel
theorem dX8_worth_75 : decode cX8_worth 75 = .ok (.iload_n 3, 1) := by decide +kernel
theorem dX8_worth_76 : decode cX8_worth 76 = .ok (.iload 8, 2) := by decide +kernel
theorem dX8_worth_78 : decode cX8_worth 78 = .ok (.invokevirtual 93, 3) := by decide +kernel
theorem dX8_worth_81 : decode cX8_worth 81 = .ok (.pop, 1) := by decide +kernel
theorem dX8_worth_82 : decode cX8_worth 82 = .ok (.iload 9, 2) := by decide +kernel
theorem dX8_worth_84 : decode cX8_worth 84 = .ok (.iload 7, 2) := by decide +kernel
theorem dX8_worth_86 : decode cX8_worth 86 = .ok (.isub, 1) := by decide +kernel
theorem dX8_worth_87 : decode cX8_worth 87 = .ok (.ldc 226, 2) := by decide +kernel
theorem dX8_worth_89 : decode cX8_worth 89 = .ok (.iadd, 1) := by decide +kernel
theorem dX8_worth_90 : decode cX8_worth 90 = .ok (.ireturn, 1) := by decide +kernel
theorem dX8_gainMeasure_0 : decode cX8_gainMeasure 0 = .ok (.iload_n 3, 1) := by decide +kernel
theorem dX8_gainMeasure_1 : decode cX8_gainMeasure 1 = .ok (.lookupswitch 46 #[(0, 27), (1, 36)], 27) := by decide +kernel
theorem dX8_gainMeasure_28 : decode cX8_gainMeasure 28 = .ok (.aload_n 0, 1) := by decide +kernel
theorem dX8_gainMeasure_29 : decode cX8_gainMeasure 29 = .ok (.getfield 21, 3) := by decide +kernel
theorem dX8_gainMeasure_32 : decode cX8_gainMeasure 32 = .ok (.iload_n 1, 1) := by decide +kernel
theorem dX8_gainMeasure_33 : decode cX8_gainMeasure 33 = .ok (.invokevirtual 139, 3) := by decide +kernel
theorem dX8_gainMeasure_36 : decode cX8_gainMeasure 36 = .ok (.ireturn, 1) := by decide +kernel
theorem dX8_gainMeasure_37 : decode cX8_gainMeasure 37 = .ok (.aload_n 0, 1) := by decide +kernel
theorem dX8_gainMeasure_38 : decode cX8_gainMeasure 38 = .ok (.getfield 21, 3) := by decide +kernel
theorem dX8_gainMeasure_41 : decode cX8_gainMeasure 41 = .ok (.iload_n 2, 1) := by decide +kernel
theorem dX8_gainMeasure_42 : decode cX8_gainMeasure 42 = .ok (.invokevirtual 139, 3) := by decide +kernel
theorem dX8_gainMeasure_45 : decode cX8_gainMeasure 45 = .ok (.ineg, 1) := by decide +kernel
theorem dX8_gainMeasure_46 : decode cX8_gainMeasure 46 = .ok (.ireturn, 1) := by decide +kernel
theorem dX8_gainMeasure_47 : decode cX8_gainMeasure 47 = .ok (.aload_n 0, 1) := by decide +kernel
theorem dX8_gainMeasure_48 : decode cX8_gainMeasure 48 = .ok (.getfield 21, 3) := by decide +kernel
theorem dX8_gainMeasure_51 : decode cX8_gainMeasure 51 = .ok (.invokevirtual 205, 3) := by decide +kernel
theorem dX8_gainMeasure_54 : decode cX8_gainMeasure 54 = .ok (.ireturn, 1) := by decide +kernel
theorem dX8_bestTilt_0 : decode cX8_bestTilt 0 = .ok (.aload_n 0, 1) := by decide +kernel
theorem dX8_bestTilt_1 : decode cX8_bestTilt 1 = .ok (.getfield 10, 3) := by decide +kernel
theorem dX8_bestTilt_4 : decode cX8_bestTilt 4 = .ok (.iload_n 1, 1) := by decide +kernel
theorem dX8_bestTilt_5 : decode cX8_bestTilt 5 = .ok (.invokevirtual 121, 3) := by decide +kernel
theorem dX8_bestTilt_8 : decode cX8_bestTilt 8 = .ok (.ifCond .ne 5, 3) := by decide +kernel
theorem dX8_bestTilt_11 : decode cX8_bestTilt 11 = .ok (.iconst (-1), 1) := by decide +kernel
theorem dX8_bestTilt_12 : decode cX8_bestTilt 12 = .ok (.ireturn, 1) := by decide +kernel
theorem dX8_bestTilt_13 : decode cX8_bestTilt 13 = .ok (.iload_n 2, 1) := by decide +kernel
theorem dX8_bestTilt_14 : decode cX8_bestTilt 14 = .ok (.iconst 0, 1) := by decide +kernel
theorem dX8_bestTilt_15 : decode cX8_bestTilt 15 = .ok (.iconst 1, 1) := by decide +kernel
theorem dX8_bestTilt_16 : decode cX8_bestTilt 16 = .ok (.invokestatic 104, 3) := by decide +kernel
theorem dX8_bestTilt_19 : decode cX8_bestTilt 19 = .ok (.ifCond .eq 6, 3) := by decide +kernel
theorem dX8_bestTilt_22 : decode cX8_bestTilt 22 = .ok (.bipush (-2), 2) := by decide +kernel
theorem dX8_bestTilt_24 : decode cX8_bestTilt 24 = .ok (.ireturn, 1) := by decide +kernel
theorem dX8_bestTilt_25 : decode cX8_bestTilt 25 = .ok (.aload_n 0, 1) := by decide +kernel
theorem dX8_bestTilt_26 : decode cX8_bestTilt 26 = .ok (.getfield 10, 3) := by decide +kernel
theorem dX8_bestTilt_29 : decode cX8_bestTilt 29 = .ok (.getfield 132, 3) := by decide +kernel
theorem dX8_bestTilt_32 : decode cX8_bestTilt 32 = .ok (.iload_n 1, 1) := by decide +kernel
theorem dX8_bestTilt_33 : decode cX8_bestTilt 33 = .ok (.iaload, 1) := by decide +kernel
theorem dX8_bestTilt_34 : decode cX8_bestTilt 34 = .ok (.istore_n 3, 1) := by decide +kernel
theorem dX8_bestTilt_35 : decode cX8_bestTilt 35 = .ok (.iconst 0, 1) := by decide +kernel
theorem dX8_bestTilt_36 : decode cX8_bestTilt 36 = .ok (.istore 4, 2) := by decide +kernel
theorem dX8_bestTilt_38 : decode cX8_bestTilt 38 = .ok (.iconst (-1), 1) := by decide +kernel
theorem dX8_bestTilt_39 : decode cX8_bestTilt 39 = .ok (.istore 5, 2) := by decide +kernel
theorem dX8_bestTilt_41 : decode cX8_bestTilt 41 = .ok (.iconst 0, 1) := by decide +kernel
theorem dX8_bestTilt_42 : decode cX8_bestTilt 42 = .ok (.istore 6, 2) := by decide +kernel
theorem dX8_bestTilt_44 : decode cX8_bestTilt 44 = .ok (.iload 6, 2) := by decide +kernel
theorem dX8_bestTilt_46 : decode cX8_bestTilt 46 = .ok (.iconst 4, 1) := by decide +kernel
theorem dX8_bestTilt_47 : decode cX8_bestTilt 47 = .ok (.if_icmp .gt 44, 3) := by decide +kernel
theorem dX8_bestTilt_50 : decode cX8_bestTilt 50 = .ok (.aload_n 0, 1) := by decide +kernel
theorem dX8_bestTilt_51 : decode cX8_bestTilt 51 = .ok (.getfield 10, 3) := by decide +kernel
theorem dX8_bestTilt_54 : decode cX8_bestTilt 54 = .ok (.getfield 132, 3) := by decide +kernel
theorem dX8_bestTilt_57 : decode cX8_bestTilt 57 = .ok (.iload_n 1, 1) := by decide +kernel
theorem dX8_bestTilt_58 : decode cX8_bestTilt 58 = .ok (.iload 6, 2) := by decide +kernel
theorem dX8_bestTilt_60 : decode cX8_bestTilt 60 = .ok (.iastore, 1) := by decide +kernel
theorem dX8_bestTilt_61 : decode cX8_bestTilt 61 = .ok (.aload_n 0, 1) := by decide +kernel
theorem dX8_bestTilt_62 : decode cX8_bestTilt 62 = .ok (.getfield 21, 3) := by decide +kernel
theorem dX8_bestTilt_65 : decode cX8_bestTilt 65 = .ok (.invokevirtual 205, 3) := by decide +kernel
theorem dX8_bestTilt_68 : decode cX8_bestTilt 68 = .ok (.istore 7, 2) := by decide +kernel
theorem dX8_bestTilt_70 : decode cX8_bestTilt 70 = .ok (.iload 7, 2) := by decide +kernel
theorem dX8_bestTilt_72 : decode cX8_bestTilt 72 = .ok (.iload 5, 2) := by decide +kernel
theorem dX8_bestTilt_74 : decode cX8_bestTilt 74 = .ok (.if_icmp .le 11, 3) := by decide +kernel
theorem dX8_bestTilt_77 : decode cX8_bestTilt 77 = .ok (.iload 7, 2) := by decide +kernel
theorem dX8_bestTilt_79 : decode cX8_bestTilt 79 = .ok (.istore 5, 2) := by decide +kernel
theorem dX8_bestTilt_81 : decode cX8_bestTilt 81 = .ok (.iload 6, 2) := by decide +kernel
theorem dX8_bestTilt_83 : decode cX8_bestTilt 83 = .ok (.istore 4, 2) := by decide +kernel
theorem dX8_bestTilt_85 : decode cX8_bestTilt 85 = .ok (.iinc 6 1, 3) := by decide +kernel
theorem dX8_bestTilt_88 : decode cX8_bestTilt 88 = .ok (.goto (-44), 3) := by decide +kernel
theorem dX8_bestTilt_91 : decode cX8_bestTilt 91 = .ok (.aload_n 0, 1) := by decide +kernel
theorem dX8_bestTilt_92 : decode cX8_bestTilt 92 = .ok (.getfield 10, 3) := by decide +kernel
theorem dX8_bestTilt_95 : decode cX8_bestTilt 95 = .ok (.getfield 132, 3) := by decide +kernel
theorem dX8_bestTilt_98 : decode cX8_bestTilt 98 = .ok (.iload_n 1, 1) := by decide +kernel
theorem dX8_bestTilt_99 : decode cX8_bestTilt 99 = .ok (.iload_n 3, 1) := by decide +kernel
theorem dX8_bestTilt_100 : decode cX8_bestTilt 100 = .ok (.iastore, 1) := by decide +kernel
theorem dX8_bestTilt_101 : decode cX8_bestTilt 101 = .ok (.iload_n 2, 1) := by decide +kernel
theorem dX8_bestTilt_102 : decode cX8_bestTilt 102 = .ok (.ifCond .ne 8, 3) := by decide +kernel
theorem dX8_bestTilt_105 : decode cX8_bestTilt 105 = .ok (.iload 4, 2) := by decide +kernel
theorem dX8_bestTilt_107 : decode cX8_bestTilt 107 = .ok (.goto 5, 3) := by decide +kernel
theorem dX8_bestTilt_110 : decode cX8_bestTilt 110 = .ok (.iload 5, 2) := by decide +kernel
theorem dX8_bestTilt_112 : decode cX8_bestTilt 112 = .ok (.ireturn, 1) := by decide +kernel
theorem dX8_bestTilts_0 : decode cX8_bestTilts 0 = .ok (.iload_n 1, 1) := by decide +kernel
theorem dX8_bestTilts_1 : decode cX8_bestTilts 1 = .ok (.bipush 9, 2) := by decide +kernel
theorem dX8_bestTilts_3 : decode cX8_bestTilts 3 = .ok (.if_icmp .eq 17, 3) := by decide +kernel
theorem dX8_bestTilts_6 : decode cX8_bestTilts 6 = .ok (.aload_n 0, 1) := by decide +kernel
theorem dX8_bestTilts_7 : decode cX8_bestTilts 7 = .ok (.getfield 10, 3) := by decide +kernel
theorem dX8_bestTilts_10 : decode cX8_bestTilts 10 = .ok (.iload_n 1, 1) := by decide +kernel
theorem dX8_bestTilts_11 : decode cX8_bestTilts 11 = .ok (.invokevirtual 121, 3) := by decide +kernel
theorem dX8_bestTilts_14 : decode cX8_bestTilts 14 = .ok (.ifCond .ne 6, 3) := by decide +kernel
theorem dX8_bestTilts_17 : decode cX8_bestTilts 17 = .ok (.bipush (-2), 2) := by decide +kernel
theorem dX8_bestTilts_19 : decode cX8_bestTilts 19 = .ok (.ireturn, 1) := by decide +kernel
theorem dX8_bestTilts_20 : decode cX8_bestTilts 20 = .ok (.aload_n 0, 1) := by decide +kernel
theorem dX8_bestTilts_21 : decode cX8_bestTilts 21 = .ok (.getfield 37, 3) := by decide +kernel
theorem dX8_bestTilts_24 : decode cX8_bestTilts 24 = .ok (.invokevirtual 227, 3) := by decide +kernel
theorem dX8_bestTilts_27 : decode cX8_bestTilts 27 = .ok (.iload_n 1, 1) := by decide +kernel
theorem dX8_bestTilts_28 : decode cX8_bestTilts 28 = .ok (.bipush 9, 2) := by decide +kernel
theorem dX8_bestTilts_30 : decode cX8_bestTilts 30 = .ok (.if_icmp .ne 13, 3) := by decide +kernel
theorem dX8_bestTilts_33 : decode cX8_bestTilts 33 = .ok (.aload_n 0, 1) := by decide +kernel
theorem dX8_bestTilts_34 : decode cX8_bestTilts 34 = .ok (.getfield 37, 3) := by decide +kernel
theorem dX8_bestTilts_37 : decode cX8_bestTilts 37 = .ok (.invokevirtual 230, 3) := by decide +kernel
theorem dX8_bestTilts_40 : decode cX8_bestTilts 40 = .ok (.goto 11, 3) := by decide +kernel
theorem dX8_bestTilts_43 : decode cX8_bestTilts 43 = .ok (.aload_n 0, 1) := by decide +kernel
theorem dX8_bestTilts_44 : decode cX8_bestTilts 44 = .ok (.getfield 37, 3) := by decide +kernel
theorem dX8_bestTilts_47 : decode cX8_bestTilts 47 = .ok (.iload_n 1, 1) := by decide +kernel
theorem dX8_bestTilts_48 : decode cX8_bestTilts 48 = .ok (.invokevirtual 233, 3) := by decide +kernel
theorem dX8_bestTilts_51 : decode cX8_bestTilts 51 = .ok (.ireturn, 1) := by decide +kernel
theorem dX8_put_0 : decode cX8_put 0 = .ok (.aload_n 0, 1) := by decide +kernel
theorem dX8_put_1 : decode cX8_put 1 = .ok (.getfield 44, 3) := by decide +kernel
theorem dX8_put_4 : decode cX8_put 4 = .ok (.lload_n 1, 1) := by decide +kernel
theorem dX8_put_5 : decode cX8_put 5 = .ok (.invokevirtual 236, 3) := by decide +kernel
theorem dX8_put_8 : decode cX8_put 8 = .ok (.ireturn, 1) := by decide +kernel
theorem dX8_wipe_0 : decode cX8_wipe 0 = .ok (.aload_n 0, 1) := by decide +kernel
theorem dX8_wipe_1 : decode cX8_wipe 1 = .ok (.getfield 44, 3) := by decide +kernel
theorem dX8_wipe_4 : decode cX8_wipe 4 = .ok (.invokevirtual 240, 3) := by decide +kernel
theorem dX8_wipe_7 : decode cX8_wipe 7 = .ok (.ireturn, 1) := by decide +kernel
theorem dX8_fault_0 : decode cX8_fault 0 = .ok (.aload_n 0, 1) := by decide +kernel
theorem dX8_fault_1 : decode cX8_fault 1 = .ok (.getfield 53, 3) := by decide +kernel
theorem dX8_fault_4 : decode cX8_fault 4 = .ok (.invokevirtual 243, 3) := by decide +kernel
theorem dX8_fault_7 : decode cX8_fault 7 = .ok (.ireturn, 1) := by decide +kernel
theorem dX8_carryOut_0 : decode cX8_carryOut 0 = .ok (.aload_n 0, 1) := by decide +kernel
theorem dX8_carryOut_1 : decode cX8_carryOut 1 = .ok (.getfield 53, 3) := by decide +kernel
theorem dX8_carryOut_4 : decode cX8_carryOut 4 = .ok (.invokevirtual 243, 3) := by decide +kernel
theorem dX8_carryOut_7 : decode cX8_carryOut 7 = .ok (.bipush (-6), 2) := by decide +kernel
theorem dX8_carryOut_9 : decode cX8_carryOut 9 = .ok (.if_icmp .eq 6, 3) := by decide +kernel
theorem dX8_carryOut_12 : decode cX8_carryOut 12 = .ok (.bipush (-3), 2) := by decide +kernel
theorem dX8_carryOut_14 : decode cX8_carryOut 14 = .ok (.ireturn, 1) := by decide +kernel
theorem dX8_carryOut_15 : decode cX8_carryOut 15 = .ok (.aload_n 0, 1) := by decide +kernel
theorem dX8_carryOut_16 : decode cX8_carryOut 16 = .ok (.getfield 60, 3) := by decide +kernel
theorem dX8_carryOut_19 : decode cX8_carryOut 19 = .ok (.aload_n 0, 1) := by decide +kernel
theorem dX8_carryOut_20 : decode cX8_carryOut 20 = .ok (.getfield 10, 3) := by decide +kernel
theorem dX8_carryOut_23 : decode cX8_carryOut 23 = .ok (.invokevirtual 72, 3) := by decide +kernel
theorem dX8_carryOut_26 : decode cX8_carryOut 26 = .ok (.aload_n 0, 1) := by decide +kernel
theorem dX8_carryOut_27 : decode cX8_carryOut 27 = .ok (.invokevirtual 246, 3) := by decide +kernel
theorem dX8_carryOut_30 : decode cX8_carryOut 30 = .ok (.istore_n 1, 1) := by decide +kernel
theorem dX8_carryOut_31 : decode cX8_carryOut 31 = .ok (.aload_n 0, 1) := by decide +kernel
theorem dX8_carryOut_32 : decode cX8_carryOut 32 = .ok (.getfield 44, 3) := by decide +kernel
theorem dX8_carryOut_35 : decode cX8_carryOut 35 = .ok (.invokevirtual 240, 3) := by decide +kernel
theorem dX8_carryOut_38 : decode cX8_carryOut 38 = .ok (.pop, 1) := by decide +kernel
theorem dX8_carryOut_39 : decode cX8_carryOut 39 = .ok (.aload_n 0, 1) := by decide +kernel
theorem dX8_carryOut_40 : decode cX8_carryOut 40 = .ok (.getfield 60, 3) := by decide +kernel
theorem dX8_carryOut_43 : decode cX8_carryOut 43 = .ok (.iload_n 1, 1) := by decide +kernel
theorem dX8_carryOut_44 : decode cX8_carryOut 44 = .ok (.invokevirtual 79, 3) := by decide +kernel
theorem dX8_carryOut_47 : decode cX8_carryOut 47 = .ok (.ireturn, 1) := by decide +kernel
theorem dX8_carryOrdersOut_0 : decode cX8_carryOrdersOut 0 = .ok (.iconst 0, 1) := by decide +kernel
theorem dX8_carryOrdersOut_1 : decode cX8_carryOrdersOut 1 = .ok (.istore_n 1, 1) := by decide +kernel
theorem dX8_carryOrdersOut_2 : decode cX8_carryOrdersOut 2 = .ok (.aload_n 0, 1) := by decide +kernel
theorem dX8_carryOrdersOut_3 : decode cX8_carryOrdersOut 3 = .ok (.getfield 53, 3) := by decide +kernel
theorem dX8_carryOrdersOut_6 : decode cX8_carryOrdersOut 6 = .ok (.invokevirtual 249, 3) := by decide +kernel
theorem dX8_carryOrdersOut_9 : decode cX8_carryOrdersOut 9 = .ok (.iconst 0, 1) := by decide +kernel
theorem dX8_carryOrdersOut_10 : decode cX8_carryOrdersOut 10 = .ok (.istore_n 2, 1) := by decide +kernel
theorem dX8_carryOrdersOut_11 : decode cX8_carryOrdersOut 11 = .ok (.iload_n 2, 1) := by decide +kernel
theorem dX8_carryOrdersOut_12 : decode cX8_carryOrdersOut 12 = .ok (.bipush 80, 2) := by decide +kernel
theorem dX8_carryOrdersOut_14 : decode cX8_carryOrdersOut 14 = .ok (.if_icmp .gt 45, 3) := by decide +kernel
theorem dX8_carryOrdersOut_17 : decode cX8_carryOrdersOut 17 = .ok (.aload_n 0, 1) := by decide +kernel
theorem dX8_carryOrdersOut_18 : decode cX8_carryOrdersOut 18 = .ok (.getfield 53, 3) := by decide +kernel
theorem dX8_carryOrdersOut_21 : decode cX8_carryOrdersOut 21 = .ok (.invokevirtual 252, 3) := by decide +kernel
theorem dX8_carryOrdersOut_24 : decode cX8_carryOrdersOut 24 = .ok (.ifCond .eq 10, 3) := by decide +kernel
theorem dX8_carryOrdersOut_27 : decode cX8_carryOrdersOut 27 = .ok (.aload_n 0, 1) := by decide +kernel
theorem dX8_carryOrdersOut_28 : decode cX8_carryOrdersOut 28 = .ok (.invokevirtual 256, 3) := by decide +kernel
theorem dX8_carryOrdersOut_31 : decode cX8_carryOrdersOut 31 = .ok (.ifCond .ge 5, 3) := by decide +kernel
theorem dX8_carryOrdersOut_34 : decode cX8_carryOrdersOut 34 = .ok (.iload_n 1, 1) := by decide +kernel
theorem dX8_carryOrdersOut_35 : decode cX8_carryOrdersOut 35 = .ok (.ireturn, 1) := by decide +kernel
theorem dX8_carryOrdersOut_36 : decode cX8_carryOrdersOut 36 = .ok (.iinc 1 1, 3) := by decide +kernel
theorem dX8_carryOrdersOut_39 : decode cX8_carryOrdersOut 39 = .ok (.aload_n 0, 1) := by decide +kernel
theorem dX8_carryOrdersOut_40 : decode cX8_carryOrdersOut 40 = .ok (.getfield 53, 3) := by decide +kernel
theorem dX8_carryOrdersOut_43 : decode cX8_carryOrdersOut 43 = .ok (.bipush 59, 2) := by decide +kernel
theorem dX8_carryOrdersOut_45 : decode cX8_carryOrdersOut 45 = .ok (.invokevirtual 259, 3) := by decide +kernel
theorem dX8_carryOrdersOut_48 : decode cX8_carryOrdersOut 48 = .ok (.ifCond .ne 5, 3) := by decide +kernel
theorem dX8_carryOrdersOut_51 : decode cX8_carryOrdersOut 51 = .ok (.iload_n 1, 1) := by decide +kernel
theorem dX8_carryOrdersOut_52 : decode cX8_carryOrdersOut 52 = .ok (.ireturn, 1) := by decide +kernel
theorem dX8_carryOrdersOut_53 : decode cX8_carryOrdersOut 53 = .ok (.iinc 2 1, 3) := by decide +kernel
theorem dX8_carryOrdersOut_56 : decode cX8_carryOrdersOut 56 = .ok (.goto (-45), 3) := by decide +kernel
theorem dX8_carryOrdersOut_59 : decode cX8_carryOrdersOut 59 = .ok (.iload_n 1, 1) := by decide +kernel
theorem dX8_carryOrdersOut_60 : decode cX8_carryOrdersOut 60 = .ok (.ireturn, 1) := by decide +kernel
theorem dX8_carryOneOut_0 : decode cX8_carryOneOut 0 = .ok (.aload_n 0, 1) := by decide +kernel
theorem dX8_carryOneOut_1 : decode cX8_carryOneOut 1 = .ok (.getfield 53, 3) := by decide +kernel
theorem dX8_carryOneOut_4 : decode cX8_carryOneOut 4 = .ok (.getfield 263, 3) := by decide +kernel
theorem dX8_carryOneOut_7 : decode cX8_carryOneOut 7 = .ok (.astore_n 1, 1) := by decide +kernel
theorem dX8_carryOneOut_8 : decode cX8_carryOneOut 8 = .ok (.aload_n 0, 1) := by decide +kernel
theorem dX8_carryOneOut_9 : decode cX8_carryOneOut 9 = .ok (.getfield 53, 3) := by decide +kernel
theorem dX8_carryOneOut_12 : decode cX8_carryOneOut 12 = .ok (.getfield 266, 3) := by decide +kernel
theorem dX8_carryOneOut_15 : decode cX8_carryOneOut 15 = .ok (.lookupswitch 112 #[(97, 69), (98, 89), (116, 41), (119, 55)], 41) := by decide +kernel
theorem dX8_carryOneOut_56 : decode cX8_carryOneOut 56 = .ok (.aload_n 0, 1) := by decide +kernel
theorem dX8_carryOneOut_57 : decode cX8_carryOneOut 57 = .ok (.getfield 10, 3) := by decide +kernel
theorem dX8_carryOneOut_60 : decode cX8_carryOneOut 60 = .ok (.aload_n 1, 1) := by decide +kernel
theorem dX8_carryOneOut_61 : decode cX8_carryOneOut 61 = .ok (.iconst 0, 1) := by decide +kernel
theorem dX8_carryOneOut_62 : decode cX8_carryOneOut 62 = .ok (.iaload, 1) := by decide +kernel
theorem dX8_carryOneOut_63 : decode cX8_carryOneOut 63 = .ok (.aload_n 1, 1) := by decide +kernel
theorem dX8_carryOneOut_64 : decode cX8_carryOneOut 64 = .ok (.iconst 1, 1) := by decide +kernel
theorem dX8_carryOneOut_65 : decode cX8_carryOneOut 65 = .ok (.iaload, 1) := by decide +kernel
theorem dX8_carryOneOut_66 : decode cX8_carryOneOut 66 = .ok (.invokevirtual 83, 3) := by decide +kernel
theorem dX8_carryOneOut_69 : decode cX8_carryOneOut 69 = .ok (.ireturn, 1) := by decide +kernel
theorem dX8_carryOneOut_70 : decode cX8_carryOneOut 70 = .ok (.aload_n 0, 1) := by decide +kernel
theorem dX8_carryOneOut_71 : decode cX8_carryOneOut 71 = .ok (.getfield 10, 3) := by decide +kernel
theorem dX8_carryOneOut_74 : decode cX8_carryOneOut 74 = .ok (.aload_n 1, 1) := by decide +kernel
theorem dX8_carryOneOut_75 : decode cX8_carryOneOut 75 = .ok (.iconst 0, 1) := by decide +kernel
theorem dX8_carryOneOut_76 : decode cX8_carryOneOut 76 = .ok (.iaload, 1) := by decide +kernel
theorem dX8_carryOneOut_77 : decode cX8_carryOneOut 77 = .ok (.aload_n 1, 1) := by decide +kernel
theorem dX8_carryOneOut_78 : decode cX8_carryOneOut 78 = .ok (.iconst 1, 1) := by decide +kernel
theorem dX8_carryOneOut_79 : decode cX8_carryOneOut 79 = .ok (.iaload, 1) := by decide +kernel
theorem dX8_carryOneOut_80 : decode cX8_carryOneOut 80 = .ok (.invokevirtual 87, 3) := by decide +kernel
theorem dX8_carryOneOut_83 : decode cX8_carryOneOut 83 = .ok (.ireturn, 1) := by decide +kernel
theorem dX8_carryOneOut_84 : decode cX8_carryOneOut 84 = .ok (.aload_n 0, 1) := by decide +kernel
theorem dX8_carryOneOut_85 : decode cX8_carryOneOut 85 = .ok (.getfield 28, 3) := by decide +kernel
theorem dX8_carryOneOut_88 : decode cX8_carryOneOut 88 = .ok (.aload_n 1, 1) := by decide +kernel
theorem dX8_carryOneOut_89 : decode cX8_carryOneOut 89 = .ok (.iconst 0, 1) := by decide +kernel
theorem dX8_carryOneOut_90 : decode cX8_carryOneOut 90 = .ok (.iaload, 1) := by decide +kernel
theorem dX8_carryOneOut_91 : decode cX8_carryOneOut 91 = .ok (.aload_n 1, 1) := by decide +kernel
theorem dX8_carryOneOut_92 : decode cX8_carryOneOut 92 = .ok (.iconst 1, 1) := by decide +kernel
theorem dX8_carryOneOut_93 : decode cX8_carryOneOut 93 = .ok (.iaload, 1) := by decide +kernel
theorem dX8_carryOneOut_94 : decode cX8_carryOneOut 94 = .ok (.aload_n 1, 1) := by decide +kernel
theorem dX8_carryOneOut_95 : decode cX8_carryOneOut 95 = .ok (.iconst 2, 1) := by decide +kernel
theorem dX8_carryOneOut_96 : decode cX8_carryOneOut 96 = .ok (.iaload, 1) := by decide +kernel
theorem dX8_carryOneOut_97 : decode cX8_carryOneOut 97 = .ok (.aload_n 1, 1) := by decide +kernel
theorem dX8_carryOneOut_98 : decode cX8_carryOneOut 98 = .ok (.iconst 3, 1) := by decide +kernel
theorem dX8_carryOneOut_99 : decode cX8_carryOneOut 99 = .ok (.iaload, 1) := by decide +kernel
theorem dX8_carryOneOut_100 : decode cX8_carryOneOut 100 = .ok (.invokevirtual 97, 3) := by decide +kernel
theorem dX8_carryOneOut_103 : decode cX8_carryOneOut 103 = .ok (.ireturn, 1) := by decide +kernel
theorem dX8_carryOneOut_104 : decode cX8_carryOneOut 104 = .ok (.aload_n 0, 1) := by decide +kernel
theorem dX8_carryOneOut_105 : decode cX8_carryOneOut 105 = .ok (.getfield 28, 3) := by decide +kernel
theorem dX8_carryOneOut_108 : decode cX8_carryOneOut 108 = .ok (.aload_n 1, 1) := by decide +kernel
theorem dX8_carryOneOut_109 : decode cX8_carryOneOut 109 = .ok (.iconst 0, 1) := by decide +kernel
theorem dX8_carryOneOut_110 : decode cX8_carryOneOut 110 = .ok (.iaload, 1) := by decide +kernel
theorem dX8_carryOneOut_111 : decode cX8_carryOneOut 111 = .ok (.aload_n 1, 1) := by decide +kernel
theorem dX8_carryOneOut_112 : decode cX8_carryOneOut 112 = .ok (.iconst 1, 1) := by decide +kernel
theorem dX8_carryOneOut_113 : decode cX8_carryOneOut 113 = .ok (.iaload, 1) := by decide +kernel
theorem dX8_carryOneOut_114 : decode cX8_carryOneOut 114 = .ok (.aload_n 1, 1) := by decide +kernel
theorem dX8_carryOneOut_115 : decode cX8_carryOneOut 115 = .ok (.iconst 2, 1) := by decide +kernel
theorem dX8_carryOneOut_116 : decode cX8_carryOneOut 116 = .ok (.iaload, 1) := by decide +kernel
theorem dX8_carryOneOut_117 : decode cX8_carryOneOut 117 = .ok (.aload_n 1, 1) := by decide +kernel
theorem dX8_carryOneOut_118 : decode cX8_carryOneOut 118 = .ok (.iconst 3, 1) := by decide +kernel
theorem dX8_carryOneOut_119 : decode cX8_carryOneOut 119 = .ok (.iaload, 1) := by decide +kernel
theorem dX8_carryOneOut_120 : decode cX8_carryOneOut 120 = .ok (.aload_n 1, 1) := by decide +kernel
theorem dX8_carryOneOut_121 : decode cX8_carryOneOut 121 = .ok (.iconst 4, 1) := by decide +kernel
theorem dX8_carryOneOut_122 : decode cX8_carryOneOut 122 = .ok (.iaload, 1) := by decide +kernel
theorem dX8_carryOneOut_123 : decode cX8_carryOneOut 123 = .ok (.invokevirtual 100, 3) := by decide +kernel
theorem dX8_carryOneOut_126 : decode cX8_carryOneOut 126 = .ok (.ireturn, 1) := by decide +kernel
theorem dX8_carryOneOut_127 : decode cX8_carryOneOut 127 = .ok (.aload_n 0, 1) := by decide +kernel
theorem dX8_carryOneOut_128 : decode cX8_carryOneOut 128 = .ok (.getfield 28, 3) := by decide +kernel
theorem dX8_carryOneOut_131 : decode cX8_carryOneOut 131 = .ok (.invokevirtual 117, 3) := by decide +kernel
theorem dX8_carryOneOut_134 : decode cX8_carryOneOut 134 = .ok (.ireturn, 1) := by decide +kernel
theorem dX8_undo_0 : decode cX8_undo 0 = .ok (.aload_n 0, 1) := by decide +kernel
theorem dX8_undo_1 : decode cX8_undo 1 = .ok (.getfield 60, 3) := by decide +kernel
theorem dX8_undo_4 : decode cX8_undo 4 = .ok (.aload_n 0, 1) := by decide +kernel
theorem dX8_undo_5 : decode cX8_undo 5 = .ok (.getfield 10, 3) := by decide +kernel
theorem dX8_undo_8 : decode cX8_undo 8 = .ok (.invokevirtual 270, 3) := by decide +kernel
theorem dX8_undo_11 : decode cX8_undo 11 = .ok (.ireturn, 1) := by decide +kernel
theorem dX8_save_0 : decode cX8_save 0 = .ok (.iload_n 1, 1) := by decide +kernel
theorem dX8_save_1 : decode cX8_save 1 = .ok (.iconst 0, 1) := by decide +kernel
theorem dX8_save_2 : decode cX8_save 2 = .ok (.iconst 1, 1) := by decide +kernel
theorem dX8_save_3 : decode cX8_save 3 = .ok (.invokestatic 104, 3) := by decide +kernel
theorem dX8_save_6 : decode cX8_save 6 = .ok (.ifCond .eq 6, 3) := by decide +kernel
theorem dX8_save_9 : decode cX8_save 9 = .ok (.bipush (-2), 2) := by decide +kernel
theorem dX8_save_11 : decode cX8_save 11 = .ok (.ireturn, 1) := by decide +kernel
theorem dX8_save_12 : decode cX8_save 12 = .ok (.aload_n 0, 1) := by decide +kernel
theorem dX8_save_13 : decode cX8_save 13 = .ok (.getfield 64, 3) := by decide +kernel
theorem dX8_save_16 : decode cX8_save 16 = .ok (.iload_n 1, 1) := by decide +kernel
theorem dX8_save_17 : decode cX8_save 17 = .ok (.aaload, 1) := by decide +kernel
theorem dX8_save_18 : decode cX8_save 18 = .ok (.aload_n 0, 1) := by decide +kernel
theorem dX8_save_19 : decode cX8_save 19 = .ok (.getfield 10, 3) := by decide +kernel
theorem dX8_save_22 : decode cX8_save 22 = .ok (.invokevirtual 274, 3) := by decide +kernel
theorem dX8_save_25 : decode cX8_save 25 = .ok (.aload_n 0, 1) := by decide +kernel
theorem dX8_save_26 : decode cX8_save 26 = .ok (.getfield 68, 3) := by decide +kernel
theorem dX8_save_29 : decode cX8_save 29 = .ok (.iload_n 1, 1) := by decide +kernel
theorem dX8_save_30 : decode cX8_save 30 = .ok (.iconst 1, 1) := by decide +kernel
theorem dX8_save_31 : decode cX8_save 31 = .ok (.bastore, 1) := by decide +kernel
theorem dX8_save_32 : decode cX8_save 32 = .ok (.aload_n 0, 1) := by decide +kernel
theorem dX8_save_33 : decode cX8_save 33 = .ok (.getfield 10, 3) := by decide +kernel
theorem dX8_save_36 : decode cX8_save 36 = .ok (.getfield 191, 3) := by decide +kernel
theorem dX8_save_39 : decode cX8_save 39 = .ok (.ireturn, 1) := by decide +kernel
theorem dX8_restore_0 : decode cX8_restore 0 = .ok (.iload_n 1, 1) := by decide +kernel
theorem dX8_restore_1 : decode cX8_restore 1 = .ok (.iconst 0, 1) := by decide +kernel
theorem dX8_restore_2 : decode cX8_restore 2 = .ok (.iconst 1, 1) := by decide +kernel
theorem dX8_restore_3 : decode cX8_restore 3 = .ok (.invokestatic 104, 3) := by decide +kernel
theorem dX8_restore_6 : decode cX8_restore 6 = .ok (.ifCond .eq 6, 3) := by decide +kernel
theorem dX8_restore_9 : decode cX8_restore 9 = .ok (.bipush (-2), 2) := by decide +kernel
theorem dX8_restore_11 : decode cX8_restore 11 = .ok (.ireturn, 1) := by decide +kernel
theorem dX8_restore_12 : decode cX8_restore 12 = .ok (.aload_n 0, 1) := by decide +kernel
theorem dX8_restore_13 : decode cX8_restore 13 = .ok (.getfield 68, 3) := by decide +kernel
theorem dX8_restore_16 : decode cX8_restore 16 = .ok (.iload_n 1, 1) := by decide +kernel
theorem dX8_restore_17 : decode cX8_restore 17 = .ok (.baload, 1) := by decide +kernel
theorem dX8_restore_18 : decode cX8_restore 18 = .ok (.ifCond .ne 6, 3) := by decide +kernel
theorem dX8_restore_21 : decode cX8_restore 21 = .ok (.bipush (-5), 2) := by decide +kernel
theorem dX8_restore_23 : decode cX8_restore 23 = .ok (.ireturn, 1) := by decide +kernel
theorem dX8_restore_24 : decode cX8_restore 24 = .ok (.aload_n 0, 1) := by decide +kernel
theorem dX8_restore_25 : decode cX8_restore 25 = .ok (.getfield 60, 3) := by decide +kernel
theorem dX8_restore_28 : decode cX8_restore 28 = .ok (.aload_n 0, 1) := by decide +kernel
theorem dX8_restore_29 : decode cX8_restore 29 = .ok (.getfield 10, 3) := by decide +kernel
theorem dX8_restore_32 : decode cX8_restore 32 = .ok (.invokevirtual 72, 3) := by decide +kernel
theorem dX8_restore_35 : decode cX8_restore 35 = .ok (.aload_n 0, 1) := by decide +kernel
theorem dX8_restore_36 : decode cX8_restore 36 = .ok (.getfield 10, 3) := by decide +kernel
theorem dX8_restore_39 : decode cX8_restore 39 = .ok (.aload_n 0, 1) := by decide +kernel
theorem dX8_restore_40 : decode cX8_restore 40 = .ok (.getfield 64, 3) := by decide +kernel
theorem dX8_restore_43 : decode cX8_restore 43 = .ok (.iload_n 1, 1) := by decide +kernel
theorem dX8_restore_44 : decode cX8_restore 44 = .ok (.aaload, 1) := by decide +kernel
theorem dX8_restore_45 : decode cX8_restore 45 = .ok (.invokevirtual 274, 3) := by decide +kernel
theorem dX8_restore_48 : decode cX8_restore 48 = .ok (.aload_n 0, 1) := by decide +kernel
theorem dX8_restore_49 : decode cX8_restore 49 = .ok (.getfield 60, 3) := by decide +kernel
theorem dX8_restore_52 : decode cX8_restore 52 = .ok (.aload_n 0, 1) := by decide +kernel
theorem dX8_restore_53 : decode cX8_restore 53 = .ok (.getfield 10, 3) := by decide +kernel
theorem dX8_restore_56 : decode cX8_restore 56 = .ok (.getfield 191, 3) := by decide +kernel
theorem dX8_restore_59 : decode cX8_restore 59 = .ok (.invokevirtual 79, 3) := by decide +kernel
theorem dX8_restore_62 : decode cX8_restore 62 = .ok (.ireturn, 1) := by decide +kernel
theorem dX8_outside_0 : decode cX8_outside 0 = .ok (.iload_n 0, 1) := by decide +kernel
theorem dX8_outside_1 : decode cX8_outside 1 = .ok (.iload_n 1, 1) := by decide +kernel
theorem dX8_outside_2 : decode cX8_outside 2 = .ok (.if_icmp .lt 8, 3) := by decide +kernel
theorem dX8_outside_5 : decode cX8_outside 5 = .ok (.iload_n 0, 1) := by decide +kernel
theorem dX8_outside_6 : decode cX8_outside 6 = .ok (.iload_n 2, 1) := by decide +kernel
theorem dX8_outside_7 : decode cX8_outside 7 = .ok (.if_icmp .le 7, 3) := by decide +kernel
theorem dX8_outside_10 : decode cX8_outside 10 = .ok (.iconst 1, 1) := by decide +kernel
theorem dX8_outside_11 : decode cX8_outside 11 = .ok (.goto 4, 3) := by decide +kernel
theorem dX8_outside_14 : decode cX8_outside 14 = .ok (.iconst 0, 1) := by decide +kernel
theorem dX8_outside_15 : decode cX8_outside 15 = .ok (.ireturn, 1) := by decide +kernel
theorem dX8_isHour_0 : decode cX8_isHour 0 = .ok (.iload_n 0, 1) := by decide +kernel
theorem dX8_isHour_1 : decode cX8_isHour 1 = .ok (.iconst 0, 1) := by decide +kernel
theorem dX8_isHour_2 : decode cX8_isHour 2 = .ok (.bipush 9, 2) := by decide +kernel
theorem dX8_isHour_4 : decode cX8_isHour 4 = .ok (.invokestatic 104, 3) := by decide +kernel
theorem dX8_isHour_7 : decode cX8_isHour 7 = .ok (.ifCond .ne 7, 3) := by decide +kernel
theorem dX8_isHour_10 : decode cX8_isHour 10 = .ok (.iconst 1, 1) := by decide +kernel
theorem dX8_isHour_11 : decode cX8_isHour 11 = .ok (.goto 4, 3) := by decide +kernel
theorem dX8_isHour_14 : decode cX8_isHour 14 = .ok (.iconst 0, 1) := by decide +kernel
theorem dX8_isHour_15 : decode cX8_isHour 15 = .ok (.ireturn, 1) := by decide +kernel
end
section
theorem dJ0_length_8abf5_0 : decode cJ0_length_8abf5 0 = .ok (.aload_n 0, 1) := by decide +kernel
theorem dJ0_length_8abf5_1 : decode cJ0_length_8abf5 1 = .ok (.getfield 9, 3) := by decide +kernel
theorem dJ0_length_8abf5_4 : decode cJ0_length_8abf5 4 = .ok (.arraylength, 1) := by decide +kernel
theorem dJ0_length_8abf5_5 : decode cJ0_length_8abf5 5 = .ok (.aload_n 0, 1) := by decide +kernel
theorem dJ0_length_8abf5_6 : decode cJ0_length_8abf5 6 = .ok (.invokevirtual 335, 3) := by decide +kernel
theorem dJ0_length_8abf5_9 : decode cJ0_length_8abf5 9 = .ok (.ishr, 1) := by decide +kernel
theorem dJ0_length_8abf5_10 : decode cJ0_length_8abf5 10 = .ok (.ireturn, 1) := by decide +kernel
theorem dJ0_indexOf_0f7a4_0 : decode cJ0_indexOf_0f7a4 0 = .ok (.aload_n 0, 1) := by decide +kernel
theorem dJ0_indexOf_0f7a4_1 : decode cJ0_indexOf_0f7a4 1 = .ok (.iload_n 1, 1) := by decide +kernel
theorem dJ0_indexOf_0f7a4_2 : decode cJ0_indexOf_0f7a4 2 = .ok (.iconst 0, 1) := by decide +kernel
theorem dJ0_indexOf_0f7a4_3 : decode cJ0_indexOf_0f7a4 3 = .ok (.invokevirtual 633, 3) := by decide +kernel
theorem dJ0_indexOf_0f7a4_6 : decode cJ0_indexOf_0f7a4 6 = .ok (.ireturn, 1) := by decide +kernel
theorem dJ0_indexOf_7cf53_0 : decode cJ0_indexOf_7cf53 0 = .ok (.aload_n 0, 1) := by decide +kernel
theorem dJ0_indexOf_7cf53_1 : decode cJ0_indexOf_7cf53 1 = .ok (.invokevirtual 492, 3) := by decide +kernel
theorem dJ0_indexOf_7cf53_4 : decode cJ0_indexOf_7cf53 4 = .ok (.ifCond .eq 19, 3) := by decide +kernel
theorem dJ0_indexOf_7cf53_7 : decode cJ0_indexOf_7cf53 7 = .ok (.aload_n 0, 1) := by decide +kernel
theorem dJ0_indexOf_7cf53_8 : decode cJ0_indexOf_7cf53 8 = .ok (.getfield 9, 3) := by decide +kernel
theorem dJ0_indexOf_7cf53_11 : decode cJ0_indexOf_7cf53 11 = .ok (.iload_n 1, 1) := by decide +kernel
theorem dJ0_indexOf_7cf53_12 : decode cJ0_indexOf_7cf53 12 = .ok (.iload_n 2, 1) := by decide +kernel
theorem dJ0_indexOf_7cf53_13 : decode cJ0_indexOf_7cf53 13 = .ok (.aload_n 0, 1) := by decide +kernel
theorem dJ0_indexOf_7cf53_14 : decode cJ0_indexOf_7cf53 14 = .ok (.invokevirtual 505, 3) := by decide +kernel
theorem dJ0_indexOf_7cf53_17 : decode cJ0_indexOf_7cf53 17 = .ok (.invokestatic 637, 3) := by decide +kernel
theorem dJ0_indexOf_7cf53_20 : decode cJ0_indexOf_7cf53 20 = .ok (.goto 16, 3) := by decide +kernel
theorem dJ0_indexOf_7cf53_23 : decode cJ0_indexOf_7cf53 23 = .ok (.aload_n 0, 1) := by decide +kernel
theorem dJ0_indexOf_7cf53_24 : decode cJ0_indexOf_7cf53 24 = .ok (.getfield 9, 3) := by decide +kernel
theorem dJ0_indexOf_7cf53_27 : decode cJ0_indexOf_7cf53 27 = .ok (.iload_n 1, 1) := by decide +kernel
theorem dJ0_indexOf_7cf53_28 : decode cJ0_indexOf_7cf53 28 = .ok (.iload_n 2, 1) := by decide +kernel
theorem dJ0_indexOf_7cf53_29 : decode cJ0_indexOf_7cf53 29 = .ok (.aload_n 0, 1) := by decide +kernel
theorem dJ0_indexOf_7cf53_30 : decode cJ0_indexOf_7cf53 30 = .ok (.invokevirtual 505, 3) := by decide +kernel
theorem dJ0_indexOf_7cf53_33 : decode cJ0_indexOf_7cf53 33 = .ok (.invokestatic 640, 3) := by decide +kernel
theorem dJ0_indexOf_7cf53_36 : decode cJ0_indexOf_7cf53 36 = .ok (.ireturn, 1) := by decide +kernel
theorem dJ0_coder_7d493_0 : decode cJ0_coder_7d493 0 = .ok (.getstatic 38, 3) := by decide +kernel
theorem dJ0_coder_7d493_3 : decode cJ0_coder_7d493 3 = .ok (.ifCond .eq 10, 3) := by decide +kernel
theorem dJ0_coder_7d493_6 : decode cJ0_coder_7d493 6 = .ok (.aload_n 0, 1) := by decide +kernel
theorem dJ0_coder_7d493_7 : decode cJ0_coder_7d493 7 = .ok (.getfield 15, 3) := by decide +kernel
theorem dJ0_coder_7d493_10 : decode cJ0_coder_7d493 10 = .ok (.goto 4, 3) := by decide +kernel
theorem dJ0_coder_7d493_13 : decode cJ0_coder_7d493 13 = .ok (.iconst 1, 1) := by decide +kernel
theorem dJ0_coder_7d493_14 : decode cJ0_coder_7d493 14 = .ok (.ireturn, 1) := by decide +kernel
theorem dJ0_isLatin1_aae02_0 : decode cJ0_isLatin1_aae02 0 = .ok (.getstatic 38, 3) := by decide +kernel
theorem dJ0_isLatin1_aae02_3 : decode cJ0_isLatin1_aae02 3 = .ok (.ifCond .eq 14, 3) := by decide +kernel
theorem dJ0_isLatin1_aae02_6 : decode cJ0_isLatin1_aae02 6 = .ok (.aload_n 0, 1) := by decide +kernel
theorem dJ0_isLatin1_aae02_7 : decode cJ0_isLatin1_aae02 7 = .ok (.getfield 15, 3) := by decide +kernel
theorem dJ0_isLatin1_aae02_10 : decode cJ0_isLatin1_aae02 10 = .ok (.ifCond .ne 7, 3) := by decide +kernel
theorem dJ0_isLatin1_aae02_13 : decode cJ0_isLatin1_aae02 13 = .ok (.iconst 1, 1) := by decide +kernel
theorem dJ0_isLatin1_aae02_14 : decode cJ0_isLatin1_aae02 14 = .ok (.goto 4, 3) := by decide +kernel
theorem dJ0_isLatin1_aae02_17 : decode cJ0_isLatin1_aae02 17 = .ok (.iconst 0, 1) := by decide +kernel
theorem dJ0_isLatin1_aae02_18 : decode cJ0_isLatin1_aae02 18 = .ok (.ireturn, 1) := by decide +kernel
theorem dJ0_checkBoundsBeginEnd_23922_0 : decode cJ0_checkBoundsBeginEnd_23922 0 = .ok (.iload_n 0, 1) := by decide +kernel
theorem dJ0_checkBoundsBeginEnd_23922_1 : decode cJ0_checkBoundsBeginEnd_23922 1 = .ok (.iload_n 1, 1) := by decide +kernel
theorem dJ0_checkBoundsBeginEnd_23922_2 : decode cJ0_checkBoundsBeginEnd_23922 2 = .ok (.iload_n 2, 1) := by decide +kernel
theorem dJ0_checkBoundsBeginEnd_23922_3 : decode cJ0_checkBoundsBeginEnd_23922 3 = .ok (.getstatic 1053, 3) := by decide +kernel
theorem dJ0_checkBoundsBeginEnd_23922_6 : decode cJ0_checkBoundsBeginEnd_23922 6 = .ok (.invokestatic 1062, 3) := by decide +kernel
theorem dJ0_checkBoundsBeginEnd_23922_9 : decode cJ0_checkBoundsBeginEnd_23922 9 = .ok (.pop, 1) := by decide +kernel
theorem dJ0_checkBoundsBeginEnd_23922_10 : decode cJ0_checkBoundsBeginEnd_23922 10 = .ok (.return_, 1) := by decide +kernel
theorem dJ1_canEncode_9a6ad_0 : decode cJ1_canEncode_9a6ad 0 = .ok (.iload_n 0, 1) := by decide +kernel
theorem dJ1_canEncode_9a6ad_1 : decode cJ1_canEncode_9a6ad 1 = .ok (.ifCond .lt 14, 3) := by decide +kernel
theorem dJ1_canEncode_9a6ad_4 : decode cJ1_canEncode_9a6ad 4 = .ok (.iload_n 0, 1) := by decide +kernel
theorem dJ1_canEncode_9a6ad_5 : decode cJ1_canEncode_9a6ad 5 = .ok (.sipush 255, 3) := by decide +kernel
theorem dJ1_canEncode_9a6ad_8 : decode cJ1_canEncode_9a6ad 8 = .ok (.if_icmp .gt 7, 3) := by decide +kernel
theorem dJ1_canEncode_9a6ad_11 : decode cJ1_canEncode_9a6ad 11 = .ok (.iconst 1, 1) := by decide +kernel
theorem dJ1_canEncode_9a6ad_12 : decode cJ1_canEncode_9a6ad 12 = .ok (.goto 4, 3) := by decide +kernel
theorem dJ1_canEncode_9a6ad_15 : decode cJ1_canEncode_9a6ad 15 = .ok (.iconst 0, 1) := by decide +kernel
theorem dJ1_canEncode_9a6ad_16 : decode cJ1_canEncode_9a6ad 16 = .ok (.ireturn, 1) := by decide +kernel
theorem dJ1_indexOf_4cfef_0 : decode cJ1_indexOf_4cfef 0 = .ok (.iload_n 1, 1) := by decide +kernel
theorem dJ1_indexOf_4cfef_1 : decode cJ1_indexOf_4cfef 1 = .ok (.invokestatic 88, 3) := by decide +kernel
theorem dJ1_indexOf_4cfef_4 : decode cJ1_indexOf_4cfef 4 = .ok (.ifCond .ne 5, 3) := by decide +kernel
theorem dJ1_indexOf_4cfef_7 : decode cJ1_indexOf_4cfef 7 = .ok (.iconst (-1), 1) := by decide +kernel
theorem dJ1_indexOf_4cfef_8 : decode cJ1_indexOf_4cfef 8 = .ok (.ireturn, 1) := by decide +kernel
theorem dJ1_indexOf_4cfef_9 : decode cJ1_indexOf_4cfef 9 = .ok (.iload_n 2, 1) := by decide +kernel
theorem dJ1_indexOf_4cfef_10 : decode cJ1_indexOf_4cfef 10 = .ok (.iconst 0, 1) := by decide +kernel
theorem dJ1_indexOf_4cfef_11 : decode cJ1_indexOf_4cfef 11 = .ok (.invokestatic 92, 3) := by decide +kernel
theorem dJ1_indexOf_4cfef_14 : decode cJ1_indexOf_4cfef 14 = .ok (.istore_n 2, 1) := by decide +kernel
theorem dJ1_indexOf_4cfef_15 : decode cJ1_indexOf_4cfef 15 = .ok (.iload_n 3, 1) := by decide +kernel
theorem dJ1_indexOf_4cfef_16 : decode cJ1_indexOf_4cfef 16 = .ok (.aload_n 0, 1) := by decide +kernel
theorem dJ1_indexOf_4cfef_17 : decode cJ1_indexOf_4cfef 17 = .ok (.arraylength, 1) := by decide +kernel
theorem dJ1_indexOf_4cfef_18 : decode cJ1_indexOf_4cfef 18 = .ok (.invokestatic 38, 3) := by decide +kernel
theorem dJ1_indexOf_4cfef_21 : decode cJ1_indexOf_4cfef 21 = .ok (.istore_n 3, 1) := by decide +kernel
theorem dJ1_indexOf_4cfef_22 : decode cJ1_indexOf_4cfef 22 = .ok (.iload_n 2, 1) := by decide +kernel
theorem dJ1_indexOf_4cfef_23 : decode cJ1_indexOf_4cfef 23 = .ok (.iload_n 3, 1) := by decide +kernel
theorem dJ1_indexOf_4cfef_24 : decode cJ1_indexOf_4cfef 24 = .ok (.if_icmp .lt 5, 3) := by decide +kernel
theorem dJ1_indexOf_4cfef_27 : decode cJ1_indexOf_4cfef 27 = .ok (.iconst (-1), 1) := by decide +kernel
theorem dJ1_indexOf_4cfef_28 : decode cJ1_indexOf_4cfef 28 = .ok (.ireturn, 1) := by decide +kernel
theorem dJ1_indexOf_4cfef_29 : decode cJ1_indexOf_4cfef 29 = .ok (.aload_n 0, 1) := by decide +kernel
theorem dJ1_indexOf_4cfef_30 : decode cJ1_indexOf_4cfef 30 = .ok (.iload_n 1, 1) := by decide +kernel
theorem dJ1_indexOf_4cfef_31 : decode cJ1_indexOf_4cfef 31 = .ok (.iload_n 2, 1) := by decide +kernel
theorem dJ1_indexOf_4cfef_32 : decode cJ1_indexOf_4cfef 32 = .ok (.iload_n 3, 1) := by decide +kernel
theorem dJ1_indexOf_4cfef_33 : decode cJ1_indexOf_4cfef 33 = .ok (.invokestatic 95, 3) := by decide +kernel
theorem dJ1_indexOf_4cfef_36 : decode cJ1_indexOf_4cfef 36 = .ok (.ireturn, 1) := by decide +kernel
theorem dJ1_indexOfChar_4cfef_0 : decode cJ1_indexOfChar_4cfef 0 = .ok (.iload_n 1, 1) := by decide +kernel
theorem dJ1_indexOfChar_4cfef_1 : decode cJ1_indexOfChar_4cfef 1 = .ok (.i2b, 1) := by decide +kernel
theorem dJ1_indexOfChar_4cfef_2 : decode cJ1_indexOfChar_4cfef 2 = .ok (.istore 4, 2) := by decide +kernel
theorem dJ1_indexOfChar_4cfef_4 : decode cJ1_indexOfChar_4cfef 4 = .ok (.iload_n 2, 1) := by decide +kernel
theorem dJ1_indexOfChar_4cfef_5 : decode cJ1_indexOfChar_4cfef 5 = .ok (.istore 5, 2) := by decide +kernel
theorem dJ1_indexOfChar_4cfef_7 : decode cJ1_indexOfChar_4cfef 7 = .ok (.iload 5, 2) := by decide +kernel
theorem dJ1_indexOfChar_4cfef_9 : decode cJ1_indexOfChar_4cfef 9 = .ok (.iload_n 3, 1) := by decide +kernel
theorem dJ1_indexOfChar_4cfef_10 : decode cJ1_indexOfChar_4cfef 10 = .ok (.if_icmp .ge 21, 3) := by decide +kernel
theorem dJ1_indexOfChar_4cfef_13 : decode cJ1_indexOfChar_4cfef 13 = .ok (.aload_n 0, 1) := by decide +kernel
theorem dJ1_indexOfChar_4cfef_14 : decode cJ1_indexOfChar_4cfef 14 = .ok (.iload 5, 2) := by decide +kernel
theorem dJ1_indexOfChar_4cfef_16 : decode cJ1_indexOfChar_4cfef 16 = .ok (.baload, 1) := by decide +kernel
theorem dJ1_indexOfChar_4cfef_17 : decode cJ1_indexOfChar_4cfef 17 = .ok (.iload 4, 2) := by decide +kernel
theorem dJ1_indexOfChar_4cfef_19 : decode cJ1_indexOfChar_4cfef 19 = .ok (.if_icmp .ne 6, 3) := by decide +kernel
theorem dJ1_indexOfChar_4cfef_22 : decode cJ1_indexOfChar_4cfef 22 = .ok (.iload 5, 2) := by decide +kernel
theorem dJ1_indexOfChar_4cfef_24 : decode cJ1_indexOfChar_4cfef 24 = .ok (.ireturn, 1) := by decide +kernel
theorem dJ1_indexOfChar_4cfef_25 : decode cJ1_indexOfChar_4cfef 25 = .ok (.iinc 5 1, 3) := by decide +kernel
theorem dJ1_indexOfChar_4cfef_28 : decode cJ1_indexOfChar_4cfef 28 = .ok (.goto (-21), 3) := by decide +kernel
theorem dJ1_indexOfChar_4cfef_31 : decode cJ1_indexOfChar_4cfef 31 = .ok (.iconst (-1), 1) := by decide +kernel
theorem dJ1_indexOfChar_4cfef_32 : decode cJ1_indexOfChar_4cfef 32 = .ok (.ireturn, 1) := by decide +kernel
theorem dJ11_isValidCodePoint_9a6ad_0 : decode cJ11_isValidCodePoint_9a6ad 0 = .ok (.iload_n 0, 1) := by decide +kernel
theorem dJ11_isValidCodePoint_9a6ad_1 : decode cJ11_isValidCodePoint_9a6ad 1 = .ok (.bipush 16, 2) := by decide +kernel
theorem dJ11_isValidCodePoint_9a6ad_3 : decode cJ11_isValidCodePoint_9a6ad 3 = .ok (.iushr, 1) := by decide +kernel
theorem dJ11_isValidCodePoint_9a6ad_4 : decode cJ11_isValidCodePoint_9a6ad 4 = .ok (.istore_n 1, 1) := by decide +kernel
theorem dJ11_isValidCodePoint_9a6ad_5 : decode cJ11_isValidCodePoint_9a6ad 5 = .ok (.iload_n 1, 1) := by decide +kernel
theorem dJ11_isValidCodePoint_9a6ad_6 : decode cJ11_isValidCodePoint_9a6ad 6 = .ok (.bipush 17, 2) := by decide +kernel
theorem dJ11_isValidCodePoint_9a6ad_8 : decode cJ11_isValidCodePoint_9a6ad 8 = .ok (.if_icmp .ge 7, 3) := by decide +kernel
theorem dJ11_isValidCodePoint_9a6ad_11 : decode cJ11_isValidCodePoint_9a6ad 11 = .ok (.iconst 1, 1) := by decide +kernel
theorem dJ11_isValidCodePoint_9a6ad_12 : decode cJ11_isValidCodePoint_9a6ad 12 = .ok (.goto 4, 3) := by decide +kernel
theorem dJ11_isValidCodePoint_9a6ad_15 : decode cJ11_isValidCodePoint_9a6ad 15 = .ok (.iconst 0, 1) := by decide +kernel
theorem dJ11_isValidCodePoint_9a6ad_16 : decode cJ11_isValidCodePoint_9a6ad 16 = .ok (.ireturn, 1) := by decide +kernel
theorem dJ11_highSurrogate_5068e_0 : decode cJ11_highSurrogate_5068e 0 = .ok (.iload_n 0, 1) := by decide +kernel
theorem dJ11_highSurrogate_5068e_1 : decode cJ11_highSurrogate_5068e 1 = .ok (.bipush 10, 2) := by decide +kernel
theorem dJ11_highSurrogate_5068e_3 : decode cJ11_highSurrogate_5068e 3 = .ok (.iushr, 1) := by decide +kernel
theorem dJ11_highSurrogate_5068e_4 : decode cJ11_highSurrogate_5068e 4 = .ok (.ldc 110, 2) := by decide +kernel
theorem dJ11_highSurrogate_5068e_6 : decode cJ11_highSurrogate_5068e 6 = .ok (.iadd, 1) := by decide +kernel
theorem dJ11_highSurrogate_5068e_7 : decode cJ11_highSurrogate_5068e 7 = .ok (.i2c, 1) := by decide +kernel
theorem dJ11_highSurrogate_5068e_8 : decode cJ11_highSurrogate_5068e 8 = .ok (.ireturn, 1) := by decide +kernel
theorem dJ11_lowSurrogate_5068e_0 : decode cJ11_lowSurrogate_5068e 0 = .ok (.iload_n 0, 1) := by decide +kernel
theorem dJ11_lowSurrogate_5068e_1 : decode cJ11_lowSurrogate_5068e 1 = .ok (.sipush 1023, 3) := by decide +kernel
theorem dJ11_lowSurrogate_5068e_4 : decode cJ11_lowSurrogate_5068e 4 = .ok (.iand, 1) := by decide +kernel
theorem dJ11_lowSurrogate_5068e_5 : decode cJ11_lowSurrogate_5068e 5 = .ok (.ldc 76, 2) := by decide +kernel
theorem dJ11_lowSurrogate_5068e_7 : decode cJ11_lowSurrogate_5068e 7 = .ok (.iadd, 1) := by decide +kernel
theorem dJ11_lowSurrogate_5068e_8 : decode cJ11_lowSurrogate_5068e 8 = .ok (.i2c, 1) := by decide +kernel
theorem dJ11_lowSurrogate_5068e_9 : decode cJ11_lowSurrogate_5068e 9 = .ok (.ireturn, 1) := by decide +kernel
theorem dJ2_getChar_3b067_0 : decode cJ2_getChar_3b067 0 = .ok (.getstatic 44, 3) := by decide +kernel
theorem dJ2_getChar_3b067_3 : decode cJ2_getChar_3b067 3 = .ok (.ifCond .ne 25, 3) := by decide +kernel
theorem dJ2_getChar_3b067_6 : decode cJ2_getChar_3b067 6 = .ok (.iload_n 1, 1) := by decide +kernel
theorem dJ2_getChar_3b067_7 : decode cJ2_getChar_3b067 7 = .ok (.ifCond .lt 11, 3) := by decide +kernel
theorem dJ2_getChar_3b067_10 : decode cJ2_getChar_3b067 10 = .ok (.iload_n 1, 1) := by decide +kernel
theorem dJ2_getChar_3b067_11 : decode cJ2_getChar_3b067 11 = .ok (.aload_n 0, 1) := by decide +kernel
theorem dJ2_getChar_3b067_12 : decode cJ2_getChar_3b067 12 = .ok (.invokestatic 48, 3) := by decide +kernel
theorem dJ2_getChar_3b067_15 : decode cJ2_getChar_3b067 15 = .ok (.if_icmp .lt 13, 3) := by decide +kernel
theorem dJ2_getChar_3b067_18 : decode cJ2_getChar_3b067 18 = .ok (.new 52, 3) := by decide +kernel
theorem dJ2_getChar_3b067_21 : decode cJ2_getChar_3b067 21 = .ok (.dup, 1) := by decide +kernel
theorem dJ2_getChar_3b067_22 : decode cJ2_getChar_3b067 22 = .ok (.ldc 54, 2) := by decide +kernel
theorem dJ2_getChar_3b067_24 : decode cJ2_getChar_3b067 24 = .ok (.invokespecial 56, 3) := by decide +kernel
theorem dJ2_getChar_3b067_27 : decode cJ2_getChar_3b067 27 = .ok (.athrow, 1) := by decide +kernel
theorem dJ2_getChar_3b067_28 : decode cJ2_getChar_3b067 28 = .ok (.iload_n 1, 1) := by decide +kernel
theorem dJ2_getChar_3b067_29 : decode cJ2_getChar_3b067 29 = .ok (.iconst 1, 1) := by decide +kernel
theorem dJ2_getChar_3b067_30 : decode cJ2_getChar_3b067 30 = .ok (.ishl, 1) := by decide +kernel
theorem dJ2_getChar_3b067_31 : decode cJ2_getChar_3b067 31 = .ok (.istore_n 1, 1) := by decide +kernel
theorem dJ2_getChar_3b067_32 : decode cJ2_getChar_3b067 32 = .ok (.aload_n 0, 1) := by decide +kernel
theorem dJ2_getChar_3b067_33 : decode cJ2_getChar_3b067 33 = .ok (.iload_n 1, 1) := by decide +kernel
theorem dJ2_getChar_3b067_34 : decode cJ2_getChar_3b067 34 = .ok (.iinc 1 1, 3) := by decide +kernel
theorem dJ2_getChar_3b067_37 : decode cJ2_getChar_3b067 37 = .ok (.baload, 1) := by decide +kernel
theorem dJ2_getChar_3b067_38 : decode cJ2_getChar_3b067 38 = .ok (.sipush 255, 3) := by decide +kernel
theorem dJ2_getChar_3b067_41 : decode cJ2_getChar_3b067 41 = .ok (.iand, 1) := by decide +kernel
theorem dJ2_getChar_3b067_42 : decode cJ2_getChar_3b067 42 = .ok (.getstatic 59, 3) := by decide +kernel
theorem dJ2_getChar_3b067_45 : decode cJ2_getChar_3b067 45 = .ok (.ishl, 1) := by decide +kernel
theorem dJ2_getChar_3b067_46 : decode cJ2_getChar_3b067 46 = .ok (.aload_n 0, 1) := by decide +kernel
theorem dJ2_getChar_3b067_47 : decode cJ2_getChar_3b067 47 = .ok (.iload_n 1, 1) := by decide +kernel
theorem dJ2_getChar_3b067_48 : decode cJ2_getChar_3b067 48 = .ok (.baload, 1) := by decide +kernel
theorem dJ2_getChar_3b067_49 : decode cJ2_getChar_3b067 49 = .ok (.sipush 255, 3) := by decide +kernel
theorem dJ2_getChar_3b067_52 : decode cJ2_getChar_3b067 52 = .ok (.iand, 1) := by decide +kernel
theorem dJ2_getChar_3b067_53 : decode cJ2_getChar_3b067 53 = .ok (.getstatic 63, 3) := by decide +kernel
theorem dJ2_getChar_3b067_56 : decode cJ2_getChar_3b067 56 = .ok (.ishl, 1) := by decide +kernel
theorem dJ2_getChar_3b067_57 : decode cJ2_getChar_3b067 57 = .ok (.ior, 1) := by decide +kernel
theorem dJ2_getChar_3b067_58 : decode cJ2_getChar_3b067 58 = .ok (.i2c, 1) := by decide +kernel
theorem dJ2_getChar_3b067_59 : decode cJ2_getChar_3b067 59 = .ok (.ireturn, 1) := by decide +kernel
theorem dJ2_length_9d52b_0 : decode cJ2_length_9d52b 0 = .ok (.aload_n 0, 1) := by decide +kernel
theorem dJ2_length_9d52b_1 : decode cJ2_length_9d52b 1 = .ok (.arraylength, 1) := by decide +kernel
theorem dJ2_length_9d52b_2 : decode cJ2_length_9d52b 2 = .ok (.iconst 1, 1) := by decide +kernel
theorem dJ2_length_9d52b_3 : decode cJ2_length_9d52b 3 = .ok (.ishr, 1) := by decide +kernel
theorem dJ2_length_9d52b_4 : decode cJ2_length_9d52b 4 = .ok (.ireturn, 1) := by decide +kernel
theorem dJ2_indexOf_4cfef_0 : decode cJ2_indexOf_4cfef 0 = .ok (.iload_n 2, 1) := by decide +kernel
theorem dJ2_indexOf_4cfef_1 : decode cJ2_indexOf_4cfef 1 = .ok (.iconst 0, 1) := by decide +kernel
theorem dJ2_indexOf_4cfef_2 : decode cJ2_indexOf_4cfef 2 = .ok (.invokestatic 224, 3) := by decide +kernel
theorem dJ2_indexOf_4cfef_5 : decode cJ2_indexOf_4cfef 5 = .ok (.istore_n 2, 1) := by decide +kernel
theorem dJ2_indexOf_4cfef_6 : decode cJ2_indexOf_4cfef 6 = .ok (.iload_n 3, 1) := by decide +kernel
theorem dJ2_indexOf_4cfef_7 : decode cJ2_indexOf_4cfef 7 = .ok (.aload_n 0, 1) := by decide +kernel
theorem dJ2_indexOf_4cfef_8 : decode cJ2_indexOf_4cfef 8 = .ok (.arraylength, 1) := by decide +kernel
theorem dJ2_indexOf_4cfef_9 : decode cJ2_indexOf_4cfef 9 = .ok (.iconst 1, 1) := by decide +kernel
theorem dJ2_indexOf_4cfef_10 : decode cJ2_indexOf_4cfef 10 = .ok (.ishr, 1) := by decide +kernel
theorem dJ2_indexOf_4cfef_11 : decode cJ2_indexOf_4cfef 11 = .ok (.invokestatic 183, 3) := by decide +kernel
theorem dJ2_indexOf_4cfef_14 : decode cJ2_indexOf_4cfef 14 = .ok (.istore_n 3, 1) := by decide +kernel
theorem dJ2_indexOf_4cfef_15 : decode cJ2_indexOf_4cfef 15 = .ok (.iload_n 2, 1) := by decide +kernel
theorem dJ2_indexOf_4cfef_16 : decode cJ2_indexOf_4cfef 16 = .ok (.iload_n 3, 1) := by decide +kernel
theorem dJ2_indexOf_4cfef_17 : decode cJ2_indexOf_4cfef 17 = .ok (.if_icmp .lt 5, 3) := by decide +kernel
theorem dJ2_indexOf_4cfef_20 : decode cJ2_indexOf_4cfef 20 = .ok (.iconst (-1), 1) := by decide +kernel
theorem dJ2_indexOf_4cfef_21 : decode cJ2_indexOf_4cfef 21 = .ok (.ireturn, 1) := by decide +kernel
theorem dJ2_indexOf_4cfef_22 : decode cJ2_indexOf_4cfef 22 = .ok (.iload_n 1, 1) := by decide +kernel
theorem dJ2_indexOf_4cfef_23 : decode cJ2_indexOf_4cfef 23 = .ok (.ldc 227, 2) := by decide +kernel
theorem dJ2_indexOf_4cfef_25 : decode cJ2_indexOf_4cfef 25 = .ok (.if_icmp .ge 11, 3) := by decide +kernel
theorem dJ2_indexOf_4cfef_28 : decode cJ2_indexOf_4cfef 28 = .ok (.aload_n 0, 1) := by decide +kernel
theorem dJ2_indexOf_4cfef_29 : decode cJ2_indexOf_4cfef 29 = .ok (.iload_n 1, 1) := by decide +kernel
theorem dJ2_indexOf_4cfef_30 : decode cJ2_indexOf_4cfef 30 = .ok (.iload_n 2, 1) := by decide +kernel
theorem dJ2_indexOf_4cfef_31 : decode cJ2_indexOf_4cfef 31 = .ok (.iload_n 3, 1) := by decide +kernel
theorem dJ2_indexOf_4cfef_32 : decode cJ2_indexOf_4cfef 32 = .ok (.invokestatic 228, 3) := by decide +kernel
theorem dJ2_indexOf_4cfef_35 : decode cJ2_indexOf_4cfef 35 = .ok (.ireturn, 1) := by decide +kernel
theorem dJ2_indexOf_4cfef_36 : decode cJ2_indexOf_4cfef 36 = .ok (.aload_n 0, 1) := by decide +kernel
theorem dJ2_indexOf_4cfef_37 : decode cJ2_indexOf_4cfef 37 = .ok (.iload_n 1, 1) := by decide +kernel
theorem dJ2_indexOf_4cfef_38 : decode cJ2_indexOf_4cfef 38 = .ok (.iload_n 2, 1) := by decide +kernel
theorem dJ2_indexOf_4cfef_39 : decode cJ2_indexOf_4cfef 39 = .ok (.iload_n 3, 1) := by decide +kernel
theorem dJ2_indexOf_4cfef_40 : decode cJ2_indexOf_4cfef 40 = .ok (.invokestatic 232, 3) := by decide +kernel
theorem dJ2_indexOf_4cfef_43 : decode cJ2_indexOf_4cfef 43 = .ok (.ireturn, 1) := by decide +kernel
theorem dJ2_indexOfChar_4cfef_0 : decode cJ2_indexOfChar_4cfef 0 = .ok (.iload_n 2, 1) := by decide +kernel
theorem dJ2_indexOfChar_4cfef_1 : decode cJ2_indexOfChar_4cfef 1 = .ok (.iload_n 3, 1) := by decide +kernel
theorem dJ2_indexOfChar_4cfef_2 : decode cJ2_indexOfChar_4cfef 2 = .ok (.aload_n 0, 1) := by decide +kernel
theorem dJ2_indexOfChar_4cfef_3 : decode cJ2_indexOfChar_4cfef 3 = .ok (.invokestatic 96, 3) := by decide +kernel
theorem dJ2_indexOfChar_4cfef_6 : decode cJ2_indexOfChar_4cfef 6 = .ok (.aload_n 0, 1) := by decide +kernel
theorem dJ2_indexOfChar_4cfef_7 : decode cJ2_indexOfChar_4cfef 7 = .ok (.iload_n 1, 1) := by decide +kernel
theorem dJ2_indexOfChar_4cfef_8 : decode cJ2_indexOfChar_4cfef 8 = .ok (.iload_n 2, 1) := by decide +kernel
theorem dJ2_indexOfChar_4cfef_9 : decode cJ2_indexOfChar_4cfef 9 = .ok (.iload_n 3, 1) := by decide +kernel
theorem dJ2_indexOfChar_4cfef_10 : decode cJ2_indexOfChar_4cfef 10 = .ok (.invokestatic 244, 3) := by decide +kernel
theorem dJ2_indexOfChar_4cfef_13 : decode cJ2_indexOfChar_4cfef 13 = .ok (.ireturn, 1) := by decide +kernel
theorem dJ2_indexOfCharUnsafe_4cfef_0 : decode cJ2_indexOfCharUnsafe_4cfef 0 = .ok (.iload_n 2, 1) := by decide +kernel
theorem dJ2_indexOfCharUnsafe_4cfef_1 : decode cJ2_indexOfCharUnsafe_4cfef 1 = .ok (.istore 4, 2) := by decide +kernel
theorem dJ2_indexOfCharUnsafe_4cfef_3 : decode cJ2_indexOfCharUnsafe_4cfef 3 = .ok (.iload 4, 2) := by decide +kernel
theorem dJ2_indexOfCharUnsafe_4cfef_5 : decode cJ2_indexOfCharUnsafe_4cfef 5 = .ok (.iload_n 3, 1) := by decide +kernel
theorem dJ2_indexOfCharUnsafe_4cfef_6 : decode cJ2_indexOfCharUnsafe_4cfef 6 = .ok (.if_icmp .ge 22, 3) := by decide +kernel
theorem dJ2_indexOfCharUnsafe_4cfef_9 : decode cJ2_indexOfCharUnsafe_4cfef 9 = .ok (.aload_n 0, 1) := by decide +kernel
theorem dJ2_indexOfCharUnsafe_4cfef_10 : decode cJ2_indexOfCharUnsafe_4cfef 10 = .ok (.iload 4, 2) := by decide +kernel
theorem dJ2_indexOfCharUnsafe_4cfef_12 : decode cJ2_indexOfCharUnsafe_4cfef 12 = .ok (.invokestatic 71, 3) := by decide +kernel
theorem dJ2_indexOfCharUnsafe_4cfef_15 : decode cJ2_indexOfCharUnsafe_4cfef 15 = .ok (.iload_n 1, 1) := by decide +kernel
theorem dJ2_indexOfCharUnsafe_4cfef_16 : decode cJ2_indexOfCharUnsafe_4cfef 16 = .ok (.if_icmp .ne 6, 3) := by decide +kernel
theorem dJ2_indexOfCharUnsafe_4cfef_19 : decode cJ2_indexOfCharUnsafe_4cfef 19 = .ok (.iload 4, 2) := by decide +kernel
theorem dJ2_indexOfCharUnsafe_4cfef_21 : decode cJ2_indexOfCharUnsafe_4cfef 21 = .ok (.ireturn, 1) := by decide +kernel
theorem dJ2_indexOfCharUnsafe_4cfef_22 : decode cJ2_indexOfCharUnsafe_4cfef 22 = .ok (.iinc 4 1, 3) := by decide +kernel
theorem dJ2_indexOfCharUnsafe_4cfef_25 : decode cJ2_indexOfCharUnsafe_4cfef 25 = .ok (.goto (-22), 3) := by decide +kernel
theorem dJ2_indexOfCharUnsafe_4cfef_28 : decode cJ2_indexOfCharUnsafe_4cfef 28 = .ok (.iconst (-1), 1) := by decide +kernel
theorem dJ2_indexOfCharUnsafe_4cfef_29 : decode cJ2_indexOfCharUnsafe_4cfef 29 = .ok (.ireturn, 1) := by decide +kernel
theorem dJ2_indexOfSupplementary_4cfef_0 : decode cJ2_indexOfSupplementary_4cfef 0 = .ok (.iload_n 1, 1) := by decide +kernel
theorem dJ2_indexOfSupplementary_4cfef_1 : decode cJ2_indexOfSupplementary_4cfef 1 = .ok (.invokestatic 164, 3) := by decide +kernel
theorem dJ2_indexOfSupplementary_4cfef_4 : decode cJ2_indexOfSupplementary_4cfef 4 = .ok (.ifCond .eq 65, 3) := by decide +kernel
theorem dJ2_indexOfSupplementary_4cfef_7 : decode cJ2_indexOfSupplementary_4cfef 7 = .ok (.iload_n 1, 1) := by decide +kernel
theorem dJ2_indexOfSupplementary_4cfef_8 : decode cJ2_indexOfSupplementary_4cfef 8 = .ok (.invokestatic 157, 3) := by decide +kernel
theorem dJ2_indexOfSupplementary_4cfef_11 : decode cJ2_indexOfSupplementary_4cfef 11 = .ok (.istore 4, 2) := by decide +kernel
theorem dJ2_indexOfSupplementary_4cfef_13 : decode cJ2_indexOfSupplementary_4cfef 13 = .ok (.iload_n 1, 1) := by decide +kernel
theorem dJ2_indexOfSupplementary_4cfef_14 : decode cJ2_indexOfSupplementary_4cfef 14 = .ok (.invokestatic 161, 3) := by decide +kernel
theorem dJ2_indexOfSupplementary_4cfef_17 : decode cJ2_indexOfSupplementary_4cfef 17 = .ok (.istore 5, 2) := by decide +kernel
theorem dJ2_indexOfSupplementary_4cfef_19 : decode cJ2_indexOfSupplementary_4cfef 19 = .ok (.iload_n 2, 1) := by decide +kernel
theorem dJ2_indexOfSupplementary_4cfef_20 : decode cJ2_indexOfSupplementary_4cfef 20 = .ok (.iload_n 3, 1) := by decide +kernel
theorem dJ2_indexOfSupplementary_4cfef_21 : decode cJ2_indexOfSupplementary_4cfef 21 = .ok (.aload_n 0, 1) := by decide +kernel
theorem dJ2_indexOfSupplementary_4cfef_22 : decode cJ2_indexOfSupplementary_4cfef 22 = .ok (.invokestatic 96, 3) := by decide +kernel
theorem dJ2_indexOfSupplementary_4cfef_25 : decode cJ2_indexOfSupplementary_4cfef 25 = .ok (.iload_n 2, 1) := by decide +kernel
theorem dJ2_indexOfSupplementary_4cfef_26 : decode cJ2_indexOfSupplementary_4cfef 26 = .ok (.istore 6, 2) := by decide +kernel
theorem dJ2_indexOfSupplementary_4cfef_28 : decode cJ2_indexOfSupplementary_4cfef 28 = .ok (.iload 6, 2) := by decide +kernel
theorem dJ2_indexOfSupplementary_4cfef_30 : decode cJ2_indexOfSupplementary_4cfef 30 = .ok (.iload_n 3, 1) := by decide +kernel
theorem dJ2_indexOfSupplementary_4cfef_31 : decode cJ2_indexOfSupplementary_4cfef 31 = .ok (.iconst 1, 1) := by decide +kernel
theorem dJ2_indexOfSupplementary_4cfef_32 : decode cJ2_indexOfSupplementary_4cfef 32 = .ok (.isub, 1) := by decide +kernel
theorem dJ2_indexOfSupplementary_4cfef_33 : decode cJ2_indexOfSupplementary_4cfef 33 = .ok (.if_icmp .ge 36, 3) := by decide +kernel
theorem dJ2_indexOfSupplementary_4cfef_36 : decode cJ2_indexOfSupplementary_4cfef 36 = .ok (.aload_n 0, 1) := by decide +kernel
theorem dJ2_indexOfSupplementary_4cfef_37 : decode cJ2_indexOfSupplementary_4cfef 37 = .ok (.iload 6, 2) := by decide +kernel
theorem dJ2_indexOfSupplementary_4cfef_39 : decode cJ2_indexOfSupplementary_4cfef 39 = .ok (.invokestatic 71, 3) := by decide +kernel
theorem dJ2_indexOfSupplementary_4cfef_42 : decode cJ2_indexOfSupplementary_4cfef 42 = .ok (.iload 4, 2) := by decide +kernel
theorem dJ2_indexOfSupplementary_4cfef_44 : decode cJ2_indexOfSupplementary_4cfef 44 = .ok (.if_icmp .ne 19, 3) := by decide +kernel
theorem dJ2_indexOfSupplementary_4cfef_47 : decode cJ2_indexOfSupplementary_4cfef 47 = .ok (.aload_n 0, 1) := by decide +kernel
theorem dJ2_indexOfSupplementary_4cfef_48 : decode cJ2_indexOfSupplementary_4cfef 48 = .ok (.iload 6, 2) := by decide +kernel
theorem dJ2_indexOfSupplementary_4cfef_50 : decode cJ2_indexOfSupplementary_4cfef 50 = .ok (.iconst 1, 1) := by decide +kernel
theorem dJ2_indexOfSupplementary_4cfef_51 : decode cJ2_indexOfSupplementary_4cfef 51 = .ok (.iadd, 1) := by decide +kernel
theorem dJ2_indexOfSupplementary_4cfef_52 : decode cJ2_indexOfSupplementary_4cfef 52 = .ok (.invokestatic 71, 3) := by decide +kernel
theorem dJ2_indexOfSupplementary_4cfef_55 : decode cJ2_indexOfSupplementary_4cfef 55 = .ok (.iload 5, 2) := by decide +kernel
theorem dJ2_indexOfSupplementary_4cfef_57 : decode cJ2_indexOfSupplementary_4cfef 57 = .ok (.if_icmp .ne 6, 3) := by decide +kernel
theorem dJ2_indexOfSupplementary_4cfef_60 : decode cJ2_indexOfSupplementary_4cfef 60 = .ok (.iload 6, 2) := by decide +kernel
theorem dJ2_indexOfSupplementary_4cfef_62 : decode cJ2_indexOfSupplementary_4cfef 62 = .ok (.ireturn, 1) := by decide +kernel
theorem dJ2_indexOfSupplementary_4cfef_63 : decode cJ2_indexOfSupplementary_4cfef 63 = .ok (.iinc 6 1, 3) := by decide +kernel
theorem dJ2_indexOfSupplementary_4cfef_66 : decode cJ2_indexOfSupplementary_4cfef 66 = .ok (.goto (-38), 3) := by decide +kernel
theorem dJ2_indexOfSupplementary_4cfef_69 : decode cJ2_indexOfSupplementary_4cfef 69 = .ok (.iconst (-1), 1) := by decide +kernel
theorem dJ2_indexOfSupplementary_4cfef_70 : decode cJ2_indexOfSupplementary_4cfef 70 = .ok (.ireturn, 1) := by decide +kernel
theorem dJ2_checkBoundsBeginEnd_d044e_0 : decode cJ2_checkBoundsBeginEnd_d044e 0 = .ok (.iload_n 0, 1) := by decide +kernel
theorem dJ2_checkBoundsBeginEnd_d044e_1 : decode cJ2_checkBoundsBeginEnd_d044e 1 = .ok (.iload_n 1, 1) := by decide +kernel
theorem dJ2_checkBoundsBeginEnd_d044e_2 : decode cJ2_checkBoundsBeginEnd_d044e 2 = .ok (.aload_n 2, 1) := by decide +kernel
theorem dJ2_checkBoundsBeginEnd_d044e_3 : decode cJ2_checkBoundsBeginEnd_d044e 3 = .ok (.invokestatic 48, 3) := by decide +kernel
theorem dJ2_checkBoundsBeginEnd_d044e_6 : decode cJ2_checkBoundsBeginEnd_d044e 6 = .ok (.invokestatic 241, 3) := by decide +kernel
theorem dJ2_checkBoundsBeginEnd_d044e_9 : decode cJ2_checkBoundsBeginEnd_d044e 9 = .ok (.return_, 1) := by decide +kernel
theorem dJ3_checkFromToIndex_8c36e_0 : decode cJ3_checkFromToIndex_8c36e 0 = .ok (.iload_n 0, 1) := by decide +kernel
theorem dJ3_checkFromToIndex_8c36e_1 : decode cJ3_checkFromToIndex_8c36e 1 = .ok (.ifCond .lt 13, 3) := by decide +kernel
theorem dJ3_checkFromToIndex_8c36e_4 : decode cJ3_checkFromToIndex_8c36e 4 = .ok (.iload_n 0, 1) := by decide +kernel
theorem dJ3_checkFromToIndex_8c36e_5 : decode cJ3_checkFromToIndex_8c36e 5 = .ok (.iload_n 1, 1) := by decide +kernel
theorem dJ3_checkFromToIndex_8c36e_6 : decode cJ3_checkFromToIndex_8c36e 6 = .ok (.if_icmp .gt 8, 3) := by decide +kernel
theorem dJ3_checkFromToIndex_8c36e_9 : decode cJ3_checkFromToIndex_8c36e 9 = .ok (.iload_n 1, 1) := by decide +kernel
theorem dJ3_checkFromToIndex_8c36e_10 : decode cJ3_checkFromToIndex_8c36e 10 = .ok (.iload_n 2, 1) := by decide +kernel
theorem dJ3_checkFromToIndex_8c36e_11 : decode cJ3_checkFromToIndex_8c36e 11 = .ok (.if_icmp .le 11, 3) := by decide +kernel
theorem dJ3_checkFromToIndex_8c36e_14 : decode cJ3_checkFromToIndex_8c36e 14 = .ok (.aload_n 3, 1) := by decide +kernel
theorem dJ3_checkFromToIndex_8c36e_15 : decode cJ3_checkFromToIndex_8c36e 15 = .ok (.iload_n 0, 1) := by decide +kernel
theorem dJ3_checkFromToIndex_8c36e_16 : decode cJ3_checkFromToIndex_8c36e 16 = .ok (.iload_n 1, 1) := by decide +kernel
theorem dJ3_checkFromToIndex_8c36e_17 : decode cJ3_checkFromToIndex_8c36e 17 = .ok (.iload_n 2, 1) := by decide +kernel
theorem dJ3_checkFromToIndex_8c36e_18 : decode cJ3_checkFromToIndex_8c36e 18 = .ok (.invokestatic 99, 3) := by decide +kernel
theorem dJ3_checkFromToIndex_8c36e_21 : decode cJ3_checkFromToIndex_8c36e 21 = .ok (.athrow, 1) := by decide +kernel
theorem dJ3_checkFromToIndex_8c36e_22 : decode cJ3_checkFromToIndex_8c36e 22 = .ok (.iload_n 0, 1) := by decide +kernel
theorem dJ3_checkFromToIndex_8c36e_23 : decode cJ3_checkFromToIndex_8c36e 23 = .ok (.ireturn, 1) := by decide +kernel
theorem dJ9_max_7cf53_0 : decode cJ9_max_7cf53 0 = .ok (.iload_n 0, 1) := by decide +kernel
theorem dJ9_max_7cf53_1 : decode cJ9_max_7cf53 1 = .ok (.iload_n 1, 1) := by decide +kernel
theorem dJ9_max_7cf53_2 : decode cJ9_max_7cf53 2 = .ok (.if_icmp .lt 7, 3) := by decide +kernel
theorem dJ9_max_7cf53_5 : decode cJ9_max_7cf53 5 = .ok (.iload_n 0, 1) := by decide +kernel
theorem dJ9_max_7cf53_6 : decode cJ9_max_7cf53 6 = .ok (.goto 4, 3) := by decide +kernel
theorem dJ9_max_7cf53_9 : decode cJ9_max_7cf53 9 = .ok (.iload_n 1, 1) := by decide +kernel
theorem dJ9_max_7cf53_10 : decode cJ9_max_7cf53 10 = .ok (.ireturn, 1) := by decide +kernel
theorem dJ9_min_7cf53_0 : decode cJ9_min_7cf53 0 = .ok (.iload_n 0, 1) := by decide +kernel
theorem dJ9_min_7cf53_1 : decode cJ9_min_7cf53 1 = .ok (.iload_n 1, 1) := by decide +kernel
theorem dJ9_min_7cf53_2 : decode cJ9_min_7cf53 2 = .ok (.if_icmp .gt 7, 3) := by decide +kernel
theorem dJ9_min_7cf53_5 : decode cJ9_min_7cf53 5 = .ok (.iload_n 0, 1) := by decide +kernel
theorem dJ9_min_7cf53_6 : decode cJ9_min_7cf53 6 = .ok (.goto 4, 3) := by decide +kernel
theorem dJ9_min_7cf53_9 : decode cJ9_min_7cf53 9 = .ok (.iload_n 1, 1) := by decide +kernel
theorem dJ9_min_7cf53_10 : decode cJ9_min_7cf53 10 = .ok (.ireturn, 1) := by decide +kernel
theorem dL_law_0 : decode cL_law 0 = .ok (.new 7, 3) := by decide +kernel
theorem dL_law_3 : decode cL_law 3 = .ok (.dup, 1) := by decide +kernel
theorem dL_law_4 : decode cL_law 4 = .ok (.invokespecial 9, 3) := by decide +kernel
theorem dL_law_7 : decode cL_law 7 = .ok (.astore_n 1, 1) := by decide +kernel
theorem dL_law_8 : decode cL_law 8 = .ok (.new 10, 3) := by decide +kernel
theorem dL_law_11 : decode cL_law 11 = .ok (.dup, 1) := by decide +kernel
theorem dL_law_12 : decode cL_law 12 = .ok (.invokespecial 12, 3) := by decide +kernel
theorem dL_law_15 : decode cL_law 15 = .ok (.astore_n 2, 1) := by decide +kernel
theorem dL_law_16 : decode cL_law 16 = .ok (.iconst 0, 1) := by decide +kernel
theorem dL_law_17 : decode cL_law 17 = .ok (.istore_n 3, 1) := by decide +kernel
theorem dL_law_18 : decode cL_law 18 = .ok (.iload_n 3, 1) := by decide +kernel
theorem dL_law_19 : decode cL_law 19 = .ok (.aload_n 0, 1) := by decide +kernel
theorem dL_law_20 : decode cL_law 20 = .ok (.arraylength, 1) := by decide +kernel
theorem dL_law_21 : decode cL_law 21 = .ok (.bipush 6, 2) := by decide +kernel
theorem dL_law_23 : decode cL_law 23 = .ok (.isub, 1) := by decide +kernel
theorem dL_law_24 : decode cL_law 24 = .ok (.if_icmp .gt 938, 3) := by decide +kernel
theorem dL_law_27 : decode cL_law 27 = .ok (.aload_n 0, 1) := by decide +kernel
theorem dL_law_28 : decode cL_law 28 = .ok (.iload_n 3, 1) := by decide +kernel
theorem dL_law_29 : decode cL_law 29 = .ok (.iaload, 1) := by decide +kernel
theorem dL_law_30 : decode cL_law 30 = .ok (.bipush 31, 2) := by decide +kernel
theorem dL_law_32 : decode cL_law 32 = .ok (.iand, 1) := by decide +kernel
theorem dL_law_33 : decode cL_law 33 = .ok (.tableswitch 923 0 23 #[111, 154, 187, 220, 243, 296, 349, 412, 445, 458, 491, 534, 587, 630, 653, 716, 749, 772, 825, 838, 851, 864, 877, 900], 111) := by decide +kernel
theorem dL_law_144 : decode cL_law 144 = .ok (.aload_n 1, 1) := by decide +kernel
theorem dL_law_145 : decode cL_law 145 = .ok (.aload_n 0, 1) := by decide +kernel
theorem dL_law_146 : decode cL_law 146 = .ok (.iload_n 3, 1) := by decide +kernel
theorem dL_law_147 : decode cL_law 147 = .ok (.iconst 1, 1) := by decide +kernel
theorem dL_law_148 : decode cL_law 148 = .ok (.iadd, 1) := by decide +kernel
theorem dL_law_149 : decode cL_law 149 = .ok (.iaload, 1) := by decide +kernel
theorem dL_law_150 : decode cL_law 150 = .ok (.aload_n 0, 1) := by decide +kernel
theorem dL_law_151 : decode cL_law 151 = .ok (.iload_n 3, 1) := by decide +kernel
theorem dL_law_152 : decode cL_law 152 = .ok (.iconst 2, 1) := by decide +kernel
theorem dL_law_153 : decode cL_law 153 = .ok (.iadd, 1) := by decide +kernel
theorem dL_law_154 : decode cL_law 154 = .ok (.iaload, 1) := by decide +kernel
theorem dL_law_155 : decode cL_law 155 = .ok (.aload_n 0, 1) := by decide +kernel
theorem dL_law_156 : decode cL_law 156 = .ok (.iload_n 3, 1) := by decide +kernel
theorem dL_law_157 : decode cL_law 157 = .ok (.iconst 3, 1) := by decide +kernel
theorem dL_law_158 : decode cL_law 158 = .ok (.iadd, 1) := by decide +kernel
theorem dL_law_159 : decode cL_law 159 = .ok (.iaload, 1) := by decide +kernel
theorem dL_law_160 : decode cL_law 160 = .ok (.invokevirtual 13, 3) := by decide +kernel
theorem dL_law_163 : decode cL_law 163 = .ok (.aload_n 2, 1) := by decide +kernel
theorem dL_law_164 : decode cL_law 164 = .ok (.aload_n 0, 1) := by decide +kernel
theorem dL_law_165 : decode cL_law 165 = .ok (.iload_n 3, 1) := by decide +kernel
theorem dL_law_166 : decode cL_law 166 = .ok (.iconst 1, 1) := by decide +kernel
theorem dL_law_167 : decode cL_law 167 = .ok (.iadd, 1) := by decide +kernel
theorem dL_law_168 : decode cL_law 168 = .ok (.iaload, 1) := by decide +kernel
theorem dL_law_169 : decode cL_law 169 = .ok (.aload_n 0, 1) := by decide +kernel
theorem dL_law_170 : decode cL_law 170 = .ok (.iload_n 3, 1) := by decide +kernel
theorem dL_law_171 : decode cL_law 171 = .ok (.iconst 2, 1) := by decide +kernel
theorem dL_law_172 : decode cL_law 172 = .ok (.iadd, 1) := by decide +kernel
theorem dL_law_173 : decode cL_law 173 = .ok (.iaload, 1) := by decide +kernel
theorem dL_law_174 : decode cL_law 174 = .ok (.aload_n 0, 1) := by decide +kernel
theorem dL_law_175 : decode cL_law 175 = .ok (.iload_n 3, 1) := by decide +kernel
theorem dL_law_176 : decode cL_law 176 = .ok (.iconst 3, 1) := by decide +kernel
theorem dL_law_177 : decode cL_law 177 = .ok (.iadd, 1) := by decide +kernel
theorem dL_law_178 : decode cL_law 178 = .ok (.iaload, 1) := by decide +kernel
theorem dL_law_179 : decode cL_law 179 = .ok (.invokevirtual 17, 3) := by decide +kernel
theorem dL_law_182 : decode cL_law 182 = .ok (.if_icmp .eq 774, 3) := by decide +kernel
theorem dL_law_185 : decode cL_law 185 = .ok (.iconst 0, 1) := by decide +kernel
theorem dL_law_186 : decode cL_law 186 = .ok (.ireturn, 1) := by decide +kernel
theorem dL_law_187 : decode cL_law 187 = .ok (.aload_n 1, 1) := by decide +kernel
theorem dL_law_188 : decode cL_law 188 = .ok (.aload_n 0, 1) := by decide +kernel
theorem dL_law_189 : decode cL_law 189 = .ok (.iload_n 3, 1) := by decide +kernel
theorem dL_law_190 : decode cL_law 190 = .ok (.iconst 1, 1) := by decide +kernel
theorem dL_law_191 : decode cL_law 191 = .ok (.iadd, 1) := by decide +kernel
theorem dL_law_192 : decode cL_law 192 = .ok (.iaload, 1) := by decide +kernel
theorem dL_law_193 : decode cL_law 193 = .ok (.aload_n 0, 1) := by decide +kernel
theorem dL_law_194 : decode cL_law 194 = .ok (.iload_n 3, 1) := by decide +kernel
theorem dL_law_195 : decode cL_law 195 = .ok (.iconst 2, 1) := by decide +kernel
theorem dL_law_196 : decode cL_law 196 = .ok (.iadd, 1) := by decide +kernel
theorem dL_law_197 : decode cL_law 197 = .ok (.iaload, 1) := by decide +kernel
theorem dL_law_198 : decode cL_law 198 = .ok (.invokevirtual 18, 3) := by decide +kernel
theorem dL_law_201 : decode cL_law 201 = .ok (.aload_n 2, 1) := by decide +kernel
theorem dL_law_202 : decode cL_law 202 = .ok (.aload_n 0, 1) := by decide +kernel
theorem dL_law_203 : decode cL_law 203 = .ok (.iload_n 3, 1) := by decide +kernel
theorem dL_law_204 : decode cL_law 204 = .ok (.iconst 1, 1) := by decide +kernel
theorem dL_law_205 : decode cL_law 205 = .ok (.iadd, 1) := by decide +kernel
theorem dL_law_206 : decode cL_law 206 = .ok (.iaload, 1) := by decide +kernel
theorem dL_law_207 : decode cL_law 207 = .ok (.aload_n 0, 1) := by decide +kernel
theorem dL_law_208 : decode cL_law 208 = .ok (.iload_n 3, 1) := by decide +kernel
theorem dL_law_209 : decode cL_law 209 = .ok (.iconst 2, 1) := by decide +kernel
theorem dL_law_210 : decode cL_law 210 = .ok (.iadd, 1) := by decide +kernel
theorem dL_law_211 : decode cL_law 211 = .ok (.iaload, 1) := by decide +kernel
theorem dL_law_212 : decode cL_law 212 = .ok (.invokevirtual 22, 3) := by decide +kernel
theorem dL_law_215 : decode cL_law 215 = .ok (.if_icmp .eq 741, 3) := by decide +kernel
theorem dL_law_218 : decode cL_law 218 = .ok (.iconst 0, 1) := by decide +kernel
theorem dL_law_219 : decode cL_law 219 = .ok (.ireturn, 1) := by decide +kernel
theorem dL_law_220 : decode cL_law 220 = .ok (.aload_n 1, 1) := by decide +kernel
theorem dL_law_221 : decode cL_law 221 = .ok (.aload_n 0, 1) := by decide +kernel
theorem dL_law_222 : decode cL_law 222 = .ok (.iload_n 3, 1) := by decide +kernel
theorem dL_law_223 : decode cL_law 223 = .ok (.iconst 1, 1) := by decide +kernel
theorem dL_law_224 : decode cL_law 224 = .ok (.iadd, 1) := by decide +kernel
theorem dL_law_225 : decode cL_law 225 = .ok (.iaload, 1) := by decide +kernel
theorem dL_law_226 : decode cL_law 226 = .ok (.aload_n 0, 1) := by decide +kernel
theorem dL_law_227 : decode cL_law 227 = .ok (.iload_n 3, 1) := by decide +kernel
theorem dL_law_228 : decode cL_law 228 = .ok (.iconst 2, 1) := by decide +kernel
theorem dL_law_229 : decode cL_law 229 = .ok (.iadd, 1) := by decide +kernel
theorem dL_law_230 : decode cL_law 230 = .ok (.iaload, 1) := by decide +kernel
theorem dL_law_231 : decode cL_law 231 = .ok (.invokevirtual 23, 3) := by decide +kernel
theorem dL_law_234 : decode cL_law 234 = .ok (.aload_n 2, 1) := by decide +kernel
theorem dL_law_235 : decode cL_law 235 = .ok (.aload_n 0, 1) := by decide +kernel
theorem dL_law_236 : decode cL_law 236 = .ok (.iload_n 3, 1) := by decide +kernel
theorem dL_law_237 : decode cL_law 237 = .ok (.iconst 1, 1) := by decide +kernel
theorem dL_law_238 : decode cL_law 238 = .ok (.iadd, 1) := by decide +kernel
theorem dL_law_239 : decode cL_law 239 = .ok (.iaload, 1) := by decide +kernel
theorem dL_law_240 : decode cL_law 240 = .ok (.aload_n 0, 1) := by decide +kernel
theorem dL_law_241 : decode cL_law 241 = .ok (.iload_n 3, 1) := by decide +kernel
theorem dL_law_242 : decode cL_law 242 = .ok (.iconst 2, 1) := by decide +kernel
theorem dL_law_243 : decode cL_law 243 = .ok (.iadd, 1) := by decide +kernel
theorem dL_law_244 : decode cL_law 244 = .ok (.iaload, 1) := by decide +kernel
theorem dL_law_245 : decode cL_law 245 = .ok (.invokevirtual 26, 3) := by decide +kernel
theorem dL_law_248 : decode cL_law 248 = .ok (.if_icmp .eq 708, 3) := by decide +kernel
theorem dL_law_251 : decode cL_law 251 = .ok (.iconst 0, 1) := by decide +kernel
theorem dL_law_252 : decode cL_law 252 = .ok (.ireturn, 1) := by decide +kernel
theorem dL_law_253 : decode cL_law 253 = .ok (.aload_n 1, 1) := by decide +kernel
theorem dL_law_254 : decode cL_law 254 = .ok (.aload_n 0, 1) := by decide +kernel
theorem dL_law_255 : decode cL_law 255 = .ok (.iload_n 3, 1) := by decide +kernel
theorem dL_law_256 : decode cL_law 256 = .ok (.iconst 1, 1) := by decide +kernel
theorem dL_law_257 : decode cL_law 257 = .ok (.iadd, 1) := by decide +kernel
theorem dL_law_258 : decode cL_law 258 = .ok (.iaload, 1) := by decide +kernel
theorem dL_law_259 : decode cL_law 259 = .ok (.invokevirtual 27, 3) := by decide +kernel
theorem dL_law_262 : decode cL_law 262 = .ok (.aload_n 2, 1) := by decide +kernel
theorem dL_law_263 : decode cL_law 263 = .ok (.aload_n 0, 1) := by decide +kernel
theorem dL_law_264 : decode cL_law 264 = .ok (.iload_n 3, 1) := by decide +kernel
theorem dL_law_265 : decode cL_law 265 = .ok (.iconst 1, 1) := by decide +kernel
theorem dL_law_266 : decode cL_law 266 = .ok (.iadd, 1) := by decide +kernel
theorem dL_law_267 : decode cL_law 267 = .ok (.iaload, 1) := by decide +kernel
theorem dL_law_268 : decode cL_law 268 = .ok (.invokevirtual 31, 3) := by decide +kernel
theorem dL_law_271 : decode cL_law 271 = .ok (.if_icmp .eq 685, 3) := by decide +kernel
theorem dL_law_274 : decode cL_law 274 = .ok (.iconst 0, 1) := by decide +kernel
theorem dL_law_275 : decode cL_law 275 = .ok (.ireturn, 1) := by decide +kernel
theorem dL_law_276 : decode cL_law 276 = .ok (.aload_n 1, 1) := by decide +kernel
theorem dL_law_277 : decode cL_law 277 = .ok (.aload_n 0, 1) := by decide +kernel
theorem dL_law_278 : decode cL_law 278 = .ok (.iload_n 3, 1) := by decide +kernel
theorem dL_law_279 : decode cL_law 279 = .ok (.iconst 1, 1) := by decide +kernel
theorem dL_law_280 : decode cL_law 280 = .ok (.iadd, 1) := by decide +kernel
theorem dL_law_281 : decode cL_law 281 = .ok (.iaload, 1) := by decide +kernel
theorem dL_law_282 : decode cL_law 282 = .ok (.aload_n 0, 1) := by decide +kernel
theorem dL_law_283 : decode cL_law 283 = .ok (.iload_n 3, 1) := by decide +kernel
theorem dL_law_284 : decode cL_law 284 = .ok (.iconst 2, 1) := by decide +kernel
theorem dL_law_285 : decode cL_law 285 = .ok (.iadd, 1) := by decide +kernel
theorem dL_law_286 : decode cL_law 286 = .ok (.iaload, 1) := by decide +kernel
theorem dL_law_287 : decode cL_law 287 = .ok (.aload_n 0, 1) := by decide +kernel
theorem dL_law_288 : decode cL_law 288 = .ok (.iload_n 3, 1) := by decide +kernel
theorem dL_law_289 : decode cL_law 289 = .ok (.iconst 3, 1) := by decide +kernel
theorem dL_law_290 : decode cL_law 290 = .ok (.iadd, 1) := by decide +kernel
theorem dL_law_291 : decode cL_law 291 = .ok (.iaload, 1) := by decide +kernel
theorem dL_law_292 : decode cL_law 292 = .ok (.aload_n 0, 1) := by decide +kernel
theorem dL_law_293 : decode cL_law 293 = .ok (.iload_n 3, 1) := by decide +kernel
theorem dL_law_294 : decode cL_law 294 = .ok (.iconst 4, 1) := by decide +kernel
theorem dL_law_295 : decode cL_law 295 = .ok (.iadd, 1) := by decide +kernel
theorem dL_law_296 : decode cL_law 296 = .ok (.iaload, 1) := by decide +kernel
theorem dL_law_297 : decode cL_law 297 = .ok (.invokevirtual 32, 3) := by decide +kernel
theorem dL_law_300 : decode cL_law 300 = .ok (.aload_n 2, 1) := by decide +kernel
theorem dL_law_301 : decode cL_law 301 = .ok (.aload_n 0, 1) := by decide +kernel
theorem dL_law_302 : decode cL_law 302 = .ok (.iload_n 3, 1) := by decide +kernel
theorem dL_law_303 : decode cL_law 303 = .ok (.iconst 1, 1) := by decide +kernel
theorem dL_law_304 : decode cL_law 304 = .ok (.iadd, 1) := by decide +kernel
theorem dL_law_305 : decode cL_law 305 = .ok (.iaload, 1) := by decide +kernel
theorem dL_law_306 : decode cL_law 306 = .ok (.aload_n 0, 1) := by decide +kernel
theorem dL_law_307 : decode cL_law 307 = .ok (.iload_n 3, 1) := by decide +kernel
theorem dL_law_308 : decode cL_law 308 = .ok (.iconst 2, 1) := by decide +kernel
theorem dL_law_309 : decode cL_law 309 = .ok (.iadd, 1) := by decide +kernel
theorem dL_law_310 : decode cL_law 310 = .ok (.iaload, 1) := by decide +kernel
theorem dL_law_311 : decode cL_law 311 = .ok (.aload_n 0, 1) := by decide +kernel
theorem dL_law_312 : decode cL_law 312 = .ok (.iload_n 3, 1) := by decide +kernel
theorem dL_law_313 : decode cL_law 313 = .ok (.iconst 3, 1) := by decide +kernel
theorem dL_law_314 : decode cL_law 314 = .ok (.iadd, 1) := by decide +kernel
theorem dL_law_315 : decode cL_law 315 = .ok (.iaload, 1) := by decide +kernel
theorem dL_law_316 : decode cL_law 316 = .ok (.aload_n 0, 1) := by decide +kernel
theorem dL_law_317 : decode cL_law 317 = .ok (.iload_n 3, 1) := by decide +kernel
theorem dL_law_318 : decode cL_law 318 = .ok (.iconst 4, 1) := by decide +kernel
theorem dL_law_319 : decode cL_law 319 = .ok (.iadd, 1) := by decide +kernel
theorem dL_law_320 : decode cL_law 320 = .ok (.iaload, 1) := by decide +kernel
theorem dL_law_321 : decode cL_law 321 = .ok (.invokevirtual 36, 3) := by decide +kernel
theorem dL_law_324 : decode cL_law 324 = .ok (.if_icmp .eq 632, 3) := by decide +kernel
theorem dL_law_327 : decode cL_law 327 = .ok (.iconst 0, 1) := by decide +kernel
theorem dL_law_328 : decode cL_law 328 = .ok (.ireturn, 1) := by decide +kernel
theorem dL_law_329 : decode cL_law 329 = .ok (.aload_n 1, 1) := by decide +kernel
theorem dL_law_330 : decode cL_law 330 = .ok (.aload_n 0, 1) := by decide +kernel
theorem dL_law_331 : decode cL_law 331 = .ok (.iload_n 3, 1) := by decide +kernel
theorem dL_law_332 : decode cL_law 332 = .ok (.iconst 1, 1) := by decide +kernel
theorem dL_law_333 : decode cL_law 333 = .ok (.iadd, 1) := by decide +kernel
theorem dL_law_334 : decode cL_law 334 = .ok (.iaload, 1) := by decide +kernel
theorem dL_law_335 : decode cL_law 335 = .ok (.aload_n 0, 1) := by decide +kernel
theorem dL_law_336 : decode cL_law 336 = .ok (.iload_n 3, 1) := by decide +kernel
theorem dL_law_337 : decode cL_law 337 = .ok (.iconst 2, 1) := by decide +kernel
theorem dL_law_338 : decode cL_law 338 = .ok (.iadd, 1) := by decide +kernel
theorem dL_law_339 : decode cL_law 339 = .ok (.iaload, 1) := by decide +kernel
theorem dL_law_340 : decode cL_law 340 = .ok (.aload_n 0, 1) := by decide +kernel
theorem dL_law_341 : decode cL_law 341 = .ok (.iload_n 3, 1) := by decide +kernel
theorem dL_law_342 : decode cL_law 342 = .ok (.iconst 3, 1) := by decide +kernel
theorem dL_law_343 : decode cL_law 343 = .ok (.iadd, 1) := by decide +kernel
theorem dL_law_344 : decode cL_law 344 = .ok (.iaload, 1) := by decide +kernel
theorem dL_law_345 : decode cL_law 345 = .ok (.aload_n 0, 1) := by decide +kernel
theorem dL_law_346 : decode cL_law 346 = .ok (.iload_n 3, 1) := by decide +kernel
theorem dL_law_347 : decode cL_law 347 = .ok (.iconst 4, 1) := by decide +kernel
theorem dL_law_348 : decode cL_law 348 = .ok (.iadd, 1) := by decide +kernel
theorem dL_law_349 : decode cL_law 349 = .ok (.iaload, 1) := by decide +kernel
theorem dL_law_350 : decode cL_law 350 = .ok (.invokevirtual 37, 3) := by decide +kernel
theorem dL_law_353 : decode cL_law 353 = .ok (.aload_n 2, 1) := by decide +kernel
theorem dL_law_354 : decode cL_law 354 = .ok (.aload_n 0, 1) := by decide +kernel
theorem dL_law_355 : decode cL_law 355 = .ok (.iload_n 3, 1) := by decide +kernel
theorem dL_law_356 : decode cL_law 356 = .ok (.iconst 1, 1) := by decide +kernel
theorem dL_law_357 : decode cL_law 357 = .ok (.iadd, 1) := by decide +kernel
theorem dL_law_358 : decode cL_law 358 = .ok (.iaload, 1) := by decide +kernel
theorem dL_law_359 : decode cL_law 359 = .ok (.aload_n 0, 1) := by decide +kernel
theorem dL_law_360 : decode cL_law 360 = .ok (.iload_n 3, 1) := by decide +kernel
theorem dL_law_361 : decode cL_law 361 = .ok (.iconst 2, 1) := by decide +kernel
theorem dL_law_362 : decode cL_law 362 = .ok (.iadd, 1) := by decide +kernel
theorem dL_law_363 : decode cL_law 363 = .ok (.iaload, 1) := by decide +kernel
theorem dL_law_364 : decode cL_law 364 = .ok (.aload_n 0, 1) := by decide +kernel
theorem dL_law_365 : decode cL_law 365 = .ok (.iload_n 3, 1) := by decide +kernel
theorem dL_law_366 : decode cL_law 366 = .ok (.iconst 3, 1) := by decide +kernel
theorem dL_law_367 : decode cL_law 367 = .ok (.iadd, 1) := by decide +kernel
theorem dL_law_368 : decode cL_law 368 = .ok (.iaload, 1) := by decide +kernel
theorem dL_law_369 : decode cL_law 369 = .ok (.aload_n 0, 1) := by decide +kernel
theorem dL_law_370 : decode cL_law 370 = .ok (.iload_n 3, 1) := by decide +kernel
theorem dL_law_371 : decode cL_law 371 = .ok (.iconst 4, 1) := by decide +kernel
theorem dL_law_372 : decode cL_law 372 = .ok (.iadd, 1) := by decide +kernel
theorem dL_law_373 : decode cL_law 373 = .ok (.iaload, 1) := by decide +kernel
theorem dL_law_374 : decode cL_law 374 = .ok (.invokevirtual 40, 3) := by decide +kernel
theorem dL_law_377 : decode cL_law 377 = .ok (.if_icmp .eq 579, 3) := by decide +kernel
theorem dL_law_380 : decode cL_law 380 = .ok (.iconst 0, 1) := by decide +kernel
theorem dL_law_381 : decode cL_law 381 = .ok (.ireturn, 1) := by decide +kernel
theorem dL_law_382 : decode cL_law 382 = .ok (.aload_n 1, 1) := by decide +kernel
theorem dL_law_383 : decode cL_law 383 = .ok (.aload_n 0, 1) := by decide +kernel
theorem dL_law_384 : decode cL_law 384 = .ok (.iload_n 3, 1) := by decide +kernel
theorem dL_law_385 : decode cL_law 385 = .ok (.iconst 1, 1) := by decide +kernel
theorem dL_law_386 : decode cL_law 386 = .ok (.iadd, 1) := by decide +kernel
theorem dL_law_387 : decode cL_law 387 = .ok (.iaload, 1) := by decide +kernel
theorem dL_law_388 : decode cL_law 388 = .ok (.aload_n 0, 1) := by decide +kernel
theorem dL_law_389 : decode cL_law 389 = .ok (.iload_n 3, 1) := by decide +kernel
theorem dL_law_390 : decode cL_law 390 = .ok (.iconst 2, 1) := by decide +kernel
theorem dL_law_391 : decode cL_law 391 = .ok (.iadd, 1) := by decide +kernel
theorem dL_law_392 : decode cL_law 392 = .ok (.iaload, 1) := by decide +kernel
theorem dL_law_393 : decode cL_law 393 = .ok (.aload_n 0, 1) := by decide +kernel
theorem dL_law_394 : decode cL_law 394 = .ok (.iload_n 3, 1) := by decide +kernel
theorem dL_law_395 : decode cL_law 395 = .ok (.iconst 3, 1) := by decide +kernel
theorem dL_law_396 : decode cL_law 396 = .ok (.iadd, 1) := by decide +kernel
theorem dL_law_397 : decode cL_law 397 = .ok (.iaload, 1) := by decide +kernel
theorem dL_law_398 : decode cL_law 398 = .ok (.aload_n 0, 1) := by decide +kernel
theorem dL_law_399 : decode cL_law 399 = .ok (.iload_n 3, 1) := by decide +kernel
theorem dL_law_400 : decode cL_law 400 = .ok (.iconst 4, 1) := by decide +kernel
theorem dL_law_401 : decode cL_law 401 = .ok (.iadd, 1) := by decide +kernel
theorem dL_law_402 : decode cL_law 402 = .ok (.iaload, 1) := by decide +kernel
theorem dL_law_403 : decode cL_law 403 = .ok (.aload_n 0, 1) := by decide +kernel
theorem dL_law_404 : decode cL_law 404 = .ok (.iload_n 3, 1) := by decide +kernel
theorem dL_law_405 : decode cL_law 405 = .ok (.iconst 5, 1) := by decide +kernel
theorem dL_law_406 : decode cL_law 406 = .ok (.iadd, 1) := by decide +kernel
theorem dL_law_407 : decode cL_law 407 = .ok (.iaload, 1) := by decide +kernel
theorem dL_law_408 : decode cL_law 408 = .ok (.invokevirtual 41, 3) := by decide +kernel
theorem dL_law_411 : decode cL_law 411 = .ok (.aload_n 2, 1) := by decide +kernel
theorem dL_law_412 : decode cL_law 412 = .ok (.aload_n 0, 1) := by decide +kernel
theorem dL_law_413 : decode cL_law 413 = .ok (.iload_n 3, 1) := by decide +kernel
theorem dL_law_414 : decode cL_law 414 = .ok (.iconst 1, 1) := by decide +kernel
theorem dL_law_415 : decode cL_law 415 = .ok (.iadd, 1) := by decide +kernel
theorem dL_law_416 : decode cL_law 416 = .ok (.iaload, 1) := by decide +kernel
theorem dL_law_417 : decode cL_law 417 = .ok (.aload_n 0, 1) := by decide +kernel
theorem dL_law_418 : decode cL_law 418 = .ok (.iload_n 3, 1) := by decide +kernel
theorem dL_law_419 : decode cL_law 419 = .ok (.iconst 2, 1) := by decide +kernel
theorem dL_law_420 : decode cL_law 420 = .ok (.iadd, 1) := by decide +kernel
theorem dL_law_421 : decode cL_law 421 = .ok (.iaload, 1) := by decide +kernel
theorem dL_law_422 : decode cL_law 422 = .ok (.aload_n 0, 1) := by decide +kernel
theorem dL_law_423 : decode cL_law 423 = .ok (.iload_n 3, 1) := by decide +kernel
theorem dL_law_424 : decode cL_law 424 = .ok (.iconst 3, 1) := by decide +kernel
theorem dL_law_425 : decode cL_law 425 = .ok (.iadd, 1) := by decide +kernel
theorem dL_law_426 : decode cL_law 426 = .ok (.iaload, 1) := by decide +kernel
theorem dL_law_427 : decode cL_law 427 = .ok (.aload_n 0, 1) := by decide +kernel
theorem dL_law_428 : decode cL_law 428 = .ok (.iload_n 3, 1) := by decide +kernel
theorem dL_law_429 : decode cL_law 429 = .ok (.iconst 4, 1) := by decide +kernel
theorem dL_law_430 : decode cL_law 430 = .ok (.iadd, 1) := by decide +kernel
theorem dL_law_431 : decode cL_law 431 = .ok (.iaload, 1) := by decide +kernel
theorem dL_law_432 : decode cL_law 432 = .ok (.aload_n 0, 1) := by decide +kernel
theorem dL_law_433 : decode cL_law 433 = .ok (.iload_n 3, 1) := by decide +kernel
theorem dL_law_434 : decode cL_law 434 = .ok (.iconst 5, 1) := by decide +kernel
theorem dL_law_435 : decode cL_law 435 = .ok (.iadd, 1) := by decide +kernel
theorem dL_law_436 : decode cL_law 436 = .ok (.iaload, 1) := by decide +kernel
theorem dL_law_437 : decode cL_law 437 = .ok (.invokevirtual 45, 3) := by decide +kernel
theorem dL_law_440 : decode cL_law 440 = .ok (.if_icmp .eq 516, 3) := by decide +kernel
theorem dL_law_443 : decode cL_law 443 = .ok (.iconst 0, 1) := by decide +kernel
theorem dL_law_444 : decode cL_law 444 = .ok (.ireturn, 1) := by decide +kernel
theorem dL_law_445 : decode cL_law 445 = .ok (.aload_n 1, 1) := by decide +kernel
theorem dL_law_446 : decode cL_law 446 = .ok (.aload_n 0, 1) := by decide +kernel
theorem dL_law_447 : decode cL_law 447 = .ok (.iload_n 3, 1) := by decide +kernel
theorem dL_law_448 : decode cL_law 448 = .ok (.iconst 1, 1) := by decide +kernel
theorem dL_law_449 : decode cL_law 449 = .ok (.iadd, 1) := by decide +kernel
theorem dL_law_450 : decode cL_law 450 = .ok (.iaload, 1) := by decide +kernel
theorem dL_law_451 : decode cL_law 451 = .ok (.aload_n 0, 1) := by decide +kernel
theorem dL_law_452 : decode cL_law 452 = .ok (.iload_n 3, 1) := by decide +kernel
theorem dL_law_453 : decode cL_law 453 = .ok (.iconst 2, 1) := by decide +kernel
theorem dL_law_454 : decode cL_law 454 = .ok (.iadd, 1) := by decide +kernel
theorem dL_law_455 : decode cL_law 455 = .ok (.iaload, 1) := by decide +kernel
theorem dL_law_456 : decode cL_law 456 = .ok (.invokevirtual 46, 3) := by decide +kernel
theorem dL_law_459 : decode cL_law 459 = .ok (.aload_n 2, 1) := by decide +kernel
theorem dL_law_460 : decode cL_law 460 = .ok (.aload_n 0, 1) := by decide +kernel
theorem dL_law_461 : decode cL_law 461 = .ok (.iload_n 3, 1) := by decide +kernel
theorem dL_law_462 : decode cL_law 462 = .ok (.iconst 1, 1) := by decide +kernel
theorem dL_law_463 : decode cL_law 463 = .ok (.iadd, 1) := by decide +kernel
theorem dL_law_464 : decode cL_law 464 = .ok (.iaload, 1) := by decide +kernel
theorem dL_law_465 : decode cL_law 465 = .ok (.aload_n 0, 1) := by decide +kernel
theorem dL_law_466 : decode cL_law 466 = .ok (.iload_n 3, 1) := by decide +kernel
theorem dL_law_467 : decode cL_law 467 = .ok (.iconst 2, 1) := by decide +kernel
theorem dL_law_468 : decode cL_law 468 = .ok (.iadd, 1) := by decide +kernel
theorem dL_law_469 : decode cL_law 469 = .ok (.iaload, 1) := by decide +kernel
theorem dL_law_470 : decode cL_law 470 = .ok (.invokevirtual 49, 3) := by decide +kernel
theorem dL_law_473 : decode cL_law 473 = .ok (.if_icmp .eq 483, 3) := by decide +kernel
theorem dL_law_476 : decode cL_law 476 = .ok (.iconst 0, 1) := by decide +kernel
theorem dL_law_477 : decode cL_law 477 = .ok (.ireturn, 1) := by decide +kernel
theorem dL_law_478 : decode cL_law 478 = .ok (.aload_n 1, 1) := by decide +kernel
theorem dL_law_479 : decode cL_law 479 = .ok (.invokevirtual 50, 3) := by decide +kernel
theorem dL_law_482 : decode cL_law 482 = .ok (.aload_n 2, 1) := by decide +kernel
theorem dL_law_483 : decode cL_law 483 = .ok (.invokevirtual 54, 3) := by decide +kernel
theorem dL_law_486 : decode cL_law 486 = .ok (.if_icmp .eq 470, 3) := by decide +kernel
theorem dL_law_489 : decode cL_law 489 = .ok (.iconst 0, 1) := by decide +kernel
theorem dL_law_490 : decode cL_law 490 = .ok (.ireturn, 1) := by decide +kernel
theorem dL_law_491 : decode cL_law 491 = .ok (.aload_n 1, 1) := by decide +kernel
theorem dL_law_492 : decode cL_law 492 = .ok (.aload_n 0, 1) := by decide +kernel
theorem dL_law_493 : decode cL_law 493 = .ok (.iload_n 3, 1) := by decide +kernel
theorem dL_law_494 : decode cL_law 494 = .ok (.iconst 1, 1) := by decide +kernel
theorem dL_law_495 : decode cL_law 495 = .ok (.iadd, 1) := by decide +kernel
theorem dL_law_496 : decode cL_law 496 = .ok (.iaload, 1) := by decide +kernel
theorem dL_law_497 : decode cL_law 497 = .ok (.aload_n 0, 1) := by decide +kernel
theorem dL_law_498 : decode cL_law 498 = .ok (.iload_n 3, 1) := by decide +kernel
theorem dL_law_499 : decode cL_law 499 = .ok (.iconst 2, 1) := by decide +kernel
theorem dL_law_500 : decode cL_law 500 = .ok (.iadd, 1) := by decide +kernel
theorem dL_law_501 : decode cL_law 501 = .ok (.iaload, 1) := by decide +kernel
theorem dL_law_502 : decode cL_law 502 = .ok (.invokevirtual 55, 3) := by decide +kernel
theorem dL_law_505 : decode cL_law 505 = .ok (.aload_n 2, 1) := by decide +kernel
theorem dL_law_506 : decode cL_law 506 = .ok (.aload_n 0, 1) := by decide +kernel
theorem dL_law_507 : decode cL_law 507 = .ok (.iload_n 3, 1) := by decide +kernel
theorem dL_law_508 : decode cL_law 508 = .ok (.iconst 1, 1) := by decide +kernel
theorem dL_law_509 : decode cL_law 509 = .ok (.iadd, 1) := by decide +kernel
theorem dL_law_510 : decode cL_law 510 = .ok (.iaload, 1) := by decide +kernel
theorem dL_law_511 : decode cL_law 511 = .ok (.aload_n 0, 1) := by decide +kernel
theorem dL_law_512 : decode cL_law 512 = .ok (.iload_n 3, 1) := by decide +kernel
theorem dL_law_513 : decode cL_law 513 = .ok (.iconst 2, 1) := by decide +kernel
theorem dL_law_514 : decode cL_law 514 = .ok (.iadd, 1) := by decide +kernel
theorem dL_law_515 : decode cL_law 515 = .ok (.iaload, 1) := by decide +kernel
theorem dL_law_516 : decode cL_law 516 = .ok (.invokevirtual 58, 3) := by decide +kernel
theorem dL_law_519 : decode cL_law 519 = .ok (.if_icmp .eq 437, 3) := by decide +kernel
theorem dL_law_522 : decode cL_law 522 = .ok (.iconst 0, 1) := by decide +kernel
theorem dL_law_523 : decode cL_law 523 = .ok (.ireturn, 1) := by decide +kernel
theorem dL_law_524 : decode cL_law 524 = .ok (.aload_n 1, 1) := by decide +kernel
theorem dL_law_525 : decode cL_law 525 = .ok (.aload_n 0, 1) := by decide +kernel
theorem dL_law_526 : decode cL_law 526 = .ok (.iload_n 3, 1) := by decide +kernel
theorem dL_law_527 : decode cL_law 527 = .ok (.iconst 1, 1) := by decide +kernel
theorem dL_law_528 : decode cL_law 528 = .ok (.iadd, 1) := by decide +kernel
theorem dL_law_529 : decode cL_law 529 = .ok (.iaload, 1) := by decide +kernel
theorem dL_law_530 : decode cL_law 530 = .ok (.aload_n 0, 1) := by decide +kernel
theorem dL_law_531 : decode cL_law 531 = .ok (.iload_n 3, 1) := by decide +kernel
theorem dL_law_532 : decode cL_law 532 = .ok (.iconst 2, 1) := by decide +kernel
theorem dL_law_533 : decode cL_law 533 = .ok (.iadd, 1) := by decide +kernel
theorem dL_law_534 : decode cL_law 534 = .ok (.iaload, 1) := by decide +kernel
theorem dL_law_535 : decode cL_law 535 = .ok (.aload_n 0, 1) := by decide +kernel
theorem dL_law_536 : decode cL_law 536 = .ok (.iload_n 3, 1) := by decide +kernel
theorem dL_law_537 : decode cL_law 537 = .ok (.iconst 3, 1) := by decide +kernel
theorem dL_law_538 : decode cL_law 538 = .ok (.iadd, 1) := by decide +kernel
theorem dL_law_539 : decode cL_law 539 = .ok (.iaload, 1) := by decide +kernel
theorem dL_law_540 : decode cL_law 540 = .ok (.invokevirtual 59, 3) := by decide +kernel
theorem dL_law_543 : decode cL_law 543 = .ok (.aload_n 2, 1) := by decide +kernel
theorem dL_law_544 : decode cL_law 544 = .ok (.aload_n 0, 1) := by decide +kernel
theorem dL_law_545 : decode cL_law 545 = .ok (.iload_n 3, 1) := by decide +kernel
theorem dL_law_546 : decode cL_law 546 = .ok (.iconst 1, 1) := by decide +kernel
theorem dL_law_547 : decode cL_law 547 = .ok (.iadd, 1) := by decide +kernel
theorem dL_law_548 : decode cL_law 548 = .ok (.iaload, 1) := by decide +kernel
theorem dL_law_549 : decode cL_law 549 = .ok (.aload_n 0, 1) := by decide +kernel
theorem dL_law_550 : decode cL_law 550 = .ok (.iload_n 3, 1) := by decide +kernel
theorem dL_law_551 : decode cL_law 551 = .ok (.iconst 2, 1) := by decide +kernel
theorem dL_law_552 : decode cL_law 552 = .ok (.iadd, 1) := by decide +kernel
theorem dL_law_553 : decode cL_law 553 = .ok (.iaload, 1) := by decide +kernel
theorem dL_law_554 : decode cL_law 554 = .ok (.aload_n 0, 1) := by decide +kernel
theorem dL_law_555 : decode cL_law 555 = .ok (.iload_n 3, 1) := by decide +kernel
theorem dL_law_556 : decode cL_law 556 = .ok (.iconst 3, 1) := by decide +kernel
theorem dL_law_557 : decode cL_law 557 = .ok (.iadd, 1) := by decide +kernel
theorem dL_law_558 : decode cL_law 558 = .ok (.iaload, 1) := by decide +kernel
theorem dL_law_559 : decode cL_law 559 = .ok (.invokevirtual 62, 3) := by decide +kernel
theorem dL_law_562 : decode cL_law 562 = .ok (.if_icmp .eq 394, 3) := by decide +kernel
theorem dL_law_565 : decode cL_law 565 = .ok (.iconst 0, 1) := by decide +kernel
theorem dL_law_566 : decode cL_law 566 = .ok (.ireturn, 1) := by decide +kernel
theorem dL_law_567 : decode cL_law 567 = .ok (.aload_n 1, 1) := by decide +kernel
theorem dL_law_568 : decode cL_law 568 = .ok (.aload_n 0, 1) := by decide +kernel
theorem dL_law_569 : decode cL_law 569 = .ok (.iload_n 3, 1) := by decide +kernel
theorem dL_law_570 : decode cL_law 570 = .ok (.iconst 1, 1) := by decide +kernel
theorem dL_law_571 : decode cL_law 571 = .ok (.iadd, 1) := by decide +kernel
theorem dL_law_572 : decode cL_law 572 = .ok (.iaload, 1) := by decide +kernel
theorem dL_law_573 : decode cL_law 573 = .ok (.aload_n 0, 1) := by decide +kernel
theorem dL_law_574 : decode cL_law 574 = .ok (.iload_n 3, 1) := by decide +kernel
theorem dL_law_575 : decode cL_law 575 = .ok (.iconst 2, 1) := by decide +kernel
theorem dL_law_576 : decode cL_law 576 = .ok (.iadd, 1) := by decide +kernel
theorem dL_law_577 : decode cL_law 577 = .ok (.iaload, 1) := by decide +kernel
theorem dL_law_578 : decode cL_law 578 = .ok (.aload_n 0, 1) := by decide +kernel
theorem dL_law_579 : decode cL_law 579 = .ok (.iload_n 3, 1) := by decide +kernel
theorem dL_law_580 : decode cL_law 580 = .ok (.iconst 3, 1) := by decide +kernel
theorem dL_law_581 : decode cL_law 581 = .ok (.iadd, 1) := by decide +kernel
theorem dL_law_582 : decode cL_law 582 = .ok (.iaload, 1) := by decide +kernel
theorem dL_law_583 : decode cL_law 583 = .ok (.aload_n 0, 1) := by decide +kernel
theorem dL_law_584 : decode cL_law 584 = .ok (.iload_n 3, 1) := by decide +kernel
theorem dL_law_585 : decode cL_law 585 = .ok (.iconst 4, 1) := by decide +kernel
theorem dL_law_586 : decode cL_law 586 = .ok (.iadd, 1) := by decide +kernel
theorem dL_law_587 : decode cL_law 587 = .ok (.iaload, 1) := by decide +kernel
theorem dL_law_588 : decode cL_law 588 = .ok (.invokevirtual 63, 3) := by decide +kernel
theorem dL_law_591 : decode cL_law 591 = .ok (.aload_n 2, 1) := by decide +kernel
theorem dL_law_592 : decode cL_law 592 = .ok (.aload_n 0, 1) := by decide +kernel
theorem dL_law_593 : decode cL_law 593 = .ok (.iload_n 3, 1) := by decide +kernel
theorem dL_law_594 : decode cL_law 594 = .ok (.iconst 1, 1) := by decide +kernel
theorem dL_law_595 : decode cL_law 595 = .ok (.iadd, 1) := by decide +kernel
theorem dL_law_596 : decode cL_law 596 = .ok (.iaload, 1) := by decide +kernel
theorem dL_law_597 : decode cL_law 597 = .ok (.aload_n 0, 1) := by decide +kernel
theorem dL_law_598 : decode cL_law 598 = .ok (.iload_n 3, 1) := by decide +kernel
theorem dL_law_599 : decode cL_law 599 = .ok (.iconst 2, 1) := by decide +kernel
theorem dL_law_600 : decode cL_law 600 = .ok (.iadd, 1) := by decide +kernel
theorem dL_law_601 : decode cL_law 601 = .ok (.iaload, 1) := by decide +kernel
theorem dL_law_602 : decode cL_law 602 = .ok (.aload_n 0, 1) := by decide +kernel
theorem dL_law_603 : decode cL_law 603 = .ok (.iload_n 3, 1) := by decide +kernel
theorem dL_law_604 : decode cL_law 604 = .ok (.iconst 3, 1) := by decide +kernel
theorem dL_law_605 : decode cL_law 605 = .ok (.iadd, 1) := by decide +kernel
theorem dL_law_606 : decode cL_law 606 = .ok (.iaload, 1) := by decide +kernel
theorem dL_law_607 : decode cL_law 607 = .ok (.aload_n 0, 1) := by decide +kernel
theorem dL_law_608 : decode cL_law 608 = .ok (.iload_n 3, 1) := by decide +kernel
theorem dL_law_609 : decode cL_law 609 = .ok (.iconst 4, 1) := by decide +kernel
theorem dL_law_610 : decode cL_law 610 = .ok (.iadd, 1) := by decide +kernel
theorem dL_law_611 : decode cL_law 611 = .ok (.iaload, 1) := by decide +kernel
theorem dL_law_612 : decode cL_law 612 = .ok (.invokevirtual 66, 3) := by decide +kernel
theorem dL_law_615 : decode cL_law 615 = .ok (.if_icmp .eq 341, 3) := by decide +kernel
theorem dL_law_618 : decode cL_law 618 = .ok (.iconst 0, 1) := by decide +kernel
theorem dL_law_619 : decode cL_law 619 = .ok (.ireturn, 1) := by decide +kernel
theorem dL_law_620 : decode cL_law 620 = .ok (.aload_n 1, 1) := by decide +kernel
theorem dL_law_621 : decode cL_law 621 = .ok (.aload_n 0, 1) := by decide +kernel
theorem dL_law_622 : decode cL_law 622 = .ok (.iload_n 3, 1) := by decide +kernel
theorem dL_law_623 : decode cL_law 623 = .ok (.iconst 1, 1) := by decide +kernel
theorem dL_law_624 : decode cL_law 624 = .ok (.iadd, 1) := by decide +kernel
theorem dL_law_625 : decode cL_law 625 = .ok (.iaload, 1) := by decide +kernel
theorem dL_law_626 : decode cL_law 626 = .ok (.aload_n 0, 1) := by decide +kernel
theorem dL_law_627 : decode cL_law 627 = .ok (.iload_n 3, 1) := by decide +kernel
theorem dL_law_628 : decode cL_law 628 = .ok (.iconst 2, 1) := by decide +kernel
theorem dL_law_629 : decode cL_law 629 = .ok (.iadd, 1) := by decide +kernel
theorem dL_law_630 : decode cL_law 630 = .ok (.iaload, 1) := by decide +kernel
theorem dL_law_631 : decode cL_law 631 = .ok (.aload_n 0, 1) := by decide +kernel
theorem dL_law_632 : decode cL_law 632 = .ok (.iload_n 3, 1) := by decide +kernel
theorem dL_law_633 : decode cL_law 633 = .ok (.iconst 3, 1) := by decide +kernel
theorem dL_law_634 : decode cL_law 634 = .ok (.iadd, 1) := by decide +kernel
theorem dL_law_635 : decode cL_law 635 = .ok (.iaload, 1) := by decide +kernel
theorem dL_law_636 : decode cL_law 636 = .ok (.invokevirtual 67, 3) := by decide +kernel
theorem dL_law_639 : decode cL_law 639 = .ok (.aload_n 2, 1) := by decide +kernel
theorem dL_law_640 : decode cL_law 640 = .ok (.aload_n 0, 1) := by decide +kernel
theorem dL_law_641 : decode cL_law 641 = .ok (.iload_n 3, 1) := by decide +kernel
theorem dL_law_642 : decode cL_law 642 = .ok (.iconst 1, 1) := by decide +kernel
theorem dL_law_643 : decode cL_law 643 = .ok (.iadd, 1) := by decide +kernel
theorem dL_law_644 : decode cL_law 644 = .ok (.iaload, 1) := by decide +kernel
theorem dL_law_645 : decode cL_law 645 = .ok (.aload_n 0, 1) := by decide +kernel
theorem dL_law_646 : decode cL_law 646 = .ok (.iload_n 3, 1) := by decide +kernel
theorem dL_law_647 : decode cL_law 647 = .ok (.iconst 2, 1) := by decide +kernel
theorem dL_law_648 : decode cL_law 648 = .ok (.iadd, 1) := by decide +kernel
theorem dL_law_649 : decode cL_law 649 = .ok (.iaload, 1) := by decide +kernel
theorem dL_law_650 : decode cL_law 650 = .ok (.aload_n 0, 1) := by decide +kernel
theorem dL_law_651 : decode cL_law 651 = .ok (.iload_n 3, 1) := by decide +kernel
theorem dL_law_652 : decode cL_law 652 = .ok (.iconst 3, 1) := by decide +kernel
theorem dL_law_653 : decode cL_law 653 = .ok (.iadd, 1) := by decide +kernel
theorem dL_law_654 : decode cL_law 654 = .ok (.iaload, 1) := by decide +kernel
theorem dL_law_655 : decode cL_law 655 = .ok (.invokevirtual 70, 3) := by decide +kernel
theorem dL_law_658 : decode cL_law 658 = .ok (.if_icmp .eq 298, 3) := by decide +kernel
theorem dL_law_661 : decode cL_law 661 = .ok (.iconst 0, 1) := by decide +kernel
theorem dL_law_662 : decode cL_law 662 = .ok (.ireturn, 1) := by decide +kernel
theorem dL_law_663 : decode cL_law 663 = .ok (.aload_n 1, 1) := by decide +kernel
theorem dL_law_664 : decode cL_law 664 = .ok (.aload_n 0, 1) := by decide +kernel
theorem dL_law_665 : decode cL_law 665 = .ok (.iload_n 3, 1) := by decide +kernel
theorem dL_law_666 : decode cL_law 666 = .ok (.iconst 1, 1) := by decide +kernel
theorem dL_law_667 : decode cL_law 667 = .ok (.iadd, 1) := by decide +kernel
theorem dL_law_668 : decode cL_law 668 = .ok (.iaload, 1) := by decide +kernel
theorem dL_law_669 : decode cL_law 669 = .ok (.invokevirtual 71, 3) := by decide +kernel
theorem dL_law_672 : decode cL_law 672 = .ok (.aload_n 2, 1) := by decide +kernel
theorem dL_law_673 : decode cL_law 673 = .ok (.aload_n 0, 1) := by decide +kernel
theorem dL_law_674 : decode cL_law 674 = .ok (.iload_n 3, 1) := by decide +kernel
theorem dL_law_675 : decode cL_law 675 = .ok (.iconst 1, 1) := by decide +kernel
theorem dL_law_676 : decode cL_law 676 = .ok (.iadd, 1) := by decide +kernel
theorem dL_law_677 : decode cL_law 677 = .ok (.iaload, 1) := by decide +kernel
theorem dL_law_678 : decode cL_law 678 = .ok (.invokevirtual 74, 3) := by decide +kernel
theorem dL_law_681 : decode cL_law 681 = .ok (.if_icmp .eq 275, 3) := by decide +kernel
theorem dL_law_684 : decode cL_law 684 = .ok (.iconst 0, 1) := by decide +kernel
theorem dL_law_685 : decode cL_law 685 = .ok (.ireturn, 1) := by decide +kernel
theorem dL_law_686 : decode cL_law 686 = .ok (.aload_n 1, 1) := by decide +kernel
theorem dL_law_687 : decode cL_law 687 = .ok (.aload_n 0, 1) := by decide +kernel
theorem dL_law_688 : decode cL_law 688 = .ok (.iload_n 3, 1) := by decide +kernel
theorem dL_law_689 : decode cL_law 689 = .ok (.iconst 1, 1) := by decide +kernel
theorem dL_law_690 : decode cL_law 690 = .ok (.iadd, 1) := by decide +kernel
theorem dL_law_691 : decode cL_law 691 = .ok (.iaload, 1) := by decide +kernel
theorem dL_law_692 : decode cL_law 692 = .ok (.aload_n 0, 1) := by decide +kernel
theorem dL_law_693 : decode cL_law 693 = .ok (.iload_n 3, 1) := by decide +kernel
theorem dL_law_694 : decode cL_law 694 = .ok (.iconst 2, 1) := by decide +kernel
theorem dL_law_695 : decode cL_law 695 = .ok (.iadd, 1) := by decide +kernel
theorem dL_law_696 : decode cL_law 696 = .ok (.iaload, 1) := by decide +kernel
theorem dL_law_697 : decode cL_law 697 = .ok (.aload_n 0, 1) := by decide +kernel
theorem dL_law_698 : decode cL_law 698 = .ok (.iload_n 3, 1) := by decide +kernel
theorem dL_law_699 : decode cL_law 699 = .ok (.iconst 3, 1) := by decide +kernel
theorem dL_law_700 : decode cL_law 700 = .ok (.iadd, 1) := by decide +kernel
theorem dL_law_701 : decode cL_law 701 = .ok (.iaload, 1) := by decide +kernel
theorem dL_law_702 : decode cL_law 702 = .ok (.aload_n 0, 1) := by decide +kernel
theorem dL_law_703 : decode cL_law 703 = .ok (.iload_n 3, 1) := by decide +kernel
theorem dL_law_704 : decode cL_law 704 = .ok (.iconst 4, 1) := by decide +kernel
theorem dL_law_705 : decode cL_law 705 = .ok (.iadd, 1) := by decide +kernel
theorem dL_law_706 : decode cL_law 706 = .ok (.iaload, 1) := by decide +kernel
theorem dL_law_707 : decode cL_law 707 = .ok (.aload_n 0, 1) := by decide +kernel
theorem dL_law_708 : decode cL_law 708 = .ok (.iload_n 3, 1) := by decide +kernel
theorem dL_law_709 : decode cL_law 709 = .ok (.iconst 5, 1) := by decide +kernel
theorem dL_law_710 : decode cL_law 710 = .ok (.iadd, 1) := by decide +kernel
theorem dL_law_711 : decode cL_law 711 = .ok (.iaload, 1) := by decide +kernel
theorem dL_law_712 : decode cL_law 712 = .ok (.invokevirtual 75, 3) := by decide +kernel
theorem dL_law_715 : decode cL_law 715 = .ok (.aload_n 2, 1) := by decide +kernel
theorem dL_law_716 : decode cL_law 716 = .ok (.aload_n 0, 1) := by decide +kernel
theorem dL_law_717 : decode cL_law 717 = .ok (.iload_n 3, 1) := by decide +kernel
theorem dL_law_718 : decode cL_law 718 = .ok (.iconst 1, 1) := by decide +kernel
theorem dL_law_719 : decode cL_law 719 = .ok (.iadd, 1) := by decide +kernel
theorem dL_law_720 : decode cL_law 720 = .ok (.iaload, 1) := by decide +kernel
theorem dL_law_721 : decode cL_law 721 = .ok (.aload_n 0, 1) := by decide +kernel
theorem dL_law_722 : decode cL_law 722 = .ok (.iload_n 3, 1) := by decide +kernel
theorem dL_law_723 : decode cL_law 723 = .ok (.iconst 2, 1) := by decide +kernel
theorem dL_law_724 : decode cL_law 724 = .ok (.iadd, 1) := by decide +kernel
theorem dL_law_725 : decode cL_law 725 = .ok (.iaload, 1) := by decide +kernel
theorem dL_law_726 : decode cL_law 726 = .ok (.aload_n 0, 1) := by decide +kernel
theorem dL_law_727 : decode cL_law 727 = .ok (.iload_n 3, 1) := by decide +kernel
theorem dL_law_728 : decode cL_law 728 = .ok (.iconst 3, 1) := by decide +kernel
theorem dL_law_729 : decode cL_law 729 = .ok (.iadd, 1) := by decide +kernel
theorem dL_law_730 : decode cL_law 730 = .ok (.iaload, 1) := by decide +kernel
theorem dL_law_731 : decode cL_law 731 = .ok (.aload_n 0, 1) := by decide +kernel
theorem dL_law_732 : decode cL_law 732 = .ok (.iload_n 3, 1) := by decide +kernel
theorem dL_law_733 : decode cL_law 733 = .ok (.iconst 4, 1) := by decide +kernel
theorem dL_law_734 : decode cL_law 734 = .ok (.iadd, 1) := by decide +kernel
theorem dL_law_735 : decode cL_law 735 = .ok (.iaload, 1) := by decide +kernel
theorem dL_law_736 : decode cL_law 736 = .ok (.aload_n 0, 1) := by decide +kernel
theorem dL_law_737 : decode cL_law 737 = .ok (.iload_n 3, 1) := by decide +kernel
theorem dL_law_738 : decode cL_law 738 = .ok (.iconst 5, 1) := by decide +kernel
theorem dL_law_739 : decode cL_law 739 = .ok (.iadd, 1) := by decide +kernel
theorem dL_law_740 : decode cL_law 740 = .ok (.iaload, 1) := by decide +kernel
theorem dL_law_741 : decode cL_law 741 = .ok (.invokevirtual 78, 3) := by decide +kernel
theorem dL_law_744 : decode cL_law 744 = .ok (.if_icmp .eq 212, 3) := by decide +kernel
theorem dL_law_747 : decode cL_law 747 = .ok (.iconst 0, 1) := by decide +kernel
theorem dL_law_748 : decode cL_law 748 = .ok (.ireturn, 1) := by decide +kernel
theorem dL_law_749 : decode cL_law 749 = .ok (.aload_n 1, 1) := by decide +kernel
theorem dL_law_750 : decode cL_law 750 = .ok (.aload_n 0, 1) := by decide +kernel
theorem dL_law_751 : decode cL_law 751 = .ok (.iload_n 3, 1) := by decide +kernel
theorem dL_law_752 : decode cL_law 752 = .ok (.iconst 1, 1) := by decide +kernel
theorem dL_law_753 : decode cL_law 753 = .ok (.iadd, 1) := by decide +kernel
theorem dL_law_754 : decode cL_law 754 = .ok (.iaload, 1) := by decide +kernel
theorem dL_law_755 : decode cL_law 755 = .ok (.aload_n 0, 1) := by decide +kernel
theorem dL_law_756 : decode cL_law 756 = .ok (.iload_n 3, 1) := by decide +kernel
theorem dL_law_757 : decode cL_law 757 = .ok (.iconst 2, 1) := by decide +kernel
theorem dL_law_758 : decode cL_law 758 = .ok (.iadd, 1) := by decide +kernel
theorem dL_law_759 : decode cL_law 759 = .ok (.iaload, 1) := by decide +kernel
theorem dL_law_760 : decode cL_law 760 = .ok (.invokevirtual 79, 3) := by decide +kernel
theorem dL_law_763 : decode cL_law 763 = .ok (.aload_n 2, 1) := by decide +kernel
theorem dL_law_764 : decode cL_law 764 = .ok (.aload_n 0, 1) := by decide +kernel
theorem dL_law_765 : decode cL_law 765 = .ok (.iload_n 3, 1) := by decide +kernel
theorem dL_law_766 : decode cL_law 766 = .ok (.iconst 1, 1) := by decide +kernel
theorem dL_law_767 : decode cL_law 767 = .ok (.iadd, 1) := by decide +kernel
theorem dL_law_768 : decode cL_law 768 = .ok (.iaload, 1) := by decide +kernel
theorem dL_law_769 : decode cL_law 769 = .ok (.aload_n 0, 1) := by decide +kernel
theorem dL_law_770 : decode cL_law 770 = .ok (.iload_n 3, 1) := by decide +kernel
theorem dL_law_771 : decode cL_law 771 = .ok (.iconst 2, 1) := by decide +kernel
theorem dL_law_772 : decode cL_law 772 = .ok (.iadd, 1) := by decide +kernel
theorem dL_law_773 : decode cL_law 773 = .ok (.iaload, 1) := by decide +kernel
theorem dL_law_774 : decode cL_law 774 = .ok (.invokevirtual 82, 3) := by decide +kernel
theorem dL_law_777 : decode cL_law 777 = .ok (.if_icmp .eq 179, 3) := by decide +kernel
theorem dL_law_780 : decode cL_law 780 = .ok (.iconst 0, 1) := by decide +kernel
theorem dL_law_781 : decode cL_law 781 = .ok (.ireturn, 1) := by decide +kernel
theorem dL_law_782 : decode cL_law 782 = .ok (.aload_n 1, 1) := by decide +kernel
theorem dL_law_783 : decode cL_law 783 = .ok (.aload_n 0, 1) := by decide +kernel
theorem dL_law_784 : decode cL_law 784 = .ok (.iload_n 3, 1) := by decide +kernel
theorem dL_law_785 : decode cL_law 785 = .ok (.iconst 1, 1) := by decide +kernel
theorem dL_law_786 : decode cL_law 786 = .ok (.iadd, 1) := by decide +kernel
theorem dL_law_787 : decode cL_law 787 = .ok (.iaload, 1) := by decide +kernel
theorem dL_law_788 : decode cL_law 788 = .ok (.invokevirtual 83, 3) := by decide +kernel
theorem dL_law_791 : decode cL_law 791 = .ok (.aload_n 2, 1) := by decide +kernel
theorem dL_law_792 : decode cL_law 792 = .ok (.aload_n 0, 1) := by decide +kernel
theorem dL_law_793 : decode cL_law 793 = .ok (.iload_n 3, 1) := by decide +kernel
theorem dL_law_794 : decode cL_law 794 = .ok (.iconst 1, 1) := by decide +kernel
theorem dL_law_795 : decode cL_law 795 = .ok (.iadd, 1) := by decide +kernel
theorem dL_law_796 : decode cL_law 796 = .ok (.iaload, 1) := by decide +kernel
theorem dL_law_797 : decode cL_law 797 = .ok (.invokevirtual 86, 3) := by decide +kernel
theorem dL_law_800 : decode cL_law 800 = .ok (.if_icmp .eq 156, 3) := by decide +kernel
theorem dL_law_803 : decode cL_law 803 = .ok (.iconst 0, 1) := by decide +kernel
theorem dL_law_804 : decode cL_law 804 = .ok (.ireturn, 1) := by decide +kernel
theorem dL_law_805 : decode cL_law 805 = .ok (.aload_n 1, 1) := by decide +kernel
theorem dL_law_806 : decode cL_law 806 = .ok (.aload_n 0, 1) := by decide +kernel
theorem dL_law_807 : decode cL_law 807 = .ok (.iload_n 3, 1) := by decide +kernel
theorem dL_law_808 : decode cL_law 808 = .ok (.iconst 1, 1) := by decide +kernel
theorem dL_law_809 : decode cL_law 809 = .ok (.iadd, 1) := by decide +kernel
theorem dL_law_810 : decode cL_law 810 = .ok (.iaload, 1) := by decide +kernel
theorem dL_law_811 : decode cL_law 811 = .ok (.i2l, 1) := by decide +kernel
theorem dL_law_812 : decode cL_law 812 = .ok (.bipush 32, 2) := by decide +kernel
theorem dL_law_814 : decode cL_law 814 = .ok (.lshl, 1) := by decide +kernel
theorem dL_law_815 : decode cL_law 815 = .ok (.aload_n 0, 1) := by decide +kernel
theorem dL_law_816 : decode cL_law 816 = .ok (.iload_n 3, 1) := by decide +kernel
theorem dL_law_817 : decode cL_law 817 = .ok (.iconst 2, 1) := by decide +kernel
theorem dL_law_818 : decode cL_law 818 = .ok (.iadd, 1) := by decide +kernel
theorem dL_law_819 : decode cL_law 819 = .ok (.iaload, 1) := by decide +kernel
theorem dL_law_820 : decode cL_law 820 = .ok (.i2l, 1) := by decide +kernel
theorem dL_law_821 : decode cL_law 821 = .ok (.ldc2_w 87, 3) := by decide +kernel
theorem dL_law_824 : decode cL_law 824 = .ok (.land, 1) := by decide +kernel
theorem dL_law_825 : decode cL_law 825 = .ok (.lor, 1) := by decide +kernel
theorem dL_law_826 : decode cL_law 826 = .ok (.invokevirtual 89, 3) := by decide +kernel
theorem dL_law_829 : decode cL_law 829 = .ok (.aload_n 2, 1) := by decide +kernel
theorem dL_law_830 : decode cL_law 830 = .ok (.aload_n 0, 1) := by decide +kernel
theorem dL_law_831 : decode cL_law 831 = .ok (.iload_n 3, 1) := by decide +kernel
theorem dL_law_832 : decode cL_law 832 = .ok (.iconst 1, 1) := by decide +kernel
theorem dL_law_833 : decode cL_law 833 = .ok (.iadd, 1) := by decide +kernel
theorem dL_law_834 : decode cL_law 834 = .ok (.iaload, 1) := by decide +kernel
theorem dL_law_835 : decode cL_law 835 = .ok (.i2l, 1) := by decide +kernel
theorem dL_law_836 : decode cL_law 836 = .ok (.bipush 32, 2) := by decide +kernel
theorem dL_law_838 : decode cL_law 838 = .ok (.lshl, 1) := by decide +kernel
theorem dL_law_839 : decode cL_law 839 = .ok (.aload_n 0, 1) := by decide +kernel
theorem dL_law_840 : decode cL_law 840 = .ok (.iload_n 3, 1) := by decide +kernel
theorem dL_law_841 : decode cL_law 841 = .ok (.iconst 2, 1) := by decide +kernel
theorem dL_law_842 : decode cL_law 842 = .ok (.iadd, 1) := by decide +kernel
theorem dL_law_843 : decode cL_law 843 = .ok (.iaload, 1) := by decide +kernel
theorem dL_law_844 : decode cL_law 844 = .ok (.i2l, 1) := by decide +kernel
theorem dL_law_845 : decode cL_law 845 = .ok (.ldc2_w 87, 3) := by decide +kernel
theorem dL_law_848 : decode cL_law 848 = .ok (.land, 1) := by decide +kernel
theorem dL_law_849 : decode cL_law 849 = .ok (.lor, 1) := by decide +kernel
theorem dL_law_850 : decode cL_law 850 = .ok (.invokevirtual 93, 3) := by decide +kernel
theorem dL_law_853 : decode cL_law 853 = .ok (.if_icmp .eq 103, 3) := by decide +kernel
theorem dL_law_856 : decode cL_law 856 = .ok (.iconst 0, 1) := by decide +kernel
theorem dL_law_857 : decode cL_law 857 = .ok (.ireturn, 1) := by decide +kernel
theorem dL_law_858 : decode cL_law 858 = .ok (.aload_n 1, 1) := by decide +kernel
theorem dL_law_859 : decode cL_law 859 = .ok (.invokevirtual 94, 3) := by decide +kernel
theorem dL_law_862 : decode cL_law 862 = .ok (.aload_n 2, 1) := by decide +kernel
theorem dL_law_863 : decode cL_law 863 = .ok (.invokevirtual 97, 3) := by decide +kernel
theorem dL_law_866 : decode cL_law 866 = .ok (.if_icmp .eq 90, 3) := by decide +kernel
theorem dL_law_869 : decode cL_law 869 = .ok (.iconst 0, 1) := by decide +kernel
theorem dL_law_870 : decode cL_law 870 = .ok (.ireturn, 1) := by decide +kernel
theorem dL_law_871 : decode cL_law 871 = .ok (.aload_n 1, 1) := by decide +kernel
theorem dL_law_872 : decode cL_law 872 = .ok (.invokevirtual 98, 3) := by decide +kernel
theorem dL_law_875 : decode cL_law 875 = .ok (.aload_n 2, 1) := by decide +kernel
theorem dL_law_876 : decode cL_law 876 = .ok (.invokevirtual 101, 3) := by decide +kernel
theorem dL_law_879 : decode cL_law 879 = .ok (.if_icmp .eq 77, 3) := by decide +kernel
theorem dL_law_882 : decode cL_law 882 = .ok (.iconst 0, 1) := by decide +kernel
theorem dL_law_883 : decode cL_law 883 = .ok (.ireturn, 1) := by decide +kernel
theorem dL_law_884 : decode cL_law 884 = .ok (.aload_n 1, 1) := by decide +kernel
theorem dL_law_885 : decode cL_law 885 = .ok (.invokevirtual 102, 3) := by decide +kernel
theorem dL_law_888 : decode cL_law 888 = .ok (.aload_n 2, 1) := by decide +kernel
theorem dL_law_889 : decode cL_law 889 = .ok (.invokevirtual 105, 3) := by decide +kernel
theorem dL_law_892 : decode cL_law 892 = .ok (.if_icmp .eq 64, 3) := by decide +kernel
theorem dL_law_895 : decode cL_law 895 = .ok (.iconst 0, 1) := by decide +kernel
theorem dL_law_896 : decode cL_law 896 = .ok (.ireturn, 1) := by decide +kernel
theorem dL_law_897 : decode cL_law 897 = .ok (.aload_n 1, 1) := by decide +kernel
theorem dL_law_898 : decode cL_law 898 = .ok (.invokevirtual 106, 3) := by decide +kernel
theorem dL_law_901 : decode cL_law 901 = .ok (.aload_n 2, 1) := by decide +kernel
theorem dL_law_902 : decode cL_law 902 = .ok (.invokevirtual 109, 3) := by decide +kernel
theorem dL_law_905 : decode cL_law 905 = .ok (.if_icmp .eq 51, 3) := by decide +kernel
theorem dL_law_908 : decode cL_law 908 = .ok (.iconst 0, 1) := by decide +kernel
theorem dL_law_909 : decode cL_law 909 = .ok (.ireturn, 1) := by decide +kernel
theorem dL_law_910 : decode cL_law 910 = .ok (.aload_n 1, 1) := by decide +kernel
theorem dL_law_911 : decode cL_law 911 = .ok (.aload_n 0, 1) := by decide +kernel
theorem dL_law_912 : decode cL_law 912 = .ok (.iload_n 3, 1) := by decide +kernel
theorem dL_law_913 : decode cL_law 913 = .ok (.iconst 1, 1) := by decide +kernel
theorem dL_law_914 : decode cL_law 914 = .ok (.iadd, 1) := by decide +kernel
theorem dL_law_915 : decode cL_law 915 = .ok (.iaload, 1) := by decide +kernel
theorem dL_law_916 : decode cL_law 916 = .ok (.invokevirtual 110, 3) := by decide +kernel
theorem dL_law_919 : decode cL_law 919 = .ok (.aload_n 2, 1) := by decide +kernel
theorem dL_law_920 : decode cL_law 920 = .ok (.aload_n 0, 1) := by decide +kernel
theorem dL_law_921 : decode cL_law 921 = .ok (.iload_n 3, 1) := by decide +kernel
theorem dL_law_922 : decode cL_law 922 = .ok (.iconst 1, 1) := by decide +kernel
theorem dL_law_923 : decode cL_law 923 = .ok (.iadd, 1) := by decide +kernel
theorem dL_law_924 : decode cL_law 924 = .ok (.iaload, 1) := by decide +kernel
theorem dL_law_925 : decode cL_law 925 = .ok (.invokevirtual 113, 3) := by decide +kernel
theorem dL_law_928 : decode cL_law 928 = .ok (.if_icmp .eq 28, 3) := by decide +kernel
theorem dL_law_931 : decode cL_law 931 = .ok (.iconst 0, 1) := by decide +kernel
theorem dL_law_932 : decode cL_law 932 = .ok (.ireturn, 1) := by decide +kernel
theorem dL_law_933 : decode cL_law 933 = .ok (.aload_n 1, 1) := by decide +kernel
theorem dL_law_934 : decode cL_law 934 = .ok (.aload_n 0, 1) := by decide +kernel
theorem dL_law_935 : decode cL_law 935 = .ok (.iload_n 3, 1) := by decide +kernel
theorem dL_law_936 : decode cL_law 936 = .ok (.iconst 1, 1) := by decide +kernel
theorem dL_law_937 : decode cL_law 937 = .ok (.iadd, 1) := by decide +kernel
theorem dL_law_938 : decode cL_law 938 = .ok (.iaload, 1) := by decide +kernel
theorem dL_law_939 : decode cL_law 939 = .ok (.invokevirtual 114, 3) := by decide +kernel
theorem dL_law_942 : decode cL_law 942 = .ok (.aload_n 2, 1) := by decide +kernel
theorem dL_law_943 : decode cL_law 943 = .ok (.aload_n 0, 1) := by decide +kernel
theorem dL_law_944 : decode cL_law 944 = .ok (.iload_n 3, 1) := by decide +kernel
theorem dL_law_945 : decode cL_law 945 = .ok (.iconst 1, 1) := by decide +kernel
theorem dL_law_946 : decode cL_law 946 = .ok (.iadd, 1) := by decide +kernel
theorem dL_law_947 : decode cL_law 947 = .ok (.iaload, 1) := by decide +kernel
theorem dL_law_948 : decode cL_law 948 = .ok (.invokevirtual 117, 3) := by decide +kernel
theorem dL_law_951 : decode cL_law 951 = .ok (.if_icmp .eq 5, 3) := by decide +kernel
theorem dL_law_954 : decode cL_law 954 = .ok (.iconst 0, 1) := by decide +kernel
theorem dL_law_955 : decode cL_law 955 = .ok (.ireturn, 1) := by decide +kernel
theorem dL_law_956 : decode cL_law 956 = .ok (.iinc 3 6, 3) := by decide +kernel
theorem dL_law_959 : decode cL_law 959 = .ok (.goto (-941), 3) := by decide +kernel
theorem dL_law_962 : decode cL_law 962 = .ok (.iconst 1, 1) := by decide +kernel
theorem dL_law_963 : decode cL_law 963 = .ok (.ireturn, 1) := by decide +kernel
theorem dX9_init_0 : decode cX9_init 0 = .ok (.aload_n 0, 1) := by decide +kernel
theorem dX9_init_1 : decode cX9_init 1 = .ok (.invokespecial 1, 3) := by decide +kernel
theorem dX9_init_4 : decode cX9_init 4 = .ok (.aload_n 0, 1) := by decide +kernel
theorem dX9_init_5 : decode cX9_init 5 = .ok (.sipush 489, 3) := by decide +kernel
theorem dX9_init_8 : decode cX9_init 8 = .ok (.newarray .int, 2) := by decide +kernel
theorem dX9_init_10 : decode cX9_init 10 = .ok (.putfield 7, 3) := by decide +kernel
theorem dX9_init_13 : decode cX9_init 13 = .ok (.aload_n 0, 1) := by decide +kernel
theorem dX9_init_14 : decode cX9_init 14 = .ok (.sipush 2934, 3) := by decide +kernel
theorem dX9_init_17 : decode cX9_init 17 = .ok (.newarray .int, 2) := by decide +kernel
theorem dX9_init_19 : decode cX9_init 19 = .ok (.putfield 13, 3) := by decide +kernel
theorem dX9_init_22 : decode cX9_init 22 = .ok (.aload_n 0, 1) := by decide +kernel
theorem dX9_init_23 : decode cX9_init 23 = .ok (.sipush 978, 3) := by decide +kernel
theorem dX9_init_26 : decode cX9_init 26 = .ok (.newarray .int, 2) := by decide +kernel
theorem dX9_init_28 : decode cX9_init 28 = .ok (.putfield 16, 3) := by decide +kernel
theorem dX9_init_31 : decode cX9_init 31 = .ok (.aload_n 0, 1) := by decide +kernel
theorem dX9_init_32 : decode cX9_init 32 = .ok (.iconst 2, 1) := by decide +kernel
theorem dX9_init_33 : decode cX9_init 33 = .ok (.newarray .int, 2) := by decide +kernel
theorem dX9_init_35 : decode cX9_init 35 = .ok (.putfield 19, 3) := by decide +kernel
theorem dX9_init_38 : decode cX9_init 38 = .ok (.aload_n 0, 1) := by decide +kernel
theorem dX9_init_39 : decode cX9_init 39 = .ok (.bipush 80, 2) := by decide +kernel
theorem dX9_init_41 : decode cX9_init 41 = .ok (.newarray .int, 2) := by decide +kernel
theorem dX9_init_43 : decode cX9_init 43 = .ok (.putfield 22, 3) := by decide +kernel
theorem dX9_init_46 : decode cX9_init 46 = .ok (.aload_n 0, 1) := by decide +kernel
theorem dX9_init_47 : decode cX9_init 47 = .ok (.sipush 300, 3) := by decide +kernel
theorem dX9_init_50 : decode cX9_init 50 = .ok (.newarray .int, 2) := by decide +kernel
theorem dX9_init_52 : decode cX9_init 52 = .ok (.putfield 25, 3) := by decide +kernel
theorem dX9_init_55 : decode cX9_init 55 = .ok (.aload_n 0, 1) := by decide +kernel
theorem dX9_init_56 : decode cX9_init 56 = .ok (.sipush 1800, 3) := by decide +kernel
theorem dX9_init_59 : decode cX9_init 59 = .ok (.newarray .int, 2) := by decide +kernel
theorem dX9_init_61 : decode cX9_init 61 = .ok (.putfield 28, 3) := by decide +kernel
theorem dX9_init_64 : decode cX9_init 64 = .ok (.aload_n 0, 1) := by decide +kernel
theorem dX9_init_65 : decode cX9_init 65 = .ok (.bipush 6, 2) := by decide +kernel
theorem dX9_init_67 : decode cX9_init 67 = .ok (.newarray .int, 2) := by decide +kernel
theorem dX9_init_69 : decode cX9_init 69 = .ok (.putfield 31, 3) := by decide +kernel
theorem dX9_init_72 : decode cX9_init 72 = .ok (.aload_n 0, 1) := by decide +kernel
theorem dX9_init_73 : decode cX9_init 73 = .ok (.getfield 7, 3) := by decide +kernel
theorem dX9_init_76 : decode cX9_init 76 = .ok (.iconst 1, 1) := by decide +kernel
theorem dX9_init_77 : decode cX9_init 77 = .ok (.bipush 7, 2) := by decide +kernel
theorem dX9_init_79 : decode cX9_init 79 = .ok (.iastore, 1) := by decide +kernel
theorem dX9_init_80 : decode cX9_init 80 = .ok (.return_, 1) := by decide +kernel
theorem dX9_copy_0 : decode cX9_copy 0 = .ok (.iconst 0, 1) := by decide +kernel
theorem dX9_copy_1 : decode cX9_copy 1 = .ok (.istore 4, 2) := by decide +kernel
theorem dX9_copy_3 : decode cX9_copy 3 = .ok (.iload 4, 2) := by decide +kernel
theorem dX9_copy_5 : decode cX9_copy 5 = .ok (.sipush 489, 3) := by decide +kernel
theorem dX9_copy_8 : decode cX9_copy 8 = .ok (.if_icmp .ge 21, 3) := by decide +kernel
theorem dX9_copy_11 : decode cX9_copy 11 = .ok (.aload_n 2, 1) := by decide +kernel
theorem dX9_copy_12 : decode cX9_copy 12 = .ok (.iload_n 3, 1) := by decide +kernel
theorem dX9_copy_13 : decode cX9_copy 13 = .ok (.iload 4, 2) := by decide +kernel
theorem dX9_copy_15 : decode cX9_copy 15 = .ok (.iadd, 1) := by decide +kernel
theorem dX9_copy_16 : decode cX9_copy 16 = .ok (.aload_n 0, 1) := by decide +kernel
theorem dX9_copy_17 : decode cX9_copy 17 = .ok (.iload_n 1, 1) := by decide +kernel
theorem dX9_copy_18 : decode cX9_copy 18 = .ok (.iload 4, 2) := by decide +kernel
theorem dX9_copy_20 : decode cX9_copy 20 = .ok (.iadd, 1) := by decide +kernel
theorem dX9_copy_21 : decode cX9_copy 21 = .ok (.iaload, 1) := by decide +kernel
theorem dX9_copy_22 : decode cX9_copy 22 = .ok (.iastore, 1) := by decide +kernel
theorem dX9_copy_23 : decode cX9_copy 23 = .ok (.iinc 4 1, 3) := by decide +kernel
theorem dX9_copy_26 : decode cX9_copy 26 = .ok (.goto (-23), 3) := by decide +kernel
theorem dX9_copy_29 : decode cX9_copy 29 = .ok (.return_, 1) := by decide +kernel
theorem dX9_within_0 : decode cX9_within 0 = .ok (.iload_n 0, 1) := by decide +kernel
theorem dX9_within_1 : decode cX9_within 1 = .ok (.iload_n 1, 1) := by decide +kernel
theorem dX9_within_2 : decode cX9_within 2 = .ok (.if_icmp .lt 12, 3) := by decide +kernel
theorem dX9_within_5 : decode cX9_within 5 = .ok (.iload_n 0, 1) := by decide +kernel
theorem dX9_within_6 : decode cX9_within 6 = .ok (.iload_n 2, 1) := by decide +kernel
theorem dX9_within_7 : decode cX9_within 7 = .ok (.if_icmp .gt 7, 3) := by decide +kernel
theorem dX9_within_10 : decode cX9_within 10 = .ok (.iconst 1, 1) := by decide +kernel
theorem dX9_within_11 : decode cX9_within 11 = .ok (.goto 4, 3) := by decide +kernel
theorem dX9_within_14 : decode cX9_within 14 = .ok (.iconst 0, 1) := by decide +kernel
theorem dX9_within_15 : decode cX9_within 15 = .ok (.ireturn, 1) := by decide +kernel
theorem dX9_record_0 : decode cX9_record 0 = .ok (.aload_n 0, 1) := by decide +kernel
theorem dX9_record_1 : decode cX9_record 1 = .ok (.getfield 34, 3) := by decide +kernel
theorem dX9_record_4 : decode cX9_record 4 = .ok (.bipush 6, 2) := by decide +kernel
theorem dX9_record_6 : decode cX9_record 6 = .ok (.if_icmp .ne 44, 3) := by decide +kernel
theorem dX9_record_9 : decode cX9_record 9 = .ok (.iconst 0, 1) := by decide +kernel
theorem dX9_record_10 : decode cX9_record 10 = .ok (.istore_n 1, 1) := by decide +kernel
theorem dX9_record_11 : decode cX9_record 11 = .ok (.iload_n 1, 1) := by decide +kernel
theorem dX9_record_12 : decode cX9_record 12 = .ok (.sipush 2445, 3) := by decide +kernel
theorem dX9_record_15 : decode cX9_record 15 = .ok (.if_icmp .ge 25, 3) := by decide +kernel
theorem dX9_record_18 : decode cX9_record 18 = .ok (.aload_n 0, 1) := by decide +kernel
theorem dX9_record_19 : decode cX9_record 19 = .ok (.getfield 13, 3) := by decide +kernel
theorem dX9_record_22 : decode cX9_record 22 = .ok (.iload_n 1, 1) := by decide +kernel
theorem dX9_record_23 : decode cX9_record 23 = .ok (.aload_n 0, 1) := by decide +kernel
theorem dX9_record_24 : decode cX9_record 24 = .ok (.getfield 13, 3) := by decide +kernel
theorem dX9_record_27 : decode cX9_record 27 = .ok (.iload_n 1, 1) := by decide +kernel
theorem dX9_record_28 : decode cX9_record 28 = .ok (.sipush 489, 3) := by decide +kernel
theorem dX9_record_31 : decode cX9_record 31 = .ok (.iadd, 1) := by decide +kernel
theorem dX9_record_32 : decode cX9_record 32 = .ok (.iaload, 1) := by decide +kernel
theorem dX9_record_33 : decode cX9_record 33 = .ok (.iastore, 1) := by decide +kernel
theorem dX9_record_34 : decode cX9_record 34 = .ok (.iinc 1 1, 3) := by decide +kernel
theorem dX9_record_37 : decode cX9_record 37 = .ok (.goto (-26), 3) := by decide +kernel
theorem dX9_record_40 : decode cX9_record 40 = .ok (.aload_n 0, 1) := by decide +kernel
theorem dX9_record_41 : decode cX9_record 41 = .ok (.dup, 1) := by decide +kernel
theorem dX9_record_42 : decode cX9_record 42 = .ok (.getfield 34, 3) := by decide +kernel
theorem dX9_record_45 : decode cX9_record 45 = .ok (.iconst 1, 1) := by decide +kernel
theorem dX9_record_46 : decode cX9_record 46 = .ok (.isub, 1) := by decide +kernel
theorem dX9_record_47 : decode cX9_record 47 = .ok (.putfield 34, 3) := by decide +kernel
theorem dX9_record_50 : decode cX9_record 50 = .ok (.aload_n 0, 1) := by decide +kernel
theorem dX9_record_51 : decode cX9_record 51 = .ok (.getfield 7, 3) := by decide +kernel
theorem dX9_record_54 : decode cX9_record 54 = .ok (.iconst 0, 1) := by decide +kernel
theorem dX9_record_55 : decode cX9_record 55 = .ok (.aload_n 0, 1) := by decide +kernel
theorem dX9_record_56 : decode cX9_record 56 = .ok (.getfield 13, 3) := by decide +kernel
theorem dX9_record_59 : decode cX9_record 59 = .ok (.aload_n 0, 1) := by decide +kernel
theorem dX9_record_60 : decode cX9_record 60 = .ok (.getfield 34, 3) := by decide +kernel
theorem dX9_record_63 : decode cX9_record 63 = .ok (.sipush 489, 3) := by decide +kernel
theorem dX9_record_66 : decode cX9_record 66 = .ok (.imul, 1) := by decide +kernel
theorem dX9_record_67 : decode cX9_record 67 = .ok (.invokestatic 38, 3) := by decide +kernel
theorem dX9_record_70 : decode cX9_record 70 = .ok (.aload_n 0, 1) := by decide +kernel
theorem dX9_record_71 : decode cX9_record 71 = .ok (.dup, 1) := by decide +kernel
theorem dX9_record_72 : decode cX9_record 72 = .ok (.getfield 34, 3) := by decide +kernel
theorem dX9_record_75 : decode cX9_record 75 = .ok (.iconst 1, 1) := by decide +kernel
theorem dX9_record_76 : decode cX9_record 76 = .ok (.iadd, 1) := by decide +kernel
theorem dX9_record_77 : decode cX9_record 77 = .ok (.putfield 34, 3) := by decide +kernel
theorem dX9_record_80 : decode cX9_record 80 = .ok (.return_, 1) := by decide +kernel
theorem dX9_isRow_0 : decode cX9_isRow 0 = .ok (.iload_n 1, 1) := by decide +kernel
theorem dX9_isRow_1 : decode cX9_isRow 1 = .ok (.iconst 0, 1) := by decide +kernel
theorem dX9_isRow_2 : decode cX9_isRow 2 = .ok (.aload_n 0, 1) := by decide +kernel
theorem dX9_isRow_3 : decode cX9_isRow 3 = .ok (.getfield 7, 3) := by decide +kernel
theorem dX9_isRow_6 : decode cX9_isRow 6 = .ok (.iconst 0, 1) := by decide +kernel
theorem dX9_isRow_7 : decode cX9_isRow 7 = .ok (.iaload, 1) := by decide +kernel
theorem dX9_isRow_8 : decode cX9_isRow 8 = .ok (.iconst 1, 1) := by decide +kernel
theorem dX9_isRow_9 : decode cX9_isRow 9 = .ok (.isub, 1) := by decide +kernel
theorem dX9_isRow_10 : decode cX9_isRow 10 = .ok (.invokestatic 42, 3) := by decide +kernel
theorem dX9_isRow_13 : decode cX9_isRow 13 = .ok (.ireturn, 1) := by decide +kernel
theorem dX9_isHour_0 : decode cX9_isHour 0 = .ok (.iload_n 0, 1) := by decide +kernel
theorem dX9_isHour_1 : decode cX9_isHour 1 = .ok (.iconst 0, 1) := by decide +kernel
theorem dX9_isHour_2 : decode cX9_isHour 2 = .ok (.bipush 9, 2) := by decide +kernel
theorem dX9_isHour_4 : decode cX9_isHour 4 = .ok (.invokestatic 42, 3) := by decide +kernel
theorem dX9_isHour_7 : decode cX9_isHour 7 = .ok (.ireturn, 1) := by decide +kernel
theorem dX9_part_0 : decode cX9_part 0 = .ok (.aload_n 0, 1) := by decide +kernel
theorem dX9_part_1 : decode cX9_part 1 = .ok (.getfield 7, 3) := by decide +kernel
theorem dX9_part_4 : decode cX9_part 4 = .ok (.bipush 15, 2) := by decide +kernel
theorem dX9_part_6 : decode cX9_part 6 = .ok (.iconst 4, 1) := by decide +kernel
theorem dX9_part_7 : decode cX9_part 7 = .ok (.iload_n 1, 1) := by decide +kernel
theorem dX9_part_8 : decode cX9_part 8 = .ok (.imul, 1) := by decide +kernel
theorem dX9_part_9 : decode cX9_part 9 = .ok (.iadd, 1) := by decide +kernel
theorem dX9_part_10 : decode cX9_part 10 = .ok (.iload_n 2, 1) := by decide +kernel
theorem dX9_part_11 : decode cX9_part 11 = .ok (.iadd, 1) := by decide +kernel
theorem dX9_part_12 : decode cX9_part 12 = .ok (.iaload, 1) := by decide +kernel
theorem dX9_part_13 : decode cX9_part 13 = .ok (.ireturn, 1) := by decide +kernel
theorem dX9_rightOf_0 : decode cX9_rightOf 0 = .ok (.aload_n 0, 1) := by decide +kernel
theorem dX9_rightOf_1 : decode cX9_rightOf 1 = .ok (.getfield 7, 3) := by decide +kernel
theorem dX9_rightOf_4 : decode cX9_rightOf 4 = .ok (.bipush 39, 2) := by decide +kernel
theorem dX9_rightOf_6 : decode cX9_rightOf 6 = .ok (.bipush 10, 2) := by decide +kernel
theorem dX9_rightOf_8 : decode cX9_rightOf 8 = .ok (.bipush 6, 2) := by decide +kernel
theorem dX9_rightOf_10 : decode cX9_rightOf 10 = .ok (.iload_n 1, 1) := by decide +kernel
theorem dX9_rightOf_11 : decode cX9_rightOf 11 = .ok (.imul, 1) := by decide +kernel
theorem dX9_rightOf_12 : decode cX9_rightOf 12 = .ok (.iload_n 2, 1) := by decide +kernel
theorem dX9_rightOf_13 : decode cX9_rightOf 13 = .ok (.iadd, 1) := by decide +kernel
theorem dX9_rightOf_14 : decode cX9_rightOf 14 = .ok (.imul, 1) := by decide +kernel
theorem dX9_rightOf_15 : decode cX9_rightOf 15 = .ok (.iadd, 1) := by decide +kernel
theorem dX9_rightOf_16 : decode cX9_rightOf 16 = .ok (.iload_n 3, 1) := by decide +kernel
theorem dX9_rightOf_17 : decode cX9_rightOf 17 = .ok (.iadd, 1) := by decide +kernel
theorem dX9_rightOf_18 : decode cX9_rightOf 18 = .ok (.iaload, 1) := by decide +kernel
theorem dX9_rightOf_19 : decode cX9_rightOf 19 = .ok (.ireturn, 1) := by decide +kernel
theorem dX9_setRight_0 : decode cX9_setRight 0 = .ok (.aload_n 0, 1) := by decide +kernel
theorem dX9_setRight_1 : decode cX9_setRight 1 = .ok (.getfield 7, 3) := by decide +kernel
theorem dX9_setRight_4 : decode cX9_setRight 4 = .ok (.bipush 39, 2) := by decide +kernel
theorem dX9_setRight_6 : decode cX9_setRight 6 = .ok (.bipush 10, 2) := by decide +kernel
theorem dX9_setRight_8 : decode cX9_setRight 8 = .ok (.bipush 6, 2) := by decide +kernel
theorem dX9_setRight_10 : decode cX9_setRight 10 = .ok (.iload_n 1, 1) := by decide +kernel
theorem dX9_setRight_11 : decode cX9_setRight 11 = .ok (.imul, 1) := by decide +kernel
theorem dX9_setRight_12 : decode cX9_setRight 12 = .ok (.iload_n 2, 1) := by decide +kernel
theorem dX9_setRight_13 : decode cX9_setRight 13 = .ok (.iadd, 1) := by decide +kernel
theorem dX9_setRight_14 : decode cX9_setRight 14 = .ok (.imul, 1) := by decide +kernel
theorem dX9_setRight_15 : decode cX9_setRight 15 = .ok (.iadd, 1) := by decide +kernel
theorem dX9_setRight_16 : decode cX9_setRight 16 = .ok (.iload_n 3, 1) := by decide +kernel
theorem dX9_setRight_17 : decode cX9_setRight 17 = .ok (.iadd, 1) := by decide +kernel
theorem dX9_setRight_18 : decode cX9_setRight 18 = .ok (.iload 4, 2) := by decide +kernel
theorem dX9_setRight_20 : decode cX9_setRight 20 = .ok (.iastore, 1) := by decide +kernel
theorem dX9_setRight_21 : decode cX9_setRight 21 = .ok (.return_, 1) := by decide +kernel
theorem dX9_slopeOf_0 : decode cX9_slopeOf 0 = .ok (.iload_n 0, 1) := by decide +kernel
theorem dX9_slopeOf_1 : decode cX9_slopeOf 1 = .ok (.iconst 5, 1) := by decide +kernel
theorem dX9_slopeOf_2 : decode cX9_slopeOf 2 = .ok (.if_icmp .ge 7, 3) := by decide +kernel
theorem dX9_slopeOf_5 : decode cX9_slopeOf 5 = .ok (.iload_n 0, 1) := by decide +kernel
theorem dX9_slopeOf_6 : decode cX9_slopeOf 6 = .ok (.goto 7, 3) := by decide +kernel
theorem dX9_slopeOf_9 : decode cX9_slopeOf 9 = .ok (.bipush 9, 2) := by decide +kernel
theorem dX9_slopeOf_11 : decode cX9_slopeOf 11 = .ok (.iload_n 0, 1) := by decide +kernel
theorem dX9_slopeOf_12 : decode cX9_slopeOf 12 = .ok (.isub, 1) := by decide +kernel
theorem dX9_slopeOf_13 : decode cX9_slopeOf 13 = .ok (.istore_n 1, 1) := by decide +kernel
theorem dX9_slopeOf_14 : decode cX9_slopeOf 14 = .ok (.iload_n 1, 1) := by decide +kernel
theorem dX9_slopeOf_15 : decode cX9_slopeOf 15 = .ok (.ifCond .ne 8, 3) := by decide +kernel
theorem dX9_slopeOf_18 : decode cX9_slopeOf 18 = .ok (.bipush 6, 2) := by decide +kernel
theorem dX9_slopeOf_20 : decode cX9_slopeOf 20 = .ok (.goto 6, 3) := by decide +kernel
theorem dX9_slopeOf_23 : decode cX9_slopeOf 23 = .ok (.iconst 5, 1) := by decide +kernel
theorem dX9_slopeOf_24 : decode cX9_slopeOf 24 = .ok (.iload_n 1, 1) := by decide +kernel
theorem dX9_slopeOf_25 : decode cX9_slopeOf 25 = .ok (.isub, 1) := by decide +kernel
theorem dX9_slopeOf_26 : decode cX9_slopeOf 26 = .ok (.ireturn, 1) := by decide +kernel
theorem dX9_sunOf_0 : decode cX9_sunOf 0 = .ok (.iload_n 0, 1) := by decide +kernel
theorem dX9_sunOf_1 : decode cX9_sunOf 1 = .ok (.iconst 5, 1) := by decide +kernel
theorem dX9_sunOf_2 : decode cX9_sunOf 2 = .ok (.if_icmp .ge 9, 3) := by decide +kernel
theorem dX9_sunOf_5 : decode cX9_sunOf 5 = .ok (.iload_n 0, 1) := by decide +kernel
theorem dX9_sunOf_6 : decode cX9_sunOf 6 = .ok (.iconst 1, 1) := by decide +kernel
theorem dX9_sunOf_7 : decode cX9_sunOf 7 = .ok (.iadd, 1) := by decide +kernel
theorem dX9_sunOf_8 : decode cX9_sunOf 8 = .ok (.goto 7, 3) := by decide +kernel
theorem dX9_sunOf_11 : decode cX9_sunOf 11 = .ok (.bipush 10, 2) := by decide +kernel
theorem dX9_sunOf_13 : decode cX9_sunOf 13 = .ok (.iload_n 0, 1) := by decide +kernel
theorem dX9_sunOf_14 : decode cX9_sunOf 14 = .ok (.isub, 1) := by decide +kernel
theorem dX9_sunOf_15 : decode cX9_sunOf 15 = .ok (.ireturn, 1) := by decide +kernel
theorem dX9_shadow_0 : decode cX9_shadow 0 = .ok (.iload 4, 2) := by decide +kernel
theorem dX9_shadow_2 : decode cX9_shadow 2 = .ok (.iconst 5, 1) := by decide +kernel
theorem dX9_shadow_3 : decode cX9_shadow 3 = .ok (.if_icmp .ge 19, 3) := by decide +kernel
theorem dX9_shadow_6 : decode cX9_shadow 6 = .ok (.aload_n 0, 1) := by decide +kernel
theorem dX9_shadow_7 : decode cX9_shadow 7 = .ok (.iload_n 3, 1) := by decide +kernel
theorem dX9_shadow_8 : decode cX9_shadow 8 = .ok (.iconst 0, 1) := by decide +kernel
theorem dX9_shadow_9 : decode cX9_shadow 9 = .ok (.invokevirtual 46, 3) := by decide +kernel
theorem dX9_shadow_12 : decode cX9_shadow 12 = .ok (.aload_n 0, 1) := by decide +kernel
theorem dX9_shadow_13 : decode cX9_shadow 13 = .ok (.iload_n 1, 1) := by decide +kernel
theorem dX9_shadow_14 : decode cX9_shadow 14 = .ok (.iconst 0, 1) := by decide +kernel
theorem dX9_shadow_15 : decode cX9_shadow 15 = .ok (.invokevirtual 46, 3) := by decide +kernel
theorem dX9_shadow_18 : decode cX9_shadow 18 = .ok (.isub, 1) := by decide +kernel
theorem dX9_shadow_19 : decode cX9_shadow 19 = .ok (.goto 16, 3) := by decide +kernel
theorem dX9_shadow_22 : decode cX9_shadow 22 = .ok (.aload_n 0, 1) := by decide +kernel
theorem dX9_shadow_23 : decode cX9_shadow 23 = .ok (.iload_n 1, 1) := by decide +kernel
theorem dX9_shadow_24 : decode cX9_shadow 24 = .ok (.iconst 0, 1) := by decide +kernel
theorem dX9_shadow_25 : decode cX9_shadow 25 = .ok (.invokevirtual 46, 3) := by decide +kernel
theorem dX9_shadow_28 : decode cX9_shadow 28 = .ok (.aload_n 0, 1) := by decide +kernel
theorem dX9_shadow_29 : decode cX9_shadow 29 = .ok (.iload_n 3, 1) := by decide +kernel
theorem dX9_shadow_30 : decode cX9_shadow 30 = .ok (.iconst 0, 1) := by decide +kernel
theorem dX9_shadow_31 : decode cX9_shadow 31 = .ok (.invokevirtual 46, 3) := by decide +kernel
theorem dX9_shadow_34 : decode cX9_shadow 34 = .ok (.isub, 1) := by decide +kernel
theorem dX9_shadow_35 : decode cX9_shadow 35 = .ok (.istore 5, 2) := by decide +kernel
theorem dX9_shadow_37 : decode cX9_shadow 37 = .ok (.iload 5, 2) := by decide +kernel
theorem dX9_shadow_39 : decode cX9_shadow 39 = .ok (.ifCond .gt 5, 3) := by decide +kernel
theorem dX9_shadow_42 : decode cX9_shadow 42 = .ok (.iconst 0, 1) := by decide +kernel
theorem dX9_shadow_43 : decode cX9_shadow 43 = .ok (.ireturn, 1) := by decide +kernel
theorem dX9_shadow_44 : decode cX9_shadow 44 = .ok (.iload 4, 2) := by decide +kernel
theorem dX9_shadow_46 : decode cX9_shadow 46 = .ok (.invokestatic 50, 3) := by decide +kernel
theorem dX9_shadow_49 : decode cX9_shadow 49 = .ok (.istore 6, 2) := by decide +kernel
theorem dX9_shadow_51 : decode cX9_shadow 51 = .ok (.aload_n 0, 1) := by decide +kernel
theorem dX9_shadow_52 : decode cX9_shadow 52 = .ok (.iload_n 1, 1) := by decide +kernel
theorem dX9_shadow_53 : decode cX9_shadow 53 = .ok (.iconst 1, 1) := by decide +kernel
theorem dX9_shadow_54 : decode cX9_shadow 54 = .ok (.invokevirtual 46, 3) := by decide +kernel
theorem dX9_shadow_57 : decode cX9_shadow 57 = .ok (.iload_n 2, 1) := by decide +kernel
theorem dX9_shadow_58 : decode cX9_shadow 58 = .ok (.imul, 1) := by decide +kernel
theorem dX9_shadow_59 : decode cX9_shadow 59 = .ok (.iconst 2, 1) := by decide +kernel
theorem dX9_shadow_60 : decode cX9_shadow 60 = .ok (.iload 5, 2) := by decide +kernel
theorem dX9_shadow_62 : decode cX9_shadow 62 = .ok (.imul, 1) := by decide +kernel
theorem dX9_shadow_63 : decode cX9_shadow 63 = .ok (.iload 6, 2) := by decide +kernel
theorem dX9_shadow_65 : decode cX9_shadow 65 = .ok (.iadd, 1) := by decide +kernel
theorem dX9_shadow_66 : decode cX9_shadow 66 = .ok (.iconst 1, 1) := by decide +kernel
theorem dX9_shadow_67 : decode cX9_shadow 67 = .ok (.isub, 1) := by decide +kernel
theorem dX9_shadow_68 : decode cX9_shadow 68 = .ok (.iload 6, 2) := by decide +kernel
theorem dX9_shadow_70 : decode cX9_shadow 70 = .ok (.idiv, 1) := by decide +kernel
theorem dX9_shadow_71 : decode cX9_shadow 71 = .ok (.isub, 1) := by decide +kernel
theorem dX9_shadow_72 : decode cX9_shadow 72 = .ok (.istore 7, 2) := by decide +kernel
theorem dX9_shadow_74 : decode cX9_shadow 74 = .ok (.iload 7, 2) := by decide +kernel
theorem dX9_shadow_76 : decode cX9_shadow 76 = .ok (.ifCond .le 8, 3) := by decide +kernel
theorem dX9_shadow_79 : decode cX9_shadow 79 = .ok (.iload 7, 2) := by decide +kernel
theorem dX9_shadow_81 : decode cX9_shadow 81 = .ok (.goto 4, 3) := by decide +kernel
theorem dX9_shadow_84 : decode cX9_shadow 84 = .ok (.iconst 0, 1) := by decide +kernel
theorem dX9_shadow_85 : decode cX9_shadow 85 = .ok (.ireturn, 1) := by decide +kernel
theorem dX9_isFlat_0 : decode cX9_isFlat 0 = .ok (.aload_n 0, 1) := by decide +kernel
theorem dX9_isFlat_1 : decode cX9_isFlat 1 = .ok (.getfield 7, 3) := by decide +kernel
theorem dX9_isFlat_4 : decode cX9_isFlat 4 = .ok (.iconst 5, 1) := by decide +kernel
theorem dX9_isFlat_5 : decode cX9_isFlat 5 = .ok (.iload_n 1, 1) := by decide +kernel
theorem dX9_isFlat_6 : decode cX9_isFlat 6 = .ok (.iadd, 1) := by decide +kernel
theorem dX9_isFlat_7 : decode cX9_isFlat 7 = .ok (.iaload, 1) := by decide +kernel
theorem dX9_isFlat_8 : decode cX9_isFlat 8 = .ok (.aload_n 0, 1) := by decide +kernel
theorem dX9_isFlat_9 : decode cX9_isFlat 9 = .ok (.getfield 7, 3) := by decide +kernel
theorem dX9_isFlat_12 : decode cX9_isFlat 12 = .ok (.iconst 1, 1) := by decide +kernel
theorem dX9_isFlat_13 : decode cX9_isFlat 13 = .ok (.iaload, 1) := by decide +kernel
theorem dX9_isFlat_14 : decode cX9_isFlat 14 = .ok (.if_icmp .lt 7, 3) := by decide +kernel
theorem dX9_isFlat_17 : decode cX9_isFlat 17 = .ok (.iconst 1, 1) := by decide +kernel
theorem dX9_isFlat_18 : decode cX9_isFlat 18 = .ok (.goto 4, 3) := by decide +kernel
theorem dX9_isFlat_21 : decode cX9_isFlat 21 = .ok (.iconst 0, 1) := by decide +kernel
theorem dX9_isFlat_22 : decode cX9_isFlat 22 = .ok (.ireturn, 1) := by decide +kernel
theorem dX9_keepsRights_0 : decode cX9_keepsRights 0 = .ok (.iconst 1, 1) := by decide +kernel
theorem dX9_keepsRights_1 : decode cX9_keepsRights 1 = .ok (.istore 4, 2) := by decide +kernel
theorem dX9_keepsRights_3 : decode cX9_keepsRights 3 = .ok (.iconst 0, 1) := by decide +kernel
theorem dX9_keepsRights_4 : decode cX9_keepsRights 4 = .ok (.istore 5, 2) := by decide +kernel
theorem dX9_keepsRights_6 : decode cX9_keepsRights 6 = .ok (.iload 5, 2) := by decide +kernel
theorem dX9_keepsRights_8 : decode cX9_keepsRights 8 = .ok (.aload_n 0, 1) := by decide +kernel
theorem dX9_keepsRights_9 : decode cX9_keepsRights 9 = .ok (.getfield 7, 3) := by decide +kernel
theorem dX9_keepsRights_12 : decode cX9_keepsRights 12 = .ok (.iconst 0, 1) := by decide +kernel
theorem dX9_keepsRights_13 : decode cX9_keepsRights 13 = .ok (.iaload, 1) := by decide +kernel
theorem dX9_keepsRights_14 : decode cX9_keepsRights 14 = .ok (.if_icmp .ge 47, 3) := by decide +kernel
theorem dX9_keepsRights_17 : decode cX9_keepsRights 17 = .ok (.iload 4, 2) := by decide +kernel
theorem dX9_keepsRights_19 : decode cX9_keepsRights 19 = .ok (.ifCond .eq 33, 3) := by decide +kernel
theorem dX9_keepsRights_22 : decode cX9_keepsRights 22 = .ok (.iload 5, 2) := by decide +kernel
theorem dX9_keepsRights_24 : decode cX9_keepsRights 24 = .ok (.iload_n 1, 1) := by decide +kernel
theorem dX9_keepsRights_25 : decode cX9_keepsRights 25 = .ok (.if_icmp .eq 23, 3) := by decide +kernel
theorem dX9_keepsRights_28 : decode cX9_keepsRights 28 = .ok (.aload_n 0, 1) := by decide +kernel
theorem dX9_keepsRights_29 : decode cX9_keepsRights 29 = .ok (.iload_n 1, 1) := by decide +kernel
theorem dX9_keepsRights_30 : decode cX9_keepsRights 30 = .ok (.iload_n 2, 1) := by decide +kernel
theorem dX9_keepsRights_31 : decode cX9_keepsRights 31 = .ok (.iload 5, 2) := by decide +kernel
theorem dX9_keepsRights_33 : decode cX9_keepsRights 33 = .ok (.iload_n 3, 1) := by decide +kernel
theorem dX9_keepsRights_34 : decode cX9_keepsRights 34 = .ok (.invokevirtual 54, 3) := by decide +kernel
theorem dX9_keepsRights_37 : decode cX9_keepsRights 37 = .ok (.aload_n 0, 1) := by decide +kernel
theorem dX9_keepsRights_38 : decode cX9_keepsRights 38 = .ok (.iload_n 1, 1) := by decide +kernel
theorem dX9_keepsRights_39 : decode cX9_keepsRights 39 = .ok (.iload 5, 2) := by decide +kernel
theorem dX9_keepsRights_41 : decode cX9_keepsRights 41 = .ok (.iload_n 3, 1) := by decide +kernel
theorem dX9_keepsRights_42 : decode cX9_keepsRights 42 = .ok (.invokevirtual 58, 3) := by decide +kernel
theorem dX9_keepsRights_45 : decode cX9_keepsRights 45 = .ok (.if_icmp .gt 7, 3) := by decide +kernel
theorem dX9_keepsRights_48 : decode cX9_keepsRights 48 = .ok (.iconst 1, 1) := by decide +kernel
theorem dX9_keepsRights_49 : decode cX9_keepsRights 49 = .ok (.goto 4, 3) := by decide +kernel
theorem dX9_keepsRights_52 : decode cX9_keepsRights 52 = .ok (.iconst 0, 1) := by decide +kernel
theorem dX9_keepsRights_53 : decode cX9_keepsRights 53 = .ok (.istore 4, 2) := by decide +kernel
theorem dX9_keepsRights_55 : decode cX9_keepsRights 55 = .ok (.iinc 5 1, 3) := by decide +kernel
theorem dX9_keepsRights_58 : decode cX9_keepsRights 58 = .ok (.goto (-52), 3) := by decide +kernel
theorem dX9_keepsRights_61 : decode cX9_keepsRights 61 = .ok (.iload 4, 2) := by decide +kernel
theorem dX9_keepsRights_63 : decode cX9_keepsRights 63 = .ok (.ireturn, 1) := by decide +kernel
theorem dX9_tiltIn_0 : decode cX9_tiltIn 0 = .ok (.aload_n 0, 1) := by decide +kernel
theorem dX9_tiltIn_1 : decode cX9_tiltIn 1 = .ok (.iload_n 3, 1) := by decide +kernel
theorem dX9_tiltIn_2 : decode cX9_tiltIn 2 = .ok (.invokevirtual 62, 3) := by decide +kernel
theorem dX9_tiltIn_5 : decode cX9_tiltIn 5 = .ok (.ifCond .eq 7, 3) := by decide +kernel
theorem dX9_tiltIn_8 : decode cX9_tiltIn 8 = .ok (.iconst 0, 1) := by decide +kernel
theorem dX9_tiltIn_9 : decode cX9_tiltIn 9 = .ok (.goto 4, 3) := by decide +kernel
theorem dX9_tiltIn_12 : decode cX9_tiltIn 12 = .ok (.iload_n 2, 1) := by decide +kernel
theorem dX9_tiltIn_13 : decode cX9_tiltIn 13 = .ok (.istore 4, 2) := by decide +kernel
theorem dX9_tiltIn_15 : decode cX9_tiltIn 15 = .ok (.iload 4, 2) := by decide +kernel
theorem dX9_tiltIn_17 : decode cX9_tiltIn 17 = .ok (.ifCond .le 20, 3) := by decide +kernel
theorem dX9_tiltIn_20 : decode cX9_tiltIn 20 = .ok (.aload_n 0, 1) := by decide +kernel
theorem dX9_tiltIn_21 : decode cX9_tiltIn 21 = .ok (.iload_n 1, 1) := by decide +kernel
theorem dX9_tiltIn_22 : decode cX9_tiltIn 22 = .ok (.iload 4, 2) := by decide +kernel
theorem dX9_tiltIn_24 : decode cX9_tiltIn 24 = .ok (.iload_n 3, 1) := by decide +kernel
theorem dX9_tiltIn_25 : decode cX9_tiltIn 25 = .ok (.invokevirtual 66, 3) := by decide +kernel
theorem dX9_tiltIn_28 : decode cX9_tiltIn 28 = .ok (.ifCond .ne 9, 3) := by decide +kernel
theorem dX9_tiltIn_31 : decode cX9_tiltIn 31 = .ok (.iinc 4 (-1), 3) := by decide +kernel
theorem dX9_tiltIn_34 : decode cX9_tiltIn 34 = .ok (.goto (-19), 3) := by decide +kernel
theorem dX9_tiltIn_37 : decode cX9_tiltIn 37 = .ok (.iload 4, 2) := by decide +kernel
theorem dX9_tiltIn_39 : decode cX9_tiltIn 39 = .ok (.ireturn, 1) := by decide +kernel
theorem dX9_heightIn_0 : decode cX9_heightIn 0 = .ok (.aload_n 0, 1) := by decide +kernel
theorem dX9_heightIn_1 : decode cX9_heightIn 1 = .ok (.iload_n 1, 1) := by decide +kernel
theorem dX9_heightIn_2 : decode cX9_heightIn 2 = .ok (.iconst 1, 1) := by decide +kernel
theorem dX9_heightIn_3 : decode cX9_heightIn 3 = .ok (.invokevirtual 46, 3) := by decide +kernel
theorem dX9_heightIn_6 : decode cX9_heightIn 6 = .ok (.aload_n 0, 1) := by decide +kernel
theorem dX9_heightIn_7 : decode cX9_heightIn 7 = .ok (.iload_n 1, 1) := by decide +kernel
theorem dX9_heightIn_8 : decode cX9_heightIn 8 = .ok (.aload_n 0, 1) := by decide +kernel
theorem dX9_heightIn_9 : decode cX9_heightIn 9 = .ok (.iload_n 1, 1) := by decide +kernel
theorem dX9_heightIn_10 : decode cX9_heightIn 10 = .ok (.iconst 2, 1) := by decide +kernel
theorem dX9_heightIn_11 : decode cX9_heightIn 11 = .ok (.invokevirtual 46, 3) := by decide +kernel
theorem dX9_heightIn_14 : decode cX9_heightIn 14 = .ok (.iload_n 2, 1) := by decide +kernel
theorem dX9_heightIn_15 : decode cX9_heightIn 15 = .ok (.invokevirtual 69, 3) := by decide +kernel
theorem dX9_heightIn_18 : decode cX9_heightIn 18 = .ok (.imul, 1) := by decide +kernel
theorem dX9_heightIn_19 : decode cX9_heightIn 19 = .ok (.ireturn, 1) := by decide +kernel
theorem dX9_shadowIn_0 : decode cX9_shadowIn 0 = .ok (.aload_n 0, 1) := by decide +kernel
theorem dX9_shadowIn_1 : decode cX9_shadowIn 1 = .ok (.iload_n 1, 1) := by decide +kernel
theorem dX9_shadowIn_2 : decode cX9_shadowIn 2 = .ok (.aload_n 0, 1) := by decide +kernel
theorem dX9_shadowIn_3 : decode cX9_shadowIn 3 = .ok (.iload_n 1, 1) := by decide +kernel
theorem dX9_shadowIn_4 : decode cX9_shadowIn 4 = .ok (.aload_n 0, 1) := by decide +kernel
theorem dX9_shadowIn_5 : decode cX9_shadowIn 5 = .ok (.iload_n 1, 1) := by decide +kernel
theorem dX9_shadowIn_6 : decode cX9_shadowIn 6 = .ok (.iconst 2, 1) := by decide +kernel
theorem dX9_shadowIn_7 : decode cX9_shadowIn 7 = .ok (.invokevirtual 46, 3) := by decide +kernel
theorem dX9_shadowIn_10 : decode cX9_shadowIn 10 = .ok (.iload_n 3, 1) := by decide +kernel
theorem dX9_shadowIn_11 : decode cX9_shadowIn 11 = .ok (.invokevirtual 69, 3) := by decide +kernel
theorem dX9_shadowIn_14 : decode cX9_shadowIn 14 = .ok (.iload_n 2, 1) := by decide +kernel
theorem dX9_shadowIn_15 : decode cX9_shadowIn 15 = .ok (.iload_n 3, 1) := by decide +kernel
theorem dX9_shadowIn_16 : decode cX9_shadowIn 16 = .ok (.invokevirtual 54, 3) := by decide +kernel
theorem dX9_shadowIn_19 : decode cX9_shadowIn 19 = .ok (.ireturn, 1) := by decide +kernel
theorem dX9_far_0 : decode cX9_far 0 = .ok (.aload_n 0, 1) := by decide +kernel
theorem dX9_far_1 : decode cX9_far 1 = .ok (.iload_n 1, 1) := by decide +kernel
theorem dX9_far_2 : decode cX9_far 2 = .ok (.iconst 0, 1) := by decide +kernel
theorem dX9_far_3 : decode cX9_far 3 = .ok (.invokevirtual 46, 3) := by decide +kernel
theorem dX9_far_6 : decode cX9_far 6 = .ok (.aload_n 0, 1) := by decide +kernel
theorem dX9_far_7 : decode cX9_far 7 = .ok (.iload_n 2, 1) := by decide +kernel
theorem dX9_far_8 : decode cX9_far 8 = .ok (.iconst 0, 1) := by decide +kernel
theorem dX9_far_9 : decode cX9_far 9 = .ok (.invokevirtual 46, 3) := by decide +kernel
theorem dX9_far_12 : decode cX9_far 12 = .ok (.isub, 1) := by decide +kernel
theorem dX9_far_13 : decode cX9_far 13 = .ok (.istore_n 3, 1) := by decide +kernel
theorem dX9_far_14 : decode cX9_far 14 = .ok (.iload_n 3, 1) := by decide +kernel
theorem dX9_far_15 : decode cX9_far 15 = .ok (.ifCond .ge 8, 3) := by decide +kernel
theorem dX9_far_18 : decode cX9_far 18 = .ok (.iload_n 3, 1) := by decide +kernel
theorem dX9_far_19 : decode cX9_far 19 = .ok (.ineg, 1) := by decide +kernel
theorem dX9_far_20 : decode cX9_far 20 = .ok (.goto 4, 3) := by decide +kernel
theorem dX9_far_23 : decode cX9_far 23 = .ok (.iload_n 3, 1) := by decide +kernel
theorem dX9_far_24 : decode cX9_far 24 = .ok (.ireturn, 1) := by decide +kernel
theorem dX9_blamed_0 : decode cX9_blamed 0 = .ok (.bipush (-6), 2) := by decide +kernel
theorem dX9_blamed_2 : decode cX9_blamed 2 = .ok (.istore_n 3, 1) := by decide +kernel
theorem dX9_blamed_3 : decode cX9_blamed 3 = .ok (.iconst 0, 1) := by decide +kernel
theorem dX9_blamed_4 : decode cX9_blamed 4 = .ok (.istore 4, 2) := by decide +kernel
theorem dX9_blamed_6 : decode cX9_blamed 6 = .ok (.iconst 0, 1) := by decide +kernel
theorem dX9_blamed_7 : decode cX9_blamed 7 = .ok (.istore 5, 2) := by decide +kernel
theorem dX9_blamed_9 : decode cX9_blamed 9 = .ok (.iload 5, 2) := by decide +kernel
theorem dX9_blamed_11 : decode cX9_blamed 11 = .ok (.aload_n 0, 1) := by decide +kernel
theorem dX9_blamed_12 : decode cX9_blamed 12 = .ok (.getfield 7, 3) := by decide +kernel
theorem dX9_blamed_15 : decode cX9_blamed 15 = .ok (.iconst 0, 1) := by decide +kernel
theorem dX9_blamed_16 : decode cX9_blamed 16 = .ok (.iaload, 1) := by decide +kernel
theorem dX9_blamed_17 : decode cX9_blamed 17 = .ok (.if_icmp .ge 97, 3) := by decide +kernel
theorem dX9_blamed_20 : decode cX9_blamed 20 = .ok (.iload 5, 2) := by decide +kernel
theorem dX9_blamed_22 : decode cX9_blamed 22 = .ok (.iload_n 1, 1) := by decide +kernel
theorem dX9_blamed_23 : decode cX9_blamed 23 = .ok (.if_icmp .ne 7, 3) := by decide +kernel
theorem dX9_blamed_26 : decode cX9_blamed 26 = .ok (.iconst 0, 1) := by decide +kernel
theorem dX9_blamed_27 : decode cX9_blamed 27 = .ok (.goto 11, 3) := by decide +kernel
theorem dX9_blamed_30 : decode cX9_blamed 30 = .ok (.aload_n 0, 1) := by decide +kernel
theorem dX9_blamed_31 : decode cX9_blamed 31 = .ok (.iload 5, 2) := by decide +kernel
theorem dX9_blamed_33 : decode cX9_blamed 33 = .ok (.iload_n 1, 1) := by decide +kernel
theorem dX9_blamed_34 : decode cX9_blamed 34 = .ok (.iload_n 2, 1) := by decide +kernel
theorem dX9_blamed_35 : decode cX9_blamed 35 = .ok (.invokevirtual 72, 3) := by decide +kernel
theorem dX9_blamed_38 : decode cX9_blamed 38 = .ok (.istore 6, 2) := by decide +kernel
theorem dX9_blamed_40 : decode cX9_blamed 40 = .ok (.iload 6, 2) := by decide +kernel
theorem dX9_blamed_42 : decode cX9_blamed 42 = .ok (.iload 4, 2) := by decide +kernel
theorem dX9_blamed_44 : decode cX9_blamed 44 = .ok (.if_icmp .gt 31, 3) := by decide +kernel
theorem dX9_blamed_47 : decode cX9_blamed 47 = .ok (.iload 6, 2) := by decide +kernel
theorem dX9_blamed_49 : decode cX9_blamed 49 = .ok (.ifCond .le 30, 3) := by decide +kernel
theorem dX9_blamed_52 : decode cX9_blamed 52 = .ok (.iload 6, 2) := by decide +kernel
theorem dX9_blamed_54 : decode cX9_blamed 54 = .ok (.iload 4, 2) := by decide +kernel
theorem dX9_blamed_56 : decode cX9_blamed 56 = .ok (.if_icmp .ne 23, 3) := by decide +kernel
theorem dX9_blamed_59 : decode cX9_blamed 59 = .ok (.aload_n 0, 1) := by decide +kernel
theorem dX9_blamed_60 : decode cX9_blamed 60 = .ok (.iload 5, 2) := by decide +kernel
theorem dX9_blamed_62 : decode cX9_blamed 62 = .ok (.iload_n 1, 1) := by decide +kernel
theorem dX9_blamed_63 : decode cX9_blamed 63 = .ok (.invokevirtual 75, 3) := by decide +kernel
theorem dX9_blamed_66 : decode cX9_blamed 66 = .ok (.aload_n 0, 1) := by decide +kernel
theorem dX9_blamed_67 : decode cX9_blamed 67 = .ok (.iload_n 3, 1) := by decide +kernel
theorem dX9_blamed_68 : decode cX9_blamed 68 = .ok (.iload_n 1, 1) := by decide +kernel
theorem dX9_blamed_69 : decode cX9_blamed 69 = .ok (.invokevirtual 75, 3) := by decide +kernel
theorem dX9_blamed_72 : decode cX9_blamed 72 = .ok (.if_icmp .ge 7, 3) := by decide +kernel
theorem dX9_blamed_75 : decode cX9_blamed 75 = .ok (.iconst 1, 1) := by decide +kernel
theorem dX9_blamed_76 : decode cX9_blamed 76 = .ok (.goto 4, 3) := by decide +kernel
theorem dX9_blamed_79 : decode cX9_blamed 79 = .ok (.iconst 0, 1) := by decide +kernel
theorem dX9_blamed_80 : decode cX9_blamed 80 = .ok (.istore 7, 2) := by decide +kernel
theorem dX9_blamed_82 : decode cX9_blamed 82 = .ok (.iload 7, 2) := by decide +kernel
theorem dX9_blamed_84 : decode cX9_blamed 84 = .ok (.ifCond .eq 8, 3) := by decide +kernel
theorem dX9_blamed_87 : decode cX9_blamed 87 = .ok (.iload 5, 2) := by decide +kernel
theorem dX9_blamed_89 : decode cX9_blamed 89 = .ok (.goto 4, 3) := by decide +kernel
theorem dX9_blamed_92 : decode cX9_blamed 92 = .ok (.iload_n 3, 1) := by decide +kernel
theorem dX9_blamed_93 : decode cX9_blamed 93 = .ok (.istore_n 3, 1) := by decide +kernel
theorem dX9_blamed_94 : decode cX9_blamed 94 = .ok (.iload 7, 2) := by decide +kernel
theorem dX9_blamed_96 : decode cX9_blamed 96 = .ok (.ifCond .eq 8, 3) := by decide +kernel
theorem dX9_blamed_99 : decode cX9_blamed 99 = .ok (.iload 6, 2) := by decide +kernel
theorem dX9_blamed_101 : decode cX9_blamed 101 = .ok (.goto 5, 3) := by decide +kernel
theorem dX9_blamed_104 : decode cX9_blamed 104 = .ok (.iload 4, 2) := by decide +kernel
theorem dX9_blamed_106 : decode cX9_blamed 106 = .ok (.istore 4, 2) := by decide +kernel
theorem dX9_blamed_108 : decode cX9_blamed 108 = .ok (.iinc 5 1, 3) := by decide +kernel
theorem dX9_blamed_111 : decode cX9_blamed 111 = .ok (.goto (-102), 3) := by decide +kernel
theorem dX9_blamed_114 : decode cX9_blamed 114 = .ok (.iload_n 3, 1) := by decide +kernel
theorem dX9_blamed_115 : decode cX9_blamed 115 = .ok (.ireturn, 1) := by decide +kernel
theorem dX9_shadeOf_0 : decode cX9_shadeOf 0 = .ok (.aload_n 0, 1) := by decide +kernel
theorem dX9_shadeOf_1 : decode cX9_shadeOf 1 = .ok (.iload_n 1, 1) := by decide +kernel
theorem dX9_shadeOf_2 : decode cX9_shadeOf 2 = .ok (.iload_n 2, 1) := by decide +kernel
theorem dX9_shadeOf_3 : decode cX9_shadeOf 3 = .ok (.invokevirtual 78, 3) := by decide +kernel
theorem dX9_shadeOf_6 : decode cX9_shadeOf 6 = .ok (.istore_n 3, 1) := by decide +kernel
theorem dX9_shadeOf_7 : decode cX9_shadeOf 7 = .ok (.iload_n 3, 1) := by decide +kernel
theorem dX9_shadeOf_8 : decode cX9_shadeOf 8 = .ok (.bipush (-6), 2) := by decide +kernel
theorem dX9_shadeOf_10 : decode cX9_shadeOf 10 = .ok (.if_icmp .ne 7, 3) := by decide +kernel
theorem dX9_shadeOf_13 : decode cX9_shadeOf 13 = .ok (.iconst 0, 1) := by decide +kernel
theorem dX9_shadeOf_14 : decode cX9_shadeOf 14 = .ok (.goto 10, 3) := by decide +kernel
theorem dX9_shadeOf_17 : decode cX9_shadeOf 17 = .ok (.aload_n 0, 1) := by decide +kernel
theorem dX9_shadeOf_18 : decode cX9_shadeOf 18 = .ok (.iload_n 3, 1) := by decide +kernel
theorem dX9_shadeOf_19 : decode cX9_shadeOf 19 = .ok (.iload_n 1, 1) := by decide +kernel
theorem dX9_shadeOf_20 : decode cX9_shadeOf 20 = .ok (.iload_n 2, 1) := by decide +kernel
theorem dX9_shadeOf_21 : decode cX9_shadeOf 21 = .ok (.invokevirtual 72, 3) := by decide +kernel
theorem dX9_shadeOf_24 : decode cX9_shadeOf 24 = .ok (.istore 4, 2) := by decide +kernel
theorem dX9_shadeOf_26 : decode cX9_shadeOf 26 = .ok (.aload_n 0, 1) := by decide +kernel
theorem dX9_shadeOf_27 : decode cX9_shadeOf 27 = .ok (.iload_n 1, 1) := by decide +kernel
theorem dX9_shadeOf_28 : decode cX9_shadeOf 28 = .ok (.iload_n 2, 1) := by decide +kernel
theorem dX9_shadeOf_29 : decode cX9_shadeOf 29 = .ok (.invokevirtual 81, 3) := by decide +kernel
theorem dX9_shadeOf_32 : decode cX9_shadeOf 32 = .ok (.istore 5, 2) := by decide +kernel
theorem dX9_shadeOf_34 : decode cX9_shadeOf 34 = .ok (.iload 4, 2) := by decide +kernel
theorem dX9_shadeOf_36 : decode cX9_shadeOf 36 = .ok (.iload 5, 2) := by decide +kernel
theorem dX9_shadeOf_38 : decode cX9_shadeOf 38 = .ok (.if_icmp .ge 8, 3) := by decide +kernel
theorem dX9_shadeOf_41 : decode cX9_shadeOf 41 = .ok (.iload 4, 2) := by decide +kernel
theorem dX9_shadeOf_43 : decode cX9_shadeOf 43 = .ok (.goto 5, 3) := by decide +kernel
theorem dX9_shadeOf_46 : decode cX9_shadeOf 46 = .ok (.iload 5, 2) := by decide +kernel
theorem dX9_shadeOf_48 : decode cX9_shadeOf 48 = .ok (.ireturn, 1) := by decide +kernel
theorem dX9_yieldIn_0 : decode cX9_yieldIn 0 = .ok (.aload_n 0, 1) := by decide +kernel
theorem dX9_yieldIn_1 : decode cX9_yieldIn 1 = .ok (.iload_n 1, 1) := by decide +kernel
theorem dX9_yieldIn_2 : decode cX9_yieldIn 2 = .ok (.iload_n 2, 1) := by decide +kernel
theorem dX9_yieldIn_3 : decode cX9_yieldIn 3 = .ok (.invokevirtual 81, 3) := by decide +kernel
theorem dX9_yieldIn_6 : decode cX9_yieldIn 6 = .ok (.aload_n 0, 1) := by decide +kernel
theorem dX9_yieldIn_7 : decode cX9_yieldIn 7 = .ok (.iload_n 1, 1) := by decide +kernel
theorem dX9_yieldIn_8 : decode cX9_yieldIn 8 = .ok (.iload_n 2, 1) := by decide +kernel
theorem dX9_yieldIn_9 : decode cX9_yieldIn 9 = .ok (.invokevirtual 84, 3) := by decide +kernel
theorem dX9_yieldIn_12 : decode cX9_yieldIn 12 = .ok (.isub, 1) := by decide +kernel
theorem dX9_yieldIn_13 : decode cX9_yieldIn 13 = .ok (.iload_n 2, 1) := by decide +kernel
theorem dX9_yieldIn_14 : decode cX9_yieldIn 14 = .ok (.invokestatic 87, 3) := by decide +kernel
theorem dX9_yieldIn_17 : decode cX9_yieldIn 17 = .ok (.imul, 1) := by decide +kernel
theorem dX9_yieldIn_18 : decode cX9_yieldIn 18 = .ok (.aload_n 0, 1) := by decide +kernel
theorem dX9_yieldIn_19 : decode cX9_yieldIn 19 = .ok (.iload_n 1, 1) := by decide +kernel
theorem dX9_yieldIn_20 : decode cX9_yieldIn 20 = .ok (.iconst 1, 1) := by decide +kernel
theorem dX9_yieldIn_21 : decode cX9_yieldIn 21 = .ok (.invokevirtual 46, 3) := by decide +kernel
theorem dX9_yieldIn_24 : decode cX9_yieldIn 24 = .ok (.iadd, 1) := by decide +kernel
theorem dX9_yieldIn_25 : decode cX9_yieldIn 25 = .ok (.ireturn, 1) := by decide +kernel
theorem dX9_yieldOf_0 : decode cX9_yieldOf 0 = .ok (.iconst 0, 1) := by decide +kernel
theorem dX9_yieldOf_1 : decode cX9_yieldOf 1 = .ok (.istore_n 2, 1) := by decide +kernel
theorem dX9_yieldOf_2 : decode cX9_yieldOf 2 = .ok (.iconst 0, 1) := by decide +kernel
theorem dX9_yieldOf_3 : decode cX9_yieldOf 3 = .ok (.istore_n 3, 1) := by decide +kernel
theorem dX9_yieldOf_4 : decode cX9_yieldOf 4 = .ok (.iload_n 3, 1) := by decide +kernel
theorem dX9_yieldOf_5 : decode cX9_yieldOf 5 = .ok (.bipush 10, 2) := by decide +kernel
theorem dX9_yieldOf_7 : decode cX9_yieldOf 7 = .ok (.if_icmp .ge 18, 3) := by decide +kernel
theorem dX9_yieldOf_10 : decode cX9_yieldOf 10 = .ok (.iload_n 2, 1) := by decide +kernel
theorem dX9_yieldOf_11 : decode cX9_yieldOf 11 = .ok (.aload_n 0, 1) := by decide +kernel
theorem dX9_yieldOf_12 : decode cX9_yieldOf 12 = .ok (.iload_n 1, 1) := by decide +kernel
theorem dX9_yieldOf_13 : decode cX9_yieldOf 13 = .ok (.iload_n 3, 1) := by decide +kernel
theorem dX9_yieldOf_14 : decode cX9_yieldOf 14 = .ok (.invokevirtual 90, 3) := by decide +kernel
theorem dX9_yieldOf_17 : decode cX9_yieldOf 17 = .ok (.iadd, 1) := by decide +kernel
theorem dX9_yieldOf_18 : decode cX9_yieldOf 18 = .ok (.istore_n 2, 1) := by decide +kernel
theorem dX9_yieldOf_19 : decode cX9_yieldOf 19 = .ok (.iinc 3 1, 3) := by decide +kernel
theorem dX9_yieldOf_22 : decode cX9_yieldOf 22 = .ok (.goto (-18), 3) := by decide +kernel
theorem dX9_yieldOf_25 : decode cX9_yieldOf 25 = .ok (.iload_n 2, 1) := by decide +kernel
theorem dX9_yieldOf_26 : decode cX9_yieldOf 26 = .ok (.ireturn, 1) := by decide +kernel
theorem dX9_allYields_0 : decode cX9_allYields 0 = .ok (.iconst 0, 1) := by decide +kernel
theorem dX9_allYields_1 : decode cX9_allYields 1 = .ok (.istore_n 1, 1) := by decide +kernel
theorem dX9_allYields_2 : decode cX9_allYields 2 = .ok (.iconst 0, 1) := by decide +kernel
theorem dX9_allYields_3 : decode cX9_allYields 3 = .ok (.istore_n 2, 1) := by decide +kernel
theorem dX9_allYields_4 : decode cX9_allYields 4 = .ok (.iload_n 2, 1) := by decide +kernel
theorem dX9_allYields_5 : decode cX9_allYields 5 = .ok (.aload_n 0, 1) := by decide +kernel
theorem dX9_allYields_6 : decode cX9_allYields 6 = .ok (.getfield 7, 3) := by decide +kernel
theorem dX9_allYields_9 : decode cX9_allYields 9 = .ok (.iconst 0, 1) := by decide +kernel
theorem dX9_allYields_10 : decode cX9_allYields 10 = .ok (.iaload, 1) := by decide +kernel
theorem dX9_allYields_11 : decode cX9_allYields 11 = .ok (.if_icmp .ge 17, 3) := by decide +kernel
theorem dX9_allYields_14 : decode cX9_allYields 14 = .ok (.iload_n 1, 1) := by decide +kernel
theorem dX9_allYields_15 : decode cX9_allYields 15 = .ok (.aload_n 0, 1) := by decide +kernel
theorem dX9_allYields_16 : decode cX9_allYields 16 = .ok (.iload_n 2, 1) := by decide +kernel
theorem dX9_allYields_17 : decode cX9_allYields 17 = .ok (.invokevirtual 93, 3) := by decide +kernel
theorem dX9_allYields_20 : decode cX9_allYields 20 = .ok (.iadd, 1) := by decide +kernel
theorem dX9_allYields_21 : decode cX9_allYields 21 = .ok (.istore_n 1, 1) := by decide +kernel
theorem dX9_allYields_22 : decode cX9_allYields 22 = .ok (.iinc 2 1, 3) := by decide +kernel
theorem dX9_allYields_25 : decode cX9_allYields 25 = .ok (.goto (-21), 3) := by decide +kernel
theorem dX9_allYields_28 : decode cX9_allYields 28 = .ok (.iload_n 1, 1) := by decide +kernel
theorem dX9_allYields_29 : decode cX9_allYields 29 = .ok (.ireturn, 1) := by decide +kernel
theorem dX9_isPlaceTaken_0 : decode cX9_isPlaceTaken 0 = .ok (.iconst 0, 1) := by decide +kernel
theorem dX9_isPlaceTaken_1 : decode cX9_isPlaceTaken 1 = .ok (.istore_n 2, 1) := by decide +kernel
theorem dX9_isPlaceTaken_2 : decode cX9_isPlaceTaken 2 = .ok (.iconst 0, 1) := by decide +kernel
theorem dX9_isPlaceTaken_3 : decode cX9_isPlaceTaken 3 = .ok (.istore_n 3, 1) := by decide +kernel
theorem dX9_isPlaceTaken_4 : decode cX9_isPlaceTaken 4 = .ok (.iload_n 3, 1) := by decide +kernel
theorem dX9_isPlaceTaken_5 : decode cX9_isPlaceTaken 5 = .ok (.aload_n 0, 1) := by decide +kernel
theorem dX9_isPlaceTaken_6 : decode cX9_isPlaceTaken 6 = .ok (.getfield 7, 3) := by decide +kernel
theorem dX9_isPlaceTaken_9 : decode cX9_isPlaceTaken 9 = .ok (.iconst 0, 1) := by decide +kernel
theorem dX9_isPlaceTaken_10 : decode cX9_isPlaceTaken 10 = .ok (.iaload, 1) := by decide +kernel
theorem dX9_isPlaceTaken_11 : decode cX9_isPlaceTaken 11 = .ok (.if_icmp .ge 29, 3) := by decide +kernel
theorem dX9_isPlaceTaken_14 : decode cX9_isPlaceTaken 14 = .ok (.iload_n 2, 1) := by decide +kernel
theorem dX9_isPlaceTaken_15 : decode cX9_isPlaceTaken 15 = .ok (.ifCond .ne 13, 3) := by decide +kernel
theorem dX9_isPlaceTaken_18 : decode cX9_isPlaceTaken 18 = .ok (.aload_n 0, 1) := by decide +kernel
theorem dX9_isPlaceTaken_19 : decode cX9_isPlaceTaken 19 = .ok (.iload_n 3, 1) := by decide +kernel
theorem dX9_isPlaceTaken_20 : decode cX9_isPlaceTaken 20 = .ok (.iconst 0, 1) := by decide +kernel
theorem dX9_isPlaceTaken_21 : decode cX9_isPlaceTaken 21 = .ok (.invokevirtual 46, 3) := by decide +kernel
theorem dX9_isPlaceTaken_24 : decode cX9_isPlaceTaken 24 = .ok (.iload_n 1, 1) := by decide +kernel
theorem dX9_isPlaceTaken_25 : decode cX9_isPlaceTaken 25 = .ok (.if_icmp .ne 7, 3) := by decide +kernel
theorem dX9_isPlaceTaken_28 : decode cX9_isPlaceTaken 28 = .ok (.iconst 1, 1) := by decide +kernel
theorem dX9_isPlaceTaken_29 : decode cX9_isPlaceTaken 29 = .ok (.goto 4, 3) := by decide +kernel
theorem dX9_isPlaceTaken_32 : decode cX9_isPlaceTaken 32 = .ok (.iconst 0, 1) := by decide +kernel
theorem dX9_isPlaceTaken_33 : decode cX9_isPlaceTaken 33 = .ok (.istore_n 2, 1) := by decide +kernel
theorem dX9_isPlaceTaken_34 : decode cX9_isPlaceTaken 34 = .ok (.iinc 3 1, 3) := by decide +kernel
theorem dX9_isPlaceTaken_37 : decode cX9_isPlaceTaken 37 = .ok (.goto (-33), 3) := by decide +kernel
theorem dX9_isPlaceTaken_40 : decode cX9_isPlaceTaken 40 = .ok (.iload_n 2, 1) := by decide +kernel
theorem dX9_isPlaceTaken_41 : decode cX9_isPlaceTaken 41 = .ok (.ireturn, 1) := by decide +kernel
theorem dX9_row_0 : decode cX9_row 0 = .ok (.iload_n 1, 1) := by decide +kernel
theorem dX9_row_1 : decode cX9_row 1 = .ok (.iconst 0, 1) := by decide +kernel
theorem dX9_row_2 : decode cX9_row 2 = .ok (.sipush 200, 3) := by decide +kernel
theorem dX9_row_5 : decode cX9_row 5 = .ok (.invokestatic 42, 3) := by decide +kernel
theorem dX9_row_8 : decode cX9_row 8 = .ok (.ifCond .eq 22, 3) := by decide +kernel
theorem dX9_row_11 : decode cX9_row 11 = .ok (.iload_n 2, 1) := by decide +kernel
theorem dX9_row_12 : decode cX9_row 12 = .ok (.iconst 1, 1) := by decide +kernel
theorem dX9_row_13 : decode cX9_row 13 = .ok (.bipush 20, 2) := by decide +kernel
theorem dX9_row_15 : decode cX9_row 15 = .ok (.invokestatic 42, 3) := by decide +kernel
theorem dX9_row_18 : decode cX9_row 18 = .ok (.ifCond .eq 12, 3) := by decide +kernel
theorem dX9_row_21 : decode cX9_row 21 = .ok (.iload_n 3, 1) := by decide +kernel
theorem dX9_row_22 : decode cX9_row 22 = .ok (.iconst 0, 1) := by decide +kernel
theorem dX9_row_23 : decode cX9_row 23 = .ok (.iconst 4, 1) := by decide +kernel
theorem dX9_row_24 : decode cX9_row 24 = .ok (.invokestatic 42, 3) := by decide +kernel
theorem dX9_row_27 : decode cX9_row 27 = .ok (.ifCond .ne 6, 3) := by decide +kernel
theorem dX9_row_30 : decode cX9_row 30 = .ok (.bipush (-2), 2) := by decide +kernel
theorem dX9_row_32 : decode cX9_row 32 = .ok (.ireturn, 1) := by decide +kernel
theorem dX9_row_33 : decode cX9_row 33 = .ok (.aload_n 0, 1) := by decide +kernel
theorem dX9_row_34 : decode cX9_row 34 = .ok (.getfield 7, 3) := by decide +kernel
theorem dX9_row_37 : decode cX9_row 37 = .ok (.iconst 0, 1) := by decide +kernel
theorem dX9_row_38 : decode cX9_row 38 = .ok (.iaload, 1) := by decide +kernel
theorem dX9_row_39 : decode cX9_row 39 = .ok (.bipush 6, 2) := by decide +kernel
theorem dX9_row_41 : decode cX9_row 41 = .ok (.if_icmp .ne 6, 3) := by decide +kernel
theorem dX9_row_44 : decode cX9_row 44 = .ok (.bipush (-4), 2) := by decide +kernel
theorem dX9_row_46 : decode cX9_row 46 = .ok (.ireturn, 1) := by decide +kernel
theorem dX9_row_47 : decode cX9_row 47 = .ok (.aload_n 0, 1) := by decide +kernel
theorem dX9_row_48 : decode cX9_row 48 = .ok (.iload_n 1, 1) := by decide +kernel
theorem dX9_row_49 : decode cX9_row 49 = .ok (.invokevirtual 96, 3) := by decide +kernel
theorem dX9_row_52 : decode cX9_row 52 = .ok (.ifCond .eq 6, 3) := by decide +kernel
theorem dX9_row_55 : decode cX9_row 55 = .ok (.bipush (-5), 2) := by decide +kernel
theorem dX9_row_57 : decode cX9_row 57 = .ok (.ireturn, 1) := by decide +kernel
theorem dX9_row_58 : decode cX9_row 58 = .ok (.aload_n 0, 1) := by decide +kernel
theorem dX9_row_59 : decode cX9_row 59 = .ok (.invokevirtual 99, 3) := by decide +kernel
theorem dX9_row_62 : decode cX9_row 62 = .ok (.aload_n 0, 1) := by decide +kernel
theorem dX9_row_63 : decode cX9_row 63 = .ok (.getfield 7, 3) := by decide +kernel
theorem dX9_row_66 : decode cX9_row 66 = .ok (.iconst 0, 1) := by decide +kernel
theorem dX9_row_67 : decode cX9_row 67 = .ok (.iaload, 1) := by decide +kernel
theorem dX9_row_68 : decode cX9_row 68 = .ok (.istore 4, 2) := by decide +kernel
theorem dX9_row_70 : decode cX9_row 70 = .ok (.aload_n 0, 1) := by decide +kernel
theorem dX9_row_71 : decode cX9_row 71 = .ok (.getfield 7, 3) := by decide +kernel
theorem dX9_row_74 : decode cX9_row 74 = .ok (.bipush 15, 2) := by decide +kernel
theorem dX9_row_76 : decode cX9_row 76 = .ok (.iconst 4, 1) := by decide +kernel
theorem dX9_row_77 : decode cX9_row 77 = .ok (.iload 4, 2) := by decide +kernel
theorem dX9_row_79 : decode cX9_row 79 = .ok (.imul, 1) := by decide +kernel
theorem dX9_row_80 : decode cX9_row 80 = .ok (.iadd, 1) := by decide +kernel
theorem dX9_row_81 : decode cX9_row 81 = .ok (.iconst 0, 1) := by decide +kernel
theorem dX9_row_82 : decode cX9_row 82 = .ok (.iadd, 1) := by decide +kernel
theorem dX9_row_83 : decode cX9_row 83 = .ok (.iload_n 1, 1) := by decide +kernel
theorem dX9_row_84 : decode cX9_row 84 = .ok (.iastore, 1) := by decide +kernel
theorem dX9_row_85 : decode cX9_row 85 = .ok (.aload_n 0, 1) := by decide +kernel
theorem dX9_row_86 : decode cX9_row 86 = .ok (.getfield 7, 3) := by decide +kernel
theorem dX9_row_89 : decode cX9_row 89 = .ok (.bipush 15, 2) := by decide +kernel
theorem dX9_row_91 : decode cX9_row 91 = .ok (.iconst 4, 1) := by decide +kernel
theorem dX9_row_92 : decode cX9_row 92 = .ok (.iload 4, 2) := by decide +kernel
theorem dX9_row_94 : decode cX9_row 94 = .ok (.imul, 1) := by decide +kernel
theorem dX9_row_95 : decode cX9_row 95 = .ok (.iadd, 1) := by decide +kernel
theorem dX9_row_96 : decode cX9_row 96 = .ok (.iconst 1, 1) := by decide +kernel
theorem dX9_row_97 : decode cX9_row 97 = .ok (.iadd, 1) := by decide +kernel
theorem dX9_row_98 : decode cX9_row 98 = .ok (.iload_n 2, 1) := by decide +kernel
theorem dX9_row_99 : decode cX9_row 99 = .ok (.iastore, 1) := by decide +kernel
theorem dX9_row_100 : decode cX9_row 100 = .ok (.aload_n 0, 1) := by decide +kernel
theorem dX9_row_101 : decode cX9_row 101 = .ok (.getfield 7, 3) := by decide +kernel
theorem dX9_row_104 : decode cX9_row 104 = .ok (.bipush 15, 2) := by decide +kernel
theorem dX9_row_106 : decode cX9_row 106 = .ok (.iconst 4, 1) := by decide +kernel
theorem dX9_row_107 : decode cX9_row 107 = .ok (.iload 4, 2) := by decide +kernel
theorem dX9_row_109 : decode cX9_row 109 = .ok (.imul, 1) := by decide +kernel
theorem dX9_row_110 : decode cX9_row 110 = .ok (.iadd, 1) := by decide +kernel
theorem dX9_row_111 : decode cX9_row 111 = .ok (.iconst 2, 1) := by decide +kernel
theorem dX9_row_112 : decode cX9_row 112 = .ok (.iadd, 1) := by decide +kernel
theorem dX9_row_113 : decode cX9_row 113 = .ok (.iload_n 3, 1) := by decide +kernel
theorem dX9_row_114 : decode cX9_row 114 = .ok (.iastore, 1) := by decide +kernel
theorem dX9_row_115 : decode cX9_row 115 = .ok (.aload_n 0, 1) := by decide +kernel
theorem dX9_row_116 : decode cX9_row 116 = .ok (.getfield 7, 3) := by decide +kernel
theorem dX9_row_119 : decode cX9_row 119 = .ok (.bipush 15, 2) := by decide +kernel
theorem dX9_row_121 : decode cX9_row 121 = .ok (.iconst 4, 1) := by decide +kernel
theorem dX9_row_122 : decode cX9_row 122 = .ok (.iload 4, 2) := by decide +kernel
theorem dX9_row_124 : decode cX9_row 124 = .ok (.imul, 1) := by decide +kernel
theorem dX9_row_125 : decode cX9_row 125 = .ok (.iadd, 1) := by decide +kernel
theorem dX9_row_126 : decode cX9_row 126 = .ok (.iconst 3, 1) := by decide +kernel
theorem dX9_row_127 : decode cX9_row 127 = .ok (.iadd, 1) := by decide +kernel
theorem dX9_row_128 : decode cX9_row 128 = .ok (.iconst 0, 1) := by decide +kernel
theorem dX9_row_129 : decode cX9_row 129 = .ok (.iastore, 1) := by decide +kernel
theorem dX9_row_130 : decode cX9_row 130 = .ok (.aload_n 0, 1) := by decide +kernel
theorem dX9_row_131 : decode cX9_row 131 = .ok (.getfield 7, 3) := by decide +kernel
theorem dX9_row_134 : decode cX9_row 134 = .ok (.iconst 0, 1) := by decide +kernel
theorem dX9_row_135 : decode cX9_row 135 = .ok (.dup2, 1) := by decide +kernel
theorem dX9_row_136 : decode cX9_row 136 = .ok (.iaload, 1) := by decide +kernel
theorem dX9_row_137 : decode cX9_row 137 = .ok (.iconst 1, 1) := by decide +kernel
theorem dX9_row_138 : decode cX9_row 138 = .ok (.iadd, 1) := by decide +kernel
theorem dX9_row_139 : decode cX9_row 139 = .ok (.iastore, 1) := by decide +kernel
theorem dX9_row_140 : decode cX9_row 140 = .ok (.iload 4, 2) := by decide +kernel
theorem dX9_row_142 : decode cX9_row 142 = .ok (.ireturn, 1) := by decide +kernel
theorem dX9_whyNotTilted_0 : decode cX9_whyNotTilted 0 = .ok (.aload_n 0, 1) := by decide +kernel
theorem dX9_whyNotTilted_1 : decode cX9_whyNotTilted 1 = .ok (.iload_n 1, 1) := by decide +kernel
theorem dX9_whyNotTilted_2 : decode cX9_whyNotTilted 2 = .ok (.invokevirtual 102, 3) := by decide +kernel
theorem dX9_whyNotTilted_5 : decode cX9_whyNotTilted 5 = .ok (.ifCond .ne 7, 3) := by decide +kernel
theorem dX9_whyNotTilted_8 : decode cX9_whyNotTilted 8 = .ok (.iconst (-1), 1) := by decide +kernel
theorem dX9_whyNotTilted_9 : decode cX9_whyNotTilted 9 = .ok (.goto 18, 3) := by decide +kernel
theorem dX9_whyNotTilted_12 : decode cX9_whyNotTilted 12 = .ok (.iload_n 2, 1) := by decide +kernel
theorem dX9_whyNotTilted_13 : decode cX9_whyNotTilted 13 = .ok (.iconst 0, 1) := by decide +kernel
theorem dX9_whyNotTilted_14 : decode cX9_whyNotTilted 14 = .ok (.iconst 4, 1) := by decide +kernel
theorem dX9_whyNotTilted_15 : decode cX9_whyNotTilted 15 = .ok (.invokestatic 42, 3) := by decide +kernel
theorem dX9_whyNotTilted_18 : decode cX9_whyNotTilted 18 = .ok (.ifCond .eq 7, 3) := by decide +kernel
theorem dX9_whyNotTilted_21 : decode cX9_whyNotTilted 21 = .ok (.iconst 0, 1) := by decide +kernel
theorem dX9_whyNotTilted_22 : decode cX9_whyNotTilted 22 = .ok (.goto 5, 3) := by decide +kernel
theorem dX9_whyNotTilted_25 : decode cX9_whyNotTilted 25 = .ok (.bipush (-2), 2) := by decide +kernel
theorem dX9_whyNotTilted_27 : decode cX9_whyNotTilted 27 = .ok (.ireturn, 1) := by decide +kernel
theorem dX9_tilted_0 : decode cX9_tilted 0 = .ok (.aload_n 0, 1) := by decide +kernel
theorem dX9_tilted_1 : decode cX9_tilted 1 = .ok (.iload_n 1, 1) := by decide +kernel
theorem dX9_tilted_2 : decode cX9_tilted 2 = .ok (.iconst 2, 1) := by decide +kernel
theorem dX9_tilted_3 : decode cX9_tilted 3 = .ok (.invokevirtual 46, 3) := by decide +kernel
theorem dX9_tilted_6 : decode cX9_tilted 6 = .ok (.istore_n 3, 1) := by decide +kernel
theorem dX9_tilted_7 : decode cX9_tilted 7 = .ok (.aload_n 0, 1) := by decide +kernel
theorem dX9_tilted_8 : decode cX9_tilted 8 = .ok (.getfield 7, 3) := by decide +kernel
theorem dX9_tilted_11 : decode cX9_tilted 11 = .ok (.bipush 15, 2) := by decide +kernel
theorem dX9_tilted_13 : decode cX9_tilted 13 = .ok (.iconst 4, 1) := by decide +kernel
theorem dX9_tilted_14 : decode cX9_tilted 14 = .ok (.iload_n 1, 1) := by decide +kernel
theorem dX9_tilted_15 : decode cX9_tilted 15 = .ok (.imul, 1) := by decide +kernel
theorem dX9_tilted_16 : decode cX9_tilted 16 = .ok (.iadd, 1) := by decide +kernel
theorem dX9_tilted_17 : decode cX9_tilted 17 = .ok (.iconst 2, 1) := by decide +kernel
theorem dX9_tilted_18 : decode cX9_tilted 18 = .ok (.iadd, 1) := by decide +kernel
theorem dX9_tilted_19 : decode cX9_tilted 19 = .ok (.iload_n 2, 1) := by decide +kernel
theorem dX9_tilted_20 : decode cX9_tilted 20 = .ok (.iastore, 1) := by decide +kernel
theorem dX9_tilted_21 : decode cX9_tilted 21 = .ok (.iload_n 3, 1) := by decide +kernel
theorem dX9_tilted_22 : decode cX9_tilted 22 = .ok (.ireturn, 1) := by decide +kernel
theorem dX9_tilt_0 : decode cX9_tilt 0 = .ok (.aload_n 0, 1) := by decide +kernel
theorem dX9_tilt_1 : decode cX9_tilt 1 = .ok (.iload_n 1, 1) := by decide +kernel
theorem dX9_tilt_2 : decode cX9_tilt 2 = .ok (.iload_n 2, 1) := by decide +kernel
theorem dX9_tilt_3 : decode cX9_tilt 3 = .ok (.invokevirtual 105, 3) := by decide +kernel
theorem dX9_tilt_6 : decode cX9_tilt 6 = .ok (.istore_n 3, 1) := by decide +kernel
theorem dX9_tilt_7 : decode cX9_tilt 7 = .ok (.iload_n 3, 1) := by decide +kernel
theorem dX9_tilt_8 : decode cX9_tilt 8 = .ok (.ifCond .ge 5, 3) := by decide +kernel
theorem dX9_tilt_11 : decode cX9_tilt 11 = .ok (.iload_n 3, 1) := by decide +kernel
theorem dX9_tilt_12 : decode cX9_tilt 12 = .ok (.ireturn, 1) := by decide +kernel
theorem dX9_tilt_13 : decode cX9_tilt 13 = .ok (.aload_n 0, 1) := by decide +kernel
theorem dX9_tilt_14 : decode cX9_tilt 14 = .ok (.invokevirtual 99, 3) := by decide +kernel
theorem dX9_tilt_17 : decode cX9_tilt 17 = .ok (.aload_n 0, 1) := by decide +kernel
theorem dX9_tilt_18 : decode cX9_tilt 18 = .ok (.iload_n 1, 1) := by decide +kernel
theorem dX9_tilt_19 : decode cX9_tilt 19 = .ok (.iload_n 2, 1) := by decide +kernel
theorem dX9_tilt_20 : decode cX9_tilt 20 = .ok (.invokevirtual 108, 3) := by decide +kernel
theorem dX9_tilt_23 : decode cX9_tilt 23 = .ok (.ireturn, 1) := by decide +kernel
theorem dX9_wind_0 : decode cX9_wind 0 = .ok (.iload_n 1, 1) := by decide +kernel
theorem dX9_wind_1 : decode cX9_wind 1 = .ok (.invokestatic 111, 3) := by decide +kernel
theorem dX9_wind_4 : decode cX9_wind 4 = .ok (.ifCond .eq 13, 3) := by decide +kernel
theorem dX9_wind_7 : decode cX9_wind 7 = .ok (.iload_n 2, 1) := by decide +kernel
theorem dX9_wind_8 : decode cX9_wind 8 = .ok (.iconst 0, 1) := by decide +kernel
theorem dX9_wind_9 : decode cX9_wind 9 = .ok (.bipush 9, 2) := by decide +kernel
theorem dX9_wind_11 : decode cX9_wind 11 = .ok (.invokestatic 42, 3) := by decide +kernel
theorem dX9_wind_14 : decode cX9_wind 14 = .ok (.ifCond .ne 17, 3) := by decide +kernel
theorem dX9_wind_17 : decode cX9_wind 17 = .ok (.iload_n 1, 1) := by decide +kernel
theorem dX9_wind_18 : decode cX9_wind 18 = .ok (.invokestatic 111, 3) := by decide +kernel
theorem dX9_wind_21 : decode cX9_wind 21 = .ok (.ifCond .eq 8, 3) := by decide +kernel
theorem dX9_wind_24 : decode cX9_wind 24 = .ok (.bipush (-2), 2) := by decide +kernel
theorem dX9_wind_26 : decode cX9_wind 26 = .ok (.goto 4, 3) := by decide +kernel
theorem dX9_wind_29 : decode cX9_wind 29 = .ok (.iconst (-1), 1) := by decide +kernel
theorem dX9_wind_30 : decode cX9_wind 30 = .ok (.ireturn, 1) := by decide +kernel
theorem dX9_wind_31 : decode cX9_wind 31 = .ok (.aload_n 0, 1) := by decide +kernel
theorem dX9_wind_32 : decode cX9_wind 32 = .ok (.invokevirtual 99, 3) := by decide +kernel
theorem dX9_wind_35 : decode cX9_wind 35 = .ok (.aload_n 0, 1) := by decide +kernel
theorem dX9_wind_36 : decode cX9_wind 36 = .ok (.getfield 7, 3) := by decide +kernel
theorem dX9_wind_39 : decode cX9_wind 39 = .ok (.iconst 5, 1) := by decide +kernel
theorem dX9_wind_40 : decode cX9_wind 40 = .ok (.iload_n 1, 1) := by decide +kernel
theorem dX9_wind_41 : decode cX9_wind 41 = .ok (.iadd, 1) := by decide +kernel
theorem dX9_wind_42 : decode cX9_wind 42 = .ok (.iaload, 1) := by decide +kernel
theorem dX9_wind_43 : decode cX9_wind 43 = .ok (.istore_n 3, 1) := by decide +kernel
theorem dX9_wind_44 : decode cX9_wind 44 = .ok (.aload_n 0, 1) := by decide +kernel
theorem dX9_wind_45 : decode cX9_wind 45 = .ok (.getfield 7, 3) := by decide +kernel
theorem dX9_wind_48 : decode cX9_wind 48 = .ok (.iconst 5, 1) := by decide +kernel
theorem dX9_wind_49 : decode cX9_wind 49 = .ok (.iload_n 1, 1) := by decide +kernel
theorem dX9_wind_50 : decode cX9_wind 50 = .ok (.iadd, 1) := by decide +kernel
theorem dX9_wind_51 : decode cX9_wind 51 = .ok (.iload_n 2, 1) := by decide +kernel
theorem dX9_wind_52 : decode cX9_wind 52 = .ok (.iastore, 1) := by decide +kernel
theorem dX9_wind_53 : decode cX9_wind 53 = .ok (.iload_n 3, 1) := by decide +kernel
theorem dX9_wind_54 : decode cX9_wind 54 = .ok (.ireturn, 1) := by decide +kernel
theorem dX9_stow_0 : decode cX9_stow 0 = .ok (.iload_n 1, 1) := by decide +kernel
theorem dX9_stow_1 : decode cX9_stow 1 = .ok (.iconst 1, 1) := by decide +kernel
theorem dX9_stow_2 : decode cX9_stow 2 = .ok (.bipush 10, 2) := by decide +kernel
theorem dX9_stow_4 : decode cX9_stow 4 = .ok (.invokestatic 42, 3) := by decide +kernel
theorem dX9_stow_7 : decode cX9_stow 7 = .ok (.ifCond .ne 6, 3) := by decide +kernel
theorem dX9_stow_10 : decode cX9_stow 10 = .ok (.bipush (-2), 2) := by decide +kernel
theorem dX9_stow_12 : decode cX9_stow 12 = .ok (.ireturn, 1) := by decide +kernel
theorem dX9_stow_13 : decode cX9_stow 13 = .ok (.aload_n 0, 1) := by decide +kernel
theorem dX9_stow_14 : decode cX9_stow 14 = .ok (.invokevirtual 99, 3) := by decide +kernel
theorem dX9_stow_17 : decode cX9_stow 17 = .ok (.aload_n 0, 1) := by decide +kernel
theorem dX9_stow_18 : decode cX9_stow 18 = .ok (.getfield 7, 3) := by decide +kernel
theorem dX9_stow_21 : decode cX9_stow 21 = .ok (.iconst 1, 1) := by decide +kernel
theorem dX9_stow_22 : decode cX9_stow 22 = .ok (.iaload, 1) := by decide +kernel
theorem dX9_stow_23 : decode cX9_stow 23 = .ok (.istore_n 2, 1) := by decide +kernel
theorem dX9_stow_24 : decode cX9_stow 24 = .ok (.aload_n 0, 1) := by decide +kernel
theorem dX9_stow_25 : decode cX9_stow 25 = .ok (.getfield 7, 3) := by decide +kernel
theorem dX9_stow_28 : decode cX9_stow 28 = .ok (.iconst 1, 1) := by decide +kernel
theorem dX9_stow_29 : decode cX9_stow 29 = .ok (.iload_n 1, 1) := by decide +kernel
theorem dX9_stow_30 : decode cX9_stow 30 = .ok (.iastore, 1) := by decide +kernel
theorem dX9_stow_31 : decode cX9_stow 31 = .ok (.iload_n 2, 1) := by decide +kernel
theorem dX9_stow_32 : decode cX9_stow 32 = .ok (.ireturn, 1) := by decide +kernel
theorem dX9_whyNotGranted_0 : decode cX9_whyNotGranted 0 = .ok (.aload_n 0, 1) := by decide +kernel
theorem dX9_whyNotGranted_1 : decode cX9_whyNotGranted 1 = .ok (.iload_n 1, 1) := by decide +kernel
theorem dX9_whyNotGranted_2 : decode cX9_whyNotGranted 2 = .ok (.invokevirtual 102, 3) := by decide +kernel
theorem dX9_whyNotGranted_5 : decode cX9_whyNotGranted 5 = .ok (.ifCond .eq 18, 3) := by decide +kernel
theorem dX9_whyNotGranted_8 : decode cX9_whyNotGranted 8 = .ok (.aload_n 0, 1) := by decide +kernel
theorem dX9_whyNotGranted_9 : decode cX9_whyNotGranted 9 = .ok (.iload_n 2, 1) := by decide +kernel
theorem dX9_whyNotGranted_10 : decode cX9_whyNotGranted 10 = .ok (.invokevirtual 102, 3) := by decide +kernel
theorem dX9_whyNotGranted_13 : decode cX9_whyNotGranted 13 = .ok (.ifCond .eq 10, 3) := by decide +kernel
theorem dX9_whyNotGranted_16 : decode cX9_whyNotGranted 16 = .ok (.iload_n 3, 1) := by decide +kernel
theorem dX9_whyNotGranted_17 : decode cX9_whyNotGranted 17 = .ok (.invokestatic 111, 3) := by decide +kernel
theorem dX9_whyNotGranted_20 : decode cX9_whyNotGranted 20 = .ok (.ifCond .ne 5, 3) := by decide +kernel
theorem dX9_whyNotGranted_23 : decode cX9_whyNotGranted 23 = .ok (.iconst (-1), 1) := by decide +kernel
theorem dX9_whyNotGranted_24 : decode cX9_whyNotGranted 24 = .ok (.ireturn, 1) := by decide +kernel
theorem dX9_whyNotGranted_25 : decode cX9_whyNotGranted 25 = .ok (.iload_n 1, 1) := by decide +kernel
theorem dX9_whyNotGranted_26 : decode cX9_whyNotGranted 26 = .ok (.iload_n 2, 1) := by decide +kernel
theorem dX9_whyNotGranted_27 : decode cX9_whyNotGranted 27 = .ok (.if_icmp .eq 15, 3) := by decide +kernel
theorem dX9_whyNotGranted_30 : decode cX9_whyNotGranted 30 = .ok (.iload 4, 2) := by decide +kernel
theorem dX9_whyNotGranted_32 : decode cX9_whyNotGranted 32 = .ok (.iconst 0, 1) := by decide +kernel
theorem dX9_whyNotGranted_33 : decode cX9_whyNotGranted 33 = .ok (.sipush 999, 3) := by decide +kernel
theorem dX9_whyNotGranted_36 : decode cX9_whyNotGranted 36 = .ok (.invokestatic 42, 3) := by decide +kernel
theorem dX9_whyNotGranted_39 : decode cX9_whyNotGranted 39 = .ok (.ifCond .ne 8, 3) := by decide +kernel
theorem dX9_whyNotGranted_42 : decode cX9_whyNotGranted 42 = .ok (.bipush (-2), 2) := by decide +kernel
theorem dX9_whyNotGranted_44 : decode cX9_whyNotGranted 44 = .ok (.goto 4, 3) := by decide +kernel
theorem dX9_whyNotGranted_47 : decode cX9_whyNotGranted 47 = .ok (.iconst 0, 1) := by decide +kernel
theorem dX9_whyNotGranted_48 : decode cX9_whyNotGranted 48 = .ok (.ireturn, 1) := by decide +kernel
theorem dX9_grant_0 : decode cX9_grant 0 = .ok (.aload_n 0, 1) := by decide +kernel
theorem dX9_grant_1 : decode cX9_grant 1 = .ok (.iload_n 1, 1) := by decide +kernel
theorem dX9_grant_2 : decode cX9_grant 2 = .ok (.iload_n 2, 1) := by decide +kernel
theorem dX9_grant_3 : decode cX9_grant 3 = .ok (.iload_n 3, 1) := by decide +kernel
theorem dX9_grant_4 : decode cX9_grant 4 = .ok (.iload 4, 2) := by decide +kernel
theorem dX9_grant_6 : decode cX9_grant 6 = .ok (.invokevirtual 114, 3) := by decide +kernel
theorem dX9_grant_9 : decode cX9_grant 9 = .ok (.istore 5, 2) := by decide +kernel
theorem dX9_grant_11 : decode cX9_grant 11 = .ok (.iload 5, 2) := by decide +kernel
theorem dX9_grant_13 : decode cX9_grant 13 = .ok (.ifCond .ge 6, 3) := by decide +kernel
theorem dX9_grant_16 : decode cX9_grant 16 = .ok (.iload 5, 2) := by decide +kernel
theorem dX9_grant_18 : decode cX9_grant 18 = .ok (.ireturn, 1) := by decide +kernel
theorem dX9_grant_19 : decode cX9_grant 19 = .ok (.aload_n 0, 1) := by decide +kernel
theorem dX9_grant_20 : decode cX9_grant 20 = .ok (.invokevirtual 99, 3) := by decide +kernel
theorem dX9_grant_23 : decode cX9_grant 23 = .ok (.aload_n 0, 1) := by decide +kernel
theorem dX9_grant_24 : decode cX9_grant 24 = .ok (.iload_n 1, 1) := by decide +kernel
theorem dX9_grant_25 : decode cX9_grant 25 = .ok (.iload_n 2, 1) := by decide +kernel
theorem dX9_grant_26 : decode cX9_grant 26 = .ok (.iload_n 3, 1) := by decide +kernel
theorem dX9_grant_27 : decode cX9_grant 27 = .ok (.invokevirtual 58, 3) := by decide +kernel
theorem dX9_grant_30 : decode cX9_grant 30 = .ok (.istore 6, 2) := by decide +kernel
theorem dX9_grant_32 : decode cX9_grant 32 = .ok (.aload_n 0, 1) := by decide +kernel
theorem dX9_grant_33 : decode cX9_grant 33 = .ok (.iload_n 1, 1) := by decide +kernel
theorem dX9_grant_34 : decode cX9_grant 34 = .ok (.iload_n 2, 1) := by decide +kernel
theorem dX9_grant_35 : decode cX9_grant 35 = .ok (.iload_n 3, 1) := by decide +kernel
theorem dX9_grant_36 : decode cX9_grant 36 = .ok (.iload 4, 2) := by decide +kernel
theorem dX9_grant_38 : decode cX9_grant 38 = .ok (.invokevirtual 117, 3) := by decide +kernel
theorem dX9_grant_41 : decode cX9_grant 41 = .ok (.iload 6, 2) := by decide +kernel
theorem dX9_grant_43 : decode cX9_grant 43 = .ok (.ireturn, 1) := by decide +kernel
theorem dX9_areUnits_0 : decode cX9_areUnits 0 = .ok (.iload_n 0, 1) := by decide +kernel
theorem dX9_areUnits_1 : decode cX9_areUnits 1 = .ok (.iconst 1, 1) := by decide +kernel
theorem dX9_areUnits_2 : decode cX9_areUnits 2 = .ok (.sipush 200, 3) := by decide +kernel
theorem dX9_areUnits_5 : decode cX9_areUnits 5 = .ok (.invokestatic 42, 3) := by decide +kernel
theorem dX9_areUnits_8 : decode cX9_areUnits 8 = .ok (.ifCond .eq 18, 3) := by decide +kernel
theorem dX9_areUnits_11 : decode cX9_areUnits 11 = .ok (.iload_n 1, 1) := by decide +kernel
theorem dX9_areUnits_12 : decode cX9_areUnits 12 = .ok (.iconst 0, 1) := by decide +kernel
theorem dX9_areUnits_13 : decode cX9_areUnits 13 = .ok (.sipush 999, 3) := by decide +kernel
theorem dX9_areUnits_16 : decode cX9_areUnits 16 = .ok (.invokestatic 42, 3) := by decide +kernel
theorem dX9_areUnits_19 : decode cX9_areUnits 19 = .ok (.ifCond .eq 7, 3) := by decide +kernel
theorem dX9_areUnits_22 : decode cX9_areUnits 22 = .ok (.iconst 1, 1) := by decide +kernel
theorem dX9_areUnits_23 : decode cX9_areUnits 23 = .ok (.goto 4, 3) := by decide +kernel
theorem dX9_areUnits_26 : decode cX9_areUnits 26 = .ok (.iconst 0, 1) := by decide +kernel
theorem dX9_areUnits_27 : decode cX9_areUnits 27 = .ok (.ireturn, 1) := by decide +kernel
theorem dX9_whyNotAsked_0 : decode cX9_whyNotAsked 0 = .ok (.aload_n 0, 1) := by decide +kernel
theorem dX9_whyNotAsked_1 : decode cX9_whyNotAsked 1 = .ok (.iload_n 1, 1) := by decide +kernel
theorem dX9_whyNotAsked_2 : decode cX9_whyNotAsked 2 = .ok (.invokevirtual 102, 3) := by decide +kernel
theorem dX9_whyNotAsked_5 : decode cX9_whyNotAsked 5 = .ok (.ifCond .eq 10, 3) := by decide +kernel
theorem dX9_whyNotAsked_8 : decode cX9_whyNotAsked 8 = .ok (.iload_n 2, 1) := by decide +kernel
theorem dX9_whyNotAsked_9 : decode cX9_whyNotAsked 9 = .ok (.invokestatic 111, 3) := by decide +kernel
theorem dX9_whyNotAsked_12 : decode cX9_whyNotAsked 12 = .ok (.ifCond .ne 5, 3) := by decide +kernel
theorem dX9_whyNotAsked_15 : decode cX9_whyNotAsked 15 = .ok (.iconst (-1), 1) := by decide +kernel
theorem dX9_whyNotAsked_16 : decode cX9_whyNotAsked 16 = .ok (.ireturn, 1) := by decide +kernel
theorem dX9_whyNotAsked_17 : decode cX9_whyNotAsked 17 = .ok (.iload_n 3, 1) := by decide +kernel
theorem dX9_whyNotAsked_18 : decode cX9_whyNotAsked 18 = .ok (.iload 4, 2) := by decide +kernel
theorem dX9_whyNotAsked_20 : decode cX9_whyNotAsked 20 = .ok (.invokestatic 121, 3) := by decide +kernel
theorem dX9_whyNotAsked_23 : decode cX9_whyNotAsked 23 = .ok (.ifCond .ne 8, 3) := by decide +kernel
theorem dX9_whyNotAsked_26 : decode cX9_whyNotAsked 26 = .ok (.bipush (-2), 2) := by decide +kernel
theorem dX9_whyNotAsked_28 : decode cX9_whyNotAsked 28 = .ok (.goto 20, 3) := by decide +kernel
theorem dX9_whyNotAsked_31 : decode cX9_whyNotAsked 31 = .ok (.aload_n 0, 1) := by decide +kernel
theorem dX9_whyNotAsked_32 : decode cX9_whyNotAsked 32 = .ok (.getfield 7, 3) := by decide +kernel
theorem dX9_whyNotAsked_35 : decode cX9_whyNotAsked 35 = .ok (.iconst 3, 1) := by decide +kernel
theorem dX9_whyNotAsked_36 : decode cX9_whyNotAsked 36 = .ok (.iaload, 1) := by decide +kernel
theorem dX9_whyNotAsked_37 : decode cX9_whyNotAsked 37 = .ok (.bipush 10, 2) := by decide +kernel
theorem dX9_whyNotAsked_39 : decode cX9_whyNotAsked 39 = .ok (.if_icmp .ne 8, 3) := by decide +kernel
theorem dX9_whyNotAsked_42 : decode cX9_whyNotAsked 42 = .ok (.bipush (-4), 2) := by decide +kernel
theorem dX9_whyNotAsked_44 : decode cX9_whyNotAsked 44 = .ok (.goto 4, 3) := by decide +kernel
theorem dX9_whyNotAsked_47 : decode cX9_whyNotAsked 47 = .ok (.iconst 0, 1) := by decide +kernel
theorem dX9_whyNotAsked_48 : decode cX9_whyNotAsked 48 = .ok (.ireturn, 1) := by decide +kernel
theorem dX9_asked_0 : decode cX9_asked 0 = .ok (.sipush 399, 3) := by decide +kernel
theorem dX9_asked_3 : decode cX9_asked 3 = .ok (.iconst 4, 1) := by decide +kernel
theorem dX9_asked_4 : decode cX9_asked 4 = .ok (.aload_n 0, 1) := by decide +kernel
theorem dX9_asked_5 : decode cX9_asked 5 = .ok (.getfield 7, 3) := by decide +kernel
theorem dX9_asked_8 : decode cX9_asked 8 = .ok (.iconst 3, 1) := by decide +kernel
theorem dX9_asked_9 : decode cX9_asked 9 = .ok (.iaload, 1) := by decide +kernel
theorem dX9_asked_10 : decode cX9_asked 10 = .ok (.imul, 1) := by decide +kernel
theorem dX9_asked_11 : decode cX9_asked 11 = .ok (.iadd, 1) := by decide +kernel
theorem dX9_asked_12 : decode cX9_asked 12 = .ok (.istore 5, 2) := by decide +kernel
theorem dX9_asked_14 : decode cX9_asked 14 = .ok (.aload_n 0, 1) := by decide +kernel
theorem dX9_asked_15 : decode cX9_asked 15 = .ok (.getfield 7, 3) := by decide +kernel
theorem dX9_asked_18 : decode cX9_asked 18 = .ok (.iload 5, 2) := by decide +kernel
theorem dX9_asked_20 : decode cX9_asked 20 = .ok (.iconst 0, 1) := by decide +kernel
theorem dX9_asked_21 : decode cX9_asked 21 = .ok (.iadd, 1) := by decide +kernel
theorem dX9_asked_22 : decode cX9_asked 22 = .ok (.iload_n 1, 1) := by decide +kernel
theorem dX9_asked_23 : decode cX9_asked 23 = .ok (.iastore, 1) := by decide +kernel
theorem dX9_asked_24 : decode cX9_asked 24 = .ok (.aload_n 0, 1) := by decide +kernel
theorem dX9_asked_25 : decode cX9_asked 25 = .ok (.getfield 7, 3) := by decide +kernel
theorem dX9_asked_28 : decode cX9_asked 28 = .ok (.iload 5, 2) := by decide +kernel
theorem dX9_asked_30 : decode cX9_asked 30 = .ok (.iconst 1, 1) := by decide +kernel
theorem dX9_asked_31 : decode cX9_asked 31 = .ok (.iadd, 1) := by decide +kernel
theorem dX9_asked_32 : decode cX9_asked 32 = .ok (.iload_n 2, 1) := by decide +kernel
theorem dX9_asked_33 : decode cX9_asked 33 = .ok (.iastore, 1) := by decide +kernel
theorem dX9_asked_34 : decode cX9_asked 34 = .ok (.aload_n 0, 1) := by decide +kernel
theorem dX9_asked_35 : decode cX9_asked 35 = .ok (.getfield 7, 3) := by decide +kernel
theorem dX9_asked_38 : decode cX9_asked 38 = .ok (.iload 5, 2) := by decide +kernel
theorem dX9_asked_40 : decode cX9_asked 40 = .ok (.iconst 2, 1) := by decide +kernel
theorem dX9_asked_41 : decode cX9_asked 41 = .ok (.iadd, 1) := by decide +kernel
theorem dX9_asked_42 : decode cX9_asked 42 = .ok (.iload_n 3, 1) := by decide +kernel
theorem dX9_asked_43 : decode cX9_asked 43 = .ok (.iastore, 1) := by decide +kernel
theorem dX9_asked_44 : decode cX9_asked 44 = .ok (.aload_n 0, 1) := by decide +kernel
theorem dX9_asked_45 : decode cX9_asked 45 = .ok (.getfield 7, 3) := by decide +kernel
theorem dX9_asked_48 : decode cX9_asked 48 = .ok (.iload 5, 2) := by decide +kernel
theorem dX9_asked_50 : decode cX9_asked 50 = .ok (.iconst 3, 1) := by decide +kernel
theorem dX9_asked_51 : decode cX9_asked 51 = .ok (.iadd, 1) := by decide +kernel
theorem dX9_asked_52 : decode cX9_asked 52 = .ok (.iload 4, 2) := by decide +kernel
theorem dX9_asked_54 : decode cX9_asked 54 = .ok (.iastore, 1) := by decide +kernel
theorem dX9_asked_55 : decode cX9_asked 55 = .ok (.aload_n 0, 1) := by decide +kernel
theorem dX9_asked_56 : decode cX9_asked 56 = .ok (.getfield 7, 3) := by decide +kernel
theorem dX9_asked_59 : decode cX9_asked 59 = .ok (.iconst 3, 1) := by decide +kernel
theorem dX9_asked_60 : decode cX9_asked 60 = .ok (.dup2, 1) := by decide +kernel
theorem dX9_asked_61 : decode cX9_asked 61 = .ok (.iaload, 1) := by decide +kernel
theorem dX9_asked_62 : decode cX9_asked 62 = .ok (.iconst 1, 1) := by decide +kernel
theorem dX9_asked_63 : decode cX9_asked 63 = .ok (.iadd, 1) := by decide +kernel
theorem dX9_asked_64 : decode cX9_asked 64 = .ok (.iastore, 1) := by decide +kernel
theorem dX9_asked_65 : decode cX9_asked 65 = .ok (.aload_n 0, 1) := by decide +kernel
theorem dX9_asked_66 : decode cX9_asked 66 = .ok (.getfield 7, 3) := by decide +kernel
theorem dX9_asked_69 : decode cX9_asked 69 = .ok (.iconst 3, 1) := by decide +kernel
theorem dX9_asked_70 : decode cX9_asked 70 = .ok (.iaload, 1) := by decide +kernel
theorem dX9_asked_71 : decode cX9_asked 71 = .ok (.ireturn, 1) := by decide +kernel
theorem dX9_ask_0 : decode cX9_ask 0 = .ok (.aload_n 0, 1) := by decide +kernel
theorem dX9_ask_1 : decode cX9_ask 1 = .ok (.iload_n 1, 1) := by decide +kernel
theorem dX9_ask_2 : decode cX9_ask 2 = .ok (.iload_n 2, 1) := by decide +kernel
theorem dX9_ask_3 : decode cX9_ask 3 = .ok (.iload_n 3, 1) := by decide +kernel
theorem dX9_ask_4 : decode cX9_ask 4 = .ok (.iload 4, 2) := by decide +kernel
theorem dX9_ask_6 : decode cX9_ask 6 = .ok (.invokevirtual 125, 3) := by decide +kernel
theorem dX9_ask_9 : decode cX9_ask 9 = .ok (.istore 5, 2) := by decide +kernel
theorem dX9_ask_11 : decode cX9_ask 11 = .ok (.iload 5, 2) := by decide +kernel
theorem dX9_ask_13 : decode cX9_ask 13 = .ok (.ifCond .ge 6, 3) := by decide +kernel
theorem dX9_ask_16 : decode cX9_ask 16 = .ok (.iload 5, 2) := by decide +kernel
theorem dX9_ask_18 : decode cX9_ask 18 = .ok (.ireturn, 1) := by decide +kernel
theorem dX9_ask_19 : decode cX9_ask 19 = .ok (.aload_n 0, 1) := by decide +kernel
theorem dX9_ask_20 : decode cX9_ask 20 = .ok (.invokevirtual 99, 3) := by decide +kernel
theorem dX9_ask_23 : decode cX9_ask 23 = .ok (.aload_n 0, 1) := by decide +kernel
theorem dX9_ask_24 : decode cX9_ask 24 = .ok (.iload_n 1, 1) := by decide +kernel
theorem dX9_ask_25 : decode cX9_ask 25 = .ok (.iload_n 2, 1) := by decide +kernel
theorem dX9_ask_26 : decode cX9_ask 26 = .ok (.iload_n 3, 1) := by decide +kernel
theorem dX9_ask_27 : decode cX9_ask 27 = .ok (.iload 4, 2) := by decide +kernel
theorem dX9_ask_29 : decode cX9_ask 29 = .ok (.invokevirtual 128, 3) := by decide +kernel
theorem dX9_ask_32 : decode cX9_ask 32 = .ok (.ireturn, 1) := by decide +kernel
theorem dX9_whyNotBid_0 : decode cX9_whyNotBid 0 = .ok (.aload_n 0, 1) := by decide +kernel
theorem dX9_whyNotBid_1 : decode cX9_whyNotBid 1 = .ok (.iload_n 1, 1) := by decide +kernel
theorem dX9_whyNotBid_2 : decode cX9_whyNotBid 2 = .ok (.invokevirtual 102, 3) := by decide +kernel
theorem dX9_whyNotBid_5 : decode cX9_whyNotBid 5 = .ok (.ifCond .eq 18, 3) := by decide +kernel
theorem dX9_whyNotBid_8 : decode cX9_whyNotBid 8 = .ok (.aload_n 0, 1) := by decide +kernel
theorem dX9_whyNotBid_9 : decode cX9_whyNotBid 9 = .ok (.iload_n 2, 1) := by decide +kernel
theorem dX9_whyNotBid_10 : decode cX9_whyNotBid 10 = .ok (.invokevirtual 102, 3) := by decide +kernel
theorem dX9_whyNotBid_13 : decode cX9_whyNotBid 13 = .ok (.ifCond .eq 10, 3) := by decide +kernel
theorem dX9_whyNotBid_16 : decode cX9_whyNotBid 16 = .ok (.iload_n 3, 1) := by decide +kernel
theorem dX9_whyNotBid_17 : decode cX9_whyNotBid 17 = .ok (.invokestatic 111, 3) := by decide +kernel
theorem dX9_whyNotBid_20 : decode cX9_whyNotBid 20 = .ok (.ifCond .ne 5, 3) := by decide +kernel
theorem dX9_whyNotBid_23 : decode cX9_whyNotBid 23 = .ok (.iconst (-1), 1) := by decide +kernel
theorem dX9_whyNotBid_24 : decode cX9_whyNotBid 24 = .ok (.ireturn, 1) := by decide +kernel
theorem dX9_whyNotBid_25 : decode cX9_whyNotBid 25 = .ok (.iload_n 1, 1) := by decide +kernel
theorem dX9_whyNotBid_26 : decode cX9_whyNotBid 26 = .ok (.iload_n 2, 1) := by decide +kernel
theorem dX9_whyNotBid_27 : decode cX9_whyNotBid 27 = .ok (.if_icmp .eq 13, 3) := by decide +kernel
theorem dX9_whyNotBid_30 : decode cX9_whyNotBid 30 = .ok (.iload 4, 2) := by decide +kernel
theorem dX9_whyNotBid_32 : decode cX9_whyNotBid 32 = .ok (.iload 5, 2) := by decide +kernel
theorem dX9_whyNotBid_34 : decode cX9_whyNotBid 34 = .ok (.invokestatic 121, 3) := by decide +kernel
theorem dX9_whyNotBid_37 : decode cX9_whyNotBid 37 = .ok (.ifCond .ne 8, 3) := by decide +kernel
theorem dX9_whyNotBid_40 : decode cX9_whyNotBid 40 = .ok (.bipush (-2), 2) := by decide +kernel
theorem dX9_whyNotBid_42 : decode cX9_whyNotBid 42 = .ok (.goto 20, 3) := by decide +kernel
theorem dX9_whyNotBid_45 : decode cX9_whyNotBid 45 = .ok (.aload_n 0, 1) := by decide +kernel
theorem dX9_whyNotBid_46 : decode cX9_whyNotBid 46 = .ok (.getfield 7, 3) := by decide +kernel
theorem dX9_whyNotBid_49 : decode cX9_whyNotBid 49 = .ok (.iconst 4, 1) := by decide +kernel
theorem dX9_whyNotBid_50 : decode cX9_whyNotBid 50 = .ok (.iaload, 1) := by decide +kernel
theorem dX9_whyNotBid_51 : decode cX9_whyNotBid 51 = .ok (.bipush 10, 2) := by decide +kernel
theorem dX9_whyNotBid_53 : decode cX9_whyNotBid 53 = .ok (.if_icmp .ne 8, 3) := by decide +kernel
theorem dX9_whyNotBid_56 : decode cX9_whyNotBid 56 = .ok (.bipush (-4), 2) := by decide +kernel
theorem dX9_whyNotBid_58 : decode cX9_whyNotBid 58 = .ok (.goto 4, 3) := by decide +kernel
theorem dX9_whyNotBid_61 : decode cX9_whyNotBid 61 = .ok (.iconst 0, 1) := by decide +kernel
theorem dX9_whyNotBid_62 : decode cX9_whyNotBid 62 = .ok (.ireturn, 1) := by decide +kernel
theorem dX9_bought_0 : decode cX9_bought 0 = .ok (.sipush 439, 3) := by decide +kernel
theorem dX9_bought_3 : decode cX9_bought 3 = .ok (.iconst 5, 1) := by decide +kernel
theorem dX9_bought_4 : decode cX9_bought 4 = .ok (.aload_n 0, 1) := by decide +kernel
theorem dX9_bought_5 : decode cX9_bought 5 = .ok (.getfield 7, 3) := by decide +kernel
theorem dX9_bought_8 : decode cX9_bought 8 = .ok (.iconst 4, 1) := by decide +kernel
theorem dX9_bought_9 : decode cX9_bought 9 = .ok (.iaload, 1) := by decide +kernel
theorem dX9_bought_10 : decode cX9_bought 10 = .ok (.imul, 1) := by decide +kernel
theorem dX9_bought_11 : decode cX9_bought 11 = .ok (.iadd, 1) := by decide +kernel
theorem dX9_bought_12 : decode cX9_bought 12 = .ok (.istore 6, 2) := by decide +kernel
theorem dX9_bought_14 : decode cX9_bought 14 = .ok (.aload_n 0, 1) := by decide +kernel
theorem dX9_bought_15 : decode cX9_bought 15 = .ok (.getfield 7, 3) := by decide +kernel
theorem dX9_bought_18 : decode cX9_bought 18 = .ok (.iload 6, 2) := by decide +kernel
theorem dX9_bought_20 : decode cX9_bought 20 = .ok (.iconst 0, 1) := by decide +kernel
theorem dX9_bought_21 : decode cX9_bought 21 = .ok (.iadd, 1) := by decide +kernel
theorem dX9_bought_22 : decode cX9_bought 22 = .ok (.iload_n 2, 1) := by decide +kernel
theorem dX9_bought_23 : decode cX9_bought 23 = .ok (.iastore, 1) := by decide +kernel
theorem dX9_bought_24 : decode cX9_bought 24 = .ok (.aload_n 0, 1) := by decide +kernel
theorem dX9_bought_25 : decode cX9_bought 25 = .ok (.getfield 7, 3) := by decide +kernel
theorem dX9_bought_28 : decode cX9_bought 28 = .ok (.iload 6, 2) := by decide +kernel
theorem dX9_bought_30 : decode cX9_bought 30 = .ok (.iconst 1, 1) := by decide +kernel
theorem dX9_bought_31 : decode cX9_bought 31 = .ok (.iadd, 1) := by decide +kernel
theorem dX9_bought_32 : decode cX9_bought 32 = .ok (.iload_n 3, 1) := by decide +kernel
theorem dX9_bought_33 : decode cX9_bought 33 = .ok (.iastore, 1) := by decide +kernel
theorem dX9_bought_34 : decode cX9_bought 34 = .ok (.aload_n 0, 1) := by decide +kernel
theorem dX9_bought_35 : decode cX9_bought 35 = .ok (.getfield 7, 3) := by decide +kernel
theorem dX9_bought_38 : decode cX9_bought 38 = .ok (.iload 6, 2) := by decide +kernel
theorem dX9_bought_40 : decode cX9_bought 40 = .ok (.iconst 2, 1) := by decide +kernel
theorem dX9_bought_41 : decode cX9_bought 41 = .ok (.iadd, 1) := by decide +kernel
theorem dX9_bought_42 : decode cX9_bought 42 = .ok (.iload 4, 2) := by decide +kernel
theorem dX9_bought_44 : decode cX9_bought 44 = .ok (.iastore, 1) := by decide +kernel
theorem dX9_bought_45 : decode cX9_bought 45 = .ok (.aload_n 0, 1) := by decide +kernel
theorem dX9_bought_46 : decode cX9_bought 46 = .ok (.getfield 7, 3) := by decide +kernel
theorem dX9_bought_49 : decode cX9_bought 49 = .ok (.iload 6, 2) := by decide +kernel
theorem dX9_bought_51 : decode cX9_bought 51 = .ok (.iconst 3, 1) := by decide +kernel
theorem dX9_bought_52 : decode cX9_bought 52 = .ok (.iadd, 1) := by decide +kernel
theorem dX9_bought_53 : decode cX9_bought 53 = .ok (.iload 5, 2) := by decide +kernel
theorem dX9_bought_55 : decode cX9_bought 55 = .ok (.iastore, 1) := by decide +kernel
theorem dX9_bought_56 : decode cX9_bought 56 = .ok (.aload_n 0, 1) := by decide +kernel
theorem dX9_bought_57 : decode cX9_bought 57 = .ok (.getfield 7, 3) := by decide +kernel
theorem dX9_bought_60 : decode cX9_bought 60 = .ok (.iload 6, 2) := by decide +kernel
theorem dX9_bought_62 : decode cX9_bought 62 = .ok (.iconst 4, 1) := by decide +kernel
theorem dX9_bought_63 : decode cX9_bought 63 = .ok (.iadd, 1) := by decide +kernel
theorem dX9_bought_64 : decode cX9_bought 64 = .ok (.iload_n 1, 1) := by decide +kernel
theorem dX9_bought_65 : decode cX9_bought 65 = .ok (.iastore, 1) := by decide +kernel
theorem dX9_bought_66 : decode cX9_bought 66 = .ok (.aload_n 0, 1) := by decide +kernel
theorem dX9_bought_67 : decode cX9_bought 67 = .ok (.getfield 7, 3) := by decide +kernel
theorem dX9_bought_70 : decode cX9_bought 70 = .ok (.iconst 4, 1) := by decide +kernel
theorem dX9_bought_71 : decode cX9_bought 71 = .ok (.dup2, 1) := by decide +kernel
theorem dX9_bought_72 : decode cX9_bought 72 = .ok (.iaload, 1) := by decide +kernel
theorem dX9_bought_73 : decode cX9_bought 73 = .ok (.iconst 1, 1) := by decide +kernel
theorem dX9_bought_74 : decode cX9_bought 74 = .ok (.iadd, 1) := by decide +kernel
theorem dX9_bought_75 : decode cX9_bought 75 = .ok (.iastore, 1) := by decide +kernel
theorem dX9_bought_76 : decode cX9_bought 76 = .ok (.aload_n 0, 1) := by decide +kernel
theorem dX9_bought_77 : decode cX9_bought 77 = .ok (.getfield 7, 3) := by decide +kernel
theorem dX9_bought_80 : decode cX9_bought 80 = .ok (.iconst 4, 1) := by decide +kernel
theorem dX9_bought_81 : decode cX9_bought 81 = .ok (.iaload, 1) := by decide +kernel
theorem dX9_bought_82 : decode cX9_bought 82 = .ok (.ireturn, 1) := by decide +kernel
theorem dX9_bid_0 : decode cX9_bid 0 = .ok (.aload_n 0, 1) := by decide +kernel
theorem dX9_bid_1 : decode cX9_bid 1 = .ok (.iload_n 1, 1) := by decide +kernel
theorem dX9_bid_2 : decode cX9_bid 2 = .ok (.iload_n 2, 1) := by decide +kernel
theorem dX9_bid_3 : decode cX9_bid 3 = .ok (.iload_n 3, 1) := by decide +kernel
theorem dX9_bid_4 : decode cX9_bid 4 = .ok (.iload 4, 2) := by decide +kernel
theorem dX9_bid_6 : decode cX9_bid 6 = .ok (.iload 5, 2) := by decide +kernel
theorem dX9_bid_8 : decode cX9_bid 8 = .ok (.invokevirtual 131, 3) := by decide +kernel
theorem dX9_bid_11 : decode cX9_bid 11 = .ok (.istore 6, 2) := by decide +kernel
theorem dX9_bid_13 : decode cX9_bid 13 = .ok (.iload 6, 2) := by decide +kernel
theorem dX9_bid_15 : decode cX9_bid 15 = .ok (.ifCond .ge 6, 3) := by decide +kernel
theorem dX9_bid_18 : decode cX9_bid 18 = .ok (.iload 6, 2) := by decide +kernel
theorem dX9_bid_20 : decode cX9_bid 20 = .ok (.ireturn, 1) := by decide +kernel
theorem dX9_bid_21 : decode cX9_bid 21 = .ok (.aload_n 0, 1) := by decide +kernel
theorem dX9_bid_22 : decode cX9_bid 22 = .ok (.invokevirtual 99, 3) := by decide +kernel
theorem dX9_bid_25 : decode cX9_bid 25 = .ok (.aload_n 0, 1) := by decide +kernel
theorem dX9_bid_26 : decode cX9_bid 26 = .ok (.iload_n 1, 1) := by decide +kernel
theorem dX9_bid_27 : decode cX9_bid 27 = .ok (.iload_n 2, 1) := by decide +kernel
theorem dX9_bid_28 : decode cX9_bid 28 = .ok (.iload_n 3, 1) := by decide +kernel
theorem dX9_bid_29 : decode cX9_bid 29 = .ok (.iload 4, 2) := by decide +kernel
theorem dX9_bid_31 : decode cX9_bid 31 = .ok (.iload 5, 2) := by decide +kernel
theorem dX9_bid_33 : decode cX9_bid 33 = .ok (.invokevirtual 135, 3) := by decide +kernel
theorem dX9_bid_36 : decode cX9_bid 36 = .ok (.ireturn, 1) := by decide +kernel
theorem dX9_dropAsk_0 : decode cX9_dropAsk 0 = .ok (.sipush 399, 3) := by decide +kernel
theorem dX9_dropAsk_3 : decode cX9_dropAsk 3 = .ok (.iconst 4, 1) := by decide +kernel
theorem dX9_dropAsk_4 : decode cX9_dropAsk 4 = .ok (.iload_n 1, 1) := by decide +kernel
theorem dX9_dropAsk_5 : decode cX9_dropAsk 5 = .ok (.imul, 1) := by decide +kernel
theorem dX9_dropAsk_6 : decode cX9_dropAsk 6 = .ok (.iadd, 1) := by decide +kernel
theorem dX9_dropAsk_7 : decode cX9_dropAsk 7 = .ok (.istore_n 2, 1) := by decide +kernel
theorem dX9_dropAsk_8 : decode cX9_dropAsk 8 = .ok (.iload_n 2, 1) := by decide +kernel
theorem dX9_dropAsk_9 : decode cX9_dropAsk 9 = .ok (.sipush 399, 3) := by decide +kernel
theorem dX9_dropAsk_12 : decode cX9_dropAsk 12 = .ok (.iconst 4, 1) := by decide +kernel
theorem dX9_dropAsk_13 : decode cX9_dropAsk 13 = .ok (.aload_n 0, 1) := by decide +kernel
theorem dX9_dropAsk_14 : decode cX9_dropAsk 14 = .ok (.getfield 7, 3) := by decide +kernel
theorem dX9_dropAsk_17 : decode cX9_dropAsk 17 = .ok (.iconst 3, 1) := by decide +kernel
theorem dX9_dropAsk_18 : decode cX9_dropAsk 18 = .ok (.iaload, 1) := by decide +kernel
theorem dX9_dropAsk_19 : decode cX9_dropAsk 19 = .ok (.iconst 1, 1) := by decide +kernel
theorem dX9_dropAsk_20 : decode cX9_dropAsk 20 = .ok (.isub, 1) := by decide +kernel
theorem dX9_dropAsk_21 : decode cX9_dropAsk 21 = .ok (.imul, 1) := by decide +kernel
theorem dX9_dropAsk_22 : decode cX9_dropAsk 22 = .ok (.iadd, 1) := by decide +kernel
theorem dX9_dropAsk_23 : decode cX9_dropAsk 23 = .ok (.if_icmp .ge 23, 3) := by decide +kernel
theorem dX9_dropAsk_26 : decode cX9_dropAsk 26 = .ok (.aload_n 0, 1) := by decide +kernel
theorem dX9_dropAsk_27 : decode cX9_dropAsk 27 = .ok (.getfield 7, 3) := by decide +kernel
theorem dX9_dropAsk_30 : decode cX9_dropAsk 30 = .ok (.iload_n 2, 1) := by decide +kernel
theorem dX9_dropAsk_31 : decode cX9_dropAsk 31 = .ok (.aload_n 0, 1) := by decide +kernel
theorem dX9_dropAsk_32 : decode cX9_dropAsk 32 = .ok (.getfield 7, 3) := by decide +kernel
theorem dX9_dropAsk_35 : decode cX9_dropAsk 35 = .ok (.iload_n 2, 1) := by decide +kernel
theorem dX9_dropAsk_36 : decode cX9_dropAsk 36 = .ok (.iconst 4, 1) := by decide +kernel
theorem dX9_dropAsk_37 : decode cX9_dropAsk 37 = .ok (.iadd, 1) := by decide +kernel
theorem dX9_dropAsk_38 : decode cX9_dropAsk 38 = .ok (.iaload, 1) := by decide +kernel
theorem dX9_dropAsk_39 : decode cX9_dropAsk 39 = .ok (.iastore, 1) := by decide +kernel
theorem dX9_dropAsk_40 : decode cX9_dropAsk 40 = .ok (.iinc 2 1, 3) := by decide +kernel
theorem dX9_dropAsk_43 : decode cX9_dropAsk 43 = .ok (.goto (-35), 3) := by decide +kernel
theorem dX9_dropAsk_46 : decode cX9_dropAsk 46 = .ok (.aload_n 0, 1) := by decide +kernel
theorem dX9_dropAsk_47 : decode cX9_dropAsk 47 = .ok (.getfield 7, 3) := by decide +kernel
theorem dX9_dropAsk_50 : decode cX9_dropAsk 50 = .ok (.iconst 3, 1) := by decide +kernel
theorem dX9_dropAsk_51 : decode cX9_dropAsk 51 = .ok (.dup2, 1) := by decide +kernel
theorem dX9_dropAsk_52 : decode cX9_dropAsk 52 = .ok (.iaload, 1) := by decide +kernel
theorem dX9_dropAsk_53 : decode cX9_dropAsk 53 = .ok (.iconst 1, 1) := by decide +kernel
theorem dX9_dropAsk_54 : decode cX9_dropAsk 54 = .ok (.isub, 1) := by decide +kernel
theorem dX9_dropAsk_55 : decode cX9_dropAsk 55 = .ok (.iastore, 1) := by decide +kernel
theorem dX9_dropAsk_56 : decode cX9_dropAsk 56 = .ok (.return_, 1) := by decide +kernel
theorem dX9_dropBid_0 : decode cX9_dropBid 0 = .ok (.sipush 439, 3) := by decide +kernel
theorem dX9_dropBid_3 : decode cX9_dropBid 3 = .ok (.iconst 5, 1) := by decide +kernel
theorem dX9_dropBid_4 : decode cX9_dropBid 4 = .ok (.iload_n 1, 1) := by decide +kernel
theorem dX9_dropBid_5 : decode cX9_dropBid 5 = .ok (.imul, 1) := by decide +kernel
theorem dX9_dropBid_6 : decode cX9_dropBid 6 = .ok (.iadd, 1) := by decide +kernel
theorem dX9_dropBid_7 : decode cX9_dropBid 7 = .ok (.istore_n 2, 1) := by decide +kernel
theorem dX9_dropBid_8 : decode cX9_dropBid 8 = .ok (.iload_n 2, 1) := by decide +kernel
theorem dX9_dropBid_9 : decode cX9_dropBid 9 = .ok (.sipush 439, 3) := by decide +kernel
theorem dX9_dropBid_12 : decode cX9_dropBid 12 = .ok (.iconst 5, 1) := by decide +kernel
theorem dX9_dropBid_13 : decode cX9_dropBid 13 = .ok (.aload_n 0, 1) := by decide +kernel
theorem dX9_dropBid_14 : decode cX9_dropBid 14 = .ok (.getfield 7, 3) := by decide +kernel
theorem dX9_dropBid_17 : decode cX9_dropBid 17 = .ok (.iconst 4, 1) := by decide +kernel
theorem dX9_dropBid_18 : decode cX9_dropBid 18 = .ok (.iaload, 1) := by decide +kernel
theorem dX9_dropBid_19 : decode cX9_dropBid 19 = .ok (.iconst 1, 1) := by decide +kernel
theorem dX9_dropBid_20 : decode cX9_dropBid 20 = .ok (.isub, 1) := by decide +kernel
theorem dX9_dropBid_21 : decode cX9_dropBid 21 = .ok (.imul, 1) := by decide +kernel
theorem dX9_dropBid_22 : decode cX9_dropBid 22 = .ok (.iadd, 1) := by decide +kernel
theorem dX9_dropBid_23 : decode cX9_dropBid 23 = .ok (.if_icmp .ge 23, 3) := by decide +kernel
theorem dX9_dropBid_26 : decode cX9_dropBid 26 = .ok (.aload_n 0, 1) := by decide +kernel
theorem dX9_dropBid_27 : decode cX9_dropBid 27 = .ok (.getfield 7, 3) := by decide +kernel
theorem dX9_dropBid_30 : decode cX9_dropBid 30 = .ok (.iload_n 2, 1) := by decide +kernel
theorem dX9_dropBid_31 : decode cX9_dropBid 31 = .ok (.aload_n 0, 1) := by decide +kernel
theorem dX9_dropBid_32 : decode cX9_dropBid 32 = .ok (.getfield 7, 3) := by decide +kernel
theorem dX9_dropBid_35 : decode cX9_dropBid 35 = .ok (.iload_n 2, 1) := by decide +kernel
theorem dX9_dropBid_36 : decode cX9_dropBid 36 = .ok (.iconst 5, 1) := by decide +kernel
theorem dX9_dropBid_37 : decode cX9_dropBid 37 = .ok (.iadd, 1) := by decide +kernel
theorem dX9_dropBid_38 : decode cX9_dropBid 38 = .ok (.iaload, 1) := by decide +kernel
theorem dX9_dropBid_39 : decode cX9_dropBid 39 = .ok (.iastore, 1) := by decide +kernel
theorem dX9_dropBid_40 : decode cX9_dropBid 40 = .ok (.iinc 2 1, 3) := by decide +kernel
theorem dX9_dropBid_43 : decode cX9_dropBid 43 = .ok (.goto (-35), 3) := by decide +kernel
theorem dX9_dropBid_46 : decode cX9_dropBid 46 = .ok (.aload_n 0, 1) := by decide +kernel
theorem dX9_dropBid_47 : decode cX9_dropBid 47 = .ok (.getfield 7, 3) := by decide +kernel
theorem dX9_dropBid_50 : decode cX9_dropBid 50 = .ok (.iconst 4, 1) := by decide +kernel
theorem dX9_dropBid_51 : decode cX9_dropBid 51 = .ok (.dup2, 1) := by decide +kernel
theorem dX9_dropBid_52 : decode cX9_dropBid 52 = .ok (.iaload, 1) := by decide +kernel
theorem dX9_dropBid_53 : decode cX9_dropBid 53 = .ok (.iconst 1, 1) := by decide +kernel
theorem dX9_dropBid_54 : decode cX9_dropBid 54 = .ok (.isub, 1) := by decide +kernel
theorem dX9_dropBid_55 : decode cX9_dropBid 55 = .ok (.iastore, 1) := by decide +kernel
theorem dX9_dropBid_56 : decode cX9_dropBid 56 = .ok (.return_, 1) := by decide +kernel
theorem dX9_takeBack_0 : decode cX9_takeBack 0 = .ok (.iload_n 1, 1) := by decide +kernel
theorem dX9_takeBack_1 : decode cX9_takeBack 1 = .ok (.iconst 0, 1) := by decide +kernel
theorem dX9_takeBack_2 : decode cX9_takeBack 2 = .ok (.iconst 1, 1) := by decide +kernel
theorem dX9_takeBack_3 : decode cX9_takeBack 3 = .ok (.invokestatic 42, 3) := by decide +kernel
theorem dX9_takeBack_6 : decode cX9_takeBack 6 = .ok (.ifCond .ne 6, 3) := by decide +kernel
theorem dX9_takeBack_9 : decode cX9_takeBack 9 = .ok (.bipush (-2), 2) := by decide +kernel
theorem dX9_takeBack_11 : decode cX9_takeBack 11 = .ok (.ireturn, 1) := by decide +kernel
theorem dX9_takeBack_12 : decode cX9_takeBack 12 = .ok (.iload_n 2, 1) := by decide +kernel
theorem dX9_takeBack_13 : decode cX9_takeBack 13 = .ok (.iconst 0, 1) := by decide +kernel
theorem dX9_takeBack_14 : decode cX9_takeBack 14 = .ok (.aload_n 0, 1) := by decide +kernel
theorem dX9_takeBack_15 : decode cX9_takeBack 15 = .ok (.getfield 7, 3) := by decide +kernel
theorem dX9_takeBack_18 : decode cX9_takeBack 18 = .ok (.iconst 3, 1) := by decide +kernel
theorem dX9_takeBack_19 : decode cX9_takeBack 19 = .ok (.iload_n 1, 1) := by decide +kernel
theorem dX9_takeBack_20 : decode cX9_takeBack 20 = .ok (.iadd, 1) := by decide +kernel
theorem dX9_takeBack_21 : decode cX9_takeBack 21 = .ok (.iaload, 1) := by decide +kernel
theorem dX9_takeBack_22 : decode cX9_takeBack 22 = .ok (.iconst 1, 1) := by decide +kernel
theorem dX9_takeBack_23 : decode cX9_takeBack 23 = .ok (.isub, 1) := by decide +kernel
theorem dX9_takeBack_24 : decode cX9_takeBack 24 = .ok (.invokestatic 42, 3) := by decide +kernel
theorem dX9_takeBack_27 : decode cX9_takeBack 27 = .ok (.ifCond .ne 5, 3) := by decide +kernel
theorem dX9_takeBack_30 : decode cX9_takeBack 30 = .ok (.iconst (-1), 1) := by decide +kernel
theorem dX9_takeBack_31 : decode cX9_takeBack 31 = .ok (.ireturn, 1) := by decide +kernel
theorem dX9_takeBack_32 : decode cX9_takeBack 32 = .ok (.aload_n 0, 1) := by decide +kernel
theorem dX9_takeBack_33 : decode cX9_takeBack 33 = .ok (.invokevirtual 99, 3) := by decide +kernel
theorem dX9_takeBack_36 : decode cX9_takeBack 36 = .ok (.iload_n 1, 1) := by decide +kernel
theorem dX9_takeBack_37 : decode cX9_takeBack 37 = .ok (.ifCond .ne 11, 3) := by decide +kernel
theorem dX9_takeBack_40 : decode cX9_takeBack 40 = .ok (.aload_n 0, 1) := by decide +kernel
theorem dX9_takeBack_41 : decode cX9_takeBack 41 = .ok (.iload_n 2, 1) := by decide +kernel
theorem dX9_takeBack_42 : decode cX9_takeBack 42 = .ok (.invokevirtual 138, 3) := by decide +kernel
theorem dX9_takeBack_45 : decode cX9_takeBack 45 = .ok (.goto 8, 3) := by decide +kernel
theorem dX9_takeBack_48 : decode cX9_takeBack 48 = .ok (.aload_n 0, 1) := by decide +kernel
theorem dX9_takeBack_49 : decode cX9_takeBack 49 = .ok (.iload_n 2, 1) := by decide +kernel
theorem dX9_takeBack_50 : decode cX9_takeBack 50 = .ok (.invokevirtual 142, 3) := by decide +kernel
theorem dX9_takeBack_53 : decode cX9_takeBack 53 = .ok (.aload_n 0, 1) := by decide +kernel
theorem dX9_takeBack_54 : decode cX9_takeBack 54 = .ok (.getfield 7, 3) := by decide +kernel
theorem dX9_takeBack_57 : decode cX9_takeBack 57 = .ok (.iconst 3, 1) := by decide +kernel
theorem dX9_takeBack_58 : decode cX9_takeBack 58 = .ok (.iload_n 1, 1) := by decide +kernel
theorem dX9_takeBack_59 : decode cX9_takeBack 59 = .ok (.iadd, 1) := by decide +kernel
theorem dX9_takeBack_60 : decode cX9_takeBack 60 = .ok (.iaload, 1) := by decide +kernel
theorem dX9_takeBack_61 : decode cX9_takeBack 61 = .ok (.ireturn, 1) := by decide +kernel
theorem dX9_askPart_0 : decode cX9_askPart 0 = .ok (.aload_n 0, 1) := by decide +kernel
theorem dX9_askPart_1 : decode cX9_askPart 1 = .ok (.getfield 7, 3) := by decide +kernel
theorem dX9_askPart_4 : decode cX9_askPart 4 = .ok (.sipush 399, 3) := by decide +kernel
theorem dX9_askPart_7 : decode cX9_askPart 7 = .ok (.iconst 4, 1) := by decide +kernel
theorem dX9_askPart_8 : decode cX9_askPart 8 = .ok (.iload_n 1, 1) := by decide +kernel
theorem dX9_askPart_9 : decode cX9_askPart 9 = .ok (.imul, 1) := by decide +kernel
theorem dX9_askPart_10 : decode cX9_askPart 10 = .ok (.iadd, 1) := by decide +kernel
theorem dX9_askPart_11 : decode cX9_askPart 11 = .ok (.iload_n 2, 1) := by decide +kernel
theorem dX9_askPart_12 : decode cX9_askPart 12 = .ok (.iadd, 1) := by decide +kernel
theorem dX9_askPart_13 : decode cX9_askPart 13 = .ok (.iaload, 1) := by decide +kernel
theorem dX9_askPart_14 : decode cX9_askPart 14 = .ok (.ireturn, 1) := by decide +kernel
theorem dX9_bidPart_0 : decode cX9_bidPart 0 = .ok (.aload_n 0, 1) := by decide +kernel
theorem dX9_bidPart_1 : decode cX9_bidPart 1 = .ok (.getfield 7, 3) := by decide +kernel
theorem dX9_bidPart_4 : decode cX9_bidPart 4 = .ok (.sipush 439, 3) := by decide +kernel
theorem dX9_bidPart_7 : decode cX9_bidPart 7 = .ok (.iconst 5, 1) := by decide +kernel
theorem dX9_bidPart_8 : decode cX9_bidPart 8 = .ok (.iload_n 1, 1) := by decide +kernel
theorem dX9_bidPart_9 : decode cX9_bidPart 9 = .ok (.imul, 1) := by decide +kernel
theorem dX9_bidPart_10 : decode cX9_bidPart 10 = .ok (.iadd, 1) := by decide +kernel
theorem dX9_bidPart_11 : decode cX9_bidPart 11 = .ok (.iload_n 2, 1) := by decide +kernel
theorem dX9_bidPart_12 : decode cX9_bidPart 12 = .ok (.iadd, 1) := by decide +kernel
theorem dX9_bidPart_13 : decode cX9_bidPart 13 = .ok (.iaload, 1) := by decide +kernel
theorem dX9_bidPart_14 : decode cX9_bidPart 14 = .ok (.ireturn, 1) := by decide +kernel
theorem dX9_placeOfBid_0 : decode cX9_placeOfBid 0 = .ok (.iconst 0, 1) := by decide +kernel
theorem dX9_placeOfBid_1 : decode cX9_placeOfBid 1 = .ok (.istore_n 2, 1) := by decide +kernel
theorem dX9_placeOfBid_2 : decode cX9_placeOfBid 2 = .ok (.iconst 0, 1) := by decide +kernel
theorem dX9_placeOfBid_3 : decode cX9_placeOfBid 3 = .ok (.istore_n 3, 1) := by decide +kernel
theorem dX9_placeOfBid_4 : decode cX9_placeOfBid 4 = .ok (.iload_n 3, 1) := by decide +kernel
theorem dX9_placeOfBid_5 : decode cX9_placeOfBid 5 = .ok (.aload_n 0, 1) := by decide +kernel
theorem dX9_placeOfBid_6 : decode cX9_placeOfBid 6 = .ok (.getfield 7, 3) := by decide +kernel
theorem dX9_placeOfBid_9 : decode cX9_placeOfBid 9 = .ok (.iconst 4, 1) := by decide +kernel
theorem dX9_placeOfBid_10 : decode cX9_placeOfBid 10 = .ok (.iaload, 1) := by decide +kernel
theorem dX9_placeOfBid_11 : decode cX9_placeOfBid 11 = .ok (.if_icmp .ge 47, 3) := by decide +kernel
theorem dX9_placeOfBid_14 : decode cX9_placeOfBid 14 = .ok (.aload_n 0, 1) := by decide +kernel
theorem dX9_placeOfBid_15 : decode cX9_placeOfBid 15 = .ok (.iload_n 3, 1) := by decide +kernel
theorem dX9_placeOfBid_16 : decode cX9_placeOfBid 16 = .ok (.iconst 3, 1) := by decide +kernel
theorem dX9_placeOfBid_17 : decode cX9_placeOfBid 17 = .ok (.invokevirtual 145, 3) := by decide +kernel
theorem dX9_placeOfBid_20 : decode cX9_placeOfBid 20 = .ok (.aload_n 0, 1) := by decide +kernel
theorem dX9_placeOfBid_21 : decode cX9_placeOfBid 21 = .ok (.iload_n 1, 1) := by decide +kernel
theorem dX9_placeOfBid_22 : decode cX9_placeOfBid 22 = .ok (.iconst 3, 1) := by decide +kernel
theorem dX9_placeOfBid_23 : decode cX9_placeOfBid 23 = .ok (.invokevirtual 145, 3) := by decide +kernel
theorem dX9_placeOfBid_26 : decode cX9_placeOfBid 26 = .ok (.isub, 1) := by decide +kernel
theorem dX9_placeOfBid_27 : decode cX9_placeOfBid 27 = .ok (.istore 4, 2) := by decide +kernel
theorem dX9_placeOfBid_29 : decode cX9_placeOfBid 29 = .ok (.iload_n 2, 1) := by decide +kernel
theorem dX9_placeOfBid_30 : decode cX9_placeOfBid 30 = .ok (.iload 4, 2) := by decide +kernel
theorem dX9_placeOfBid_32 : decode cX9_placeOfBid 32 = .ok (.ifCond .gt 13, 3) := by decide +kernel
theorem dX9_placeOfBid_35 : decode cX9_placeOfBid 35 = .ok (.iload 4, 2) := by decide +kernel
theorem dX9_placeOfBid_37 : decode cX9_placeOfBid 37 = .ok (.ifCond .ne 12, 3) := by decide +kernel
theorem dX9_placeOfBid_40 : decode cX9_placeOfBid 40 = .ok (.iload_n 3, 1) := by decide +kernel
theorem dX9_placeOfBid_41 : decode cX9_placeOfBid 41 = .ok (.iload_n 1, 1) := by decide +kernel
theorem dX9_placeOfBid_42 : decode cX9_placeOfBid 42 = .ok (.if_icmp .ge 7, 3) := by decide +kernel
theorem dX9_placeOfBid_45 : decode cX9_placeOfBid 45 = .ok (.iconst 1, 1) := by decide +kernel
theorem dX9_placeOfBid_46 : decode cX9_placeOfBid 46 = .ok (.goto 4, 3) := by decide +kernel
theorem dX9_placeOfBid_49 : decode cX9_placeOfBid 49 = .ok (.iconst 0, 1) := by decide +kernel
theorem dX9_placeOfBid_50 : decode cX9_placeOfBid 50 = .ok (.iadd, 1) := by decide +kernel
theorem dX9_placeOfBid_51 : decode cX9_placeOfBid 51 = .ok (.istore_n 2, 1) := by decide +kernel
theorem dX9_placeOfBid_52 : decode cX9_placeOfBid 52 = .ok (.iinc 3 1, 3) := by decide +kernel
theorem dX9_placeOfBid_55 : decode cX9_placeOfBid 55 = .ok (.goto (-51), 3) := by decide +kernel
theorem dX9_placeOfBid_58 : decode cX9_placeOfBid 58 = .ok (.iload_n 2, 1) := by decide +kernel
theorem dX9_placeOfBid_59 : decode cX9_placeOfBid 59 = .ok (.ireturn, 1) := by decide +kernel
theorem dX9_nextAsk_0 : decode cX9_nextAsk 0 = .ok (.bipush (-6), 2) := by decide +kernel
theorem dX9_nextAsk_2 : decode cX9_nextAsk 2 = .ok (.istore_n 2, 1) := by decide +kernel
theorem dX9_nextAsk_3 : decode cX9_nextAsk 3 = .ok (.iconst 0, 1) := by decide +kernel
theorem dX9_nextAsk_4 : decode cX9_nextAsk 4 = .ok (.istore_n 3, 1) := by decide +kernel
theorem dX9_nextAsk_5 : decode cX9_nextAsk 5 = .ok (.iload_n 3, 1) := by decide +kernel
theorem dX9_nextAsk_6 : decode cX9_nextAsk 6 = .ok (.aload_n 0, 1) := by decide +kernel
theorem dX9_nextAsk_7 : decode cX9_nextAsk 7 = .ok (.getfield 7, 3) := by decide +kernel
theorem dX9_nextAsk_10 : decode cX9_nextAsk 10 = .ok (.iconst 3, 1) := by decide +kernel
theorem dX9_nextAsk_11 : decode cX9_nextAsk 11 = .ok (.iaload, 1) := by decide +kernel
theorem dX9_nextAsk_12 : decode cX9_nextAsk 12 = .ok (.if_icmp .ge 102, 3) := by decide +kernel
theorem dX9_nextAsk_15 : decode cX9_nextAsk 15 = .ok (.aload_n 0, 1) := by decide +kernel
theorem dX9_nextAsk_16 : decode cX9_nextAsk 16 = .ok (.iload_n 3, 1) := by decide +kernel
theorem dX9_nextAsk_17 : decode cX9_nextAsk 17 = .ok (.iconst 0, 1) := by decide +kernel
theorem dX9_nextAsk_18 : decode cX9_nextAsk 18 = .ok (.invokevirtual 148, 3) := by decide +kernel
theorem dX9_nextAsk_21 : decode cX9_nextAsk 21 = .ok (.aload_n 0, 1) := by decide +kernel
theorem dX9_nextAsk_22 : decode cX9_nextAsk 22 = .ok (.iload_n 1, 1) := by decide +kernel
theorem dX9_nextAsk_23 : decode cX9_nextAsk 23 = .ok (.iconst 0, 1) := by decide +kernel
theorem dX9_nextAsk_24 : decode cX9_nextAsk 24 = .ok (.invokevirtual 145, 3) := by decide +kernel
theorem dX9_nextAsk_27 : decode cX9_nextAsk 27 = .ok (.if_icmp .ne 46, 3) := by decide +kernel
theorem dX9_nextAsk_30 : decode cX9_nextAsk 30 = .ok (.aload_n 0, 1) := by decide +kernel
theorem dX9_nextAsk_31 : decode cX9_nextAsk 31 = .ok (.iload_n 3, 1) := by decide +kernel
theorem dX9_nextAsk_32 : decode cX9_nextAsk 32 = .ok (.iconst 1, 1) := by decide +kernel
theorem dX9_nextAsk_33 : decode cX9_nextAsk 33 = .ok (.invokevirtual 148, 3) := by decide +kernel
theorem dX9_nextAsk_36 : decode cX9_nextAsk 36 = .ok (.aload_n 0, 1) := by decide +kernel
theorem dX9_nextAsk_37 : decode cX9_nextAsk 37 = .ok (.iload_n 1, 1) := by decide +kernel
theorem dX9_nextAsk_38 : decode cX9_nextAsk 38 = .ok (.iconst 1, 1) := by decide +kernel
theorem dX9_nextAsk_39 : decode cX9_nextAsk 39 = .ok (.invokevirtual 145, 3) := by decide +kernel
theorem dX9_nextAsk_42 : decode cX9_nextAsk 42 = .ok (.if_icmp .ne 31, 3) := by decide +kernel
theorem dX9_nextAsk_45 : decode cX9_nextAsk 45 = .ok (.aload_n 0, 1) := by decide +kernel
theorem dX9_nextAsk_46 : decode cX9_nextAsk 46 = .ok (.iload_n 3, 1) := by decide +kernel
theorem dX9_nextAsk_47 : decode cX9_nextAsk 47 = .ok (.iconst 3, 1) := by decide +kernel
theorem dX9_nextAsk_48 : decode cX9_nextAsk 48 = .ok (.invokevirtual 148, 3) := by decide +kernel
theorem dX9_nextAsk_51 : decode cX9_nextAsk 51 = .ok (.aload_n 0, 1) := by decide +kernel
theorem dX9_nextAsk_52 : decode cX9_nextAsk 52 = .ok (.iload_n 1, 1) := by decide +kernel
theorem dX9_nextAsk_53 : decode cX9_nextAsk 53 = .ok (.iconst 3, 1) := by decide +kernel
theorem dX9_nextAsk_54 : decode cX9_nextAsk 54 = .ok (.invokevirtual 145, 3) := by decide +kernel
theorem dX9_nextAsk_57 : decode cX9_nextAsk 57 = .ok (.if_icmp .gt 16, 3) := by decide +kernel
theorem dX9_nextAsk_60 : decode cX9_nextAsk 60 = .ok (.aload_n 0, 1) := by decide +kernel
theorem dX9_nextAsk_61 : decode cX9_nextAsk 61 = .ok (.iload_n 3, 1) := by decide +kernel
theorem dX9_nextAsk_62 : decode cX9_nextAsk 62 = .ok (.iconst 2, 1) := by decide +kernel
theorem dX9_nextAsk_63 : decode cX9_nextAsk 63 = .ok (.invokevirtual 148, 3) := by decide +kernel
theorem dX9_nextAsk_66 : decode cX9_nextAsk 66 = .ok (.ifCond .le 7, 3) := by decide +kernel
theorem dX9_nextAsk_69 : decode cX9_nextAsk 69 = .ok (.iconst 1, 1) := by decide +kernel
theorem dX9_nextAsk_70 : decode cX9_nextAsk 70 = .ok (.goto 4, 3) := by decide +kernel
theorem dX9_nextAsk_73 : decode cX9_nextAsk 73 = .ok (.iconst 0, 1) := by decide +kernel
theorem dX9_nextAsk_74 : decode cX9_nextAsk 74 = .ok (.istore 4, 2) := by decide +kernel
theorem dX9_nextAsk_76 : decode cX9_nextAsk 76 = .ok (.iload 4, 2) := by decide +kernel
theorem dX9_nextAsk_78 : decode cX9_nextAsk 78 = .ok (.ifCond .eq 28, 3) := by decide +kernel
theorem dX9_nextAsk_81 : decode cX9_nextAsk 81 = .ok (.iload_n 2, 1) := by decide +kernel
theorem dX9_nextAsk_82 : decode cX9_nextAsk 82 = .ok (.bipush (-6), 2) := by decide +kernel
theorem dX9_nextAsk_84 : decode cX9_nextAsk 84 = .ok (.if_icmp .eq 18, 3) := by decide +kernel
theorem dX9_nextAsk_87 : decode cX9_nextAsk 87 = .ok (.aload_n 0, 1) := by decide +kernel
theorem dX9_nextAsk_88 : decode cX9_nextAsk 88 = .ok (.iload_n 3, 1) := by decide +kernel
theorem dX9_nextAsk_89 : decode cX9_nextAsk 89 = .ok (.iconst 3, 1) := by decide +kernel
theorem dX9_nextAsk_90 : decode cX9_nextAsk 90 = .ok (.invokevirtual 148, 3) := by decide +kernel
theorem dX9_nextAsk_93 : decode cX9_nextAsk 93 = .ok (.aload_n 0, 1) := by decide +kernel
theorem dX9_nextAsk_94 : decode cX9_nextAsk 94 = .ok (.iload_n 2, 1) := by decide +kernel
theorem dX9_nextAsk_95 : decode cX9_nextAsk 95 = .ok (.iconst 3, 1) := by decide +kernel
theorem dX9_nextAsk_96 : decode cX9_nextAsk 96 = .ok (.invokevirtual 148, 3) := by decide +kernel
theorem dX9_nextAsk_99 : decode cX9_nextAsk 99 = .ok (.if_icmp .ge 7, 3) := by decide +kernel
theorem dX9_nextAsk_102 : decode cX9_nextAsk 102 = .ok (.iload_n 3, 1) := by decide +kernel
theorem dX9_nextAsk_103 : decode cX9_nextAsk 103 = .ok (.goto 4, 3) := by decide +kernel
theorem dX9_nextAsk_106 : decode cX9_nextAsk 106 = .ok (.iload_n 2, 1) := by decide +kernel
theorem dX9_nextAsk_107 : decode cX9_nextAsk 107 = .ok (.istore_n 2, 1) := by decide +kernel
theorem dX9_nextAsk_108 : decode cX9_nextAsk 108 = .ok (.iinc 3 1, 3) := by decide +kernel
theorem dX9_nextAsk_111 : decode cX9_nextAsk 111 = .ok (.goto (-106), 3) := by decide +kernel
theorem dX9_nextAsk_114 : decode cX9_nextAsk 114 = .ok (.iload_n 2, 1) := by decide +kernel
theorem dX9_nextAsk_115 : decode cX9_nextAsk 115 = .ok (.ireturn, 1) := by decide +kernel
theorem dX9_tradedBy_0 : decode cX9_tradedBy 0 = .ok (.iconst 0, 1) := by decide +kernel
theorem dX9_tradedBy_1 : decode cX9_tradedBy 1 = .ok (.istore_n 2, 1) := by decide +kernel
theorem dX9_tradedBy_2 : decode cX9_tradedBy 2 = .ok (.aload_n 0, 1) := by decide +kernel
theorem dX9_tradedBy_3 : decode cX9_tradedBy 3 = .ok (.iload_n 1, 1) := by decide +kernel
theorem dX9_tradedBy_4 : decode cX9_tradedBy 4 = .ok (.iconst 4, 1) := by decide +kernel
theorem dX9_tradedBy_5 : decode cX9_tradedBy 5 = .ok (.invokevirtual 145, 3) := by decide +kernel
theorem dX9_tradedBy_8 : decode cX9_tradedBy 8 = .ok (.istore_n 3, 1) := by decide +kernel
theorem dX9_tradedBy_9 : decode cX9_tradedBy 9 = .ok (.aload_n 0, 1) := by decide +kernel
theorem dX9_tradedBy_10 : decode cX9_tradedBy 10 = .ok (.iload_n 1, 1) := by decide +kernel
theorem dX9_tradedBy_11 : decode cX9_tradedBy 11 = .ok (.iconst 0, 1) := by decide +kernel
theorem dX9_tradedBy_12 : decode cX9_tradedBy 12 = .ok (.invokevirtual 145, 3) := by decide +kernel
theorem dX9_tradedBy_15 : decode cX9_tradedBy 15 = .ok (.istore 4, 2) := by decide +kernel
theorem dX9_tradedBy_17 : decode cX9_tradedBy 17 = .ok (.aload_n 0, 1) := by decide +kernel
theorem dX9_tradedBy_18 : decode cX9_tradedBy 18 = .ok (.iload_n 1, 1) := by decide +kernel
theorem dX9_tradedBy_19 : decode cX9_tradedBy 19 = .ok (.iconst 1, 1) := by decide +kernel
theorem dX9_tradedBy_20 : decode cX9_tradedBy 20 = .ok (.invokevirtual 145, 3) := by decide +kernel
theorem dX9_tradedBy_23 : decode cX9_tradedBy 23 = .ok (.istore 5, 2) := by decide +kernel
theorem dX9_tradedBy_25 : decode cX9_tradedBy 25 = .ok (.aload_n 0, 1) := by decide +kernel
theorem dX9_tradedBy_26 : decode cX9_tradedBy 26 = .ok (.iload_n 1, 1) := by decide +kernel
theorem dX9_tradedBy_27 : decode cX9_tradedBy 27 = .ok (.invokevirtual 151, 3) := by decide +kernel
theorem dX9_tradedBy_30 : decode cX9_tradedBy 30 = .ok (.istore 6, 2) := by decide +kernel
theorem dX9_tradedBy_32 : decode cX9_tradedBy 32 = .ok (.sipush 999, 3) := by decide +kernel
theorem dX9_tradedBy_35 : decode cX9_tradedBy 35 = .ok (.aload_n 0, 1) := by decide +kernel
theorem dX9_tradedBy_36 : decode cX9_tradedBy 36 = .ok (.iload_n 3, 1) := by decide +kernel
theorem dX9_tradedBy_37 : decode cX9_tradedBy 37 = .ok (.iload 4, 2) := by decide +kernel
theorem dX9_tradedBy_39 : decode cX9_tradedBy 39 = .ok (.iload 5, 2) := by decide +kernel
theorem dX9_tradedBy_41 : decode cX9_tradedBy 41 = .ok (.invokevirtual 58, 3) := by decide +kernel
theorem dX9_tradedBy_44 : decode cX9_tradedBy 44 = .ok (.isub, 1) := by decide +kernel
theorem dX9_tradedBy_45 : decode cX9_tradedBy 45 = .ok (.istore 7, 2) := by decide +kernel
theorem dX9_tradedBy_47 : decode cX9_tradedBy 47 = .ok (.iload 6, 2) := by decide +kernel
theorem dX9_tradedBy_49 : decode cX9_tradedBy 49 = .ok (.bipush (-6), 2) := by decide +kernel
theorem dX9_tradedBy_51 : decode cX9_tradedBy 51 = .ok (.if_icmp .eq 177, 3) := by decide +kernel
theorem dX9_tradedBy_54 : decode cX9_tradedBy 54 = .ok (.iload 7, 2) := by decide +kernel
theorem dX9_tradedBy_56 : decode cX9_tradedBy 56 = .ok (.ifCond .le 172, 3) := by decide +kernel
theorem dX9_tradedBy_59 : decode cX9_tradedBy 59 = .ok (.aload_n 0, 1) := by decide +kernel
theorem dX9_tradedBy_60 : decode cX9_tradedBy 60 = .ok (.iload_n 1, 1) := by decide +kernel
theorem dX9_tradedBy_61 : decode cX9_tradedBy 61 = .ok (.iconst 2, 1) := by decide +kernel
theorem dX9_tradedBy_62 : decode cX9_tradedBy 62 = .ok (.invokevirtual 145, 3) := by decide +kernel
theorem dX9_tradedBy_65 : decode cX9_tradedBy 65 = .ok (.ifCond .le 163, 3) := by decide +kernel
theorem dX9_tradedBy_68 : decode cX9_tradedBy 68 = .ok (.aload_n 0, 1) := by decide +kernel
theorem dX9_tradedBy_69 : decode cX9_tradedBy 69 = .ok (.iload 6, 2) := by decide +kernel
theorem dX9_tradedBy_71 : decode cX9_tradedBy 71 = .ok (.iconst 2, 1) := by decide +kernel
theorem dX9_tradedBy_72 : decode cX9_tradedBy 72 = .ok (.invokevirtual 148, 3) := by decide +kernel
theorem dX9_tradedBy_75 : decode cX9_tradedBy 75 = .ok (.aload_n 0, 1) := by decide +kernel
theorem dX9_tradedBy_76 : decode cX9_tradedBy 76 = .ok (.iload_n 1, 1) := by decide +kernel
theorem dX9_tradedBy_77 : decode cX9_tradedBy 77 = .ok (.iconst 2, 1) := by decide +kernel
theorem dX9_tradedBy_78 : decode cX9_tradedBy 78 = .ok (.invokevirtual 145, 3) := by decide +kernel
theorem dX9_tradedBy_81 : decode cX9_tradedBy 81 = .ok (.if_icmp .ge 13, 3) := by decide +kernel
theorem dX9_tradedBy_84 : decode cX9_tradedBy 84 = .ok (.aload_n 0, 1) := by decide +kernel
theorem dX9_tradedBy_85 : decode cX9_tradedBy 85 = .ok (.iload 6, 2) := by decide +kernel
theorem dX9_tradedBy_87 : decode cX9_tradedBy 87 = .ok (.iconst 2, 1) := by decide +kernel
theorem dX9_tradedBy_88 : decode cX9_tradedBy 88 = .ok (.invokevirtual 148, 3) := by decide +kernel
theorem dX9_tradedBy_91 : decode cX9_tradedBy 91 = .ok (.goto 9, 3) := by decide +kernel
theorem dX9_tradedBy_94 : decode cX9_tradedBy 94 = .ok (.aload_n 0, 1) := by decide +kernel
theorem dX9_tradedBy_95 : decode cX9_tradedBy 95 = .ok (.iload_n 1, 1) := by decide +kernel
theorem dX9_tradedBy_96 : decode cX9_tradedBy 96 = .ok (.iconst 2, 1) := by decide +kernel
theorem dX9_tradedBy_97 : decode cX9_tradedBy 97 = .ok (.invokevirtual 145, 3) := by decide +kernel
theorem dX9_tradedBy_100 : decode cX9_tradedBy 100 = .ok (.istore 8, 2) := by decide +kernel
theorem dX9_tradedBy_102 : decode cX9_tradedBy 102 = .ok (.iload 8, 2) := by decide +kernel
theorem dX9_tradedBy_104 : decode cX9_tradedBy 104 = .ok (.iload 7, 2) := by decide +kernel
theorem dX9_tradedBy_106 : decode cX9_tradedBy 106 = .ok (.if_icmp .ge 8, 3) := by decide +kernel
theorem dX9_tradedBy_109 : decode cX9_tradedBy 109 = .ok (.iload 8, 2) := by decide +kernel
theorem dX9_tradedBy_111 : decode cX9_tradedBy 111 = .ok (.goto 5, 3) := by decide +kernel
theorem dX9_tradedBy_114 : decode cX9_tradedBy 114 = .ok (.iload 7, 2) := by decide +kernel
theorem dX9_tradedBy_116 : decode cX9_tradedBy 116 = .ok (.istore 8, 2) := by decide +kernel
theorem dX9_tradedBy_118 : decode cX9_tradedBy 118 = .ok (.iload 8, 2) := by decide +kernel
theorem dX9_tradedBy_120 : decode cX9_tradedBy 120 = .ok (.aload_n 0, 1) := by decide +kernel
theorem dX9_tradedBy_121 : decode cX9_tradedBy 121 = .ok (.iload 6, 2) := by decide +kernel
theorem dX9_tradedBy_123 : decode cX9_tradedBy 123 = .ok (.iconst 3, 1) := by decide +kernel
theorem dX9_tradedBy_124 : decode cX9_tradedBy 124 = .ok (.invokevirtual 148, 3) := by decide +kernel
theorem dX9_tradedBy_127 : decode cX9_tradedBy 127 = .ok (.imul, 1) := by decide +kernel
theorem dX9_tradedBy_128 : decode cX9_tradedBy 128 = .ok (.istore 9, 2) := by decide +kernel
theorem dX9_tradedBy_130 : decode cX9_tradedBy 130 = .ok (.aload_n 0, 1) := by decide +kernel
theorem dX9_tradedBy_131 : decode cX9_tradedBy 131 = .ok (.getfield 7, 3) := by decide +kernel
theorem dX9_tradedBy_134 : decode cX9_tradedBy 134 = .ok (.sipush 399, 3) := by decide +kernel
theorem dX9_tradedBy_137 : decode cX9_tradedBy 137 = .ok (.iconst 4, 1) := by decide +kernel
theorem dX9_tradedBy_138 : decode cX9_tradedBy 138 = .ok (.iload 6, 2) := by decide +kernel
theorem dX9_tradedBy_140 : decode cX9_tradedBy 140 = .ok (.imul, 1) := by decide +kernel
theorem dX9_tradedBy_141 : decode cX9_tradedBy 141 = .ok (.iadd, 1) := by decide +kernel
theorem dX9_tradedBy_142 : decode cX9_tradedBy 142 = .ok (.iconst 2, 1) := by decide +kernel
theorem dX9_tradedBy_143 : decode cX9_tradedBy 143 = .ok (.iadd, 1) := by decide +kernel
theorem dX9_tradedBy_144 : decode cX9_tradedBy 144 = .ok (.dup2, 1) := by decide +kernel
theorem dX9_tradedBy_145 : decode cX9_tradedBy 145 = .ok (.iaload, 1) := by decide +kernel
theorem dX9_tradedBy_146 : decode cX9_tradedBy 146 = .ok (.iload 8, 2) := by decide +kernel
theorem dX9_tradedBy_148 : decode cX9_tradedBy 148 = .ok (.isub, 1) := by decide +kernel
theorem dX9_tradedBy_149 : decode cX9_tradedBy 149 = .ok (.iastore, 1) := by decide +kernel
theorem dX9_tradedBy_150 : decode cX9_tradedBy 150 = .ok (.aload_n 0, 1) := by decide +kernel
theorem dX9_tradedBy_151 : decode cX9_tradedBy 151 = .ok (.getfield 7, 3) := by decide +kernel
theorem dX9_tradedBy_154 : decode cX9_tradedBy 154 = .ok (.sipush 439, 3) := by decide +kernel
theorem dX9_tradedBy_157 : decode cX9_tradedBy 157 = .ok (.iconst 5, 1) := by decide +kernel
theorem dX9_tradedBy_158 : decode cX9_tradedBy 158 = .ok (.iload_n 1, 1) := by decide +kernel
theorem dX9_tradedBy_159 : decode cX9_tradedBy 159 = .ok (.imul, 1) := by decide +kernel
theorem dX9_tradedBy_160 : decode cX9_tradedBy 160 = .ok (.iadd, 1) := by decide +kernel
theorem dX9_tradedBy_161 : decode cX9_tradedBy 161 = .ok (.iconst 2, 1) := by decide +kernel
theorem dX9_tradedBy_162 : decode cX9_tradedBy 162 = .ok (.iadd, 1) := by decide +kernel
theorem dX9_tradedBy_163 : decode cX9_tradedBy 163 = .ok (.dup2, 1) := by decide +kernel
theorem dX9_tradedBy_164 : decode cX9_tradedBy 164 = .ok (.iaload, 1) := by decide +kernel
theorem dX9_tradedBy_165 : decode cX9_tradedBy 165 = .ok (.iload 8, 2) := by decide +kernel
theorem dX9_tradedBy_167 : decode cX9_tradedBy 167 = .ok (.isub, 1) := by decide +kernel
theorem dX9_tradedBy_168 : decode cX9_tradedBy 168 = .ok (.iastore, 1) := by decide +kernel
theorem dX9_tradedBy_169 : decode cX9_tradedBy 169 = .ok (.aload_n 0, 1) := by decide +kernel
theorem dX9_tradedBy_170 : decode cX9_tradedBy 170 = .ok (.getfield 7, 3) := by decide +kernel
theorem dX9_tradedBy_173 : decode cX9_tradedBy 173 = .ok (.bipush 15, 2) := by decide +kernel
theorem dX9_tradedBy_175 : decode cX9_tradedBy 175 = .ok (.iconst 4, 1) := by decide +kernel
theorem dX9_tradedBy_176 : decode cX9_tradedBy 176 = .ok (.iload_n 3, 1) := by decide +kernel
theorem dX9_tradedBy_177 : decode cX9_tradedBy 177 = .ok (.imul, 1) := by decide +kernel
theorem dX9_tradedBy_178 : decode cX9_tradedBy 178 = .ok (.iadd, 1) := by decide +kernel
theorem dX9_tradedBy_179 : decode cX9_tradedBy 179 = .ok (.iconst 3, 1) := by decide +kernel
theorem dX9_tradedBy_180 : decode cX9_tradedBy 180 = .ok (.iadd, 1) := by decide +kernel
theorem dX9_tradedBy_181 : decode cX9_tradedBy 181 = .ok (.dup2, 1) := by decide +kernel
theorem dX9_tradedBy_182 : decode cX9_tradedBy 182 = .ok (.iaload, 1) := by decide +kernel
theorem dX9_tradedBy_183 : decode cX9_tradedBy 183 = .ok (.iload 9, 2) := by decide +kernel
theorem dX9_tradedBy_185 : decode cX9_tradedBy 185 = .ok (.isub, 1) := by decide +kernel
theorem dX9_tradedBy_186 : decode cX9_tradedBy 186 = .ok (.iastore, 1) := by decide +kernel
theorem dX9_tradedBy_187 : decode cX9_tradedBy 187 = .ok (.aload_n 0, 1) := by decide +kernel
theorem dX9_tradedBy_188 : decode cX9_tradedBy 188 = .ok (.getfield 7, 3) := by decide +kernel
theorem dX9_tradedBy_191 : decode cX9_tradedBy 191 = .ok (.bipush 15, 2) := by decide +kernel
theorem dX9_tradedBy_193 : decode cX9_tradedBy 193 = .ok (.iconst 4, 1) := by decide +kernel
theorem dX9_tradedBy_194 : decode cX9_tradedBy 194 = .ok (.iload 4, 2) := by decide +kernel
theorem dX9_tradedBy_196 : decode cX9_tradedBy 196 = .ok (.imul, 1) := by decide +kernel
theorem dX9_tradedBy_197 : decode cX9_tradedBy 197 = .ok (.iadd, 1) := by decide +kernel
theorem dX9_tradedBy_198 : decode cX9_tradedBy 198 = .ok (.iconst 3, 1) := by decide +kernel
theorem dX9_tradedBy_199 : decode cX9_tradedBy 199 = .ok (.iadd, 1) := by decide +kernel
theorem dX9_tradedBy_200 : decode cX9_tradedBy 200 = .ok (.dup2, 1) := by decide +kernel
theorem dX9_tradedBy_201 : decode cX9_tradedBy 201 = .ok (.iaload, 1) := by decide +kernel
theorem dX9_tradedBy_202 : decode cX9_tradedBy 202 = .ok (.iload 9, 2) := by decide +kernel
theorem dX9_tradedBy_204 : decode cX9_tradedBy 204 = .ok (.iadd, 1) := by decide +kernel
theorem dX9_tradedBy_205 : decode cX9_tradedBy 205 = .ok (.iastore, 1) := by decide +kernel
theorem dX9_tradedBy_206 : decode cX9_tradedBy 206 = .ok (.iload 7, 2) := by decide +kernel
theorem dX9_tradedBy_208 : decode cX9_tradedBy 208 = .ok (.iload 8, 2) := by decide +kernel
theorem dX9_tradedBy_210 : decode cX9_tradedBy 210 = .ok (.isub, 1) := by decide +kernel
theorem dX9_tradedBy_211 : decode cX9_tradedBy 211 = .ok (.istore 7, 2) := by decide +kernel
theorem dX9_tradedBy_213 : decode cX9_tradedBy 213 = .ok (.iload_n 2, 1) := by decide +kernel
theorem dX9_tradedBy_214 : decode cX9_tradedBy 214 = .ok (.iload 8, 2) := by decide +kernel
theorem dX9_tradedBy_216 : decode cX9_tradedBy 216 = .ok (.iadd, 1) := by decide +kernel
theorem dX9_tradedBy_217 : decode cX9_tradedBy 217 = .ok (.istore_n 2, 1) := by decide +kernel
theorem dX9_tradedBy_218 : decode cX9_tradedBy 218 = .ok (.aload_n 0, 1) := by decide +kernel
theorem dX9_tradedBy_219 : decode cX9_tradedBy 219 = .ok (.iload_n 1, 1) := by decide +kernel
theorem dX9_tradedBy_220 : decode cX9_tradedBy 220 = .ok (.invokevirtual 151, 3) := by decide +kernel
theorem dX9_tradedBy_223 : decode cX9_tradedBy 223 = .ok (.istore 6, 2) := by decide +kernel
theorem dX9_tradedBy_225 : decode cX9_tradedBy 225 = .ok (.goto (-178), 3) := by decide +kernel
theorem dX9_tradedBy_228 : decode cX9_tradedBy 228 = .ok (.aload_n 0, 1) := by decide +kernel
theorem dX9_tradedBy_229 : decode cX9_tradedBy 229 = .ok (.iload_n 3, 1) := by decide +kernel
theorem dX9_tradedBy_230 : decode cX9_tradedBy 230 = .ok (.iload 4, 2) := by decide +kernel
theorem dX9_tradedBy_232 : decode cX9_tradedBy 232 = .ok (.iload 5, 2) := by decide +kernel
theorem dX9_tradedBy_234 : decode cX9_tradedBy 234 = .ok (.sipush 999, 3) := by decide +kernel
theorem dX9_tradedBy_237 : decode cX9_tradedBy 237 = .ok (.iload 7, 2) := by decide +kernel
theorem dX9_tradedBy_239 : decode cX9_tradedBy 239 = .ok (.isub, 1) := by decide +kernel
theorem dX9_tradedBy_240 : decode cX9_tradedBy 240 = .ok (.invokevirtual 117, 3) := by decide +kernel
theorem dX9_tradedBy_243 : decode cX9_tradedBy 243 = .ok (.iload_n 2, 1) := by decide +kernel
theorem dX9_tradedBy_244 : decode cX9_tradedBy 244 = .ok (.ireturn, 1) := by decide +kernel
theorem dX9_matched_0 : decode cX9_matched 0 = .ok (.iconst 0, 1) := by decide +kernel
theorem dX9_matched_1 : decode cX9_matched 1 = .ok (.istore_n 1, 1) := by decide +kernel
theorem dX9_matched_2 : decode cX9_matched 2 = .ok (.iconst 0, 1) := by decide +kernel
theorem dX9_matched_3 : decode cX9_matched 3 = .ok (.istore_n 2, 1) := by decide +kernel
theorem dX9_matched_4 : decode cX9_matched 4 = .ok (.iload_n 2, 1) := by decide +kernel
theorem dX9_matched_5 : decode cX9_matched 5 = .ok (.aload_n 0, 1) := by decide +kernel
theorem dX9_matched_6 : decode cX9_matched 6 = .ok (.getfield 7, 3) := by decide +kernel
theorem dX9_matched_9 : decode cX9_matched 9 = .ok (.iconst 4, 1) := by decide +kernel
theorem dX9_matched_10 : decode cX9_matched 10 = .ok (.iaload, 1) := by decide +kernel
theorem dX9_matched_11 : decode cX9_matched 11 = .ok (.if_icmp .ge 48, 3) := by decide +kernel
theorem dX9_matched_14 : decode cX9_matched 14 = .ok (.iconst 0, 1) := by decide +kernel
theorem dX9_matched_15 : decode cX9_matched 15 = .ok (.istore_n 3, 1) := by decide +kernel
theorem dX9_matched_16 : decode cX9_matched 16 = .ok (.iload_n 3, 1) := by decide +kernel
theorem dX9_matched_17 : decode cX9_matched 17 = .ok (.aload_n 0, 1) := by decide +kernel
theorem dX9_matched_18 : decode cX9_matched 18 = .ok (.getfield 7, 3) := by decide +kernel
theorem dX9_matched_21 : decode cX9_matched 21 = .ok (.iconst 4, 1) := by decide +kernel
theorem dX9_matched_22 : decode cX9_matched 22 = .ok (.iaload, 1) := by decide +kernel
theorem dX9_matched_23 : decode cX9_matched 23 = .ok (.if_icmp .ge 30, 3) := by decide +kernel
theorem dX9_matched_26 : decode cX9_matched 26 = .ok (.iload_n 1, 1) := by decide +kernel
theorem dX9_matched_27 : decode cX9_matched 27 = .ok (.aload_n 0, 1) := by decide +kernel
theorem dX9_matched_28 : decode cX9_matched 28 = .ok (.iload_n 3, 1) := by decide +kernel
theorem dX9_matched_29 : decode cX9_matched 29 = .ok (.invokevirtual 154, 3) := by decide +kernel
theorem dX9_matched_32 : decode cX9_matched 32 = .ok (.iload_n 2, 1) := by decide +kernel
theorem dX9_matched_33 : decode cX9_matched 33 = .ok (.if_icmp .ne 11, 3) := by decide +kernel
theorem dX9_matched_36 : decode cX9_matched 36 = .ok (.aload_n 0, 1) := by decide +kernel
theorem dX9_matched_37 : decode cX9_matched 37 = .ok (.iload_n 3, 1) := by decide +kernel
theorem dX9_matched_38 : decode cX9_matched 38 = .ok (.invokevirtual 157, 3) := by decide +kernel
theorem dX9_matched_41 : decode cX9_matched 41 = .ok (.goto 4, 3) := by decide +kernel
theorem dX9_matched_44 : decode cX9_matched 44 = .ok (.iconst 0, 1) := by decide +kernel
theorem dX9_matched_45 : decode cX9_matched 45 = .ok (.iadd, 1) := by decide +kernel
theorem dX9_matched_46 : decode cX9_matched 46 = .ok (.istore_n 1, 1) := by decide +kernel
theorem dX9_matched_47 : decode cX9_matched 47 = .ok (.iinc 3 1, 3) := by decide +kernel
theorem dX9_matched_50 : decode cX9_matched 50 = .ok (.goto (-34), 3) := by decide +kernel
theorem dX9_matched_53 : decode cX9_matched 53 = .ok (.iinc 2 1, 3) := by decide +kernel
theorem dX9_matched_56 : decode cX9_matched 56 = .ok (.goto (-52), 3) := by decide +kernel
theorem dX9_matched_59 : decode cX9_matched 59 = .ok (.aload_n 0, 1) := by decide +kernel
theorem dX9_matched_60 : decode cX9_matched 60 = .ok (.getfield 7, 3) := by decide +kernel
theorem dX9_matched_63 : decode cX9_matched 63 = .ok (.iconst 4, 1) := by decide +kernel
theorem dX9_matched_64 : decode cX9_matched 64 = .ok (.iaload, 1) := by decide +kernel
theorem dX9_matched_65 : decode cX9_matched 65 = .ok (.iconst 1, 1) := by decide +kernel
theorem dX9_matched_66 : decode cX9_matched 66 = .ok (.isub, 1) := by decide +kernel
theorem dX9_matched_67 : decode cX9_matched 67 = .ok (.istore_n 2, 1) := by decide +kernel
theorem dX9_matched_68 : decode cX9_matched 68 = .ok (.iload_n 2, 1) := by decide +kernel
theorem dX9_matched_69 : decode cX9_matched 69 = .ok (.ifCond .lt 23, 3) := by decide +kernel
theorem dX9_matched_72 : decode cX9_matched 72 = .ok (.aload_n 0, 1) := by decide +kernel
theorem dX9_matched_73 : decode cX9_matched 73 = .ok (.iload_n 2, 1) := by decide +kernel
theorem dX9_matched_74 : decode cX9_matched 74 = .ok (.iconst 2, 1) := by decide +kernel
theorem dX9_matched_75 : decode cX9_matched 75 = .ok (.invokevirtual 145, 3) := by decide +kernel
theorem dX9_matched_78 : decode cX9_matched 78 = .ok (.ifCond .ne 8, 3) := by decide +kernel
theorem dX9_matched_81 : decode cX9_matched 81 = .ok (.aload_n 0, 1) := by decide +kernel
theorem dX9_matched_82 : decode cX9_matched 82 = .ok (.iload_n 2, 1) := by decide +kernel
theorem dX9_matched_83 : decode cX9_matched 83 = .ok (.invokevirtual 142, 3) := by decide +kernel
theorem dX9_matched_86 : decode cX9_matched 86 = .ok (.iinc 2 (-1), 3) := by decide +kernel
theorem dX9_matched_89 : decode cX9_matched 89 = .ok (.goto (-21), 3) := by decide +kernel
theorem dX9_matched_92 : decode cX9_matched 92 = .ok (.aload_n 0, 1) := by decide +kernel
theorem dX9_matched_93 : decode cX9_matched 93 = .ok (.getfield 7, 3) := by decide +kernel
theorem dX9_matched_96 : decode cX9_matched 96 = .ok (.iconst 3, 1) := by decide +kernel
theorem dX9_matched_97 : decode cX9_matched 97 = .ok (.iaload, 1) := by decide +kernel
theorem dX9_matched_98 : decode cX9_matched 98 = .ok (.iconst 1, 1) := by decide +kernel
theorem dX9_matched_99 : decode cX9_matched 99 = .ok (.isub, 1) := by decide +kernel
theorem dX9_matched_100 : decode cX9_matched 100 = .ok (.istore_n 2, 1) := by decide +kernel
theorem dX9_matched_101 : decode cX9_matched 101 = .ok (.iload_n 2, 1) := by decide +kernel
theorem dX9_matched_102 : decode cX9_matched 102 = .ok (.ifCond .lt 23, 3) := by decide +kernel
theorem dX9_matched_105 : decode cX9_matched 105 = .ok (.aload_n 0, 1) := by decide +kernel
theorem dX9_matched_106 : decode cX9_matched 106 = .ok (.iload_n 2, 1) := by decide +kernel
theorem dX9_matched_107 : decode cX9_matched 107 = .ok (.iconst 2, 1) := by decide +kernel
theorem dX9_matched_108 : decode cX9_matched 108 = .ok (.invokevirtual 148, 3) := by decide +kernel
theorem dX9_matched_111 : decode cX9_matched 111 = .ok (.ifCond .ne 8, 3) := by decide +kernel
theorem dX9_matched_114 : decode cX9_matched 114 = .ok (.aload_n 0, 1) := by decide +kernel
theorem dX9_matched_115 : decode cX9_matched 115 = .ok (.iload_n 2, 1) := by decide +kernel
theorem dX9_matched_116 : decode cX9_matched 116 = .ok (.invokevirtual 138, 3) := by decide +kernel
theorem dX9_matched_119 : decode cX9_matched 119 = .ok (.iinc 2 (-1), 3) := by decide +kernel
theorem dX9_matched_122 : decode cX9_matched 122 = .ok (.goto (-21), 3) := by decide +kernel
theorem dX9_matched_125 : decode cX9_matched 125 = .ok (.aload_n 0, 1) := by decide +kernel
theorem dX9_matched_126 : decode cX9_matched 126 = .ok (.getfield 7, 3) := by decide +kernel
theorem dX9_matched_129 : decode cX9_matched 129 = .ok (.iconst 2, 1) := by decide +kernel
theorem dX9_matched_130 : decode cX9_matched 130 = .ok (.dup2, 1) := by decide +kernel
theorem dX9_matched_131 : decode cX9_matched 131 = .ok (.iaload, 1) := by decide +kernel
theorem dX9_matched_132 : decode cX9_matched 132 = .ok (.iload_n 1, 1) := by decide +kernel
theorem dX9_matched_133 : decode cX9_matched 133 = .ok (.iadd, 1) := by decide +kernel
theorem dX9_matched_134 : decode cX9_matched 134 = .ok (.iastore, 1) := by decide +kernel
theorem dX9_matched_135 : decode cX9_matched 135 = .ok (.iload_n 1, 1) := by decide +kernel
theorem dX9_matched_136 : decode cX9_matched 136 = .ok (.ireturn, 1) := by decide +kernel
theorem dX9_match_0 : decode cX9_match 0 = .ok (.aload_n 0, 1) := by decide +kernel
theorem dX9_match_1 : decode cX9_match 1 = .ok (.invokevirtual 99, 3) := by decide +kernel
theorem dX9_match_4 : decode cX9_match 4 = .ok (.aload_n 0, 1) := by decide +kernel
theorem dX9_match_5 : decode cX9_match 5 = .ok (.invokevirtual 160, 3) := by decide +kernel
theorem dX9_match_8 : decode cX9_match 8 = .ok (.ireturn, 1) := by decide +kernel
theorem dX9_fullYield_0 : decode cX9_fullYield 0 = .ok (.iconst 0, 1) := by decide +kernel
theorem dX9_fullYield_1 : decode cX9_fullYield 1 = .ok (.istore_n 2, 1) := by decide +kernel
theorem dX9_fullYield_2 : decode cX9_fullYield 2 = .ok (.iconst 0, 1) := by decide +kernel
theorem dX9_fullYield_3 : decode cX9_fullYield 3 = .ok (.istore_n 3, 1) := by decide +kernel
theorem dX9_fullYield_4 : decode cX9_fullYield 4 = .ok (.iload_n 3, 1) := by decide +kernel
theorem dX9_fullYield_5 : decode cX9_fullYield 5 = .ok (.bipush 10, 2) := by decide +kernel
theorem dX9_fullYield_7 : decode cX9_fullYield 7 = .ok (.if_icmp .ge 30, 3) := by decide +kernel
theorem dX9_fullYield_10 : decode cX9_fullYield 10 = .ok (.iload_n 2, 1) := by decide +kernel
theorem dX9_fullYield_11 : decode cX9_fullYield 11 = .ok (.aload_n 0, 1) := by decide +kernel
theorem dX9_fullYield_12 : decode cX9_fullYield 12 = .ok (.iload_n 1, 1) := by decide +kernel
theorem dX9_fullYield_13 : decode cX9_fullYield 13 = .ok (.iload_n 3, 1) := by decide +kernel
theorem dX9_fullYield_14 : decode cX9_fullYield 14 = .ok (.invokevirtual 81, 3) := by decide +kernel
theorem dX9_fullYield_17 : decode cX9_fullYield 17 = .ok (.iload_n 3, 1) := by decide +kernel
theorem dX9_fullYield_18 : decode cX9_fullYield 18 = .ok (.invokestatic 87, 3) := by decide +kernel
theorem dX9_fullYield_21 : decode cX9_fullYield 21 = .ok (.imul, 1) := by decide +kernel
theorem dX9_fullYield_22 : decode cX9_fullYield 22 = .ok (.aload_n 0, 1) := by decide +kernel
theorem dX9_fullYield_23 : decode cX9_fullYield 23 = .ok (.iload_n 1, 1) := by decide +kernel
theorem dX9_fullYield_24 : decode cX9_fullYield 24 = .ok (.iconst 1, 1) := by decide +kernel
theorem dX9_fullYield_25 : decode cX9_fullYield 25 = .ok (.invokevirtual 46, 3) := by decide +kernel
theorem dX9_fullYield_28 : decode cX9_fullYield 28 = .ok (.iadd, 1) := by decide +kernel
theorem dX9_fullYield_29 : decode cX9_fullYield 29 = .ok (.iadd, 1) := by decide +kernel
theorem dX9_fullYield_30 : decode cX9_fullYield 30 = .ok (.istore_n 2, 1) := by decide +kernel
theorem dX9_fullYield_31 : decode cX9_fullYield 31 = .ok (.iinc 3 1, 3) := by decide +kernel
theorem dX9_fullYield_34 : decode cX9_fullYield 34 = .ok (.goto (-30), 3) := by decide +kernel
theorem dX9_fullYield_37 : decode cX9_fullYield 37 = .ok (.iload_n 2, 1) := by decide +kernel
theorem dX9_fullYield_38 : decode cX9_fullYield 38 = .ok (.ireturn, 1) := by decide +kernel
theorem dX9_lowHours_0 : decode cX9_lowHours 0 = .ok (.iconst 0, 1) := by decide +kernel
theorem dX9_lowHours_1 : decode cX9_lowHours 1 = .ok (.istore_n 2, 1) := by decide +kernel
theorem dX9_lowHours_2 : decode cX9_lowHours 2 = .ok (.iconst 0, 1) := by decide +kernel
theorem dX9_lowHours_3 : decode cX9_lowHours 3 = .ok (.istore_n 3, 1) := by decide +kernel
theorem dX9_lowHours_4 : decode cX9_lowHours 4 = .ok (.iload_n 3, 1) := by decide +kernel
theorem dX9_lowHours_5 : decode cX9_lowHours 5 = .ok (.bipush 10, 2) := by decide +kernel
theorem dX9_lowHours_7 : decode cX9_lowHours 7 = .ok (.if_icmp .ge 46, 3) := by decide +kernel
theorem dX9_lowHours_10 : decode cX9_lowHours 10 = .ok (.iload_n 2, 1) := by decide +kernel
theorem dX9_lowHours_11 : decode cX9_lowHours 11 = .ok (.aload_n 0, 1) := by decide +kernel
theorem dX9_lowHours_12 : decode cX9_lowHours 12 = .ok (.iload_n 3, 1) := by decide +kernel
theorem dX9_lowHours_13 : decode cX9_lowHours 13 = .ok (.invokevirtual 62, 3) := by decide +kernel
theorem dX9_lowHours_16 : decode cX9_lowHours 16 = .ok (.ifCond .ne 28, 3) := by decide +kernel
theorem dX9_lowHours_19 : decode cX9_lowHours 19 = .ok (.aload_n 0, 1) := by decide +kernel
theorem dX9_lowHours_20 : decode cX9_lowHours 20 = .ok (.iload_n 1, 1) := by decide +kernel
theorem dX9_lowHours_21 : decode cX9_lowHours 21 = .ok (.aload_n 0, 1) := by decide +kernel
theorem dX9_lowHours_22 : decode cX9_lowHours 22 = .ok (.iload_n 1, 1) := by decide +kernel
theorem dX9_lowHours_23 : decode cX9_lowHours 23 = .ok (.iconst 2, 1) := by decide +kernel
theorem dX9_lowHours_24 : decode cX9_lowHours 24 = .ok (.invokevirtual 46, 3) := by decide +kernel
theorem dX9_lowHours_27 : decode cX9_lowHours 27 = .ok (.iload_n 3, 1) := by decide +kernel
theorem dX9_lowHours_28 : decode cX9_lowHours 28 = .ok (.invokevirtual 69, 3) := by decide +kernel
theorem dX9_lowHours_31 : decode cX9_lowHours 31 = .ok (.aload_n 0, 1) := by decide +kernel
theorem dX9_lowHours_32 : decode cX9_lowHours 32 = .ok (.iload_n 1, 1) := by decide +kernel
theorem dX9_lowHours_33 : decode cX9_lowHours 33 = .ok (.iconst 2, 1) := by decide +kernel
theorem dX9_lowHours_34 : decode cX9_lowHours 34 = .ok (.invokevirtual 46, 3) := by decide +kernel
theorem dX9_lowHours_37 : decode cX9_lowHours 37 = .ok (.if_icmp .ge 7, 3) := by decide +kernel
theorem dX9_lowHours_40 : decode cX9_lowHours 40 = .ok (.iconst 1, 1) := by decide +kernel
theorem dX9_lowHours_41 : decode cX9_lowHours 41 = .ok (.goto 4, 3) := by decide +kernel
theorem dX9_lowHours_44 : decode cX9_lowHours 44 = .ok (.iconst 0, 1) := by decide +kernel
theorem dX9_lowHours_45 : decode cX9_lowHours 45 = .ok (.iadd, 1) := by decide +kernel
theorem dX9_lowHours_46 : decode cX9_lowHours 46 = .ok (.istore_n 2, 1) := by decide +kernel
theorem dX9_lowHours_47 : decode cX9_lowHours 47 = .ok (.iinc 3 1, 3) := by decide +kernel
theorem dX9_lowHours_50 : decode cX9_lowHours 50 = .ok (.goto (-46), 3) := by decide +kernel
theorem dX9_lowHours_53 : decode cX9_lowHours 53 = .ok (.iload_n 2, 1) := by decide +kernel
theorem dX9_lowHours_54 : decode cX9_lowHours 54 = .ok (.ireturn, 1) := by decide +kernel
theorem dX9_shadeHours_0 : decode cX9_shadeHours 0 = .ok (.iconst 0, 1) := by decide +kernel
theorem dX9_shadeHours_1 : decode cX9_shadeHours 1 = .ok (.istore_n 2, 1) := by decide +kernel
theorem dX9_shadeHours_2 : decode cX9_shadeHours 2 = .ok (.iconst 0, 1) := by decide +kernel
theorem dX9_shadeHours_3 : decode cX9_shadeHours 3 = .ok (.istore_n 3, 1) := by decide +kernel
theorem dX9_shadeHours_4 : decode cX9_shadeHours 4 = .ok (.iload_n 3, 1) := by decide +kernel
theorem dX9_shadeHours_5 : decode cX9_shadeHours 5 = .ok (.bipush 10, 2) := by decide +kernel
theorem dX9_shadeHours_7 : decode cX9_shadeHours 7 = .ok (.if_icmp .ge 26, 3) := by decide +kernel
theorem dX9_shadeHours_10 : decode cX9_shadeHours 10 = .ok (.iload_n 2, 1) := by decide +kernel
theorem dX9_shadeHours_11 : decode cX9_shadeHours 11 = .ok (.aload_n 0, 1) := by decide +kernel
theorem dX9_shadeHours_12 : decode cX9_shadeHours 12 = .ok (.iload_n 1, 1) := by decide +kernel
theorem dX9_shadeHours_13 : decode cX9_shadeHours 13 = .ok (.iload_n 3, 1) := by decide +kernel
theorem dX9_shadeHours_14 : decode cX9_shadeHours 14 = .ok (.invokevirtual 84, 3) := by decide +kernel
theorem dX9_shadeHours_17 : decode cX9_shadeHours 17 = .ok (.ifCond .le 7, 3) := by decide +kernel
theorem dX9_shadeHours_20 : decode cX9_shadeHours 20 = .ok (.iconst 1, 1) := by decide +kernel
theorem dX9_shadeHours_21 : decode cX9_shadeHours 21 = .ok (.goto 4, 3) := by decide +kernel
theorem dX9_shadeHours_24 : decode cX9_shadeHours 24 = .ok (.iconst 0, 1) := by decide +kernel
theorem dX9_shadeHours_25 : decode cX9_shadeHours 25 = .ok (.iadd, 1) := by decide +kernel
theorem dX9_shadeHours_26 : decode cX9_shadeHours 26 = .ok (.istore_n 2, 1) := by decide +kernel
theorem dX9_shadeHours_27 : decode cX9_shadeHours 27 = .ok (.iinc 3 1, 3) := by decide +kernel
theorem dX9_shadeHours_30 : decode cX9_shadeHours 30 = .ok (.goto (-26), 3) := by decide +kernel
theorem dX9_shadeHours_33 : decode cX9_shadeHours 33 = .ok (.iload_n 2, 1) := by decide +kernel
theorem dX9_shadeHours_34 : decode cX9_shadeHours 34 = .ok (.ireturn, 1) := by decide +kernel
theorem dX9_blamedHours_0 : decode cX9_blamedHours 0 = .ok (.iconst 0, 1) := by decide +kernel
theorem dX9_blamedHours_1 : decode cX9_blamedHours 1 = .ok (.istore_n 3, 1) := by decide +kernel
theorem dX9_blamedHours_2 : decode cX9_blamedHours 2 = .ok (.iconst 0, 1) := by decide +kernel
theorem dX9_blamedHours_3 : decode cX9_blamedHours 3 = .ok (.istore 4, 2) := by decide +kernel
theorem dX9_blamedHours_5 : decode cX9_blamedHours 5 = .ok (.iload 4, 2) := by decide +kernel
theorem dX9_blamedHours_7 : decode cX9_blamedHours 7 = .ok (.bipush 10, 2) := by decide +kernel
theorem dX9_blamedHours_9 : decode cX9_blamedHours 9 = .ok (.if_icmp .ge 28, 3) := by decide +kernel
theorem dX9_blamedHours_12 : decode cX9_blamedHours 12 = .ok (.iload_n 3, 1) := by decide +kernel
theorem dX9_blamedHours_13 : decode cX9_blamedHours 13 = .ok (.aload_n 0, 1) := by decide +kernel
theorem dX9_blamedHours_14 : decode cX9_blamedHours 14 = .ok (.iload_n 1, 1) := by decide +kernel
theorem dX9_blamedHours_15 : decode cX9_blamedHours 15 = .ok (.iload 4, 2) := by decide +kernel
theorem dX9_blamedHours_17 : decode cX9_blamedHours 17 = .ok (.invokevirtual 78, 3) := by decide +kernel
theorem dX9_blamedHours_20 : decode cX9_blamedHours 20 = .ok (.iload_n 2, 1) := by decide +kernel
theorem dX9_blamedHours_21 : decode cX9_blamedHours 21 = .ok (.if_icmp .ne 7, 3) := by decide +kernel
theorem dX9_blamedHours_24 : decode cX9_blamedHours 24 = .ok (.iconst 1, 1) := by decide +kernel
theorem dX9_blamedHours_25 : decode cX9_blamedHours 25 = .ok (.goto 4, 3) := by decide +kernel
theorem dX9_blamedHours_28 : decode cX9_blamedHours 28 = .ok (.iconst 0, 1) := by decide +kernel
theorem dX9_blamedHours_29 : decode cX9_blamedHours 29 = .ok (.iadd, 1) := by decide +kernel
theorem dX9_blamedHours_30 : decode cX9_blamedHours 30 = .ok (.istore_n 3, 1) := by decide +kernel
theorem dX9_blamedHours_31 : decode cX9_blamedHours 31 = .ok (.iinc 4 1, 3) := by decide +kernel
theorem dX9_blamedHours_34 : decode cX9_blamedHours 34 = .ok (.goto (-29), 3) := by decide +kernel
theorem dX9_blamedHours_37 : decode cX9_blamedHours 37 = .ok (.iload_n 3, 1) := by decide +kernel
theorem dX9_blamedHours_38 : decode cX9_blamedHours 38 = .ok (.ireturn, 1) := by decide +kernel
theorem dX9_mostBlamed_0 : decode cX9_mostBlamed 0 = .ok (.bipush (-6), 2) := by decide +kernel
theorem dX9_mostBlamed_2 : decode cX9_mostBlamed 2 = .ok (.istore_n 2, 1) := by decide +kernel
theorem dX9_mostBlamed_3 : decode cX9_mostBlamed 3 = .ok (.iconst 0, 1) := by decide +kernel
theorem dX9_mostBlamed_4 : decode cX9_mostBlamed 4 = .ok (.istore_n 3, 1) := by decide +kernel
theorem dX9_mostBlamed_5 : decode cX9_mostBlamed 5 = .ok (.iconst 0, 1) := by decide +kernel
theorem dX9_mostBlamed_6 : decode cX9_mostBlamed 6 = .ok (.istore 4, 2) := by decide +kernel
theorem dX9_mostBlamed_8 : decode cX9_mostBlamed 8 = .ok (.iload 4, 2) := by decide +kernel
theorem dX9_mostBlamed_10 : decode cX9_mostBlamed 10 = .ok (.aload_n 0, 1) := by decide +kernel
theorem dX9_mostBlamed_11 : decode cX9_mostBlamed 11 = .ok (.getfield 7, 3) := by decide +kernel
theorem dX9_mostBlamed_14 : decode cX9_mostBlamed 14 = .ok (.iconst 0, 1) := by decide +kernel
theorem dX9_mostBlamed_15 : decode cX9_mostBlamed 15 = .ok (.iaload, 1) := by decide +kernel
theorem dX9_mostBlamed_16 : decode cX9_mostBlamed 16 = .ok (.if_icmp .ge 44, 3) := by decide +kernel
theorem dX9_mostBlamed_19 : decode cX9_mostBlamed 19 = .ok (.aload_n 0, 1) := by decide +kernel
theorem dX9_mostBlamed_20 : decode cX9_mostBlamed 20 = .ok (.iload_n 1, 1) := by decide +kernel
theorem dX9_mostBlamed_21 : decode cX9_mostBlamed 21 = .ok (.iload 4, 2) := by decide +kernel
theorem dX9_mostBlamed_23 : decode cX9_mostBlamed 23 = .ok (.invokevirtual 164, 3) := by decide +kernel
theorem dX9_mostBlamed_26 : decode cX9_mostBlamed 26 = .ok (.istore 5, 2) := by decide +kernel
theorem dX9_mostBlamed_28 : decode cX9_mostBlamed 28 = .ok (.iload 5, 2) := by decide +kernel
theorem dX9_mostBlamed_30 : decode cX9_mostBlamed 30 = .ok (.iload_n 3, 1) := by decide +kernel
theorem dX9_mostBlamed_31 : decode cX9_mostBlamed 31 = .ok (.if_icmp .le 8, 3) := by decide +kernel
theorem dX9_mostBlamed_34 : decode cX9_mostBlamed 34 = .ok (.iload 4, 2) := by decide +kernel
theorem dX9_mostBlamed_36 : decode cX9_mostBlamed 36 = .ok (.goto 4, 3) := by decide +kernel
theorem dX9_mostBlamed_39 : decode cX9_mostBlamed 39 = .ok (.iload_n 2, 1) := by decide +kernel
theorem dX9_mostBlamed_40 : decode cX9_mostBlamed 40 = .ok (.istore_n 2, 1) := by decide +kernel
theorem dX9_mostBlamed_41 : decode cX9_mostBlamed 41 = .ok (.iload 5, 2) := by decide +kernel
theorem dX9_mostBlamed_43 : decode cX9_mostBlamed 43 = .ok (.iload_n 3, 1) := by decide +kernel
theorem dX9_mostBlamed_44 : decode cX9_mostBlamed 44 = .ok (.if_icmp .le 8, 3) := by decide +kernel
theorem dX9_mostBlamed_47 : decode cX9_mostBlamed 47 = .ok (.iload 5, 2) := by decide +kernel
theorem dX9_mostBlamed_49 : decode cX9_mostBlamed 49 = .ok (.goto 4, 3) := by decide +kernel
theorem dX9_mostBlamed_52 : decode cX9_mostBlamed 52 = .ok (.iload_n 3, 1) := by decide +kernel
theorem dX9_mostBlamed_53 : decode cX9_mostBlamed 53 = .ok (.istore_n 3, 1) := by decide +kernel
theorem dX9_mostBlamed_54 : decode cX9_mostBlamed 54 = .ok (.iinc 4 1, 3) := by decide +kernel
theorem dX9_mostBlamed_57 : decode cX9_mostBlamed 57 = .ok (.goto (-49), 3) := by decide +kernel
theorem dX9_mostBlamed_60 : decode cX9_mostBlamed 60 = .ok (.iload_n 2, 1) := by decide +kernel
theorem dX9_mostBlamed_61 : decode cX9_mostBlamed 61 = .ok (.ireturn, 1) := by decide +kernel
theorem dX9_ofRow_0 : decode cX9_ofRow 0 = .ok (.aload_n 0, 1) := by decide +kernel
theorem dX9_ofRow_1 : decode cX9_ofRow 1 = .ok (.iload_n 1, 1) := by decide +kernel
theorem dX9_ofRow_2 : decode cX9_ofRow 2 = .ok (.invokevirtual 102, 3) := by decide +kernel
theorem dX9_ofRow_5 : decode cX9_ofRow 5 = .ok (.ifCond .ne 5, 3) := by decide +kernel
theorem dX9_ofRow_8 : decode cX9_ofRow 8 = .ok (.iconst (-1), 1) := by decide +kernel
theorem dX9_ofRow_9 : decode cX9_ofRow 9 = .ok (.ireturn, 1) := by decide +kernel
theorem dX9_ofRow_10 : decode cX9_ofRow 10 = .ok (.iload_n 2, 1) := by decide +kernel
theorem dX9_ofRow_11 : decode cX9_ofRow 11 = .ok (.tableswitch 96 0 8 #[49, 49, 49, 56, 66, 72, 78, 84, 90], 49) := by decide +kernel
theorem dX9_ofRow_60 : decode cX9_ofRow 60 = .ok (.aload_n 0, 1) := by decide +kernel
theorem dX9_ofRow_61 : decode cX9_ofRow 61 = .ok (.iload_n 1, 1) := by decide +kernel
theorem dX9_ofRow_62 : decode cX9_ofRow 62 = .ok (.iload_n 2, 1) := by decide +kernel
theorem dX9_ofRow_63 : decode cX9_ofRow 63 = .ok (.invokevirtual 46, 3) := by decide +kernel
theorem dX9_ofRow_66 : decode cX9_ofRow 66 = .ok (.ireturn, 1) := by decide +kernel
theorem dX9_ofRow_67 : decode cX9_ofRow 67 = .ok (.aload_n 0, 1) := by decide +kernel
theorem dX9_ofRow_68 : decode cX9_ofRow 68 = .ok (.iload_n 1, 1) := by decide +kernel
theorem dX9_ofRow_69 : decode cX9_ofRow 69 = .ok (.iconst 3, 1) := by decide +kernel
theorem dX9_ofRow_70 : decode cX9_ofRow 70 = .ok (.invokevirtual 46, 3) := by decide +kernel
theorem dX9_ofRow_73 : decode cX9_ofRow 73 = .ok (.ldc 167, 2) := by decide +kernel
theorem dX9_ofRow_75 : decode cX9_ofRow 75 = .ok (.iadd, 1) := by decide +kernel
theorem dX9_ofRow_76 : decode cX9_ofRow 76 = .ok (.ireturn, 1) := by decide +kernel
theorem dX9_ofRow_77 : decode cX9_ofRow 77 = .ok (.aload_n 0, 1) := by decide +kernel
theorem dX9_ofRow_78 : decode cX9_ofRow 78 = .ok (.iload_n 1, 1) := by decide +kernel
theorem dX9_ofRow_79 : decode cX9_ofRow 79 = .ok (.invokevirtual 93, 3) := by decide +kernel
theorem dX9_ofRow_82 : decode cX9_ofRow 82 = .ok (.ireturn, 1) := by decide +kernel
theorem dX9_ofRow_83 : decode cX9_ofRow 83 = .ok (.aload_n 0, 1) := by decide +kernel
theorem dX9_ofRow_84 : decode cX9_ofRow 84 = .ok (.iload_n 1, 1) := by decide +kernel
theorem dX9_ofRow_85 : decode cX9_ofRow 85 = .ok (.invokevirtual 168, 3) := by decide +kernel
theorem dX9_ofRow_88 : decode cX9_ofRow 88 = .ok (.ireturn, 1) := by decide +kernel
theorem dX9_ofRow_89 : decode cX9_ofRow 89 = .ok (.aload_n 0, 1) := by decide +kernel
theorem dX9_ofRow_90 : decode cX9_ofRow 90 = .ok (.iload_n 1, 1) := by decide +kernel
theorem dX9_ofRow_91 : decode cX9_ofRow 91 = .ok (.invokevirtual 171, 3) := by decide +kernel
theorem dX9_ofRow_94 : decode cX9_ofRow 94 = .ok (.ireturn, 1) := by decide +kernel
theorem dX9_ofRow_95 : decode cX9_ofRow 95 = .ok (.aload_n 0, 1) := by decide +kernel
theorem dX9_ofRow_96 : decode cX9_ofRow 96 = .ok (.iload_n 1, 1) := by decide +kernel
theorem dX9_ofRow_97 : decode cX9_ofRow 97 = .ok (.invokevirtual 174, 3) := by decide +kernel
theorem dX9_ofRow_100 : decode cX9_ofRow 100 = .ok (.ireturn, 1) := by decide +kernel
theorem dX9_ofRow_101 : decode cX9_ofRow 101 = .ok (.aload_n 0, 1) := by decide +kernel
theorem dX9_ofRow_102 : decode cX9_ofRow 102 = .ok (.iload_n 1, 1) := by decide +kernel
theorem dX9_ofRow_103 : decode cX9_ofRow 103 = .ok (.invokevirtual 177, 3) := by decide +kernel
theorem dX9_ofRow_106 : decode cX9_ofRow 106 = .ok (.ireturn, 1) := by decide +kernel
theorem dX9_ofRow_107 : decode cX9_ofRow 107 = .ok (.bipush (-2), 2) := by decide +kernel
theorem dX9_ofRow_109 : decode cX9_ofRow 109 = .ok (.ireturn, 1) := by decide +kernel
theorem dX9_inHour_0 : decode cX9_inHour 0 = .ok (.aload_n 0, 1) := by decide +kernel
theorem dX9_inHour_1 : decode cX9_inHour 1 = .ok (.iload_n 1, 1) := by decide +kernel
theorem dX9_inHour_2 : decode cX9_inHour 2 = .ok (.invokevirtual 102, 3) := by decide +kernel
theorem dX9_inHour_5 : decode cX9_inHour 5 = .ok (.ifCond .eq 10, 3) := by decide +kernel
theorem dX9_inHour_8 : decode cX9_inHour 8 = .ok (.iload_n 2, 1) := by decide +kernel
theorem dX9_inHour_9 : decode cX9_inHour 9 = .ok (.invokestatic 111, 3) := by decide +kernel
theorem dX9_inHour_12 : decode cX9_inHour 12 = .ok (.ifCond .ne 5, 3) := by decide +kernel
theorem dX9_inHour_15 : decode cX9_inHour 15 = .ok (.iconst (-1), 1) := by decide +kernel
theorem dX9_inHour_16 : decode cX9_inHour 16 = .ok (.ireturn, 1) := by decide +kernel
theorem dX9_inHour_17 : decode cX9_inHour 17 = .ok (.iload_n 3, 1) := by decide +kernel
theorem dX9_inHour_18 : decode cX9_inHour 18 = .ok (.tableswitch 75 0 4 #[34, 47, 54, 61, 68], 34) := by decide +kernel
theorem dX9_inHour_52 : decode cX9_inHour 52 = .ok (.aload_n 0, 1) := by decide +kernel
theorem dX9_inHour_53 : decode cX9_inHour 53 = .ok (.iload_n 1, 1) := by decide +kernel
theorem dX9_inHour_54 : decode cX9_inHour 54 = .ok (.aload_n 0, 1) := by decide +kernel
theorem dX9_inHour_55 : decode cX9_inHour 55 = .ok (.iload_n 1, 1) := by decide +kernel
theorem dX9_inHour_56 : decode cX9_inHour 56 = .ok (.iconst 2, 1) := by decide +kernel
theorem dX9_inHour_57 : decode cX9_inHour 57 = .ok (.invokevirtual 46, 3) := by decide +kernel
theorem dX9_inHour_60 : decode cX9_inHour 60 = .ok (.iload_n 2, 1) := by decide +kernel
theorem dX9_inHour_61 : decode cX9_inHour 61 = .ok (.invokevirtual 69, 3) := by decide +kernel
theorem dX9_inHour_64 : decode cX9_inHour 64 = .ok (.ireturn, 1) := by decide +kernel
theorem dX9_inHour_65 : decode cX9_inHour 65 = .ok (.aload_n 0, 1) := by decide +kernel
theorem dX9_inHour_66 : decode cX9_inHour 66 = .ok (.iload_n 1, 1) := by decide +kernel
theorem dX9_inHour_67 : decode cX9_inHour 67 = .ok (.iload_n 2, 1) := by decide +kernel
theorem dX9_inHour_68 : decode cX9_inHour 68 = .ok (.invokevirtual 81, 3) := by decide +kernel
theorem dX9_inHour_71 : decode cX9_inHour 71 = .ok (.ireturn, 1) := by decide +kernel
theorem dX9_inHour_72 : decode cX9_inHour 72 = .ok (.aload_n 0, 1) := by decide +kernel
theorem dX9_inHour_73 : decode cX9_inHour 73 = .ok (.iload_n 1, 1) := by decide +kernel
theorem dX9_inHour_74 : decode cX9_inHour 74 = .ok (.iload_n 2, 1) := by decide +kernel
theorem dX9_inHour_75 : decode cX9_inHour 75 = .ok (.invokevirtual 84, 3) := by decide +kernel
theorem dX9_inHour_78 : decode cX9_inHour 78 = .ok (.ireturn, 1) := by decide +kernel
theorem dX9_inHour_79 : decode cX9_inHour 79 = .ok (.aload_n 0, 1) := by decide +kernel
theorem dX9_inHour_80 : decode cX9_inHour 80 = .ok (.iload_n 1, 1) := by decide +kernel
theorem dX9_inHour_81 : decode cX9_inHour 81 = .ok (.iload_n 2, 1) := by decide +kernel
theorem dX9_inHour_82 : decode cX9_inHour 82 = .ok (.invokevirtual 78, 3) := by decide +kernel
theorem dX9_inHour_85 : decode cX9_inHour 85 = .ok (.ireturn, 1) := by decide +kernel
theorem dX9_inHour_86 : decode cX9_inHour 86 = .ok (.aload_n 0, 1) := by decide +kernel
theorem dX9_inHour_87 : decode cX9_inHour 87 = .ok (.iload_n 1, 1) := by decide +kernel
theorem dX9_inHour_88 : decode cX9_inHour 88 = .ok (.iload_n 2, 1) := by decide +kernel
theorem dX9_inHour_89 : decode cX9_inHour 89 = .ok (.invokevirtual 90, 3) := by decide +kernel
theorem dX9_inHour_92 : decode cX9_inHour 92 = .ok (.ireturn, 1) := by decide +kernel
theorem dX9_inHour_93 : decode cX9_inHour 93 = .ok (.bipush (-2), 2) := by decide +kernel
theorem dX9_inHour_95 : decode cX9_inHour 95 = .ok (.ireturn, 1) := by decide +kernel
theorem dX9_over_0 : decode cX9_over 0 = .ok (.aload_n 0, 1) := by decide +kernel
theorem dX9_over_1 : decode cX9_over 1 = .ok (.iload_n 1, 1) := by decide +kernel
theorem dX9_over_2 : decode cX9_over 2 = .ok (.invokevirtual 102, 3) := by decide +kernel
theorem dX9_over_5 : decode cX9_over 5 = .ok (.ifCond .eq 18, 3) := by decide +kernel
theorem dX9_over_8 : decode cX9_over 8 = .ok (.aload_n 0, 1) := by decide +kernel
theorem dX9_over_9 : decode cX9_over 9 = .ok (.iload_n 2, 1) := by decide +kernel
theorem dX9_over_10 : decode cX9_over 10 = .ok (.invokevirtual 102, 3) := by decide +kernel
theorem dX9_over_13 : decode cX9_over 13 = .ok (.ifCond .eq 10, 3) := by decide +kernel
theorem dX9_over_16 : decode cX9_over 16 = .ok (.iload_n 3, 1) := by decide +kernel
theorem dX9_over_17 : decode cX9_over 17 = .ok (.invokestatic 111, 3) := by decide +kernel
theorem dX9_over_20 : decode cX9_over 20 = .ok (.ifCond .ne 5, 3) := by decide +kernel
theorem dX9_over_23 : decode cX9_over 23 = .ok (.iconst (-1), 1) := by decide +kernel
theorem dX9_over_24 : decode cX9_over 24 = .ok (.ireturn, 1) := by decide +kernel
theorem dX9_over_25 : decode cX9_over 25 = .ok (.iload_n 1, 1) := by decide +kernel
theorem dX9_over_26 : decode cX9_over 26 = .ok (.iload_n 2, 1) := by decide +kernel
theorem dX9_over_27 : decode cX9_over 27 = .ok (.if_icmp .eq 13, 3) := by decide +kernel
theorem dX9_over_30 : decode cX9_over 30 = .ok (.iload 4, 2) := by decide +kernel
theorem dX9_over_32 : decode cX9_over 32 = .ok (.iconst 0, 1) := by decide +kernel
theorem dX9_over_33 : decode cX9_over 33 = .ok (.iconst 2, 1) := by decide +kernel
theorem dX9_over_34 : decode cX9_over 34 = .ok (.invokestatic 42, 3) := by decide +kernel
theorem dX9_over_37 : decode cX9_over 37 = .ok (.ifCond .ne 6, 3) := by decide +kernel
theorem dX9_over_40 : decode cX9_over 40 = .ok (.bipush (-2), 2) := by decide +kernel
theorem dX9_over_42 : decode cX9_over 42 = .ok (.ireturn, 1) := by decide +kernel
theorem dX9_over_43 : decode cX9_over 43 = .ok (.iload 4, 2) := by decide +kernel
theorem dX9_over_45 : decode cX9_over 45 = .ok (.ifCond .ne 13, 3) := by decide +kernel
theorem dX9_over_48 : decode cX9_over 48 = .ok (.aload_n 0, 1) := by decide +kernel
theorem dX9_over_49 : decode cX9_over 49 = .ok (.iload_n 1, 1) := by decide +kernel
theorem dX9_over_50 : decode cX9_over 50 = .ok (.iload_n 2, 1) := by decide +kernel
theorem dX9_over_51 : decode cX9_over 51 = .ok (.iload_n 3, 1) := by decide +kernel
theorem dX9_over_52 : decode cX9_over 52 = .ok (.invokevirtual 58, 3) := by decide +kernel
theorem dX9_over_55 : decode cX9_over 55 = .ok (.goto 32, 3) := by decide +kernel
theorem dX9_over_58 : decode cX9_over 58 = .ok (.iload 4, 2) := by decide +kernel
theorem dX9_over_60 : decode cX9_over 60 = .ok (.iconst 1, 1) := by decide +kernel
theorem dX9_over_61 : decode cX9_over 61 = .ok (.if_icmp .ne 13, 3) := by decide +kernel
theorem dX9_over_64 : decode cX9_over 64 = .ok (.aload_n 0, 1) := by decide +kernel
theorem dX9_over_65 : decode cX9_over 65 = .ok (.iload_n 1, 1) := by decide +kernel
theorem dX9_over_66 : decode cX9_over 66 = .ok (.iload_n 2, 1) := by decide +kernel
theorem dX9_over_67 : decode cX9_over 67 = .ok (.iload_n 3, 1) := by decide +kernel
theorem dX9_over_68 : decode cX9_over 68 = .ok (.invokevirtual 72, 3) := by decide +kernel
theorem dX9_over_71 : decode cX9_over 71 = .ok (.goto 16, 3) := by decide +kernel
theorem dX9_over_74 : decode cX9_over 74 = .ok (.aload_n 0, 1) := by decide +kernel
theorem dX9_over_75 : decode cX9_over 75 = .ok (.iload_n 1, 1) := by decide +kernel
theorem dX9_over_76 : decode cX9_over 76 = .ok (.aload_n 0, 1) := by decide +kernel
theorem dX9_over_77 : decode cX9_over 77 = .ok (.iload_n 1, 1) := by decide +kernel
theorem dX9_over_78 : decode cX9_over 78 = .ok (.iconst 2, 1) := by decide +kernel
theorem dX9_over_79 : decode cX9_over 79 = .ok (.invokevirtual 46, 3) := by decide +kernel
theorem dX9_over_82 : decode cX9_over 82 = .ok (.iload_n 2, 1) := by decide +kernel
theorem dX9_over_83 : decode cX9_over 83 = .ok (.iload_n 3, 1) := by decide +kernel
theorem dX9_over_84 : decode cX9_over 84 = .ok (.invokevirtual 54, 3) := by decide +kernel
theorem dX9_over_87 : decode cX9_over 87 = .ok (.ireturn, 1) := by decide +kernel
theorem dX9_offer_0 : decode cX9_offer 0 = .ok (.iload_n 1, 1) := by decide +kernel
theorem dX9_offer_1 : decode cX9_offer 1 = .ok (.iconst 0, 1) := by decide +kernel
theorem dX9_offer_2 : decode cX9_offer 2 = .ok (.iconst 1, 1) := by decide +kernel
theorem dX9_offer_3 : decode cX9_offer 3 = .ok (.invokestatic 42, 3) := by decide +kernel
theorem dX9_offer_6 : decode cX9_offer 6 = .ok (.ifCond .eq 12, 3) := by decide +kernel
theorem dX9_offer_9 : decode cX9_offer 9 = .ok (.iload_n 3, 1) := by decide +kernel
theorem dX9_offer_10 : decode cX9_offer 10 = .ok (.iconst 0, 1) := by decide +kernel
theorem dX9_offer_11 : decode cX9_offer 11 = .ok (.iconst 4, 1) := by decide +kernel
theorem dX9_offer_12 : decode cX9_offer 12 = .ok (.invokestatic 42, 3) := by decide +kernel
theorem dX9_offer_15 : decode cX9_offer 15 = .ok (.ifCond .ne 6, 3) := by decide +kernel
theorem dX9_offer_18 : decode cX9_offer 18 = .ok (.bipush (-2), 2) := by decide +kernel
theorem dX9_offer_20 : decode cX9_offer 20 = .ok (.ireturn, 1) := by decide +kernel
theorem dX9_offer_21 : decode cX9_offer 21 = .ok (.iload_n 2, 1) := by decide +kernel
theorem dX9_offer_22 : decode cX9_offer 22 = .ok (.iconst 0, 1) := by decide +kernel
theorem dX9_offer_23 : decode cX9_offer 23 = .ok (.aload_n 0, 1) := by decide +kernel
theorem dX9_offer_24 : decode cX9_offer 24 = .ok (.getfield 7, 3) := by decide +kernel
theorem dX9_offer_27 : decode cX9_offer 27 = .ok (.iconst 3, 1) := by decide +kernel
theorem dX9_offer_28 : decode cX9_offer 28 = .ok (.iload_n 1, 1) := by decide +kernel
theorem dX9_offer_29 : decode cX9_offer 29 = .ok (.iadd, 1) := by decide +kernel
theorem dX9_offer_30 : decode cX9_offer 30 = .ok (.iaload, 1) := by decide +kernel
theorem dX9_offer_31 : decode cX9_offer 31 = .ok (.iconst 1, 1) := by decide +kernel
theorem dX9_offer_32 : decode cX9_offer 32 = .ok (.isub, 1) := by decide +kernel
theorem dX9_offer_33 : decode cX9_offer 33 = .ok (.invokestatic 42, 3) := by decide +kernel
theorem dX9_offer_36 : decode cX9_offer 36 = .ok (.ifCond .ne 5, 3) := by decide +kernel
theorem dX9_offer_39 : decode cX9_offer 39 = .ok (.iconst (-1), 1) := by decide +kernel
theorem dX9_offer_40 : decode cX9_offer 40 = .ok (.ireturn, 1) := by decide +kernel
theorem dX9_offer_41 : decode cX9_offer 41 = .ok (.iload_n 1, 1) := by decide +kernel
theorem dX9_offer_42 : decode cX9_offer 42 = .ok (.iconst 1, 1) := by decide +kernel
theorem dX9_offer_43 : decode cX9_offer 43 = .ok (.if_icmp .ne 12, 3) := by decide +kernel
theorem dX9_offer_46 : decode cX9_offer 46 = .ok (.aload_n 0, 1) := by decide +kernel
theorem dX9_offer_47 : decode cX9_offer 47 = .ok (.iload_n 2, 1) := by decide +kernel
theorem dX9_offer_48 : decode cX9_offer 48 = .ok (.iload_n 3, 1) := by decide +kernel
theorem dX9_offer_49 : decode cX9_offer 49 = .ok (.invokevirtual 145, 3) := by decide +kernel
theorem dX9_offer_52 : decode cX9_offer 52 = .ok (.goto 19, 3) := by decide +kernel
theorem dX9_offer_55 : decode cX9_offer 55 = .ok (.iload_n 3, 1) := by decide +kernel
theorem dX9_offer_56 : decode cX9_offer 56 = .ok (.iconst 4, 1) := by decide +kernel
theorem dX9_offer_57 : decode cX9_offer 57 = .ok (.if_icmp .ne 8, 3) := by decide +kernel
theorem dX9_offer_60 : decode cX9_offer 60 = .ok (.bipush (-6), 2) := by decide +kernel
theorem dX9_offer_62 : decode cX9_offer 62 = .ok (.goto 9, 3) := by decide +kernel
theorem dX9_offer_65 : decode cX9_offer 65 = .ok (.aload_n 0, 1) := by decide +kernel
theorem dX9_offer_66 : decode cX9_offer 66 = .ok (.iload_n 2, 1) := by decide +kernel
theorem dX9_offer_67 : decode cX9_offer 67 = .ok (.iload_n 3, 1) := by decide +kernel
theorem dX9_offer_68 : decode cX9_offer 68 = .ok (.invokevirtual 148, 3) := by decide +kernel
theorem dX9_offer_71 : decode cX9_offer 71 = .ok (.ireturn, 1) := by decide +kernel
theorem dX9_count_0 : decode cX9_count 0 = .ok (.iload_n 1, 1) := by decide +kernel
theorem dX9_count_1 : decode cX9_count 1 = .ok (.tableswitch 97 0 7 #[47, 54, 61, 68, 73, 80, 87, 92], 47) := by decide +kernel
theorem dX9_count_48 : decode cX9_count 48 = .ok (.aload_n 0, 1) := by decide +kernel
theorem dX9_count_49 : decode cX9_count 49 = .ok (.getfield 7, 3) := by decide +kernel
theorem dX9_count_52 : decode cX9_count 52 = .ok (.iconst 0, 1) := by decide +kernel
theorem dX9_count_53 : decode cX9_count 53 = .ok (.iaload, 1) := by decide +kernel
theorem dX9_count_54 : decode cX9_count 54 = .ok (.ireturn, 1) := by decide +kernel
theorem dX9_count_55 : decode cX9_count 55 = .ok (.aload_n 0, 1) := by decide +kernel
theorem dX9_count_56 : decode cX9_count 56 = .ok (.getfield 7, 3) := by decide +kernel
theorem dX9_count_59 : decode cX9_count 59 = .ok (.iconst 3, 1) := by decide +kernel
theorem dX9_count_60 : decode cX9_count 60 = .ok (.iaload, 1) := by decide +kernel
theorem dX9_count_61 : decode cX9_count 61 = .ok (.ireturn, 1) := by decide +kernel
theorem dX9_count_62 : decode cX9_count 62 = .ok (.aload_n 0, 1) := by decide +kernel
theorem dX9_count_63 : decode cX9_count 63 = .ok (.getfield 7, 3) := by decide +kernel
theorem dX9_count_66 : decode cX9_count 66 = .ok (.iconst 4, 1) := by decide +kernel
theorem dX9_count_67 : decode cX9_count 67 = .ok (.iaload, 1) := by decide +kernel
theorem dX9_count_68 : decode cX9_count 68 = .ok (.ireturn, 1) := by decide +kernel
theorem dX9_count_69 : decode cX9_count 69 = .ok (.aload_n 0, 1) := by decide +kernel
theorem dX9_count_70 : decode cX9_count 70 = .ok (.invokevirtual 180, 3) := by decide +kernel
theorem dX9_count_73 : decode cX9_count 73 = .ok (.ireturn, 1) := by decide +kernel
theorem dX9_count_74 : decode cX9_count 74 = .ok (.aload_n 0, 1) := by decide +kernel
theorem dX9_count_75 : decode cX9_count 75 = .ok (.getfield 7, 3) := by decide +kernel
theorem dX9_count_78 : decode cX9_count 78 = .ok (.iconst 2, 1) := by decide +kernel
theorem dX9_count_79 : decode cX9_count 79 = .ok (.iaload, 1) := by decide +kernel
theorem dX9_count_80 : decode cX9_count 80 = .ok (.ireturn, 1) := by decide +kernel
theorem dX9_count_81 : decode cX9_count 81 = .ok (.aload_n 0, 1) := by decide +kernel
theorem dX9_count_82 : decode cX9_count 82 = .ok (.getfield 7, 3) := by decide +kernel
theorem dX9_count_85 : decode cX9_count 85 = .ok (.iconst 1, 1) := by decide +kernel
theorem dX9_count_86 : decode cX9_count 86 = .ok (.iaload, 1) := by decide +kernel
theorem dX9_count_87 : decode cX9_count 87 = .ok (.ireturn, 1) := by decide +kernel
theorem dX9_count_88 : decode cX9_count 88 = .ok (.aload_n 0, 1) := by decide +kernel
theorem dX9_count_89 : decode cX9_count 89 = .ok (.getfield 183, 3) := by decide +kernel
theorem dX9_count_92 : decode cX9_count 92 = .ok (.ireturn, 1) := by decide +kernel
theorem dX9_count_93 : decode cX9_count 93 = .ok (.aload_n 0, 1) := by decide +kernel
theorem dX9_count_94 : decode cX9_count 94 = .ok (.getfield 34, 3) := by decide +kernel
theorem dX9_count_97 : decode cX9_count 97 = .ok (.ireturn, 1) := by decide +kernel
theorem dX9_count_98 : decode cX9_count 98 = .ok (.iload_n 1, 1) := by decide +kernel
theorem dX9_count_99 : decode cX9_count 99 = .ok (.bipush 10, 2) := by decide +kernel
theorem dX9_count_101 : decode cX9_count 101 = .ok (.bipush 19, 2) := by decide +kernel
theorem dX9_count_103 : decode cX9_count 103 = .ok (.invokestatic 42, 3) := by decide +kernel
theorem dX9_count_106 : decode cX9_count 106 = .ok (.ifCond .eq 17, 3) := by decide +kernel
theorem dX9_count_109 : decode cX9_count 109 = .ok (.aload_n 0, 1) := by decide +kernel
theorem dX9_count_110 : decode cX9_count 110 = .ok (.getfield 7, 3) := by decide +kernel
theorem dX9_count_113 : decode cX9_count 113 = .ok (.iconst 5, 1) := by decide +kernel
theorem dX9_count_114 : decode cX9_count 114 = .ok (.iload_n 1, 1) := by decide +kernel
theorem dX9_count_115 : decode cX9_count 115 = .ok (.iadd, 1) := by decide +kernel
theorem dX9_count_116 : decode cX9_count 116 = .ok (.bipush 10, 2) := by decide +kernel
theorem dX9_count_118 : decode cX9_count 118 = .ok (.isub, 1) := by decide +kernel
theorem dX9_count_119 : decode cX9_count 119 = .ok (.iaload, 1) := by decide +kernel
theorem dX9_count_120 : decode cX9_count 120 = .ok (.goto 5, 3) := by decide +kernel
theorem dX9_count_123 : decode cX9_count 123 = .ok (.bipush (-2), 2) := by decide +kernel
theorem dX9_count_125 : decode cX9_count 125 = .ok (.ireturn, 1) := by decide +kernel
theorem dX9_worth_0 : decode cX9_worth 0 = .ok (.aload_n 0, 1) := by decide +kernel
theorem dX9_worth_1 : decode cX9_worth 1 = .ok (.iload_n 1, 1) := by decide +kernel
theorem dX9_worth_2 : decode cX9_worth 2 = .ok (.iload_n 2, 1) := by decide +kernel
theorem dX9_worth_3 : decode cX9_worth 3 = .ok (.iload_n 3, 1) := by decide +kernel
theorem dX9_worth_4 : decode cX9_worth 4 = .ok (.iload 4, 2) := by decide +kernel
theorem dX9_worth_6 : decode cX9_worth 6 = .ok (.invokevirtual 114, 3) := by decide +kernel
theorem dX9_worth_9 : decode cX9_worth 9 = .ok (.istore 6, 2) := by decide +kernel
theorem dX9_worth_11 : decode cX9_worth 11 = .ok (.iload 6, 2) := by decide +kernel
theorem dX9_worth_13 : decode cX9_worth 13 = .ok (.ifCond .lt 13, 3) := by decide +kernel
theorem dX9_worth_16 : decode cX9_worth 16 = .ok (.iload 5, 2) := by decide +kernel
theorem dX9_worth_18 : decode cX9_worth 18 = .ok (.iconst 0, 1) := by decide +kernel
theorem dX9_worth_19 : decode cX9_worth 19 = .ok (.iconst 2, 1) := by decide +kernel
theorem dX9_worth_20 : decode cX9_worth 20 = .ok (.invokestatic 42, 3) := by decide +kernel
theorem dX9_worth_23 : decode cX9_worth 23 = .ok (.ifCond .ne 16, 3) := by decide +kernel
theorem dX9_worth_26 : decode cX9_worth 26 = .ok (.iload 6, 2) := by decide +kernel
theorem dX9_worth_28 : decode cX9_worth 28 = .ok (.ifCond .ge 8, 3) := by decide +kernel
theorem dX9_worth_31 : decode cX9_worth 31 = .ok (.iload 6, 2) := by decide +kernel
theorem dX9_worth_33 : decode cX9_worth 33 = .ok (.goto 5, 3) := by decide +kernel
theorem dX9_worth_36 : decode cX9_worth 36 = .ok (.bipush (-2), 2) := by decide +kernel
theorem dX9_worth_38 : decode cX9_worth 38 = .ok (.ireturn, 1) := by decide +kernel
theorem dX9_worth_39 : decode cX9_worth 39 = .ok (.aload_n 0, 1) := by decide +kernel
theorem dX9_worth_40 : decode cX9_worth 40 = .ok (.iload_n 1, 1) := by decide +kernel
theorem dX9_worth_41 : decode cX9_worth 41 = .ok (.iload_n 2, 1) := by decide +kernel
theorem dX9_worth_42 : decode cX9_worth 42 = .ok (.iload_n 3, 1) := by decide +kernel
theorem dX9_worth_43 : decode cX9_worth 43 = .ok (.invokevirtual 58, 3) := by decide +kernel
theorem dX9_worth_46 : decode cX9_worth 46 = .ok (.istore 7, 2) := by decide +kernel
theorem dX9_worth_48 : decode cX9_worth 48 = .ok (.iload 5, 2) := by decide +kernel
theorem dX9_worth_50 : decode cX9_worth 50 = .ok (.ifCond .ne 11, 3) := by decide +kernel
theorem dX9_worth_53 : decode cX9_worth 53 = .ok (.aload_n 0, 1) := by decide +kernel
theorem dX9_worth_54 : decode cX9_worth 54 = .ok (.iload_n 1, 1) := by decide +kernel
theorem dX9_worth_55 : decode cX9_worth 55 = .ok (.invokevirtual 93, 3) := by decide +kernel
theorem dX9_worth_58 : decode cX9_worth 58 = .ok (.goto 21, 3) := by decide +kernel
theorem dX9_worth_61 : decode cX9_worth 61 = .ok (.iload 5, 2) := by decide +kernel
theorem dX9_worth_63 : decode cX9_worth 63 = .ok (.iconst 1, 1) := by decide +kernel
theorem dX9_worth_64 : decode cX9_worth 64 = .ok (.if_icmp .ne 11, 3) := by decide +kernel
theorem dX9_worth_67 : decode cX9_worth 67 = .ok (.aload_n 0, 1) := by decide +kernel
theorem dX9_worth_68 : decode cX9_worth 68 = .ok (.iload_n 2, 1) := by decide +kernel
theorem dX9_worth_69 : decode cX9_worth 69 = .ok (.invokevirtual 93, 3) := by decide +kernel
theorem dX9_worth_72 : decode cX9_worth 72 = .ok (.goto 7, 3) := by decide +kernel
theorem dX9_worth_75 : decode cX9_worth 75 = .ok (.aload_n 0, 1) := by decide +kernel
theorem dX9_worth_76 : decode cX9_worth 76 = .ok (.invokevirtual 180, 3) := by decide +kernel
theorem dX9_worth_79 : decode cX9_worth 79 = .ok (.istore 8, 2) := by decide +kernel
theorem dX9_worth_81 : decode cX9_worth 81 = .ok (.aload_n 0, 1) := by decide +kernel
theorem dX9_worth_82 : decode cX9_worth 82 = .ok (.iload_n 1, 1) := by decide +kernel
theorem dX9_worth_83 : decode cX9_worth 83 = .ok (.iload_n 2, 1) := by decide +kernel
theorem dX9_worth_84 : decode cX9_worth 84 = .ok (.iload_n 3, 1) := by decide +kernel
theorem dX9_worth_85 : decode cX9_worth 85 = .ok (.iload 4, 2) := by decide +kernel
theorem dX9_worth_87 : decode cX9_worth 87 = .ok (.invokevirtual 117, 3) := by decide +kernel
theorem dX9_worth_90 : decode cX9_worth 90 = .ok (.iload 5, 2) := by decide +kernel
theorem dX9_worth_92 : decode cX9_worth 92 = .ok (.ifCond .ne 11, 3) := by decide +kernel
theorem dX9_worth_95 : decode cX9_worth 95 = .ok (.aload_n 0, 1) := by decide +kernel
theorem dX9_worth_96 : decode cX9_worth 96 = .ok (.iload_n 1, 1) := by decide +kernel
theorem dX9_worth_97 : decode cX9_worth 97 = .ok (.invokevirtual 93, 3) := by decide +kernel
theorem dX9_worth_100 : decode cX9_worth 100 = .ok (.goto 21, 3) := by decide +kernel
theorem dX9_worth_103 : decode cX9_worth 103 = .ok (.iload 5, 2) := by decide +kernel
theorem dX9_worth_105 : decode cX9_worth 105 = .ok (.iconst 1, 1) := by decide +kernel
theorem dX9_worth_106 : decode cX9_worth 106 = .ok (.if_icmp .ne 11, 3) := by decide +kernel
theorem dX9_worth_109 : decode cX9_worth 109 = .ok (.aload_n 0, 1) := by decide +kernel
theorem dX9_worth_110 : decode cX9_worth 110 = .ok (.iload_n 2, 1) := by decide +kernel
theorem dX9_worth_111 : decode cX9_worth 111 = .ok (.invokevirtual 93, 3) := by decide +kernel
theorem dX9_worth_114 : decode cX9_worth 114 = .ok (.goto 7, 3) := by decide +kernel
theorem dX9_worth_117 : decode cX9_worth 117 = .ok (.aload_n 0, 1) := by decide +kernel
theorem dX9_worth_118 : decode cX9_worth 118 = .ok (.invokevirtual 180, 3) := by decide +kernel
theorem dX9_worth_121 : decode cX9_worth 121 = .ok (.istore 9, 2) := by decide +kernel
theorem dX9_worth_123 : decode cX9_worth 123 = .ok (.aload_n 0, 1) := by decide +kernel
theorem dX9_worth_124 : decode cX9_worth 124 = .ok (.iload_n 1, 1) := by decide +kernel
theorem dX9_worth_125 : decode cX9_worth 125 = .ok (.iload_n 2, 1) := by decide +kernel
theorem dX9_worth_126 : decode cX9_worth 126 = .ok (.iload_n 3, 1) := by decide +kernel
theorem dX9_worth_127 : decode cX9_worth 127 = .ok (.iload 7, 2) := by decide +kernel
theorem dX9_worth_129 : decode cX9_worth 129 = .ok (.invokevirtual 117, 3) := by decide +kernel
theorem dX9_worth_132 : decode cX9_worth 132 = .ok (.ldc 186, 2) := by decide +kernel
theorem dX9_worth_134 : decode cX9_worth 134 = .ok (.iload 5, 2) := by decide +kernel
theorem dX9_worth_136 : decode cX9_worth 136 = .ok (.iconst 1, 1) := by decide +kernel
theorem dX9_worth_137 : decode cX9_worth 137 = .ok (.if_icmp .ne 11, 3) := by decide +kernel
theorem dX9_worth_140 : decode cX9_worth 140 = .ok (.iload 8, 2) := by decide +kernel
theorem dX9_worth_142 : decode cX9_worth 142 = .ok (.iload 9, 2) := by decide +kernel
theorem dX9_worth_144 : decode cX9_worth 144 = .ok (.isub, 1) := by decide +kernel
theorem dX9_worth_145 : decode cX9_worth 145 = .ok (.goto 8, 3) := by decide +kernel
theorem dX9_worth_148 : decode cX9_worth 148 = .ok (.iload 9, 2) := by decide +kernel
theorem dX9_worth_150 : decode cX9_worth 150 = .ok (.iload 8, 2) := by decide +kernel
theorem dX9_worth_152 : decode cX9_worth 152 = .ok (.isub, 1) := by decide +kernel
theorem dX9_worth_153 : decode cX9_worth 153 = .ok (.iadd, 1) := by decide +kernel
theorem dX9_worth_154 : decode cX9_worth 154 = .ok (.ireturn, 1) := by decide +kernel
theorem dX9_bestTilt_0 : decode cX9_bestTilt 0 = .ok (.aload_n 0, 1) := by decide +kernel
theorem dX9_bestTilt_1 : decode cX9_bestTilt 1 = .ok (.iload_n 1, 1) := by decide +kernel
theorem dX9_bestTilt_2 : decode cX9_bestTilt 2 = .ok (.invokevirtual 102, 3) := by decide +kernel
theorem dX9_bestTilt_5 : decode cX9_bestTilt 5 = .ok (.ifCond .eq 12, 3) := by decide +kernel
theorem dX9_bestTilt_8 : decode cX9_bestTilt 8 = .ok (.iload_n 2, 1) := by decide +kernel
theorem dX9_bestTilt_9 : decode cX9_bestTilt 9 = .ok (.iconst 0, 1) := by decide +kernel
theorem dX9_bestTilt_10 : decode cX9_bestTilt 10 = .ok (.iconst 1, 1) := by decide +kernel
theorem dX9_bestTilt_11 : decode cX9_bestTilt 11 = .ok (.invokestatic 42, 3) := by decide +kernel
theorem dX9_bestTilt_14 : decode cX9_bestTilt 14 = .ok (.ifCond .ne 18, 3) := by decide +kernel
theorem dX9_bestTilt_17 : decode cX9_bestTilt 17 = .ok (.aload_n 0, 1) := by decide +kernel
theorem dX9_bestTilt_18 : decode cX9_bestTilt 18 = .ok (.iload_n 1, 1) := by decide +kernel
theorem dX9_bestTilt_19 : decode cX9_bestTilt 19 = .ok (.invokevirtual 102, 3) := by decide +kernel
theorem dX9_bestTilt_22 : decode cX9_bestTilt 22 = .ok (.ifCond .eq 8, 3) := by decide +kernel
theorem dX9_bestTilt_25 : decode cX9_bestTilt 25 = .ok (.bipush (-2), 2) := by decide +kernel
theorem dX9_bestTilt_27 : decode cX9_bestTilt 27 = .ok (.goto 4, 3) := by decide +kernel
theorem dX9_bestTilt_30 : decode cX9_bestTilt 30 = .ok (.iconst (-1), 1) := by decide +kernel
theorem dX9_bestTilt_31 : decode cX9_bestTilt 31 = .ok (.ireturn, 1) := by decide +kernel
theorem dX9_bestTilt_32 : decode cX9_bestTilt 32 = .ok (.aload_n 0, 1) := by decide +kernel
theorem dX9_bestTilt_33 : decode cX9_bestTilt 33 = .ok (.iload_n 1, 1) := by decide +kernel
theorem dX9_bestTilt_34 : decode cX9_bestTilt 34 = .ok (.iconst 2, 1) := by decide +kernel
theorem dX9_bestTilt_35 : decode cX9_bestTilt 35 = .ok (.invokevirtual 46, 3) := by decide +kernel
theorem dX9_bestTilt_38 : decode cX9_bestTilt 38 = .ok (.istore_n 3, 1) := by decide +kernel
theorem dX9_bestTilt_39 : decode cX9_bestTilt 39 = .ok (.iconst 0, 1) := by decide +kernel
theorem dX9_bestTilt_40 : decode cX9_bestTilt 40 = .ok (.istore 4, 2) := by decide +kernel
theorem dX9_bestTilt_42 : decode cX9_bestTilt 42 = .ok (.iconst (-1), 1) := by decide +kernel
theorem dX9_bestTilt_43 : decode cX9_bestTilt 43 = .ok (.istore 5, 2) := by decide +kernel
theorem dX9_bestTilt_45 : decode cX9_bestTilt 45 = .ok (.iconst 0, 1) := by decide +kernel
theorem dX9_bestTilt_46 : decode cX9_bestTilt 46 = .ok (.istore 6, 2) := by decide +kernel
theorem dX9_bestTilt_48 : decode cX9_bestTilt 48 = .ok (.iload 6, 2) := by decide +kernel
theorem dX9_bestTilt_50 : decode cX9_bestTilt 50 = .ok (.iconst 5, 1) := by decide +kernel
theorem dX9_bestTilt_51 : decode cX9_bestTilt 51 = .ok (.if_icmp .ge 55, 3) := by decide +kernel
theorem dX9_bestTilt_54 : decode cX9_bestTilt 54 = .ok (.aload_n 0, 1) := by decide +kernel
theorem dX9_bestTilt_55 : decode cX9_bestTilt 55 = .ok (.iload_n 1, 1) := by decide +kernel
theorem dX9_bestTilt_56 : decode cX9_bestTilt 56 = .ok (.iload 6, 2) := by decide +kernel
theorem dX9_bestTilt_58 : decode cX9_bestTilt 58 = .ok (.invokevirtual 108, 3) := by decide +kernel
theorem dX9_bestTilt_61 : decode cX9_bestTilt 61 = .ok (.pop, 1) := by decide +kernel
theorem dX9_bestTilt_62 : decode cX9_bestTilt 62 = .ok (.aload_n 0, 1) := by decide +kernel
theorem dX9_bestTilt_63 : decode cX9_bestTilt 63 = .ok (.invokevirtual 180, 3) := by decide +kernel
theorem dX9_bestTilt_66 : decode cX9_bestTilt 66 = .ok (.istore 7, 2) := by decide +kernel
theorem dX9_bestTilt_68 : decode cX9_bestTilt 68 = .ok (.iload 7, 2) := by decide +kernel
theorem dX9_bestTilt_70 : decode cX9_bestTilt 70 = .ok (.iload 5, 2) := by decide +kernel
theorem dX9_bestTilt_72 : decode cX9_bestTilt 72 = .ok (.if_icmp .le 8, 3) := by decide +kernel
theorem dX9_bestTilt_75 : decode cX9_bestTilt 75 = .ok (.iload 6, 2) := by decide +kernel
theorem dX9_bestTilt_77 : decode cX9_bestTilt 77 = .ok (.goto 5, 3) := by decide +kernel
theorem dX9_bestTilt_80 : decode cX9_bestTilt 80 = .ok (.iload 4, 2) := by decide +kernel
theorem dX9_bestTilt_82 : decode cX9_bestTilt 82 = .ok (.istore 4, 2) := by decide +kernel
theorem dX9_bestTilt_84 : decode cX9_bestTilt 84 = .ok (.iload 7, 2) := by decide +kernel
theorem dX9_bestTilt_86 : decode cX9_bestTilt 86 = .ok (.iload 5, 2) := by decide +kernel
theorem dX9_bestTilt_88 : decode cX9_bestTilt 88 = .ok (.if_icmp .le 8, 3) := by decide +kernel
theorem dX9_bestTilt_91 : decode cX9_bestTilt 91 = .ok (.iload 7, 2) := by decide +kernel
theorem dX9_bestTilt_93 : decode cX9_bestTilt 93 = .ok (.goto 5, 3) := by decide +kernel
theorem dX9_bestTilt_96 : decode cX9_bestTilt 96 = .ok (.iload 5, 2) := by decide +kernel
theorem dX9_bestTilt_98 : decode cX9_bestTilt 98 = .ok (.istore 5, 2) := by decide +kernel
theorem dX9_bestTilt_100 : decode cX9_bestTilt 100 = .ok (.iinc 6 1, 3) := by decide +kernel
theorem dX9_bestTilt_103 : decode cX9_bestTilt 103 = .ok (.goto (-55), 3) := by decide +kernel
theorem dX9_bestTilt_106 : decode cX9_bestTilt 106 = .ok (.aload_n 0, 1) := by decide +kernel
theorem dX9_bestTilt_107 : decode cX9_bestTilt 107 = .ok (.iload_n 1, 1) := by decide +kernel
theorem dX9_bestTilt_108 : decode cX9_bestTilt 108 = .ok (.iload_n 3, 1) := by decide +kernel
theorem dX9_bestTilt_109 : decode cX9_bestTilt 109 = .ok (.invokevirtual 108, 3) := by decide +kernel
theorem dX9_bestTilt_112 : decode cX9_bestTilt 112 = .ok (.pop, 1) := by decide +kernel
theorem dX9_bestTilt_113 : decode cX9_bestTilt 113 = .ok (.iload_n 2, 1) := by decide +kernel
theorem dX9_bestTilt_114 : decode cX9_bestTilt 114 = .ok (.ifCond .ne 8, 3) := by decide +kernel
theorem dX9_bestTilt_117 : decode cX9_bestTilt 117 = .ok (.iload 4, 2) := by decide +kernel
theorem dX9_bestTilt_119 : decode cX9_bestTilt 119 = .ok (.goto 5, 3) := by decide +kernel
theorem dX9_bestTilt_122 : decode cX9_bestTilt 122 = .ok (.iload 5, 2) := by decide +kernel
theorem dX9_bestTilt_124 : decode cX9_bestTilt 124 = .ok (.ireturn, 1) := by decide +kernel
theorem dX9_lyingAt_0 : decode cX9_lyingAt 0 = .ok (.bipush 10, 2) := by decide +kernel
theorem dX9_lyingAt_2 : decode cX9_lyingAt 2 = .ok (.iconst 5, 1) := by decide +kernel
theorem dX9_lyingAt_3 : decode cX9_lyingAt 3 = .ok (.iload_n 0, 1) := by decide +kernel
theorem dX9_lyingAt_4 : decode cX9_lyingAt 4 = .ok (.imul, 1) := by decide +kernel
theorem dX9_lyingAt_5 : decode cX9_lyingAt 5 = .ok (.iload_n 1, 1) := by decide +kernel
theorem dX9_lyingAt_6 : decode cX9_lyingAt 6 = .ok (.iadd, 1) := by decide +kernel
theorem dX9_lyingAt_7 : decode cX9_lyingAt 7 = .ok (.imul, 1) := by decide +kernel
theorem dX9_lyingAt_8 : decode cX9_lyingAt 8 = .ok (.iload_n 2, 1) := by decide +kernel
theorem dX9_lyingAt_9 : decode cX9_lyingAt 9 = .ok (.iadd, 1) := by decide +kernel
theorem dX9_lyingAt_10 : decode cX9_lyingAt 10 = .ok (.ireturn, 1) := by decide +kernel
theorem dX9_heightAt_0 : decode cX9_heightAt 0 = .ok (.bipush 10, 2) := by decide +kernel
theorem dX9_heightAt_2 : decode cX9_heightAt 2 = .ok (.bipush 6, 2) := by decide +kernel
theorem dX9_heightAt_4 : decode cX9_heightAt 4 = .ok (.iconst 5, 1) := by decide +kernel
theorem dX9_heightAt_5 : decode cX9_heightAt 5 = .ok (.iload_n 0, 1) := by decide +kernel
theorem dX9_heightAt_6 : decode cX9_heightAt 6 = .ok (.imul, 1) := by decide +kernel
theorem dX9_heightAt_7 : decode cX9_heightAt 7 = .ok (.iload_n 1, 1) := by decide +kernel
theorem dX9_heightAt_8 : decode cX9_heightAt 8 = .ok (.iadd, 1) := by decide +kernel
theorem dX9_heightAt_9 : decode cX9_heightAt 9 = .ok (.imul, 1) := by decide +kernel
theorem dX9_heightAt_10 : decode cX9_heightAt 10 = .ok (.iload_n 2, 1) := by decide +kernel
theorem dX9_heightAt_11 : decode cX9_heightAt 11 = .ok (.iadd, 1) := by decide +kernel
theorem dX9_heightAt_12 : decode cX9_heightAt 12 = .ok (.imul, 1) := by decide +kernel
theorem dX9_heightAt_13 : decode cX9_heightAt 13 = .ok (.iload_n 3, 1) := by decide +kernel
theorem dX9_heightAt_14 : decode cX9_heightAt 14 = .ok (.iadd, 1) := by decide +kernel
theorem dX9_heightAt_15 : decode cX9_heightAt 15 = .ok (.ireturn, 1) := by decide +kernel
theorem dX9_findHeights_0 : decode cX9_findHeights 0 = .ok (.iconst 0, 1) := by decide +kernel
theorem dX9_findHeights_1 : decode cX9_findHeights 1 = .ok (.istore_n 1, 1) := by decide +kernel
theorem dX9_findHeights_2 : decode cX9_findHeights 2 = .ok (.iload_n 1, 1) := by decide +kernel
theorem dX9_findHeights_3 : decode cX9_findHeights 3 = .ok (.aload_n 0, 1) := by decide +kernel
theorem dX9_findHeights_4 : decode cX9_findHeights 4 = .ok (.getfield 7, 3) := by decide +kernel
theorem dX9_findHeights_7 : decode cX9_findHeights 7 = .ok (.iconst 0, 1) := by decide +kernel
theorem dX9_findHeights_8 : decode cX9_findHeights 8 = .ok (.iaload, 1) := by decide +kernel
theorem dX9_findHeights_9 : decode cX9_findHeights 9 = .ok (.if_icmp .ge 106, 3) := by decide +kernel
theorem dX9_findHeights_12 : decode cX9_findHeights 12 = .ok (.iconst 0, 1) := by decide +kernel
theorem dX9_findHeights_13 : decode cX9_findHeights 13 = .ok (.istore_n 2, 1) := by decide +kernel
theorem dX9_findHeights_14 : decode cX9_findHeights 14 = .ok (.iload_n 2, 1) := by decide +kernel
theorem dX9_findHeights_15 : decode cX9_findHeights 15 = .ok (.iconst 5, 1) := by decide +kernel
theorem dX9_findHeights_16 : decode cX9_findHeights 16 = .ok (.if_icmp .ge 93, 3) := by decide +kernel
theorem dX9_findHeights_19 : decode cX9_findHeights 19 = .ok (.iconst 0, 1) := by decide +kernel
theorem dX9_findHeights_20 : decode cX9_findHeights 20 = .ok (.istore_n 3, 1) := by decide +kernel
theorem dX9_findHeights_21 : decode cX9_findHeights 21 = .ok (.iload_n 3, 1) := by decide +kernel
theorem dX9_findHeights_22 : decode cX9_findHeights 22 = .ok (.bipush 10, 2) := by decide +kernel
theorem dX9_findHeights_24 : decode cX9_findHeights 24 = .ok (.if_icmp .ge 79, 3) := by decide +kernel
theorem dX9_findHeights_27 : decode cX9_findHeights 27 = .ok (.aload_n 0, 1) := by decide +kernel
theorem dX9_findHeights_28 : decode cX9_findHeights 28 = .ok (.getfield 25, 3) := by decide +kernel
theorem dX9_findHeights_31 : decode cX9_findHeights 31 = .ok (.iload_n 1, 1) := by decide +kernel
theorem dX9_findHeights_32 : decode cX9_findHeights 32 = .ok (.iload_n 2, 1) := by decide +kernel
theorem dX9_findHeights_33 : decode cX9_findHeights 33 = .ok (.iload_n 3, 1) := by decide +kernel
theorem dX9_findHeights_34 : decode cX9_findHeights 34 = .ok (.invokestatic 187, 3) := by decide +kernel
theorem dX9_findHeights_37 : decode cX9_findHeights 37 = .ok (.aload_n 0, 1) := by decide +kernel
theorem dX9_findHeights_38 : decode cX9_findHeights 38 = .ok (.iload_n 1, 1) := by decide +kernel
theorem dX9_findHeights_39 : decode cX9_findHeights 39 = .ok (.iload_n 2, 1) := by decide +kernel
theorem dX9_findHeights_40 : decode cX9_findHeights 40 = .ok (.iload_n 3, 1) := by decide +kernel
theorem dX9_findHeights_41 : decode cX9_findHeights 41 = .ok (.invokevirtual 69, 3) := by decide +kernel
theorem dX9_findHeights_44 : decode cX9_findHeights 44 = .ok (.iastore, 1) := by decide +kernel
theorem dX9_findHeights_45 : decode cX9_findHeights 45 = .ok (.iconst 0, 1) := by decide +kernel
theorem dX9_findHeights_46 : decode cX9_findHeights 46 = .ok (.istore 4, 2) := by decide +kernel
theorem dX9_findHeights_48 : decode cX9_findHeights 48 = .ok (.iload 4, 2) := by decide +kernel
theorem dX9_findHeights_50 : decode cX9_findHeights 50 = .ok (.aload_n 0, 1) := by decide +kernel
theorem dX9_findHeights_51 : decode cX9_findHeights 51 = .ok (.getfield 7, 3) := by decide +kernel
theorem dX9_findHeights_54 : decode cX9_findHeights 54 = .ok (.iconst 0, 1) := by decide +kernel
theorem dX9_findHeights_55 : decode cX9_findHeights 55 = .ok (.iaload, 1) := by decide +kernel
theorem dX9_findHeights_56 : decode cX9_findHeights 56 = .ok (.if_icmp .ge 41, 3) := by decide +kernel
theorem dX9_findHeights_59 : decode cX9_findHeights 59 = .ok (.aload_n 0, 1) := by decide +kernel
theorem dX9_findHeights_60 : decode cX9_findHeights 60 = .ok (.getfield 28, 3) := by decide +kernel
theorem dX9_findHeights_63 : decode cX9_findHeights 63 = .ok (.iload_n 1, 1) := by decide +kernel
theorem dX9_findHeights_64 : decode cX9_findHeights 64 = .ok (.iload_n 2, 1) := by decide +kernel
theorem dX9_findHeights_65 : decode cX9_findHeights 65 = .ok (.iload 4, 2) := by decide +kernel
theorem dX9_findHeights_67 : decode cX9_findHeights 67 = .ok (.iload_n 3, 1) := by decide +kernel
theorem dX9_findHeights_68 : decode cX9_findHeights 68 = .ok (.invokestatic 190, 3) := by decide +kernel
theorem dX9_findHeights_71 : decode cX9_findHeights 71 = .ok (.iload_n 1, 1) := by decide +kernel
theorem dX9_findHeights_72 : decode cX9_findHeights 72 = .ok (.iload 4, 2) := by decide +kernel
theorem dX9_findHeights_74 : decode cX9_findHeights 74 = .ok (.if_icmp .ne 7, 3) := by decide +kernel
theorem dX9_findHeights_77 : decode cX9_findHeights 77 = .ok (.iconst 0, 1) := by decide +kernel
theorem dX9_findHeights_78 : decode cX9_findHeights 78 = .ok (.goto 12, 3) := by decide +kernel
theorem dX9_findHeights_81 : decode cX9_findHeights 81 = .ok (.aload_n 0, 1) := by decide +kernel
theorem dX9_findHeights_82 : decode cX9_findHeights 82 = .ok (.iload_n 1, 1) := by decide +kernel
theorem dX9_findHeights_83 : decode cX9_findHeights 83 = .ok (.iload_n 2, 1) := by decide +kernel
theorem dX9_findHeights_84 : decode cX9_findHeights 84 = .ok (.iload 4, 2) := by decide +kernel
theorem dX9_findHeights_86 : decode cX9_findHeights 86 = .ok (.iload_n 3, 1) := by decide +kernel
theorem dX9_findHeights_87 : decode cX9_findHeights 87 = .ok (.invokevirtual 54, 3) := by decide +kernel
theorem dX9_findHeights_90 : decode cX9_findHeights 90 = .ok (.iastore, 1) := by decide +kernel
theorem dX9_findHeights_91 : decode cX9_findHeights 91 = .ok (.iinc 4 1, 3) := by decide +kernel
theorem dX9_findHeights_94 : decode cX9_findHeights 94 = .ok (.goto (-46), 3) := by decide +kernel
theorem dX9_findHeights_97 : decode cX9_findHeights 97 = .ok (.iinc 3 1, 3) := by decide +kernel
theorem dX9_findHeights_100 : decode cX9_findHeights 100 = .ok (.goto (-79), 3) := by decide +kernel
theorem dX9_findHeights_103 : decode cX9_findHeights 103 = .ok (.iinc 2 1, 3) := by decide +kernel
theorem dX9_findHeights_106 : decode cX9_findHeights 106 = .ok (.goto (-92), 3) := by decide +kernel
theorem dX9_findHeights_109 : decode cX9_findHeights 109 = .ok (.iinc 1 1, 3) := by decide +kernel
theorem dX9_findHeights_112 : decode cX9_findHeights 112 = .ok (.goto (-110), 3) := by decide +kernel
theorem dX9_findHeights_115 : decode cX9_findHeights 115 = .ok (.return_, 1) := by decide +kernel
theorem dX9_yieldsBy_0 : decode cX9_yieldsBy 0 = .ok (.iconst 0, 1) := by decide +kernel
theorem dX9_yieldsBy_1 : decode cX9_yieldsBy 1 = .ok (.istore_n 1, 1) := by decide +kernel
theorem dX9_yieldsBy_2 : decode cX9_yieldsBy 2 = .ok (.iconst 0, 1) := by decide +kernel
theorem dX9_yieldsBy_3 : decode cX9_yieldsBy 3 = .ok (.istore_n 2, 1) := by decide +kernel
theorem dX9_yieldsBy_4 : decode cX9_yieldsBy 4 = .ok (.iload_n 2, 1) := by decide +kernel
theorem dX9_yieldsBy_5 : decode cX9_yieldsBy 5 = .ok (.bipush 10, 2) := by decide +kernel
theorem dX9_yieldsBy_7 : decode cX9_yieldsBy 7 = .ok (.if_icmp .ge 152, 3) := by decide +kernel
theorem dX9_yieldsBy_10 : decode cX9_yieldsBy 10 = .ok (.iconst 0, 1) := by decide +kernel
theorem dX9_yieldsBy_11 : decode cX9_yieldsBy 11 = .ok (.istore_n 3, 1) := by decide +kernel
theorem dX9_yieldsBy_12 : decode cX9_yieldsBy 12 = .ok (.iload_n 3, 1) := by decide +kernel
theorem dX9_yieldsBy_13 : decode cX9_yieldsBy 13 = .ok (.aload_n 0, 1) := by decide +kernel
theorem dX9_yieldsBy_14 : decode cX9_yieldsBy 14 = .ok (.getfield 7, 3) := by decide +kernel
theorem dX9_yieldsBy_17 : decode cX9_yieldsBy 17 = .ok (.iconst 0, 1) := by decide +kernel
theorem dX9_yieldsBy_18 : decode cX9_yieldsBy 18 = .ok (.iaload, 1) := by decide +kernel
theorem dX9_yieldsBy_19 : decode cX9_yieldsBy 19 = .ok (.if_icmp .ge 134, 3) := by decide +kernel
theorem dX9_yieldsBy_22 : decode cX9_yieldsBy 22 = .ok (.iconst 0, 1) := by decide +kernel
theorem dX9_yieldsBy_23 : decode cX9_yieldsBy 23 = .ok (.istore 4, 2) := by decide +kernel
theorem dX9_yieldsBy_25 : decode cX9_yieldsBy 25 = .ok (.iconst 0, 1) := by decide +kernel
theorem dX9_yieldsBy_26 : decode cX9_yieldsBy 26 = .ok (.istore 5, 2) := by decide +kernel
theorem dX9_yieldsBy_28 : decode cX9_yieldsBy 28 = .ok (.iload 5, 2) := by decide +kernel
theorem dX9_yieldsBy_30 : decode cX9_yieldsBy 30 = .ok (.aload_n 0, 1) := by decide +kernel
theorem dX9_yieldsBy_31 : decode cX9_yieldsBy 31 = .ok (.getfield 7, 3) := by decide +kernel
theorem dX9_yieldsBy_34 : decode cX9_yieldsBy 34 = .ok (.iconst 0, 1) := by decide +kernel
theorem dX9_yieldsBy_35 : decode cX9_yieldsBy 35 = .ok (.iaload, 1) := by decide +kernel
theorem dX9_yieldsBy_36 : decode cX9_yieldsBy 36 = .ok (.if_icmp .ge 57, 3) := by decide +kernel
theorem dX9_yieldsBy_39 : decode cX9_yieldsBy 39 = .ok (.aload_n 0, 1) := by decide +kernel
theorem dX9_yieldsBy_40 : decode cX9_yieldsBy 40 = .ok (.getfield 28, 3) := by decide +kernel
theorem dX9_yieldsBy_43 : decode cX9_yieldsBy 43 = .ok (.iload 5, 2) := by decide +kernel
theorem dX9_yieldsBy_45 : decode cX9_yieldsBy 45 = .ok (.aload_n 0, 1) := by decide +kernel
theorem dX9_yieldsBy_46 : decode cX9_yieldsBy 46 = .ok (.getfield 25, 3) := by decide +kernel
theorem dX9_yieldsBy_49 : decode cX9_yieldsBy 49 = .ok (.iload 5, 2) := by decide +kernel
theorem dX9_yieldsBy_51 : decode cX9_yieldsBy 51 = .ok (.aload_n 0, 1) := by decide +kernel
theorem dX9_yieldsBy_52 : decode cX9_yieldsBy 52 = .ok (.getfield 31, 3) := by decide +kernel
theorem dX9_yieldsBy_55 : decode cX9_yieldsBy 55 = .ok (.iload 5, 2) := by decide +kernel
theorem dX9_yieldsBy_57 : decode cX9_yieldsBy 57 = .ok (.iaload, 1) := by decide +kernel
theorem dX9_yieldsBy_58 : decode cX9_yieldsBy 58 = .ok (.iload_n 2, 1) := by decide +kernel
theorem dX9_yieldsBy_59 : decode cX9_yieldsBy 59 = .ok (.invokestatic 187, 3) := by decide +kernel
theorem dX9_yieldsBy_62 : decode cX9_yieldsBy 62 = .ok (.iaload, 1) := by decide +kernel
theorem dX9_yieldsBy_63 : decode cX9_yieldsBy 63 = .ok (.iload_n 3, 1) := by decide +kernel
theorem dX9_yieldsBy_64 : decode cX9_yieldsBy 64 = .ok (.iload_n 2, 1) := by decide +kernel
theorem dX9_yieldsBy_65 : decode cX9_yieldsBy 65 = .ok (.invokestatic 190, 3) := by decide +kernel
theorem dX9_yieldsBy_68 : decode cX9_yieldsBy 68 = .ok (.iaload, 1) := by decide +kernel
theorem dX9_yieldsBy_69 : decode cX9_yieldsBy 69 = .ok (.istore 6, 2) := by decide +kernel
theorem dX9_yieldsBy_71 : decode cX9_yieldsBy 71 = .ok (.iload 6, 2) := by decide +kernel
theorem dX9_yieldsBy_73 : decode cX9_yieldsBy 73 = .ok (.iload 4, 2) := by decide +kernel
theorem dX9_yieldsBy_75 : decode cX9_yieldsBy 75 = .ok (.if_icmp .le 8, 3) := by decide +kernel
theorem dX9_yieldsBy_78 : decode cX9_yieldsBy 78 = .ok (.iload 6, 2) := by decide +kernel
theorem dX9_yieldsBy_80 : decode cX9_yieldsBy 80 = .ok (.goto 5, 3) := by decide +kernel
theorem dX9_yieldsBy_83 : decode cX9_yieldsBy 83 = .ok (.iload 4, 2) := by decide +kernel
theorem dX9_yieldsBy_85 : decode cX9_yieldsBy 85 = .ok (.istore 4, 2) := by decide +kernel
theorem dX9_yieldsBy_87 : decode cX9_yieldsBy 87 = .ok (.iinc 5 1, 3) := by decide +kernel
theorem dX9_yieldsBy_90 : decode cX9_yieldsBy 90 = .ok (.goto (-62), 3) := by decide +kernel
theorem dX9_yieldsBy_93 : decode cX9_yieldsBy 93 = .ok (.aload_n 0, 1) := by decide +kernel
theorem dX9_yieldsBy_94 : decode cX9_yieldsBy 94 = .ok (.iload_n 3, 1) := by decide +kernel
theorem dX9_yieldsBy_95 : decode cX9_yieldsBy 95 = .ok (.iconst 1, 1) := by decide +kernel
theorem dX9_yieldsBy_96 : decode cX9_yieldsBy 96 = .ok (.invokevirtual 46, 3) := by decide +kernel
theorem dX9_yieldsBy_99 : decode cX9_yieldsBy 99 = .ok (.aload_n 0, 1) := by decide +kernel
theorem dX9_yieldsBy_100 : decode cX9_yieldsBy 100 = .ok (.getfield 25, 3) := by decide +kernel
theorem dX9_yieldsBy_103 : decode cX9_yieldsBy 103 = .ok (.iload_n 3, 1) := by decide +kernel
theorem dX9_yieldsBy_104 : decode cX9_yieldsBy 104 = .ok (.aload_n 0, 1) := by decide +kernel
theorem dX9_yieldsBy_105 : decode cX9_yieldsBy 105 = .ok (.getfield 31, 3) := by decide +kernel
theorem dX9_yieldsBy_108 : decode cX9_yieldsBy 108 = .ok (.iload_n 3, 1) := by decide +kernel
theorem dX9_yieldsBy_109 : decode cX9_yieldsBy 109 = .ok (.iaload, 1) := by decide +kernel
theorem dX9_yieldsBy_110 : decode cX9_yieldsBy 110 = .ok (.iload_n 2, 1) := by decide +kernel
theorem dX9_yieldsBy_111 : decode cX9_yieldsBy 111 = .ok (.invokestatic 187, 3) := by decide +kernel
theorem dX9_yieldsBy_114 : decode cX9_yieldsBy 114 = .ok (.iaload, 1) := by decide +kernel
theorem dX9_yieldsBy_115 : decode cX9_yieldsBy 115 = .ok (.imul, 1) := by decide +kernel
theorem dX9_yieldsBy_116 : decode cX9_yieldsBy 116 = .ok (.iload 4, 2) := by decide +kernel
theorem dX9_yieldsBy_118 : decode cX9_yieldsBy 118 = .ok (.isub, 1) := by decide +kernel
theorem dX9_yieldsBy_119 : decode cX9_yieldsBy 119 = .ok (.istore 5, 2) := by decide +kernel
theorem dX9_yieldsBy_121 : decode cX9_yieldsBy 121 = .ok (.iload_n 1, 1) := by decide +kernel
theorem dX9_yieldsBy_122 : decode cX9_yieldsBy 122 = .ok (.aload_n 0, 1) := by decide +kernel
theorem dX9_yieldsBy_123 : decode cX9_yieldsBy 123 = .ok (.iload_n 3, 1) := by decide +kernel
theorem dX9_yieldsBy_124 : decode cX9_yieldsBy 124 = .ok (.iconst 1, 1) := by decide +kernel
theorem dX9_yieldsBy_125 : decode cX9_yieldsBy 125 = .ok (.invokevirtual 46, 3) := by decide +kernel
theorem dX9_yieldsBy_128 : decode cX9_yieldsBy 128 = .ok (.iload 5, 2) := by decide +kernel
theorem dX9_yieldsBy_130 : decode cX9_yieldsBy 130 = .ok (.ifCond .le 13, 3) := by decide +kernel
theorem dX9_yieldsBy_133 : decode cX9_yieldsBy 133 = .ok (.iload 5, 2) := by decide +kernel
theorem dX9_yieldsBy_135 : decode cX9_yieldsBy 135 = .ok (.iload_n 2, 1) := by decide +kernel
theorem dX9_yieldsBy_136 : decode cX9_yieldsBy 136 = .ok (.invokestatic 87, 3) := by decide +kernel
theorem dX9_yieldsBy_139 : decode cX9_yieldsBy 139 = .ok (.imul, 1) := by decide +kernel
theorem dX9_yieldsBy_140 : decode cX9_yieldsBy 140 = .ok (.goto 4, 3) := by decide +kernel
theorem dX9_yieldsBy_143 : decode cX9_yieldsBy 143 = .ok (.iconst 0, 1) := by decide +kernel
theorem dX9_yieldsBy_144 : decode cX9_yieldsBy 144 = .ok (.iadd, 1) := by decide +kernel
theorem dX9_yieldsBy_145 : decode cX9_yieldsBy 145 = .ok (.iadd, 1) := by decide +kernel
theorem dX9_yieldsBy_146 : decode cX9_yieldsBy 146 = .ok (.istore_n 1, 1) := by decide +kernel
theorem dX9_yieldsBy_147 : decode cX9_yieldsBy 147 = .ok (.iinc 3 1, 3) := by decide +kernel
theorem dX9_yieldsBy_150 : decode cX9_yieldsBy 150 = .ok (.goto (-138), 3) := by decide +kernel
theorem dX9_yieldsBy_153 : decode cX9_yieldsBy 153 = .ok (.iinc 2 1, 3) := by decide +kernel
theorem dX9_yieldsBy_156 : decode cX9_yieldsBy 156 = .ok (.goto (-152), 3) := by decide +kernel
theorem dX9_yieldsBy_159 : decode cX9_yieldsBy 159 = .ok (.iload_n 1, 1) := by decide +kernel
theorem dX9_yieldsBy_160 : decode cX9_yieldsBy 160 = .ok (.ireturn, 1) := by decide +kernel
theorem dX9_bestTilts_0 : decode cX9_bestTilts 0 = .ok (.aload_n 0, 1) := by decide +kernel
theorem dX9_bestTilts_1 : decode cX9_bestTilts 1 = .ok (.getfield 7, 3) := by decide +kernel
theorem dX9_bestTilts_4 : decode cX9_bestTilts 4 = .ok (.iconst 0, 1) := by decide +kernel
theorem dX9_bestTilts_5 : decode cX9_bestTilts 5 = .ok (.iaload, 1) := by decide +kernel
theorem dX9_bestTilts_6 : decode cX9_bestTilts 6 = .ok (.istore_n 2, 1) := by decide +kernel
theorem dX9_bestTilts_7 : decode cX9_bestTilts 7 = .ok (.iload_n 1, 1) := by decide +kernel
theorem dX9_bestTilts_8 : decode cX9_bestTilts 8 = .ok (.bipush 9, 2) := by decide +kernel
theorem dX9_bestTilts_10 : decode cX9_bestTilts 10 = .ok (.if_icmp .eq 17, 3) := by decide +kernel
theorem dX9_bestTilts_13 : decode cX9_bestTilts 13 = .ok (.iload_n 1, 1) := by decide +kernel
theorem dX9_bestTilts_14 : decode cX9_bestTilts 14 = .ok (.iconst 0, 1) := by decide +kernel
theorem dX9_bestTilts_15 : decode cX9_bestTilts 15 = .ok (.iload_n 2, 1) := by decide +kernel
theorem dX9_bestTilts_16 : decode cX9_bestTilts 16 = .ok (.iconst 1, 1) := by decide +kernel
theorem dX9_bestTilts_17 : decode cX9_bestTilts 17 = .ok (.isub, 1) := by decide +kernel
theorem dX9_bestTilts_18 : decode cX9_bestTilts 18 = .ok (.invokestatic 42, 3) := by decide +kernel
theorem dX9_bestTilts_21 : decode cX9_bestTilts 21 = .ok (.ifCond .ne 6, 3) := by decide +kernel
theorem dX9_bestTilts_24 : decode cX9_bestTilts 24 = .ok (.bipush (-2), 2) := by decide +kernel
theorem dX9_bestTilts_26 : decode cX9_bestTilts 26 = .ok (.ireturn, 1) := by decide +kernel
theorem dX9_bestTilts_27 : decode cX9_bestTilts 27 = .ok (.aload_n 0, 1) := by decide +kernel
theorem dX9_bestTilts_28 : decode cX9_bestTilts 28 = .ok (.invokevirtual 193, 3) := by decide +kernel
theorem dX9_bestTilts_31 : decode cX9_bestTilts 31 = .ok (.iconst 1, 1) := by decide +kernel
theorem dX9_bestTilts_32 : decode cX9_bestTilts 32 = .ok (.istore_n 3, 1) := by decide +kernel
theorem dX9_bestTilts_33 : decode cX9_bestTilts 33 = .ok (.iconst 0, 1) := by decide +kernel
theorem dX9_bestTilts_34 : decode cX9_bestTilts 34 = .ok (.istore 4, 2) := by decide +kernel
theorem dX9_bestTilts_36 : decode cX9_bestTilts 36 = .ok (.iload 4, 2) := by decide +kernel
theorem dX9_bestTilts_38 : decode cX9_bestTilts 38 = .ok (.iload_n 2, 1) := by decide +kernel
theorem dX9_bestTilts_39 : decode cX9_bestTilts 39 = .ok (.if_icmp .ge 13, 3) := by decide +kernel
theorem dX9_bestTilts_42 : decode cX9_bestTilts 42 = .ok (.iload_n 3, 1) := by decide +kernel
theorem dX9_bestTilts_43 : decode cX9_bestTilts 43 = .ok (.iconst 5, 1) := by decide +kernel
theorem dX9_bestTilts_44 : decode cX9_bestTilts 44 = .ok (.imul, 1) := by decide +kernel
theorem dX9_bestTilts_45 : decode cX9_bestTilts 45 = .ok (.istore_n 3, 1) := by decide +kernel
theorem dX9_bestTilts_46 : decode cX9_bestTilts 46 = .ok (.iinc 4 1, 3) := by decide +kernel
theorem dX9_bestTilts_49 : decode cX9_bestTilts 49 = .ok (.goto (-13), 3) := by decide +kernel
theorem dX9_bestTilts_52 : decode cX9_bestTilts 52 = .ok (.iconst 0, 1) := by decide +kernel
theorem dX9_bestTilts_53 : decode cX9_bestTilts 53 = .ok (.istore 4, 2) := by decide +kernel
theorem dX9_bestTilts_55 : decode cX9_bestTilts 55 = .ok (.iconst (-1), 1) := by decide +kernel
theorem dX9_bestTilts_56 : decode cX9_bestTilts 56 = .ok (.istore 5, 2) := by decide +kernel
theorem dX9_bestTilts_58 : decode cX9_bestTilts 58 = .ok (.iconst 0, 1) := by decide +kernel
theorem dX9_bestTilts_59 : decode cX9_bestTilts 59 = .ok (.istore 6, 2) := by decide +kernel
theorem dX9_bestTilts_61 : decode cX9_bestTilts 61 = .ok (.iload 6, 2) := by decide +kernel
theorem dX9_bestTilts_63 : decode cX9_bestTilts 63 = .ok (.iload_n 3, 1) := by decide +kernel
theorem dX9_bestTilts_64 : decode cX9_bestTilts 64 = .ok (.if_icmp .ge 84, 3) := by decide +kernel
theorem dX9_bestTilts_67 : decode cX9_bestTilts 67 = .ok (.iload 6, 2) := by decide +kernel
theorem dX9_bestTilts_69 : decode cX9_bestTilts 69 = .ok (.istore 7, 2) := by decide +kernel
theorem dX9_bestTilts_71 : decode cX9_bestTilts 71 = .ok (.iload_n 2, 1) := by decide +kernel
theorem dX9_bestTilts_72 : decode cX9_bestTilts 72 = .ok (.iconst 1, 1) := by decide +kernel
theorem dX9_bestTilts_73 : decode cX9_bestTilts 73 = .ok (.isub, 1) := by decide +kernel
theorem dX9_bestTilts_74 : decode cX9_bestTilts 74 = .ok (.istore 8, 2) := by decide +kernel
theorem dX9_bestTilts_76 : decode cX9_bestTilts 76 = .ok (.iload 8, 2) := by decide +kernel
theorem dX9_bestTilts_78 : decode cX9_bestTilts 78 = .ok (.ifCond .lt 26, 3) := by decide +kernel
theorem dX9_bestTilts_81 : decode cX9_bestTilts 81 = .ok (.aload_n 0, 1) := by decide +kernel
theorem dX9_bestTilts_82 : decode cX9_bestTilts 82 = .ok (.getfield 31, 3) := by decide +kernel
theorem dX9_bestTilts_85 : decode cX9_bestTilts 85 = .ok (.iload 8, 2) := by decide +kernel
theorem dX9_bestTilts_87 : decode cX9_bestTilts 87 = .ok (.iload 7, 2) := by decide +kernel
theorem dX9_bestTilts_89 : decode cX9_bestTilts 89 = .ok (.iconst 5, 1) := by decide +kernel
theorem dX9_bestTilts_90 : decode cX9_bestTilts 90 = .ok (.irem, 1) := by decide +kernel
theorem dX9_bestTilts_91 : decode cX9_bestTilts 91 = .ok (.iastore, 1) := by decide +kernel
theorem dX9_bestTilts_92 : decode cX9_bestTilts 92 = .ok (.iload 7, 2) := by decide +kernel
theorem dX9_bestTilts_94 : decode cX9_bestTilts 94 = .ok (.iconst 5, 1) := by decide +kernel
theorem dX9_bestTilts_95 : decode cX9_bestTilts 95 = .ok (.idiv, 1) := by decide +kernel
theorem dX9_bestTilts_96 : decode cX9_bestTilts 96 = .ok (.istore 7, 2) := by decide +kernel
theorem dX9_bestTilts_98 : decode cX9_bestTilts 98 = .ok (.iinc 8 (-1), 3) := by decide +kernel
theorem dX9_bestTilts_101 : decode cX9_bestTilts 101 = .ok (.goto (-25), 3) := by decide +kernel
theorem dX9_bestTilts_104 : decode cX9_bestTilts 104 = .ok (.aload_n 0, 1) := by decide +kernel
theorem dX9_bestTilts_105 : decode cX9_bestTilts 105 = .ok (.invokevirtual 196, 3) := by decide +kernel
theorem dX9_bestTilts_108 : decode cX9_bestTilts 108 = .ok (.istore 8, 2) := by decide +kernel
theorem dX9_bestTilts_110 : decode cX9_bestTilts 110 = .ok (.iload 8, 2) := by decide +kernel
theorem dX9_bestTilts_112 : decode cX9_bestTilts 112 = .ok (.iload 5, 2) := by decide +kernel
theorem dX9_bestTilts_114 : decode cX9_bestTilts 114 = .ok (.if_icmp .le 8, 3) := by decide +kernel
theorem dX9_bestTilts_117 : decode cX9_bestTilts 117 = .ok (.iload 6, 2) := by decide +kernel
theorem dX9_bestTilts_119 : decode cX9_bestTilts 119 = .ok (.goto 5, 3) := by decide +kernel
theorem dX9_bestTilts_122 : decode cX9_bestTilts 122 = .ok (.iload 4, 2) := by decide +kernel
theorem dX9_bestTilts_124 : decode cX9_bestTilts 124 = .ok (.istore 4, 2) := by decide +kernel
theorem dX9_bestTilts_126 : decode cX9_bestTilts 126 = .ok (.iload 8, 2) := by decide +kernel
theorem dX9_bestTilts_128 : decode cX9_bestTilts 128 = .ok (.iload 5, 2) := by decide +kernel
theorem dX9_bestTilts_130 : decode cX9_bestTilts 130 = .ok (.if_icmp .le 8, 3) := by decide +kernel
theorem dX9_bestTilts_133 : decode cX9_bestTilts 133 = .ok (.iload 8, 2) := by decide +kernel
theorem dX9_bestTilts_135 : decode cX9_bestTilts 135 = .ok (.goto 5, 3) := by decide +kernel
theorem dX9_bestTilts_138 : decode cX9_bestTilts 138 = .ok (.iload 5, 2) := by decide +kernel
theorem dX9_bestTilts_140 : decode cX9_bestTilts 140 = .ok (.istore 5, 2) := by decide +kernel
theorem dX9_bestTilts_142 : decode cX9_bestTilts 142 = .ok (.iinc 6 1, 3) := by decide +kernel
theorem dX9_bestTilts_145 : decode cX9_bestTilts 145 = .ok (.goto (-84), 3) := by decide +kernel
theorem dX9_bestTilts_148 : decode cX9_bestTilts 148 = .ok (.iload_n 2, 1) := by decide +kernel
theorem dX9_bestTilts_149 : decode cX9_bestTilts 149 = .ok (.iconst 1, 1) := by decide +kernel
theorem dX9_bestTilts_150 : decode cX9_bestTilts 150 = .ok (.isub, 1) := by decide +kernel
theorem dX9_bestTilts_151 : decode cX9_bestTilts 151 = .ok (.istore 6, 2) := by decide +kernel
theorem dX9_bestTilts_153 : decode cX9_bestTilts 153 = .ok (.iload 6, 2) := by decide +kernel
theorem dX9_bestTilts_155 : decode cX9_bestTilts 155 = .ok (.iload_n 1, 1) := by decide +kernel
theorem dX9_bestTilts_156 : decode cX9_bestTilts 156 = .ok (.if_icmp .le 21, 3) := by decide +kernel
theorem dX9_bestTilts_159 : decode cX9_bestTilts 159 = .ok (.iload_n 1, 1) := by decide +kernel
theorem dX9_bestTilts_160 : decode cX9_bestTilts 160 = .ok (.bipush 9, 2) := by decide +kernel
theorem dX9_bestTilts_162 : decode cX9_bestTilts 162 = .ok (.if_icmp .eq 15, 3) := by decide +kernel
theorem dX9_bestTilts_165 : decode cX9_bestTilts 165 = .ok (.iload 4, 2) := by decide +kernel
theorem dX9_bestTilts_167 : decode cX9_bestTilts 167 = .ok (.iconst 5, 1) := by decide +kernel
theorem dX9_bestTilts_168 : decode cX9_bestTilts 168 = .ok (.idiv, 1) := by decide +kernel
theorem dX9_bestTilts_169 : decode cX9_bestTilts 169 = .ok (.istore 4, 2) := by decide +kernel
theorem dX9_bestTilts_171 : decode cX9_bestTilts 171 = .ok (.iinc 6 (-1), 3) := by decide +kernel
theorem dX9_bestTilts_174 : decode cX9_bestTilts 174 = .ok (.goto (-21), 3) := by decide +kernel
theorem dX9_bestTilts_177 : decode cX9_bestTilts 177 = .ok (.iload_n 1, 1) := by decide +kernel
theorem dX9_bestTilts_178 : decode cX9_bestTilts 178 = .ok (.bipush 9, 2) := by decide +kernel
theorem dX9_bestTilts_180 : decode cX9_bestTilts 180 = .ok (.if_icmp .ne 8, 3) := by decide +kernel
theorem dX9_bestTilts_183 : decode cX9_bestTilts 183 = .ok (.iload 5, 2) := by decide +kernel
theorem dX9_bestTilts_185 : decode cX9_bestTilts 185 = .ok (.goto 7, 3) := by decide +kernel
theorem dX9_bestTilts_188 : decode cX9_bestTilts 188 = .ok (.iload 4, 2) := by decide +kernel
theorem dX9_bestTilts_190 : decode cX9_bestTilts 190 = .ok (.iconst 5, 1) := by decide +kernel
theorem dX9_bestTilts_191 : decode cX9_bestTilts 191 = .ok (.irem, 1) := by decide +kernel
theorem dX9_bestTilts_192 : decode cX9_bestTilts 192 = .ok (.ireturn, 1) := by decide +kernel
theorem dX9_put_0 : decode cX9_put 0 = .ok (.iconst 0, 1) := by decide +kernel
theorem dX9_put_1 : decode cX9_put 1 = .ok (.istore_n 3, 1) := by decide +kernel
theorem dX9_put_2 : decode cX9_put 2 = .ok (.lload_n 1, 1) := by decide +kernel
theorem dX9_put_3 : decode cX9_put 3 = .ok (.lstore 4, 2) := by decide +kernel
theorem dX9_put_5 : decode cX9_put 5 = .ok (.iconst 1, 1) := by decide +kernel
theorem dX9_put_6 : decode cX9_put 6 = .ok (.istore 6, 2) := by decide +kernel
theorem dX9_put_8 : decode cX9_put 8 = .ok (.iload_n 3, 1) := by decide +kernel
theorem dX9_put_9 : decode cX9_put 9 = .ok (.bipush 8, 2) := by decide +kernel
theorem dX9_put_11 : decode cX9_put 11 = .ok (.if_icmp .ge 56, 3) := by decide +kernel
theorem dX9_put_14 : decode cX9_put 14 = .ok (.lload 4, 2) := by decide +kernel
theorem dX9_put_16 : decode cX9_put 16 = .ok (.ldc2_w 199, 3) := by decide +kernel
theorem dX9_put_19 : decode cX9_put 19 = .ok (.land, 1) := by decide +kernel
theorem dX9_put_20 : decode cX9_put 20 = .ok (.lconst 0, 1) := by decide +kernel
theorem dX9_put_21 : decode cX9_put 21 = .ok (.lcmp, 1) := by decide +kernel
theorem dX9_put_22 : decode cX9_put 22 = .ok (.ifCond .eq 45, 3) := by decide +kernel
theorem dX9_put_25 : decode cX9_put 25 = .ok (.iload 6, 2) := by decide +kernel
theorem dX9_put_27 : decode cX9_put 27 = .ok (.ifCond .eq 24, 3) := by decide +kernel
theorem dX9_put_30 : decode cX9_put 30 = .ok (.lload 4, 2) := by decide +kernel
theorem dX9_put_32 : decode cX9_put 32 = .ok (.ldc2_w 199, 3) := by decide +kernel
theorem dX9_put_35 : decode cX9_put 35 = .ok (.land, 1) := by decide +kernel
theorem dX9_put_36 : decode cX9_put 36 = .ok (.l2i, 1) := by decide +kernel
theorem dX9_put_37 : decode cX9_put 37 = .ok (.bipush 33, 2) := by decide +kernel
theorem dX9_put_39 : decode cX9_put 39 = .ok (.bipush 126, 2) := by decide +kernel
theorem dX9_put_41 : decode cX9_put 41 = .ok (.invokestatic 42, 3) := by decide +kernel
theorem dX9_put_44 : decode cX9_put 44 = .ok (.ifCond .eq 7, 3) := by decide +kernel
theorem dX9_put_47 : decode cX9_put 47 = .ok (.iconst 1, 1) := by decide +kernel
theorem dX9_put_48 : decode cX9_put 48 = .ok (.goto 4, 3) := by decide +kernel
theorem dX9_put_51 : decode cX9_put 51 = .ok (.iconst 0, 1) := by decide +kernel
theorem dX9_put_52 : decode cX9_put 52 = .ok (.istore 6, 2) := by decide +kernel
theorem dX9_put_54 : decode cX9_put 54 = .ok (.lload 4, 2) := by decide +kernel
theorem dX9_put_56 : decode cX9_put 56 = .ok (.bipush 8, 2) := by decide +kernel
theorem dX9_put_58 : decode cX9_put 58 = .ok (.lushr, 1) := by decide +kernel
theorem dX9_put_59 : decode cX9_put 59 = .ok (.lstore 4, 2) := by decide +kernel
theorem dX9_put_61 : decode cX9_put 61 = .ok (.iinc 3 1, 3) := by decide +kernel
theorem dX9_put_64 : decode cX9_put 64 = .ok (.goto (-56), 3) := by decide +kernel
theorem dX9_put_67 : decode cX9_put 67 = .ok (.iload_n 3, 1) := by decide +kernel
theorem dX9_put_68 : decode cX9_put 68 = .ok (.ifCond .eq 15, 3) := by decide +kernel
theorem dX9_put_71 : decode cX9_put 71 = .ok (.iload 6, 2) := by decide +kernel
theorem dX9_put_73 : decode cX9_put 73 = .ok (.ifCond .eq 10, 3) := by decide +kernel
theorem dX9_put_76 : decode cX9_put 76 = .ok (.lload 4, 2) := by decide +kernel
theorem dX9_put_78 : decode cX9_put 78 = .ok (.lconst 0, 1) := by decide +kernel
theorem dX9_put_79 : decode cX9_put 79 = .ok (.lcmp, 1) := by decide +kernel
theorem dX9_put_80 : decode cX9_put 80 = .ok (.ifCond .eq 6, 3) := by decide +kernel
theorem dX9_put_83 : decode cX9_put 83 = .ok (.bipush (-2), 2) := by decide +kernel
theorem dX9_put_85 : decode cX9_put 85 = .ok (.ireturn, 1) := by decide +kernel
theorem dX9_put_86 : decode cX9_put 86 = .ok (.aload_n 0, 1) := by decide +kernel
theorem dX9_put_87 : decode cX9_put 87 = .ok (.getfield 183, 3) := by decide +kernel
theorem dX9_put_90 : decode cX9_put 90 = .ok (.iload_n 3, 1) := by decide +kernel
theorem dX9_put_91 : decode cX9_put 91 = .ok (.iadd, 1) := by decide +kernel
theorem dX9_put_92 : decode cX9_put 92 = .ok (.bipush 80, 2) := by decide +kernel
theorem dX9_put_94 : decode cX9_put 94 = .ok (.if_icmp .le 6, 3) := by decide +kernel
theorem dX9_put_97 : decode cX9_put 97 = .ok (.bipush (-4), 2) := by decide +kernel
theorem dX9_put_99 : decode cX9_put 99 = .ok (.ireturn, 1) := by decide +kernel
theorem dX9_put_100 : decode cX9_put 100 = .ok (.iload_n 3, 1) := by decide +kernel
theorem dX9_put_101 : decode cX9_put 101 = .ok (.iconst 1, 1) := by decide +kernel
theorem dX9_put_102 : decode cX9_put 102 = .ok (.isub, 1) := by decide +kernel
theorem dX9_put_103 : decode cX9_put 103 = .ok (.istore 7, 2) := by decide +kernel
theorem dX9_put_105 : decode cX9_put 105 = .ok (.iload 7, 2) := by decide +kernel
theorem dX9_put_107 : decode cX9_put 107 = .ok (.ifCond .lt 40, 3) := by decide +kernel
theorem dX9_put_110 : decode cX9_put 110 = .ok (.aload_n 0, 1) := by decide +kernel
theorem dX9_put_111 : decode cX9_put 111 = .ok (.getfield 22, 3) := by decide +kernel
theorem dX9_put_114 : decode cX9_put 114 = .ok (.aload_n 0, 1) := by decide +kernel
theorem dX9_put_115 : decode cX9_put 115 = .ok (.getfield 183, 3) := by decide +kernel
theorem dX9_put_118 : decode cX9_put 118 = .ok (.lload_n 1, 1) := by decide +kernel
theorem dX9_put_119 : decode cX9_put 119 = .ok (.bipush 8, 2) := by decide +kernel
theorem dX9_put_121 : decode cX9_put 121 = .ok (.iload 7, 2) := by decide +kernel
theorem dX9_put_123 : decode cX9_put 123 = .ok (.imul, 1) := by decide +kernel
theorem dX9_put_124 : decode cX9_put 124 = .ok (.lushr, 1) := by decide +kernel
theorem dX9_put_125 : decode cX9_put 125 = .ok (.ldc2_w 199, 3) := by decide +kernel
theorem dX9_put_128 : decode cX9_put 128 = .ok (.land, 1) := by decide +kernel
theorem dX9_put_129 : decode cX9_put 129 = .ok (.l2i, 1) := by decide +kernel
theorem dX9_put_130 : decode cX9_put 130 = .ok (.iastore, 1) := by decide +kernel
theorem dX9_put_131 : decode cX9_put 131 = .ok (.aload_n 0, 1) := by decide +kernel
theorem dX9_put_132 : decode cX9_put 132 = .ok (.dup, 1) := by decide +kernel
theorem dX9_put_133 : decode cX9_put 133 = .ok (.getfield 183, 3) := by decide +kernel
theorem dX9_put_136 : decode cX9_put 136 = .ok (.iconst 1, 1) := by decide +kernel
theorem dX9_put_137 : decode cX9_put 137 = .ok (.iadd, 1) := by decide +kernel
theorem dX9_put_138 : decode cX9_put 138 = .ok (.putfield 183, 3) := by decide +kernel
theorem dX9_put_141 : decode cX9_put 141 = .ok (.iinc 7 (-1), 3) := by decide +kernel
theorem dX9_put_144 : decode cX9_put 144 = .ok (.goto (-39), 3) := by decide +kernel
theorem dX9_put_147 : decode cX9_put 147 = .ok (.aload_n 0, 1) := by decide +kernel
theorem dX9_put_148 : decode cX9_put 148 = .ok (.getfield 183, 3) := by decide +kernel
theorem dX9_put_151 : decode cX9_put 151 = .ok (.ireturn, 1) := by decide +kernel
theorem dX9_wipe_0 : decode cX9_wipe 0 = .ok (.aload_n 0, 1) := by decide +kernel
theorem dX9_wipe_1 : decode cX9_wipe 1 = .ok (.getfield 183, 3) := by decide +kernel
theorem dX9_wipe_4 : decode cX9_wipe 4 = .ok (.istore_n 1, 1) := by decide +kernel
theorem dX9_wipe_5 : decode cX9_wipe 5 = .ok (.aload_n 0, 1) := by decide +kernel
theorem dX9_wipe_6 : decode cX9_wipe 6 = .ok (.iconst 0, 1) := by decide +kernel
theorem dX9_wipe_7 : decode cX9_wipe 7 = .ok (.putfield 183, 3) := by decide +kernel
theorem dX9_wipe_10 : decode cX9_wipe 10 = .ok (.iload_n 1, 1) := by decide +kernel
theorem dX9_wipe_11 : decode cX9_wipe 11 = .ok (.ireturn, 1) := by decide +kernel
theorem dX9_character_0 : decode cX9_character 0 = .ok (.iload_n 1, 1) := by decide +kernel
theorem dX9_character_1 : decode cX9_character 1 = .ok (.aload_n 0, 1) := by decide +kernel
theorem dX9_character_2 : decode cX9_character 2 = .ok (.getfield 183, 3) := by decide +kernel
theorem dX9_character_5 : decode cX9_character 5 = .ok (.if_icmp .ge 12, 3) := by decide +kernel
theorem dX9_character_8 : decode cX9_character 8 = .ok (.aload_n 0, 1) := by decide +kernel
theorem dX9_character_9 : decode cX9_character 9 = .ok (.getfield 22, 3) := by decide +kernel
theorem dX9_character_12 : decode cX9_character 12 = .ok (.iload_n 1, 1) := by decide +kernel
theorem dX9_character_13 : decode cX9_character 13 = .ok (.iaload, 1) := by decide +kernel
theorem dX9_character_14 : decode cX9_character 14 = .ok (.goto 4, 3) := by decide +kernel
theorem dX9_character_17 : decode cX9_character 17 = .ok (.iconst (-1), 1) := by decide +kernel
theorem dX9_character_18 : decode cX9_character 18 = .ok (.ireturn, 1) := by decide +kernel
theorem dX9_takeDigit_0 : decode cX9_takeDigit 0 = .ok (.aload_n 0, 1) := by decide +kernel
theorem dX9_takeDigit_1 : decode cX9_takeDigit 1 = .ok (.aload_n 0, 1) := by decide +kernel
theorem dX9_takeDigit_2 : decode cX9_takeDigit 2 = .ok (.getfield 201, 3) := by decide +kernel
theorem dX9_takeDigit_5 : decode cX9_takeDigit 5 = .ok (.invokevirtual 204, 3) := by decide +kernel
theorem dX9_takeDigit_8 : decode cX9_takeDigit 8 = .ok (.bipush 48, 2) := by decide +kernel
theorem dX9_takeDigit_10 : decode cX9_takeDigit 10 = .ok (.isub, 1) := by decide +kernel
theorem dX9_takeDigit_11 : decode cX9_takeDigit 11 = .ok (.istore_n 2, 1) := by decide +kernel
theorem dX9_takeDigit_12 : decode cX9_takeDigit 12 = .ok (.iload_n 2, 1) := by decide +kernel
theorem dX9_takeDigit_13 : decode cX9_takeDigit 13 = .ok (.iconst 0, 1) := by decide +kernel
theorem dX9_takeDigit_14 : decode cX9_takeDigit 14 = .ok (.iload_n 1, 1) := by decide +kernel
theorem dX9_takeDigit_15 : decode cX9_takeDigit 15 = .ok (.invokestatic 42, 3) := by decide +kernel
theorem dX9_takeDigit_18 : decode cX9_takeDigit 18 = .ok (.ifCond .ne 5, 3) := by decide +kernel
theorem dX9_takeDigit_21 : decode cX9_takeDigit 21 = .ok (.iconst (-1), 1) := by decide +kernel
theorem dX9_takeDigit_22 : decode cX9_takeDigit 22 = .ok (.ireturn, 1) := by decide +kernel
theorem dX9_takeDigit_23 : decode cX9_takeDigit 23 = .ok (.aload_n 0, 1) := by decide +kernel
theorem dX9_takeDigit_24 : decode cX9_takeDigit 24 = .ok (.dup, 1) := by decide +kernel
theorem dX9_takeDigit_25 : decode cX9_takeDigit 25 = .ok (.getfield 201, 3) := by decide +kernel
theorem dX9_takeDigit_28 : decode cX9_takeDigit 28 = .ok (.iconst 1, 1) := by decide +kernel
theorem dX9_takeDigit_29 : decode cX9_takeDigit 29 = .ok (.iadd, 1) := by decide +kernel
theorem dX9_takeDigit_30 : decode cX9_takeDigit 30 = .ok (.putfield 201, 3) := by decide +kernel
theorem dX9_takeDigit_33 : decode cX9_takeDigit 33 = .ok (.iload_n 2, 1) := by decide +kernel
theorem dX9_takeDigit_34 : decode cX9_takeDigit 34 = .ok (.ireturn, 1) := by decide +kernel
theorem dX9_takes_0 : decode cX9_takes 0 = .ok (.aload_n 0, 1) := by decide +kernel
theorem dX9_takes_1 : decode cX9_takes 1 = .ok (.aload_n 0, 1) := by decide +kernel
theorem dX9_takes_2 : decode cX9_takes 2 = .ok (.getfield 201, 3) := by decide +kernel
theorem dX9_takes_5 : decode cX9_takes 5 = .ok (.invokevirtual 204, 3) := by decide +kernel
theorem dX9_takes_8 : decode cX9_takes 8 = .ok (.iload_n 1, 1) := by decide +kernel
theorem dX9_takes_9 : decode cX9_takes 9 = .ok (.if_icmp .ne 7, 3) := by decide +kernel
theorem dX9_takes_12 : decode cX9_takes 12 = .ok (.iconst 1, 1) := by decide +kernel
theorem dX9_takes_13 : decode cX9_takes 13 = .ok (.goto 4, 3) := by decide +kernel
theorem dX9_takes_16 : decode cX9_takes 16 = .ok (.iconst 0, 1) := by decide +kernel
theorem dX9_takes_17 : decode cX9_takes 17 = .ok (.istore_n 2, 1) := by decide +kernel
theorem dX9_takes_18 : decode cX9_takes 18 = .ok (.aload_n 0, 1) := by decide +kernel
theorem dX9_takes_19 : decode cX9_takes 19 = .ok (.dup, 1) := by decide +kernel
theorem dX9_takes_20 : decode cX9_takes 20 = .ok (.getfield 201, 3) := by decide +kernel
theorem dX9_takes_23 : decode cX9_takes 23 = .ok (.iload_n 2, 1) := by decide +kernel
theorem dX9_takes_24 : decode cX9_takes 24 = .ok (.ifCond .eq 7, 3) := by decide +kernel
theorem dX9_takes_27 : decode cX9_takes 27 = .ok (.iconst 1, 1) := by decide +kernel
theorem dX9_takes_28 : decode cX9_takes 28 = .ok (.goto 4, 3) := by decide +kernel
theorem dX9_takes_31 : decode cX9_takes 31 = .ok (.iconst 0, 1) := by decide +kernel
theorem dX9_takes_32 : decode cX9_takes 32 = .ok (.iadd, 1) := by decide +kernel
theorem dX9_takes_33 : decode cX9_takes 33 = .ok (.putfield 201, 3) := by decide +kernel
theorem dX9_takes_36 : decode cX9_takes 36 = .ok (.iload_n 2, 1) := by decide +kernel
theorem dX9_takes_37 : decode cX9_takes 37 = .ok (.ireturn, 1) := by decide +kernel
theorem dX9_takeNumber_0 : decode cX9_takeNumber 0 = .ok (.aload_n 0, 1) := by decide +kernel
theorem dX9_takeNumber_1 : decode cX9_takeNumber 1 = .ok (.bipush 9, 2) := by decide +kernel
theorem dX9_takeNumber_3 : decode cX9_takeNumber 3 = .ok (.invokevirtual 207, 3) := by decide +kernel
theorem dX9_takeNumber_6 : decode cX9_takeNumber 6 = .ok (.istore_n 1, 1) := by decide +kernel
theorem dX9_takeNumber_7 : decode cX9_takeNumber 7 = .ok (.iload_n 1, 1) := by decide +kernel
theorem dX9_takeNumber_8 : decode cX9_takeNumber 8 = .ok (.ifCond .le 42, 3) := by decide +kernel
theorem dX9_takeNumber_11 : decode cX9_takeNumber 11 = .ok (.iload_n 1, 1) := by decide +kernel
theorem dX9_takeNumber_12 : decode cX9_takeNumber 12 = .ok (.bipush 100, 2) := by decide +kernel
theorem dX9_takeNumber_14 : decode cX9_takeNumber 14 = .ok (.if_icmp .ge 36, 3) := by decide +kernel
theorem dX9_takeNumber_17 : decode cX9_takeNumber 17 = .ok (.aload_n 0, 1) := by decide +kernel
theorem dX9_takeNumber_18 : decode cX9_takeNumber 18 = .ok (.aload_n 0, 1) := by decide +kernel
theorem dX9_takeNumber_19 : decode cX9_takeNumber 19 = .ok (.getfield 201, 3) := by decide +kernel
theorem dX9_takeNumber_22 : decode cX9_takeNumber 22 = .ok (.invokevirtual 204, 3) := by decide +kernel
theorem dX9_takeNumber_25 : decode cX9_takeNumber 25 = .ok (.bipush 48, 2) := by decide +kernel
theorem dX9_takeNumber_27 : decode cX9_takeNumber 27 = .ok (.bipush 57, 2) := by decide +kernel
theorem dX9_takeNumber_29 : decode cX9_takeNumber 29 = .ok (.invokestatic 42, 3) := by decide +kernel
theorem dX9_takeNumber_32 : decode cX9_takeNumber 32 = .ok (.ifCond .eq 18, 3) := by decide +kernel
theorem dX9_takeNumber_35 : decode cX9_takeNumber 35 = .ok (.bipush 10, 2) := by decide +kernel
theorem dX9_takeNumber_37 : decode cX9_takeNumber 37 = .ok (.iload_n 1, 1) := by decide +kernel
theorem dX9_takeNumber_38 : decode cX9_takeNumber 38 = .ok (.imul, 1) := by decide +kernel
theorem dX9_takeNumber_39 : decode cX9_takeNumber 39 = .ok (.aload_n 0, 1) := by decide +kernel
theorem dX9_takeNumber_40 : decode cX9_takeNumber 40 = .ok (.bipush 9, 2) := by decide +kernel
theorem dX9_takeNumber_42 : decode cX9_takeNumber 42 = .ok (.invokevirtual 207, 3) := by decide +kernel
theorem dX9_takeNumber_45 : decode cX9_takeNumber 45 = .ok (.iadd, 1) := by decide +kernel
theorem dX9_takeNumber_46 : decode cX9_takeNumber 46 = .ok (.istore_n 1, 1) := by decide +kernel
theorem dX9_takeNumber_47 : decode cX9_takeNumber 47 = .ok (.goto (-40), 3) := by decide +kernel
theorem dX9_takeNumber_50 : decode cX9_takeNumber 50 = .ok (.iload_n 1, 1) := by decide +kernel
theorem dX9_takeNumber_51 : decode cX9_takeNumber 51 = .ok (.ireturn, 1) := by decide +kernel
theorem dX9_takesDeal_0 : decode cX9_takesDeal 0 = .ok (.aload_n 0, 1) := by decide +kernel
theorem dX9_takesDeal_1 : decode cX9_takesDeal 1 = .ok (.bipush 64, 2) := by decide +kernel
theorem dX9_takesDeal_3 : decode cX9_takesDeal 3 = .ok (.invokevirtual 210, 3) := by decide +kernel
theorem dX9_takesDeal_6 : decode cX9_takesDeal 6 = .ok (.istore_n 1, 1) := by decide +kernel
theorem dX9_takesDeal_7 : decode cX9_takesDeal 7 = .ok (.aload_n 0, 1) := by decide +kernel
theorem dX9_takesDeal_8 : decode cX9_takesDeal 8 = .ok (.iload_n 1, 1) := by decide +kernel
theorem dX9_takesDeal_9 : decode cX9_takesDeal 9 = .ok (.ifCond .eq 12, 3) := by decide +kernel
theorem dX9_takesDeal_12 : decode cX9_takesDeal 12 = .ok (.aload_n 0, 1) := by decide +kernel
theorem dX9_takesDeal_13 : decode cX9_takesDeal 13 = .ok (.bipush 9, 2) := by decide +kernel
theorem dX9_takesDeal_15 : decode cX9_takesDeal 15 = .ok (.invokevirtual 207, 3) := by decide +kernel
theorem dX9_takesDeal_18 : decode cX9_takesDeal 18 = .ok (.goto 4, 3) := by decide +kernel
theorem dX9_takesDeal_21 : decode cX9_takesDeal 21 = .ok (.iconst (-1), 1) := by decide +kernel
theorem dX9_takesDeal_22 : decode cX9_takesDeal 22 = .ok (.putfield 213, 3) := by decide +kernel
theorem dX9_takesDeal_25 : decode cX9_takesDeal 25 = .ok (.iload_n 1, 1) := by decide +kernel
theorem dX9_takesDeal_26 : decode cX9_takesDeal 26 = .ok (.ifCond .eq 23, 3) := by decide +kernel
theorem dX9_takesDeal_29 : decode cX9_takesDeal 29 = .ok (.aload_n 0, 1) := by decide +kernel
theorem dX9_takesDeal_30 : decode cX9_takesDeal 30 = .ok (.getfield 213, 3) := by decide +kernel
theorem dX9_takesDeal_33 : decode cX9_takesDeal 33 = .ok (.ifCond .lt 16, 3) := by decide +kernel
theorem dX9_takesDeal_36 : decode cX9_takesDeal 36 = .ok (.aload_n 0, 1) := by decide +kernel
theorem dX9_takesDeal_37 : decode cX9_takesDeal 37 = .ok (.bipush 42, 2) := by decide +kernel
theorem dX9_takesDeal_39 : decode cX9_takesDeal 39 = .ok (.invokevirtual 210, 3) := by decide +kernel
theorem dX9_takesDeal_42 : decode cX9_takesDeal 42 = .ok (.ifCond .eq 7, 3) := by decide +kernel
theorem dX9_takesDeal_45 : decode cX9_takesDeal 45 = .ok (.iconst 1, 1) := by decide +kernel
theorem dX9_takesDeal_46 : decode cX9_takesDeal 46 = .ok (.goto 4, 3) := by decide +kernel
theorem dX9_takesDeal_49 : decode cX9_takesDeal 49 = .ok (.iconst 0, 1) := by decide +kernel
theorem dX9_takesDeal_50 : decode cX9_takesDeal 50 = .ok (.istore_n 1, 1) := by decide +kernel
theorem dX9_takesDeal_51 : decode cX9_takesDeal 51 = .ok (.aload_n 0, 1) := by decide +kernel
theorem dX9_takesDeal_52 : decode cX9_takesDeal 52 = .ok (.iload_n 1, 1) := by decide +kernel
theorem dX9_takesDeal_53 : decode cX9_takesDeal 53 = .ok (.ifCond .eq 10, 3) := by decide +kernel
theorem dX9_takesDeal_56 : decode cX9_takesDeal 56 = .ok (.aload_n 0, 1) := by decide +kernel
theorem dX9_takesDeal_57 : decode cX9_takesDeal 57 = .ok (.invokevirtual 216, 3) := by decide +kernel
theorem dX9_takesDeal_60 : decode cX9_takesDeal 60 = .ok (.goto 4, 3) := by decide +kernel
theorem dX9_takesDeal_63 : decode cX9_takesDeal 63 = .ok (.iconst (-1), 1) := by decide +kernel
theorem dX9_takesDeal_64 : decode cX9_takesDeal 64 = .ok (.putfield 219, 3) := by decide +kernel
theorem dX9_takesDeal_67 : decode cX9_takesDeal 67 = .ok (.iload_n 1, 1) := by decide +kernel
theorem dX9_takesDeal_68 : decode cX9_takesDeal 68 = .ok (.ifCond .eq 23, 3) := by decide +kernel
theorem dX9_takesDeal_71 : decode cX9_takesDeal 71 = .ok (.aload_n 0, 1) := by decide +kernel
theorem dX9_takesDeal_72 : decode cX9_takesDeal 72 = .ok (.getfield 219, 3) := by decide +kernel
theorem dX9_takesDeal_75 : decode cX9_takesDeal 75 = .ok (.ifCond .lt 16, 3) := by decide +kernel
theorem dX9_takesDeal_78 : decode cX9_takesDeal 78 = .ok (.aload_n 0, 1) := by decide +kernel
theorem dX9_takesDeal_79 : decode cX9_takesDeal 79 = .ok (.bipush 58, 2) := by decide +kernel
theorem dX9_takesDeal_81 : decode cX9_takesDeal 81 = .ok (.invokevirtual 210, 3) := by decide +kernel
theorem dX9_takesDeal_84 : decode cX9_takesDeal 84 = .ok (.ifCond .eq 7, 3) := by decide +kernel
theorem dX9_takesDeal_87 : decode cX9_takesDeal 87 = .ok (.iconst 1, 1) := by decide +kernel
theorem dX9_takesDeal_88 : decode cX9_takesDeal 88 = .ok (.goto 4, 3) := by decide +kernel
theorem dX9_takesDeal_91 : decode cX9_takesDeal 91 = .ok (.iconst 0, 1) := by decide +kernel
theorem dX9_takesDeal_92 : decode cX9_takesDeal 92 = .ok (.istore_n 1, 1) := by decide +kernel
theorem dX9_takesDeal_93 : decode cX9_takesDeal 93 = .ok (.aload_n 0, 1) := by decide +kernel
theorem dX9_takesDeal_94 : decode cX9_takesDeal 94 = .ok (.iload_n 1, 1) := by decide +kernel
theorem dX9_takesDeal_95 : decode cX9_takesDeal 95 = .ok (.ifCond .eq 10, 3) := by decide +kernel
theorem dX9_takesDeal_98 : decode cX9_takesDeal 98 = .ok (.aload_n 0, 1) := by decide +kernel
theorem dX9_takesDeal_99 : decode cX9_takesDeal 99 = .ok (.invokevirtual 216, 3) := by decide +kernel
theorem dX9_takesDeal_102 : decode cX9_takesDeal 102 = .ok (.goto 4, 3) := by decide +kernel
theorem dX9_takesDeal_105 : decode cX9_takesDeal 105 = .ok (.iconst (-1), 1) := by decide +kernel
theorem dX9_takesDeal_106 : decode cX9_takesDeal 106 = .ok (.putfield 222, 3) := by decide +kernel
theorem dX9_takesDeal_109 : decode cX9_takesDeal 109 = .ok (.iload_n 1, 1) := by decide +kernel
theorem dX9_takesDeal_110 : decode cX9_takesDeal 110 = .ok (.ifCond .eq 14, 3) := by decide +kernel
theorem dX9_takesDeal_113 : decode cX9_takesDeal 113 = .ok (.aload_n 0, 1) := by decide +kernel
theorem dX9_takesDeal_114 : decode cX9_takesDeal 114 = .ok (.getfield 222, 3) := by decide +kernel
theorem dX9_takesDeal_117 : decode cX9_takesDeal 117 = .ok (.ifCond .lt 7, 3) := by decide +kernel
theorem dX9_takesDeal_120 : decode cX9_takesDeal 120 = .ok (.iconst 1, 1) := by decide +kernel
theorem dX9_takesDeal_121 : decode cX9_takesDeal 121 = .ok (.goto 4, 3) := by decide +kernel
theorem dX9_takesDeal_124 : decode cX9_takesDeal 124 = .ok (.iconst 0, 1) := by decide +kernel
theorem dX9_takesDeal_125 : decode cX9_takesDeal 125 = .ok (.ireturn, 1) := by decide +kernel
theorem dX9_readsOrder_0 : decode cX9_readsOrder 0 = .ok (.aload_n 0, 1) := by decide +kernel
theorem dX9_readsOrder_1 : decode cX9_readsOrder 1 = .ok (.aload_n 0, 1) := by decide +kernel
theorem dX9_readsOrder_2 : decode cX9_readsOrder 2 = .ok (.aload_n 0, 1) := by decide +kernel
theorem dX9_readsOrder_3 : decode cX9_readsOrder 3 = .ok (.getfield 201, 3) := by decide +kernel
theorem dX9_readsOrder_6 : decode cX9_readsOrder 6 = .ok (.invokevirtual 204, 3) := by decide +kernel
theorem dX9_readsOrder_9 : decode cX9_readsOrder 9 = .ok (.putfield 225, 3) := by decide +kernel
theorem dX9_readsOrder_12 : decode cX9_readsOrder 12 = .ok (.aload_n 0, 1) := by decide +kernel
theorem dX9_readsOrder_13 : decode cX9_readsOrder 13 = .ok (.dup, 1) := by decide +kernel
theorem dX9_readsOrder_14 : decode cX9_readsOrder 14 = .ok (.getfield 201, 3) := by decide +kernel
theorem dX9_readsOrder_17 : decode cX9_readsOrder 17 = .ok (.iconst 1, 1) := by decide +kernel
theorem dX9_readsOrder_18 : decode cX9_readsOrder 18 = .ok (.iadd, 1) := by decide +kernel
theorem dX9_readsOrder_19 : decode cX9_readsOrder 19 = .ok (.putfield 201, 3) := by decide +kernel
theorem dX9_readsOrder_22 : decode cX9_readsOrder 22 = .ok (.aload_n 0, 1) := by decide +kernel
theorem dX9_readsOrder_23 : decode cX9_readsOrder 23 = .ok (.iconst 0, 1) := by decide +kernel
theorem dX9_readsOrder_24 : decode cX9_readsOrder 24 = .ok (.putfield 228, 3) := by decide +kernel
theorem dX9_readsOrder_27 : decode cX9_readsOrder 27 = .ok (.aload_n 0, 1) := by decide +kernel
theorem dX9_readsOrder_28 : decode cX9_readsOrder 28 = .ok (.iconst 0, 1) := by decide +kernel
theorem dX9_readsOrder_29 : decode cX9_readsOrder 29 = .ok (.putfield 231, 3) := by decide +kernel
theorem dX9_readsOrder_32 : decode cX9_readsOrder 32 = .ok (.aload_n 0, 1) := by decide +kernel
theorem dX9_readsOrder_33 : decode cX9_readsOrder 33 = .ok (.getfield 225, 3) := by decide +kernel
theorem dX9_readsOrder_36 : decode cX9_readsOrder 36 = .ok (.lookupswitch 245 #[(97, 156), (98, 185), (109, 243), (116, 52), (119, 103)], 52) := by decide +kernel
theorem dX9_readsOrder_88 : decode cX9_readsOrder 88 = .ok (.aload_n 0, 1) := by decide +kernel
theorem dX9_readsOrder_89 : decode cX9_readsOrder 89 = .ok (.aload_n 0, 1) := by decide +kernel
theorem dX9_readsOrder_90 : decode cX9_readsOrder 90 = .ok (.iconst 5, 1) := by decide +kernel
theorem dX9_readsOrder_91 : decode cX9_readsOrder 91 = .ok (.invokevirtual 207, 3) := by decide +kernel
theorem dX9_readsOrder_94 : decode cX9_readsOrder 94 = .ok (.putfield 228, 3) := by decide +kernel
theorem dX9_readsOrder_97 : decode cX9_readsOrder 97 = .ok (.aload_n 0, 1) := by decide +kernel
theorem dX9_readsOrder_98 : decode cX9_readsOrder 98 = .ok (.aload_n 0, 1) := by decide +kernel
theorem dX9_readsOrder_99 : decode cX9_readsOrder 99 = .ok (.getfield 228, 3) := by decide +kernel
theorem dX9_readsOrder_102 : decode cX9_readsOrder 102 = .ok (.ifCond .lt 20, 3) := by decide +kernel
theorem dX9_readsOrder_105 : decode cX9_readsOrder 105 = .ok (.aload_n 0, 1) := by decide +kernel
theorem dX9_readsOrder_106 : decode cX9_readsOrder 106 = .ok (.bipush 61, 2) := by decide +kernel
theorem dX9_readsOrder_108 : decode cX9_readsOrder 108 = .ok (.invokevirtual 210, 3) := by decide +kernel
theorem dX9_readsOrder_111 : decode cX9_readsOrder 111 = .ok (.ifCond .eq 11, 3) := by decide +kernel
theorem dX9_readsOrder_114 : decode cX9_readsOrder 114 = .ok (.aload_n 0, 1) := by decide +kernel
theorem dX9_readsOrder_115 : decode cX9_readsOrder 115 = .ok (.iconst 4, 1) := by decide +kernel
theorem dX9_readsOrder_116 : decode cX9_readsOrder 116 = .ok (.invokevirtual 207, 3) := by decide +kernel
theorem dX9_readsOrder_119 : decode cX9_readsOrder 119 = .ok (.goto 4, 3) := by decide +kernel
theorem dX9_readsOrder_122 : decode cX9_readsOrder 122 = .ok (.iconst (-1), 1) := by decide +kernel
theorem dX9_readsOrder_123 : decode cX9_readsOrder 123 = .ok (.putfield 231, 3) := by decide +kernel
theorem dX9_readsOrder_126 : decode cX9_readsOrder 126 = .ok (.aload_n 0, 1) := by decide +kernel
theorem dX9_readsOrder_127 : decode cX9_readsOrder 127 = .ok (.getfield 231, 3) := by decide +kernel
theorem dX9_readsOrder_130 : decode cX9_readsOrder 130 = .ok (.ifCond .lt 7, 3) := by decide +kernel
theorem dX9_readsOrder_133 : decode cX9_readsOrder 133 = .ok (.iconst 1, 1) := by decide +kernel
theorem dX9_readsOrder_134 : decode cX9_readsOrder 134 = .ok (.goto 4, 3) := by decide +kernel
theorem dX9_readsOrder_137 : decode cX9_readsOrder 137 = .ok (.iconst 0, 1) := by decide +kernel
theorem dX9_readsOrder_138 : decode cX9_readsOrder 138 = .ok (.ireturn, 1) := by decide +kernel
theorem dX9_readsOrder_139 : decode cX9_readsOrder 139 = .ok (.aload_n 0, 1) := by decide +kernel
theorem dX9_readsOrder_140 : decode cX9_readsOrder 140 = .ok (.aload_n 0, 1) := by decide +kernel
theorem dX9_readsOrder_141 : decode cX9_readsOrder 141 = .ok (.bipush 9, 2) := by decide +kernel
theorem dX9_readsOrder_143 : decode cX9_readsOrder 143 = .ok (.invokevirtual 207, 3) := by decide +kernel
theorem dX9_readsOrder_146 : decode cX9_readsOrder 146 = .ok (.putfield 228, 3) := by decide +kernel
theorem dX9_readsOrder_149 : decode cX9_readsOrder 149 = .ok (.aload_n 0, 1) := by decide +kernel
theorem dX9_readsOrder_150 : decode cX9_readsOrder 150 = .ok (.aload_n 0, 1) := by decide +kernel
theorem dX9_readsOrder_151 : decode cX9_readsOrder 151 = .ok (.getfield 228, 3) := by decide +kernel
theorem dX9_readsOrder_154 : decode cX9_readsOrder 154 = .ok (.ifCond .lt 21, 3) := by decide +kernel
theorem dX9_readsOrder_157 : decode cX9_readsOrder 157 = .ok (.aload_n 0, 1) := by decide +kernel
theorem dX9_readsOrder_158 : decode cX9_readsOrder 158 = .ok (.bipush 61, 2) := by decide +kernel
theorem dX9_readsOrder_160 : decode cX9_readsOrder 160 = .ok (.invokevirtual 210, 3) := by decide +kernel
theorem dX9_readsOrder_163 : decode cX9_readsOrder 163 = .ok (.ifCond .eq 12, 3) := by decide +kernel
theorem dX9_readsOrder_166 : decode cX9_readsOrder 166 = .ok (.aload_n 0, 1) := by decide +kernel
theorem dX9_readsOrder_167 : decode cX9_readsOrder 167 = .ok (.bipush 9, 2) := by decide +kernel
theorem dX9_readsOrder_169 : decode cX9_readsOrder 169 = .ok (.invokevirtual 207, 3) := by decide +kernel
theorem dX9_readsOrder_172 : decode cX9_readsOrder 172 = .ok (.goto 4, 3) := by decide +kernel
theorem dX9_readsOrder_175 : decode cX9_readsOrder 175 = .ok (.iconst (-1), 1) := by decide +kernel
theorem dX9_readsOrder_176 : decode cX9_readsOrder 176 = .ok (.putfield 231, 3) := by decide +kernel
theorem dX9_readsOrder_179 : decode cX9_readsOrder 179 = .ok (.aload_n 0, 1) := by decide +kernel
theorem dX9_readsOrder_180 : decode cX9_readsOrder 180 = .ok (.getfield 231, 3) := by decide +kernel
theorem dX9_readsOrder_183 : decode cX9_readsOrder 183 = .ok (.ifCond .lt 7, 3) := by decide +kernel
theorem dX9_readsOrder_186 : decode cX9_readsOrder 186 = .ok (.iconst 1, 1) := by decide +kernel
theorem dX9_readsOrder_187 : decode cX9_readsOrder 187 = .ok (.goto 4, 3) := by decide +kernel
theorem dX9_readsOrder_190 : decode cX9_readsOrder 190 = .ok (.iconst 0, 1) := by decide +kernel
theorem dX9_readsOrder_191 : decode cX9_readsOrder 191 = .ok (.ireturn, 1) := by decide +kernel
theorem dX9_readsOrder_192 : decode cX9_readsOrder 192 = .ok (.aload_n 0, 1) := by decide +kernel
theorem dX9_readsOrder_193 : decode cX9_readsOrder 193 = .ok (.aload_n 0, 1) := by decide +kernel
theorem dX9_readsOrder_194 : decode cX9_readsOrder 194 = .ok (.iconst 5, 1) := by decide +kernel
theorem dX9_readsOrder_195 : decode cX9_readsOrder 195 = .ok (.invokevirtual 207, 3) := by decide +kernel
theorem dX9_readsOrder_198 : decode cX9_readsOrder 198 = .ok (.putfield 228, 3) := by decide +kernel
theorem dX9_readsOrder_201 : decode cX9_readsOrder 201 = .ok (.aload_n 0, 1) := by decide +kernel
theorem dX9_readsOrder_202 : decode cX9_readsOrder 202 = .ok (.getfield 228, 3) := by decide +kernel
theorem dX9_readsOrder_205 : decode cX9_readsOrder 205 = .ok (.ifCond .lt 14, 3) := by decide +kernel
theorem dX9_readsOrder_208 : decode cX9_readsOrder 208 = .ok (.aload_n 0, 1) := by decide +kernel
theorem dX9_readsOrder_209 : decode cX9_readsOrder 209 = .ok (.invokevirtual 234, 3) := by decide +kernel
theorem dX9_readsOrder_212 : decode cX9_readsOrder 212 = .ok (.ifCond .eq 7, 3) := by decide +kernel
theorem dX9_readsOrder_215 : decode cX9_readsOrder 215 = .ok (.iconst 1, 1) := by decide +kernel
theorem dX9_readsOrder_216 : decode cX9_readsOrder 216 = .ok (.goto 4, 3) := by decide +kernel
theorem dX9_readsOrder_219 : decode cX9_readsOrder 219 = .ok (.iconst 0, 1) := by decide +kernel
theorem dX9_readsOrder_220 : decode cX9_readsOrder 220 = .ok (.ireturn, 1) := by decide +kernel
theorem dX9_readsOrder_221 : decode cX9_readsOrder 221 = .ok (.aload_n 0, 1) := by decide +kernel
theorem dX9_readsOrder_222 : decode cX9_readsOrder 222 = .ok (.aload_n 0, 1) := by decide +kernel
theorem dX9_readsOrder_223 : decode cX9_readsOrder 223 = .ok (.iconst 5, 1) := by decide +kernel
theorem dX9_readsOrder_224 : decode cX9_readsOrder 224 = .ok (.invokevirtual 207, 3) := by decide +kernel
theorem dX9_readsOrder_227 : decode cX9_readsOrder 227 = .ok (.putfield 228, 3) := by decide +kernel
theorem dX9_readsOrder_230 : decode cX9_readsOrder 230 = .ok (.aload_n 0, 1) := by decide +kernel
theorem dX9_readsOrder_231 : decode cX9_readsOrder 231 = .ok (.aload_n 0, 1) := by decide +kernel
theorem dX9_readsOrder_232 : decode cX9_readsOrder 232 = .ok (.getfield 228, 3) := by decide +kernel
theorem dX9_readsOrder_235 : decode cX9_readsOrder 235 = .ok (.ifCond .lt 20, 3) := by decide +kernel
theorem dX9_readsOrder_238 : decode cX9_readsOrder 238 = .ok (.aload_n 0, 1) := by decide +kernel
theorem dX9_readsOrder_239 : decode cX9_readsOrder 239 = .ok (.bipush 62, 2) := by decide +kernel
theorem dX9_readsOrder_241 : decode cX9_readsOrder 241 = .ok (.invokevirtual 210, 3) := by decide +kernel
theorem dX9_readsOrder_244 : decode cX9_readsOrder 244 = .ok (.ifCond .eq 11, 3) := by decide +kernel
theorem dX9_readsOrder_247 : decode cX9_readsOrder 247 = .ok (.aload_n 0, 1) := by decide +kernel
theorem dX9_readsOrder_248 : decode cX9_readsOrder 248 = .ok (.iconst 5, 1) := by decide +kernel
theorem dX9_readsOrder_249 : decode cX9_readsOrder 249 = .ok (.invokevirtual 207, 3) := by decide +kernel
theorem dX9_readsOrder_252 : decode cX9_readsOrder 252 = .ok (.goto 4, 3) := by decide +kernel
theorem dX9_readsOrder_255 : decode cX9_readsOrder 255 = .ok (.iconst (-1), 1) := by decide +kernel
theorem dX9_readsOrder_256 : decode cX9_readsOrder 256 = .ok (.putfield 231, 3) := by decide +kernel
theorem dX9_readsOrder_259 : decode cX9_readsOrder 259 = .ok (.aload_n 0, 1) := by decide +kernel
theorem dX9_readsOrder_260 : decode cX9_readsOrder 260 = .ok (.getfield 231, 3) := by decide +kernel
theorem dX9_readsOrder_263 : decode cX9_readsOrder 263 = .ok (.ifCond .lt 14, 3) := by decide +kernel
theorem dX9_readsOrder_266 : decode cX9_readsOrder 266 = .ok (.aload_n 0, 1) := by decide +kernel
theorem dX9_readsOrder_267 : decode cX9_readsOrder 267 = .ok (.invokevirtual 234, 3) := by decide +kernel
theorem dX9_readsOrder_270 : decode cX9_readsOrder 270 = .ok (.ifCond .eq 7, 3) := by decide +kernel
theorem dX9_readsOrder_273 : decode cX9_readsOrder 273 = .ok (.iconst 1, 1) := by decide +kernel
theorem dX9_readsOrder_274 : decode cX9_readsOrder 274 = .ok (.goto 4, 3) := by decide +kernel
theorem dX9_readsOrder_277 : decode cX9_readsOrder 277 = .ok (.iconst 0, 1) := by decide +kernel
theorem dX9_readsOrder_278 : decode cX9_readsOrder 278 = .ok (.ireturn, 1) := by decide +kernel
theorem dX9_readsOrder_279 : decode cX9_readsOrder 279 = .ok (.iconst 1, 1) := by decide +kernel
theorem dX9_readsOrder_280 : decode cX9_readsOrder 280 = .ok (.ireturn, 1) := by decide +kernel
theorem dX9_readsOrder_281 : decode cX9_readsOrder 281 = .ok (.aload_n 0, 1) := by decide +kernel
theorem dX9_readsOrder_282 : decode cX9_readsOrder 282 = .ok (.dup, 1) := by decide +kernel
theorem dX9_readsOrder_283 : decode cX9_readsOrder 283 = .ok (.getfield 201, 3) := by decide +kernel
theorem dX9_readsOrder_286 : decode cX9_readsOrder 286 = .ok (.iconst 1, 1) := by decide +kernel
theorem dX9_readsOrder_287 : decode cX9_readsOrder 287 = .ok (.isub, 1) := by decide +kernel
theorem dX9_readsOrder_288 : decode cX9_readsOrder 288 = .ok (.putfield 201, 3) := by decide +kernel
theorem dX9_readsOrder_291 : decode cX9_readsOrder 291 = .ok (.iconst 0, 1) := by decide +kernel
theorem dX9_readsOrder_292 : decode cX9_readsOrder 292 = .ok (.ireturn, 1) := by decide +kernel
theorem dX9_findFault_0 : decode cX9_findFault 0 = .ok (.aload_n 0, 1) := by decide +kernel
theorem dX9_findFault_1 : decode cX9_findFault 1 = .ok (.iconst 0, 1) := by decide +kernel
theorem dX9_findFault_2 : decode cX9_findFault 2 = .ok (.putfield 201, 3) := by decide +kernel
theorem dX9_findFault_5 : decode cX9_findFault 5 = .ok (.aload_n 0, 1) := by decide +kernel
theorem dX9_findFault_6 : decode cX9_findFault 6 = .ok (.invokevirtual 238, 3) := by decide +kernel
theorem dX9_findFault_9 : decode cX9_findFault 9 = .ok (.ifCond .ne 8, 3) := by decide +kernel
theorem dX9_findFault_12 : decode cX9_findFault 12 = .ok (.aload_n 0, 1) := by decide +kernel
theorem dX9_findFault_13 : decode cX9_findFault 13 = .ok (.getfield 201, 3) := by decide +kernel
theorem dX9_findFault_16 : decode cX9_findFault 16 = .ok (.ireturn, 1) := by decide +kernel
theorem dX9_findFault_17 : decode cX9_findFault 17 = .ok (.aload_n 0, 1) := by decide +kernel
theorem dX9_findFault_18 : decode cX9_findFault 18 = .ok (.getfield 201, 3) := by decide +kernel
theorem dX9_findFault_21 : decode cX9_findFault 21 = .ok (.aload_n 0, 1) := by decide +kernel
theorem dX9_findFault_22 : decode cX9_findFault 22 = .ok (.getfield 183, 3) := by decide +kernel
theorem dX9_findFault_25 : decode cX9_findFault 25 = .ok (.if_icmp .ne 6, 3) := by decide +kernel
theorem dX9_findFault_28 : decode cX9_findFault 28 = .ok (.bipush (-6), 2) := by decide +kernel
theorem dX9_findFault_30 : decode cX9_findFault 30 = .ok (.ireturn, 1) := by decide +kernel
theorem dX9_findFault_31 : decode cX9_findFault 31 = .ok (.aload_n 0, 1) := by decide +kernel
theorem dX9_findFault_32 : decode cX9_findFault 32 = .ok (.bipush 59, 2) := by decide +kernel
theorem dX9_findFault_34 : decode cX9_findFault 34 = .ok (.invokevirtual 210, 3) := by decide +kernel
theorem dX9_findFault_37 : decode cX9_findFault 37 = .ok (.ifCond .ne (-32), 3) := by decide +kernel
theorem dX9_findFault_40 : decode cX9_findFault 40 = .ok (.aload_n 0, 1) := by decide +kernel
theorem dX9_findFault_41 : decode cX9_findFault 41 = .ok (.getfield 201, 3) := by decide +kernel
theorem dX9_findFault_44 : decode cX9_findFault 44 = .ok (.ireturn, 1) := by decide +kernel
theorem dX9_fault_0 : decode cX9_fault 0 = .ok (.aload_n 0, 1) := by decide +kernel
theorem dX9_fault_1 : decode cX9_fault 1 = .ok (.invokevirtual 241, 3) := by decide +kernel
theorem dX9_fault_4 : decode cX9_fault 4 = .ok (.ireturn, 1) := by decide +kernel
theorem dX9_does_0 : decode cX9_does 0 = .ok (.iconst 1, 1) := by decide +kernel
theorem dX9_does_1 : decode cX9_does 1 = .ok (.istore_n 1, 1) := by decide +kernel
theorem dX9_does_2 : decode cX9_does 2 = .ok (.aload_n 0, 1) := by decide +kernel
theorem dX9_does_3 : decode cX9_does 3 = .ok (.getfield 225, 3) := by decide +kernel
theorem dX9_does_6 : decode cX9_does 6 = .ok (.bipush 116, 2) := by decide +kernel
theorem dX9_does_8 : decode cX9_does 8 = .ok (.if_icmp .ne 44, 3) := by decide +kernel
theorem dX9_does_11 : decode cX9_does 11 = .ok (.aload_n 0, 1) := by decide +kernel
theorem dX9_does_12 : decode cX9_does 12 = .ok (.aload_n 0, 1) := by decide +kernel
theorem dX9_does_13 : decode cX9_does 13 = .ok (.getfield 228, 3) := by decide +kernel
theorem dX9_does_16 : decode cX9_does 16 = .ok (.aload_n 0, 1) := by decide +kernel
theorem dX9_does_17 : decode cX9_does 17 = .ok (.getfield 231, 3) := by decide +kernel
theorem dX9_does_20 : decode cX9_does 20 = .ok (.invokevirtual 105, 3) := by decide +kernel
theorem dX9_does_23 : decode cX9_does 23 = .ok (.ifCond .ne 7, 3) := by decide +kernel
theorem dX9_does_26 : decode cX9_does 26 = .ok (.iconst 1, 1) := by decide +kernel
theorem dX9_does_27 : decode cX9_does 27 = .ok (.goto 4, 3) := by decide +kernel
theorem dX9_does_30 : decode cX9_does 30 = .ok (.iconst 0, 1) := by decide +kernel
theorem dX9_does_31 : decode cX9_does 31 = .ok (.istore_n 1, 1) := by decide +kernel
theorem dX9_does_32 : decode cX9_does 32 = .ok (.iload_n 1, 1) := by decide +kernel
theorem dX9_does_33 : decode cX9_does 33 = .ok (.ifCond .eq 191, 3) := by decide +kernel
theorem dX9_does_36 : decode cX9_does 36 = .ok (.aload_n 0, 1) := by decide +kernel
theorem dX9_does_37 : decode cX9_does 37 = .ok (.aload_n 0, 1) := by decide +kernel
theorem dX9_does_38 : decode cX9_does 38 = .ok (.getfield 228, 3) := by decide +kernel
theorem dX9_does_41 : decode cX9_does 41 = .ok (.aload_n 0, 1) := by decide +kernel
theorem dX9_does_42 : decode cX9_does 42 = .ok (.getfield 231, 3) := by decide +kernel
theorem dX9_does_45 : decode cX9_does 45 = .ok (.invokevirtual 108, 3) := by decide +kernel
theorem dX9_does_48 : decode cX9_does 48 = .ok (.pop, 1) := by decide +kernel
theorem dX9_does_49 : decode cX9_does 49 = .ok (.goto 175, 3) := by decide +kernel
theorem dX9_does_52 : decode cX9_does 52 = .ok (.aload_n 0, 1) := by decide +kernel
theorem dX9_does_53 : decode cX9_does 53 = .ok (.getfield 225, 3) := by decide +kernel
theorem dX9_does_56 : decode cX9_does 56 = .ok (.bipush 119, 2) := by decide +kernel
theorem dX9_does_58 : decode cX9_does 58 = .ok (.if_icmp .ne 21, 3) := by decide +kernel
theorem dX9_does_61 : decode cX9_does 61 = .ok (.aload_n 0, 1) := by decide +kernel
theorem dX9_does_62 : decode cX9_does 62 = .ok (.getfield 7, 3) := by decide +kernel
theorem dX9_does_65 : decode cX9_does 65 = .ok (.iconst 5, 1) := by decide +kernel
theorem dX9_does_66 : decode cX9_does 66 = .ok (.aload_n 0, 1) := by decide +kernel
theorem dX9_does_67 : decode cX9_does 67 = .ok (.getfield 228, 3) := by decide +kernel
theorem dX9_does_70 : decode cX9_does 70 = .ok (.iadd, 1) := by decide +kernel
theorem dX9_does_71 : decode cX9_does 71 = .ok (.aload_n 0, 1) := by decide +kernel
theorem dX9_does_72 : decode cX9_does 72 = .ok (.getfield 231, 3) := by decide +kernel
theorem dX9_does_75 : decode cX9_does 75 = .ok (.iastore, 1) := by decide +kernel
theorem dX9_does_76 : decode cX9_does 76 = .ok (.goto 148, 3) := by decide +kernel
theorem dX9_does_79 : decode cX9_does 79 = .ok (.aload_n 0, 1) := by decide +kernel
theorem dX9_does_80 : decode cX9_does 80 = .ok (.getfield 225, 3) := by decide +kernel
theorem dX9_does_83 : decode cX9_does 83 = .ok (.bipush 97, 2) := by decide +kernel
theorem dX9_does_85 : decode cX9_does 85 = .ok (.if_icmp .ne 60, 3) := by decide +kernel
theorem dX9_does_88 : decode cX9_does 88 = .ok (.aload_n 0, 1) := by decide +kernel
theorem dX9_does_89 : decode cX9_does 89 = .ok (.aload_n 0, 1) := by decide +kernel
theorem dX9_does_90 : decode cX9_does 90 = .ok (.getfield 228, 3) := by decide +kernel
theorem dX9_does_93 : decode cX9_does 93 = .ok (.aload_n 0, 1) := by decide +kernel
theorem dX9_does_94 : decode cX9_does 94 = .ok (.getfield 213, 3) := by decide +kernel
theorem dX9_does_97 : decode cX9_does 97 = .ok (.aload_n 0, 1) := by decide +kernel
theorem dX9_does_98 : decode cX9_does 98 = .ok (.getfield 219, 3) := by decide +kernel
theorem dX9_does_101 : decode cX9_does 101 = .ok (.aload_n 0, 1) := by decide +kernel
theorem dX9_does_102 : decode cX9_does 102 = .ok (.getfield 222, 3) := by decide +kernel
theorem dX9_does_105 : decode cX9_does 105 = .ok (.invokevirtual 125, 3) := by decide +kernel
theorem dX9_does_108 : decode cX9_does 108 = .ok (.ifCond .ne 7, 3) := by decide +kernel
theorem dX9_does_111 : decode cX9_does 111 = .ok (.iconst 1, 1) := by decide +kernel
theorem dX9_does_112 : decode cX9_does 112 = .ok (.goto 4, 3) := by decide +kernel
theorem dX9_does_115 : decode cX9_does 115 = .ok (.iconst 0, 1) := by decide +kernel
theorem dX9_does_116 : decode cX9_does 116 = .ok (.istore_n 1, 1) := by decide +kernel
theorem dX9_does_117 : decode cX9_does 117 = .ok (.iload_n 1, 1) := by decide +kernel
theorem dX9_does_118 : decode cX9_does 118 = .ok (.ifCond .eq 106, 3) := by decide +kernel
theorem dX9_does_121 : decode cX9_does 121 = .ok (.aload_n 0, 1) := by decide +kernel
theorem dX9_does_122 : decode cX9_does 122 = .ok (.aload_n 0, 1) := by decide +kernel
theorem dX9_does_123 : decode cX9_does 123 = .ok (.getfield 228, 3) := by decide +kernel
theorem dX9_does_126 : decode cX9_does 126 = .ok (.aload_n 0, 1) := by decide +kernel
theorem dX9_does_127 : decode cX9_does 127 = .ok (.getfield 213, 3) := by decide +kernel
theorem dX9_does_130 : decode cX9_does 130 = .ok (.aload_n 0, 1) := by decide +kernel
theorem dX9_does_131 : decode cX9_does 131 = .ok (.getfield 219, 3) := by decide +kernel
theorem dX9_does_134 : decode cX9_does 134 = .ok (.aload_n 0, 1) := by decide +kernel
theorem dX9_does_135 : decode cX9_does 135 = .ok (.getfield 222, 3) := by decide +kernel
theorem dX9_does_138 : decode cX9_does 138 = .ok (.invokevirtual 128, 3) := by decide +kernel
theorem dX9_does_141 : decode cX9_does 141 = .ok (.pop, 1) := by decide +kernel
theorem dX9_does_142 : decode cX9_does 142 = .ok (.goto 82, 3) := by decide +kernel
theorem dX9_does_145 : decode cX9_does 145 = .ok (.aload_n 0, 1) := by decide +kernel
theorem dX9_does_146 : decode cX9_does 146 = .ok (.getfield 225, 3) := by decide +kernel
theorem dX9_does_149 : decode cX9_does 149 = .ok (.bipush 98, 2) := by decide +kernel
theorem dX9_does_151 : decode cX9_does 151 = .ok (.if_icmp .ne 68, 3) := by decide +kernel
theorem dX9_does_154 : decode cX9_does 154 = .ok (.aload_n 0, 1) := by decide +kernel
theorem dX9_does_155 : decode cX9_does 155 = .ok (.aload_n 0, 1) := by decide +kernel
theorem dX9_does_156 : decode cX9_does 156 = .ok (.getfield 228, 3) := by decide +kernel
theorem dX9_does_159 : decode cX9_does 159 = .ok (.aload_n 0, 1) := by decide +kernel
theorem dX9_does_160 : decode cX9_does 160 = .ok (.getfield 231, 3) := by decide +kernel
theorem dX9_does_163 : decode cX9_does 163 = .ok (.aload_n 0, 1) := by decide +kernel
theorem dX9_does_164 : decode cX9_does 164 = .ok (.getfield 213, 3) := by decide +kernel
theorem dX9_does_167 : decode cX9_does 167 = .ok (.aload_n 0, 1) := by decide +kernel
theorem dX9_does_168 : decode cX9_does 168 = .ok (.getfield 219, 3) := by decide +kernel
theorem dX9_does_171 : decode cX9_does 171 = .ok (.aload_n 0, 1) := by decide +kernel
theorem dX9_does_172 : decode cX9_does 172 = .ok (.getfield 222, 3) := by decide +kernel
theorem dX9_does_175 : decode cX9_does 175 = .ok (.invokevirtual 131, 3) := by decide +kernel
theorem dX9_does_178 : decode cX9_does 178 = .ok (.ifCond .ne 7, 3) := by decide +kernel
theorem dX9_does_181 : decode cX9_does 181 = .ok (.iconst 1, 1) := by decide +kernel
theorem dX9_does_182 : decode cX9_does 182 = .ok (.goto 4, 3) := by decide +kernel
theorem dX9_does_185 : decode cX9_does 185 = .ok (.iconst 0, 1) := by decide +kernel
theorem dX9_does_186 : decode cX9_does 186 = .ok (.istore_n 1, 1) := by decide +kernel
theorem dX9_does_187 : decode cX9_does 187 = .ok (.iload_n 1, 1) := by decide +kernel
theorem dX9_does_188 : decode cX9_does 188 = .ok (.ifCond .eq 36, 3) := by decide +kernel
theorem dX9_does_191 : decode cX9_does 191 = .ok (.aload_n 0, 1) := by decide +kernel
theorem dX9_does_192 : decode cX9_does 192 = .ok (.aload_n 0, 1) := by decide +kernel
theorem dX9_does_193 : decode cX9_does 193 = .ok (.getfield 228, 3) := by decide +kernel
theorem dX9_does_196 : decode cX9_does 196 = .ok (.aload_n 0, 1) := by decide +kernel
theorem dX9_does_197 : decode cX9_does 197 = .ok (.getfield 231, 3) := by decide +kernel
theorem dX9_does_200 : decode cX9_does 200 = .ok (.aload_n 0, 1) := by decide +kernel
theorem dX9_does_201 : decode cX9_does 201 = .ok (.getfield 213, 3) := by decide +kernel
theorem dX9_does_204 : decode cX9_does 204 = .ok (.aload_n 0, 1) := by decide +kernel
theorem dX9_does_205 : decode cX9_does 205 = .ok (.getfield 219, 3) := by decide +kernel
theorem dX9_does_208 : decode cX9_does 208 = .ok (.aload_n 0, 1) := by decide +kernel
theorem dX9_does_209 : decode cX9_does 209 = .ok (.getfield 222, 3) := by decide +kernel
theorem dX9_does_212 : decode cX9_does 212 = .ok (.invokevirtual 135, 3) := by decide +kernel
theorem dX9_does_215 : decode cX9_does 215 = .ok (.pop, 1) := by decide +kernel
theorem dX9_does_216 : decode cX9_does 216 = .ok (.goto 8, 3) := by decide +kernel
theorem dX9_does_219 : decode cX9_does 219 = .ok (.aload_n 0, 1) := by decide +kernel
theorem dX9_does_220 : decode cX9_does 220 = .ok (.invokevirtual 160, 3) := by decide +kernel
theorem dX9_does_223 : decode cX9_does 223 = .ok (.pop, 1) := by decide +kernel
theorem dX9_does_224 : decode cX9_does 224 = .ok (.iload_n 1, 1) := by decide +kernel
theorem dX9_does_225 : decode cX9_does 225 = .ok (.ireturn, 1) := by decide +kernel
theorem dX9_carryOut_0 : decode cX9_carryOut 0 = .ok (.aload_n 0, 1) := by decide +kernel
theorem dX9_carryOut_1 : decode cX9_carryOut 1 = .ok (.invokevirtual 241, 3) := by decide +kernel
theorem dX9_carryOut_4 : decode cX9_carryOut 4 = .ok (.bipush (-6), 2) := by decide +kernel
theorem dX9_carryOut_6 : decode cX9_carryOut 6 = .ok (.if_icmp .eq 6, 3) := by decide +kernel
theorem dX9_carryOut_9 : decode cX9_carryOut 9 = .ok (.bipush (-3), 2) := by decide +kernel
theorem dX9_carryOut_11 : decode cX9_carryOut 11 = .ok (.ireturn, 1) := by decide +kernel
theorem dX9_carryOut_12 : decode cX9_carryOut 12 = .ok (.aload_n 0, 1) := by decide +kernel
theorem dX9_carryOut_13 : decode cX9_carryOut 13 = .ok (.invokevirtual 99, 3) := by decide +kernel
theorem dX9_carryOut_16 : decode cX9_carryOut 16 = .ok (.iconst 0, 1) := by decide +kernel
theorem dX9_carryOut_17 : decode cX9_carryOut 17 = .ok (.istore_n 1, 1) := by decide +kernel
theorem dX9_carryOut_18 : decode cX9_carryOut 18 = .ok (.aload_n 0, 1) := by decide +kernel
theorem dX9_carryOut_19 : decode cX9_carryOut 19 = .ok (.iconst 0, 1) := by decide +kernel
theorem dX9_carryOut_20 : decode cX9_carryOut 20 = .ok (.putfield 201, 3) := by decide +kernel
theorem dX9_carryOut_23 : decode cX9_carryOut 23 = .ok (.iconst 1, 1) := by decide +kernel
theorem dX9_carryOut_24 : decode cX9_carryOut 24 = .ok (.istore_n 2, 1) := by decide +kernel
theorem dX9_carryOut_25 : decode cX9_carryOut 25 = .ok (.iload_n 2, 1) := by decide +kernel
theorem dX9_carryOut_26 : decode cX9_carryOut 26 = .ok (.ifCond .eq 46, 3) := by decide +kernel
theorem dX9_carryOut_29 : decode cX9_carryOut 29 = .ok (.aload_n 0, 1) := by decide +kernel
theorem dX9_carryOut_30 : decode cX9_carryOut 30 = .ok (.getfield 201, 3) := by decide +kernel
theorem dX9_carryOut_33 : decode cX9_carryOut 33 = .ok (.aload_n 0, 1) := by decide +kernel
theorem dX9_carryOut_34 : decode cX9_carryOut 34 = .ok (.getfield 183, 3) := by decide +kernel
theorem dX9_carryOut_37 : decode cX9_carryOut 37 = .ok (.if_icmp .ge 35, 3) := by decide +kernel
theorem dX9_carryOut_40 : decode cX9_carryOut 40 = .ok (.aload_n 0, 1) := by decide +kernel
theorem dX9_carryOut_41 : decode cX9_carryOut 41 = .ok (.invokevirtual 238, 3) := by decide +kernel
theorem dX9_carryOut_44 : decode cX9_carryOut 44 = .ok (.pop, 1) := by decide +kernel
theorem dX9_carryOut_45 : decode cX9_carryOut 45 = .ok (.aload_n 0, 1) := by decide +kernel
theorem dX9_carryOut_46 : decode cX9_carryOut 46 = .ok (.bipush 59, 2) := by decide +kernel
theorem dX9_carryOut_48 : decode cX9_carryOut 48 = .ok (.invokevirtual 210, 3) := by decide +kernel
theorem dX9_carryOut_51 : decode cX9_carryOut 51 = .ok (.pop, 1) := by decide +kernel
theorem dX9_carryOut_52 : decode cX9_carryOut 52 = .ok (.aload_n 0, 1) := by decide +kernel
theorem dX9_carryOut_53 : decode cX9_carryOut 53 = .ok (.invokevirtual 244, 3) := by decide +kernel
theorem dX9_carryOut_56 : decode cX9_carryOut 56 = .ok (.istore_n 2, 1) := by decide +kernel
theorem dX9_carryOut_57 : decode cX9_carryOut 57 = .ok (.iload_n 1, 1) := by decide +kernel
theorem dX9_carryOut_58 : decode cX9_carryOut 58 = .ok (.iload_n 2, 1) := by decide +kernel
theorem dX9_carryOut_59 : decode cX9_carryOut 59 = .ok (.ifCond .eq 7, 3) := by decide +kernel
theorem dX9_carryOut_62 : decode cX9_carryOut 62 = .ok (.iconst 1, 1) := by decide +kernel
theorem dX9_carryOut_63 : decode cX9_carryOut 63 = .ok (.goto 4, 3) := by decide +kernel
theorem dX9_carryOut_66 : decode cX9_carryOut 66 = .ok (.iconst 0, 1) := by decide +kernel
theorem dX9_carryOut_67 : decode cX9_carryOut 67 = .ok (.iadd, 1) := by decide +kernel
theorem dX9_carryOut_68 : decode cX9_carryOut 68 = .ok (.istore_n 1, 1) := by decide +kernel
theorem dX9_carryOut_69 : decode cX9_carryOut 69 = .ok (.goto (-44), 3) := by decide +kernel
theorem dX9_carryOut_72 : decode cX9_carryOut 72 = .ok (.aload_n 0, 1) := by decide +kernel
theorem dX9_carryOut_73 : decode cX9_carryOut 73 = .ok (.iconst 0, 1) := by decide +kernel
theorem dX9_carryOut_74 : decode cX9_carryOut 74 = .ok (.putfield 183, 3) := by decide +kernel
theorem dX9_carryOut_77 : decode cX9_carryOut 77 = .ok (.iload_n 1, 1) := by decide +kernel
theorem dX9_carryOut_78 : decode cX9_carryOut 78 = .ok (.ireturn, 1) := by decide +kernel
theorem dX9_undo_0 : decode cX9_undo 0 = .ok (.aload_n 0, 1) := by decide +kernel
theorem dX9_undo_1 : decode cX9_undo 1 = .ok (.getfield 34, 3) := by decide +kernel
theorem dX9_undo_4 : decode cX9_undo 4 = .ok (.ifCond .ne 6, 3) := by decide +kernel
theorem dX9_undo_7 : decode cX9_undo 7 = .ok (.bipush (-5), 2) := by decide +kernel
theorem dX9_undo_9 : decode cX9_undo 9 = .ok (.ireturn, 1) := by decide +kernel
theorem dX9_undo_10 : decode cX9_undo 10 = .ok (.aload_n 0, 1) := by decide +kernel
theorem dX9_undo_11 : decode cX9_undo 11 = .ok (.dup, 1) := by decide +kernel
theorem dX9_undo_12 : decode cX9_undo 12 = .ok (.getfield 34, 3) := by decide +kernel
theorem dX9_undo_15 : decode cX9_undo 15 = .ok (.iconst 1, 1) := by decide +kernel
theorem dX9_undo_16 : decode cX9_undo 16 = .ok (.isub, 1) := by decide +kernel
theorem dX9_undo_17 : decode cX9_undo 17 = .ok (.putfield 34, 3) := by decide +kernel
theorem dX9_undo_20 : decode cX9_undo 20 = .ok (.aload_n 0, 1) := by decide +kernel
theorem dX9_undo_21 : decode cX9_undo 21 = .ok (.getfield 13, 3) := by decide +kernel
theorem dX9_undo_24 : decode cX9_undo 24 = .ok (.aload_n 0, 1) := by decide +kernel
theorem dX9_undo_25 : decode cX9_undo 25 = .ok (.getfield 34, 3) := by decide +kernel
theorem dX9_undo_28 : decode cX9_undo 28 = .ok (.sipush 489, 3) := by decide +kernel
theorem dX9_undo_31 : decode cX9_undo 31 = .ok (.imul, 1) := by decide +kernel
theorem dX9_undo_32 : decode cX9_undo 32 = .ok (.aload_n 0, 1) := by decide +kernel
theorem dX9_undo_33 : decode cX9_undo 33 = .ok (.getfield 7, 3) := by decide +kernel
theorem dX9_undo_36 : decode cX9_undo 36 = .ok (.iconst 0, 1) := by decide +kernel
theorem dX9_undo_37 : decode cX9_undo 37 = .ok (.invokestatic 38, 3) := by decide +kernel
theorem dX9_undo_40 : decode cX9_undo 40 = .ok (.aload_n 0, 1) := by decide +kernel
theorem dX9_undo_41 : decode cX9_undo 41 = .ok (.getfield 34, 3) := by decide +kernel
theorem dX9_undo_44 : decode cX9_undo 44 = .ok (.ireturn, 1) := by decide +kernel
theorem dX9_save_0 : decode cX9_save 0 = .ok (.iload_n 1, 1) := by decide +kernel
theorem dX9_save_1 : decode cX9_save 1 = .ok (.iconst 0, 1) := by decide +kernel
theorem dX9_save_2 : decode cX9_save 2 = .ok (.iconst 1, 1) := by decide +kernel
theorem dX9_save_3 : decode cX9_save 3 = .ok (.invokestatic 42, 3) := by decide +kernel
theorem dX9_save_6 : decode cX9_save 6 = .ok (.ifCond .ne 6, 3) := by decide +kernel
theorem dX9_save_9 : decode cX9_save 9 = .ok (.bipush (-2), 2) := by decide +kernel
theorem dX9_save_11 : decode cX9_save 11 = .ok (.ireturn, 1) := by decide +kernel
theorem dX9_save_12 : decode cX9_save 12 = .ok (.aload_n 0, 1) := by decide +kernel
theorem dX9_save_13 : decode cX9_save 13 = .ok (.getfield 7, 3) := by decide +kernel
theorem dX9_save_16 : decode cX9_save 16 = .ok (.iconst 0, 1) := by decide +kernel
theorem dX9_save_17 : decode cX9_save 17 = .ok (.aload_n 0, 1) := by decide +kernel
theorem dX9_save_18 : decode cX9_save 18 = .ok (.getfield 16, 3) := by decide +kernel
theorem dX9_save_21 : decode cX9_save 21 = .ok (.sipush 489, 3) := by decide +kernel
theorem dX9_save_24 : decode cX9_save 24 = .ok (.iload_n 1, 1) := by decide +kernel
theorem dX9_save_25 : decode cX9_save 25 = .ok (.imul, 1) := by decide +kernel
theorem dX9_save_26 : decode cX9_save 26 = .ok (.invokestatic 38, 3) := by decide +kernel
theorem dX9_save_29 : decode cX9_save 29 = .ok (.aload_n 0, 1) := by decide +kernel
theorem dX9_save_30 : decode cX9_save 30 = .ok (.getfield 19, 3) := by decide +kernel
theorem dX9_save_33 : decode cX9_save 33 = .ok (.iload_n 1, 1) := by decide +kernel
theorem dX9_save_34 : decode cX9_save 34 = .ok (.iconst 1, 1) := by decide +kernel
theorem dX9_save_35 : decode cX9_save 35 = .ok (.iastore, 1) := by decide +kernel
theorem dX9_save_36 : decode cX9_save 36 = .ok (.aload_n 0, 1) := by decide +kernel
theorem dX9_save_37 : decode cX9_save 37 = .ok (.getfield 7, 3) := by decide +kernel
theorem dX9_save_40 : decode cX9_save 40 = .ok (.iconst 0, 1) := by decide +kernel
theorem dX9_save_41 : decode cX9_save 41 = .ok (.iaload, 1) := by decide +kernel
theorem dX9_save_42 : decode cX9_save 42 = .ok (.ireturn, 1) := by decide +kernel
theorem dX9_restore_0 : decode cX9_restore 0 = .ok (.iload_n 1, 1) := by decide +kernel
theorem dX9_restore_1 : decode cX9_restore 1 = .ok (.iconst 0, 1) := by decide +kernel
theorem dX9_restore_2 : decode cX9_restore 2 = .ok (.iconst 1, 1) := by decide +kernel
theorem dX9_restore_3 : decode cX9_restore 3 = .ok (.invokestatic 42, 3) := by decide +kernel
theorem dX9_restore_6 : decode cX9_restore 6 = .ok (.ifCond .ne 6, 3) := by decide +kernel
theorem dX9_restore_9 : decode cX9_restore 9 = .ok (.bipush (-2), 2) := by decide +kernel
theorem dX9_restore_11 : decode cX9_restore 11 = .ok (.ireturn, 1) := by decide +kernel
theorem dX9_restore_12 : decode cX9_restore 12 = .ok (.aload_n 0, 1) := by decide +kernel
theorem dX9_restore_13 : decode cX9_restore 13 = .ok (.getfield 19, 3) := by decide +kernel
theorem dX9_restore_16 : decode cX9_restore 16 = .ok (.iload_n 1, 1) := by decide +kernel
theorem dX9_restore_17 : decode cX9_restore 17 = .ok (.iaload, 1) := by decide +kernel
theorem dX9_restore_18 : decode cX9_restore 18 = .ok (.ifCond .ne 6, 3) := by decide +kernel
theorem dX9_restore_21 : decode cX9_restore 21 = .ok (.bipush (-5), 2) := by decide +kernel
theorem dX9_restore_23 : decode cX9_restore 23 = .ok (.ireturn, 1) := by decide +kernel
theorem dX9_restore_24 : decode cX9_restore 24 = .ok (.aload_n 0, 1) := by decide +kernel
theorem dX9_restore_25 : decode cX9_restore 25 = .ok (.invokevirtual 99, 3) := by decide +kernel
theorem dX9_restore_28 : decode cX9_restore 28 = .ok (.aload_n 0, 1) := by decide +kernel
theorem dX9_restore_29 : decode cX9_restore 29 = .ok (.getfield 16, 3) := by decide +kernel
theorem dX9_restore_32 : decode cX9_restore 32 = .ok (.sipush 489, 3) := by decide +kernel
theorem dX9_restore_35 : decode cX9_restore 35 = .ok (.iload_n 1, 1) := by decide +kernel
theorem dX9_restore_36 : decode cX9_restore 36 = .ok (.imul, 1) := by decide +kernel
theorem dX9_restore_37 : decode cX9_restore 37 = .ok (.aload_n 0, 1) := by decide +kernel
theorem dX9_restore_38 : decode cX9_restore 38 = .ok (.getfield 7, 3) := by decide +kernel
theorem dX9_restore_41 : decode cX9_restore 41 = .ok (.iconst 0, 1) := by decide +kernel
theorem dX9_restore_42 : decode cX9_restore 42 = .ok (.invokestatic 38, 3) := by decide +kernel
theorem dX9_restore_45 : decode cX9_restore 45 = .ok (.aload_n 0, 1) := by decide +kernel
theorem dX9_restore_46 : decode cX9_restore 46 = .ok (.getfield 7, 3) := by decide +kernel
theorem dX9_restore_49 : decode cX9_restore 49 = .ok (.iconst 0, 1) := by decide +kernel
theorem dX9_restore_50 : decode cX9_restore 50 = .ok (.iaload, 1) := by decide +kernel
theorem dX9_restore_51 : decode cX9_restore 51 = .ok (.ireturn, 1) := by decide +kernel
end
section
/-! integers behind the machine's ints; the world as a list of kinds and one function of numbers; a walk over it -/
def q_i (z : Int) : Value := .int (Int32.ofInt z)
abbrev q_rg (z : Int) : Prop := -2147483648 ≤ z ∧ z ≤ 2147483647
theorem q_ti {z : Int} (h : q_rg z) : (Int32.ofInt z).toInt = z := Int32.toInt_ofInt_of_le (by have := h.1; omega) (by have := h.2; omega)
theorem q_ot (x : Int32) : Int32.ofInt x.toInt = x := Int32.ofInt_toInt x
theorem q_rgt (x : Int32) : q_rg x.toInt := ⟨by have := x.le_toInt; omega, by have := x.toInt_lt; omega⟩
theorem q_lt {a b : Int} (ha : q_rg a) (hb : q_rg b) : Int32.ofInt a < Int32.ofInt b ↔ a < b := by rw [Int32.lt_iff_toInt_lt, q_ti ha, q_ti hb]
theorem q_le {a b : Int} (ha : q_rg a) (hb : q_rg b) : Int32.ofInt a ≤ Int32.ofInt b ↔ a ≤ b := by rw [Int32.le_iff_toInt_le, q_ti ha, q_ti hb]
theorem q_eq {a b : Int} (ha : q_rg a) (hb : q_rg b) : Int32.ofInt a = Int32.ofInt b ↔ a = b := by rw [← Int32.toInt_inj, q_ti ha, q_ti hb]
theorem q_0 : (0 : Int32) = Int32.ofInt 0 := rfl
theorem q_rg0 : q_rg 0 := by decide
theorem q_cl {z : Int} (h0 : 0 ≤ z) (h : z ≤ 2147483647) : (Int32.ofInt z).toNatClampNeg = z.toNat := by
  show (Int32.ofInt z).toInt.toNat = _
  rw [q_ti ⟨by omega, h⟩]
theorem q_in {z : Int} {n : Nat} (h0 : 0 ≤ z) (h : z < (n : Int)) (hn : n ≤ 2147483647) : vp_in (Int32.ofInt z) n := by
  rw [vp_in_iff, q_ti ⟨by omega, by omega⟩]
  exact ⟨h0, h⟩
theorem q_nn {z : Int} (h0 : 0 ≤ z) (h : z ≤ 2147483647) : ¬ Int32.ofInt z < 0 := by
  rw [q_0, q_lt ⟨by omega, h⟩ q_rg0]
  omega
/-- launch, classes, array classes, where the world begins, static places, the script's ints, their number -/
abbrev q_G : Type := Launch × va_G × (Nat → ClassId) × Nat × (Nat → Nat) × (Nat → Int) × Nat
abbrev q_l (Γ : q_G) : Launch := Γ.1
abbrev q_D (Γ : q_G) : va_G := Γ.2.1
abbrev q_cA (Γ : q_G) : Nat → ClassId := Γ.2.2.1
abbrev q_b (Γ : q_G) : Nat := Γ.2.2.2.1
abbrev q_ad (Γ : q_G) : Nat → Nat := Γ.2.2.2.2.1
abbrev q_xs (Γ : q_G) : Nat → Int := Γ.2.2.2.2.2.1
abbrev q_n (Γ : q_G) : Nat := Γ.2.2.2.2.2.2
abbrev q_r (Γ : q_G) (k : Nat) : Value := .ref (q_b Γ + k)
def q_A (Γ : q_G) : Nat → Prop := fun q => q_b Γ ≤ q
/-- a kind: an object of a class with its fields (0: a number, 1: null, k + 2: the cell k), or an array (0 int, 1 boolean, 2 char, 3 of fields) of a length -/
abbrev q_K : Type := (Nat × List Nat) ⊕ (Nat × Nat)
abbrev q_S : Type := Nat → Int → Int
abbrev q_W : Type := List q_K × q_S
def q_fv (B : Nat) (f : Nat) (z : Int) : Value := match f with
  | 0 => q_i z
  | 1 => .null
  | k + 2 => .ref (B + k)
def q_fvs (B : Nat) (fl : List Nat) (g : Int → Int) : List Value := fl.mapIdx (fun k f => q_fv B f (g k))
def q_el (B : Nat) (z : Int) : Option Nat := if z < 0 then none else some (B + z.toNat)
def q_ar (B t : Nat) (g : Int → Int) : ((Nat → Int32) ⊕ (Nat → Int64) ⊕ (Nat → UInt32) ⊕ (Nat → UInt64) ⊕ (Nat → Option Nat)) :=
  match t with
  | 3 => .inr (.inr (.inr (.inr fun j => q_el B (g j))))
  | _ => .inl (fun j => Int32.ofInt (g j))
def q_ent (Γ : q_G) (K : q_K) (g : Int → Int) : va_E := match K with
  | .inl o => .inr (o.1, q_fvs (q_b Γ) o.2 g)
  | .inr a => .inl (q_cA Γ a.1, a.2, q_ar (q_b Γ) a.1 g)
def q_ty (t : Nat) : FieldType := match t with
  | 0 => .int
  | 1 => .boolean
  | 2 => .char
  | _ => .object "ShadowRows$Field"
def q_tys (Γ : q_G) : List (ClassId × FieldType) := [(q_cA Γ 0, q_ty 0), (q_cA Γ 1, q_ty 1), (q_cA Γ 2, q_ty 2), (q_cA Γ 3, q_ty 3)]
def q_Wd (Γ : q_G) (w : q_W) (H : Heap) : Prop := H.size = q_b Γ + w.1.length ∧ (∀ (k : Nat) (K : q_K), w.1[k]? = some K → va_at (q_D Γ) vwCl (q_b Γ + k, q_ent Γ K (w.2 k)) H) ∧ ∀ (k : Nat) (j : Int), q_rg (w.2 k j)
def q_up (S : q_S) (a : Nat) (z v : Int) : q_S := fun a' z' => if a' = a ∧ z' = z then v else S a' z'
def q_cp (S : q_S) (src dst : Nat) (sp dp n : Int) : q_S := fun a' z' => if a' = dst ∧ dp ≤ z' ∧ z' < dp + n then S src (sp + (z' - dp)) else S a' z'
theorem q_P1 {D : va_G} {cl : List vw_C} {x : Nat × va_E} {H : Heap} (h : va_at D cl x H) : va_P D cl [x] H := by
  intro k q hk
  have hz : k < 1 := (List.getElem?_eq_some_iff.mp hk).1
  rw [show k = 0 by omega] at hk
  cases hk
  exact h
theorem q_fvs_get {B : Nat} {fl : List Nat} {g : Int → Int} {k f : Nat} (h : fl[k]? = some f) : (q_fvs B fl g)[k]? = some (q_fv B f (g k)) := by
  simp [q_fvs, List.getElem?_mapIdx, h]
theorem q_fvs_len {B : Nat} {fl : List Nat} {g : Int → Int} : (q_fvs B fl g).length = fl.length := by simp [q_fvs]
theorem q_fvs_set {B : Nat} {fl : List Nat} {g g' : Int → Int} {k f : Nat} (hk : k < fl.length) (hg : ∀ j : Nat, j ≠ k → g' j = g j) : (q_fvs B fl g).set k (q_fv B f (g' k)) = q_fvs B (fl.set k f) g' := by
  apply List.ext_getElem?
  intro i
  by_cases hi : i = k
  · subst hi
    rw [List.getElem?_set_self (by rw [q_fvs_len]; exact hk)]
    exact (q_fvs_get (List.getElem?_set_self hk)).symm
  · rw [List.getElem?_set_ne (Ne.symm hi)]
    simp only [q_fvs, List.getElem?_mapIdx, List.getElem?_set_ne (Ne.symm hi)]
    rw [hg i hi]
theorem q_set_self {α : Type} {fl : List α} {k : Nat} {f : α} (h : fl[k]? = some f) : fl.set k f = fl := by
  apply List.ext_getElem?
  intro i
  by_cases hi : i = k
  · subst hi
    rw [List.getElem?_set_self (List.getElem?_eq_some_iff.mp h).1, h]
  · rw [List.getElem?_set_ne (Ne.symm hi)]
/-- one cell changed, of the same kind -/
theorem q_Wd.upd {Γ : q_G} {w : q_W} {H H1 : Heap} {a : Nat} {K : q_K} (hW : q_Wd Γ w H) (hK : w.1[a]? = some K) (S' : q_S) (z1 : H1.size = H.size) (oq : ∀ q : Nat, q ≠ q_b Γ + a → H1[q]? = H[q]?)
    (e1 : va_at (q_D Γ) vwCl (q_b Γ + a, q_ent Γ K (S' a)) H1) (hs : ∀ k, k ≠ a → S' k = w.2 k) (hr : ∀ j, q_rg (S' a j)) : q_Wd Γ (w.1, S') H1 := by
  refine ⟨z1.trans hW.1, fun k K' hk => ?_, fun k j => ?_⟩
  · by_cases h : k = a
    · subst h
      cases hK.symm.trans hk
      exact e1
    · show va_at _ _ (q_b Γ + k, q_ent Γ K' (S' k)) H1
      rw [hs k h]
      exact (hW.2.1 k K' hk).kept (oq _ (by show q_b Γ + k ≠ q_b Γ + a; omega))
  · by_cases h : k = a
    · subst h
      exact hr j
    · show q_rg (S' k j)
      rw [hs k h]
      exact hW.2.2 k j
/-- one cell changed, of another kind -/
theorem q_Wd.updK {Γ : q_G} {w : q_W} {H H1 : Heap} {a : Nat} {K K' : q_K} (hW : q_Wd Γ w H) (hK : w.1[a]? = some K) (z1 : H1.size = H.size) (oq : ∀ q : Nat, q ≠ q_b Γ + a → H1[q]? = H[q]?)
    (e1 : va_at (q_D Γ) vwCl (q_b Γ + a, q_ent Γ K' (w.2 a)) H1) : q_Wd Γ (w.1.set a K', w.2) H1 := by
  have ha : a < w.1.length := (List.getElem?_eq_some_iff.mp hK).1
  refine ⟨by rw [z1, hW.1]; simp, fun k K2 hk => ?_, hW.2.2⟩
  by_cases h : k = a
  · subst h
    rw [show ((w.1.set k K', w.2) : q_W).1[k]? = some K' from List.getElem?_set_self ha] at hk
    cases hk
    exact e1
  · rw [show ((w.1.set a K', w.2) : q_W).1[k]? = w.1[k]? from List.getElem?_set_ne (Ne.symm h)] at hk
    exact (hW.2.1 k K2 hk).kept (oq _ (by show q_b Γ + k ≠ q_b Γ + a; omega))
/-- one cell more -/
theorem q_Wd.push {Γ : q_G} {w : q_W} {H H1 : Heap} {K : q_K} (hW : q_Wd Γ w H) (S' : q_S) (z1 : H1.size = H.size + 1) (oq : ∀ q : Nat, q < H.size → H1[q]? = H[q]?)
    (e1 : va_at (q_D Γ) vwCl (q_b Γ + w.1.length, q_ent Γ K (S' w.1.length)) H1) (hs : ∀ k, k ≠ w.1.length → S' k = w.2 k) (hr : ∀ j, q_rg (S' w.1.length j)) : q_Wd Γ (w.1 ++ [K], S') H1 := by
  refine ⟨by rw [z1, hW.1]; simp; omega, fun k K2 hk => ?_, fun k j => ?_⟩
  · by_cases h : k < w.1.length
    · rw [show ((w.1 ++ [K], S') : q_W).1[k]? = w.1[k]? from List.getElem?_append_left h] at hk
      show va_at _ _ (q_b Γ + k, q_ent Γ K2 (S' k)) H1
      rw [hs k (by omega)]
      exact (hW.2.1 k K2 hk).kept (oq _ (by have := hW.1; show q_b Γ + k < H.size; omega))
    · rw [show ((w.1 ++ [K], S') : q_W).1[k]? = [K][k - w.1.length]? from List.getElem?_append_right (by omega)] at hk
      have hz : k - w.1.length < 1 := (List.getElem?_eq_some_iff.mp hk).1
      have hk0 : k = w.1.length := by omega
      subst hk0
      rw [Nat.sub_self] at hk
      cases hk
      exact e1
  · by_cases h : k = w.1.length
    · subst h
      exact hr j
    · show q_rg (S' k j)
      rw [hs k h]
      exact hW.2.2 k j
/-! what stands outside the world: static arrays, the script, one text, words -/
def q_tab (Γ : q_G) (i : Nat) : Nat × (Nat → Int) := match i with
  | 0 => (10, fun j => [6, 4, 3, 2, 1, 1, 2, 3, 4, 6].getD j 0)
  | 1 => (10, fun j => [1, 2, 3, 4, 5, 5, 4, 3, 2, 1].getD j 0)
  | 2 => (7, fun j => [1, 5, 25, 125, 625, 3125, 15625].getD j 0)
  | _ => (q_n Γ, q_xs Γ)
def q_stn (i : Nat) : String × String := match i with
  | 0 => ("ShadowRows$Light", "SLOPE")
  | 1 => ("ShadowRows$Light", "SUN")
  | _ => ("ShadowRows$TiltSearch", "POWERS")
def q_nest (w : Cond) : Bool := match w with
  | .fieldLinkNest .. => true
  | .methodLinkNest .. => true
  | _ => false
def q_St (Γ : q_G) (s : State) : Prop := vk_R "ShadowRows$OrderReader" 46 "twabm" (q_ad Γ 4) s ∧ vk_S 1 [5] [[116, 119, 97, 98, 109]] (fun _ => q_ad Γ 4) (fun _ => q_ad Γ 5) (q_A Γ) s s.heap ∧ va_Z "java/lang/String" "COMPACT_STRINGS" "Z" (.int 1) (q_A Γ) s s.heap
def q_Cx (Γ : q_G) (s : State) : Prop := va_K (q_D Γ) vwCl (q_tys Γ) s ∧ (∀ i, i < 4 → va_T .int (q_ad Γ i) (q_tab Γ i).1 (fun j => q_i ((q_tab Γ i).2 j)) (q_A Γ) s s.heap) ∧ (∀ i, i < 3 → va_Z (q_stn i).1 (q_stn i).2 "[I" (.ref (q_ad Γ i)) (q_A Γ) s s.heap) ∧
  (∀ w, w ∈ lw_tbl → q_nest w = true → va_Nw w s) ∧ va_AO "ShadowRows$Field" s ∧ q_St Γ s
theorem q_Nw_warm {w : Cond} {s U : State} (hn : q_nest w = true) (hW : s.WarmedH U.vm) (h : va_Nw w s) : va_Nw w U := by
  cases w <;> first | exact va_Nw.warmF hW h | exact va_Nw.warmM hW h | exact absurd hn (by simp [q_nest])
theorem q_Cx.warm {Γ : q_G} {s U : State} (hW : s.WarmedH U.vm) (hq : ∀ a : Nat, a < s.heap.size → ¬ q_A Γ a → U.heap[a]? = s.heap[a]?) (h : q_Cx Γ s) : q_Cx Γ U := by
  obtain ⟨h1, h2, h3, h4, h5, h6, h7, h8⟩ := h
  exact ⟨va_K.moved hW.alike h1, fun i hi => ((h2 i hi).moved hW.alike).kept hq, fun i hi => ((h3 i hi).moved hW.alike).kept hq, fun w hw hn => q_Nw_warm hn hW (h4 w hw hn), h5.moved hW.alike, h6.warm hW, (h7.moved hW.alike).kept hq, (h8.moved hW.alike).kept hq⟩
/-- a method: its name, code, locals, answer -/
abbrev q_M : Type := MethodName × ByteArray × Nat × Option FieldType
def q_words : List Cond := lw_tbl.filter goodWord
def q_ws (M : q_M) : List Cond := .code M.1 M.2.1 M.2.2.1 M.2.2.2 :: q_words
def q_QC (Γ : q_G) (M : q_M) (d : Nat) (p : Program) (s : State) (m : MethodId) (args : Array Value) (meth : Method) (c : Code) (R : Room) : Prop :=
  p.tables.exec = Jvm.exec ∧ c.code = M.2.1 ∧ c.maxLocals = M.2.2.1 ∧ s.vm.findClass M.1.cls = some m.cls ∧ meth.name = M.1.name ∧ meth.sig.returnType = M.2.2.2 ∧ meth.locks = false ∧ (∀ w ∈ q_words, w.before args s = true) ∧ q_Cx Γ s ∧ q_b Γ ≤ s.heap.size ∧ d ≤ R.frames ∧ 40 * d ≤ R.locals
/-- where a method returns, and with what -/
def q_Rt (M : q_M) (pc : Nat) (v : Option Value) : Prop := match v with
  | none => decode M.2.1 pc = .ok (.return_, 1) ∧ M.2.2.2 = none
  | some (.int x) => decode M.2.1 pc = .ok (.ireturn, 1) ∧ ∃ ty, M.2.2.2 = some ty ∧ narrow ty (.int x) = .int x
  | some (.ref _) => decode M.2.1 pc = .ok (.areturn, 1) ∧ ∃ n, M.2.2.2 = some (.object n)
  | _ => False
def q_Go (Γ : q_G) (M : q_M) (d bc bs pc : Nat) (L : List (Nat × Value)) (st : List Value) (w : q_W) (Q : Option Value → q_W → Prop) : Prop :=
  ∀ (p : Program) (e : Env) (R : Room) (s : State) (m : MethodId) (args : Array Value) (below : List Frame) (meth : Method) (c : Code) (H : Heap) (locs : List Loc) (cells slots : Nat) (Z : State → Prop) (ls : Array Slot),
    q_QC Γ M d p s m args meth c R → cells + bc ≤ R.cells → slots + bs ≤ R.slots → q_Wd Γ w H → va_S (q_A Γ) s.heap H locs → lv_has ls M.2.2.1 L →
    (∀ (v : Option Value) (pc' : Nat) (w' : q_W) (H' : Heap) (locs' : List Loc) (cells' slots' : Nat) (ls' : Array Slot), cells' ≤ cells + bc → slots' ≤ slots + bs → q_Wd Γ w' H' → va_S (q_A Γ) s.heap H' locs' → Q v w' → q_Rt M pc' v →
      W p (q_l Γ) e R s m args below meth c H' locs' cells' slots' Z (F0 m pc' ls' v.toList)) →
    W p (q_l Γ) e R s m args below meth c H locs cells slots Z (F0 m pc ls st)
end
section
/-! one rule an instruction -/
theorem q_pure {Γ : q_G} {M : q_M} {d bc bs pc pc' : Nat} {L : List (Nat × Value)} {st st' : List Value} {w : q_W} {Q : Option Value → q_W → Prop}
    (h : ∀ (p : Program) (e : Env) (R : Room) (s : State) (m : MethodId) (args : Array Value) (below : List Frame) (meth : Method) (c : Code) (H : Heap) (locs : List Loc) (cells slots : Nat) (Z : State → Prop) (ls : Array Slot),
      q_QC Γ M d p s m args meth c R → lv_has ls M.2.2.1 L → cells ≤ R.cells → slots ≤ R.slots → W p (q_l Γ) e R s m args below meth c H locs cells slots Z (F0 m pc' ls st') → W p (q_l Γ) e R s m args below meth c H locs cells slots Z (F0 m pc ls st))
    (k : q_Go Γ M d bc bs pc' L st' w Q) : q_Go Γ M d bc bs pc L st w Q :=
  fun p e R s m args below meth c H locs cells slots Z ls C hc hs hW hS hl hr => h p e R s m args below meth c H locs cells slots Z ls C hl (by omega) (by omega) (k p e R s m args below meth c H locs cells slots Z ls C hc hs hW hS hl hr)

theorem q_iconst {Γ : q_G} {M : q_M} {d bc bs pc pc' : Nat} {L : List (Nat × Value)} {st : List Value} {w : q_W} {Q : Option Value → q_W → Prop} {n : Int} (hd : decode M.2.1 pc = .ok (.iconst n, 1)) (hp : pc + 1 = pc') (k : q_Go Γ M d bc bs pc' L (q_i n :: st) w Q) : q_Go Γ M d bc bs pc L (st) w Q := by
  subst hp
  exact q_pure (fun p e R s m args below meth c H locs cells slots Z ls C hl hcc hss h => lv_iconst C.1 C.2.1 hd rfl h) k

theorem q_bipush {Γ : q_G} {M : q_M} {d bc bs pc pc' : Nat} {L : List (Nat × Value)} {st : List Value} {w : q_W} {Q : Option Value → q_W → Prop} {n : Int} (hd : decode M.2.1 pc = .ok (.bipush n, 2)) (hp : pc + 2 = pc') (hn : (Int8.ofInt n).toInt32 = Int32.ofInt n) (k : q_Go Γ M d bc bs pc' L (q_i n :: st) w Q) : q_Go Γ M d bc bs pc L (st) w Q := by
  subst hp
  exact q_pure (fun p e R s m args below meth c H locs cells slots Z ls C hl hcc hss h => lv_bipush C.1 C.2.1 hd hn h) k

theorem q_sipush {Γ : q_G} {M : q_M} {d bc bs pc pc' : Nat} {L : List (Nat × Value)} {st : List Value} {w : q_W} {Q : Option Value → q_W → Prop} {n : Int} (hd : decode M.2.1 pc = .ok (.sipush n, 3)) (hp : pc + 3 = pc') (hn : (Int16.ofInt n).toInt32 = Int32.ofInt n) (k : q_Go Γ M d bc bs pc' L (q_i n :: st) w Q) : q_Go Γ M d bc bs pc L (st) w Q := by
  subst hp
  exact q_pure (fun p e R s m args below meth c H locs cells slots Z ls C hl hcc hss h => lv_sipush C.1 C.2.1 hd hn h) k

theorem q_ldc {Γ : q_G} {M : q_M} {d bc bs pc pc' : Nat} {L : List (Nat × Value)} {st : List Value} {w : q_W} {Q : Option Value → q_W → Prop} {i : Nat} {n : Int} (hd : decode M.2.1 pc = .ok (.ldc i, 2)) (hp : pc + 2 = pc') (hn : Cond.constant M.1.cls i (Int32.ofInt n) ∈ q_words) (k : q_Go Γ M d bc bs pc' L (q_i n :: st) w Q) : q_Go Γ M d bc bs pc L (st) w Q := by
  subst hp
  exact q_pure (fun p e R s m args below meth c H locs cells slots Z ls C hl hcc hss h => lv_ldc C.1 C.2.1 C.2.2.2.1 (C.2.2.2.2.2.2.2.1 _ hn) hd h) k

theorem q_ldc2 {Γ : q_G} {M : q_M} {d bc bs pc pc' : Nat} {L : List (Nat × Value)} {st : List Value} {w : q_W} {Q : Option Value → q_W → Prop} {i : Nat} {n : Int64} (hd : decode M.2.1 pc = .ok (.ldc2_w i, 3)) (hp : pc + 3 = pc') (hn : Cond.constantLong M.1.cls i n ∈ q_words) (k : q_Go Γ M d bc bs pc' L (.long n :: st) w Q) : q_Go Γ M d bc bs pc L (st) w Q := by
  subst hp
  exact q_pure (fun p e R s m args below meth c H locs cells slots Z ls C hl hcc hss h => lv_ldc2 C.1 C.2.1 C.2.2.2.1 (C.2.2.2.2.2.2.2.1 _ hn) hd h) k

theorem q_lconst {Γ : q_G} {M : q_M} {d bc bs pc pc' : Nat} {L : List (Nat × Value)} {st : List Value} {w : q_W} {Q : Option Value → q_W → Prop} {n : Fin 2} {x : Int64} (hd : decode M.2.1 pc = .ok (.lconst n, 1)) (hp : pc + 1 = pc') (hn : Int64.ofNat (n : Nat) = x) (k : q_Go Γ M d bc bs pc' L (.long x :: st) w Q) : q_Go Γ M d bc bs pc L (st) w Q := by
  subst hp
  exact q_pure (fun p e R s m args below meth c H locs cells slots Z ls C hl hcc hss h => lv_lconst C.1 C.2.1 hd hn h) k

theorem q_iloadn {Γ : q_G} {M : q_M} {d bc bs pc pc' : Nat} {L : List (Nat × Value)} {st : List Value} {w : q_W} {Q : Option Value → q_W → Prop} {i : Fin 4} {z : Int} (j : Nat) (hd : decode M.2.1 pc = .ok (.iload_n i, 1)) (hp : pc + 1 = pc') (hj : L[j]? = some ((i : Nat), q_i z)) (k : q_Go Γ M d bc bs pc' L (q_i z :: st) w Q) : q_Go Γ M d bc bs pc L (st) w Q := by
  subst hp
  exact q_pure (fun p e R s m args below meth c H locs cells slots Z ls C hl hcc hss h => lv_iload_n C.1 C.2.1 hd rfl (lv_at hl j hj) h) k

theorem q_iload {Γ : q_G} {M : q_M} {d bc bs pc pc' : Nat} {L : List (Nat × Value)} {st : List Value} {w : q_W} {Q : Option Value → q_W → Prop} {i : Nat} {z : Int} (j : Nat) (hd : decode M.2.1 pc = .ok (.iload i, 2)) (hp : pc + 2 = pc') (hj : L[j]? = some (i, q_i z)) (k : q_Go Γ M d bc bs pc' L (q_i z :: st) w Q) : q_Go Γ M d bc bs pc L (st) w Q := by
  subst hp
  exact q_pure (fun p e R s m args below meth c H locs cells slots Z ls C hl hcc hss h => lv_iload C.1 C.2.1 hd (lv_at hl j hj) h) k

theorem q_lloadn {Γ : q_G} {M : q_M} {d bc bs pc pc' : Nat} {L : List (Nat × Value)} {st : List Value} {w : q_W} {Q : Option Value → q_W → Prop} {i : Fin 4} {z : Int64} (j : Nat) (hd : decode M.2.1 pc = .ok (.lload_n i, 1)) (hp : pc + 1 = pc') (hj : L[j]? = some ((i : Nat), .long z)) (k : q_Go Γ M d bc bs pc' L (.long z :: st) w Q) : q_Go Γ M d bc bs pc L (st) w Q := by
  subst hp
  exact q_pure (fun p e R s m args below meth c H locs cells slots Z ls C hl hcc hss h => lv_lload_n C.1 C.2.1 hd rfl (lv_at hl j hj) h) k

theorem q_lload {Γ : q_G} {M : q_M} {d bc bs pc pc' : Nat} {L : List (Nat × Value)} {st : List Value} {w : q_W} {Q : Option Value → q_W → Prop} {i : Nat} {z : Int64} (j : Nat) (hd : decode M.2.1 pc = .ok (.lload i, 2)) (hp : pc + 2 = pc') (hj : L[j]? = some (i, .long z)) (k : q_Go Γ M d bc bs pc' L (.long z :: st) w Q) : q_Go Γ M d bc bs pc L (st) w Q := by
  subst hp
  exact q_pure (fun p e R s m args below meth c H locs cells slots Z ls C hl hcc hss h => lv_lload C.1 C.2.1 hd (lv_at hl j hj) h) k

theorem q_aloadn {Γ : q_G} {M : q_M} {d bc bs pc pc' : Nat} {L : List (Nat × Value)} {st : List Value} {w : q_W} {Q : Option Value → q_W → Prop} {i : Fin 4} {z : Nat} (j : Nat) (hd : decode M.2.1 pc = .ok (.aload_n i, 1)) (hp : pc + 1 = pc') (hj : L[j]? = some ((i : Nat), .ref z)) (k : q_Go Γ M d bc bs pc' L (.ref z :: st) w Q) : q_Go Γ M d bc bs pc L (st) w Q := by
  subst hp
  exact q_pure (fun p e R s m args below meth c H locs cells slots Z ls C hl hcc hss h => lv_aload_n C.1 C.2.1 hd rfl (lv_at hl j hj) h) k

theorem q_aload {Γ : q_G} {M : q_M} {d bc bs pc pc' : Nat} {L : List (Nat × Value)} {st : List Value} {w : q_W} {Q : Option Value → q_W → Prop} {i : Nat} {z : Nat} (j : Nat) (hd : decode M.2.1 pc = .ok (.aload i, 2)) (hp : pc + 2 = pc') (hj : L[j]? = some (i, .ref z)) (k : q_Go Γ M d bc bs pc' L (.ref z :: st) w Q) : q_Go Γ M d bc bs pc L (st) w Q := by
  subst hp
  exact q_pure (fun p e R s m args below meth c H locs cells slots Z ls C hl hcc hss h => lv_aload C.1 C.2.1 hd (lv_at hl j hj) h) k

theorem q_iadd {Γ : q_G} {M : q_M} {d bc bs pc pc' : Nat} {L : List (Nat × Value)} {st : List Value} {w : q_W} {Q : Option Value → q_W → Prop} {a b : Int} (hd : decode M.2.1 pc = .ok (.iadd, 1)) (hp : pc + 1 = pc') (k : q_Go Γ M d bc bs pc' L (q_i (a + b) :: st) w Q) : q_Go Γ M d bc bs pc L (q_i b :: q_i a :: st) w Q := by
  subst hp
  exact q_pure (fun p e R s m args below meth c H locs cells slots Z ls C hl hcc hss h => lv_iadd C.1 C.2.1 hd (by rw [← Int32.ofInt_add]; exact h)) k

theorem q_isub {Γ : q_G} {M : q_M} {d bc bs pc pc' : Nat} {L : List (Nat × Value)} {st : List Value} {w : q_W} {Q : Option Value → q_W → Prop} {a b : Int} (hd : decode M.2.1 pc = .ok (.isub, 1)) (hp : pc + 1 = pc') (k : q_Go Γ M d bc bs pc' L (q_i (a - b) :: st) w Q) : q_Go Γ M d bc bs pc L (q_i b :: q_i a :: st) w Q := by
  subst hp
  exact q_pure (fun p e R s m args below meth c H locs cells slots Z ls C hl hcc hss h => lv_isub C.1 C.2.1 hd (by rw [← Int32.ofInt_sub]; exact h)) k

theorem q_imul {Γ : q_G} {M : q_M} {d bc bs pc pc' : Nat} {L : List (Nat × Value)} {st : List Value} {w : q_W} {Q : Option Value → q_W → Prop} {a b : Int} (hd : decode M.2.1 pc = .ok (.imul, 1)) (hp : pc + 1 = pc') (k : q_Go Γ M d bc bs pc' L (q_i (a * b) :: st) w Q) : q_Go Γ M d bc bs pc L (q_i b :: q_i a :: st) w Q := by
  subst hp
  exact q_pure (fun p e R s m args below meth c H locs cells slots Z ls C hl hcc hss h => lv_imul C.1 C.2.1 hd (by rw [← Int32.ofInt_mul]; exact h)) k

theorem q_ineg {Γ : q_G} {M : q_M} {d bc bs pc pc' : Nat} {L : List (Nat × Value)} {st : List Value} {w : q_W} {Q : Option Value → q_W → Prop} {a : Int} (hd : decode M.2.1 pc = .ok (.ineg, 1)) (hp : pc + 1 = pc') (k : q_Go Γ M d bc bs pc' L (q_i (-a) :: st) w Q) : q_Go Γ M d bc bs pc L (q_i a :: st) w Q := by
  subst hp
  exact q_pure (fun p e R s m args below meth c H locs cells slots Z ls C hl hcc hss h => lv_ineg C.1 C.2.1 hd (by rw [← Int32.ofInt_neg]; exact h)) k

theorem q_div {a b : Int} (ha0 : 0 ≤ a) (ha : a ≤ 2147483647) (hb0 : 0 < b) (hb : b ≤ 2147483647) : Int32.ofInt a / Int32.ofInt b = Int32.ofInt (a / b) := by
  have h1 : a / b ≤ a := Int.ediv_le_self b ha0
  have h2 : 0 ≤ a / b := Int.ediv_nonneg ha0 (by omega)
  have hne : Int32.ofInt b ≠ -1 := by
    intro h
    have := congrArg Int32.toInt h
    rw [q_ti ⟨by omega, hb⟩] at this
    have e : (-1 : Int32).toInt = -1 := by decide
    omega
  rw [← Int32.toInt_inj, Int32.toInt_div_of_ne_right _ _ hne, q_ti ⟨by omega, ha⟩, q_ti ⟨by omega, hb⟩, q_ti ⟨by omega, by omega⟩, Int.tdiv_eq_ediv_of_nonneg ha0]
theorem q_nz {b : Int} (hb0 : 0 < b) (hb : b ≤ 2147483647) : ¬ Int32.ofInt b = 0 := by
  rw [q_0, q_eq ⟨by omega, hb⟩ q_rg0]
  omega

theorem q_idiv {Γ : q_G} {M : q_M} {d bc bs pc pc' : Nat} {L : List (Nat × Value)} {st : List Value} {w : q_W} {Q : Option Value → q_W → Prop} {a b : Int} (hd : decode M.2.1 pc = .ok (.idiv, 1)) (hp : pc + 1 = pc') (ha0 : 0 ≤ a) (ha : a ≤ 2147483647) (hb0 : 0 < b) (hb : b ≤ 2147483647) (k : q_Go Γ M d bc bs pc' L (q_i (a / b) :: st) w Q) : q_Go Γ M d bc bs pc L (q_i b :: q_i a :: st) w Q := by
  subst hp
  exact q_pure (fun p e R s m args below meth c H locs cells slots Z ls C hl hcc hss h => lv_idiv C.1 C.2.1 hd (q_nz hb0 hb) (by rw [q_div ha0 ha hb0 hb]; exact h)) k

theorem q_irem {Γ : q_G} {M : q_M} {d bc bs pc pc' : Nat} {L : List (Nat × Value)} {st : List Value} {w : q_W} {Q : Option Value → q_W → Prop} {a b : Int} (hd : decode M.2.1 pc = .ok (.irem, 1)) (hp : pc + 1 = pc') (ha0 : 0 ≤ a) (ha : a ≤ 2147483647) (hb0 : 0 < b) (hb : b ≤ 2147483647) (k : q_Go Γ M d bc bs pc' L (q_i (a % b) :: st) w Q) : q_Go Γ M d bc bs pc L (q_i b :: q_i a :: st) w Q := by
  subst hp
  exact q_pure (fun p e R s m args below meth c H locs cells slots Z ls C hl hcc hss h => lv_irem C.1 C.2.1 hd (q_nz hb0 hb) (by rw [q_div ha0 ha hb0 hb, ← Int32.ofInt_mul, ← Int32.ofInt_sub, show a - a / b * b = a % b by rw [Int.emod_def, Int.mul_comm]]; exact h)) k

theorem q_ishl {Γ : q_G} {M : q_M} {d bc bs pc pc' : Nat} {L : List (Nat × Value)} {st : List Value} {w : q_W} {Q : Option Value → q_W → Prop} {x y : Int32} {z : Int} (hd : decode M.2.1 pc = .ok (.ishl, 1)) (hp : pc + 1 = pc') (hz : x <<< (y &&& 31) = Int32.ofInt z) (k : q_Go Γ M d bc bs pc' L (q_i z :: st) w Q) : q_Go Γ M d bc bs pc L (.int y :: .int x :: st) w Q := by
  subst hp
  exact q_pure (fun p e R s m args below meth c H locs cells slots Z ls C hl hcc hss h => lv_ishl C.1 C.2.1 hd (by rw [hz]; exact h)) k

theorem q_ishr {Γ : q_G} {M : q_M} {d bc bs pc pc' : Nat} {L : List (Nat × Value)} {st : List Value} {w : q_W} {Q : Option Value → q_W → Prop} {x y : Int32} {z : Int} (hd : decode M.2.1 pc = .ok (.ishr, 1)) (hp : pc + 1 = pc') (hz : x >>> (y &&& 31) = Int32.ofInt z) (k : q_Go Γ M d bc bs pc' L (q_i z :: st) w Q) : q_Go Γ M d bc bs pc L (.int y :: .int x :: st) w Q := by
  subst hp
  exact q_pure (fun p e R s m args below meth c H locs cells slots Z ls C hl hcc hss h => lv_ishr C.1 C.2.1 hd (by rw [hz]; exact h)) k

theorem q_iand {Γ : q_G} {M : q_M} {d bc bs pc pc' : Nat} {L : List (Nat × Value)} {st : List Value} {w : q_W} {Q : Option Value → q_W → Prop} {x y : Int32} {z : Int} (hd : decode M.2.1 pc = .ok (.iand, 1)) (hp : pc + 1 = pc') (hz : x &&& y = Int32.ofInt z) (k : q_Go Γ M d bc bs pc' L (q_i z :: st) w Q) : q_Go Γ M d bc bs pc L (.int y :: .int x :: st) w Q := by
  subst hp
  exact q_pure (fun p e R s m args below meth c H locs cells slots Z ls C hl hcc hss h => lv_iand C.1 C.2.1 hd (by rw [hz]; exact h)) k

theorem q_ior {Γ : q_G} {M : q_M} {d bc bs pc pc' : Nat} {L : List (Nat × Value)} {st : List Value} {w : q_W} {Q : Option Value → q_W → Prop} {x y : Int32} {z : Int} (hd : decode M.2.1 pc = .ok (.ior, 1)) (hp : pc + 1 = pc') (hz : x ||| y = Int32.ofInt z) (k : q_Go Γ M d bc bs pc' L (q_i z :: st) w Q) : q_Go Γ M d bc bs pc L (.int y :: .int x :: st) w Q := by
  subst hp
  exact q_pure (fun p e R s m args below meth c H locs cells slots Z ls C hl hcc hss h => lv_ior C.1 C.2.1 hd (by rw [hz]; exact h)) k

theorem q_iushr {Γ : q_G} {M : q_M} {d bc bs pc pc' : Nat} {L : List (Nat × Value)} {st : List Value} {w : q_W} {Q : Option Value → q_W → Prop} {x y : Int32} {z : Int} (hd : decode M.2.1 pc = .ok (.iushr, 1)) (hp : pc + 1 = pc') (hz : (x.toUInt32 >>> (y.toUInt32 &&& Int32.toUInt32 31)).toInt32 = Int32.ofInt z) (k : q_Go Γ M d bc bs pc' L (q_i z :: st) w Q) : q_Go Γ M d bc bs pc L (.int y :: .int x :: st) w Q := by
  subst hp
  exact q_pure (fun p e R s m args below meth c H locs cells slots Z ls C hl hcc hss h => lv_iushr C.1 C.2.1 hd hz h) k

theorem q_i2c {Γ : q_G} {M : q_M} {d bc bs pc pc' : Nat} {L : List (Nat × Value)} {st : List Value} {w : q_W} {Q : Option Value → q_W → Prop} {x : Int32} {z : Int} (hd : decode M.2.1 pc = .ok (.i2c, 1)) (hp : pc + 1 = pc') (hz : (x.toUInt32 % 65536).toInt32 = Int32.ofInt z) (k : q_Go Γ M d bc bs pc' L (q_i z :: st) w Q) : q_Go Γ M d bc bs pc L (.int x :: st) w Q := by
  subst hp
  exact q_pure (fun p e R s m args below meth c H locs cells slots Z ls C hl hcc hss h => lv_i2c C.1 C.2.1 hd hz h) k

theorem q_i2b {Γ : q_G} {M : q_M} {d bc bs pc pc' : Nat} {L : List (Nat × Value)} {st : List Value} {w : q_W} {Q : Option Value → q_W → Prop} {x : Int32} {z : Int} (hd : decode M.2.1 pc = .ok (.i2b, 1)) (hp : pc + 1 = pc') (hz : x.toInt8.toInt32 = Int32.ofInt z) (k : q_Go Γ M d bc bs pc' L (q_i z :: st) w Q) : q_Go Γ M d bc bs pc L (.int x :: st) w Q := by
  subst hp
  exact q_pure (fun p e R s m args below meth c H locs cells slots Z ls C hl hcc hss h => lv_i2b C.1 C.2.1 hd hz h) k

theorem q_i2l {Γ : q_G} {M : q_M} {d bc bs pc pc' : Nat} {L : List (Nat × Value)} {st : List Value} {w : q_W} {Q : Option Value → q_W → Prop} {x : Int32} {z : Int64} (hd : decode M.2.1 pc = .ok (.i2l, 1)) (hp : pc + 1 = pc') (hz : x.toInt64 = z) (k : q_Go Γ M d bc bs pc' L (.long z :: st) w Q) : q_Go Γ M d bc bs pc L (.int x :: st) w Q := by
  subst hp
  exact q_pure (fun p e R s m args below meth c H locs cells slots Z ls C hl hcc hss h => lv_i2l C.1 C.2.1 hd hz h) k

theorem q_l2i {Γ : q_G} {M : q_M} {d bc bs pc pc' : Nat} {L : List (Nat × Value)} {st : List Value} {w : q_W} {Q : Option Value → q_W → Prop} {x : Int64} {z : Int} (hd : decode M.2.1 pc = .ok (.l2i, 1)) (hp : pc + 1 = pc') (hz : x.toInt32 = Int32.ofInt z) (k : q_Go Γ M d bc bs pc' L (q_i z :: st) w Q) : q_Go Γ M d bc bs pc L (.long x :: st) w Q := by
  subst hp
  exact q_pure (fun p e R s m args below meth c H locs cells slots Z ls C hl hcc hss h => lv_l2i C.1 C.2.1 hd hz h) k

theorem q_land {Γ : q_G} {M : q_M} {d bc bs pc pc' : Nat} {L : List (Nat × Value)} {st : List Value} {w : q_W} {Q : Option Value → q_W → Prop} {x y : Int64} (hd : decode M.2.1 pc = .ok (.land, 1)) (hp : pc + 1 = pc') (k : q_Go Γ M d bc bs pc' L (.long (x &&& y) :: st) w Q) : q_Go Γ M d bc bs pc L (.long y :: .long x :: st) w Q := by
  subst hp
  exact q_pure (fun p e R s m args below meth c H locs cells slots Z ls C hl hcc hss h => lv_land C.1 C.2.1 hd h) k

theorem q_lor {Γ : q_G} {M : q_M} {d bc bs pc pc' : Nat} {L : List (Nat × Value)} {st : List Value} {w : q_W} {Q : Option Value → q_W → Prop} {x y : Int64} (hd : decode M.2.1 pc = .ok (.lor, 1)) (hp : pc + 1 = pc') (k : q_Go Γ M d bc bs pc' L (.long (x ||| y) :: st) w Q) : q_Go Γ M d bc bs pc L (.long y :: .long x :: st) w Q := by
  subst hp
  exact q_pure (fun p e R s m args below meth c H locs cells slots Z ls C hl hcc hss h => lv_lor C.1 C.2.1 hd h) k

theorem q_lshl {Γ : q_G} {M : q_M} {d bc bs pc pc' : Nat} {L : List (Nat × Value)} {st : List Value} {w : q_W} {Q : Option Value → q_W → Prop} {x z : Int64} {y : Int32} (hd : decode M.2.1 pc = .ok (.lshl, 1)) (hp : pc + 1 = pc') (hz : x <<< (y.toInt64 &&& 63) = z) (k : q_Go Γ M d bc bs pc' L (.long z :: st) w Q) : q_Go Γ M d bc bs pc L (.int y :: .long x :: st) w Q := by
  subst hp
  exact q_pure (fun p e R s m args below meth c H locs cells slots Z ls C hl hcc hss h => lv_lshl C.1 C.2.1 hd hz h) k

theorem q_lushr {Γ : q_G} {M : q_M} {d bc bs pc pc' : Nat} {L : List (Nat × Value)} {st : List Value} {w : q_W} {Q : Option Value → q_W → Prop} {x z : Int64} {y : Int32} (hd : decode M.2.1 pc = .ok (.lushr, 1)) (hp : pc + 1 = pc') (hz : (x.toUInt64 >>> (y.toInt64.toUInt64 &&& Int64.toUInt64 63)).toInt64 = z) (k : q_Go Γ M d bc bs pc' L (.long z :: st) w Q) : q_Go Γ M d bc bs pc L (.int y :: .long x :: st) w Q := by
  subst hp
  exact q_pure (fun p e R s m args below meth c H locs cells slots Z ls C hl hcc hss h => lv_lushr C.1 C.2.1 hd hz h) k

theorem q_lcmp {Γ : q_G} {M : q_M} {d bc bs pc pc' : Nat} {L : List (Nat × Value)} {st : List Value} {w : q_W} {Q : Option Value → q_W → Prop} {x y : Int64} {z : Int} (hd : decode M.2.1 pc = .ok (.lcmp, 1)) (hp : pc + 1 = pc') (hz : lg_cmp x y = Int32.ofInt z) (k : q_Go Γ M d bc bs pc' L (q_i z :: st) w Q) : q_Go Γ M d bc bs pc L (.long y :: .long x :: st) w Q := by
  subst hp
  exact q_pure (fun p e R s m args below meth c H locs cells slots Z ls C hl hcc hss h => W.lcmp C.1 C.2.1 hd (by rw [hz]; exact h)) k

theorem q_dup {Γ : q_G} {M : q_M} {d bc bs pc pc' : Nat} {L : List (Nat × Value)} {st : List Value} {w : q_W} {Q : Option Value → q_W → Prop} {v : Value} (hd : decode M.2.1 pc = .ok (.dup, 1)) (hp : pc + 1 = pc') (hv : v.category = 1) (k : q_Go Γ M d bc bs pc' L (v :: v :: st) w Q) : q_Go Γ M d bc bs pc L (v :: st) w Q := by
  subst hp
  exact q_pure (fun p e R s m args below meth c H locs cells slots Z ls C hl hcc hss h => lv_dup C.1 C.2.1 hd hv h) k

theorem q_dup2 {Γ : q_G} {M : q_M} {d bc bs pc pc' : Nat} {L : List (Nat × Value)} {st : List Value} {w : q_W} {Q : Option Value → q_W → Prop} {v u : Value} (hd : decode M.2.1 pc = .ok (.dup2, 1)) (hp : pc + 1 = pc') (hv : v.category = 1) (hu : u.category = 1) (k : q_Go Γ M d bc bs pc' L (v :: u :: v :: u :: st) w Q) : q_Go Γ M d bc bs pc L (v :: u :: st) w Q := by
  subst hp
  exact q_pure (fun p e R s m args below meth c H locs cells slots Z ls C hl hcc hss h => lv_dup2_11 C.1 C.2.1 hd hv hu h) k

theorem q_pop {Γ : q_G} {M : q_M} {d bc bs pc pc' : Nat} {L : List (Nat × Value)} {st : List Value} {w : q_W} {Q : Option Value → q_W → Prop} {v : Value} (hd : decode M.2.1 pc = .ok (.pop, 1)) (hp : pc + 1 = pc') (hv : v.category = 1) (k : q_Go Γ M d bc bs pc' L (st) w Q) : q_Go Γ M d bc bs pc L (v :: st) w Q := by
  subst hp
  exact q_pure (fun p e R s m args below meth c H locs cells slots Z ls C hl hcc hss h => lv_pop C.1 C.2.1 hd hv h) k

theorem q_null {Γ : q_G} {M : q_M} {d bc bs pc pc' : Nat} {L : List (Nat × Value)} {st : List Value} {w : q_W} {Q : Option Value → q_W → Prop}  (hd : decode M.2.1 pc = .ok (.aconst_null, 1)) (hp : pc + 1 = pc') (k : q_Go Γ M d bc bs pc' L (.null :: st) w Q) : q_Go Γ M d bc bs pc L (st) w Q := by
  subst hp
  exact q_pure (fun p e R s m args below meth c H locs cells slots Z ls C hl hcc hss h => lv_null C.1 C.2.1 hd h) k

theorem q_goto {Γ : q_G} {M : q_M} {d bc bs pc pc' : Nat} {L : List (Nat × Value)} {st : List Value} {w : q_W} {Q : Option Value → q_W → Prop} {off : Int} (hd : decode M.2.1 pc = .ok (.goto off, 3)) (ht : (pc : Int) + off = (pc' : Int)) (k : q_Go Γ M d bc bs pc' L (st) w Q) : q_Go Γ M d bc bs pc L (st) w Q :=
  q_pure (fun p e R s m args below meth c H locs cells slots Z ls C hl hcc hss h => lv_goto C.1 C.2.1 hd ht h) k
/-- another name for the place, the locals or the stack -/
theorem q_eqs {Γ : q_G} {M : q_M} {d bc bs pc pc' : Nat} {L : List (Nat × Value)} {st : List Value} {w : q_W} {Q : Option Value → q_W → Prop} {L' : List (Nat × Value)} {st' : List Value} (hp : pc = pc') (hL : L = L') (hs : st = st') (k : q_Go Γ M d bc bs pc' L' st' w Q) : q_Go Γ M d bc bs pc L (st) w Q := by
  subst hp; subst hL; subst hs; exact k
/-- fewer locals, in another order: by their places -/
theorem q_sub {Γ : q_G} {M : q_M} {d bc bs pc pc' : Nat} {L : List (Nat × Value)} {st : List Value} {w : q_W} {Q : Option Value → q_W → Prop} {L' : List (Nat × Value)} (ks : List Nat) (hL : lv_pick L ks = L') (k : q_Go Γ M d bc bs pc L' st w Q) : q_Go Γ M d bc bs pc L (st) w Q :=
  fun p e R s m args below meth c H locs cells slots Z ls C hc hs hW hS hl hr => k p e R s m args below meth c H locs cells slots Z ls C hc hs hW hS (lv_sub hl ks hL) hr
/-- what the world's numbers are is in range -/
theorem q_rng {Γ : q_G} {M : q_M} {d bc bs pc pc' : Nat} {L : List (Nat × Value)} {st : List Value} {w : q_W} {Q : Option Value → q_W → Prop} (k : (∀ a j, q_rg (w.2 a j)) → q_Go Γ M d bc bs pc L (st) w Q) : q_Go Γ M d bc bs pc L (st) w Q :=
  fun p e R s m args below meth c H locs cells slots Z ls C hc hs hW hS hl hr => k hW.2.2 p e R s m args below meth c H locs cells slots Z ls C hc hs hW hS hl hr
theorem q_mono {Γ : q_G} {M : q_M} {d bc bs pc pc' : Nat} {L : List (Nat × Value)} {st : List Value} {w : q_W} {Q : Option Value → q_W → Prop} {Q' : Option Value → q_W → Prop} (hQ : ∀ v w', Q' v w' → Q v w') (k : q_Go Γ M d bc bs pc L st w Q') : q_Go Γ M d bc bs pc L (st) w Q :=
  fun p e R s m args below meth c H locs cells slots Z ls C hc hs hW hS hl hr => k p e R s m args below meth c H locs cells slots Z ls C hc hs hW hS hl (fun v pc' w' H' locs' cells' slots' ls' a1 a2 a3 a4 a5 a6 => hr v pc' w' H' locs' cells' slots' ls' a1 a2 a3 a4 (hQ v w' a5) a6)

theorem q_icmp_eq {Γ : q_G} {M : q_M} {d bc bs pc pc' : Nat} {L : List (Nat × Value)} {st : List Value} {w : q_W} {Q : Option Value → q_W → Prop} {a b off : Int} {tgt : Nat} (hd : decode M.2.1 pc = .ok (.if_icmp .eq off, 3)) (ht : (pc : Int) + off = (tgt : Int)) (hp : pc + 3 = pc') (ra : q_rg a) (rb : q_rg b) (kt : a = b → q_Go Γ M d bc bs tgt L (st) w Q) (kf : ¬ a = b → q_Go Γ M d bc bs pc' L (st) w Q) : q_Go Γ M d bc bs pc L (q_i b :: q_i a :: st) w Q := by
  subst hp
  exact fun p e R s m args below meth c H locs cells slots Z ls C hc hs hW hS hl hr => lv_icmp_eq C.1 C.2.1 hd ht (fun c0 => kt ((q_eq ra rb).mp c0) p e R s m args below meth c H locs cells slots Z ls C hc hs hW hS hl hr) (fun c0 => kf (fun h => c0 ((q_eq ra rb).mpr h)) p e R s m args below meth c H locs cells slots Z ls C hc hs hW hS hl hr)

theorem q_if_eq {Γ : q_G} {M : q_M} {d bc bs pc pc' : Nat} {L : List (Nat × Value)} {st : List Value} {w : q_W} {Q : Option Value → q_W → Prop} {a off : Int} {tgt : Nat} (hd : decode M.2.1 pc = .ok (.ifCond .eq off, 3)) (ht : (pc : Int) + off = (tgt : Int)) (hp : pc + 3 = pc') (ra : q_rg a) (kt : a = 0 → q_Go Γ M d bc bs tgt L (st) w Q) (kf : ¬ a = 0 → q_Go Γ M d bc bs pc' L (st) w Q) : q_Go Γ M d bc bs pc L (q_i a :: st) w Q := by
  subst hp
  have rb := q_rg0
  exact fun p e R s m args below meth c H locs cells slots Z ls C hc hs hW hS hl hr => lv_if_eq C.1 C.2.1 hd ht (fun c0 => kt ((q_eq ra rb).mp c0) p e R s m args below meth c H locs cells slots Z ls C hc hs hW hS hl hr) (fun c0 => kf (fun h => c0 ((q_eq ra rb).mpr h)) p e R s m args below meth c H locs cells slots Z ls C hc hs hW hS hl hr)

theorem q_icmp_ne {Γ : q_G} {M : q_M} {d bc bs pc pc' : Nat} {L : List (Nat × Value)} {st : List Value} {w : q_W} {Q : Option Value → q_W → Prop} {a b off : Int} {tgt : Nat} (hd : decode M.2.1 pc = .ok (.if_icmp .ne off, 3)) (ht : (pc : Int) + off = (tgt : Int)) (hp : pc + 3 = pc') (ra : q_rg a) (rb : q_rg b) (kt : ¬ a = b → q_Go Γ M d bc bs tgt L (st) w Q) (kf : a = b → q_Go Γ M d bc bs pc' L (st) w Q) : q_Go Γ M d bc bs pc L (q_i b :: q_i a :: st) w Q := by
  subst hp
  exact fun p e R s m args below meth c H locs cells slots Z ls C hc hs hW hS hl hr => lv_icmp_ne C.1 C.2.1 hd ht (fun c0 => kt ((not_congr (q_eq ra rb)).mp c0) p e R s m args below meth c H locs cells slots Z ls C hc hs hW hS hl hr) (fun c0 => kf ((q_eq ra rb).mp c0) p e R s m args below meth c H locs cells slots Z ls C hc hs hW hS hl hr)

theorem q_if_ne {Γ : q_G} {M : q_M} {d bc bs pc pc' : Nat} {L : List (Nat × Value)} {st : List Value} {w : q_W} {Q : Option Value → q_W → Prop} {a off : Int} {tgt : Nat} (hd : decode M.2.1 pc = .ok (.ifCond .ne off, 3)) (ht : (pc : Int) + off = (tgt : Int)) (hp : pc + 3 = pc') (ra : q_rg a) (kt : ¬ a = 0 → q_Go Γ M d bc bs tgt L (st) w Q) (kf : a = 0 → q_Go Γ M d bc bs pc' L (st) w Q) : q_Go Γ M d bc bs pc L (q_i a :: st) w Q := by
  subst hp
  have rb := q_rg0
  exact fun p e R s m args below meth c H locs cells slots Z ls C hc hs hW hS hl hr => lv_if_ne C.1 C.2.1 hd ht (fun c0 => kt ((not_congr (q_eq ra rb)).mp c0) p e R s m args below meth c H locs cells slots Z ls C hc hs hW hS hl hr) (fun c0 => kf ((q_eq ra rb).mp c0) p e R s m args below meth c H locs cells slots Z ls C hc hs hW hS hl hr)

theorem q_icmp_lt {Γ : q_G} {M : q_M} {d bc bs pc pc' : Nat} {L : List (Nat × Value)} {st : List Value} {w : q_W} {Q : Option Value → q_W → Prop} {a b off : Int} {tgt : Nat} (hd : decode M.2.1 pc = .ok (.if_icmp .lt off, 3)) (ht : (pc : Int) + off = (tgt : Int)) (hp : pc + 3 = pc') (ra : q_rg a) (rb : q_rg b) (kt : a < b → q_Go Γ M d bc bs tgt L (st) w Q) (kf : b ≤ a → q_Go Γ M d bc bs pc' L (st) w Q) : q_Go Γ M d bc bs pc L (q_i b :: q_i a :: st) w Q := by
  subst hp
  exact fun p e R s m args below meth c H locs cells slots Z ls C hc hs hW hS hl hr => lv_icmp_lt C.1 C.2.1 hd ht (fun c0 => kt ((q_lt ra rb).mp c0) p e R s m args below meth c H locs cells slots Z ls C hc hs hW hS hl hr) (fun c0 => kf (Int.not_lt.mp (fun h => c0 ((q_lt ra rb).mpr h))) p e R s m args below meth c H locs cells slots Z ls C hc hs hW hS hl hr)

theorem q_if_lt {Γ : q_G} {M : q_M} {d bc bs pc pc' : Nat} {L : List (Nat × Value)} {st : List Value} {w : q_W} {Q : Option Value → q_W → Prop} {a off : Int} {tgt : Nat} (hd : decode M.2.1 pc = .ok (.ifCond .lt off, 3)) (ht : (pc : Int) + off = (tgt : Int)) (hp : pc + 3 = pc') (ra : q_rg a) (kt : a < 0 → q_Go Γ M d bc bs tgt L (st) w Q) (kf : 0 ≤ a → q_Go Γ M d bc bs pc' L (st) w Q) : q_Go Γ M d bc bs pc L (q_i a :: st) w Q := by
  subst hp
  have rb := q_rg0
  exact fun p e R s m args below meth c H locs cells slots Z ls C hc hs hW hS hl hr => lv_if_lt C.1 C.2.1 hd ht (fun c0 => kt ((q_lt ra rb).mp c0) p e R s m args below meth c H locs cells slots Z ls C hc hs hW hS hl hr) (fun c0 => kf (Int.not_lt.mp (fun h => c0 ((q_lt ra rb).mpr h))) p e R s m args below meth c H locs cells slots Z ls C hc hs hW hS hl hr)

theorem q_icmp_ge {Γ : q_G} {M : q_M} {d bc bs pc pc' : Nat} {L : List (Nat × Value)} {st : List Value} {w : q_W} {Q : Option Value → q_W → Prop} {a b off : Int} {tgt : Nat} (hd : decode M.2.1 pc = .ok (.if_icmp .ge off, 3)) (ht : (pc : Int) + off = (tgt : Int)) (hp : pc + 3 = pc') (ra : q_rg a) (rb : q_rg b) (kt : b ≤ a → q_Go Γ M d bc bs tgt L (st) w Q) (kf : a < b → q_Go Γ M d bc bs pc' L (st) w Q) : q_Go Γ M d bc bs pc L (q_i b :: q_i a :: st) w Q := by
  subst hp
  exact fun p e R s m args below meth c H locs cells slots Z ls C hc hs hW hS hl hr => lv_icmp_ge C.1 C.2.1 hd ht (fun c0 => kt ((q_le rb ra).mp c0) p e R s m args below meth c H locs cells slots Z ls C hc hs hW hS hl hr) (fun c0 => kf (Int.not_le.mp (fun h => c0 ((q_le rb ra).mpr h))) p e R s m args below meth c H locs cells slots Z ls C hc hs hW hS hl hr)

theorem q_if_ge {Γ : q_G} {M : q_M} {d bc bs pc pc' : Nat} {L : List (Nat × Value)} {st : List Value} {w : q_W} {Q : Option Value → q_W → Prop} {a off : Int} {tgt : Nat} (hd : decode M.2.1 pc = .ok (.ifCond .ge off, 3)) (ht : (pc : Int) + off = (tgt : Int)) (hp : pc + 3 = pc') (ra : q_rg a) (kt : 0 ≤ a → q_Go Γ M d bc bs tgt L (st) w Q) (kf : a < 0 → q_Go Γ M d bc bs pc' L (st) w Q) : q_Go Γ M d bc bs pc L (q_i a :: st) w Q := by
  subst hp
  have rb := q_rg0
  exact fun p e R s m args below meth c H locs cells slots Z ls C hc hs hW hS hl hr => lv_if_ge C.1 C.2.1 hd ht (fun c0 => kt ((q_le rb ra).mp c0) p e R s m args below meth c H locs cells slots Z ls C hc hs hW hS hl hr) (fun c0 => kf (Int.not_le.mp (fun h => c0 ((q_le rb ra).mpr h))) p e R s m args below meth c H locs cells slots Z ls C hc hs hW hS hl hr)

theorem q_icmp_gt {Γ : q_G} {M : q_M} {d bc bs pc pc' : Nat} {L : List (Nat × Value)} {st : List Value} {w : q_W} {Q : Option Value → q_W → Prop} {a b off : Int} {tgt : Nat} (hd : decode M.2.1 pc = .ok (.if_icmp .gt off, 3)) (ht : (pc : Int) + off = (tgt : Int)) (hp : pc + 3 = pc') (ra : q_rg a) (rb : q_rg b) (kt : b < a → q_Go Γ M d bc bs tgt L (st) w Q) (kf : a ≤ b → q_Go Γ M d bc bs pc' L (st) w Q) : q_Go Γ M d bc bs pc L (q_i b :: q_i a :: st) w Q := by
  subst hp
  exact fun p e R s m args below meth c H locs cells slots Z ls C hc hs hW hS hl hr => lv_icmp_gt C.1 C.2.1 hd ht (fun c0 => kt ((q_lt rb ra).mp c0) p e R s m args below meth c H locs cells slots Z ls C hc hs hW hS hl hr) (fun c0 => kf (Int.not_lt.mp (fun h => c0 ((q_lt rb ra).mpr h))) p e R s m args below meth c H locs cells slots Z ls C hc hs hW hS hl hr)

theorem q_if_gt {Γ : q_G} {M : q_M} {d bc bs pc pc' : Nat} {L : List (Nat × Value)} {st : List Value} {w : q_W} {Q : Option Value → q_W → Prop} {a off : Int} {tgt : Nat} (hd : decode M.2.1 pc = .ok (.ifCond .gt off, 3)) (ht : (pc : Int) + off = (tgt : Int)) (hp : pc + 3 = pc') (ra : q_rg a) (kt : 0 < a → q_Go Γ M d bc bs tgt L (st) w Q) (kf : a ≤ 0 → q_Go Γ M d bc bs pc' L (st) w Q) : q_Go Γ M d bc bs pc L (q_i a :: st) w Q := by
  subst hp
  have rb := q_rg0
  exact fun p e R s m args below meth c H locs cells slots Z ls C hc hs hW hS hl hr => lv_if_gt C.1 C.2.1 hd ht (fun c0 => kt ((q_lt rb ra).mp c0) p e R s m args below meth c H locs cells slots Z ls C hc hs hW hS hl hr) (fun c0 => kf (Int.not_lt.mp (fun h => c0 ((q_lt rb ra).mpr h))) p e R s m args below meth c H locs cells slots Z ls C hc hs hW hS hl hr)

theorem q_icmp_le {Γ : q_G} {M : q_M} {d bc bs pc pc' : Nat} {L : List (Nat × Value)} {st : List Value} {w : q_W} {Q : Option Value → q_W → Prop} {a b off : Int} {tgt : Nat} (hd : decode M.2.1 pc = .ok (.if_icmp .le off, 3)) (ht : (pc : Int) + off = (tgt : Int)) (hp : pc + 3 = pc') (ra : q_rg a) (rb : q_rg b) (kt : a ≤ b → q_Go Γ M d bc bs tgt L (st) w Q) (kf : b < a → q_Go Γ M d bc bs pc' L (st) w Q) : q_Go Γ M d bc bs pc L (q_i b :: q_i a :: st) w Q := by
  subst hp
  exact fun p e R s m args below meth c H locs cells slots Z ls C hc hs hW hS hl hr => lv_icmp_le C.1 C.2.1 hd ht (fun c0 => kt ((q_le ra rb).mp c0) p e R s m args below meth c H locs cells slots Z ls C hc hs hW hS hl hr) (fun c0 => kf (Int.not_le.mp (fun h => c0 ((q_le ra rb).mpr h))) p e R s m args below meth c H locs cells slots Z ls C hc hs hW hS hl hr)

theorem q_if_le {Γ : q_G} {M : q_M} {d bc bs pc pc' : Nat} {L : List (Nat × Value)} {st : List Value} {w : q_W} {Q : Option Value → q_W → Prop} {a off : Int} {tgt : Nat} (hd : decode M.2.1 pc = .ok (.ifCond .le off, 3)) (ht : (pc : Int) + off = (tgt : Int)) (hp : pc + 3 = pc') (ra : q_rg a) (kt : a ≤ 0 → q_Go Γ M d bc bs tgt L (st) w Q) (kf : 0 < a → q_Go Γ M d bc bs pc' L (st) w Q) : q_Go Γ M d bc bs pc L (q_i a :: st) w Q := by
  subst hp
  have rb := q_rg0
  exact fun p e R s m args below meth c H locs cells slots Z ls C hc hs hW hS hl hr => lv_if_le C.1 C.2.1 hd ht (fun c0 => kt ((q_le ra rb).mp c0) p e R s m args below meth c H locs cells slots Z ls C hc hs hW hS hl hr) (fun c0 => kf (Int.not_le.mp (fun h => c0 ((q_le ra rb).mpr h))) p e R s m args below meth c H locs cells slots Z ls C hc hs hW hS hl hr)

/-- a truth value -/
def q_bi (P : Prop) [Decidable P] : Int := if P then 1 else 0
theorem q_bi_t {P : Prop} [Decidable P] (h : P) : q_bi P = 1 := if_pos h
theorem q_bi_f {P : Prop} [Decidable P] (h : ¬ P) : q_bi P = 0 := if_neg h
theorem q_bi_rg (P : Prop) [Decidable P] : q_rg (q_bi P) := by unfold q_bi; split <;> decide
theorem q_if_eq_b {Γ : q_G} {M : q_M} {d bc bs pc pc' : Nat} {L : List (Nat × Value)} {st : List Value} {w : q_W} {Q : Option Value → q_W → Prop} {P : Prop} [Decidable P] {off : Int} {tgt : Nat} (hd : decode M.2.1 pc = .ok (.ifCond .eq off, 3)) (ht : (pc : Int) + off = (tgt : Int)) (hp : pc + 3 = pc') (kt : ¬ P → q_Go Γ M d bc bs tgt L (st) w Q) (kf : P → q_Go Γ M d bc bs pc' L (st) w Q) : q_Go Γ M d bc bs pc L (q_i (q_bi P) :: st) w Q :=
  q_if_eq hd ht hp (q_bi_rg P) (fun h => kt (fun hP => by rw [q_bi_t hP] at h; cases h)) (fun h => kf (Decidable.byContradiction fun hP => h (q_bi_f hP)))
theorem q_if_ne_b {Γ : q_G} {M : q_M} {d bc bs pc pc' : Nat} {L : List (Nat × Value)} {st : List Value} {w : q_W} {Q : Option Value → q_W → Prop} {P : Prop} [Decidable P] {off : Int} {tgt : Nat} (hd : decode M.2.1 pc = .ok (.ifCond .ne off, 3)) (ht : (pc : Int) + off = (tgt : Int)) (hp : pc + 3 = pc') (kt : P → q_Go Γ M d bc bs tgt L (st) w Q) (kf : ¬ P → q_Go Γ M d bc bs pc' L (st) w Q) : q_Go Γ M d bc bs pc L (q_i (q_bi P) :: st) w Q :=
  q_if_ne hd ht hp (q_bi_rg P) (fun h => kt (Decidable.byContradiction fun hP => h (q_bi_f hP))) (fun h => kf (fun hP => by rw [q_bi_t hP] at h; cases h))
theorem q_tableIn {Γ : q_G} {M : q_M} {d bc bs pc pc' : Nat} {L : List (Nat × Value)} {st : List Value} {w : q_W} {Q : Option Value → q_W → Prop} {dflt lo hi a off : Int} {offs : Array Int} {len : Nat} (hd : decode M.2.1 pc = .ok (.tableswitch dflt lo hi offs, len)) (ra : q_rg a) (h1 : lo ≤ a) (h2 : a ≤ hi) (ho : offs[(a - lo).toNat]? = some off) (ht : (pc : Int) + off = (pc' : Int)) (k : q_Go Γ M d bc bs pc' L (st) w Q) : q_Go Γ M d bc bs pc L (q_i a :: st) w Q :=
  q_pure (fun p e R s m args below meth c H locs cells slots Z ls C hl hcc hss h => lv_tableIn C.1 C.2.1 hd (by rw [q_ti ra]; omega) (by rw [q_ti ra]; omega) (by rw [q_ti ra]; exact ho) ht h) k
theorem q_tableOut {Γ : q_G} {M : q_M} {d bc bs pc pc' : Nat} {L : List (Nat × Value)} {st : List Value} {w : q_W} {Q : Option Value → q_W → Prop} {dflt lo hi a : Int} {offs : Array Int} {len : Nat} (hd : decode M.2.1 pc = .ok (.tableswitch dflt lo hi offs, len)) (ra : q_rg a) (h1 : a < lo ∨ hi < a) (ht : (pc : Int) + dflt = (pc' : Int)) (k : q_Go Γ M d bc bs pc' L (st) w Q) : q_Go Γ M d bc bs pc L (q_i a :: st) w Q :=
  q_pure (fun p e R s m args below meth c H locs cells slots Z ls C hl hcc hss h => lv_tableOut C.1 C.2.1 hd (by rw [q_ti ra]; omega) ht h) k
theorem q_lookup {Γ : q_G} {M : q_M} {d bc bs pc pc' : Nat} {L : List (Nat × Value)} {st : List Value} {w : q_W} {Q : Option Value → q_W → Prop} {dflt a off : Int} {ps : Array (Int × Int)} {len : Nat} (hd : decode M.2.1 pc = .ok (.lookupswitch dflt ps, len)) (ra : q_rg a) (hs : (ps.toList.zip (ps.toList.drop 1)).all (fun (a, next) => a.1 < next.1) = true) (ho : Op.lookupswitch.offset ps.toList dflt a = off) (ht : (pc : Int) + off = (pc' : Int)) (k : q_Go Γ M d bc bs pc' L (st) w Q) : q_Go Γ M d bc bs pc L (q_i a :: st) w Q :=
  q_pure (fun p e R s m args below meth c H locs cells slots Z ls C hl hcc hss h => lv_lookup C.1 C.2.1 hd hs (by rw [q_ti ra]; exact ho) ht h) k

theorem q_istoren {Γ : q_G} {M : q_M} {d bc bs pc pc' : Nat} {L : List (Nat × Value)} {st : List Value} {w : q_W} {Q : Option Value → q_W → Prop} {i' : Fin 4} {i : Nat} {z : Int} {L' : List (Nat × Value)} (hd : decode M.2.1 pc = .ok ((.istore_n i'), 1)) (hp : pc + 1 = pc') (hi : (i' : Nat) = i) (hn : i < M.2.2.1) (hL : (i, q_i z) :: L.filter (fun q => !(q.1 == i) && !(q.1 + 1 == i && q.2.category == 2)) = L') (k : q_Go Γ M d bc bs pc' L' st w Q) : q_Go Γ M d bc bs pc L (q_i z :: st) w Q := by
  subst hp
  exact fun p e R s m args below meth c H locs cells slots Z ls C hc hs hW hS hl hr => lv_istore_n C.1 C.2.1 hd hi hl hn hL fun ls' hl' => k p e R s m args below meth c H locs cells slots Z ls' C hc hs hW hS hl' hr

theorem q_istore {Γ : q_G} {M : q_M} {d bc bs pc pc' : Nat} {L : List (Nat × Value)} {st : List Value} {w : q_W} {Q : Option Value → q_W → Prop} {i : Nat} {z : Int} {L' : List (Nat × Value)} (hd : decode M.2.1 pc = .ok ((.istore i), 2)) (hp : pc + 2 = pc') (hn : i < M.2.2.1) (hL : (i, q_i z) :: L.filter (fun q => !(q.1 == i) && !(q.1 + 1 == i && q.2.category == 2)) = L') (k : q_Go Γ M d bc bs pc' L' st w Q) : q_Go Γ M d bc bs pc L (q_i z :: st) w Q := by
  subst hp
  exact fun p e R s m args below meth c H locs cells slots Z ls C hc hs hW hS hl hr => lv_istore C.1 C.2.1 hd hl hn hL fun ls' hl' => k p e R s m args below meth c H locs cells slots Z ls' C hc hs hW hS hl' hr

theorem q_astoren {Γ : q_G} {M : q_M} {d bc bs pc pc' : Nat} {L : List (Nat × Value)} {st : List Value} {w : q_W} {Q : Option Value → q_W → Prop} {i' : Fin 4} {i : Nat} {z : Nat} {L' : List (Nat × Value)} (hd : decode M.2.1 pc = .ok ((.astore_n i'), 1)) (hp : pc + 1 = pc') (hi : (i' : Nat) = i) (hn : i < M.2.2.1) (hL : (i, .ref z) :: L.filter (fun q => !(q.1 == i) && !(q.1 + 1 == i && q.2.category == 2)) = L') (k : q_Go Γ M d bc bs pc' L' st w Q) : q_Go Γ M d bc bs pc L (.ref z :: st) w Q := by
  subst hp
  exact fun p e R s m args below meth c H locs cells slots Z ls C hc hs hW hS hl hr => lv_astore_n C.1 C.2.1 hd hi hl hn hL fun ls' hl' => k p e R s m args below meth c H locs cells slots Z ls' C hc hs hW hS hl' hr

theorem q_astore {Γ : q_G} {M : q_M} {d bc bs pc pc' : Nat} {L : List (Nat × Value)} {st : List Value} {w : q_W} {Q : Option Value → q_W → Prop} {i : Nat} {z : Nat} {L' : List (Nat × Value)} (hd : decode M.2.1 pc = .ok ((.astore i), 2)) (hp : pc + 2 = pc') (hn : i < M.2.2.1) (hL : (i, .ref z) :: L.filter (fun q => !(q.1 == i) && !(q.1 + 1 == i && q.2.category == 2)) = L') (k : q_Go Γ M d bc bs pc' L' st w Q) : q_Go Γ M d bc bs pc L (.ref z :: st) w Q := by
  subst hp
  exact fun p e R s m args below meth c H locs cells slots Z ls C hc hs hW hS hl hr => lv_astore C.1 C.2.1 hd hl hn hL fun ls' hl' => k p e R s m args below meth c H locs cells slots Z ls' C hc hs hW hS hl' hr

theorem q_lstoren {Γ : q_G} {M : q_M} {d bc bs pc pc' : Nat} {L : List (Nat × Value)} {st : List Value} {w : q_W} {Q : Option Value → q_W → Prop} {i' : Fin 4} {i : Nat} {z : Int64} {L' : List (Nat × Value)} (hd : decode M.2.1 pc = .ok ((.lstore_n i'), 1)) (hp : pc + 1 = pc') (hi : (i' : Nat) = i) (hn : i + 1 < M.2.2.1) (hL : (i, .long z) :: L.filter (fun q => !(q.1 == i) && (!(q.1 == i + 1) && !(q.1 + 1 == i && q.2.category == 2))) = L') (k : q_Go Γ M d bc bs pc' L' st w Q) : q_Go Γ M d bc bs pc L (.long z :: st) w Q := by
  subst hp
  exact fun p e R s m args below meth c H locs cells slots Z ls C hc hs hW hS hl hr => lv_lstore_n C.1 C.2.1 hd hi hl hn hL fun ls' hl' => k p e R s m args below meth c H locs cells slots Z ls' C hc hs hW hS hl' hr

theorem q_lstore {Γ : q_G} {M : q_M} {d bc bs pc pc' : Nat} {L : List (Nat × Value)} {st : List Value} {w : q_W} {Q : Option Value → q_W → Prop} {i : Nat} {z : Int64} {L' : List (Nat × Value)} (hd : decode M.2.1 pc = .ok ((.lstore i), 2)) (hp : pc + 2 = pc') (hn : i + 1 < M.2.2.1) (hL : (i, .long z) :: L.filter (fun q => !(q.1 == i) && (!(q.1 == i + 1) && !(q.1 + 1 == i && q.2.category == 2))) = L') (k : q_Go Γ M d bc bs pc' L' st w Q) : q_Go Γ M d bc bs pc L (.long z :: st) w Q := by
  subst hp
  exact fun p e R s m args below meth c H locs cells slots Z ls C hc hs hW hS hl hr => lv_lstore C.1 C.2.1 hd hl hn hL fun ls' hl' => k p e R s m args below meth c H locs cells slots Z ls' C hc hs hW hS hl' hr

theorem q_iinc {Γ : q_G} {M : q_M} {d bc bs pc pc' : Nat} {L : List (Nat × Value)} {st : List Value} {w : q_W} {Q : Option Value → q_W → Prop} {i : Nat} {n z : Int} {L' : List (Nat × Value)} (j : Nat) (hd : decode M.2.1 pc = .ok (.iinc i n, 3)) (hp : pc + 3 = pc') (hj : L[j]? = some (i, q_i z)) (hn : i < M.2.2.1) (hL : (i, q_i (z + n)) :: L.filter (fun q => !(q.1 == i) && !(q.1 + 1 == i && q.2.category == 2)) = L') (k : q_Go Γ M d bc bs pc' L' st w Q) : q_Go Γ M d bc bs pc L (st) w Q := by
  subst hp
  exact fun p e R s m args below meth c H locs cells slots Z ls C hc hs hW hS hl hr => lv_iinc C.1 C.2.1 hd hl hj (Int32.ofInt_add z n).symm hn hL fun ls' hl' => k p e R s m args below meth c H locs cells slots Z ls' C hc hs hW hS hl' hr
/-- a name for the number on top -/
theorem q_top {Γ : q_G} {M : q_M} {d bc bs pc pc' : Nat} {L : List (Nat × Value)} {st : List Value} {w : q_W} {Q : Option Value → q_W → Prop} {z : Int} (k : ∀ y : Int, y = z → q_Go Γ M d bc bs pc L (q_i y :: st) w Q) : q_Go Γ M d bc bs pc L (q_i z :: st) w Q := k z rfl
theorem q_topL {Γ : q_G} {M : q_M} {d bc bs pc pc' : Nat} {L : List (Nat × Value)} {st : List Value} {w : q_W} {Q : Option Value → q_W → Prop} {z : Int64} (k : ∀ y : Int64, y = z → q_Go Γ M d bc bs pc L (.long y :: st) w Q) : q_Go Γ M d bc bs pc L (.long z :: st) w Q := k z rfl
end
section
/-! fields, arrays, tables, returns -/
def q_Cl (ci : Nat) (C : String) (T : u_T) (N : Nat) : Prop := vwCl[ci]? = some (C, T, N) ∧ (∀ w ∈ u_ws C T N, w ∈ q_words) ∧ (∃ ty0 : Nat → FieldType, ∀ k, k < N → parseFieldDescriptor (T k).2.2.1 = some (ty0 k)) ∧ (∀ a, a < N → ∀ b, b < N → a ≠ b → (T a).2.1 ≠ (T b).2.1)
/-- the pool's place idx of the class own names the field k of the class ci -/
def q_F (own : String) (idx ci k : Nat) (ty : FieldType) (fin : Bool) : Prop := ∃ (C : String) (T : u_T) (N : Nat), q_Cl ci C T N ∧ k < N ∧ (T k).2.2.2 = fin ∧ parseFieldDescriptor (T k).2.2.1 = some ty ∧
  (Cond.fieldLink own idx (T k).1 (T k).2.1 (T k).2.2.1 ∈ q_words ∨ ∃ host, Cond.fieldLinkNest own idx (T k).1 (T k).2.1 (T k).2.2.1 host ∈ lw_tbl)
/-- the same, in the class that declares it -/
def q_FO (own : String) (idx ci k : Nat) (ty : FieldType) (fin : Bool) : Prop := ∃ (C : String) (T : u_T) (N : Nat), q_Cl ci C T N ∧ k < N ∧ (T k).2.2.2 = fin ∧ parseFieldDescriptor (T k).2.2.1 = some ty ∧ (T k).1 = own ∧ Cond.fieldLink own idx (T k).1 (T k).2.1 (T k).2.2.1 ∈ q_words
section HP
variable {Γ : q_G} {M : q_M} {d bc bs pc pc' : Nat} {L : List (Nat × Value)} {st : List Value} {w : q_W} {Q : Option Value → q_W → Prop}
theorem q_getf {idx ci k a f : Nat} {ty : FieldType} {fin : Bool} {fl : List Nat} (hd : decode M.2.1 pc = .ok (.getfield idx, 3)) (hp : pc + 3 = pc') (hF : q_F M.1.cls idx ci k ty fin) (hK : w.1[a]? = some (.inl (ci, fl))) (hf : fl[k]? = some f) (kk : q_Go Γ M d bc bs pc' L (q_fv (q_b Γ) f (w.2 a k) :: st) w Q) : q_Go Γ M d bc bs pc L (q_r Γ a :: st) w Q := by
  subst hp
  obtain ⟨C, T, N, ⟨hc, hin, -, -⟩, hk, -, -, hlk⟩ := hF
  intro p e R s m args below meth c H locs cells slots Z ls CC hc1 hs1 hW hS hl hr
  have e1 := hW.2.1 a _ hK
  rcases hlk with hlk | ⟨host, hlk⟩
  · exact va_get (ws := [(q_b Γ + a, .inr (ci, q_fvs (q_b Γ) fl (w.2 a)))]) (C := C) (T := T) (N := N) CC.1 CC.2.1 CC.2.2.2.2.2.2.2.1 hin CC.2.2.2.1 CC.2.2.2.2.2.2.2.2.1.1 (q_P1 e1) 0 rfl hc k hk (CC.2.2.2.2.2.2.2.1 _ hlk) (fun _ h9 => h9) (q_fvs_get hf) hd (kk p e R s m args below meth c H locs cells slots Z ls CC hc1 hs1 hW hS hl hr)
  · exact va_getN (ws := [(q_b Γ + a, .inr (ci, q_fvs (q_b Γ) fl (w.2 a)))]) (C := C) (T := T) (N := N) (host := host) CC.1 CC.2.1 CC.2.2.2.2.2.2.2.1 hin CC.2.2.2.1 CC.2.2.2.2.2.2.2.2.1.1 (q_P1 e1) 0 rfl hc k hk (va_Nw.use rfl (CC.2.2.2.2.2.2.2.2.1.2.2.2.1 _ hlk rfl)) (fun _ h9 => h9) (q_fvs_get hf) hd (kk p e R s m args below meth c H locs cells slots Z ls CC hc1 hs1 hW hS hl hr)
theorem q_getI {idx ci k a : Nat} {ty : FieldType} {fin : Bool} {fl : List Nat} (hd : decode M.2.1 pc = .ok (.getfield idx, 3)) (hp : pc + 3 = pc') (hF : q_F M.1.cls idx ci k ty fin) (hK : w.1[a]? = some (.inl (ci, fl))) (hf : fl[k]? = some 0) (kk : q_Go Γ M d bc bs pc' L (q_i (w.2 a k) :: st) w Q) : q_Go Γ M d bc bs pc L (q_r Γ a :: st) w Q := q_getf hd hp hF hK hf kk
theorem q_getR {idx ci k a f : Nat} {ty : FieldType} {fin : Bool} {fl : List Nat} (hd : decode M.2.1 pc = .ok (.getfield idx, 3)) (hp : pc + 3 = pc') (hF : q_F M.1.cls idx ci k ty fin) (hK : w.1[a]? = some (.inl (ci, fl))) (hf : fl[k]? = some (f + 2)) (kk : q_Go Γ M d bc bs pc' L (q_r Γ f :: st) w Q) : q_Go Γ M d bc bs pc L (q_r Γ a :: st) w Q := q_getf hd hp hF hK hf kk
/-- what a store of a field does to the world -/
theorem q_put_at {ci k a f : Nat} {C : String} {T : u_T} {N : Nat} {H1 : Heap} {fl : List Nat} {g g' : Int → Int} {cell : Cell} (hc : vwCl[ci]? = some (C, T, N)) (hk : k < N) (hkl : k < fl.length) (hap : ∀ x y, x < N → y < N → x ≠ y → ((q_D Γ).2 ci) x ≠ ((q_D Γ).2 ci) y)
    (q2 : cell.cls = (q_D Γ).1 ci) (q3 : cell.vm = .none) (q4 : ∀ k, k < N → cell.slots[(q_D Γ).2 ci k]? = some (vp_V (q_fvs (q_b Γ) fl g) k)) (hg : ∀ j : Nat, j ≠ k → g' j = g j)
    (e1 : H1[q_b Γ + a]? = some (cell.setSlot ((q_D Γ).2 ci k) (q_fv (q_b Γ) f (g' k)))) : va_at (q_D Γ) vwCl (q_b Γ + a, q_ent Γ (.inl (ci, fl.set k f)) g') H1 := by
  refine ⟨_, hc, ?_⟩
  show t_OB _ _ _ _ _ (vp_V (q_fvs (q_b Γ) (fl.set k f) g'))
  rw [← q_fvs_set (f := f) hkl hg]
  exact t_OB.to (V := updV (vp_V (q_fvs (q_b Γ) fl g)) k (q_fv (q_b Γ) f (g' k))) ⟨_, e1, q2, q3, t_set q4 hap hk _⟩ (fun j _ => vp_updV_set (by rw [q_fvs_len]; exact hkl) _ j)
theorem q_narrow {ty : FieldType} {v : Value} (hn : narrow ty v = v) : narrow ty v = v := hn
/-- a store of a field: of a number (f = 0), or of a reference (f = k + 2) -/
theorem q_putf {idx ci k a f f0 : Nat} {ty : FieldType} {fl : List Nat} (z : Int) (hd : decode M.2.1 pc = .ok (.putfield idx, 3)) (hp : pc + 3 = pc') (hF : q_F M.1.cls idx ci k ty false) (hK : w.1[a]? = some (.inl (ci, fl))) (hf : fl[k]? = some f0)
    (hn : narrow ty (q_fv (q_b Γ) f z) = q_fv (q_b Γ) f z) (hfit : fits ty (q_fv (q_b Γ) f z) = true) (hz : q_rg z) (kk : q_Go Γ M d bc bs pc' L st (w.1.set a (.inl (ci, fl.set k f)), q_up w.2 a k z) Q) : q_Go Γ M d bc bs pc L (q_fv (q_b Γ) f z :: q_r Γ a :: st) w Q := by
  subst hp
  obtain ⟨C, T, N, ⟨hc, hin, ⟨ty0, hty⟩, hnm⟩, hk, hfin, hpd, hlk⟩ := hF
  have hkl : k < fl.length := (List.getElem?_eq_some_iff.mp hf).1
  intro p e R s m args below meth c H locs cells slots Z ls CC hc1 hs1 hW hS hl hr
  have hts := CC.2.2.2.2.2.2.2.1
  have hKk := CC.2.2.2.2.2.2.2.2.1.1
  have hap := va_apart (own := M.1.cls) hts hin ty0 hty hnm hKk hc
  obtain ⟨r, h1, cell, q1, q2, q3, q4⟩ := hW.2.1 a _ hK
  have hr' : r = (C, T, N) := Option.some.inj (h1.symm.trans hc)
  subst hr'
  obtain ⟨hSl, hfc, kC, hkC, hkind⟩ := hKk.1 ci _ hc
  obtain ⟨cf, kf, fi, fd, hi, hsl⟩ := hSl k hk
  have hlay := hts _ (hin _ (u_in_lay hk))
  unfold u_lay at hlay
  rw [if_neg (by rw [hfin]; decide)] at hlay
  have hst := (u_facts hfc hkC (u_lays hts hin hk) hi).1
  have h6 := u_store hfc hkC hkind hlay hi hpd hn hfit
  have key : ∀ H' : Heap, H'[q_b Γ + a]? = some (cell.setSlot fd.slot (q_fv (q_b Γ) f z)) → H'.size = H.size → (∀ q, q ≠ q_b Γ + a → H'[q]? = H[q]?) → W p (q_l Γ) e R s m args below meth c H' (locs ++ [⟨q_b Γ + a, fd.slot⟩]) cells slots Z (F0 m (pc + 3) ls st) := by
    intro H' e1 e2 e3
    rw [hsl] at e1 ⊢
    refine kk p e R s m args below meth c H' _ cells slots Z ls CC hc1 hs1 ?_ (hS.put e2 e3 (show q_b Γ ≤ q_b Γ + a by omega)) hl hr
    have e4 : q_up w.2 a k z a k = z := by simp [q_up]
    have w1 : q_Wd Γ (w.1, q_up w.2 a k z) H' ∨ True := Or.inr trivial
    have ha : a < w.1.length := (List.getElem?_eq_some_iff.mp hK).1
    have e5 : va_at (q_D Γ) vwCl (q_b Γ + a, q_ent Γ (.inl (ci, fl.set k f)) (q_up w.2 a k z a)) H' :=
      q_put_at hc hk hkl hap q2 q3 q4 (g' := q_up w.2 a k z a) (fun j hj => by simp only [q_up]; rw [if_neg]; intro h; have := h.2; omega) (by rw [e4]; exact e1)
    refine ⟨by rw [e2, hW.1]; simp, fun k' K' hk' => ?_, fun k' j => ?_⟩
    · by_cases h : k' = a
      · subst h
        rw [show ((w.1.set k' (.inl (ci, fl.set k f)), q_up w.2 k' k z) : q_W).1[k']? = some (.inl (ci, fl.set k f)) from List.getElem?_set_self ha] at hk'
        cases hk'
        exact e5
      · rw [show ((w.1.set a (.inl (ci, fl.set k f)), q_up w.2 a k z) : q_W).1[k']? = w.1[k']? from List.getElem?_set_ne (Ne.symm h)] at hk'
        have e6 : q_up w.2 a k z k' = w.2 k' := by funext j; simp [q_up, h]
        show va_at _ _ (q_b Γ + k', q_ent Γ K' (q_up w.2 a k z k')) H'
        rw [e6]
        exact (hW.2.1 k' K' hk').kept (e3 _ (by show q_b Γ + k' ≠ q_b Γ + a; omega))
    · show q_rg (q_up w.2 a k z k' j)
      unfold q_up
      split
      · exact hz
      · exact hW.2.2 k' j
  rcases hlk with hlk | ⟨host, hlk⟩
  · exact W.putK CC.1 CC.2.1 (f := fd) ⟨CC.2.2.2.1, hts _ hlk, ⟨_, _, _, hi⟩, hst⟩ (by rw [q2]; exact h6) q1 q3 (by rw [hsl]; exact k2_hasslot (q4 k hk)) rfl rfl hd key
  · exact va_WputK CC.1 CC.2.1 (f := fd) CC.2.2.2.1 (va_Nw.use rfl (CC.2.2.2.2.2.2.2.2.1.2.2.2.1 _ hlk rfl)) hi hst (by rw [q2]; exact h6) q1 q3 (by rw [hsl]; exact k2_hasslot (q4 k hk)) rfl rfl hd key
theorem q_putI {idx ci k a : Nat} {ty : FieldType} {fl : List Nat} {z : Int} (hd : decode M.2.1 pc = .ok (.putfield idx, 3)) (hp : pc + 3 = pc') (hF : q_F M.1.cls idx ci k ty false) (hK : w.1[a]? = some (.inl (ci, fl))) (hf : fl[k]? = some 0)
    (hn : narrow ty (q_i z) = q_i z) (hfit : fits ty (q_i z) = true) (hz : q_rg z) (kk : q_Go Γ M d bc bs pc' L st (w.1, q_up w.2 a k z) Q) : q_Go Γ M d bc bs pc L (q_i z :: q_r Γ a :: st) w Q := by
  refine q_putf (f := 0) z hd hp hF hK hf hn hfit hz ?_
  rw [q_set_self hf, q_set_self hK]
  exact kk
/-- a final field, in the constructor -/
theorem q_putF {idx ci k a f f0 : Nat} {ty : FieldType} {fl : List Nat} (z : Int) (hd : decode M.2.1 pc = .ok (.putfield idx, 3)) (hp : pc + 3 = pc') (hini : M.1.name = "<init>") (hF : q_FO M.1.cls idx ci k ty true) (hK : w.1[a]? = some (.inl (ci, fl))) (hf : fl[k]? = some f0)
    (hn : narrow ty (q_fv (q_b Γ) f z) = q_fv (q_b Γ) f z) (hfit : fits ty (q_fv (q_b Γ) f z) = true) (hz : q_rg z) (kk : q_Go Γ M d bc bs pc' L st (w.1.set a (.inl (ci, fl.set k f)), q_up w.2 a k z) Q) : q_Go Γ M d bc bs pc L (q_fv (q_b Γ) f z :: q_r Γ a :: st) w Q := by
  subst hp
  obtain ⟨C, T, N, ⟨hc, hin, ⟨ty0, hty⟩, hnm⟩, hk, hfin, hpd, hdecl, hlk⟩ := hF
  have hkl : k < fl.length := (List.getElem?_eq_some_iff.mp hf).1
  intro p e R s m args below meth c H locs cells slots Z ls CC hc1 hs1 hW hS hl hr
  have hts := CC.2.2.2.2.2.2.2.1
  have hKk := CC.2.2.2.2.2.2.2.2.1.1
  have hap := va_apart (own := M.1.cls) hts hin ty0 hty hnm hKk hc
  obtain ⟨r, h1, cell, q1, q2, q3, q4⟩ := hW.2.1 a _ hK
  have hr' : r = (C, T, N) := Option.some.inj (h1.symm.trans hc)
  subst hr'
  obtain ⟨hSl, hfc, kC, hkC, hkind⟩ := hKk.1 ci _ hc
  obtain ⟨cf, kf, fi, fd, hi, hsl⟩ := hSl k hk
  have hlay := hts _ (hin _ (u_in_lay hk))
  unfold u_lay at hlay
  rw [if_pos hfin] at hlay
  have hst := (u_facts hfc hkC (u_lays hts hin hk) hi).1
  have hcf : m.cls = cf := by
    obtain ⟨_, _, c', _, _, _, -, -, hf', -, -, -, hown2, -⟩ := Cond.laysFinal_spec hlay
    have e1 : c' = cf := by have := hi.symm.trans hf'; simp at this; exact this.1.symm
    rw [hdecl] at hown2
    rw [← e1]; exact Option.some.inj (CC.2.2.2.1.symm.trans hown2)
  have h6 := u_fits hfc hkC hkind (Or.inr hlay) hi hpd hn hfit
  refine W.putFinK CC.1 CC.2.1 CC.2.2.2.1 (hts _ hlk) hi hst hcf (CC.2.2.2.2.1.trans hini) (by rw [q2]; exact h6) q1 q3 (by rw [hsl]; exact k2_hasslot (q4 k hk)) rfl rfl hd fun H' e1 e2 e3 => ?_
  rw [hsl] at e1 ⊢
  refine kk p e R s m args below meth c H' _ cells slots Z ls CC hc1 hs1 ?_ (hS.put e2 e3 (show q_b Γ ≤ q_b Γ + a by omega)) hl hr
  have e4 : q_up w.2 a k z a k = z := by simp [q_up]
  have ha : a < w.1.length := (List.getElem?_eq_some_iff.mp hK).1
  have e5 : va_at (q_D Γ) vwCl (q_b Γ + a, q_ent Γ (.inl (ci, fl.set k f)) (q_up w.2 a k z a)) H' :=
    q_put_at hc hk hkl hap q2 q3 q4 (g' := q_up w.2 a k z a) (fun j hj => by simp only [q_up]; rw [if_neg]; intro h; have := h.2; omega) (by rw [e4]; exact e1)
  refine ⟨by rw [e2, hW.1]; simp, fun k' K' hk' => ?_, fun k' j => ?_⟩
  · by_cases h : k' = a
    · subst h
      rw [show ((w.1.set k' (.inl (ci, fl.set k f)), q_up w.2 k' k z) : q_W).1[k']? = some (.inl (ci, fl.set k f)) from List.getElem?_set_self ha] at hk'
      cases hk'
      exact e5
    · rw [show ((w.1.set a (.inl (ci, fl.set k f)), q_up w.2 a k z) : q_W).1[k']? = w.1[k']? from List.getElem?_set_ne (Ne.symm h)] at hk'
      have e6 : q_up w.2 a k z k' = w.2 k' := by funext j; simp [q_up, h]
      show va_at _ _ (q_b Γ + k', q_ent Γ K' (q_up w.2 a k z k')) H'
      rw [e6]
      exact (hW.2.1 k' K' hk').kept (e3 _ (by show q_b Γ + k' ≠ q_b Γ + a; omega))
  · show q_rg (q_up w.2 a k z k' j)
    unfold q_up
    split
    · exact hz
    · exact hW.2.2 k' j
end HP
end
section
/-! arrays, tables, copies -/
section HA
variable {Γ : q_G} {M : q_M} {d bc bs pc pc' : Nat} {L : List (Nat × Value)} {st : List Value} {w : q_W} {Q : Option Value → q_W → Prop}
theorem q_up_ne {S : q_S} {a : Nat} {z v : Int} {k : Nat} (h : k ≠ a) : q_up S a z v k = S k := by funext j; simp [q_up, h]
theorem q_up_rg {S : q_S} {a : Nat} {z v : Int} (hS : ∀ k j, q_rg (S k j)) (hv : q_rg v) (k : Nat) (j : Int) : q_rg (q_up S a z v k j) := by
  unfold q_up
  split
  · exact hv
  · exact hS k j
theorem q_iald {a n : Nat} {z : Int} (hd : decode M.2.1 pc = .ok (.iaload, 1)) (hp : pc + 1 = pc') (hK : w.1[a]? = some (.inr (0, n))) (h0 : 0 ≤ z) (h1 : z < (n : Int)) (hn : n ≤ 2147483647) (kk : q_Go Γ M d bc bs pc' L (q_i (w.2 a z) :: st) w Q) : q_Go Γ M d bc bs pc L (q_i z :: q_r Γ a :: st) w Q := by
  subst hp
  intro p e R s m args below meth c H locs cells slots Z ls CC hc1 hs1 hW hS hl hr
  refine va_iald (ws := [(q_b Γ + a, .inl (q_cA Γ 0, n, .inl fun j => Int32.ofInt (w.2 a j)))]) CC.1 CC.2.1 CC.2.2.2.2.2.2.2.2.1.1 (q_P1 (hW.2.1 a _ hK)) 0 0 rfl rfl (q_in h0 h1 hn) hd ?_
  have e9 : Int32.ofInt (w.2 a ((Int32.ofInt z).toNatClampNeg : Nat)) = Int32.ofInt (w.2 a z) := by
    rw [q_cl h0 (by omega), Int.toNat_of_nonneg h0]
  rw [e9]
  exact kk p e R s m args below meth c H locs cells slots Z ls CC hc1 hs1 hW hS hl hr
theorem q_zald {a n : Nat} {z : Int} (hd : decode M.2.1 pc = .ok (.baload, 1)) (hp : pc + 1 = pc') (hK : w.1[a]? = some (.inr (1, n))) (h0 : 0 ≤ z) (h1 : z < (n : Int)) (hn : n ≤ 2147483647) (kk : q_Go Γ M d bc bs pc' L (q_i (w.2 a z) :: st) w Q) : q_Go Γ M d bc bs pc L (q_i z :: q_r Γ a :: st) w Q := by
  subst hp
  intro p e R s m args below meth c H locs cells slots Z ls CC hc1 hs1 hW hS hl hr
  refine va_zald (ws := [(q_b Γ + a, .inl (q_cA Γ 1, n, .inl fun j => Int32.ofInt (w.2 a j)))]) CC.1 CC.2.1 CC.2.2.2.2.2.2.2.2.1.1 (q_P1 (hW.2.1 a _ hK)) 0 1 rfl rfl (q_in h0 h1 hn) hd ?_
  have e9 : Int32.ofInt (w.2 a ((Int32.ofInt z).toNatClampNeg : Nat)) = Int32.ofInt (w.2 a z) := by
    rw [q_cl h0 (by omega), Int.toNat_of_nonneg h0]
  rw [e9]
  exact kk p e R s m args below meth c H locs cells slots Z ls CC hc1 hs1 hW hS hl hr
theorem q_cald {a n : Nat} {z : Int} (hd : decode M.2.1 pc = .ok (.caload, 1)) (hp : pc + 1 = pc') (hK : w.1[a]? = some (.inr (2, n))) (h0 : 0 ≤ z) (h1 : z < (n : Int)) (hn : n ≤ 2147483647) (kk : q_Go Γ M d bc bs pc' L (q_i (w.2 a z) :: st) w Q) : q_Go Γ M d bc bs pc L (q_i z :: q_r Γ a :: st) w Q := by
  subst hp
  intro p e R s m args below meth c H locs cells slots Z ls CC hc1 hs1 hW hS hl hr
  refine va_cald (ws := [(q_b Γ + a, .inl (q_cA Γ 2, n, .inl fun j => Int32.ofInt (w.2 a j)))]) CC.1 CC.2.1 CC.2.2.2.2.2.2.2.2.1.1 (q_P1 (hW.2.1 a _ hK)) 0 2 rfl rfl (q_in h0 h1 hn) hd ?_
  have e9 : Int32.ofInt (w.2 a ((Int32.ofInt z).toNatClampNeg : Nat)) = Int32.ofInt (w.2 a z) := by
    rw [q_cl h0 (by omega), Int.toNat_of_nonneg h0]
  rw [e9]
  exact kk p e R s m args below meth c H locs cells slots Z ls CC hc1 hs1 hW hS hl hr
theorem q_aald {a n : Nat} {z : Int} (hd : decode M.2.1 pc = .ok (.aaload, 1)) (hp : pc + 1 = pc') (hK : w.1[a]? = some (.inr (3, n))) (h0 : 0 ≤ z) (h1 : z < (n : Int)) (hn : n ≤ 2147483647) (h2 : 0 ≤ w.2 a z) (kk : q_Go Γ M d bc bs pc' L (q_r Γ (w.2 a z).toNat :: st) w Q) : q_Go Γ M d bc bs pc L (q_i z :: q_r Γ a :: st) w Q := by
  subst hp
  intro p e R s m args below meth c H locs cells slots Z ls CC hc1 hs1 hW hS hl hr
  refine va_aldq (ws := [(q_b Γ + a, .inl (q_cA Γ 3, n, .inr (.inr (.inr (.inr fun j => q_el (q_b Γ) (w.2 a j))))))]) CC.1 CC.2.1 CC.2.2.2.2.2.2.2.2.1.1 (q_P1 (hW.2.1 a _ hK)) 0 3 rfl rfl (q_in h0 h1 hn) hd ?_
  have e9 : va_rf (q_el (q_b Γ) (w.2 a ((Int32.ofInt z).toNatClampNeg : Nat))) = q_r Γ (w.2 a z).toNat := by
    rw [q_cl h0 (by omega), Int.toNat_of_nonneg h0]
    unfold q_el
    rw [if_neg (by omega)]
    rfl
  rw [e9]
  exact kk p e R s m args below meth c H locs cells slots Z ls CC hc1 hs1 hW hS hl hr
theorem q_upd_at {t a n : Nat} {S : q_S} {z v : Int} {H1 : Heap} {cA : ClassId} (ht : cA = q_cA Γ t) (h0 : 0 ≤ z) (ht3 : t < 3)
    (e1 : H1[q_b Γ + a]? = some (arrV cA n (updV (fun j => .int (Int32.ofInt (S a j))) z.toNat (q_i v)))) : va_at (q_D Γ) vwCl (q_b Γ + a, q_ent Γ (.inr (t, n)) (q_up S a z v a)) H1 := by
  subst ht
  have e3 : va_at (q_D Γ) vwCl (q_b Γ + a, .inl (q_cA Γ t, n, .inl fun j => Int32.ofInt (q_up S a z v a j))) H1 := by
    show H1[q_b Γ + a]? = some (vp_cell _ _)
    rw [vp_cell_i, e1]
    congr 2
    funext j
    simp only [updV, q_up]
    by_cases hj : j = z.toNat
    · rw [if_pos hj, if_pos ⟨trivial, by omega⟩]; rfl
    · rw [if_neg hj, if_neg (fun h => hj (by have := h.2; omega))]
  match t, ht3 with
  | 0, _ => exact e3
  | 1, _ => exact e3
  | 2, _ => exact e3
theorem q_iast {a n : Nat} {z v : Int} (hd : decode M.2.1 pc = .ok (.iastore, 1)) (hp : pc + 1 = pc') (hK : w.1[a]? = some (.inr (0, n))) (h0 : 0 ≤ z) (h1 : z < (n : Int)) (hn : n ≤ 2147483647) (hv : q_rg v) (kk : q_Go Γ M d bc bs pc' L st (w.1, q_up w.2 a z v) Q) : q_Go Γ M d bc bs pc L (q_i v :: q_i z :: q_r Γ a :: st) w Q := by
  subst hp
  intro p e R s m args below meth c H locs cells slots Z ls CC hc1 hs1 hW hS hl hr
  have e0 : H[q_b Γ + a]? = some (arrV (q_cA Γ 0) n (fun j => .int (Int32.ofInt (w.2 a j)))) := hW.2.1 a _ hK
  refine W.iast CC.1 CC.2.1 e0 ((CC.2.2.2.2.2.2.2.2.1.1.2 0 _ rfl).1 n _) (fun q => by cases q) (by rw [arrV_size]; exact q_in h0 h1 hn) rfl rfl hd fun H1 e1 z1 oq => ?_
  rw [arrV_store, q_cl h0 (by omega)] at e1
  exact kk p e R s m args below meth c H1 _ cells slots Z ls CC hc1 hs1 (hW.upd hK (q_up w.2 a z v) z1 oq (q_upd_at rfl h0 (by omega) e1) (fun k hk => q_up_ne hk) (fun j => q_up_rg hW.2.2 hv a j)) (hS.put z1 oq (show q_b Γ ≤ q_b Γ + a by omega)) hl hr
theorem q_zast {a n : Nat} {z v : Int} (hd : decode M.2.1 pc = .ok (.bastore, 1)) (hp : pc + 1 = pc') (hK : w.1[a]? = some (.inr (1, n))) (h0 : 0 ≤ z) (h1 : z < (n : Int)) (hn : n ≤ 2147483647) (hv : v = 0 ∨ v = 1) (kk : q_Go Γ M d bc bs pc' L st (w.1, q_up w.2 a z v) Q) : q_Go Γ M d bc bs pc L (q_i v :: q_i z :: q_r Γ a :: st) w Q := by
  subst hp
  intro p e R s m args below meth c H locs cells slots Z ls CC hc1 hs1 hW hS hl hr
  have e0 : H[q_b Γ + a]? = some (arrV (q_cA Γ 1) n (fun j => .int (Int32.ofInt (w.2 a j)))) := hW.2.1 a _ hK
  refine W.zast CC.1 CC.2.1 e0 ((CC.2.2.2.2.2.2.2.2.1.1.2 1 _ rfl).1 n _) (fun q => by cases q) (by rw [arrV_size]; exact q_in h0 h1 hn) rfl rfl hd fun H1 e1 z1 oq => ?_
  have e2 : H1[q_b Γ + a]? = some (arrV (q_cA Γ 1) n (updV (fun j => .int (Int32.ofInt (w.2 a j))) z.toNat (q_i v))) := by
    rw [e1, q_cl h0 (by omega), ← arrV_store]
    rcases hv with rfl | rfl <;> rfl
  exact kk p e R s m args below meth c H1 _ cells slots Z ls CC hc1 hs1 (hW.upd hK (q_up w.2 a z v) z1 oq (q_upd_at rfl h0 (by omega) e2) (fun k hk => q_up_ne hk) (fun j => q_up_rg hW.2.2 (by omega) a j)) (hS.put z1 oq (show q_b Γ ≤ q_b Γ + a by omega)) hl hr
theorem q_cast {a n : Nat} {z v : Int} (hd : decode M.2.1 pc = .ok (.castore, 1)) (hp : pc + 1 = pc') (hK : w.1[a]? = some (.inr (2, n))) (h0 : 0 ≤ z) (h1 : z < (n : Int)) (hn : n ≤ 2147483647) (hv0 : 0 ≤ v) (hv1 : v < 65536) (kk : q_Go Γ M d bc bs pc' L st (w.1, q_up w.2 a z v) Q) : q_Go Γ M d bc bs pc L (q_i v :: q_i z :: q_r Γ a :: st) w Q := by
  subst hp
  intro p e R s m args below meth c H locs cells slots Z ls CC hc1 hs1 hW hS hl hr
  have e0 : H[q_b Γ + a]? = some (arrV (q_cA Γ 2) n (fun j => .int (Int32.ofInt (w.2 a j)))) := hW.2.1 a _ hK
  refine W.cast CC.1 CC.2.1 e0 ((CC.2.2.2.2.2.2.2.2.1.1.2 2 _ rfl).1 n _) (fun q => by cases q) (by rw [arrV_size]; exact q_in h0 h1 hn) rfl rfl hd fun H1 e1 z1 oq => ?_
  have e2 : H1[q_b Γ + a]? = some (arrV (q_cA Γ 2) n (updV (fun j => .int (Int32.ofInt (w.2 a j))) z.toNat (q_i v))) := by
    rw [e1, q_cl h0 (by omega), ← arrV_store]
    have e5 : Int32.ofInt v = nI v.toNat := by
      show _ = Int32.ofNat _
      rw [← Int32.ofInt_eq_ofNat, Int.toNat_of_nonneg hv0]
    have e4 : narrow .char (.int (Int32.ofInt v)) = .int (Int32.ofInt v) := by
      rw [e5]; exact (pk_charN (by omega)).1
    show some (Cell.setSlot _ _ (narrow .char (.int (Int32.ofInt v)))) = _
    rw [e4]
    rfl
  exact kk p e R s m args below meth c H1 _ cells slots Z ls CC hc1 hs1 (hW.upd hK (q_up w.2 a z v) z1 oq (q_upd_at rfl h0 (by omega) e2) (fun k hk => q_up_ne hk) (fun j => q_up_rg hW.2.2 (by omega) a j)) (hS.put z1 oq (show q_b Γ ≤ q_b Γ + a by omega)) hl hr
/-- a reference to a field into an array of them -/
theorem q_aast {a n i : Nat} {z : Int} {fl : List Nat} (hd : decode M.2.1 pc = .ok (.aastore, 1)) (hp : pc + 1 = pc') (hK : w.1[a]? = some (.inr (3, n))) (h0 : 0 ≤ z) (h1 : z < (n : Int)) (hn : n ≤ 2147483647) (hi : w.1[i]? = some (.inl (0, fl))) (hi2 : i ≤ 2147483647) (kk : q_Go Γ M d bc bs pc' L st (w.1, q_up w.2 a z i) Q) : q_Go Γ M d bc bs pc L (q_r Γ i :: q_i z :: q_r Γ a :: st) w Q := by
  subst hp
  intro p e R s m args below meth c H locs cells slots Z ls CC hc1 hs1 hW hS hl hr
  have hKk := CC.2.2.2.2.2.2.2.2.1.1
  have e0 : H[q_b Γ + a]? = some (arrV (q_cA Γ 3) n (fun j => va_rf (q_el (q_b Γ) (w.2 a j)))) := hW.2.1 a _ hK
  obtain ⟨r', hr', cellV, g1, g2, g3, -⟩ := hW.2.1 i _ hi
  have hcls := (hKk.1 0 _ rfl).2
  obtain ⟨kA, comp, k1, k2, k3, -⟩ := (hKk.2 3 _ rfl).2
  have hcomp : comp = (q_D Γ).1 0 := Option.some.inj (k3.symm.trans hcls.1)
  subst hcomp
  obtain ⟨kC, hkC, -⟩ := hcls.2
  refine W.aast CC.1 CC.2.1 e0 (fun q h => by cases h) (fun h => by cases h) k1 k2 rfl hkC ⟨q_nn h0 (by omega), by rw [arrV_size, q_cl h0 (by omega)]; omega⟩ g1 (fun q h => by rw [g3] at h; cases h) (by rw [g2]; exact hkC) (by rw [g2]; exact va_assign hcls) rfl rfl hd fun H1 e1 z1 oq => ?_
  refine kk p e R s m args below meth c H1 _ cells slots Z ls CC hc1 hs1 (hW.upd hK (q_up w.2 a z i) z1 oq ?_ (fun k hk => q_up_ne hk) (fun j => q_up_rg hW.2.2 (by omega) a j)) (hS.put z1 oq (show q_b Γ ≤ q_b Γ + a by omega)) hl hr
  show H1[q_b Γ + a]? = some (vp_cell (q_cA Γ 3) (n, .inr (.inr (.inr (.inr fun j => q_el (q_b Γ) (q_up w.2 a z i a j))))))
  rw [e1, vp_cell_q, arrV_store, q_cl h0 (by omega)]
  congr 2
  funext j
  simp only [updV, q_up]
  by_cases hj : j = z.toNat
  · rw [if_pos hj, if_pos ⟨trivial, by omega⟩]
    simp only [q_el]
    rw [if_neg (by omega)]
    simp [va_rf]
  · rw [if_neg hj, if_neg (fun h => hj (by have := h.2; omega))]
theorem q_alen {a t n : Nat} (hd : decode M.2.1 pc = .ok (.arraylength, 1)) (hp : pc + 1 = pc') (ht : t < 4) (hK : w.1[a]? = some (.inr (t, n))) (kk : q_Go Γ M d bc bs pc' L (q_i n :: st) w Q) : q_Go Γ M d bc bs pc L (q_r Γ a :: st) w Q := by
  subst hp
  intro p e R s m args below meth c H locs cells slots Z ls CC hc1 hs1 hW hS hl hr
  exact va_alen (ws := [(q_b Γ + a, q_ent Γ (.inr (t, n)) (w.2 a))]) CC.1 CC.2.1 CC.2.2.2.2.2.2.2.2.1.1 (q_P1 (hW.2.1 a _ hK)) 0 t rfl (ty := q_ty t) (by match t, ht with | 0, _ => rfl | 1, _ => rfl | 2, _ => rfl | 3, _ => rfl) (v := Int32.ofInt n) (by rw [Int32.ofInt_eq_ofNat]) hd (kk p e R s m args below meth c H locs cells slots Z ls CC hc1 hs1 hW hS hl hr)
/-- the static tables, and the script -/
theorem q_gets {idx i : Nat} (hd : decode M.2.1 pc = .ok (.getstatic idx, 3)) (hp : pc + 3 = pc') (hi : i < 3) (hlk : Cond.fieldLink M.1.cls idx (q_stn i).1 (q_stn i).2 "[I" ∈ q_words) (kk : q_Go Γ M d bc bs pc' L (.ref (q_ad Γ i) :: st) w Q) : q_Go Γ M d bc bs pc L st w Q := by
  subst hp
  intro p e R s m args below meth c H locs cells slots Z ls CC hc1 hs1 hW hS hl hr
  exact va_gets CC.1 CC.2.1 (CC.2.2.2.2.2.2.2.2.1.2.2.1 i hi) hS CC.2.2.2.1 (CC.2.2.2.2.2.2.2.1 _ hlk) (fun _ h => h) hd (kk p e R s m args below meth c H locs cells slots Z ls CC hc1 hs1 hW hS hl hr)
theorem q_tald {i : Nat} {z : Int} (hd : decode M.2.1 pc = .ok (.iaload, 1)) (hp : pc + 1 = pc') (hi : i < 4) (h0 : 0 ≤ z) (h1 : z < ((q_tab Γ i).1 : Int)) (h2 : z ≤ 2147483647) (kk : q_Go Γ M d bc bs pc' L (q_i ((q_tab Γ i).2 z.toNat) :: st) w Q) : q_Go Γ M d bc bs pc L (q_i z :: .ref (q_ad Γ i) :: st) w Q := by
  subst hp
  intro p e R s m args below meth c H locs cells slots Z ls CC hc1 hs1 hW hS hl hr
  exact va_ti CC.1 CC.2.1 (CC.2.2.2.2.2.2.2.2.1.2.1 i hi) hS (vp_in_iff.mpr (by rw [q_ti ⟨by omega, h2⟩]; exact ⟨h0, h1⟩)) (by rw [q_cl h0 h2]) hd (kk p e R s m args below meth c H locs cells slots Z ls CC hc1 hs1 hW hS hl hr)
theorem q_tlen {i : Nat} (hd : decode M.2.1 pc = .ok (.arraylength, 1)) (hp : pc + 1 = pc') (hi : i < 4) (kk : q_Go Γ M d bc bs pc' L (q_i ((q_tab Γ i).1 : Nat) :: st) w Q) : q_Go Γ M d bc bs pc L (.ref (q_ad Γ i) :: st) w Q := by
  subst hp
  intro p e R s m args below meth c H locs cells slots Z ls CC hc1 hs1 hW hS hl hr
  exact va_tlen CC.1 CC.2.1 (CC.2.2.2.2.2.2.2.2.1.2.1 i hi) hS (v := Int32.ofInt ((q_tab Γ i).1 : Nat)) (by rw [Int32.ofInt_eq_ofNat]) hd (kk p e R s m args below meth c H locs cells slots Z ls CC hc1 hs1 hW hS hl hr)
end HA
end
section
/-! copies, making, returns, calls -/
section HC
variable {Γ : q_G} {M : q_M} {d bc bs pc pc' : Nat} {L : List (Nat × Value)} {st : List Value} {w : q_W} {Q : Option Value → q_W → Prop}
theorem q_fits_int (x : Int32) : fits .int (.int x) = true := rfl
theorem q_copy {idx a0 a n0 n1 : Nat} {sp dp n : Int} (hd : decode M.2.1 pc = .ok (.invokestatic idx, 3)) (hp : pc + 3 = pc') (hlk : Cond.methodLink M.1.cls idx arraycopyName ∈ q_words) (hnat : Cond.native arraycopyName ∈ q_words) (hstat : Cond.static arraycopyName ∈ q_words) (hini : Cond.initialized "java/lang/System" ∈ q_words) (hd1 : 1 ≤ d) (hcat : (st.map fun v => v.category).sum ≤ 8)
    (hK0 : w.1[a0]? = some (.inr (0, n0))) (hK1 : w.1[a]? = some (.inr (0, n1))) (h1 : 0 ≤ sp) (h2 : 0 ≤ dp) (h3 : 0 ≤ n) (h4 : sp + n ≤ (n0 : Int)) (h5 : dp + n ≤ (n1 : Int)) (h6 : n0 ≤ 2147483647) (h7 : n1 ≤ 2147483647)
    (kk : q_Go Γ M d bc bs pc' L st (w.1, q_cp w.2 a0 a sp dp n) Q) : q_Go Γ M d bc bs pc L (q_i n :: q_i dp :: q_r Γ a :: q_i sp :: q_r Γ a0 :: st) w Q := by
  subst hp
  intro p e R s m args below meth c H locs cells slots Z ls CC hc1 hs1 hW hS hl hr
  have hK := CC.2.2.2.2.2.2.2.2.1.1
  have hts := CC.2.2.2.2.2.2.2.1
  have e0 : H[q_b Γ + a0]? = some (arrV (q_cA Γ 0) n0 (fun j => .int (Int32.ofInt (w.2 a0 j)))) := hW.2.1 a0 _ hK0
  have e1 : H[q_b Γ + a]? = some (arrV (q_cA Γ 0) n1 (fun j => .int (Int32.ofInt (w.2 a j)))) := hW.2.1 a _ hK1
  obtain ⟨-, k0, hk0, cm0, hkk0⟩ := (hK.2 0 _ rfl).1 n0 (fun j => .int (Int32.ofInt (w.2 a0 j)))
  have hsp := q_cl (z := sp) h1 (by omega)
  have hdp := q_cl (z := dp) h2 (by omega)
  have hnn := q_cl (z := n) h3 (by omega)
  have tsp := q_ti (z := sp) ⟨by omega, by omega⟩
  have tdp := q_ti (z := dp) ⟨by omega, by omega⟩
  have tnn := q_ti (z := n) ⟨by omega, by omega⟩
  intro T hT X
  obtain ⟨vm', X', step⟩ := X.arraycopy CC.1 CC.2.2.2.1 (hts _ hlk) (hts _ hnat) (hts _ hstat) (hts _ hini) (src := q_b Γ + a0) (dst := q_b Γ + a) (cs := arrV (q_cA Γ 0) n0 (fun j => .int (Int32.ofInt (w.2 a0 j)))) (cd := arrV (q_cA Γ 0) n1 (fun j => .int (Int32.ofInt (w.2 a j)))) (srcPos := Int32.ofInt sp) (destPos := Int32.ofInt dp) (n := Int32.ofInt n) (by rw [hT]; exact e0) (by rw [hT]; exact e1)
    (fun _ h => by cases h) (fun _ h => by cases h) (fun h => by cases h) (fun h => by cases h) hk0 hk0 hkk0 hkk0 (by simp [refKind]) (q_nn h1 (by omega)) (q_nn h2 (by omega)) (q_nn h3 (by omega))
    (by rw [tsp, tnn, arrV_size]; omega)
    (by rw [tdp, tnn, arrV_size]; omega)
    (fun vm₁ _ i hi => by
      have e2 : (arrV (q_cA Γ 0) n0 (fun j => .int (Int32.ofInt (w.2 a0 j)))).slots.getD ((Int32.ofInt sp).toNatClampNeg + i) .null = .int (Int32.ofInt (w.2 a0 ((Int32.ofInt sp).toNatClampNeg + i : Nat))) := by
        rw [Array.getD_eq_getD_getElem?, arrV_read _ _ (by rw [hsp]; rw [hnn] at hi; omega)]
        rfl
      refine ⟨?_, ?_⟩
      · rw [e2]
        exact q_fits_int _
      · rw [e2]
        exact trivial)
    (g := F0 m pc ls (q_i n :: q_i dp :: q_r Γ a :: q_i sp :: q_r Γ a0 :: st)) rfl (by rw [hl.1, CC.2.2.1]) (rest := st) rfl (by rw [CC.2.1]; exact hd) (by have := CC.2.2.2.2.2.2.2.2.2.2.1; omega) (by have h8 := CC.2.2.2.2.2.2.2.2.2.2.2; show 2 * 0 + _ + (7 + 11) ≤ _; omega)
  have ec : copied (arrV (q_cA Γ 0) n0 (fun j => .int (Int32.ofInt (w.2 a0 j)))) (arrV (q_cA Γ 0) n1 (fun j => .int (Int32.ofInt (w.2 a j)))) (Int32.ofInt sp) (Int32.ofInt dp) (Int32.ofInt n) = vp_cell (q_cA Γ 0) (n1, .inl (va_cpy (fun j : Nat => Int32.ofInt (w.2 a0 j)) (fun j : Nat => Int32.ofInt (w.2 a j)) (Int32.ofInt sp).toNatClampNeg (Int32.ofInt dp).toNatClampNeg (Int32.ofInt n).toNatClampNeg)) :=
    va_copied (fun z => .int z) (q_cA Γ 0) (q_cA Γ 0) (fun j : Nat => Int32.ofInt (w.2 a0 j)) (fun j : Nat => Int32.ofInt (w.2 a j)) (by rw [hsp, hnn]; omega)
  have ef : va_cpy (fun j : Nat => Int32.ofInt (w.2 a0 j)) (fun j : Nat => Int32.ofInt (w.2 a j)) (Int32.ofInt sp).toNatClampNeg (Int32.ofInt dp).toNatClampNeg (Int32.ofInt n).toNatClampNeg = fun j : Nat => Int32.ofInt (q_cp w.2 a0 a sp dp n a j) := by
    rw [hsp, hdp, hnn]
    funext j
    simp only [va_cpy, q_cp]
    by_cases hj : dp.toNat ≤ j ∧ j < dp.toNat + n.toNat
    · rw [if_pos hj, if_pos ⟨trivial, by omega, by omega⟩]
      exact congrArg (fun z => Int32.ofInt (w.2 a0 z)) (by omega)
    · rw [if_neg hj, if_neg (fun h => hj (by omega))]
  rw [ec, ef] at X' step
  have hl2 : q_b Γ + a < H.size := (Array.getElem?_eq_some_iff.mp e1).1
  generalize hcell : vp_cell (q_cA Γ 0) (n1, .inl fun j : Nat => Int32.ofInt (q_cp w.2 a0 a sp dp n a j)) = cell at X' step
  have hheap : ((T.setVm vm').setCell (q_b Γ + a) cell).heap = H.setIfInBounds (q_b Γ + a) cell := by rw [← hT]; rfl
  have oq : ∀ q : Nat, q ≠ q_b Γ + a → (H.setIfInBounds (q_b Γ + a) cell)[q]? = H[q]? := fun q hq => by simp [Array.getElem?_setIfInBounds, Ne.symm hq]
  obtain ⟨t, a1, b1⟩ := kk p e R s m args below meth c (H.setIfInBounds (q_b Γ + a) cell) _ cells slots Z ls CC hc1 hs1
    (hW.upd hK1 (q_cp w.2 a0 a sp dp n) (by simp) oq (by show (H.setIfInBounds (q_b Γ + a) cell)[q_b Γ + a]? = some (vp_cell (q_cA Γ 0) (n1, .inl fun j : Nat => Int32.ofInt (q_cp w.2 a0 a sp dp n a j))); rw [hcell]; simp [Array.getElem?_setIfInBounds, hl2])
      (fun k hk => by funext j; simp [q_cp, hk]) (fun j => by unfold q_cp; split <;> exact hW.2.2 _ _))
    ⟨by simp; exact hS.1, fun q g1 g2 => by
      rw [oq q (fun e => g2 (by rw [e]; show q_b Γ ≤ q_b Γ + a; omega))]
      exact hS.2.1 q g1 g2, fun q hq => by
      rcases List.mem_append.mp hq with h | h
      · exact hS.2.2 q h
      · obtain ⟨z, -, hz⟩ := List.mem_map.mp h
        rw [← hz]
        show q_b Γ ≤ q_b Γ + a
        omega⟩ hl hr _ hheap X'
  exact ⟨t, step t a1, b1⟩
theorem q_max {idx : Nat} {a b : Int} (hd : decode M.2.1 pc = .ok (.invokestatic idx, 3)) (hp : pc + 3 = pc') (hlk : Cond.methodLink M.1.cls idx Lib.Math.max.name ∈ q_words) (hstat : Cond.static Lib.Math.max.name ∈ q_words) (hini : Cond.initialized "java/lang/Math" ∈ q_words) (hcode : Cond.code Lib.Math.max.name Lib.Math.max.code 2 (some .int) ∈ q_words) (hd1 : 1 ≤ d) (hcat : (st.map fun v => v.category).sum ≤ 8)
    (ra : q_rg a) (rb : q_rg b) (k : q_Go Γ M d bc bs pc' L (q_i (max a b) :: st) w Q) : q_Go Γ M d bc bs pc L (q_i b :: q_i a :: st) w Q := by
  subst hp
  intro p e R s m args below meth c H locs cells slots Z ls C hc hs hW hS hl hr
  have hts := C.2.2.2.2.2.2.2.1
  have h8 := C.2.2.2.2.2.2.2.2.2.2
  refine va_mmax C.1 C.2.1 (by rw [hl.1, C.2.2.1]) C.2.2.2.1 (hts _ hlk) (hts _ hstat) (hts _ hini) (hts _ hcode) (by omega) (by omega) (by omega) (by omega) hd ?_
  have e9 : (if Int32.ofInt a < Int32.ofInt b then Int32.ofInt b else Int32.ofInt a) = Int32.ofInt (max a b) := by
    split
    · rename_i h
      rw [q_lt ra rb] at h
      rw [Int.max_eq_right (by omega)]
    · rename_i h
      rw [q_lt ra rb] at h
      rw [Int.max_eq_left (by omega)]
  rw [e9]
  exact k p e R s m args below meth c H locs cells slots Z ls C hc hs hW hS hl hr
theorem q_min {idx : Nat} {a b : Int} (hd : decode M.2.1 pc = .ok (.invokestatic idx, 3)) (hp : pc + 3 = pc') (hlk : Cond.methodLink M.1.cls idx Lib.Math.min.name ∈ q_words) (hstat : Cond.static Lib.Math.min.name ∈ q_words) (hini : Cond.initialized "java/lang/Math" ∈ q_words) (hcode : Cond.code Lib.Math.min.name Lib.Math.min.code 2 (some .int) ∈ q_words) (hd1 : 1 ≤ d) (hcat : (st.map fun v => v.category).sum ≤ 8)
    (ra : q_rg a) (rb : q_rg b) (k : q_Go Γ M d bc bs pc' L (q_i (min a b) :: st) w Q) : q_Go Γ M d bc bs pc L (q_i b :: q_i a :: st) w Q := by
  subst hp
  intro p e R s m args below meth c H locs cells slots Z ls C hc hs hW hS hl hr
  have hts := C.2.2.2.2.2.2.2.1
  have h8 := C.2.2.2.2.2.2.2.2.2.2
  refine va_mmin C.1 C.2.1 (by rw [hl.1, C.2.2.1]) C.2.2.2.1 (hts _ hlk) (hts _ hstat) (hts _ hini) (hts _ hcode) (by omega) (by omega) (by omega) (by omega) hd ?_
  have e9 : (if Int32.ofInt b < Int32.ofInt a then Int32.ofInt b else Int32.ofInt a) = Int32.ofInt (min a b) := by
    split
    · rename_i h
      rw [q_lt rb ra] at h
      rw [Int.min_eq_right (by omega)]
    · rename_i h
      rw [q_lt rb ra] at h
      rw [Int.min_eq_left (by omega)]
  rw [e9]
  exact k p e R s m args below meth c H locs cells slots Z ls C hc hs hW hS hl hr
/-- Object's own constructor -/
theorem q_obj {idx a : Nat} (hd : decode M.2.1 pc = .ok (.invokespecial idx, 3)) (hp : pc + 3 = pc') (hlk : Cond.methodLink M.1.cls idx Lib.objectInit ∈ q_words) (hin : Cond.instanceMethod Lib.objectInit ∈ q_words) (hcode : Cond.code Lib.objectInit ⟨#[0xb1]⟩ 1 none ∈ q_words) (hd1 : 1 ≤ d) (hcat : (st.map fun v => v.category).sum ≤ 8)
    (k : q_Go Γ M d bc bs pc' L st w Q) : q_Go Γ M d bc bs pc L (.ref a :: st) w Q := by
  subst hp
  intro p e R s m args below meth c H locs cells slots Z ls C hc hs hW hS hl hr
  have hts := C.2.2.2.2.2.2.2.1
  have h8 := C.2.2.2.2.2.2.2.2.2.2
  exact W.objInit C.1 C.2.1 C.2.2.2.1 (hts _ hlk) (hts _ hin) (hts _ hcode) rfl (by rw [hl.1, C.2.2.1]) (a := a) (rest := st) rfl hd (by omega) (by show 2 * 0 + _ + 12 ≤ _; omega) (k p e R s m args below meth c H locs cells slots Z ls C hc hs hW hS hl hr)
/-- returns -/
theorem q_iret {ty : FieldType} {z : Int} (hd : decode M.2.1 pc = .ok (.ireturn, 1)) (hr : M.2.2.2 = some ty) (hn : narrow ty (q_i z) = q_i z) (hq : Q (some (q_i z)) w) : q_Go Γ M d bc bs pc L [q_i z] w Q := by
  intro p e R s m args below meth c H locs cells slots Z ls C hc hs hW hS hl hret
  exact hret (some (q_i z)) pc w H locs cells slots ls (by omega) (by omega) hW hS hq ⟨hd, ty, hr, hn⟩
theorem q_vret (hd : decode M.2.1 pc = .ok (.return_, 1)) (hr : M.2.2.2 = none) (hq : Q none w) : q_Go Γ M d bc bs pc L [] w Q := by
  intro p e R s m args below meth c H locs cells slots Z ls C hc hs hW hS hl hret
  exact hret none pc w H locs cells slots ls (by omega) (by omega) hW hS hq ⟨hd, hr⟩
theorem q_aret {n : String} {a : Nat} (hd : decode M.2.1 pc = .ok (.areturn, 1)) (hr : M.2.2.2 = some (.object n)) (hq : Q (some (.ref a)) w) : q_Go Γ M d bc bs pc L [.ref a] w Q := by
  intro p e R s m args below meth c H locs cells slots Z ls C hc hs hW hS hl hret
  exact hret (some (.ref a)) pc w H locs cells slots ls (by omega) (by omega) hW hS hq ⟨hd, n, hr⟩
end HC
/-! a method's contract out of its walk -/
def q_Sp (Γ : q_G) (M : q_M) (d bc bs : Nat) (av : List Value) (w : q_W) (Q : Option Value → q_W → Prop) : Prop := q_Go Γ M d bc bs 0 (lv_args 0 av) [] w Q
def q_ev (v0 : Option Value) (w0 : q_W) : Option Value → q_W → Prop := fun v w => v = v0 ∧ w = w0
def q_rm (d bc bs : Nat) : Room := { frames := d, cells := bc, slots := bs, locals := 40 * d }
def q_Pc (Γ : q_G) (av : List Value) (w : q_W) : Array Value → State → Prop := fun v U => v = av.toArray ∧ q_Wd Γ w U.heap ∧ q_Cx Γ U ∧ q_b Γ ≤ U.heap.size
def q_Qc (Γ : q_G) (Q : Option Value → q_W → Prop) : Array Value → State → Outcome → State → Prop := fun _ st oc t => (∃ (v : Option Value) (w' : q_W), oc = .returned v ∧ Q v w' ∧ q_Wd Γ w' t.heap) ∧ va_F (q_A Γ) st t
theorem q_met {Γ : q_G} {M : q_M} {d bc bs : Nat} {av : List Value} {w : q_W} {Q : Option Value → q_W → Prop} (hpl : plainName M.1.cls = true) (hls : (lg_sl av).length ≤ M.2.2.1) (g : q_Sp Γ M d bc bs av w Q) :
    Met (q_l Γ) M.1 (q_ws M) (q_rm d bc bs) (q_Pc Γ av w) (q_Qc Γ Q) bc bs (q_A Γ) := by
  refine Met.ofW (cc := M.2.1) (maxL := M.2.2.1) (ret := M.2.2.2) hpl rfl ?_
  intro p e s m args below meth c s₁ B hml hv
  obtain ⟨rfl, hW, hcx, hb⟩ := hv
  have hts := atoms_spec (ws := q_ws M) B.pre
  rw [lg_entry_eq]
  refine g p e _ s m _ below meth c s.heap [] 0 0 _ _ ⟨B.exec, B.bytes, hml, findClass_of_methodNamed B.named, (name_of_methodNamed B.named B.method).1, B.returns, B.notSynchronized, fun w hw => hts w (List.mem_cons_of_mem _ hw), hcx, hb, Nat.le_refl _, Nat.le_refl _⟩ (Nat.le_of_eq (Nat.zero_add _)) (Nat.le_of_eq (Nat.zero_add _)) hW va_S.rf (lv_entry av hls) ?_
  intro v pc' w' H' locs' cells' slots' ls' h1 h2 hW' hS' hQ hR
  refine W.widen (k := bc) (n := bs) (by omega) (by omega) ?_
  have hq : ∀ t : State, t.heap = H' → s.WarmedH t.vm → q_Qc Γ Q av.toArray s (.returned v) t := fun t ht hWm => ⟨⟨v, w', rfl, hQ, by rw [ht]; exact hW'⟩, hS'.F ht⟩
  match v, hR with
  | none, hR => exact W.vret B.exec B.bytes (B.returns.trans hR.2) hq hS'.2.2 hR.1 B.notSynchronized
  | some (.int x), hR =>
    obtain ⟨hd, ty, e1, e2⟩ := hR
    exact W.zret B.exec B.bytes (B.returns.trans e1) e2 hq hS'.2.2 hd B.notSynchronized
  | some (.ref a), hR =>
    obtain ⟨hd, n, e1⟩ := hR
    exact W.aret B.exec B.bytes (B.returns.trans e1) (Or.inl ⟨n, rfl⟩) (Or.inr ⟨a, rfl⟩) hq hS'.2.2 hd B.notSynchronized
  | some (.long _), hR => exact hR.elim
  | some (.float _), hR => exact hR.elim
  | some (.double _), hR => exact hR.elim
  | some .null, hR => exact hR.elim
end
section
/-! calls by contract -/
def q_MB (M : q_M) (n : Nat) : Prop := Cond.code M.1 M.2.1 M.2.2.1 M.2.2.2 ∈ q_words ∧ Cond.initialized M.1.cls ∈ q_words ∧ (M.1.cls ≠ "java/lang/invoke/MethodHandle" ∧ M.1.cls ≠ "java/lang/invoke/VarHandle" ∧ (parseMethodDescriptor M.1.desc).map (fun d => d.parameters.length) = some n) ∧ plainName M.1.cls = true ∧ M.2.2.1 ≤ 21
def q_MV (M : q_M) (n : Nat) : Prop := q_MB M n ∧ Cond.instanceMethod M.1 ∈ q_words ∧ Cond.selects M.1.cls M.1 M.1 ∈ q_words
def q_MS (M : q_M) (n : Nat) : Prop := q_MB M n ∧ Cond.static M.1 ∈ q_words
def q_MI (M : q_M) (n : Nat) : Prop := q_MB M n ∧ Cond.instanceMethod M.1 ∈ q_words ∧ M.1.name = "<init>" ∧ M.2.2.2 = none
def q_Lk (own : String) (idx : Nat) (M : q_M) : Prop := Cond.methodLink own idx M.1 ∈ q_words ∨ ∃ host, Cond.methodLinkNest own idx M.1 host ∈ lw_tbl
theorem q_words_in {w : Cond} (h : w ∈ q_words) : w ∈ lw_tbl ∧ goodWord w = true := List.mem_filter.mp h
theorem q_good {M : q_M} {n : Nat} (h : q_MB M n) : GoodIn q_words (q_ws M) := by
  intro w hw
  rcases List.mem_cons.mp hw with rfl | hw
  · exact ⟨h.1, good_of_word (q_words_in h.1).2⟩
  · exact ⟨hw, good_of_word (q_words_in hw).2⟩
theorem q_blind (Γ : q_G) (av : List Value) (w : q_W) : FrameBlind (q_Pc Γ av w) := fun a U g mk h => ⟨h.1, h.2.1, q_Cx.warm (U := U.calling g mk a) (State.WarmedH.refl U) (fun _ _ _ => rfl) h.2.2.1, h.2.2.2⟩
section HI
variable {Γ : q_G} {M M' : q_M} {d d' bc bs bc' bs' bc2 bs2 pc pc' : Nat} {L : List (Nat × Value)} {st stk As : List Value} {w : q_W} {Q Q' : Option Value → q_W → Prop}
theorem q_goes {p : Program} {e : Env} {R : Room} {s : State} {m : MethodId} {args : Array Value} {below : List Frame} {meth : Method} {c : Code} {H : Heap} {locs : List Loc} {cells slots : Nat} {Z : State → Prop} {ls : Array Slot} {st0 rest : List Value} {a : Array Value}
    (hrun : va_Run p (q_l Γ) e R s m args below meth c H locs cells slots bc' bs' (F0 m pc ls st0) rest (q_Qc Γ Q' a) (q_A Γ)) (hS : va_S (q_A Γ) s.heap H locs)
    (kk : ∀ (v : Option Value) (w' : q_W) (H1 : Heap) (locs1 : List Loc), Q' v w' → q_Wd Γ w' H1 → va_S (q_A Γ) s.heap H1 locs1 → W p (q_l Γ) e R s m args below meth c H1 locs1 (cells + bc') (slots + bs') Z (F0 m (pc + 3) ls (v.toList ++ rest))) :
    W p (q_l Γ) e R s m args below meth c H locs cells slots Z (F0 m pc ls st0) := by
  intro T hT X
  obtain ⟨v, st₀, t, T', L', h0, X', hL, e1, e2, ⟨⟨v', w', hv, hQ, hW'⟩, hz, hk⟩, st⟩ := hrun T hT X
  cases hv
  rw [h0] at hz hk
  obtain ⟨t2, a1, b1⟩ := kk v w' T'.heap (locs ++ L') hQ (by rw [e1]; exact hW')
    ⟨Nat.le_trans hS.1 (by rw [e1]; exact hz), fun q h1 h2 => by rw [e1, hk q (Nat.lt_of_lt_of_le h1 hS.1) h2]; exact hS.2.1 q h1 h2, fun q hq => by
      rcases List.mem_append.mp hq with h | h
      · exact hS.2.2 q h
      · exact hL q h⟩ T' rfl X'
  exact ⟨t2, st t2 a1, b1⟩
theorem q_Pc_at {p : Program} {R : Room} {s : State} {m : MethodId} {args : Array Value} {meth : Method} {c : Code} {H : Heap} {locs : List Loc} {av : List Value} (C : q_QC Γ M d p s m args meth c R) (hW : q_Wd Γ w H) (hS : va_S (q_A Γ) s.heap H locs) : ∀ U : State, U.heap = H → s.WarmedH U.vm → q_Pc Γ av w av.toArray U := by
  intro U hU hWm
  refine ⟨rfl, by rw [hU]; exact hW, C.2.2.2.2.2.2.2.2.1.warm hWm (fun a h1 h2 => by rw [hU]; exact hS.2.1 a h1 h2), ?_⟩
  rw [hU, hW.1]
  omega
theorem q_room {R : Room} (h1 : d' + 1 ≤ d) (h2 : d ≤ R.frames ∧ 40 * d ≤ R.locals) {n : Nat} (hm : q_MB M' n) : (q_rm d' bc' bs').frames + 1 ≤ R.frames ∧ 8 + (M'.2.2.1 + 11) + (q_rm d' bc' bs').locals ≤ R.locals := by
  have h3 := hm.2.2.2.2
  show d' + 1 ≤ R.frames ∧ 8 + (M'.2.2.1 + 11) + 40 * d' ≤ R.locals
  omega
/-- an instance method -/
theorem q_callA {idx i n ci : Nat} {fl : List Nat} (hd : decode M.2.1 pc = .ok (.invokevirtual idx, 3)) (hp : pc + 3 = pc') (hl : q_Lk M.1.cls idx M') (hm : q_MV M' n) (hK : w.1[i]? = some (.inl (ci, fl))) (hci : (vwCl[ci]?).map (fun q => q.1) = some M'.1.cls)
    (g : q_Sp Γ M' d' bc' bs' (q_r Γ i :: As) w Q') (hst : stk = As.reverse ++ q_r Γ i :: st) (hn : As.length = n) (hls : (lg_sl (q_r Γ i :: As)).length ≤ M'.2.2.1) (hdd : d' + 1 ≤ d) (hcat : (st.map fun v => v.category).sum ≤ 8) (hbc : bc = bc' + bc2) (hbs : bs = bs' + bs2)
    (k : ∀ v w', Q' v w' → q_Go Γ M d bc2 bs2 pc' L (v.toList ++ st) w' Q) : q_Go Γ M d bc bs pc L stk w Q := by
  subst hp; subst hst; subst hbc; subst hbs
  intro p e R s m args below meth c H locs cells slots Z ls C hc hs hW hS hl2 hr
  have hts := C.2.2.2.2.2.2.2.1
  have hKk := C.2.2.2.2.2.2.2.2.1.1
  have hmet := q_met hm.1.2.2.2.1 hls g
  have hroom := q_room (bc' := bc') (bs' := bs') hdd C.2.2.2.2.2.2.2.2.2.2 hm.1
  obtain ⟨r, h1, cell, q1, q2, q3, -⟩ := hW.2.1 i _ hK
  have hr1 : r.1 = M'.1.cls := by
    rw [h1] at hci
    exact Option.some.inj hci
  have hcls := (hKk.1 ci r h1).2.1
  have hPV : PreV s H M'.1.cls (q_b Γ + i) (q_Pc Γ (q_r Γ i :: As) w) As := ⟨q_blind Γ _ w, ⟨cell, q1, by rw [q3]; rfl, by rw [q2, ← hr1]; exact hcls⟩, q_Pc_at C hW hS⟩
  have fin : ∀ (v : Option Value) (w' : q_W) (H1 : Heap) (locs1 : List Loc), Q' v w' → q_Wd Γ w' H1 → va_S (q_A Γ) s.heap H1 locs1 → W p (q_l Γ) e R s m args below meth c H1 locs1 (cells + bc') (slots + bs') Z (F0 m (pc + 3) ls (v.toList ++ st)) :=
    fun v w' H1 locs1 hQ hW1 hS1 => k v w' hQ p e R s m args below meth c H1 locs1 _ _ Z ls C (by omega) (by omega) hW1 hS1 hl2 (fun v2 pc2 w2 H2 locs2 cells2 slots2 ls2 a1 a2 => hr v2 pc2 w2 H2 locs2 cells2 slots2 ls2 (by omega) (by omega))
  rcases hl with hl | ⟨host, hl⟩
  · exact q_goes (va_runV (As := As) (rest := st) ⟨C.1, C.2.1, C.2.2.1, C.2.2.2.1, hts⟩ hmet ⟨callB_of n hts (q_good hm.1) rfl rfl rfl (hts _ hm.1.2.1) (hts _ hl) hm.1.2.2.1 hroom, hts _ hm.2.1, hts _ hm.2.2⟩ hPV rfl hn hl2.1 rfl (lv_room hcat) hd ⟨by omega, by omega⟩) hS fin
  · exact q_goes (va_runVN (As := As) (rest := st) (host := host) ⟨C.1, C.2.1, C.2.2.1, C.2.2.2.1, hts⟩ hmet ⟨va_cnB n hts (q_good hm.1) rfl rfl rfl (C.2.2.2.2.2.2.2.2.1.2.2.2.1 _ hl rfl) (hts _ hm.1.2.1) hm.1.2.2.1 hroom, hts _ hm.2.1, hts _ hm.2.2⟩ hPV rfl hn hl2.1 rfl (lv_room hcat) hd ⟨by omega, by omega⟩) hS fin
/-- a static method -/
theorem q_callB {idx n : Nat} (hd : decode M.2.1 pc = .ok (.invokestatic idx, 3)) (hp : pc + 3 = pc') (hl : q_Lk M.1.cls idx M') (hm : q_MS M' n)
    (g : q_Sp Γ M' d' bc' bs' As w Q') (hst : stk = As.reverse ++ st) (hn : As.length = n) (hls : (lg_sl As).length ≤ M'.2.2.1) (hdd : d' + 1 ≤ d) (hcat : (st.map fun v => v.category).sum ≤ 8) (hbc : bc = bc' + bc2) (hbs : bs = bs' + bs2)
    (k : ∀ v w', Q' v w' → q_Go Γ M d bc2 bs2 pc' L (v.toList ++ st) w' Q) : q_Go Γ M d bc bs pc L stk w Q := by
  subst hp; subst hst; subst hbc; subst hbs
  intro p e R s m args below meth c H locs cells slots Z ls C hc hs hW hS hl2 hr
  have hts := C.2.2.2.2.2.2.2.1
  have hmet := q_met hm.1.2.2.2.1 hls g
  have hroom := q_room (bc' := bc') (bs' := bs') hdd C.2.2.2.2.2.2.2.2.2.2 hm.1
  have hPS : PreS s H (q_Pc Γ As w) As := ⟨q_blind Γ _ w, q_Pc_at C hW hS⟩
  have fin : ∀ (v : Option Value) (w' : q_W) (H1 : Heap) (locs1 : List Loc), Q' v w' → q_Wd Γ w' H1 → va_S (q_A Γ) s.heap H1 locs1 → W p (q_l Γ) e R s m args below meth c H1 locs1 (cells + bc') (slots + bs') Z (F0 m (pc + 3) ls (v.toList ++ st)) :=
    fun v w' H1 locs1 hQ hW1 hS1 => k v w' hQ p e R s m args below meth c H1 locs1 _ _ Z ls C (by omega) (by omega) hW1 hS1 hl2 (fun v2 pc2 w2 H2 locs2 cells2 slots2 ls2 a1 a2 => hr v2 pc2 w2 H2 locs2 cells2 slots2 ls2 (by omega) (by omega))
  rcases hl with hl | ⟨host, hl⟩
  · exact q_goes (va_runS (As := As) (rest := st) ⟨C.1, C.2.1, C.2.2.1, C.2.2.2.1, hts⟩ hmet ⟨callB_of n hts (q_good hm.1) rfl rfl rfl (hts _ hm.1.2.1) (hts _ hl) hm.1.2.2.1 hroom, hts _ hm.2⟩ hPS rfl hn hl2.1 rfl (lv_room hcat) hd ⟨by omega, by omega⟩) hS fin
  · exact q_goes (va_runSN (As := As) (rest := st) (host := host) ⟨C.1, C.2.1, C.2.2.1, C.2.2.2.1, hts⟩ hmet ⟨va_cnB n hts (q_good hm.1) rfl rfl rfl (C.2.2.2.2.2.2.2.2.1.2.2.2.1 _ hl rfl) (hts _ hm.1.2.1) hm.1.2.2.1 hroom, hts _ hm.2, trivial⟩ hPS rfl hn hl2.1 rfl (lv_room hcat) hd ⟨by omega, by omega⟩) hS fin
/-- a constructor -/
theorem q_callC {idx i n : Nat} (hd : decode M.2.1 pc = .ok (.invokespecial idx, 3)) (hp : pc + 3 = pc') (hl : q_Lk M.1.cls idx M') (hm : q_MI M' n)
    (g : q_Sp Γ M' d' bc' bs' (q_r Γ i :: As) w Q') (hst : stk = As.reverse ++ q_r Γ i :: st) (hn : As.length = n) (hls : (lg_sl (q_r Γ i :: As)).length ≤ M'.2.2.1) (hdd : d' + 1 ≤ d) (hcat : (st.map fun v => v.category).sum ≤ 8) (hbc : bc = bc' + bc2) (hbs : bs = bs' + bs2)
    (k : ∀ v w', Q' v w' → q_Go Γ M d bc2 bs2 pc' L (v.toList ++ st) w' Q) : q_Go Γ M d bc bs pc L stk w Q := by
  subst hp; subst hst; subst hbc; subst hbs
  intro p e R s m args below meth c H locs cells slots Z ls C hc hs hW hS hl2 hr
  have hts := C.2.2.2.2.2.2.2.1
  have hmet := q_met hm.1.2.2.2.1 hls g
  have hroom := q_room (bc' := bc') (bs' := bs') hdd C.2.2.2.2.2.2.2.2.2.2 hm.1
  have hPS : PreS s H (q_Pc Γ (q_r Γ i :: As) w) (q_r Γ i :: As) := ⟨q_blind Γ _ w, q_Pc_at C hW hS⟩
  have hws : q_ws M' = Cond.code M'.1 M'.2.1 M'.2.2.1 none :: q_words := by unfold q_ws; rw [hm.2.2.2]
  have fin : ∀ (v : Option Value) (w' : q_W) (H1 : Heap) (locs1 : List Loc), Q' v w' → q_Wd Γ w' H1 → va_S (q_A Γ) s.heap H1 locs1 → W p (q_l Γ) e R s m args below meth c H1 locs1 (cells + bc') (slots + bs') Z (F0 m (pc + 3) ls (v.toList ++ st)) :=
    fun v w' H1 locs1 hQ hW1 hS1 => k v w' hQ p e R s m args below meth c H1 locs1 _ _ Z ls C (by omega) (by omega) hW1 hS1 hl2 (fun v2 pc2 w2 H2 locs2 cells2 slots2 ls2 a1 a2 => hr v2 pc2 w2 H2 locs2 cells2 slots2 ls2 (by omega) (by omega))
  rcases hl with hl | ⟨host, hl⟩
  · exact q_goes (va_runI (As := As) (rest := st) ⟨C.1, C.2.1, C.2.2.1, C.2.2.2.1, hts⟩ hmet ⟨callB_of n hts (q_good hm.1) hws rfl rfl (hts _ hm.1.2.1) (hts _ hl) hm.1.2.2.1 hroom, hm.2.2.1, hts _ hm.2.1⟩ hPS rfl hn hl2.1 rfl (lv_room hcat) hd ⟨by omega, by omega⟩) hS fin
  · exact q_goes (va_runIN (As := As) (rest := st) (host := host) ⟨C.1, C.2.1, C.2.2.1, C.2.2.2.1, hts⟩ hmet ⟨va_cnB n hts (q_good hm.1) hws rfl rfl (C.2.2.2.2.2.2.2.2.1.2.2.2.1 _ hl rfl) (hts _ hm.1.2.1) hm.1.2.2.1 hroom, hm.2.2.1, hts _ hm.2.1⟩ hPS rfl hn hl2.1 rfl (lv_room hcat) hd ⟨by omega, by omega⟩) hS fin
/-- calls that make nothing, answers known -/
theorem q_callVI {idx i n ci : Nat} {fl : List Nat} {z : Int} {w0 : q_W} (hd : decode M.2.1 pc = .ok (.invokevirtual idx, 3)) (hp : pc + 3 = pc') (hl : q_Lk M.1.cls idx M') (hm : q_MV M' n) (hK : w.1[i]? = some (.inl (ci, fl))) (hci : (vwCl[ci]?).map (fun q => q.1) = some M'.1.cls)
    (g : q_Sp Γ M' d' 0 0 (q_r Γ i :: As) w (q_ev (some (q_i z)) w0)) (hst : stk = As.reverse ++ q_r Γ i :: st) (hn : As.length = n) (hls : (lg_sl (q_r Γ i :: As)).length ≤ M'.2.2.1) (hdd : d' + 1 ≤ d) (hcat : (st.map fun v => v.category).sum ≤ 8)
    (k : q_Go Γ M d bc bs pc' L (q_i z :: st) w0 Q) : q_Go Γ M d bc bs pc L stk w Q :=
  q_callA (bc2 := bc) (bs2 := bs) hd hp hl hm hK hci g hst hn hls hdd hcat (Nat.zero_add _).symm (Nat.zero_add _).symm (fun v w' h => by obtain ⟨rfl, rfl⟩ := h; exact k)
theorem q_callVV {idx i n ci : Nat} {fl : List Nat} {w0 : q_W} (hd : decode M.2.1 pc = .ok (.invokevirtual idx, 3)) (hp : pc + 3 = pc') (hl : q_Lk M.1.cls idx M') (hm : q_MV M' n) (hK : w.1[i]? = some (.inl (ci, fl))) (hci : (vwCl[ci]?).map (fun q => q.1) = some M'.1.cls)
    (g : q_Sp Γ M' d' 0 0 (q_r Γ i :: As) w (q_ev none w0)) (hst : stk = As.reverse ++ q_r Γ i :: st) (hn : As.length = n) (hls : (lg_sl (q_r Γ i :: As)).length ≤ M'.2.2.1) (hdd : d' + 1 ≤ d) (hcat : (st.map fun v => v.category).sum ≤ 8)
    (k : q_Go Γ M d bc bs pc' L st w0 Q) : q_Go Γ M d bc bs pc L stk w Q :=
  q_callA (bc2 := bc) (bs2 := bs) hd hp hl hm hK hci g hst hn hls hdd hcat (Nat.zero_add _).symm (Nat.zero_add _).symm (fun v w' h => by obtain ⟨rfl, rfl⟩ := h; exact k)
theorem q_callVQ {idx i n ci : Nat} {fl : List Nat} (hd : decode M.2.1 pc = .ok (.invokevirtual idx, 3)) (hp : pc + 3 = pc') (hl : q_Lk M.1.cls idx M') (hm : q_MV M' n) (hK : w.1[i]? = some (.inl (ci, fl))) (hci : (vwCl[ci]?).map (fun q => q.1) = some M'.1.cls)
    (g : q_Sp Γ M' d' 0 0 (q_r Γ i :: As) w Q') (hst : stk = As.reverse ++ q_r Γ i :: st) (hn : As.length = n) (hls : (lg_sl (q_r Γ i :: As)).length ≤ M'.2.2.1) (hdd : d' + 1 ≤ d) (hcat : (st.map fun v => v.category).sum ≤ 8)
    (k : ∀ v w', Q' v w' → q_Go Γ M d bc bs pc' L (v.toList ++ st) w' Q) : q_Go Γ M d bc bs pc L stk w Q :=
  q_callA (bc2 := bc) (bs2 := bs) hd hp hl hm hK hci g hst hn hls hdd hcat (Nat.zero_add _).symm (Nat.zero_add _).symm k
theorem q_callSI {idx n : Nat} {z : Int} {w0 : q_W} (hd : decode M.2.1 pc = .ok (.invokestatic idx, 3)) (hp : pc + 3 = pc') (hl : q_Lk M.1.cls idx M') (hm : q_MS M' n)
    (g : q_Sp Γ M' d' 0 0 As w (q_ev (some (q_i z)) w0)) (hst : stk = As.reverse ++ st) (hn : As.length = n) (hls : (lg_sl As).length ≤ M'.2.2.1) (hdd : d' + 1 ≤ d) (hcat : (st.map fun v => v.category).sum ≤ 8)
    (k : q_Go Γ M d bc bs pc' L (q_i z :: st) w0 Q) : q_Go Γ M d bc bs pc L stk w Q :=
  q_callB (bc2 := bc) (bs2 := bs) hd hp hl hm g hst hn hls hdd hcat (Nat.zero_add _).symm (Nat.zero_add _).symm (fun v w' h => by obtain ⟨rfl, rfl⟩ := h; exact k)
theorem q_callSV {idx n : Nat} {w0 : q_W} (hd : decode M.2.1 pc = .ok (.invokestatic idx, 3)) (hp : pc + 3 = pc') (hl : q_Lk M.1.cls idx M') (hm : q_MS M' n)
    (g : q_Sp Γ M' d' 0 0 As w (q_ev none w0)) (hst : stk = As.reverse ++ st) (hn : As.length = n) (hls : (lg_sl As).length ≤ M'.2.2.1) (hdd : d' + 1 ≤ d) (hcat : (st.map fun v => v.category).sum ≤ 8)
    (k : q_Go Γ M d bc bs pc' L st w0 Q) : q_Go Γ M d bc bs pc L stk w Q :=
  q_callB (bc2 := bc) (bs2 := bs) hd hp hl hm g hst hn hls hdd hcat (Nat.zero_add _).symm (Nat.zero_add _).symm (fun v w' h => by obtain ⟨rfl, rfl⟩ := h; exact k)
theorem q_callSQ {idx n : Nat} (hd : decode M.2.1 pc = .ok (.invokestatic idx, 3)) (hp : pc + 3 = pc') (hl : q_Lk M.1.cls idx M') (hm : q_MS M' n)
    (g : q_Sp Γ M' d' 0 0 As w Q') (hst : stk = As.reverse ++ st) (hn : As.length = n) (hls : (lg_sl As).length ≤ M'.2.2.1) (hdd : d' + 1 ≤ d) (hcat : (st.map fun v => v.category).sum ≤ 8)
    (k : ∀ v w', Q' v w' → q_Go Γ M d bc bs pc' L (v.toList ++ st) w' Q) : q_Go Γ M d bc bs pc L stk w Q :=
  q_callB (bc2 := bc) (bs2 := bs) hd hp hl hm g hst hn hls hdd hcat (Nat.zero_add _).symm (Nat.zero_add _).symm k
end HI
end
section
/-! making objects and arrays: the cell with the next number -/
def q_nw (S : q_S) (n : Nat) (v : Int) : q_S := fun a' z' => if a' = n then v else S a' z'
theorem q_nw_ne {S : q_S} {n : Nat} {v : Int} {k : Nat} (h : k ≠ n) : q_nw S n v k = S k := by funext j; simp [q_nw, h]
theorem q_nw_eq {S : q_S} {n : Nat} {v : Int} : q_nw S n v n = fun _ => v := by funext j; simp [q_nw]
section HM
variable {Γ : q_G} {M : q_M} {d bc bs bc2 bs2 pc pc' : Nat} {L : List (Nat × Value)} {st : List Value} {w : q_W} {Q : Option Value → q_W → Prop}
theorem q_new {idx ci N : Nat} {C : String} {T : u_T} (fl : List Nat) (ty : Nat → FieldType) (hd : decode M.2.1 pc = .ok (.new idx, 3)) (hp : pc + 3 = pc') (hC : q_Cl ci C T N) (hty : ∀ k, k < N → parseFieldDescriptor (T k).2.2.1 = some (ty k)) (hcl : Cond.classLink M.1.cls idx C ∈ q_words) (hinst : Cond.instantiable C N ∈ q_words) (hini : Cond.initialized C ∈ q_words)
    (hfl : ∀ j, j < N → defaultValue (ty j) = vp_V (q_fvs (q_b Γ) fl (fun _ => 0)) j) (hbc : bc = 1 + bc2) (hbs : bs = N + bs2)
    (kk : q_Go Γ M d bc2 bs2 pc' L (q_r Γ w.1.length :: st) (w.1 ++ [.inl (ci, fl)], q_nw w.2 w.1.length 0) Q) : q_Go Γ M d bc bs pc L st w Q := by
  subst hp; subst hbc; subst hbs
  obtain ⟨hc, hin, -, -⟩ := hC
  intro p e R s m args below meth c H locs cells slots Z ls CC hc1 hs1 hW hS hl hr
  have hts := CC.2.2.2.2.2.2.2.1
  have hKn := CC.2.2.2.2.2.2.2.2.1.1.1 ci _ hc
  refine W.newcK CC.1 CC.2.1 CC.2.2.2.1 (hts _ hcl) (hts _ hinst) (hts _ hini) rfl hd (by omega) (by omega) hKn.2.1 rfl fun H1 kC hkC e1 z1 o1 => ?_
  have hz : H.size = q_b Γ + w.1.length := hW.1
  have k1 := kk p e R s m args below meth c H1 locs (cells + 1) (slots + N) Z ls CC (by omega) (by omega)
    (hW.push (q_nw w.2 w.1.length 0) z1 o1 (by
      rw [q_nw_eq]
      refine ⟨_, hc, ?_⟩
      rw [← hz]
      exact (u_born ty hts hin hKn hkC e1 hty).to hfl) (fun k hk => q_nw_ne hk) (fun j => by rw [q_nw_eq]; exact q_rg0))
    ⟨Nat.le_trans hS.1 (by omega), fun x h1 h2 => (o1 x (Nat.lt_of_lt_of_le h1 hS.1)).trans (hS.2.1 x h1 h2), hS.2.2⟩ hl
    (fun v2 pc2 w2 H2 locs2 cells2 slots2 ls2 a1 a2 => hr v2 pc2 w2 H2 locs2 cells2 slots2 ls2 (by omega) (by omega))
  rw [hz]
  exact k1
theorem q_newa {atype : ArrayType} {n : Int} {N t : Nat} (hd : decode M.2.1 pc = .ok (.newarray atype, 2)) (hp : pc + 2 = pc') (ht : t < 3) (hty : newarray.typeOf atype = q_ty t) (harr : Cond.arrayClass (newarray.typeOf atype) ∈ q_words) (hN : n = (N : Int)) (hN2 : N ≤ 1000000) (hbc : bc = 1 + bc2) (hbs : bs = N + bs2)
    (kk : q_Go Γ M d bc2 bs2 pc' L (q_r Γ w.1.length :: st) (w.1 ++ [.inr (t, N)], q_nw w.2 w.1.length 0) Q) : q_Go Γ M d bc bs pc L (q_i n :: st) w Q := by
  subst hp; subst hbc; subst hbs; subst hN
  intro p e R s m args below meth c H locs cells slots Z ls CC hc1 hs1 hW hS hl hr
  have hts := CC.2.2.2.2.2.2.2.1
  have hKk := CC.2.2.2.2.2.2.2.2.1.1
  have hcb : componentBytes (newarray.typeOf atype) ≤ 8 := by cases atype <;> decide
  refine va_newaK CC.1 CC.2.1 (hts _ harr) rfl hd (n := Int32.ofInt (N : Int)) (N := N) (rest := st) rfl (q_nn (by omega) (by omega)) (by rw [q_cl (by omega) (by omega)]; omega) (Nat.le_trans (Nat.mul_le_mul hN2 hcb) (by decide)) (by omega) (by omega) rfl fun H1 cA e1 z1 o1 hAr hNm => ?_
  have hz : H.size = q_b Γ + w.1.length := hW.1
  have hcA : cA = q_cA Γ t := by
    rw [hty] at hNm
    match t, ht with
    | 0, _ => exact Option.some.inj (hNm.symm.trans (hKk.2 0 _ rfl).2)
    | 1, _ => exact Option.some.inj (hNm.symm.trans (hKk.2 1 _ rfl).2)
    | 2, _ => exact Option.some.inj (hNm.symm.trans (hKk.2 2 _ rfl).2)
  subst hcA
  have k1 := kk p e R s m args below meth c H1 locs (cells + 1) (slots + N) Z ls CC (by omega) (by omega)
    (hW.push (q_nw w.2 w.1.length 0) z1 o1 (by
      rw [q_nw_eq, ← hz]
      have e3 : va_at (q_D Γ) vwCl (H.size, .inl (q_cA Γ t, N, .inl fun _ => Int32.ofInt 0)) H1 := by
        show H1[H.size]? = some (vp_cell _ _)
        rw [e1, hty, vp_cell_i]
        match t, ht with
        | 0, _ => rfl
        | 1, _ => rfl
        | 2, _ => rfl
      match t, ht with
      | 0, _ => exact e3
      | 1, _ => exact e3
      | 2, _ => exact e3) (fun k hk => q_nw_ne hk) (fun j => by rw [q_nw_eq]; exact q_rg0))
    ⟨Nat.le_trans hS.1 (by omega), fun x h1 h2 => (o1 x (Nat.lt_of_lt_of_le h1 hS.1)).trans (hS.2.1 x h1 h2), hS.2.2⟩ hl
    (fun v2 pc2 w2 H2 locs2 cells2 slots2 ls2 a1 a2 => hr v2 pc2 w2 H2 locs2 cells2 slots2 ls2 (by omega) (by omega))
  rw [hz]
  exact k1
theorem q_newq {idx : Nat} {n : Int} {N : Nat} (hd : decode M.2.1 pc = .ok (.anewarray idx, 3)) (hp : pc + 3 = pc') (hcl : Cond.classLink M.1.cls idx "ShadowRows$Field" ∈ q_words) (hN : n = (N : Int)) (hN2 : N ≤ 1000000) (hbc : bc = 1 + bc2) (hbs : bs = N + bs2)
    (kk : q_Go Γ M d bc2 bs2 pc' L (q_r Γ w.1.length :: st) (w.1 ++ [.inr (3, N)], q_nw w.2 w.1.length (-1)) Q) : q_Go Γ M d bc bs pc L (q_i n :: st) w Q := by
  subst hp; subst hbc; subst hbs; subst hN
  intro p e R s m args below meth c H locs cells slots Z ls CC hc1 hs1 hW hS hl hr
  have hts := CC.2.2.2.2.2.2.2.1
  have hKk := CC.2.2.2.2.2.2.2.2.1.1
  have hnn : (Int32.ofInt (N : Int)).toNatClampNeg = N := by rw [q_cl (by omega) (by omega)]; omega
  refine W.anew CC.1 CC.2.1 CC.2.2.2.1 (hts _ hcl) (va_AO.use CC.2.2.2.2.2.2.2.2.1.2.2.2.2.1) rfl hd (n := Int32.ofInt (N : Int)) (rest := st) rfl (q_nn (by omega) (by omega)) (by rw [hnn]; omega) (by omega) (by omega) fun cA kA comp f1 f2 f3 f4 => ?_
  have hz : H.size = q_b Γ + w.1.length := hW.1
  have hcA : cA = q_cA Γ 3 := by
    obtain ⟨_, _, _, _, _, h4⟩ := (hKk.2 3 _ rfl).2
    exact Option.some.inj (f1.symm.trans h4)
  subst hcA
  rw [hnn]
  generalize hH1 : H.push ({ cls := q_cA Γ 3, slots := Array.replicate N .null, vm := .none } : Cell) = H1
  have z1 : H1.size = H.size + 1 := by rw [← hH1, Array.size_push]
  have e1 : H1[H.size]? = some (arrV (q_cA Γ 3) N (fun _ => .null)) := by rw [← hH1, Array.getElem?_push_size, ← arrV_new]
  have o1 : ∀ q : Nat, q < H.size → H1[q]? = H[q]? := fun q hq => by rw [← hH1, Array.getElem?_push, if_neg (Nat.ne_of_lt hq)]
  have k1 := kk p e R s m args below meth c H1 locs (cells + 1) (slots + N) Z ls CC (by omega) (by omega)
    (hW.push (q_nw w.2 w.1.length (-1)) z1 o1 (by
      rw [q_nw_eq, ← hz]
      show H1[H.size]? = some (vp_cell (q_cA Γ 3) (N, .inr (.inr (.inr (.inr fun _ => q_el (q_b Γ) (-1))))))
      rw [e1, vp_cell_q]
      rfl) (fun k hk => q_nw_ne hk) (fun j => by rw [q_nw_eq]; show q_rg (-1); exact ⟨by decide, by decide⟩))
    ⟨Nat.le_trans hS.1 (by omega), fun x h1 h2 => (o1 x (Nat.lt_of_lt_of_le h1 hS.1)).trans (hS.2.1 x h1 h2), hS.2.2⟩ hl
    (fun v2 pc2 w2 H2 locs2 cells2 slots2 ls2 a1 a2 => hr v2 pc2 w2 H2 locs2 cells2 slots2 ls2 (by omega) (by omega))
  rw [hz]
  exact k1
end HM
end
section
/-! what the tables say of each method, each call, each field; by program -/
theorem q_w (i : Nat) {w : Cond} (h : lw_tbl[i]? = some w) (hg : goodWord w = true) : w ∈ q_words := List.mem_filter.mpr ⟨List.mem_of_getElem? h, hg⟩
theorem q_wn (i : Nat) {w : Cond} (h : lw_tbl[i]? = some w) : w ∈ lw_tbl := List.mem_of_getElem? h
theorem q_wall {ws : List Cond} (h : ws.all (fun w => decide (w ∈ lw_tbl) && goodWord w) = true) : ∀ w ∈ ws, w ∈ q_words := fun w hw => by
  have h1 := List.all_eq_true.mp h w hw
  simp only [Bool.and_eq_true, decide_eq_true_eq] at h1
  exact List.mem_filter.mpr h1
abbrev mX0_init : q_M := (yX0_init, cX0_init, 1, none)
theorem iX0_init : q_MI mX0_init 0 := ⟨⟨q_w 98 (by decide +kernel) rfl, q_w 70 (by decide +kernel) rfl, ⟨by decide +kernel, by decide +kernel, by decide +kernel⟩, by decide +kernel, by decide +kernel⟩, q_w 97 (by decide +kernel) rfl, rfl, rfl⟩
abbrev mX0_copyFrom : q_M := (yX0_copyFrom, cX0_copyFrom, 2, none)
theorem iX0_copyFrom : q_MV mX0_copyFrom 1 := ⟨⟨q_w 342 (by decide +kernel) rfl, q_w 70 (by decide +kernel) rfl, ⟨by decide +kernel, by decide +kernel, by decide +kernel⟩, by decide +kernel, by decide +kernel⟩, q_w 340 (by decide +kernel) rfl, q_w 341 (by decide +kernel) rfl⟩
abbrev mX0_hasRow : q_M := (yX0_hasRow, cX0_hasRow, 2, (some .boolean))
theorem iX0_hasRow : q_MV mX0_hasRow 1 := ⟨⟨q_w 381 (by decide +kernel) rfl, q_w 70 (by decide +kernel) rfl, ⟨by decide +kernel, by decide +kernel, by decide +kernel⟩, by decide +kernel, by decide +kernel⟩, q_w 379 (by decide +kernel) rfl, q_w 380 (by decide +kernel) rfl⟩
abbrev mX0_rightAt : q_M := (yX0_rightAt, cX0_rightAt, 3, (some .int))
theorem iX0_rightAt : q_MS mX0_rightAt 3 := ⟨⟨q_w 416 (by decide +kernel) rfl, q_w 70 (by decide +kernel) rfl, ⟨by decide +kernel, by decide +kernel, by decide +kernel⟩, by decide +kernel, by decide +kernel⟩, q_w 415 (by decide +kernel) rfl⟩
abbrev mX0_offersOf : q_M := (yX0_offersOf, cX0_offersOf, 2, (some (.object "ShadowRows$Offers")))
theorem iX0_offersOf : q_MV mX0_offersOf 1 := ⟨⟨q_w 450 (by decide +kernel) rfl, q_w 70 (by decide +kernel) rfl, ⟨by decide +kernel, by decide +kernel, by decide +kernel⟩, by decide +kernel, by decide +kernel⟩, q_w 448 (by decide +kernel) rfl, q_w 449 (by decide +kernel) rfl⟩
abbrev mX0_build : q_M := (yX0_build, cX0_build, 5, (some .int))
theorem iX0_build : q_MV mX0_build 3 := ⟨⟨q_w 354 (by decide +kernel) rfl, q_w 70 (by decide +kernel) rfl, ⟨by decide +kernel, by decide +kernel, by decide +kernel⟩, by decide +kernel, by decide +kernel⟩, q_w 352 (by decide +kernel) rfl, q_w 353 (by decide +kernel) rfl⟩
abbrev mX0_isTaken : q_M := (yX0_isTaken, cX0_isTaken, 3, (some .boolean))
theorem iX0_isTaken : q_MV mX0_isTaken 1 := ⟨⟨q_w 361 (by decide +kernel) rfl, q_w 70 (by decide +kernel) rfl, ⟨by decide +kernel, by decide +kernel, by decide +kernel⟩, by decide +kernel, by decide +kernel⟩, q_w 360 (by decide +kernel) rfl, q_w 0 (by decide +kernel) rfl⟩
abbrev mX0_changeTilt : q_M := (yX0_changeTilt, cX0_changeTilt, 4, (some .int))
theorem iX0_changeTilt : q_MV mX0_changeTilt 2 := ⟨⟨q_w 377 (by decide +kernel) rfl, q_w 70 (by decide +kernel) rfl, ⟨by decide +kernel, by decide +kernel, by decide +kernel⟩, by decide +kernel, by decide +kernel⟩, q_w 375 (by decide +kernel) rfl, q_w 376 (by decide +kernel) rfl⟩
abbrev mX0_changeWind : q_M := (yX0_changeWind, cX0_changeWind, 4, (some .int))
theorem iX0_changeWind : q_MV mX0_changeWind 2 := ⟨⟨q_w 389 (by decide +kernel) rfl, q_w 70 (by decide +kernel) rfl, ⟨by decide +kernel, by decide +kernel, by decide +kernel⟩, by decide +kernel, by decide +kernel⟩, q_w 387 (by decide +kernel) rfl, q_w 388 (by decide +kernel) rfl⟩
abbrev mX0_changeStow : q_M := (yX0_changeStow, cX0_changeStow, 3, (some .int))
theorem iX0_changeStow : q_MV mX0_changeStow 1 := ⟨⟨q_w 401 (by decide +kernel) rfl, q_w 70 (by decide +kernel) rfl, ⟨by decide +kernel, by decide +kernel, by decide +kernel⟩, by decide +kernel, by decide +kernel⟩, q_w 399 (by decide +kernel) rfl, q_w 400 (by decide +kernel) rfl⟩
abbrev mX0_rightError : q_M := (yX0_rightError, cX0_rightError, 5, (some .int))
theorem iX0_rightError : q_MV mX0_rightError 4 := ⟨⟨q_w 413 (by decide +kernel) rfl, q_w 70 (by decide +kernel) rfl, ⟨by decide +kernel, by decide +kernel, by decide +kernel⟩, by decide +kernel, by decide +kernel⟩, q_w 411 (by decide +kernel) rfl, q_w 412 (by decide +kernel) rfl⟩
abbrev mX0_changeRight : q_M := (yX0_changeRight, cX0_changeRight, 8, (some .int))
theorem iX0_changeRight : q_MV mX0_changeRight 4 := ⟨⟨q_w 409 (by decide +kernel) rfl, q_w 70 (by decide +kernel) rfl, ⟨by decide +kernel, by decide +kernel, by decide +kernel⟩, by decide +kernel, by decide +kernel⟩, q_w 407 (by decide +kernel) rfl, q_w 408 (by decide +kernel) rfl⟩
abbrev mX1_init : q_M := (yX1_init, cX1_init, 2, none)
theorem iX1_init : q_MI mX1_init 0 := ⟨⟨q_w 289 (by decide +kernel) rfl, q_w 77 (by decide +kernel) rfl, ⟨by decide +kernel, by decide +kernel, by decide +kernel⟩, by decide +kernel, by decide +kernel⟩, q_w 288 (by decide +kernel) rfl, rfl, rfl⟩
abbrev mX1_mark : q_M := (yX1_mark, cX1_mark, 2, none)
theorem iX1_mark : q_MV mX1_mark 1 := ⟨⟨q_w 338 (by decide +kernel) rfl, q_w 77 (by decide +kernel) rfl, ⟨by decide +kernel, by decide +kernel, by decide +kernel⟩, by decide +kernel, by decide +kernel⟩, q_w 336 (by decide +kernel) rfl, q_w 337 (by decide +kernel) rfl⟩
abbrev mX1_keep : q_M := (yX1_keep, cX1_keep, 2, (some .int))
theorem iX1_keep : q_MV mX1_keep 1 := ⟨⟨q_w 365 (by decide +kernel) rfl, q_w 77 (by decide +kernel) rfl, ⟨by decide +kernel, by decide +kernel, by decide +kernel⟩, by decide +kernel, by decide +kernel⟩, q_w 363 (by decide +kernel) rfl, q_w 364 (by decide +kernel) rfl⟩
abbrev mX1_dropOldest : q_M := (yX1_dropOldest, cX1_dropOldest, 3, none)
theorem iX1_dropOldest : q_MV mX1_dropOldest 0 := ⟨⟨q_w 369 (by decide +kernel) rfl, q_w 77 (by decide +kernel) rfl, ⟨by decide +kernel, by decide +kernel, by decide +kernel⟩, by decide +kernel, by decide +kernel⟩, q_w 368 (by decide +kernel) rfl, q_w 1 (by decide +kernel) rfl⟩
abbrev mX1_goBack : q_M := (yX1_goBack, cX1_goBack, 2, (some .int))
theorem iX1_goBack : q_MV mX1_goBack 1 := ⟨⟨q_w 844 (by decide +kernel) rfl, q_w 77 (by decide +kernel) rfl, ⟨by decide +kernel, by decide +kernel, by decide +kernel⟩, by decide +kernel, by decide +kernel⟩, q_w 842 (by decide +kernel) rfl, q_w 843 (by decide +kernel) rfl⟩
abbrev mX2_init : q_M := (yX2_init, cX2_init, 2, none)
theorem iX2_init : q_MI mX2_init 1 := ⟨⟨q_w 183 (by decide +kernel) rfl, q_w 72 (by decide +kernel) rfl, ⟨by decide +kernel, by decide +kernel, by decide +kernel⟩, by decide +kernel, by decide +kernel⟩, q_w 182 (by decide +kernel) rfl, rfl, rfl⟩
abbrev mX2_look : q_M := (yX2_look, cX2_look, 4, none)
theorem iX2_look : q_MV mX2_look 1 := ⟨⟨q_w 518 (by decide +kernel) rfl, q_w 72 (by decide +kernel) rfl, ⟨by decide +kernel, by decide +kernel, by decide +kernel⟩, by decide +kernel, by decide +kernel⟩, q_w 516 (by decide +kernel) rfl, q_w 517 (by decide +kernel) rfl⟩
abbrev mX2_isFlat : q_M := (yX2_isFlat, cX2_isFlat, 1, (some .boolean))
theorem iX2_isFlat : q_MV mX2_isFlat 0 := ⟨⟨q_w 536 (by decide +kernel) rfl, q_w 72 (by decide +kernel) rfl, ⟨by decide +kernel, by decide +kernel, by decide +kernel⟩, by decide +kernel, by decide +kernel⟩, q_w 534 (by decide +kernel) rfl, q_w 535 (by decide +kernel) rfl⟩
abbrev mX2_sun : q_M := (yX2_sun, cX2_sun, 1, (some .int))
theorem iX2_sun : q_MV mX2_sun 0 := ⟨⟨q_w 554 (by decide +kernel) rfl, q_w 72 (by decide +kernel) rfl, ⟨by decide +kernel, by decide +kernel, by decide +kernel⟩, by decide +kernel, by decide +kernel⟩, q_w 552 (by decide +kernel) rfl, q_w 553 (by decide +kernel) rfl⟩
abbrev mX2_ahead : q_M := (yX2_ahead, cX2_ahead, 4, (some .int))
theorem iX2_ahead : q_MV mX2_ahead 2 := ⟨⟨q_w 526 (by decide +kernel) rfl, q_w 72 (by decide +kernel) rfl, ⟨by decide +kernel, by decide +kernel, by decide +kernel⟩, by decide +kernel, by decide +kernel⟩, q_w 524 (by decide +kernel) rfl, q_w 525 (by decide +kernel) rfl⟩
abbrev mX2_lossBetween : q_M := (yX2_lossBetween, cX2_lossBetween, 5, (some .int))
theorem iX2_lossBetween : q_MV mX2_lossBetween 2 := ⟨⟨q_w 522 (by decide +kernel) rfl, q_w 72 (by decide +kernel) rfl, ⟨by decide +kernel, by decide +kernel, by decide +kernel⟩, by decide +kernel, by decide +kernel⟩, q_w 521 (by decide +kernel) rfl, q_w 6 (by decide +kernel) rfl⟩
abbrev mX2_limitOf : q_M := (yX2_limitOf, cX2_limitOf, 5, (some .int))
theorem iX2_limitOf : q_MV mX2_limitOf 1 := ⟨⟨q_w 532 (by decide +kernel) rfl, q_w 72 (by decide +kernel) rfl, ⟨by decide +kernel, by decide +kernel, by decide +kernel⟩, by decide +kernel, by decide +kernel⟩, q_w 531 (by decide +kernel) rfl, q_w 7 (by decide +kernel) rfl⟩
abbrev mX2_tiltOf : q_M := (yX2_tiltOf, cX2_tiltOf, 2, (some .int))
theorem iX2_tiltOf : q_MV mX2_tiltOf 1 := ⟨⟨q_w 542 (by decide +kernel) rfl, q_w 72 (by decide +kernel) rfl, ⟨by decide +kernel, by decide +kernel, by decide +kernel⟩, by decide +kernel, by decide +kernel⟩, q_w 540 (by decide +kernel) rfl, q_w 541 (by decide +kernel) rfl⟩
abbrev mX2_shadow : q_M := (yX2_shadow, cX2_shadow, 4, (some .int))
theorem iX2_shadow : q_MV mX2_shadow 3 := ⟨⟨q_w 568 (by decide +kernel) rfl, q_w 72 (by decide +kernel) rfl, ⟨by decide +kernel, by decide +kernel, by decide +kernel⟩, by decide +kernel, by decide +kernel⟩, q_w 566 (by decide +kernel) rfl, q_w 567 (by decide +kernel) rfl⟩
abbrev mX2_toBlame : q_M := (yX2_toBlame, cX2_toBlame, 8, (some .int))
theorem iX2_toBlame : q_MV mX2_toBlame 1 := ⟨⟨q_w 564 (by decide +kernel) rfl, q_w 72 (by decide +kernel) rfl, ⟨by decide +kernel, by decide +kernel, by decide +kernel⟩, by decide +kernel, by decide +kernel⟩, q_w 562 (by decide +kernel) rfl, q_w 563 (by decide +kernel) rfl⟩
abbrev mX2_shade : q_M := (yX2_shade, cX2_shade, 3, (some .int))
theorem iX2_shade : q_MV mX2_shade 1 := ⟨⟨q_w 560 (by decide +kernel) rfl, q_w 72 (by decide +kernel) rfl, ⟨by decide +kernel, by decide +kernel, by decide +kernel⟩, by decide +kernel, by decide +kernel⟩, q_w 558 (by decide +kernel) rfl, q_w 559 (by decide +kernel) rfl⟩
abbrev mX2_unshadedYield : q_M := (yX2_unshadedYield, cX2_unshadedYield, 2, (some .int))
theorem iX2_unshadedYield : q_MV mX2_unshadedYield 1 := ⟨⟨q_w 550 (by decide +kernel) rfl, q_w 72 (by decide +kernel) rfl, ⟨by decide +kernel, by decide +kernel, by decide +kernel⟩, by decide +kernel, by decide +kernel⟩, q_w 548 (by decide +kernel) rfl, q_w 549 (by decide +kernel) rfl⟩
abbrev mX2_yieldNow : q_M := (yX2_yieldNow, cX2_yieldNow, 2, (some .int))
theorem iX2_yieldNow : q_MV mX2_yieldNow 1 := ⟨⟨q_w 546 (by decide +kernel) rfl, q_w 72 (by decide +kernel) rfl, ⟨by decide +kernel, by decide +kernel, by decide +kernel⟩, by decide +kernel, by decide +kernel⟩, q_w 544 (by decide +kernel) rfl, q_w 545 (by decide +kernel) rfl⟩
abbrev mX2_yieldOfDay : q_M := (yX2_yieldOfDay, cX2_yieldOfDay, 4, (some .int))
theorem iX2_yieldOfDay : q_MV mX2_yieldOfDay 1 := ⟨⟨q_w 514 (by decide +kernel) rfl, q_w 72 (by decide +kernel) rfl, ⟨by decide +kernel, by decide +kernel, by decide +kernel⟩, by decide +kernel, by decide +kernel⟩, q_w 512 (by decide +kernel) rfl, q_w 513 (by decide +kernel) rfl⟩
abbrev mX2_unshadedYieldOfDay : q_M := (yX2_unshadedYieldOfDay, cX2_unshadedYieldOfDay, 4, (some .int))
theorem iX2_unshadedYieldOfDay : q_MV mX2_unshadedYieldOfDay 1 := ⟨⟨q_w 575 (by decide +kernel) rfl, q_w 72 (by decide +kernel) rfl, ⟨by decide +kernel, by decide +kernel, by decide +kernel⟩, by decide +kernel, by decide +kernel⟩, q_w 573 (by decide +kernel) rfl, q_w 574 (by decide +kernel) rfl⟩
abbrev mX2_yieldOfAll : q_M := (yX2_yieldOfAll, cX2_yieldOfAll, 4, (some .int))
theorem iX2_yieldOfAll : q_MV mX2_yieldOfAll 0 := ⟨⟨q_w 617 (by decide +kernel) rfl, q_w 72 (by decide +kernel) rfl, ⟨by decide +kernel, by decide +kernel, by decide +kernel⟩, by decide +kernel, by decide +kernel⟩, q_w 615 (by decide +kernel) rfl, q_w 616 (by decide +kernel) rfl⟩
abbrev mX2_hoursLowered : q_M := (yX2_hoursLowered, cX2_hoursLowered, 4, (some .int))
theorem iX2_hoursLowered : q_MV mX2_hoursLowered 1 := ⟨⟨q_w 579 (by decide +kernel) rfl, q_w 72 (by decide +kernel) rfl, ⟨by decide +kernel, by decide +kernel, by decide +kernel⟩, by decide +kernel, by decide +kernel⟩, q_w 577 (by decide +kernel) rfl, q_w 578 (by decide +kernel) rfl⟩
abbrev mX2_hoursShaded : q_M := (yX2_hoursShaded, cX2_hoursShaded, 4, (some .int))
theorem iX2_hoursShaded : q_MV mX2_hoursShaded 1 := ⟨⟨q_w 583 (by decide +kernel) rfl, q_w 72 (by decide +kernel) rfl, ⟨by decide +kernel, by decide +kernel, by decide +kernel⟩, by decide +kernel, by decide +kernel⟩, q_w 581 (by decide +kernel) rfl, q_w 582 (by decide +kernel) rfl⟩
abbrev mX2_mostToBlame : q_M := (yX2_mostToBlame, cX2_mostToBlame, 4, (some .int))
theorem iX2_mostToBlame : q_MV mX2_mostToBlame 1 := ⟨⟨q_w 587 (by decide +kernel) rfl, q_w 72 (by decide +kernel) rfl, ⟨by decide +kernel, by decide +kernel, by decide +kernel⟩, by decide +kernel, by decide +kernel⟩, q_w 585 (by decide +kernel) rfl, q_w 586 (by decide +kernel) rfl⟩
abbrev mX3_init : q_M := (yX3_init, cX3_init, 2, none)
theorem iX3_init : q_MI mX3_init 1 := ⟨⟨q_w 210 (by decide +kernel) rfl, q_w 73 (by decide +kernel) rfl, ⟨by decide +kernel, by decide +kernel, by decide +kernel⟩, by decide +kernel, by decide +kernel⟩, q_w 209 (by decide +kernel) rfl, rfl, rfl⟩
abbrev mX3_addAsk : q_M := (yX3_addAsk, cX3_addAsk, 5, (some .int))
theorem iX3_addAsk : q_MV mX3_addAsk 4 := ⟨⟨q_w 424 (by decide +kernel) rfl, q_w 73 (by decide +kernel) rfl, ⟨by decide +kernel, by decide +kernel, by decide +kernel⟩, by decide +kernel, by decide +kernel⟩, q_w 422 (by decide +kernel) rfl, q_w 423 (by decide +kernel) rfl⟩
abbrev mX3_addBid : q_M := (yX3_addBid, cX3_addBid, 6, (some .int))
theorem iX3_addBid : q_MV mX3_addBid 5 := ⟨⟨q_w 442 (by decide +kernel) rfl, q_w 73 (by decide +kernel) rfl, ⟨by decide +kernel, by decide +kernel, by decide +kernel⟩, by decide +kernel, by decide +kernel⟩, q_w 440 (by decide +kernel) rfl, q_w 441 (by decide +kernel) rfl⟩
abbrev mX3_isBadOffer : q_M := (yX3_isBadOffer, cX3_isBadOffer, 2, (some .boolean))
theorem iX3_isBadOffer : q_MS mX3_isBadOffer 2 := ⟨⟨q_w 429 (by decide +kernel) rfl, q_w 73 (by decide +kernel) rfl, ⟨by decide +kernel, by decide +kernel, by decide +kernel⟩, by decide +kernel, by decide +kernel⟩, q_w 428 (by decide +kernel) rfl⟩
abbrev mX3_tradeAll : q_M := (yX3_tradeAll, cX3_tradeAll, 4, (some .int))
theorem iX3_tradeAll : q_MV mX3_tradeAll 0 := ⟨⟨q_w 471 (by decide +kernel) rfl, q_w 73 (by decide +kernel) rfl, ⟨by decide +kernel, by decide +kernel, by decide +kernel⟩, by decide +kernel, by decide +kernel⟩, q_w 469 (by decide +kernel) rfl, q_w 470 (by decide +kernel) rfl⟩
abbrev mX3_serve : q_M := (yX3_serve, cX3_serve, 5, (some .int))
theorem iX3_serve : q_MV mX3_serve 1 := ⟨⟨q_w 483 (by decide +kernel) rfl, q_w 73 (by decide +kernel) rfl, ⟨by decide +kernel, by decide +kernel, by decide +kernel⟩, by decide +kernel, by decide +kernel⟩, q_w 482 (by decide +kernel) rfl, q_w 3 (by decide +kernel) rfl⟩
abbrev mX3_suits : q_M := (yX3_suits, cX3_suits, 5, (some .boolean))
theorem iX3_suits : q_MV mX3_suits 2 := ⟨⟨q_w 487 (by decide +kernel) rfl, q_w 73 (by decide +kernel) rfl, ⟨by decide +kernel, by decide +kernel, by decide +kernel⟩, by decide +kernel, by decide +kernel⟩, q_w 486 (by decide +kernel) rfl, q_w 4 (by decide +kernel) rfl⟩
abbrev mX3_trade : q_M := (yX3_trade, cX3_trade, 9, (some .int))
theorem iX3_trade : q_MV mX3_trade 2 := ⟨⟨q_w 492 (by decide +kernel) rfl, q_w 73 (by decide +kernel) rfl, ⟨by decide +kernel, by decide +kernel, by decide +kernel⟩, by decide +kernel, by decide +kernel⟩, q_w 491 (by decide +kernel) rfl, q_w 5 (by decide +kernel) rfl⟩
abbrev mX4_init : q_M := (yX4_init, cX4_init, 1, none)
theorem iX4_init : q_MI mX4_init 0 := ⟨⟨q_w 104 (by decide +kernel) rfl, q_w 71 (by decide +kernel) rfl, ⟨by decide +kernel, by decide +kernel, by decide +kernel⟩, by decide +kernel, by decide +kernel⟩, q_w 103 (by decide +kernel) rfl, rfl, rfl⟩
abbrev mX4_copyFrom : q_M := (yX4_copyFrom, cX4_copyFrom, 2, none)
theorem iX4_copyFrom : q_MV mX4_copyFrom 1 := ⟨⟨q_w 349 (by decide +kernel) rfl, q_w 71 (by decide +kernel) rfl, ⟨by decide +kernel, by decide +kernel, by decide +kernel⟩, by decide +kernel, by decide +kernel⟩, q_w 347 (by decide +kernel) rfl, q_w 348 (by decide +kernel) rfl⟩
abbrev mX4_has : q_M := (yX4_has, cX4_has, 2, (some .boolean))
theorem iX4_has : q_MV mX4_has 1 := ⟨⟨q_w 458 (by decide +kernel) rfl, q_w 71 (by decide +kernel) rfl, ⟨by decide +kernel, by decide +kernel, by decide +kernel⟩, by decide +kernel, by decide +kernel⟩, q_w 456 (by decide +kernel) rfl, q_w 457 (by decide +kernel) rfl⟩
abbrev mX4_get : q_M := (yX4_get, cX4_get, 3, (some .int))
theorem iX4_get : q_MV mX4_get 2 := ⟨⟨q_w 479 (by decide +kernel) rfl, q_w 71 (by decide +kernel) rfl, ⟨by decide +kernel, by decide +kernel, by decide +kernel⟩, by decide +kernel, by decide +kernel⟩, q_w 477 (by decide +kernel) rfl, q_w 478 (by decide +kernel) rfl⟩
abbrev mX4_add : q_M := (yX4_add, cX4_add, 7, (some .int))
theorem iX4_add : q_MV mX4_add 5 := ⟨⟨q_w 434 (by decide +kernel) rfl, q_w 71 (by decide +kernel) rfl, ⟨by decide +kernel, by decide +kernel, by decide +kernel⟩, by decide +kernel, by decide +kernel⟩, q_w 432 (by decide +kernel) rfl, q_w 433 (by decide +kernel) rfl⟩
abbrev mX4_remove : q_M := (yX4_remove, cX4_remove, 2, (some .int))
theorem iX4_remove : q_MV mX4_remove 1 := ⟨⟨q_w 454 (by decide +kernel) rfl, q_w 71 (by decide +kernel) rfl, ⟨by decide +kernel, by decide +kernel, by decide +kernel⟩, by decide +kernel, by decide +kernel⟩, q_w 452 (by decide +kernel) rfl, q_w 453 (by decide +kernel) rfl⟩
abbrev mX4_close : q_M := (yX4_close, cX4_close, 3, none)
theorem iX4_close : q_MV mX4_close 1 := ⟨⟨q_w 463 (by decide +kernel) rfl, q_w 71 (by decide +kernel) rfl, ⟨by decide +kernel, by decide +kernel, by decide +kernel⟩, by decide +kernel, by decide +kernel⟩, q_w 462 (by decide +kernel) rfl, q_w 2 (by decide +kernel) rfl⟩
abbrev mX4_take : q_M := (yX4_take, cX4_take, 3, none)
theorem iX4_take : q_MV mX4_take 2 := ⟨⟨q_w 500 (by decide +kernel) rfl, q_w 71 (by decide +kernel) rfl, ⟨by decide +kernel, by decide +kernel, by decide +kernel⟩, by decide +kernel, by decide +kernel⟩, q_w 498 (by decide +kernel) rfl, q_w 499 (by decide +kernel) rfl⟩
abbrev mX4_removeEmpty : q_M := (yX4_removeEmpty, cX4_removeEmpty, 2, none)
theorem iX4_removeEmpty : q_MV mX4_removeEmpty 0 := ⟨⟨q_w 504 (by decide +kernel) rfl, q_w 71 (by decide +kernel) rfl, ⟨by decide +kernel, by decide +kernel, by decide +kernel⟩, by decide +kernel, by decide +kernel⟩, q_w 502 (by decide +kernel) rfl, q_w 503 (by decide +kernel) rfl⟩
abbrev mX4_sortByPrice : q_M := (yX4_sortByPrice, cX4_sortByPrice, 5, none)
theorem iX4_sortByPrice : q_MV mX4_sortByPrice 1 := ⟨⟨q_w 475 (by decide +kernel) rfl, q_w 71 (by decide +kernel) rfl, ⟨by decide +kernel, by decide +kernel, by decide +kernel⟩, by decide +kernel, by decide +kernel⟩, q_w 473 (by decide +kernel) rfl, q_w 474 (by decide +kernel) rfl⟩
abbrev mX5_init : q_M := (yX5_init, cX5_init, 2, none)
theorem iX5_init : q_MI mX5_init 1 := ⟨⟨q_w 265 (by decide +kernel) rfl, q_w 76 (by decide +kernel) rfl, ⟨by decide +kernel, by decide +kernel, by decide +kernel⟩, by decide +kernel, by decide +kernel⟩, q_w 264 (by decide +kernel) rfl, rfl, rfl⟩
abbrev mX5_start : q_M := (yX5_start, cX5_start, 1, none)
theorem iX5_start : q_MV mX5_start 0 := ⟨⟨q_w 709 (by decide +kernel) rfl, q_w 76 (by decide +kernel) rfl, ⟨by decide +kernel, by decide +kernel, by decide +kernel⟩, by decide +kernel, by decide +kernel⟩, q_w 707 (by decide +kernel) rfl, q_w 708 (by decide +kernel) rfl⟩
abbrev mX5_findFault : q_M := (yX5_findFault, cX5_findFault, 2, (some .int))
theorem iX5_findFault : q_MV mX5_findFault 0 := ⟨⟨q_w 705 (by decide +kernel) rfl, q_w 76 (by decide +kernel) rfl, ⟨by decide +kernel, by decide +kernel, by decide +kernel⟩, by decide +kernel, by decide +kernel⟩, q_w 703 (by decide +kernel) rfl, q_w 704 (by decide +kernel) rfl⟩
abbrev mX5_readOrder : q_M := (yX5_readOrder, cX5_readOrder, 1, (some .boolean))
theorem iX5_readOrder : q_MV mX5_readOrder 0 := ⟨⟨q_w 713 (by decide +kernel) rfl, q_w 76 (by decide +kernel) rfl, ⟨by decide +kernel, by decide +kernel, by decide +kernel⟩, by decide +kernel, by decide +kernel⟩, q_w 711 (by decide +kernel) rfl, q_w 712 (by decide +kernel) rfl⟩
abbrev mX5_readTerms : q_M := (yX5_readTerms, cX5_readTerms, 1, (some .boolean))
theorem iX5_readTerms : q_MV mX5_readTerms 0 := ⟨⟨q_w 816 (by decide +kernel) rfl, q_w 76 (by decide +kernel) rfl, ⟨by decide +kernel, by decide +kernel, by decide +kernel⟩, by decide +kernel, by decide +kernel⟩, q_w 815 (by decide +kernel) rfl, q_w 16 (by decide +kernel) rfl⟩
abbrev mX5_readSign : q_M := (yX5_readSign, cX5_readSign, 2, (some .boolean))
theorem iX5_readSign : q_MV mX5_readSign 1 := ⟨⟨q_w 812 (by decide +kernel) rfl, q_w 76 (by decide +kernel) rfl, ⟨by decide +kernel, by decide +kernel, by decide +kernel⟩, by decide +kernel, by decide +kernel⟩, q_w 810 (by decide +kernel) rfl, q_w 811 (by decide +kernel) rfl⟩
abbrev mX5_readDigit : q_M := (yX5_readDigit, cX5_readDigit, 3, (some .boolean))
theorem iX5_readDigit : q_MV mX5_readDigit 1 := ⟨⟨q_w 800 (by decide +kernel) rfl, q_w 76 (by decide +kernel) rfl, ⟨by decide +kernel, by decide +kernel, by decide +kernel⟩, by decide +kernel, by decide +kernel⟩, q_w 799 (by decide +kernel) rfl, q_w 13 (by decide +kernel) rfl⟩
abbrev mX5_readNumber : q_M := (yX5_readNumber, cX5_readNumber, 3, (some .boolean))
theorem iX5_readNumber : q_MV mX5_readNumber 0 := ⟨⟨q_w 820 (by decide +kernel) rfl, q_w 76 (by decide +kernel) rfl, ⟨by decide +kernel, by decide +kernel, by decide +kernel⟩, by decide +kernel, by decide +kernel⟩, q_w 819 (by decide +kernel) rfl, q_w 17 (by decide +kernel) rfl⟩
abbrev mX5_digitHere : q_M := (yX5_digitHere, cX5_digitHere, 1, (some .int))
theorem iX5_digitHere : q_MV mX5_digitHere 0 := ⟨⟨q_w 804 (by decide +kernel) rfl, q_w 76 (by decide +kernel) rfl, ⟨by decide +kernel, by decide +kernel, by decide +kernel⟩, by decide +kernel, by decide +kernel⟩, q_w 803 (by decide +kernel) rfl, q_w 14 (by decide +kernel) rfl⟩
abbrev mX5_keepNumber : q_M := (yX5_keepNumber, cX5_keepNumber, 2, none)
theorem iX5_keepNumber : q_MV mX5_keepNumber 1 := ⟨⟨q_w 808 (by decide +kernel) rfl, q_w 76 (by decide +kernel) rfl, ⟨by decide +kernel, by decide +kernel, by decide +kernel⟩, by decide +kernel, by decide +kernel⟩, q_w 807 (by decide +kernel) rfl, q_w 15 (by decide +kernel) rfl⟩
abbrev mX6_init : q_M := (yX6_init, cX6_init, 1, none)
theorem iX6_init : q_MI mX6_init 0 := ⟨⟨q_w 248 (by decide +kernel) rfl, q_w 75 (by decide +kernel) rfl, ⟨by decide +kernel, by decide +kernel, by decide +kernel⟩, by decide +kernel, by decide +kernel⟩, q_w 247 (by decide +kernel) rfl, rfl, rfl⟩
abbrev mX6_append : q_M := (yX6_append, cX6_append, 7, (some .int))
theorem iX6_append : q_MV mX6_append 1 := ⟨⟨q_w 683 (by decide +kernel) rfl, q_w 75 (by decide +kernel) rfl, ⟨by decide +kernel, by decide +kernel, by decide +kernel⟩, by decide +kernel, by decide +kernel⟩, q_w 681 (by decide +kernel) rfl, q_w 682 (by decide +kernel) rfl⟩
abbrev mX6_countSigns : q_M := (yX6_countSigns, cX6_countSigns, 7, (some .int))
theorem iX6_countSigns : q_MS mX6_countSigns 1 := ⟨⟨q_w 686 (by decide +kernel) rfl, q_w 75 (by decide +kernel) rfl, ⟨by decide +kernel, by decide +kernel, by decide +kernel⟩, by decide +kernel, by decide +kernel⟩, q_w 685 (by decide +kernel) rfl⟩
abbrev mX6_clear : q_M := (yX6_clear, cX6_clear, 2, (some .int))
theorem iX6_clear : q_MV mX6_clear 0 := ⟨⟨q_w 697 (by decide +kernel) rfl, q_w 75 (by decide +kernel) rfl, ⟨by decide +kernel, by decide +kernel, by decide +kernel⟩, by decide +kernel, by decide +kernel⟩, q_w 695 (by decide +kernel) rfl, q_w 696 (by decide +kernel) rfl⟩
abbrev mX7_init : q_M := (yX7_init, cX7_init, 3, none)
theorem iX7_init : q_MI mX7_init 2 := ⟨⟨q_w 220 (by decide +kernel) rfl, q_w 74 (by decide +kernel) rfl, ⟨by decide +kernel, by decide +kernel, by decide +kernel⟩, by decide +kernel, by decide +kernel⟩, q_w 219 (by decide +kernel) rfl, rfl, rfl⟩
abbrev mX7_run : q_M := (yX7_run, cX7_run, 3, none)
theorem iX7_run : q_MV mX7_run 0 := ⟨⟨q_w 639 (by decide +kernel) rfl, q_w 74 (by decide +kernel) rfl, ⟨by decide +kernel, by decide +kernel, by decide +kernel⟩, by decide +kernel, by decide +kernel⟩, q_w 637 (by decide +kernel) rfl, q_w 638 (by decide +kernel) rfl⟩
abbrev mX7_bestTiltOf : q_M := (yX7_bestTiltOf, cX7_bestTiltOf, 2, (some .int))
theorem iX7_bestTiltOf : q_MV mX7_bestTiltOf 1 := ⟨⟨q_w 675 (by decide +kernel) rfl, q_w 74 (by decide +kernel) rfl, ⟨by decide +kernel, by decide +kernel, by decide +kernel⟩, by decide +kernel, by decide +kernel⟩, q_w 673 (by decide +kernel) rfl, q_w 674 (by decide +kernel) rfl⟩
abbrev mX7_bestYields : q_M := (yX7_bestYields, cX7_bestYields, 3, (some .int))
theorem iX7_bestYields : q_MV mX7_bestYields 0 := ⟨⟨q_w 671 (by decide +kernel) rfl, q_w 74 (by decide +kernel) rfl, ⟨by decide +kernel, by decide +kernel, by decide +kernel⟩, by decide +kernel, by decide +kernel⟩, q_w 669 (by decide +kernel) rfl, q_w 670 (by decide +kernel) rfl⟩
abbrev mX7_stepOf : q_M := (yX7_stepOf, cX7_stepOf, 2, (some .int))
theorem iX7_stepOf : q_MV mX7_stepOf 1 := ⟨⟨q_w 665 (by decide +kernel) rfl, q_w 74 (by decide +kernel) rfl, ⟨by decide +kernel, by decide +kernel, by decide +kernel⟩, by decide +kernel, by decide +kernel⟩, q_w 664 (by decide +kernel) rfl, q_w 12 (by decide +kernel) rfl⟩
abbrev mX7_findTops : q_M := (yX7_findTops, cX7_findTops, 3, none)
theorem iX7_findTops : q_MV mX7_findTops 0 := ⟨⟨q_w 645 (by decide +kernel) rfl, q_w 74 (by decide +kernel) rfl, ⟨by decide +kernel, by decide +kernel, by decide +kernel⟩, by decide +kernel, by decide +kernel⟩, q_w 644 (by decide +kernel) rfl, q_w 9 (by decide +kernel) rfl⟩
abbrev mX7_sortRows : q_M := (yX7_sortRows, cX7_sortRows, 3, none)
theorem iX7_sortRows : q_MV mX7_sortRows 0 := ⟨⟨q_w 652 (by decide +kernel) rfl, q_w 74 (by decide +kernel) rfl, ⟨by decide +kernel, by decide +kernel, by decide +kernel⟩, by decide +kernel, by decide +kernel⟩, q_w 651 (by decide +kernel) rfl, q_w 10 (by decide +kernel) rfl⟩
abbrev mX7_layRows : q_M := (yX7_layRows, cX7_layRows, 13, none)
theorem iX7_layRows : q_MS mX7_layRows 4 := ⟨⟨q_w 656 (by decide +kernel) rfl, q_w 74 (by decide +kernel) rfl, ⟨by decide +kernel, by decide +kernel, by decide +kernel⟩, by decide +kernel, by decide +kernel⟩, q_w 655 (by decide +kernel) rfl⟩
abbrev mX7_shadeOn : q_M := (yX7_shadeOn, cX7_shadeOn, 6, (some .int))
theorem iX7_shadeOn : q_MV mX7_shadeOn 2 := ⟨⟨q_w 660 (by decide +kernel) rfl, q_w 74 (by decide +kernel) rfl, ⟨by decide +kernel, by decide +kernel, by decide +kernel⟩, by decide +kernel, by decide +kernel⟩, q_w 659 (by decide +kernel) rfl, q_w 11 (by decide +kernel) rfl⟩
abbrev mX8_init : q_M := (yX8_init, cX8_init, 1, none)
theorem iX8_init : q_MI mX8_init 0 := ⟨⟨q_w 90 (by decide +kernel) rfl, q_w 69 (by decide +kernel) rfl, ⟨by decide +kernel, by decide +kernel, by decide +kernel⟩, by decide +kernel, by decide +kernel⟩, q_w 89 (by decide +kernel) rfl, rfl, rfl⟩
abbrev mX8_row : q_M := (yX8_row, cX8_row, 4, (some .int))
theorem iX8_row : q_MV mX8_row 3 := ⟨⟨q_w 334 (by decide +kernel) rfl, q_w 69 (by decide +kernel) rfl, ⟨by decide +kernel, by decide +kernel, by decide +kernel⟩, by decide +kernel, by decide +kernel⟩, q_w 332 (by decide +kernel) rfl, q_w 333 (by decide +kernel) rfl⟩
abbrev mX8_tilt : q_M := (yX8_tilt, cX8_tilt, 3, (some .int))
theorem iX8_tilt : q_MV mX8_tilt 2 := ⟨⟨q_w 373 (by decide +kernel) rfl, q_w 69 (by decide +kernel) rfl, ⟨by decide +kernel, by decide +kernel, by decide +kernel⟩, by decide +kernel, by decide +kernel⟩, q_w 371 (by decide +kernel) rfl, q_w 372 (by decide +kernel) rfl⟩
abbrev mX8_wind : q_M := (yX8_wind, cX8_wind, 3, (some .int))
theorem iX8_wind : q_MV mX8_wind 2 := ⟨⟨q_w 385 (by decide +kernel) rfl, q_w 69 (by decide +kernel) rfl, ⟨by decide +kernel, by decide +kernel, by decide +kernel⟩, by decide +kernel, by decide +kernel⟩, q_w 383 (by decide +kernel) rfl, q_w 384 (by decide +kernel) rfl⟩
abbrev mX8_stow : q_M := (yX8_stow, cX8_stow, 2, (some .int))
theorem iX8_stow : q_MV mX8_stow 1 := ⟨⟨q_w 397 (by decide +kernel) rfl, q_w 69 (by decide +kernel) rfl, ⟨by decide +kernel, by decide +kernel, by decide +kernel⟩, by decide +kernel, by decide +kernel⟩, q_w 395 (by decide +kernel) rfl, q_w 396 (by decide +kernel) rfl⟩
abbrev mX8_grant : q_M := (yX8_grant, cX8_grant, 5, (some .int))
theorem iX8_grant : q_MV mX8_grant 4 := ⟨⟨q_w 405 (by decide +kernel) rfl, q_w 69 (by decide +kernel) rfl, ⟨by decide +kernel, by decide +kernel, by decide +kernel⟩, by decide +kernel, by decide +kernel⟩, q_w 403 (by decide +kernel) rfl, q_w 404 (by decide +kernel) rfl⟩
abbrev mX8_ask : q_M := (yX8_ask, cX8_ask, 5, (some .int))
theorem iX8_ask : q_MV mX8_ask 4 := ⟨⟨q_w 420 (by decide +kernel) rfl, q_w 69 (by decide +kernel) rfl, ⟨by decide +kernel, by decide +kernel, by decide +kernel⟩, by decide +kernel, by decide +kernel⟩, q_w 418 (by decide +kernel) rfl, q_w 419 (by decide +kernel) rfl⟩
abbrev mX8_bid : q_M := (yX8_bid, cX8_bid, 6, (some .int))
theorem iX8_bid : q_MV mX8_bid 5 := ⟨⟨q_w 438 (by decide +kernel) rfl, q_w 69 (by decide +kernel) rfl, ⟨by decide +kernel, by decide +kernel, by decide +kernel⟩, by decide +kernel, by decide +kernel⟩, q_w 436 (by decide +kernel) rfl, q_w 437 (by decide +kernel) rfl⟩
abbrev mX8_takeBack : q_M := (yX8_takeBack, cX8_takeBack, 3, (some .int))
theorem iX8_takeBack : q_MV mX8_takeBack 2 := ⟨⟨q_w 446 (by decide +kernel) rfl, q_w 69 (by decide +kernel) rfl, ⟨by decide +kernel, by decide +kernel, by decide +kernel⟩, by decide +kernel, by decide +kernel⟩, q_w 444 (by decide +kernel) rfl, q_w 445 (by decide +kernel) rfl⟩
abbrev mX8_match : q_M := (yX8_match, cX8_match, 1, (some .int))
theorem iX8_match : q_MV mX8_match 0 := ⟨⟨q_w 467 (by decide +kernel) rfl, q_w 69 (by decide +kernel) rfl, ⟨by decide +kernel, by decide +kernel, by decide +kernel⟩, by decide +kernel, by decide +kernel⟩, q_w 465 (by decide +kernel) rfl, q_w 466 (by decide +kernel) rfl⟩
abbrev mX8_ofRow : q_M := (yX8_ofRow, cX8_ofRow, 3, (some .int))
theorem iX8_ofRow : q_MV mX8_ofRow 2 := ⟨⟨q_w 508 (by decide +kernel) rfl, q_w 69 (by decide +kernel) rfl, ⟨by decide +kernel, by decide +kernel, by decide +kernel⟩, by decide +kernel, by decide +kernel⟩, q_w 506 (by decide +kernel) rfl, q_w 507 (by decide +kernel) rfl⟩
abbrev mX8_inHour : q_M := (yX8_inHour, cX8_inHour, 4, (some .int))
theorem iX8_inHour : q_MV mX8_inHour 3 := ⟨⟨q_w 591 (by decide +kernel) rfl, q_w 69 (by decide +kernel) rfl, ⟨by decide +kernel, by decide +kernel, by decide +kernel⟩, by decide +kernel, by decide +kernel⟩, q_w 589 (by decide +kernel) rfl, q_w 590 (by decide +kernel) rfl⟩
abbrev mX8_over : q_M := (yX8_over, cX8_over, 5, (some .int))
theorem iX8_over : q_MV mX8_over 4 := ⟨⟨q_w 601 (by decide +kernel) rfl, q_w 69 (by decide +kernel) rfl, ⟨by decide +kernel, by decide +kernel, by decide +kernel⟩, by decide +kernel, by decide +kernel⟩, q_w 599 (by decide +kernel) rfl, q_w 600 (by decide +kernel) rfl⟩
abbrev mX8_offer : q_M := (yX8_offer, cX8_offer, 5, (some .int))
theorem iX8_offer : q_MV mX8_offer 3 := ⟨⟨q_w 607 (by decide +kernel) rfl, q_w 69 (by decide +kernel) rfl, ⟨by decide +kernel, by decide +kernel, by decide +kernel⟩, by decide +kernel, by decide +kernel⟩, q_w 605 (by decide +kernel) rfl, q_w 606 (by decide +kernel) rfl⟩
abbrev mX8_count : q_M := (yX8_count, cX8_count, 2, (some .int))
theorem iX8_count : q_MV mX8_count 1 := ⟨⟨q_w 613 (by decide +kernel) rfl, q_w 69 (by decide +kernel) rfl, ⟨by decide +kernel, by decide +kernel, by decide +kernel⟩, by decide +kernel, by decide +kernel⟩, q_w 611 (by decide +kernel) rfl, q_w 612 (by decide +kernel) rfl⟩
abbrev mX8_worth : q_M := (yX8_worth, cX8_worth, 10, (some .int))
theorem iX8_worth : q_MV mX8_worth 5 := ⟨⟨q_w 621 (by decide +kernel) rfl, q_w 69 (by decide +kernel) rfl, ⟨by decide +kernel, by decide +kernel, by decide +kernel⟩, by decide +kernel, by decide +kernel⟩, q_w 619 (by decide +kernel) rfl, q_w 620 (by decide +kernel) rfl⟩
abbrev mX8_gainMeasure : q_M := (yX8_gainMeasure, cX8_gainMeasure, 4, (some .int))
theorem iX8_gainMeasure : q_MV mX8_gainMeasure 3 := ⟨⟨q_w 626 (by decide +kernel) rfl, q_w 69 (by decide +kernel) rfl, ⟨by decide +kernel, by decide +kernel, by decide +kernel⟩, by decide +kernel, by decide +kernel⟩, q_w 625 (by decide +kernel) rfl, q_w 8 (by decide +kernel) rfl⟩
abbrev mX8_bestTilt : q_M := (yX8_bestTilt, cX8_bestTilt, 8, (some .int))
theorem iX8_bestTilt : q_MV mX8_bestTilt 2 := ⟨⟨q_w 631 (by decide +kernel) rfl, q_w 69 (by decide +kernel) rfl, ⟨by decide +kernel, by decide +kernel, by decide +kernel⟩, by decide +kernel, by decide +kernel⟩, q_w 629 (by decide +kernel) rfl, q_w 630 (by decide +kernel) rfl⟩
abbrev mX8_bestTilts : q_M := (yX8_bestTilts, cX8_bestTilts, 2, (some .int))
theorem iX8_bestTilts : q_MV mX8_bestTilts 1 := ⟨⟨q_w 635 (by decide +kernel) rfl, q_w 69 (by decide +kernel) rfl, ⟨by decide +kernel, by decide +kernel, by decide +kernel⟩, by decide +kernel, by decide +kernel⟩, q_w 633 (by decide +kernel) rfl, q_w 634 (by decide +kernel) rfl⟩
abbrev mX8_put : q_M := (yX8_put, cX8_put, 3, (some .int))
theorem iX8_put : q_MV mX8_put 1 := ⟨⟨q_w 679 (by decide +kernel) rfl, q_w 69 (by decide +kernel) rfl, ⟨by decide +kernel, by decide +kernel, by decide +kernel⟩, by decide +kernel, by decide +kernel⟩, q_w 677 (by decide +kernel) rfl, q_w 678 (by decide +kernel) rfl⟩
abbrev mX8_wipe : q_M := (yX8_wipe, cX8_wipe, 1, (some .int))
theorem iX8_wipe : q_MV mX8_wipe 0 := ⟨⟨q_w 693 (by decide +kernel) rfl, q_w 69 (by decide +kernel) rfl, ⟨by decide +kernel, by decide +kernel, by decide +kernel⟩, by decide +kernel, by decide +kernel⟩, q_w 691 (by decide +kernel) rfl, q_w 692 (by decide +kernel) rfl⟩
abbrev mX8_fault : q_M := (yX8_fault, cX8_fault, 1, (some .int))
theorem iX8_fault : q_MV mX8_fault 0 := ⟨⟨q_w 701 (by decide +kernel) rfl, q_w 69 (by decide +kernel) rfl, ⟨by decide +kernel, by decide +kernel, by decide +kernel⟩, by decide +kernel, by decide +kernel⟩, q_w 699 (by decide +kernel) rfl, q_w 700 (by decide +kernel) rfl⟩
abbrev mX8_carryOut : q_M := (yX8_carryOut, cX8_carryOut, 2, (some .int))
theorem iX8_carryOut : q_MV mX8_carryOut 0 := ⟨⟨q_w 825 (by decide +kernel) rfl, q_w 69 (by decide +kernel) rfl, ⟨by decide +kernel, by decide +kernel, by decide +kernel⟩, by decide +kernel, by decide +kernel⟩, q_w 823 (by decide +kernel) rfl, q_w 824 (by decide +kernel) rfl⟩
abbrev mX8_carryOrdersOut : q_M := (yX8_carryOrdersOut, cX8_carryOrdersOut, 3, (some .int))
theorem iX8_carryOrdersOut : q_MV mX8_carryOrdersOut 0 := ⟨⟨q_w 829 (by decide +kernel) rfl, q_w 69 (by decide +kernel) rfl, ⟨by decide +kernel, by decide +kernel, by decide +kernel⟩, by decide +kernel, by decide +kernel⟩, q_w 828 (by decide +kernel) rfl, q_w 18 (by decide +kernel) rfl⟩
abbrev mX8_carryOneOut : q_M := (yX8_carryOneOut, cX8_carryOneOut, 2, (some .int))
theorem iX8_carryOneOut : q_MV mX8_carryOneOut 0 := ⟨⟨q_w 835 (by decide +kernel) rfl, q_w 69 (by decide +kernel) rfl, ⟨by decide +kernel, by decide +kernel, by decide +kernel⟩, by decide +kernel, by decide +kernel⟩, q_w 834 (by decide +kernel) rfl, q_w 19 (by decide +kernel) rfl⟩
abbrev mX8_undo : q_M := (yX8_undo, cX8_undo, 1, (some .int))
theorem iX8_undo : q_MV mX8_undo 0 := ⟨⟨q_w 840 (by decide +kernel) rfl, q_w 69 (by decide +kernel) rfl, ⟨by decide +kernel, by decide +kernel, by decide +kernel⟩, by decide +kernel, by decide +kernel⟩, q_w 838 (by decide +kernel) rfl, q_w 839 (by decide +kernel) rfl⟩
abbrev mX8_save : q_M := (yX8_save, cX8_save, 2, (some .int))
theorem iX8_save : q_MV mX8_save 1 := ⟨⟨q_w 848 (by decide +kernel) rfl, q_w 69 (by decide +kernel) rfl, ⟨by decide +kernel, by decide +kernel, by decide +kernel⟩, by decide +kernel, by decide +kernel⟩, q_w 846 (by decide +kernel) rfl, q_w 847 (by decide +kernel) rfl⟩
abbrev mX8_restore : q_M := (yX8_restore, cX8_restore, 2, (some .int))
theorem iX8_restore : q_MV mX8_restore 1 := ⟨⟨q_w 853 (by decide +kernel) rfl, q_w 69 (by decide +kernel) rfl, ⟨by decide +kernel, by decide +kernel, by decide +kernel⟩, by decide +kernel, by decide +kernel⟩, q_w 851 (by decide +kernel) rfl, q_w 852 (by decide +kernel) rfl⟩
abbrev mX8_outside : q_M := (yX8_outside, cX8_outside, 3, (some .boolean))
theorem iX8_outside : q_MS mX8_outside 3 := ⟨⟨q_w 357 (by decide +kernel) rfl, q_w 69 (by decide +kernel) rfl, ⟨by decide +kernel, by decide +kernel, by decide +kernel⟩, by decide +kernel, by decide +kernel⟩, q_w 356 (by decide +kernel) rfl⟩
abbrev mX8_isHour : q_M := (yX8_isHour, cX8_isHour, 1, (some .boolean))
theorem iX8_isHour : q_MS mX8_isHour 1 := ⟨⟨q_w 392 (by decide +kernel) rfl, q_w 69 (by decide +kernel) rfl, ⟨by decide +kernel, by decide +kernel, by decide +kernel⟩, by decide +kernel, by decide +kernel⟩, q_w 391 (by decide +kernel) rfl⟩
abbrev mX9_init : q_M := (yX9_init, cX9_init, 1, none)
theorem iX9_init : q_MI mX9_init 0 := ⟨⟨q_w 858 (by decide +kernel) rfl, q_w 78 (by decide +kernel) rfl, ⟨by decide +kernel, by decide +kernel, by decide +kernel⟩, by decide +kernel, by decide +kernel⟩, q_w 857 (by decide +kernel) rfl, rfl, rfl⟩
abbrev mX9_copy : q_M := (yX9_copy, cX9_copy, 5, none)
theorem iX9_copy : q_MS mX9_copy 4 := ⟨⟨q_w 933 (by decide +kernel) rfl, q_w 78 (by decide +kernel) rfl, ⟨by decide +kernel, by decide +kernel, by decide +kernel⟩, by decide +kernel, by decide +kernel⟩, q_w 932 (by decide +kernel) rfl⟩
abbrev mX9_within : q_M := (yX9_within, cX9_within, 3, (some .boolean))
theorem iX9_within : q_MS mX9_within 3 := ⟨⟨q_w 918 (by decide +kernel) rfl, q_w 78 (by decide +kernel) rfl, ⟨by decide +kernel, by decide +kernel, by decide +kernel⟩, by decide +kernel, by decide +kernel⟩, q_w 917 (by decide +kernel) rfl⟩
abbrev mX9_record : q_M := (yX9_record, cX9_record, 2, none)
theorem iX9_record : q_MV mX9_record 0 := ⟨⟨q_w 930 (by decide +kernel) rfl, q_w 78 (by decide +kernel) rfl, ⟨by decide +kernel, by decide +kernel, by decide +kernel⟩, by decide +kernel, by decide +kernel⟩, q_w 929 (by decide +kernel) rfl, q_w 22 (by decide +kernel) rfl⟩
abbrev mX9_isRow : q_M := (yX9_isRow, cX9_isRow, 2, (some .boolean))
theorem iX9_isRow : q_MV mX9_isRow 1 := ⟨⟨q_w 945 (by decide +kernel) rfl, q_w 78 (by decide +kernel) rfl, ⟨by decide +kernel, by decide +kernel, by decide +kernel⟩, by decide +kernel, by decide +kernel⟩, q_w 944 (by decide +kernel) rfl, q_w 24 (by decide +kernel) rfl⟩
abbrev mX9_isHour : q_M := (yX9_isHour, cX9_isHour, 1, (some .boolean))
theorem iX9_isHour : q_MS mX9_isHour 1 := ⟨⟨q_w 956 (by decide +kernel) rfl, q_w 78 (by decide +kernel) rfl, ⟨by decide +kernel, by decide +kernel, by decide +kernel⟩, by decide +kernel, by decide +kernel⟩, q_w 955 (by decide +kernel) rfl⟩
abbrev mX9_part : q_M := (yX9_part, cX9_part, 3, (some .int))
theorem iX9_part : q_MV mX9_part 2 := ⟨⟨q_w 926 (by decide +kernel) rfl, q_w 78 (by decide +kernel) rfl, ⟨by decide +kernel, by decide +kernel, by decide +kernel⟩, by decide +kernel, by decide +kernel⟩, q_w 925 (by decide +kernel) rfl, q_w 21 (by decide +kernel) rfl⟩
abbrev mX9_rightOf : q_M := (yX9_rightOf, cX9_rightOf, 4, (some .int))
theorem iX9_rightOf : q_MV mX9_rightOf 3 := ⟨⟨q_w 972 (by decide +kernel) rfl, q_w 78 (by decide +kernel) rfl, ⟨by decide +kernel, by decide +kernel, by decide +kernel⟩, by decide +kernel, by decide +kernel⟩, q_w 971 (by decide +kernel) rfl, q_w 27 (by decide +kernel) rfl⟩
abbrev mX9_setRight : q_M := (yX9_setRight, cX9_setRight, 5, none)
theorem iX9_setRight : q_MV mX9_setRight 4 := ⟨⟨q_w 976 (by decide +kernel) rfl, q_w 78 (by decide +kernel) rfl, ⟨by decide +kernel, by decide +kernel, by decide +kernel⟩, by decide +kernel, by decide +kernel⟩, q_w 975 (by decide +kernel) rfl, q_w 28 (by decide +kernel) rfl⟩
abbrev mX9_slopeOf : q_M := (yX9_slopeOf, cX9_slopeOf, 2, (some .int))
theorem iX9_slopeOf : q_MS mX9_slopeOf 1 := ⟨⟨q_w 1079 (by decide +kernel) rfl, q_w 78 (by decide +kernel) rfl, ⟨by decide +kernel, by decide +kernel, by decide +kernel⟩, by decide +kernel, by decide +kernel⟩, q_w 1078 (by decide +kernel) rfl⟩
abbrev mX9_sunOf : q_M := (yX9_sunOf, cX9_sunOf, 1, (some .int))
theorem iX9_sunOf : q_MS mX9_sunOf 1 := ⟨⟨q_w 1098 (by decide +kernel) rfl, q_w 78 (by decide +kernel) rfl, ⟨by decide +kernel, by decide +kernel, by decide +kernel⟩, by decide +kernel, by decide +kernel⟩, q_w 1097 (by decide +kernel) rfl⟩
abbrev mX9_shadow : q_M := (yX9_shadow, cX9_shadow, 8, (some .int))
theorem iX9_shadow : q_MV mX9_shadow 4 := ⟨⟨q_w 1076 (by decide +kernel) rfl, q_w 78 (by decide +kernel) rfl, ⟨by decide +kernel, by decide +kernel, by decide +kernel⟩, by decide +kernel, by decide +kernel⟩, q_w 1075 (by decide +kernel) rfl, q_w 47 (by decide +kernel) rfl⟩
abbrev mX9_isFlat : q_M := (yX9_isFlat, cX9_isFlat, 2, (some .boolean))
theorem iX9_isFlat : q_MV mX9_isFlat 1 := ⟨⟨q_w 1068 (by decide +kernel) rfl, q_w 78 (by decide +kernel) rfl, ⟨by decide +kernel, by decide +kernel, by decide +kernel⟩, by decide +kernel, by decide +kernel⟩, q_w 1067 (by decide +kernel) rfl, q_w 45 (by decide +kernel) rfl⟩
abbrev mX9_keepsRights : q_M := (yX9_keepsRights, cX9_keepsRights, 6, (some .boolean))
theorem iX9_keepsRights : q_MV mX9_keepsRights 3 := ⟨⟨q_w 1072 (by decide +kernel) rfl, q_w 78 (by decide +kernel) rfl, ⟨by decide +kernel, by decide +kernel, by decide +kernel⟩, by decide +kernel, by decide +kernel⟩, q_w 1071 (by decide +kernel) rfl, q_w 46 (by decide +kernel) rfl⟩
abbrev mX9_tiltIn : q_M := (yX9_tiltIn, cX9_tiltIn, 5, (some .int))
theorem iX9_tiltIn : q_MV mX9_tiltIn 3 := ⟨⟨q_w 1064 (by decide +kernel) rfl, q_w 78 (by decide +kernel) rfl, ⟨by decide +kernel, by decide +kernel, by decide +kernel⟩, by decide +kernel, by decide +kernel⟩, q_w 1063 (by decide +kernel) rfl, q_w 44 (by decide +kernel) rfl⟩
abbrev mX9_heightIn : q_M := (yX9_heightIn, cX9_heightIn, 3, (some .int))
theorem iX9_heightIn : q_MV mX9_heightIn 2 := ⟨⟨q_w 1060 (by decide +kernel) rfl, q_w 78 (by decide +kernel) rfl, ⟨by decide +kernel, by decide +kernel, by decide +kernel⟩, by decide +kernel, by decide +kernel⟩, q_w 1059 (by decide +kernel) rfl, q_w 43 (by decide +kernel) rfl⟩
abbrev mX9_shadowIn : q_M := (yX9_shadowIn, cX9_shadowIn, 4, (some .int))
theorem iX9_shadowIn : q_MV mX9_shadowIn 3 := ⟨⟨q_w 1091 (by decide +kernel) rfl, q_w 78 (by decide +kernel) rfl, ⟨by decide +kernel, by decide +kernel, by decide +kernel⟩, by decide +kernel, by decide +kernel⟩, q_w 1090 (by decide +kernel) rfl, q_w 50 (by decide +kernel) rfl⟩
abbrev mX9_far : q_M := (yX9_far, cX9_far, 4, (some .int))
theorem iX9_far : q_MV mX9_far 2 := ⟨⟨q_w 1095 (by decide +kernel) rfl, q_w 78 (by decide +kernel) rfl, ⟨by decide +kernel, by decide +kernel, by decide +kernel⟩, by decide +kernel, by decide +kernel⟩, q_w 1094 (by decide +kernel) rfl, q_w 51 (by decide +kernel) rfl⟩
abbrev mX9_blamed : q_M := (yX9_blamed, cX9_blamed, 8, (some .int))
theorem iX9_blamed : q_MV mX9_blamed 2 := ⟨⟨q_w 1087 (by decide +kernel) rfl, q_w 78 (by decide +kernel) rfl, ⟨by decide +kernel, by decide +kernel, by decide +kernel⟩, by decide +kernel, by decide +kernel⟩, q_w 1086 (by decide +kernel) rfl, q_w 49 (by decide +kernel) rfl⟩
abbrev mX9_shadeOf : q_M := (yX9_shadeOf, cX9_shadeOf, 6, (some .int))
theorem iX9_shadeOf : q_MV mX9_shadeOf 2 := ⟨⟨q_w 1083 (by decide +kernel) rfl, q_w 78 (by decide +kernel) rfl, ⟨by decide +kernel, by decide +kernel, by decide +kernel⟩, by decide +kernel, by decide +kernel⟩, q_w 1082 (by decide +kernel) rfl, q_w 48 (by decide +kernel) rfl⟩
abbrev mX9_yieldIn : q_M := (yX9_yieldIn, cX9_yieldIn, 3, (some .int))
theorem iX9_yieldIn : q_MV mX9_yieldIn 2 := ⟨⟨q_w 1056 (by decide +kernel) rfl, q_w 78 (by decide +kernel) rfl, ⟨by decide +kernel, by decide +kernel, by decide +kernel⟩, by decide +kernel, by decide +kernel⟩, q_w 1055 (by decide +kernel) rfl, q_w 42 (by decide +kernel) rfl⟩
abbrev mX9_yieldOf : q_M := (yX9_yieldOf, cX9_yieldOf, 4, (some .int))
theorem iX9_yieldOf : q_MV mX9_yieldOf 1 := ⟨⟨q_w 1052 (by decide +kernel) rfl, q_w 78 (by decide +kernel) rfl, ⟨by decide +kernel, by decide +kernel, by decide +kernel⟩, by decide +kernel, by decide +kernel⟩, q_w 1051 (by decide +kernel) rfl, q_w 41 (by decide +kernel) rfl⟩
abbrev mX9_allYields : q_M := (yX9_allYields, cX9_allYields, 3, (some .int))
theorem iX9_allYields : q_MV mX9_allYields 0 := ⟨⟨q_w 1138 (by decide +kernel) rfl, q_w 78 (by decide +kernel) rfl, ⟨by decide +kernel, by decide +kernel, by decide +kernel⟩, by decide +kernel, by decide +kernel⟩, q_w 1137 (by decide +kernel) rfl, q_w 57 (by decide +kernel) rfl⟩
abbrev mX9_isPlaceTaken : q_M := (yX9_isPlaceTaken, cX9_isPlaceTaken, 4, (some .boolean))
theorem iX9_isPlaceTaken : q_MV mX9_isPlaceTaken 1 := ⟨⟨q_w 922 (by decide +kernel) rfl, q_w 78 (by decide +kernel) rfl, ⟨by decide +kernel, by decide +kernel, by decide +kernel⟩, by decide +kernel, by decide +kernel⟩, q_w 921 (by decide +kernel) rfl, q_w 20 (by decide +kernel) rfl⟩
abbrev mX9_row : q_M := (yX9_row, cX9_row, 5, (some .int))
theorem iX9_row : q_MV mX9_row 3 := ⟨⟨q_w 915 (by decide +kernel) rfl, q_w 78 (by decide +kernel) rfl, ⟨by decide +kernel, by decide +kernel, by decide +kernel⟩, by decide +kernel, by decide +kernel⟩, q_w 913 (by decide +kernel) rfl, q_w 914 (by decide +kernel) rfl⟩
abbrev mX9_whyNotTilted : q_M := (yX9_whyNotTilted, cX9_whyNotTilted, 3, (some .int))
theorem iX9_whyNotTilted : q_MV mX9_whyNotTilted 2 := ⟨⟨q_w 941 (by decide +kernel) rfl, q_w 78 (by decide +kernel) rfl, ⟨by decide +kernel, by decide +kernel, by decide +kernel⟩, by decide +kernel, by decide +kernel⟩, q_w 940 (by decide +kernel) rfl, q_w 23 (by decide +kernel) rfl⟩
abbrev mX9_tilted : q_M := (yX9_tilted, cX9_tilted, 4, (some .int))
theorem iX9_tilted : q_MV mX9_tilted 2 := ⟨⟨q_w 949 (by decide +kernel) rfl, q_w 78 (by decide +kernel) rfl, ⟨by decide +kernel, by decide +kernel, by decide +kernel⟩, by decide +kernel, by decide +kernel⟩, q_w 948 (by decide +kernel) rfl, q_w 25 (by decide +kernel) rfl⟩
abbrev mX9_tilt : q_M := (yX9_tilt, cX9_tilt, 4, (some .int))
theorem iX9_tilt : q_MV mX9_tilt 2 := ⟨⟨q_w 937 (by decide +kernel) rfl, q_w 78 (by decide +kernel) rfl, ⟨by decide +kernel, by decide +kernel, by decide +kernel⟩, by decide +kernel, by decide +kernel⟩, q_w 935 (by decide +kernel) rfl, q_w 936 (by decide +kernel) rfl⟩
abbrev mX9_wind : q_M := (yX9_wind, cX9_wind, 4, (some .int))
theorem iX9_wind : q_MV mX9_wind 2 := ⟨⟨q_w 953 (by decide +kernel) rfl, q_w 78 (by decide +kernel) rfl, ⟨by decide +kernel, by decide +kernel, by decide +kernel⟩, by decide +kernel, by decide +kernel⟩, q_w 951 (by decide +kernel) rfl, q_w 952 (by decide +kernel) rfl⟩
abbrev mX9_stow : q_M := (yX9_stow, cX9_stow, 3, (some .int))
theorem iX9_stow : q_MV mX9_stow 1 := ⟨⟨q_w 960 (by decide +kernel) rfl, q_w 78 (by decide +kernel) rfl, ⟨by decide +kernel, by decide +kernel, by decide +kernel⟩, by decide +kernel, by decide +kernel⟩, q_w 958 (by decide +kernel) rfl, q_w 959 (by decide +kernel) rfl⟩
abbrev mX9_whyNotGranted : q_M := (yX9_whyNotGranted, cX9_whyNotGranted, 5, (some .int))
theorem iX9_whyNotGranted : q_MV mX9_whyNotGranted 4 := ⟨⟨q_w 968 (by decide +kernel) rfl, q_w 78 (by decide +kernel) rfl, ⟨by decide +kernel, by decide +kernel, by decide +kernel⟩, by decide +kernel, by decide +kernel⟩, q_w 967 (by decide +kernel) rfl, q_w 26 (by decide +kernel) rfl⟩
abbrev mX9_grant : q_M := (yX9_grant, cX9_grant, 7, (some .int))
theorem iX9_grant : q_MV mX9_grant 4 := ⟨⟨q_w 964 (by decide +kernel) rfl, q_w 78 (by decide +kernel) rfl, ⟨by decide +kernel, by decide +kernel, by decide +kernel⟩, by decide +kernel, by decide +kernel⟩, q_w 962 (by decide +kernel) rfl, q_w 963 (by decide +kernel) rfl⟩
abbrev mX9_areUnits : q_M := (yX9_areUnits, cX9_areUnits, 2, (some .boolean))
theorem iX9_areUnits : q_MS mX9_areUnits 2 := ⟨⟨q_w 987 (by decide +kernel) rfl, q_w 78 (by decide +kernel) rfl, ⟨by decide +kernel, by decide +kernel, by decide +kernel⟩, by decide +kernel, by decide +kernel⟩, q_w 986 (by decide +kernel) rfl⟩
abbrev mX9_whyNotAsked : q_M := (yX9_whyNotAsked, cX9_whyNotAsked, 5, (some .int))
theorem iX9_whyNotAsked : q_MV mX9_whyNotAsked 4 := ⟨⟨q_w 984 (by decide +kernel) rfl, q_w 78 (by decide +kernel) rfl, ⟨by decide +kernel, by decide +kernel, by decide +kernel⟩, by decide +kernel, by decide +kernel⟩, q_w 983 (by decide +kernel) rfl, q_w 29 (by decide +kernel) rfl⟩
abbrev mX9_asked : q_M := (yX9_asked, cX9_asked, 6, (some .int))
theorem iX9_asked : q_MV mX9_asked 4 := ⟨⟨q_w 991 (by decide +kernel) rfl, q_w 78 (by decide +kernel) rfl, ⟨by decide +kernel, by decide +kernel, by decide +kernel⟩, by decide +kernel, by decide +kernel⟩, q_w 990 (by decide +kernel) rfl, q_w 30 (by decide +kernel) rfl⟩
abbrev mX9_ask : q_M := (yX9_ask, cX9_ask, 6, (some .int))
theorem iX9_ask : q_MV mX9_ask 4 := ⟨⟨q_w 980 (by decide +kernel) rfl, q_w 78 (by decide +kernel) rfl, ⟨by decide +kernel, by decide +kernel, by decide +kernel⟩, by decide +kernel, by decide +kernel⟩, q_w 978 (by decide +kernel) rfl, q_w 979 (by decide +kernel) rfl⟩
abbrev mX9_whyNotBid : q_M := (yX9_whyNotBid, cX9_whyNotBid, 6, (some .int))
theorem iX9_whyNotBid : q_MV mX9_whyNotBid 5 := ⟨⟨q_w 999 (by decide +kernel) rfl, q_w 78 (by decide +kernel) rfl, ⟨by decide +kernel, by decide +kernel, by decide +kernel⟩, by decide +kernel, by decide +kernel⟩, q_w 998 (by decide +kernel) rfl, q_w 31 (by decide +kernel) rfl⟩
abbrev mX9_bought : q_M := (yX9_bought, cX9_bought, 7, (some .int))
theorem iX9_bought : q_MV mX9_bought 5 := ⟨⟨q_w 1003 (by decide +kernel) rfl, q_w 78 (by decide +kernel) rfl, ⟨by decide +kernel, by decide +kernel, by decide +kernel⟩, by decide +kernel, by decide +kernel⟩, q_w 1002 (by decide +kernel) rfl, q_w 32 (by decide +kernel) rfl⟩
abbrev mX9_bid : q_M := (yX9_bid, cX9_bid, 7, (some .int))
theorem iX9_bid : q_MV mX9_bid 5 := ⟨⟨q_w 995 (by decide +kernel) rfl, q_w 78 (by decide +kernel) rfl, ⟨by decide +kernel, by decide +kernel, by decide +kernel⟩, by decide +kernel, by decide +kernel⟩, q_w 993 (by decide +kernel) rfl, q_w 994 (by decide +kernel) rfl⟩
abbrev mX9_dropAsk : q_M := (yX9_dropAsk, cX9_dropAsk, 3, none)
theorem iX9_dropAsk : q_MV mX9_dropAsk 1 := ⟨⟨q_w 1011 (by decide +kernel) rfl, q_w 78 (by decide +kernel) rfl, ⟨by decide +kernel, by decide +kernel, by decide +kernel⟩, by decide +kernel, by decide +kernel⟩, q_w 1010 (by decide +kernel) rfl, q_w 33 (by decide +kernel) rfl⟩
abbrev mX9_dropBid : q_M := (yX9_dropBid, cX9_dropBid, 3, none)
theorem iX9_dropBid : q_MV mX9_dropBid 1 := ⟨⟨q_w 1015 (by decide +kernel) rfl, q_w 78 (by decide +kernel) rfl, ⟨by decide +kernel, by decide +kernel, by decide +kernel⟩, by decide +kernel, by decide +kernel⟩, q_w 1014 (by decide +kernel) rfl, q_w 34 (by decide +kernel) rfl⟩
abbrev mX9_takeBack : q_M := (yX9_takeBack, cX9_takeBack, 3, (some .int))
theorem iX9_takeBack : q_MV mX9_takeBack 2 := ⟨⟨q_w 1007 (by decide +kernel) rfl, q_w 78 (by decide +kernel) rfl, ⟨by decide +kernel, by decide +kernel, by decide +kernel⟩, by decide +kernel, by decide +kernel⟩, q_w 1005 (by decide +kernel) rfl, q_w 1006 (by decide +kernel) rfl⟩
abbrev mX9_askPart : q_M := (yX9_askPart, cX9_askPart, 3, (some .int))
theorem iX9_askPart : q_MV mX9_askPart 2 := ⟨⟨q_w 1043 (by decide +kernel) rfl, q_w 78 (by decide +kernel) rfl, ⟨by decide +kernel, by decide +kernel, by decide +kernel⟩, by decide +kernel, by decide +kernel⟩, q_w 1042 (by decide +kernel) rfl, q_w 40 (by decide +kernel) rfl⟩
abbrev mX9_bidPart : q_M := (yX9_bidPart, cX9_bidPart, 3, (some .int))
theorem iX9_bidPart : q_MV mX9_bidPart 2 := ⟨⟨q_w 1031 (by decide +kernel) rfl, q_w 78 (by decide +kernel) rfl, ⟨by decide +kernel, by decide +kernel, by decide +kernel⟩, by decide +kernel, by decide +kernel⟩, q_w 1030 (by decide +kernel) rfl, q_w 37 (by decide +kernel) rfl⟩
abbrev mX9_placeOfBid : q_M := (yX9_placeOfBid, cX9_placeOfBid, 5, (some .int))
theorem iX9_placeOfBid : q_MV mX9_placeOfBid 1 := ⟨⟨q_w 1027 (by decide +kernel) rfl, q_w 78 (by decide +kernel) rfl, ⟨by decide +kernel, by decide +kernel, by decide +kernel⟩, by decide +kernel, by decide +kernel⟩, q_w 1026 (by decide +kernel) rfl, q_w 36 (by decide +kernel) rfl⟩
abbrev mX9_nextAsk : q_M := (yX9_nextAsk, cX9_nextAsk, 5, (some .int))
theorem iX9_nextAsk : q_MV mX9_nextAsk 1 := ⟨⟨q_w 1039 (by decide +kernel) rfl, q_w 78 (by decide +kernel) rfl, ⟨by decide +kernel, by decide +kernel, by decide +kernel⟩, by decide +kernel, by decide +kernel⟩, q_w 1038 (by decide +kernel) rfl, q_w 39 (by decide +kernel) rfl⟩
abbrev mX9_tradedBy : q_M := (yX9_tradedBy, cX9_tradedBy, 10, (some .int))
theorem iX9_tradedBy : q_MV mX9_tradedBy 1 := ⟨⟨q_w 1035 (by decide +kernel) rfl, q_w 78 (by decide +kernel) rfl, ⟨by decide +kernel, by decide +kernel, by decide +kernel⟩, by decide +kernel, by decide +kernel⟩, q_w 1034 (by decide +kernel) rfl, q_w 38 (by decide +kernel) rfl⟩
abbrev mX9_matched : q_M := (yX9_matched, cX9_matched, 4, (some .int))
theorem iX9_matched : q_MV mX9_matched 0 := ⟨⟨q_w 1023 (by decide +kernel) rfl, q_w 78 (by decide +kernel) rfl, ⟨by decide +kernel, by decide +kernel, by decide +kernel⟩, by decide +kernel, by decide +kernel⟩, q_w 1022 (by decide +kernel) rfl, q_w 35 (by decide +kernel) rfl⟩
abbrev mX9_match : q_M := (yX9_match, cX9_match, 1, (some .int))
theorem iX9_match : q_MV mX9_match 0 := ⟨⟨q_w 1019 (by decide +kernel) rfl, q_w 78 (by decide +kernel) rfl, ⟨by decide +kernel, by decide +kernel, by decide +kernel⟩, by decide +kernel, by decide +kernel⟩, q_w 1017 (by decide +kernel) rfl, q_w 1018 (by decide +kernel) rfl⟩
abbrev mX9_fullYield : q_M := (yX9_fullYield, cX9_fullYield, 4, (some .int))
theorem iX9_fullYield : q_MV mX9_fullYield 1 := ⟨⟨q_w 1102 (by decide +kernel) rfl, q_w 78 (by decide +kernel) rfl, ⟨by decide +kernel, by decide +kernel, by decide +kernel⟩, by decide +kernel, by decide +kernel⟩, q_w 1101 (by decide +kernel) rfl, q_w 52 (by decide +kernel) rfl⟩
abbrev mX9_lowHours : q_M := (yX9_lowHours, cX9_lowHours, 4, (some .int))
theorem iX9_lowHours : q_MV mX9_lowHours 1 := ⟨⟨q_w 1106 (by decide +kernel) rfl, q_w 78 (by decide +kernel) rfl, ⟨by decide +kernel, by decide +kernel, by decide +kernel⟩, by decide +kernel, by decide +kernel⟩, q_w 1105 (by decide +kernel) rfl, q_w 53 (by decide +kernel) rfl⟩
abbrev mX9_shadeHours : q_M := (yX9_shadeHours, cX9_shadeHours, 4, (some .int))
theorem iX9_shadeHours : q_MV mX9_shadeHours 1 := ⟨⟨q_w 1110 (by decide +kernel) rfl, q_w 78 (by decide +kernel) rfl, ⟨by decide +kernel, by decide +kernel, by decide +kernel⟩, by decide +kernel, by decide +kernel⟩, q_w 1109 (by decide +kernel) rfl, q_w 54 (by decide +kernel) rfl⟩
abbrev mX9_blamedHours : q_M := (yX9_blamedHours, cX9_blamedHours, 5, (some .int))
theorem iX9_blamedHours : q_MV mX9_blamedHours 2 := ⟨⟨q_w 1118 (by decide +kernel) rfl, q_w 78 (by decide +kernel) rfl, ⟨by decide +kernel, by decide +kernel, by decide +kernel⟩, by decide +kernel, by decide +kernel⟩, q_w 1117 (by decide +kernel) rfl, q_w 56 (by decide +kernel) rfl⟩
abbrev mX9_mostBlamed : q_M := (yX9_mostBlamed, cX9_mostBlamed, 6, (some .int))
theorem iX9_mostBlamed : q_MV mX9_mostBlamed 1 := ⟨⟨q_w 1114 (by decide +kernel) rfl, q_w 78 (by decide +kernel) rfl, ⟨by decide +kernel, by decide +kernel, by decide +kernel⟩, by decide +kernel, by decide +kernel⟩, q_w 1113 (by decide +kernel) rfl, q_w 55 (by decide +kernel) rfl⟩
abbrev mX9_ofRow : q_M := (yX9_ofRow, cX9_ofRow, 3, (some .int))
theorem iX9_ofRow : q_MV mX9_ofRow 2 := ⟨⟨q_w 1047 (by decide +kernel) rfl, q_w 78 (by decide +kernel) rfl, ⟨by decide +kernel, by decide +kernel, by decide +kernel⟩, by decide +kernel, by decide +kernel⟩, q_w 1045 (by decide +kernel) rfl, q_w 1046 (by decide +kernel) rfl⟩
abbrev mX9_inHour : q_M := (yX9_inHour, cX9_inHour, 4, (some .int))
theorem iX9_inHour : q_MV mX9_inHour 3 := ⟨⟨q_w 1122 (by decide +kernel) rfl, q_w 78 (by decide +kernel) rfl, ⟨by decide +kernel, by decide +kernel, by decide +kernel⟩, by decide +kernel, by decide +kernel⟩, q_w 1120 (by decide +kernel) rfl, q_w 1121 (by decide +kernel) rfl⟩
abbrev mX9_over : q_M := (yX9_over, cX9_over, 5, (some .int))
theorem iX9_over : q_MV mX9_over 4 := ⟨⟨q_w 1126 (by decide +kernel) rfl, q_w 78 (by decide +kernel) rfl, ⟨by decide +kernel, by decide +kernel, by decide +kernel⟩, by decide +kernel, by decide +kernel⟩, q_w 1124 (by decide +kernel) rfl, q_w 1125 (by decide +kernel) rfl⟩
abbrev mX9_offer : q_M := (yX9_offer, cX9_offer, 4, (some .int))
theorem iX9_offer : q_MV mX9_offer 3 := ⟨⟨q_w 1130 (by decide +kernel) rfl, q_w 78 (by decide +kernel) rfl, ⟨by decide +kernel, by decide +kernel, by decide +kernel⟩, by decide +kernel, by decide +kernel⟩, q_w 1128 (by decide +kernel) rfl, q_w 1129 (by decide +kernel) rfl⟩
abbrev mX9_count : q_M := (yX9_count, cX9_count, 2, (some .int))
theorem iX9_count : q_MV mX9_count 1 := ⟨⟨q_w 1134 (by decide +kernel) rfl, q_w 78 (by decide +kernel) rfl, ⟨by decide +kernel, by decide +kernel, by decide +kernel⟩, by decide +kernel, by decide +kernel⟩, q_w 1132 (by decide +kernel) rfl, q_w 1133 (by decide +kernel) rfl⟩
abbrev mX9_worth : q_M := (yX9_worth, cX9_worth, 10, (some .int))
theorem iX9_worth : q_MV mX9_worth 5 := ⟨⟨q_w 1142 (by decide +kernel) rfl, q_w 78 (by decide +kernel) rfl, ⟨by decide +kernel, by decide +kernel, by decide +kernel⟩, by decide +kernel, by decide +kernel⟩, q_w 1140 (by decide +kernel) rfl, q_w 1141 (by decide +kernel) rfl⟩
abbrev mX9_bestTilt : q_M := (yX9_bestTilt, cX9_bestTilt, 8, (some .int))
theorem iX9_bestTilt : q_MV mX9_bestTilt 2 := ⟨⟨q_w 1147 (by decide +kernel) rfl, q_w 78 (by decide +kernel) rfl, ⟨by decide +kernel, by decide +kernel, by decide +kernel⟩, by decide +kernel, by decide +kernel⟩, q_w 1145 (by decide +kernel) rfl, q_w 1146 (by decide +kernel) rfl⟩
abbrev mX9_lyingAt : q_M := (yX9_lyingAt, cX9_lyingAt, 3, (some .int))
theorem iX9_lyingAt : q_MS mX9_lyingAt 3 := ⟨⟨q_w 1158 (by decide +kernel) rfl, q_w 78 (by decide +kernel) rfl, ⟨by decide +kernel, by decide +kernel, by decide +kernel⟩, by decide +kernel, by decide +kernel⟩, q_w 1157 (by decide +kernel) rfl⟩
abbrev mX9_heightAt : q_M := (yX9_heightAt, cX9_heightAt, 4, (some .int))
theorem iX9_heightAt : q_MS mX9_heightAt 4 := ⟨⟨q_w 1161 (by decide +kernel) rfl, q_w 78 (by decide +kernel) rfl, ⟨by decide +kernel, by decide +kernel, by decide +kernel⟩, by decide +kernel, by decide +kernel⟩, q_w 1160 (by decide +kernel) rfl⟩
abbrev mX9_findHeights : q_M := (yX9_findHeights, cX9_findHeights, 5, none)
theorem iX9_findHeights : q_MV mX9_findHeights 0 := ⟨⟨q_w 1155 (by decide +kernel) rfl, q_w 78 (by decide +kernel) rfl, ⟨by decide +kernel, by decide +kernel, by decide +kernel⟩, by decide +kernel, by decide +kernel⟩, q_w 1154 (by decide +kernel) rfl, q_w 58 (by decide +kernel) rfl⟩
abbrev mX9_yieldsBy : q_M := (yX9_yieldsBy, cX9_yieldsBy, 7, (some .int))
theorem iX9_yieldsBy : q_MV mX9_yieldsBy 0 := ⟨⟨q_w 1165 (by decide +kernel) rfl, q_w 78 (by decide +kernel) rfl, ⟨by decide +kernel, by decide +kernel, by decide +kernel⟩, by decide +kernel, by decide +kernel⟩, q_w 1164 (by decide +kernel) rfl, q_w 59 (by decide +kernel) rfl⟩
abbrev mX9_bestTilts : q_M := (yX9_bestTilts, cX9_bestTilts, 9, (some .int))
theorem iX9_bestTilts : q_MV mX9_bestTilts 1 := ⟨⟨q_w 1151 (by decide +kernel) rfl, q_w 78 (by decide +kernel) rfl, ⟨by decide +kernel, by decide +kernel, by decide +kernel⟩, by decide +kernel, by decide +kernel⟩, q_w 1149 (by decide +kernel) rfl, q_w 1150 (by decide +kernel) rfl⟩
abbrev mX9_put : q_M := (yX9_put, cX9_put, 8, (some .int))
theorem iX9_put : q_MV mX9_put 1 := ⟨⟨q_w 1169 (by decide +kernel) rfl, q_w 78 (by decide +kernel) rfl, ⟨by decide +kernel, by decide +kernel, by decide +kernel⟩, by decide +kernel, by decide +kernel⟩, q_w 1167 (by decide +kernel) rfl, q_w 1168 (by decide +kernel) rfl⟩
abbrev mX9_wipe : q_M := (yX9_wipe, cX9_wipe, 2, (some .int))
theorem iX9_wipe : q_MV mX9_wipe 0 := ⟨⟨q_w 1174 (by decide +kernel) rfl, q_w 78 (by decide +kernel) rfl, ⟨by decide +kernel, by decide +kernel, by decide +kernel⟩, by decide +kernel, by decide +kernel⟩, q_w 1172 (by decide +kernel) rfl, q_w 1173 (by decide +kernel) rfl⟩
abbrev mX9_character : q_M := (yX9_character, cX9_character, 2, (some .int))
theorem iX9_character : q_MV mX9_character 1 := ⟨⟨q_w 1190 (by decide +kernel) rfl, q_w 78 (by decide +kernel) rfl, ⟨by decide +kernel, by decide +kernel, by decide +kernel⟩, by decide +kernel, by decide +kernel⟩, q_w 1189 (by decide +kernel) rfl, q_w 62 (by decide +kernel) rfl⟩
abbrev mX9_takeDigit : q_M := (yX9_takeDigit, cX9_takeDigit, 3, (some .int))
theorem iX9_takeDigit : q_MV mX9_takeDigit 1 := ⟨⟨q_w 1194 (by decide +kernel) rfl, q_w 78 (by decide +kernel) rfl, ⟨by decide +kernel, by decide +kernel, by decide +kernel⟩, by decide +kernel, by decide +kernel⟩, q_w 1193 (by decide +kernel) rfl, q_w 63 (by decide +kernel) rfl⟩
abbrev mX9_takes : q_M := (yX9_takes, cX9_takes, 3, (some .boolean))
theorem iX9_takes : q_MV mX9_takes 1 := ⟨⟨q_w 1198 (by decide +kernel) rfl, q_w 78 (by decide +kernel) rfl, ⟨by decide +kernel, by decide +kernel, by decide +kernel⟩, by decide +kernel, by decide +kernel⟩, q_w 1197 (by decide +kernel) rfl, q_w 64 (by decide +kernel) rfl⟩
abbrev mX9_takeNumber : q_M := (yX9_takeNumber, cX9_takeNumber, 2, (some .int))
theorem iX9_takeNumber : q_MV mX9_takeNumber 0 := ⟨⟨q_w 1206 (by decide +kernel) rfl, q_w 78 (by decide +kernel) rfl, ⟨by decide +kernel, by decide +kernel, by decide +kernel⟩, by decide +kernel, by decide +kernel⟩, q_w 1205 (by decide +kernel) rfl, q_w 66 (by decide +kernel) rfl⟩
abbrev mX9_takesDeal : q_M := (yX9_takesDeal, cX9_takesDeal, 2, (some .boolean))
theorem iX9_takesDeal : q_MV mX9_takesDeal 0 := ⟨⟨q_w 1202 (by decide +kernel) rfl, q_w 78 (by decide +kernel) rfl, ⟨by decide +kernel, by decide +kernel, by decide +kernel⟩, by decide +kernel, by decide +kernel⟩, q_w 1201 (by decide +kernel) rfl, q_w 65 (by decide +kernel) rfl⟩
abbrev mX9_readsOrder : q_M := (yX9_readsOrder, cX9_readsOrder, 1, (some .boolean))
theorem iX9_readsOrder : q_MV mX9_readsOrder 0 := ⟨⟨q_w 1186 (by decide +kernel) rfl, q_w 78 (by decide +kernel) rfl, ⟨by decide +kernel, by decide +kernel, by decide +kernel⟩, by decide +kernel, by decide +kernel⟩, q_w 1185 (by decide +kernel) rfl, q_w 61 (by decide +kernel) rfl⟩
abbrev mX9_findFault : q_M := (yX9_findFault, cX9_findFault, 1, (some .int))
theorem iX9_findFault : q_MV mX9_findFault 0 := ⟨⟨q_w 1182 (by decide +kernel) rfl, q_w 78 (by decide +kernel) rfl, ⟨by decide +kernel, by decide +kernel, by decide +kernel⟩, by decide +kernel, by decide +kernel⟩, q_w 1181 (by decide +kernel) rfl, q_w 60 (by decide +kernel) rfl⟩
abbrev mX9_fault : q_M := (yX9_fault, cX9_fault, 1, (some .int))
theorem iX9_fault : q_MV mX9_fault 0 := ⟨⟨q_w 1178 (by decide +kernel) rfl, q_w 78 (by decide +kernel) rfl, ⟨by decide +kernel, by decide +kernel, by decide +kernel⟩, by decide +kernel, by decide +kernel⟩, q_w 1176 (by decide +kernel) rfl, q_w 1177 (by decide +kernel) rfl⟩
abbrev mX9_does : q_M := (yX9_does, cX9_does, 2, (some .boolean))
theorem iX9_does : q_MV mX9_does 0 := ⟨⟨q_w 1214 (by decide +kernel) rfl, q_w 78 (by decide +kernel) rfl, ⟨by decide +kernel, by decide +kernel, by decide +kernel⟩, by decide +kernel, by decide +kernel⟩, q_w 1213 (by decide +kernel) rfl, q_w 67 (by decide +kernel) rfl⟩
abbrev mX9_carryOut : q_M := (yX9_carryOut, cX9_carryOut, 3, (some .int))
theorem iX9_carryOut : q_MV mX9_carryOut 0 := ⟨⟨q_w 1210 (by decide +kernel) rfl, q_w 78 (by decide +kernel) rfl, ⟨by decide +kernel, by decide +kernel, by decide +kernel⟩, by decide +kernel, by decide +kernel⟩, q_w 1208 (by decide +kernel) rfl, q_w 1209 (by decide +kernel) rfl⟩
abbrev mX9_undo : q_M := (yX9_undo, cX9_undo, 1, (some .int))
theorem iX9_undo : q_MV mX9_undo 0 := ⟨⟨q_w 1218 (by decide +kernel) rfl, q_w 78 (by decide +kernel) rfl, ⟨by decide +kernel, by decide +kernel, by decide +kernel⟩, by decide +kernel, by decide +kernel⟩, q_w 1216 (by decide +kernel) rfl, q_w 1217 (by decide +kernel) rfl⟩
abbrev mX9_save : q_M := (yX9_save, cX9_save, 2, (some .int))
theorem iX9_save : q_MV mX9_save 1 := ⟨⟨q_w 1222 (by decide +kernel) rfl, q_w 78 (by decide +kernel) rfl, ⟨by decide +kernel, by decide +kernel, by decide +kernel⟩, by decide +kernel, by decide +kernel⟩, q_w 1220 (by decide +kernel) rfl, q_w 1221 (by decide +kernel) rfl⟩
abbrev mX9_restore : q_M := (yX9_restore, cX9_restore, 2, (some .int))
theorem iX9_restore : q_MV mX9_restore 1 := ⟨⟨q_w 1226 (by decide +kernel) rfl, q_w 78 (by decide +kernel) rfl, ⟨by decide +kernel, by decide +kernel, by decide +kernel⟩, by decide +kernel, by decide +kernel⟩, q_w 1224 (by decide +kernel) rfl, q_w 1225 (by decide +kernel) rfl⟩
abbrev mJ11_isValidCodePoint_9a6ad : q_M := (yJ11_isValidCodePoint_9a6ad, cJ11_isValidCodePoint_9a6ad, 2, (some .boolean))
theorem iJ11_isValidCodePoint_9a6ad : q_MS mJ11_isValidCodePoint_9a6ad 1 := ⟨⟨q_w 788 (by decide +kernel) rfl, q_w 85 (by decide +kernel) rfl, ⟨by decide +kernel, by decide +kernel, by decide +kernel⟩, by decide +kernel, by decide +kernel⟩, q_w 787 (by decide +kernel) rfl⟩
abbrev mJ11_highSurrogate_5068e : q_M := (yJ11_highSurrogate_5068e, cJ11_highSurrogate_5068e, 1, (some .char))
theorem iJ11_highSurrogate_5068e : q_MS mJ11_highSurrogate_5068e 1 := ⟨⟨q_w 791 (by decide +kernel) rfl, q_w 85 (by decide +kernel) rfl, ⟨by decide +kernel, by decide +kernel, by decide +kernel⟩, by decide +kernel, by decide +kernel⟩, q_w 790 (by decide +kernel) rfl⟩
abbrev mJ11_lowSurrogate_5068e : q_M := (yJ11_lowSurrogate_5068e, cJ11_lowSurrogate_5068e, 1, (some .char))
theorem iJ11_lowSurrogate_5068e : q_MS mJ11_lowSurrogate_5068e 1 := ⟨⟨q_w 795 (by decide +kernel) rfl, q_w 85 (by decide +kernel) rfl, ⟨by decide +kernel, by decide +kernel, by decide +kernel⟩, by decide +kernel, by decide +kernel⟩, q_w 794 (by decide +kernel) rfl⟩
abbrev mJ9_max_7cf53 : q_M := (yJ9_max_7cf53, cJ9_max_7cf53, 2, (some .int))
abbrev mJ9_min_7cf53 : q_M := (yJ9_min_7cf53, cJ9_min_7cf53, 2, (some .int))
abbrev mJ0_length_8abf5 : q_M := (yJ0_length_8abf5, cJ0_length_8abf5, 1, (some .int))
theorem iJ0_length_8abf5 : q_MV mJ0_length_8abf5 0 := ⟨⟨q_w 732 (by decide +kernel) rfl, q_w 81 (by decide +kernel) rfl, ⟨by decide +kernel, by decide +kernel, by decide +kernel⟩, by decide +kernel, by decide +kernel⟩, q_w 730 (by decide +kernel) rfl, q_w 731 (by decide +kernel) rfl⟩
abbrev mJ0_indexOf_0f7a4 : q_M := (yJ0_indexOf_0f7a4, cJ0_indexOf_0f7a4, 2, (some .int))
theorem iJ0_indexOf_0f7a4 : q_MV mJ0_indexOf_0f7a4 1 := ⟨⟨q_w 718 (by decide +kernel) rfl, q_w 81 (by decide +kernel) rfl, ⟨by decide +kernel, by decide +kernel, by decide +kernel⟩, by decide +kernel, by decide +kernel⟩, q_w 716 (by decide +kernel) rfl, q_w 717 (by decide +kernel) rfl⟩
abbrev mJ0_indexOf_7cf53 : q_M := (yJ0_indexOf_7cf53, cJ0_indexOf_7cf53, 3, (some .int))
theorem iJ0_indexOf_7cf53 : q_MV mJ0_indexOf_7cf53 2 := ⟨⟨q_w 722 (by decide +kernel) rfl, q_w 81 (by decide +kernel) rfl, ⟨by decide +kernel, by decide +kernel, by decide +kernel⟩, by decide +kernel, by decide +kernel⟩, q_w 720 (by decide +kernel) rfl, q_w 721 (by decide +kernel) rfl⟩
abbrev mJ0_coder_7d493 : q_M := (yJ0_coder_7d493, cJ0_coder_7d493, 1, (some .byte))
theorem iJ0_coder_7d493 : q_MV mJ0_coder_7d493 0 := ⟨⟨q_w 736 (by decide +kernel) rfl, q_w 81 (by decide +kernel) rfl, ⟨by decide +kernel, by decide +kernel, by decide +kernel⟩, by decide +kernel, by decide +kernel⟩, q_w 734 (by decide +kernel) rfl, q_w 735 (by decide +kernel) rfl⟩
abbrev mJ0_isLatin1_aae02 : q_M := (yJ0_isLatin1_aae02, cJ0_isLatin1_aae02, 1, (some .boolean))
theorem iJ0_isLatin1_aae02 : q_MV mJ0_isLatin1_aae02 0 := ⟨⟨q_w 726 (by decide +kernel) rfl, q_w 81 (by decide +kernel) rfl, ⟨by decide +kernel, by decide +kernel, by decide +kernel⟩, by decide +kernel, by decide +kernel⟩, q_w 724 (by decide +kernel) rfl, q_w 725 (by decide +kernel) rfl⟩
abbrev mJ0_checkBoundsBeginEnd_23922 : q_M := (yJ0_checkBoundsBeginEnd_23922, cJ0_checkBoundsBeginEnd_23922, 3, none)
theorem iJ0_checkBoundsBeginEnd_23922 : q_MS mJ0_checkBoundsBeginEnd_23922 3 := ⟨⟨q_w 765 (by decide +kernel) rfl, q_w 81 (by decide +kernel) rfl, ⟨by decide +kernel, by decide +kernel, by decide +kernel⟩, by decide +kernel, by decide +kernel⟩, q_w 764 (by decide +kernel) rfl⟩
abbrev mJ1_canEncode_9a6ad : q_M := (yJ1_canEncode_9a6ad, cJ1_canEncode_9a6ad, 1, (some .boolean))
theorem iJ1_canEncode_9a6ad : q_MS mJ1_canEncode_9a6ad 1 := ⟨⟨q_w 742 (by decide +kernel) rfl, q_w 82 (by decide +kernel) rfl, ⟨by decide +kernel, by decide +kernel, by decide +kernel⟩, by decide +kernel, by decide +kernel⟩, q_w 741 (by decide +kernel) rfl⟩
abbrev mJ1_indexOf_4cfef : q_M := (yJ1_indexOf_4cfef, cJ1_indexOf_4cfef, 4, (some .int))
theorem iJ1_indexOf_4cfef : q_MS mJ1_indexOf_4cfef 4 := ⟨⟨q_w 739 (by decide +kernel) rfl, q_w 82 (by decide +kernel) rfl, ⟨by decide +kernel, by decide +kernel, by decide +kernel⟩, by decide +kernel, by decide +kernel⟩, q_w 738 (by decide +kernel) rfl⟩
abbrev mJ1_indexOfChar_4cfef : q_M := (yJ1_indexOfChar_4cfef, cJ1_indexOfChar_4cfef, 6, (some .int))
theorem iJ1_indexOfChar_4cfef : q_MS mJ1_indexOfChar_4cfef 4 := ⟨⟨q_w 747 (by decide +kernel) rfl, q_w 82 (by decide +kernel) rfl, ⟨by decide +kernel, by decide +kernel, by decide +kernel⟩, by decide +kernel, by decide +kernel⟩, q_w 746 (by decide +kernel) rfl⟩
abbrev mJ2_getChar_3b067 : q_M := (yJ2_getChar_3b067, cJ2_getChar_3b067, 2, (some .char))
theorem iJ2_getChar_3b067 : q_MS mJ2_getChar_3b067 2 := ⟨⟨q_w 776 (by decide +kernel) rfl, q_w 83 (by decide +kernel) rfl, ⟨by decide +kernel, by decide +kernel, by decide +kernel⟩, by decide +kernel, by decide +kernel⟩, q_w 775 (by decide +kernel) rfl⟩
abbrev mJ2_length_9d52b : q_M := (yJ2_length_9d52b, cJ2_length_9d52b, 1, (some .int))
theorem iJ2_length_9d52b : q_MS mJ2_length_9d52b 1 := ⟨⟨q_w 762 (by decide +kernel) rfl, q_w 83 (by decide +kernel) rfl, ⟨by decide +kernel, by decide +kernel, by decide +kernel⟩, by decide +kernel, by decide +kernel⟩, q_w 761 (by decide +kernel) rfl⟩
abbrev mJ2_indexOf_4cfef : q_M := (yJ2_indexOf_4cfef, cJ2_indexOf_4cfef, 4, (some .int))
theorem iJ2_indexOf_4cfef : q_MS mJ2_indexOf_4cfef 4 := ⟨⟨q_w 750 (by decide +kernel) rfl, q_w 83 (by decide +kernel) rfl, ⟨by decide +kernel, by decide +kernel, by decide +kernel⟩, by decide +kernel, by decide +kernel⟩, q_w 749 (by decide +kernel) rfl⟩
abbrev mJ2_indexOfChar_4cfef : q_M := (yJ2_indexOfChar_4cfef, cJ2_indexOfChar_4cfef, 4, (some .int))
theorem iJ2_indexOfChar_4cfef : q_MS mJ2_indexOfChar_4cfef 4 := ⟨⟨q_w 756 (by decide +kernel) rfl, q_w 83 (by decide +kernel) rfl, ⟨by decide +kernel, by decide +kernel, by decide +kernel⟩, by decide +kernel, by decide +kernel⟩, q_w 755 (by decide +kernel) rfl⟩
abbrev mJ2_indexOfCharUnsafe_4cfef : q_M := (yJ2_indexOfCharUnsafe_4cfef, cJ2_indexOfCharUnsafe_4cfef, 5, (some .int))
theorem iJ2_indexOfCharUnsafe_4cfef : q_MS mJ2_indexOfCharUnsafe_4cfef 4 := ⟨⟨q_w 773 (by decide +kernel) rfl, q_w 83 (by decide +kernel) rfl, ⟨by decide +kernel, by decide +kernel, by decide +kernel⟩, by decide +kernel, by decide +kernel⟩, q_w 772 (by decide +kernel) rfl⟩
abbrev mJ2_indexOfSupplementary_4cfef : q_M := (yJ2_indexOfSupplementary_4cfef, cJ2_indexOfSupplementary_4cfef, 7, (some .int))
theorem iJ2_indexOfSupplementary_4cfef : q_MS mJ2_indexOfSupplementary_4cfef 4 := ⟨⟨q_w 785 (by decide +kernel) rfl, q_w 83 (by decide +kernel) rfl, ⟨by decide +kernel, by decide +kernel, by decide +kernel⟩, by decide +kernel, by decide +kernel⟩, q_w 784 (by decide +kernel) rfl⟩
abbrev mJ2_checkBoundsBeginEnd_d044e : q_M := (yJ2_checkBoundsBeginEnd_d044e, cJ2_checkBoundsBeginEnd_d044e, 3, none)
theorem iJ2_checkBoundsBeginEnd_d044e : q_MS mJ2_checkBoundsBeginEnd_d044e 3 := ⟨⟨q_w 759 (by decide +kernel) rfl, q_w 83 (by decide +kernel) rfl, ⟨by decide +kernel, by decide +kernel, by decide +kernel⟩, by decide +kernel, by decide +kernel⟩, q_w 758 (by decide +kernel) rfl⟩
abbrev mJ3_checkFromToIndex_8c36e : q_M := (yJ3_checkFromToIndex_8c36e, cJ3_checkFromToIndex_8c36e, 4, (some .int))
theorem iJ3_checkFromToIndex_8c36e : q_MS mJ3_checkFromToIndex_8c36e 4 := ⟨⟨q_w 770 (by decide +kernel) rfl, q_w 84 (by decide +kernel) rfl, ⟨by decide +kernel, by decide +kernel, by decide +kernel⟩, by decide +kernel, by decide +kernel⟩, q_w 769 (by decide +kernel) rfl⟩
abbrev mL_law : q_M := (yL_law, cL_law, 4, some .boolean)
theorem lX8_9 : q_Lk RX8 9 mX0_init := Or.inr ⟨_, q_wn 96 (by decide +kernel : _ = some (Cond.methodLinkNest RX8 9 mX0_init.1 "ShadowRows"))⟩
theorem lX8_18 : q_Lk RX8 18 mX2_init := Or.inl (q_w 181 (by decide +kernel) rfl)
theorem lX8_27 : q_Lk RX8 27 mX3_init := Or.inl (q_w 208 (by decide +kernel) rfl)
theorem lX8_34 : q_Lk RX8 34 mX7_init := Or.inl (q_w 218 (by decide +kernel) rfl)
theorem lX8_43 : q_Lk RX8 43 mX6_init := Or.inr ⟨_, q_wn 246 (by decide +kernel : _ = some (Cond.methodLinkNest RX8 43 mX6_init.1 "ShadowRows"))⟩
theorem lX8_50 : q_Lk RX8 50 mX5_init := Or.inl (q_w 263 (by decide +kernel) rfl)
theorem lX8_59 : q_Lk RX8 59 mX1_init := Or.inl (q_w 287 (by decide +kernel) rfl)
theorem lX8_72 : q_Lk RX8 72 mX1_mark := Or.inl (q_w 335 (by decide +kernel) rfl)
theorem lX8_75 : q_Lk RX8 75 mX0_build := Or.inl (q_w 351 (by decide +kernel) rfl)
theorem lX8_79 : q_Lk RX8 79 mX1_keep := Or.inl (q_w 362 (by decide +kernel) rfl)
theorem lX8_83 : q_Lk RX8 83 mX0_changeTilt := Or.inl (q_w 374 (by decide +kernel) rfl)
theorem lX8_87 : q_Lk RX8 87 mX0_changeWind := Or.inl (q_w 386 (by decide +kernel) rfl)
theorem lX8_90 : q_Lk RX8 90 mX0_changeStow := Or.inl (q_w 398 (by decide +kernel) rfl)
theorem lX8_93 : q_Lk RX8 93 mX0_changeRight := Or.inl (q_w 406 (by decide +kernel) rfl)
theorem lX8_97 : q_Lk RX8 97 mX3_addAsk := Or.inl (q_w 421 (by decide +kernel) rfl)
theorem lX8_100 : q_Lk RX8 100 mX3_addBid := Or.inl (q_w 439 (by decide +kernel) rfl)
theorem lX8_104 : q_Lk RX8 104 mX8_outside := Or.inl (q_w 393 (by decide +kernel) rfl)
theorem lX8_108 : q_Lk RX8 108 mX0_offersOf := Or.inl (q_w 447 (by decide +kernel) rfl)
theorem lX8_112 : q_Lk RX8 112 mX4_remove := Or.inl (q_w 451 (by decide +kernel) rfl)
theorem lX8_117 : q_Lk RX8 117 mX3_tradeAll := Or.inl (q_w 468 (by decide +kernel) rfl)
theorem lX8_121 : q_Lk RX8 121 mX0_hasRow := Or.inl (q_w 509 (by decide +kernel) rfl)
theorem lX8_139 : q_Lk RX8 139 mX2_yieldOfDay := Or.inl (q_w 511 (by decide +kernel) rfl)
theorem lX8_142 : q_Lk RX8 142 mX2_unshadedYieldOfDay := Or.inl (q_w 572 (by decide +kernel) rfl)
theorem lX8_145 : q_Lk RX8 145 mX2_hoursLowered := Or.inl (q_w 576 (by decide +kernel) rfl)
theorem lX8_148 : q_Lk RX8 148 mX2_hoursShaded := Or.inl (q_w 580 (by decide +kernel) rfl)
theorem lX8_151 : q_Lk RX8 151 mX2_mostToBlame := Or.inl (q_w 584 (by decide +kernel) rfl)
theorem lX8_154 : q_Lk RX8 154 mX8_isHour := Or.inl (q_w 592 (by decide +kernel) rfl)
theorem lX8_157 : q_Lk RX8 157 mX2_look := Or.inl (q_w 593 (by decide +kernel) rfl)
theorem lX8_161 : q_Lk RX8 161 mX2_tiltOf := Or.inl (q_w 594 (by decide +kernel) rfl)
theorem lX8_167 : q_Lk RX8 167 mX2_shade := Or.inl (q_w 595 (by decide +kernel) rfl)
theorem lX8_170 : q_Lk RX8 170 mX2_toBlame := Or.inl (q_w 596 (by decide +kernel) rfl)
theorem lX8_173 : q_Lk RX8 173 mX2_yieldNow := Or.inl (q_w 597 (by decide +kernel) rfl)
theorem lX8_179 : q_Lk RX8 179 mX0_rightAt := Or.inl (q_w 602 (by decide +kernel) rfl)
theorem lX8_182 : q_Lk RX8 182 mX2_shadow := Or.inl (q_w 603 (by decide +kernel) rfl)
theorem lX8_185 : q_Lk RX8 185 mX4_has := Or.inl (q_w 608 (by decide +kernel) rfl)
theorem lX8_188 : q_Lk RX8 188 mX4_get := Or.inl (q_w 609 (by decide +kernel) rfl)
theorem lX8_205 : q_Lk RX8 205 mX2_yieldOfAll := Or.inl (q_w 614 (by decide +kernel) rfl)
theorem lX8_220 : q_Lk RX8 220 mX0_rightError := Or.inl (q_w 622 (by decide +kernel) rfl)
theorem lX8_223 : q_Lk RX8 223 mX8_gainMeasure := Or.inl (q_w 623 (by decide +kernel) rfl)
theorem lX8_227 : q_Lk RX8 227 mX7_run := Or.inl (q_w 636 (by decide +kernel) rfl)
theorem lX8_230 : q_Lk RX8 230 mX7_bestYields := Or.inl (q_w 668 (by decide +kernel) rfl)
theorem lX8_233 : q_Lk RX8 233 mX7_bestTiltOf := Or.inl (q_w 672 (by decide +kernel) rfl)
theorem lX8_236 : q_Lk RX8 236 mX6_append := Or.inl (q_w 680 (by decide +kernel) rfl)
theorem lX8_240 : q_Lk RX8 240 mX6_clear := Or.inl (q_w 694 (by decide +kernel) rfl)
theorem lX8_243 : q_Lk RX8 243 mX5_findFault := Or.inl (q_w 702 (by decide +kernel) rfl)
theorem lX8_246 : q_Lk RX8 246 mX8_carryOrdersOut := Or.inl (q_w 826 (by decide +kernel) rfl)
theorem lX8_249 : q_Lk RX8 249 mX5_start := Or.inl (q_w 830 (by decide +kernel) rfl)
theorem lX8_252 : q_Lk RX8 252 mX5_readOrder := Or.inl (q_w 831 (by decide +kernel) rfl)
theorem lX8_256 : q_Lk RX8 256 mX8_carryOneOut := Or.inl (q_w 832 (by decide +kernel) rfl)
theorem lX8_259 : q_Lk RX8 259 mX5_readSign := Or.inl (q_w 836 (by decide +kernel) rfl)
theorem lX8_270 : q_Lk RX8 270 mX1_goBack := Or.inl (q_w 841 (by decide +kernel) rfl)
theorem lX8_274 : q_Lk RX8 274 mX0_copyFrom := Or.inl (q_w 849 (by decide +kernel) rfl)
theorem lX0_39 : q_Lk RX0 39 mX4_init := Or.inr ⟨_, q_wn 102 (by decide +kernel : _ = some (Cond.methodLinkNest RX0 39 mX4_init.1 "ShadowRows"))⟩
theorem lX0_56 : q_Lk RX0 56 mX4_copyFrom := Or.inl (q_w 346 (by decide +kernel) rfl)
theorem lX0_60 : q_Lk RX0 60 mX8_outside := Or.inr ⟨_, q_wn 355 (by decide +kernel : _ = some (Cond.methodLinkNest RX0 60 mX8_outside.1 "ShadowRows"))⟩
theorem lX0_64 : q_Lk RX0 64 mX0_isTaken := Or.inl (q_w 358 (by decide +kernel) rfl)
theorem lX0_68 : q_Lk RX0 68 mX0_hasRow := Or.inl (q_w 378 (by decide +kernel) rfl)
theorem lX0_71 : q_Lk RX0 71 mX8_isHour := Or.inr ⟨_, q_wn 390 (by decide +kernel : _ = some (Cond.methodLinkNest RX0 71 mX8_isHour.1 "ShadowRows"))⟩
theorem lX0_74 : q_Lk RX0 74 mX0_rightError := Or.inl (q_w 410 (by decide +kernel) rfl)
theorem lX0_78 : q_Lk RX0 78 mX0_rightAt := Or.inl (q_w 414 (by decide +kernel) rfl)
theorem lX1_21 : q_Lk RX1 21 mX0_init := Or.inr ⟨_, q_wn 293 (by decide +kernel : _ = some (Cond.methodLinkNest RX1 21 mX0_init.1 "ShadowRows"))⟩
theorem lX1_22 : q_Lk RX1 22 mX0_copyFrom := Or.inl (q_w 339 (by decide +kernel) rfl)
theorem lX1_26 : q_Lk RX1 26 mX1_dropOldest := Or.inl (q_w 366 (by decide +kernel) rfl)
theorem lX2_37 : q_Lk RX2 37 mX2_lossBetween := Or.inl (q_w 519 (by decide +kernel) rfl)
theorem lX2_41 : q_Lk RX2 41 mX2_limitOf := Or.inl (q_w 529 (by decide +kernel) rfl)
theorem lX2_48 : q_Lk RX2 48 mX2_tiltOf := Or.inl (q_w 539 (by decide +kernel) rfl)
theorem lX2_63 : q_Lk RX2 63 mX2_ahead := Or.inl (q_w 523 (by decide +kernel) rfl)
theorem lX2_69 : q_Lk RX2 69 mX2_isFlat := Or.inl (q_w 533 (by decide +kernel) rfl)
theorem lX2_76 : q_Lk RX2 76 mX0_rightAt := Or.inl (q_w 537 (by decide +kernel) rfl)
theorem lX2_80 : q_Lk RX2 80 mJ9_min_7cf53 := Or.inl (q_w 538 (by decide +kernel) rfl)
theorem lX2_88 : q_Lk RX2 88 mJ9_max_7cf53 := Or.inl (q_w 569 (by decide +kernel) rfl)
theorem lX2_91 : q_Lk RX2 91 mX2_shadow := Or.inl (q_w 565 (by decide +kernel) rfl)
theorem lX2_94 : q_Lk RX2 94 mX2_toBlame := Or.inl (q_w 561 (by decide +kernel) rfl)
theorem lX2_97 : q_Lk RX2 97 mX2_sun := Or.inl (q_w 551 (by decide +kernel) rfl)
theorem lX2_101 : q_Lk RX2 101 mX2_unshadedYield := Or.inl (q_w 547 (by decide +kernel) rfl)
theorem lX2_104 : q_Lk RX2 104 mX2_shade := Or.inl (q_w 557 (by decide +kernel) rfl)
theorem lX2_107 : q_Lk RX2 107 mX2_look := Or.inl (q_w 515 (by decide +kernel) rfl)
theorem lX2_111 : q_Lk RX2 111 mX2_yieldNow := Or.inl (q_w 543 (by decide +kernel) rfl)
theorem lX3_15 : q_Lk RX3 15 mX0_hasRow := Or.inl (q_w 425 (by decide +kernel) rfl)
theorem lX3_21 : q_Lk RX3 21 mX8_isHour := Or.inr ⟨_, q_wn 426 (by decide +kernel : _ = some (Cond.methodLinkNest RX3 21 mX8_isHour.1 "ShadowRows"))⟩
theorem lX3_24 : q_Lk RX3 24 mX3_isBadOffer := Or.inl (q_w 427 (by decide +kernel) rfl)
theorem lX3_32 : q_Lk RX3 32 mX4_add := Or.inl (q_w 431 (by decide +kernel) rfl)
theorem lX3_41 : q_Lk RX3 41 mX8_outside := Or.inr ⟨_, q_wn 430 (by decide +kernel : _ = some (Cond.methodLinkNest RX3 41 mX8_outside.1 "ShadowRows"))⟩
theorem lX3_45 : q_Lk RX3 45 mX4_sortByPrice := Or.inl (q_w 472 (by decide +kernel) rfl)
theorem lX3_57 : q_Lk RX3 57 mX3_serve := Or.inl (q_w 480 (by decide +kernel) rfl)
theorem lX3_61 : q_Lk RX3 61 mX4_removeEmpty := Or.inl (q_w 501 (by decide +kernel) rfl)
theorem lX3_67 : q_Lk RX3 67 mX3_suits := Or.inl (q_w 484 (by decide +kernel) rfl)
theorem lX3_70 : q_Lk RX3 70 mX3_trade := Or.inl (q_w 489 (by decide +kernel) rfl)
theorem lX3_74 : q_Lk RX3 74 mX4_get := Or.inl (q_w 488 (by decide +kernel) rfl)
theorem lX3_77 : q_Lk RX3 77 mX0_rightAt := Or.inl (q_w 493 (by decide +kernel) rfl)
theorem lX3_81 : q_Lk RX3 81 mJ9_min_7cf53 := Or.inl (q_w 494 (by decide +kernel) rfl)
theorem lX3_92 : q_Lk RX3 92 mX4_take := Or.inl (q_w 497 (by decide +kernel) rfl)
theorem lX4_28 : q_Lk RX4 28 mX8_outside := Or.inr ⟨_, q_wn 459 (by decide +kernel : _ = some (Cond.methodLinkNest RX4 28 mX8_outside.1 "ShadowRows"))⟩
theorem lX4_32 : q_Lk RX4 32 mX4_has := Or.inl (q_w 455 (by decide +kernel) rfl)
theorem lX4_36 : q_Lk RX4 36 mX4_close := Or.inl (q_w 460 (by decide +kernel) rfl)
theorem lX4_40 : q_Lk RX4 40 mX4_get := Or.inl (q_w 476 (by decide +kernel) rfl)
theorem lX5_30 : q_Lk RX5 30 mX5_start := Or.inl (q_w 706 (by decide +kernel) rfl)
theorem lX5_33 : q_Lk RX5 33 mX5_readOrder := Or.inl (q_w 710 (by decide +kernel) rfl)
theorem lX5_42 : q_Lk RX5 42 mX5_readSign := Or.inl (q_w 809 (by decide +kernel) rfl)
theorem lX5_52 : q_Lk RX5 52 mJ0_indexOf_0f7a4 := Or.inl (q_w 715 (by decide +kernel) rfl)
theorem lX5_58 : q_Lk RX5 58 mX5_readDigit := Or.inl (q_w 797 (by decide +kernel) rfl)
theorem lX5_62 : q_Lk RX5 62 mX5_readTerms := Or.inl (q_w 813 (by decide +kernel) rfl)
theorem lX5_65 : q_Lk RX5 65 mX5_readNumber := Or.inl (q_w 817 (by decide +kernel) rfl)
theorem lX5_68 : q_Lk RX5 68 mX5_digitHere := Or.inl (q_w 801 (by decide +kernel) rfl)
theorem lX5_72 : q_Lk RX5 72 mX5_keepNumber := Or.inl (q_w 805 (by decide +kernel) rfl)
theorem lX6_19 : q_Lk RX6 19 mX6_countSigns := Or.inl (q_w 684 (by decide +kernel) rfl)
theorem lX7_44 : q_Lk RX7 44 mX7_findTops := Or.inl (q_w 642 (by decide +kernel) rfl)
theorem lX7_47 : q_Lk RX7 47 mX2_look := Or.inl (q_w 646 (by decide +kernel) rfl)
theorem lX7_53 : q_Lk RX7 53 mX2_isFlat := Or.inl (q_w 648 (by decide +kernel) rfl)
theorem lX7_57 : q_Lk RX7 57 mX7_sortRows := Or.inl (q_w 649 (by decide +kernel) rfl)
theorem lX7_60 : q_Lk RX7 60 mX7_layRows := Or.inl (q_w 654 (by decide +kernel) rfl)
theorem lX7_64 : q_Lk RX7 64 mX7_stepOf := Or.inl (q_w 662 (by decide +kernel) rfl)
theorem lX7_74 : q_Lk RX7 74 mJ9_max_7cf53 := Or.inl (q_w 647 (by decide +kernel) rfl)
theorem lX7_80 : q_Lk RX7 80 mX2_ahead := Or.inl (q_w 653 (by decide +kernel) rfl)
theorem lX7_83 : q_Lk RX7 83 mX7_shadeOn := Or.inl (q_w 657 (by decide +kernel) rfl)
theorem lX7_86 : q_Lk RX7 86 mX2_sun := Or.inl (q_w 666 (by decide +kernel) rfl)
theorem lX7_90 : q_Lk RX7 90 mJ9_min_7cf53 := Or.inl (q_w 667 (by decide +kernel) rfl)
theorem lX7_93 : q_Lk RX7 93 mX2_shadow := Or.inl (q_w 661 (by decide +kernel) rfl)
theorem lL_9 : q_Lk RL 9 mX8_init := Or.inl (q_w 88 (by decide +kernel) rfl)
theorem lL_12 : q_Lk RL 12 mX9_init := Or.inl (q_w 856 (by decide +kernel) rfl)
theorem lL_13 : q_Lk RL 13 mX8_row := Or.inl (q_w 331 (by decide +kernel) rfl)
theorem lL_17 : q_Lk RL 17 mX9_row := Or.inl (q_w 912 (by decide +kernel) rfl)
theorem lL_18 : q_Lk RL 18 mX8_tilt := Or.inl (q_w 370 (by decide +kernel) rfl)
theorem lL_22 : q_Lk RL 22 mX9_tilt := Or.inl (q_w 934 (by decide +kernel) rfl)
theorem lL_23 : q_Lk RL 23 mX8_wind := Or.inl (q_w 382 (by decide +kernel) rfl)
theorem lL_26 : q_Lk RL 26 mX9_wind := Or.inl (q_w 950 (by decide +kernel) rfl)
theorem lL_27 : q_Lk RL 27 mX8_stow := Or.inl (q_w 394 (by decide +kernel) rfl)
theorem lL_31 : q_Lk RL 31 mX9_stow := Or.inl (q_w 957 (by decide +kernel) rfl)
theorem lL_32 : q_Lk RL 32 mX8_grant := Or.inl (q_w 402 (by decide +kernel) rfl)
theorem lL_36 : q_Lk RL 36 mX9_grant := Or.inl (q_w 961 (by decide +kernel) rfl)
theorem lL_37 : q_Lk RL 37 mX8_ask := Or.inl (q_w 417 (by decide +kernel) rfl)
theorem lL_40 : q_Lk RL 40 mX9_ask := Or.inl (q_w 977 (by decide +kernel) rfl)
theorem lL_41 : q_Lk RL 41 mX8_bid := Or.inl (q_w 435 (by decide +kernel) rfl)
theorem lL_45 : q_Lk RL 45 mX9_bid := Or.inl (q_w 992 (by decide +kernel) rfl)
theorem lL_46 : q_Lk RL 46 mX8_takeBack := Or.inl (q_w 443 (by decide +kernel) rfl)
theorem lL_49 : q_Lk RL 49 mX9_takeBack := Or.inl (q_w 1004 (by decide +kernel) rfl)
theorem lL_50 : q_Lk RL 50 mX8_match := Or.inl (q_w 464 (by decide +kernel) rfl)
theorem lL_54 : q_Lk RL 54 mX9_match := Or.inl (q_w 1016 (by decide +kernel) rfl)
theorem lL_55 : q_Lk RL 55 mX8_ofRow := Or.inl (q_w 505 (by decide +kernel) rfl)
theorem lL_58 : q_Lk RL 58 mX9_ofRow := Or.inl (q_w 1044 (by decide +kernel) rfl)
theorem lL_59 : q_Lk RL 59 mX8_inHour := Or.inl (q_w 588 (by decide +kernel) rfl)
theorem lL_62 : q_Lk RL 62 mX9_inHour := Or.inl (q_w 1119 (by decide +kernel) rfl)
theorem lL_63 : q_Lk RL 63 mX8_over := Or.inl (q_w 598 (by decide +kernel) rfl)
theorem lL_66 : q_Lk RL 66 mX9_over := Or.inl (q_w 1123 (by decide +kernel) rfl)
theorem lL_67 : q_Lk RL 67 mX8_offer := Or.inl (q_w 604 (by decide +kernel) rfl)
theorem lL_70 : q_Lk RL 70 mX9_offer := Or.inl (q_w 1127 (by decide +kernel) rfl)
theorem lL_71 : q_Lk RL 71 mX8_count := Or.inl (q_w 610 (by decide +kernel) rfl)
theorem lL_74 : q_Lk RL 74 mX9_count := Or.inl (q_w 1131 (by decide +kernel) rfl)
theorem lL_75 : q_Lk RL 75 mX8_worth := Or.inl (q_w 618 (by decide +kernel) rfl)
theorem lL_78 : q_Lk RL 78 mX9_worth := Or.inl (q_w 1139 (by decide +kernel) rfl)
theorem lL_79 : q_Lk RL 79 mX8_bestTilt := Or.inl (q_w 628 (by decide +kernel) rfl)
theorem lL_82 : q_Lk RL 82 mX9_bestTilt := Or.inl (q_w 1144 (by decide +kernel) rfl)
theorem lL_83 : q_Lk RL 83 mX8_bestTilts := Or.inl (q_w 632 (by decide +kernel) rfl)
theorem lL_86 : q_Lk RL 86 mX9_bestTilts := Or.inl (q_w 1148 (by decide +kernel) rfl)
theorem lL_89 : q_Lk RL 89 mX8_put := Or.inl (q_w 676 (by decide +kernel) rfl)
theorem lL_93 : q_Lk RL 93 mX9_put := Or.inl (q_w 1166 (by decide +kernel) rfl)
theorem lL_94 : q_Lk RL 94 mX8_wipe := Or.inl (q_w 690 (by decide +kernel) rfl)
theorem lL_97 : q_Lk RL 97 mX9_wipe := Or.inl (q_w 1171 (by decide +kernel) rfl)
theorem lL_98 : q_Lk RL 98 mX8_fault := Or.inl (q_w 698 (by decide +kernel) rfl)
theorem lL_101 : q_Lk RL 101 mX9_fault := Or.inl (q_w 1175 (by decide +kernel) rfl)
theorem lL_102 : q_Lk RL 102 mX8_carryOut := Or.inl (q_w 822 (by decide +kernel) rfl)
theorem lL_105 : q_Lk RL 105 mX9_carryOut := Or.inl (q_w 1207 (by decide +kernel) rfl)
theorem lL_106 : q_Lk RL 106 mX8_undo := Or.inl (q_w 837 (by decide +kernel) rfl)
theorem lL_109 : q_Lk RL 109 mX9_undo := Or.inl (q_w 1215 (by decide +kernel) rfl)
theorem lL_110 : q_Lk RL 110 mX8_save := Or.inl (q_w 845 (by decide +kernel) rfl)
theorem lL_113 : q_Lk RL 113 mX9_save := Or.inl (q_w 1219 (by decide +kernel) rfl)
theorem lL_114 : q_Lk RL 114 mX8_restore := Or.inl (q_w 850 (by decide +kernel) rfl)
theorem lL_117 : q_Lk RL 117 mX9_restore := Or.inl (q_w 1223 (by decide +kernel) rfl)
theorem lX9_38 : q_Lk RX9 38 mX9_copy := Or.inl (q_w 931 (by decide +kernel) rfl)
theorem lX9_42 : q_Lk RX9 42 mX9_within := Or.inl (q_w 916 (by decide +kernel) rfl)
theorem lX9_46 : q_Lk RX9 46 mX9_part := Or.inl (q_w 923 (by decide +kernel) rfl)
theorem lX9_50 : q_Lk RX9 50 mX9_slopeOf := Or.inl (q_w 1077 (by decide +kernel) rfl)
theorem lX9_54 : q_Lk RX9 54 mX9_shadow := Or.inl (q_w 1073 (by decide +kernel) rfl)
theorem lX9_58 : q_Lk RX9 58 mX9_rightOf := Or.inl (q_w 969 (by decide +kernel) rfl)
theorem lX9_62 : q_Lk RX9 62 mX9_isFlat := Or.inl (q_w 1065 (by decide +kernel) rfl)
theorem lX9_66 : q_Lk RX9 66 mX9_keepsRights := Or.inl (q_w 1069 (by decide +kernel) rfl)
theorem lX9_69 : q_Lk RX9 69 mX9_tiltIn := Or.inl (q_w 1061 (by decide +kernel) rfl)
theorem lX9_72 : q_Lk RX9 72 mX9_shadowIn := Or.inl (q_w 1088 (by decide +kernel) rfl)
theorem lX9_75 : q_Lk RX9 75 mX9_far := Or.inl (q_w 1092 (by decide +kernel) rfl)
theorem lX9_78 : q_Lk RX9 78 mX9_blamed := Or.inl (q_w 1084 (by decide +kernel) rfl)
theorem lX9_81 : q_Lk RX9 81 mX9_heightIn := Or.inl (q_w 1057 (by decide +kernel) rfl)
theorem lX9_84 : q_Lk RX9 84 mX9_shadeOf := Or.inl (q_w 1080 (by decide +kernel) rfl)
theorem lX9_87 : q_Lk RX9 87 mX9_sunOf := Or.inl (q_w 1096 (by decide +kernel) rfl)
theorem lX9_90 : q_Lk RX9 90 mX9_yieldIn := Or.inl (q_w 1053 (by decide +kernel) rfl)
theorem lX9_93 : q_Lk RX9 93 mX9_yieldOf := Or.inl (q_w 1049 (by decide +kernel) rfl)
theorem lX9_96 : q_Lk RX9 96 mX9_isPlaceTaken := Or.inl (q_w 919 (by decide +kernel) rfl)
theorem lX9_99 : q_Lk RX9 99 mX9_record := Or.inl (q_w 927 (by decide +kernel) rfl)
theorem lX9_102 : q_Lk RX9 102 mX9_isRow := Or.inl (q_w 942 (by decide +kernel) rfl)
theorem lX9_105 : q_Lk RX9 105 mX9_whyNotTilted := Or.inl (q_w 938 (by decide +kernel) rfl)
theorem lX9_108 : q_Lk RX9 108 mX9_tilted := Or.inl (q_w 946 (by decide +kernel) rfl)
theorem lX9_111 : q_Lk RX9 111 mX9_isHour := Or.inl (q_w 954 (by decide +kernel) rfl)
theorem lX9_114 : q_Lk RX9 114 mX9_whyNotGranted := Or.inl (q_w 965 (by decide +kernel) rfl)
theorem lX9_117 : q_Lk RX9 117 mX9_setRight := Or.inl (q_w 973 (by decide +kernel) rfl)
theorem lX9_121 : q_Lk RX9 121 mX9_areUnits := Or.inl (q_w 985 (by decide +kernel) rfl)
theorem lX9_125 : q_Lk RX9 125 mX9_whyNotAsked := Or.inl (q_w 981 (by decide +kernel) rfl)
theorem lX9_128 : q_Lk RX9 128 mX9_asked := Or.inl (q_w 988 (by decide +kernel) rfl)
theorem lX9_131 : q_Lk RX9 131 mX9_whyNotBid := Or.inl (q_w 996 (by decide +kernel) rfl)
theorem lX9_135 : q_Lk RX9 135 mX9_bought := Or.inl (q_w 1000 (by decide +kernel) rfl)
theorem lX9_138 : q_Lk RX9 138 mX9_dropAsk := Or.inl (q_w 1008 (by decide +kernel) rfl)
theorem lX9_142 : q_Lk RX9 142 mX9_dropBid := Or.inl (q_w 1012 (by decide +kernel) rfl)
theorem lX9_145 : q_Lk RX9 145 mX9_bidPart := Or.inl (q_w 1028 (by decide +kernel) rfl)
theorem lX9_148 : q_Lk RX9 148 mX9_askPart := Or.inl (q_w 1040 (by decide +kernel) rfl)
theorem lX9_151 : q_Lk RX9 151 mX9_nextAsk := Or.inl (q_w 1036 (by decide +kernel) rfl)
theorem lX9_154 : q_Lk RX9 154 mX9_placeOfBid := Or.inl (q_w 1024 (by decide +kernel) rfl)
theorem lX9_157 : q_Lk RX9 157 mX9_tradedBy := Or.inl (q_w 1032 (by decide +kernel) rfl)
theorem lX9_160 : q_Lk RX9 160 mX9_matched := Or.inl (q_w 1020 (by decide +kernel) rfl)
theorem lX9_164 : q_Lk RX9 164 mX9_blamedHours := Or.inl (q_w 1115 (by decide +kernel) rfl)
theorem lX9_168 : q_Lk RX9 168 mX9_fullYield := Or.inl (q_w 1099 (by decide +kernel) rfl)
theorem lX9_171 : q_Lk RX9 171 mX9_lowHours := Or.inl (q_w 1103 (by decide +kernel) rfl)
theorem lX9_174 : q_Lk RX9 174 mX9_shadeHours := Or.inl (q_w 1107 (by decide +kernel) rfl)
theorem lX9_177 : q_Lk RX9 177 mX9_mostBlamed := Or.inl (q_w 1111 (by decide +kernel) rfl)
theorem lX9_180 : q_Lk RX9 180 mX9_allYields := Or.inl (q_w 1135 (by decide +kernel) rfl)
theorem lX9_187 : q_Lk RX9 187 mX9_lyingAt := Or.inl (q_w 1156 (by decide +kernel) rfl)
theorem lX9_190 : q_Lk RX9 190 mX9_heightAt := Or.inl (q_w 1159 (by decide +kernel) rfl)
theorem lX9_193 : q_Lk RX9 193 mX9_findHeights := Or.inl (q_w 1152 (by decide +kernel) rfl)
theorem lX9_196 : q_Lk RX9 196 mX9_yieldsBy := Or.inl (q_w 1162 (by decide +kernel) rfl)
theorem lX9_204 : q_Lk RX9 204 mX9_character := Or.inl (q_w 1187 (by decide +kernel) rfl)
theorem lX9_207 : q_Lk RX9 207 mX9_takeDigit := Or.inl (q_w 1191 (by decide +kernel) rfl)
theorem lX9_210 : q_Lk RX9 210 mX9_takes := Or.inl (q_w 1195 (by decide +kernel) rfl)
theorem lX9_216 : q_Lk RX9 216 mX9_takeNumber := Or.inl (q_w 1203 (by decide +kernel) rfl)
theorem lX9_234 : q_Lk RX9 234 mX9_takesDeal := Or.inl (q_w 1199 (by decide +kernel) rfl)
theorem lX9_238 : q_Lk RX9 238 mX9_readsOrder := Or.inl (q_w 1183 (by decide +kernel) rfl)
theorem lX9_241 : q_Lk RX9 241 mX9_findFault := Or.inl (q_w 1179 (by decide +kernel) rfl)
theorem lX9_244 : q_Lk RX9 244 mX9_does := Or.inl (q_w 1211 (by decide +kernel) rfl)
theorem lJ0_335 : q_Lk RJ0 335 mJ0_coder_7d493 := Or.inl (q_w 733 (by decide +kernel) rfl)
theorem lJ0_492 : q_Lk RJ0 492 mJ0_isLatin1_aae02 := Or.inl (q_w 723 (by decide +kernel) rfl)
theorem lJ0_505 : q_Lk RJ0 505 mJ0_length_8abf5 := Or.inl (q_w 729 (by decide +kernel) rfl)
theorem lJ0_633 : q_Lk RJ0 633 mJ0_indexOf_7cf53 := Or.inl (q_w 719 (by decide +kernel) rfl)
theorem lJ0_637 : q_Lk RJ0 637 mJ1_indexOf_4cfef := Or.inl (q_w 737 (by decide +kernel) rfl)
theorem lJ0_640 : q_Lk RJ0 640 mJ2_indexOf_4cfef := Or.inl (q_w 748 (by decide +kernel) rfl)
theorem lJ0_1062 : q_Lk RJ0 1062 mJ3_checkFromToIndex_8c36e := Or.inl (q_w 768 (by decide +kernel) rfl)
theorem lJ1_38 : q_Lk RJ1 38 mJ9_min_7cf53 := Or.inl (q_w 744 (by decide +kernel) rfl)
theorem lJ1_88 : q_Lk RJ1 88 mJ1_canEncode_9a6ad := Or.inl (q_w 740 (by decide +kernel) rfl)
theorem lJ1_92 : q_Lk RJ1 92 mJ9_max_7cf53 := Or.inl (q_w 743 (by decide +kernel) rfl)
theorem lJ1_95 : q_Lk RJ1 95 mJ1_indexOfChar_4cfef := Or.inl (q_w 745 (by decide +kernel) rfl)
theorem lJ2_48 : q_Lk RJ2 48 mJ2_length_9d52b := Or.inl (q_w 760 (by decide +kernel) rfl)
theorem lJ2_71 : q_Lk RJ2 71 mJ2_getChar_3b067 := Or.inl (q_w 774 (by decide +kernel) rfl)
theorem lJ2_96 : q_Lk RJ2 96 mJ2_checkBoundsBeginEnd_d044e := Or.inl (q_w 757 (by decide +kernel) rfl)
theorem lJ2_157 : q_Lk RJ2 157 mJ11_highSurrogate_5068e := Or.inl (q_w 789 (by decide +kernel) rfl)
theorem lJ2_161 : q_Lk RJ2 161 mJ11_lowSurrogate_5068e := Or.inl (q_w 793 (by decide +kernel) rfl)
theorem lJ2_164 : q_Lk RJ2 164 mJ11_isValidCodePoint_9a6ad := Or.inl (q_w 786 (by decide +kernel) rfl)
theorem lJ2_183 : q_Lk RJ2 183 mJ9_min_7cf53 := Or.inl (q_w 752 (by decide +kernel) rfl)
theorem lJ2_224 : q_Lk RJ2 224 mJ9_max_7cf53 := Or.inl (q_w 751 (by decide +kernel) rfl)
theorem lJ2_228 : q_Lk RJ2 228 mJ2_indexOfChar_4cfef := Or.inl (q_w 754 (by decide +kernel) rfl)
theorem lJ2_232 : q_Lk RJ2 232 mJ2_indexOfSupplementary_4cfef := Or.inl (q_w 783 (by decide +kernel) rfl)
theorem lJ2_241 : q_Lk RJ2 241 mJ0_checkBoundsBeginEnd_23922 := Or.inl (q_w 763 (by decide +kernel) rfl)
theorem lJ2_244 : q_Lk RJ2 244 mJ2_indexOfCharUnsafe_4cfef := Or.inl (q_w 771 (by decide +kernel) rfl)
theorem kX0 : q_Cl 0 RX0 TX0 11 := ⟨rfl, q_wall (by decide +kernel), ⟨tyX0, tyX0_ok⟩, nmX0⟩
theorem kX1 : q_Cl 1 RX1 TX1 2 := ⟨rfl, q_wall (by decide +kernel), ⟨tyX1, tyX1_ok⟩, nmX1⟩
theorem kX2 : q_Cl 2 RX2 TX2 6 := ⟨rfl, q_wall (by decide +kernel), ⟨tyX2, tyX2_ok⟩, nmX2⟩
theorem kX3 : q_Cl 3 RX3 TX3 1 := ⟨rfl, q_wall (by decide +kernel), ⟨tyX3, tyX3_ok⟩, nmX3⟩
theorem kX4 : q_Cl 4 RX4 TX4 3 := ⟨rfl, q_wall (by decide +kernel), ⟨tyX4, tyX4_ok⟩, nmX4⟩
theorem kX5 : q_Cl 5 RX5 TX5 5 := ⟨rfl, q_wall (by decide +kernel), ⟨tyX5, tyX5_ok⟩, nmX5⟩
theorem kX6 : q_Cl 6 RX6 TX6 2 := ⟨rfl, q_wall (by decide +kernel), ⟨tyX6, tyX6_ok⟩, nmX6⟩
theorem kX7 : q_Cl 7 RX7 TX7 7 := ⟨rfl, q_wall (by decide +kernel), ⟨tyX7, tyX7_ok⟩, nmX7⟩
theorem kX8 : q_Cl 8 RX8 TX8 9 := ⟨rfl, q_wall (by decide +kernel), ⟨tyX8, tyX8_ok⟩, nmX8⟩
theorem kX9 : q_Cl 9 RX9 TX9 17 := ⟨rfl, q_wall (by decide +kernel), ⟨tyX9, tyX9_ok⟩, nmX9⟩
theorem fX8_10 : q_F RX8 10 8 0 (.object "ShadowRows$Field") true := ⟨RX8, TX8, 9, kX8, by decide, rfl, tyX8_ok 0 (by decide), Or.inl (q_w 302 (by decide +kernel) rfl)⟩
theorem oX8_10 : q_FO RX8 10 8 0 (.object "ShadowRows$Field") true := ⟨RX8, TX8, 9, kX8, by decide, rfl, tyX8_ok 0 (by decide), rfl, q_w 302 (by decide +kernel) rfl⟩
theorem fX8_21 : q_F RX8 21 8 1 (.object "ShadowRows$Light") true := ⟨RX8, TX8, 9, kX8, by decide, rfl, tyX8_ok 1 (by decide), Or.inl (q_w 303 (by decide +kernel) rfl)⟩
theorem oX8_21 : q_FO RX8 21 8 1 (.object "ShadowRows$Light") true := ⟨RX8, TX8, 9, kX8, by decide, rfl, tyX8_ok 1 (by decide), rfl, q_w 303 (by decide +kernel) rfl⟩
theorem fX8_28 : q_F RX8 28 8 2 (.object "ShadowRows$Market") true := ⟨RX8, TX8, 9, kX8, by decide, rfl, tyX8_ok 2 (by decide), Or.inl (q_w 304 (by decide +kernel) rfl)⟩
theorem oX8_28 : q_FO RX8 28 8 2 (.object "ShadowRows$Market") true := ⟨RX8, TX8, 9, kX8, by decide, rfl, tyX8_ok 2 (by decide), rfl, q_w 304 (by decide +kernel) rfl⟩
theorem fX8_37 : q_F RX8 37 8 3 (.object "ShadowRows$TiltSearch") true := ⟨RX8, TX8, 9, kX8, by decide, rfl, tyX8_ok 3 (by decide), Or.inl (q_w 305 (by decide +kernel) rfl)⟩
theorem oX8_37 : q_FO RX8 37 8 3 (.object "ShadowRows$TiltSearch") true := ⟨RX8, TX8, 9, kX8, by decide, rfl, tyX8_ok 3 (by decide), rfl, q_w 305 (by decide +kernel) rfl⟩
theorem fX8_44 : q_F RX8 44 8 4 (.object "ShadowRows$Pad") true := ⟨RX8, TX8, 9, kX8, by decide, rfl, tyX8_ok 4 (by decide), Or.inl (q_w 306 (by decide +kernel) rfl)⟩
theorem oX8_44 : q_FO RX8 44 8 4 (.object "ShadowRows$Pad") true := ⟨RX8, TX8, 9, kX8, by decide, rfl, tyX8_ok 4 (by decide), rfl, q_w 306 (by decide +kernel) rfl⟩
theorem fX8_53 : q_F RX8 53 8 5 (.object "ShadowRows$OrderReader") true := ⟨RX8, TX8, 9, kX8, by decide, rfl, tyX8_ok 5 (by decide), Or.inl (q_w 307 (by decide +kernel) rfl)⟩
theorem oX8_53 : q_FO RX8 53 8 5 (.object "ShadowRows$OrderReader") true := ⟨RX8, TX8, 9, kX8, by decide, rfl, tyX8_ok 5 (by decide), rfl, q_w 307 (by decide +kernel) rfl⟩
theorem fX8_60 : q_F RX8 60 8 6 (.object "ShadowRows$History") true := ⟨RX8, TX8, 9, kX8, by decide, rfl, tyX8_ok 6 (by decide), Or.inl (q_w 308 (by decide +kernel) rfl)⟩
theorem oX8_60 : q_FO RX8 60 8 6 (.object "ShadowRows$History") true := ⟨RX8, TX8, 9, kX8, by decide, rfl, tyX8_ok 6 (by decide), rfl, q_w 308 (by decide +kernel) rfl⟩
theorem fX8_64 : q_F RX8 64 8 7 (.array (.object "ShadowRows$Field")) true := ⟨RX8, TX8, 9, kX8, by decide, rfl, tyX8_ok 7 (by decide), Or.inl (q_w 309 (by decide +kernel) rfl)⟩
theorem oX8_64 : q_FO RX8 64 8 7 (.array (.object "ShadowRows$Field")) true := ⟨RX8, TX8, 9, kX8, by decide, rfl, tyX8_ok 7 (by decide), rfl, q_w 309 (by decide +kernel) rfl⟩
theorem fX8_68 : q_F RX8 68 8 8 (.array .boolean) true := ⟨RX8, TX8, 9, kX8, by decide, rfl, tyX8_ok 8 (by decide), Or.inl (q_w 310 (by decide +kernel) rfl)⟩
theorem oX8_68 : q_FO RX8 68 8 8 (.array .boolean) true := ⟨RX8, TX8, 9, kX8, by decide, rfl, tyX8_ok 8 (by decide), rfl, q_w 310 (by decide +kernel) rfl⟩
theorem fX8_125 : q_F RX8 125 0 1 (.array .int) true := ⟨RX0, TX0, 11, kX0, by decide, rfl, tyX0_ok 1 (by decide), Or.inr ⟨"ShadowRows", q_wn 126 (by decide +kernel)⟩⟩
theorem fX8_129 : q_F RX8 129 0 2 (.array .int) true := ⟨RX0, TX0, 11, kX0, by decide, rfl, tyX0_ok 2 (by decide), Or.inr ⟨"ShadowRows", q_wn 130 (by decide +kernel)⟩⟩
theorem fX8_132 : q_F RX8 132 0 3 (.array .int) true := ⟨RX0, TX0, 11, kX0, by decide, rfl, tyX0_ok 3 (by decide), Or.inr ⟨"ShadowRows", q_wn 133 (by decide +kernel)⟩⟩
theorem fX8_135 : q_F RX8 135 0 4 (.array .int) true := ⟨RX0, TX0, 11, kX0, by decide, rfl, tyX0_ok 4 (by decide), Or.inr ⟨"ShadowRows", q_wn 136 (by decide +kernel)⟩⟩
theorem fX8_164 : q_F RX8 164 2 4 (.array .int) true := ⟨RX2, TX2, 6, kX2, by decide, rfl, tyX2_ok 4 (by decide), Or.inr ⟨"ShadowRows", q_wn 191 (by decide +kernel)⟩⟩
theorem fX8_176 : q_F RX8 176 0 7 (.array .int) true := ⟨RX0, TX0, 11, kX0, by decide, rfl, tyX0_ok 7 (by decide), Or.inr ⟨"ShadowRows", q_wn 146 (by decide +kernel)⟩⟩
theorem fX8_191 : q_F RX8 191 0 0 .int false := ⟨RX0, TX0, 11, kX0, by decide, rfl, tyX0_ok 0 (by decide), Or.inr ⟨"ShadowRows", q_wn 123 (by decide +kernel)⟩⟩
theorem fX8_195 : q_F RX8 195 0 8 (.object "ShadowRows$Offers") true := ⟨RX0, TX0, 11, kX0, by decide, rfl, tyX0_ok 8 (by decide), Or.inr ⟨"ShadowRows", q_wn 149 (by decide +kernel)⟩⟩
theorem fX8_199 : q_F RX8 199 4 0 .int false := ⟨RX4, TX4, 3, kX4, by decide, rfl, tyX4_ok 0 (by decide), Or.inr ⟨"ShadowRows", q_wn 108 (by decide +kernel)⟩⟩
theorem fX8_202 : q_F RX8 202 0 9 (.object "ShadowRows$Offers") true := ⟨RX0, TX0, 11, kX0, by decide, rfl, tyX0_ok 9 (by decide), Or.inr ⟨"ShadowRows", q_wn 152 (by decide +kernel)⟩⟩
theorem fX8_208 : q_F RX8 208 0 10 .int false := ⟨RX0, TX0, 11, kX0, by decide, rfl, tyX0_ok 10 (by decide), Or.inr ⟨"ShadowRows", q_wn 155 (by decide +kernel)⟩⟩
theorem fX8_211 : q_F RX8 211 0 6 .int false := ⟨RX0, TX0, 11, kX0, by decide, rfl, tyX0_ok 6 (by decide), Or.inr ⟨"ShadowRows", q_wn 142 (by decide +kernel)⟩⟩
theorem fX8_214 : q_F RX8 214 6 1 .int false := ⟨RX6, TX6, 2, kX6, by decide, rfl, tyX6_ok 1 (by decide), Or.inr ⟨"ShadowRows", q_wn 254 (by decide +kernel)⟩⟩
theorem fX8_216 : q_F RX8 216 1 0 .int false := ⟨RX1, TX1, 2, kX1, by decide, rfl, tyX1_ok 0 (by decide), Or.inr ⟨"ShadowRows", q_wn 295 (by decide +kernel)⟩⟩
theorem fX8_217 : q_F RX8 217 0 5 (.array .int) true := ⟨RX0, TX0, 11, kX0, by decide, rfl, tyX0_ok 5 (by decide), Or.inr ⟨"ShadowRows", q_wn 139 (by decide +kernel)⟩⟩
theorem fX8_263 : q_F RX8 263 5 3 (.array .int) true := ⟨RX5, TX5, 5, kX5, by decide, rfl, tyX5_ok 3 (by decide), Or.inr ⟨"ShadowRows", q_wn 272 (by decide +kernel)⟩⟩
theorem fX8_266 : q_F RX8 266 5 2 .char false := ⟨RX5, TX5, 5, kX5, by decide, rfl, tyX5_ok 2 (by decide), Or.inr ⟨"ShadowRows", q_wn 270 (by decide +kernel)⟩⟩
theorem fX0_9 : q_F RX0 9 0 0 .int false := ⟨RX0, TX0, 11, kX0, by decide, rfl, tyX0_ok 0 (by decide), Or.inl (q_w 120 (by decide +kernel) rfl)⟩
theorem fX0_15 : q_F RX0 15 0 1 (.array .int) true := ⟨RX0, TX0, 11, kX0, by decide, rfl, tyX0_ok 1 (by decide), Or.inl (q_w 124 (by decide +kernel) rfl)⟩
theorem oX0_15 : q_FO RX0 15 0 1 (.array .int) true := ⟨RX0, TX0, 11, kX0, by decide, rfl, tyX0_ok 1 (by decide), rfl, q_w 124 (by decide +kernel) rfl⟩
theorem fX0_19 : q_F RX0 19 0 2 (.array .int) true := ⟨RX0, TX0, 11, kX0, by decide, rfl, tyX0_ok 2 (by decide), Or.inl (q_w 127 (by decide +kernel) rfl)⟩
theorem oX0_19 : q_FO RX0 19 0 2 (.array .int) true := ⟨RX0, TX0, 11, kX0, by decide, rfl, tyX0_ok 2 (by decide), rfl, q_w 127 (by decide +kernel) rfl⟩
theorem fX0_22 : q_F RX0 22 0 3 (.array .int) true := ⟨RX0, TX0, 11, kX0, by decide, rfl, tyX0_ok 3 (by decide), Or.inl (q_w 131 (by decide +kernel) rfl)⟩
theorem oX0_22 : q_FO RX0 22 0 3 (.array .int) true := ⟨RX0, TX0, 11, kX0, by decide, rfl, tyX0_ok 3 (by decide), rfl, q_w 131 (by decide +kernel) rfl⟩
theorem fX0_25 : q_F RX0 25 0 4 (.array .int) true := ⟨RX0, TX0, 11, kX0, by decide, rfl, tyX0_ok 4 (by decide), Or.inl (q_w 134 (by decide +kernel) rfl)⟩
theorem oX0_25 : q_FO RX0 25 0 4 (.array .int) true := ⟨RX0, TX0, 11, kX0, by decide, rfl, tyX0_ok 4 (by decide), rfl, q_w 134 (by decide +kernel) rfl⟩
theorem fX0_28 : q_F RX0 28 0 5 (.array .int) true := ⟨RX0, TX0, 11, kX0, by decide, rfl, tyX0_ok 5 (by decide), Or.inl (q_w 137 (by decide +kernel) rfl)⟩
theorem oX0_28 : q_FO RX0 28 0 5 (.array .int) true := ⟨RX0, TX0, 11, kX0, by decide, rfl, tyX0_ok 5 (by decide), rfl, q_w 137 (by decide +kernel) rfl⟩
theorem fX0_31 : q_F RX0 31 0 6 .int false := ⟨RX0, TX0, 11, kX0, by decide, rfl, tyX0_ok 6 (by decide), Or.inl (q_w 140 (by decide +kernel) rfl)⟩
theorem fX0_34 : q_F RX0 34 0 7 (.array .int) true := ⟨RX0, TX0, 11, kX0, by decide, rfl, tyX0_ok 7 (by decide), Or.inl (q_w 143 (by decide +kernel) rfl)⟩
theorem oX0_34 : q_FO RX0 34 0 7 (.array .int) true := ⟨RX0, TX0, 11, kX0, by decide, rfl, tyX0_ok 7 (by decide), rfl, q_w 143 (by decide +kernel) rfl⟩
theorem fX0_40 : q_F RX0 40 0 8 (.object "ShadowRows$Offers") true := ⟨RX0, TX0, 11, kX0, by decide, rfl, tyX0_ok 8 (by decide), Or.inl (q_w 147 (by decide +kernel) rfl)⟩
theorem oX0_40 : q_FO RX0 40 0 8 (.object "ShadowRows$Offers") true := ⟨RX0, TX0, 11, kX0, by decide, rfl, tyX0_ok 8 (by decide), rfl, q_w 147 (by decide +kernel) rfl⟩
theorem fX0_44 : q_F RX0 44 0 9 (.object "ShadowRows$Offers") true := ⟨RX0, TX0, 11, kX0, by decide, rfl, tyX0_ok 9 (by decide), Or.inl (q_w 150 (by decide +kernel) rfl)⟩
theorem oX0_44 : q_FO RX0 44 0 9 (.object "ShadowRows$Offers") true := ⟨RX0, TX0, 11, kX0, by decide, rfl, tyX0_ok 9 (by decide), rfl, q_w 150 (by decide +kernel) rfl⟩
theorem fX0_47 : q_F RX0 47 0 10 .int false := ⟨RX0, TX0, 11, kX0, by decide, rfl, tyX0_ok 10 (by decide), Or.inl (q_w 153 (by decide +kernel) rfl)⟩
theorem fX1_9 : q_F RX1 9 1 0 .int false := ⟨RX1, TX1, 2, kX1, by decide, rfl, tyX1_ok 0 (by decide), Or.inl (q_w 294 (by decide +kernel) rfl)⟩
theorem fX1_17 : q_F RX1 17 1 1 (.array (.object "ShadowRows$Field")) true := ⟨RX1, TX1, 2, kX1, by decide, rfl, tyX1_ok 1 (by decide), Or.inl (q_w 296 (by decide +kernel) rfl)⟩
theorem oX1_17 : q_FO RX1 17 1 1 (.array (.object "ShadowRows$Field")) true := ⟨RX1, TX1, 2, kX1, by decide, rfl, tyX1_ok 1 (by decide), rfl, q_w 296 (by decide +kernel) rfl⟩
theorem fX2_9 : q_F RX2 9 2 1 .int false := ⟨RX2, TX2, 6, kX2, by decide, rfl, tyX2_ok 1 (by decide), Or.inl (q_w 186 (by decide +kernel) rfl)⟩
theorem fX2_15 : q_F RX2 15 2 2 (.array .int) true := ⟨RX2, TX2, 6, kX2, by decide, rfl, tyX2_ok 2 (by decide), Or.inl (q_w 187 (by decide +kernel) rfl)⟩
theorem oX2_15 : q_FO RX2 15 2 2 (.array .int) true := ⟨RX2, TX2, 6, kX2, by decide, rfl, tyX2_ok 2 (by decide), rfl, q_w 187 (by decide +kernel) rfl⟩
theorem fX2_19 : q_F RX2 19 2 3 (.array .int) true := ⟨RX2, TX2, 6, kX2, by decide, rfl, tyX2_ok 3 (by decide), Or.inl (q_w 188 (by decide +kernel) rfl)⟩
theorem oX2_19 : q_FO RX2 19 2 3 (.array .int) true := ⟨RX2, TX2, 6, kX2, by decide, rfl, tyX2_ok 3 (by decide), rfl, q_w 188 (by decide +kernel) rfl⟩
theorem fX2_22 : q_F RX2 22 2 4 (.array .int) true := ⟨RX2, TX2, 6, kX2, by decide, rfl, tyX2_ok 4 (by decide), Or.inl (q_w 190 (by decide +kernel) rfl)⟩
theorem oX2_22 : q_FO RX2 22 2 4 (.array .int) true := ⟨RX2, TX2, 6, kX2, by decide, rfl, tyX2_ok 4 (by decide), rfl, q_w 190 (by decide +kernel) rfl⟩
theorem fX2_25 : q_F RX2 25 2 5 (.array .int) true := ⟨RX2, TX2, 6, kX2, by decide, rfl, tyX2_ok 5 (by decide), Or.inl (q_w 192 (by decide +kernel) rfl)⟩
theorem oX2_25 : q_FO RX2 25 2 5 (.array .int) true := ⟨RX2, TX2, 6, kX2, by decide, rfl, tyX2_ok 5 (by decide), rfl, q_w 192 (by decide +kernel) rfl⟩
theorem fX2_28 : q_F RX2 28 2 0 (.object "ShadowRows$Field") true := ⟨RX2, TX2, 6, kX2, by decide, rfl, tyX2_ok 0 (by decide), Or.inl (q_w 185 (by decide +kernel) rfl)⟩
theorem oX2_28 : q_FO RX2 28 2 0 (.object "ShadowRows$Field") true := ⟨RX2, TX2, 6, kX2, by decide, rfl, tyX2_ok 0 (by decide), rfl, q_w 185 (by decide +kernel) rfl⟩
theorem fX2_32 : q_F RX2 32 0 0 .int false := ⟨RX0, TX0, 11, kX0, by decide, rfl, tyX0_ok 0 (by decide), Or.inr ⟨"ShadowRows", q_wn 122 (by decide +kernel)⟩⟩
theorem fX2_45 : q_F RX2 45 0 2 (.array .int) true := ⟨RX0, TX0, 11, kX0, by decide, rfl, tyX0_ok 2 (by decide), Or.inr ⟨"ShadowRows", q_wn 128 (by decide +kernel)⟩⟩
theorem fX2_51 : q_F RX2 51 0 5 (.array .int) true := ⟨RX0, TX0, 11, kX0, by decide, rfl, tyX0_ok 5 (by decide), Or.inr ⟨"ShadowRows", q_wn 138 (by decide +kernel)⟩⟩
theorem fX2_54 : q_F RX2 54 0 6 .int false := ⟨RX0, TX0, 11, kX0, by decide, rfl, tyX0_ok 6 (by decide), Or.inr ⟨"ShadowRows", q_wn 141 (by decide +kernel)⟩⟩
theorem fX2_60 : q_F RX2 60 0 1 (.array .int) true := ⟨RX0, TX0, 11, kX0, by decide, rfl, tyX0_ok 1 (by decide), Or.inr ⟨"ShadowRows", q_wn 125 (by decide +kernel)⟩⟩
theorem fX2_73 : q_F RX2 73 0 7 (.array .int) true := ⟨RX0, TX0, 11, kX0, by decide, rfl, tyX0_ok 7 (by decide), Or.inr ⟨"ShadowRows", q_wn 144 (by decide +kernel)⟩⟩
theorem fX2_85 : q_F RX2 85 0 3 (.array .int) true := ⟨RX0, TX0, 11, kX0, by decide, rfl, tyX0_ok 3 (by decide), Or.inr ⟨"ShadowRows", q_wn 132 (by decide +kernel)⟩⟩
theorem fX3_9 : q_F RX3 9 3 0 (.object "ShadowRows$Field") true := ⟨RX3, TX3, 1, kX3, by decide, rfl, tyX3_ok 0 (by decide), Or.inl (q_w 212 (by decide +kernel) rfl)⟩
theorem oX3_9 : q_FO RX3 9 3 0 (.object "ShadowRows$Field") true := ⟨RX3, TX3, 1, kX3, by decide, rfl, tyX3_ok 0 (by decide), rfl, q_w 212 (by decide +kernel) rfl⟩
theorem fX3_28 : q_F RX3 28 0 8 (.object "ShadowRows$Offers") true := ⟨RX0, TX0, 11, kX0, by decide, rfl, tyX0_ok 8 (by decide), Or.inr ⟨"ShadowRows", q_wn 148 (by decide +kernel)⟩⟩
theorem fX3_38 : q_F RX3 38 0 9 (.object "ShadowRows$Offers") true := ⟨RX0, TX0, 11, kX0, by decide, rfl, tyX0_ok 9 (by decide), Or.inr ⟨"ShadowRows", q_wn 151 (by decide +kernel)⟩⟩
theorem fX3_49 : q_F RX3 49 4 0 .int false := ⟨RX4, TX4, 3, kX4, by decide, rfl, tyX4_ok 0 (by decide), Or.inr ⟨"ShadowRows", q_wn 107 (by decide +kernel)⟩⟩
theorem fX3_53 : q_F RX3 53 4 2 (.array .int) true := ⟨RX4, TX4, 3, kX4, by decide, rfl, tyX4_ok 2 (by decide), Or.inr ⟨"ShadowRows", q_wn 111 (by decide +kernel)⟩⟩
theorem fX3_64 : q_F RX3 64 0 10 .int false := ⟨RX0, TX0, 11, kX0, by decide, rfl, tyX0_ok 10 (by decide), Or.inr ⟨"ShadowRows", q_wn 154 (by decide +kernel)⟩⟩
theorem fX3_86 : q_F RX3 86 0 7 (.array .int) true := ⟨RX0, TX0, 11, kX0, by decide, rfl, tyX0_ok 7 (by decide), Or.inr ⟨"ShadowRows", q_wn 145 (by decide +kernel)⟩⟩
theorem fX3_89 : q_F RX3 89 0 4 (.array .int) true := ⟨RX0, TX0, 11, kX0, by decide, rfl, tyX0_ok 4 (by decide), Or.inr ⟨"ShadowRows", q_wn 135 (by decide +kernel)⟩⟩
theorem fX4_9 : q_F RX4 9 4 0 .int false := ⟨RX4, TX4, 3, kX4, by decide, rfl, tyX4_ok 0 (by decide), Or.inl (q_w 106 (by decide +kernel) rfl)⟩
theorem fX4_15 : q_F RX4 15 4 1 (.array .int) true := ⟨RX4, TX4, 3, kX4, by decide, rfl, tyX4_ok 1 (by decide), Or.inl (q_w 109 (by decide +kernel) rfl)⟩
theorem oX4_15 : q_FO RX4 15 4 1 (.array .int) true := ⟨RX4, TX4, 3, kX4, by decide, rfl, tyX4_ok 1 (by decide), rfl, q_w 109 (by decide +kernel) rfl⟩
theorem fX4_19 : q_F RX4 19 4 2 (.array .int) true := ⟨RX4, TX4, 3, kX4, by decide, rfl, tyX4_ok 2 (by decide), Or.inl (q_w 110 (by decide +kernel) rfl)⟩
theorem oX4_19 : q_FO RX4 19 4 2 (.array .int) true := ⟨RX4, TX4, 3, kX4, by decide, rfl, tyX4_ok 2 (by decide), rfl, q_w 110 (by decide +kernel) rfl⟩
theorem fX5_9 : q_F RX5 9 5 1 .int false := ⟨RX5, TX5, 5, kX5, by decide, rfl, tyX5_ok 1 (by decide), Or.inl (q_w 268 (by decide +kernel) rfl)⟩
theorem fX5_15 : q_F RX5 15 5 2 .char false := ⟨RX5, TX5, 5, kX5, by decide, rfl, tyX5_ok 2 (by decide), Or.inl (q_w 269 (by decide +kernel) rfl)⟩
theorem fX5_19 : q_F RX5 19 5 3 (.array .int) true := ⟨RX5, TX5, 5, kX5, by decide, rfl, tyX5_ok 3 (by decide), Or.inl (q_w 271 (by decide +kernel) rfl)⟩
theorem oX5_19 : q_FO RX5 19 5 3 (.array .int) true := ⟨RX5, TX5, 5, kX5, by decide, rfl, tyX5_ok 3 (by decide), rfl, q_w 271 (by decide +kernel) rfl⟩
theorem fX5_23 : q_F RX5 23 5 4 .int false := ⟨RX5, TX5, 5, kX5, by decide, rfl, tyX5_ok 4 (by decide), Or.inl (q_w 273 (by decide +kernel) rfl)⟩
theorem fX5_26 : q_F RX5 26 5 0 (.object "ShadowRows$Pad") true := ⟨RX5, TX5, 5, kX5, by decide, rfl, tyX5_ok 0 (by decide), Or.inl (q_w 267 (by decide +kernel) rfl)⟩
theorem oX5_26 : q_FO RX5 26 5 0 (.object "ShadowRows$Pad") true := ⟨RX5, TX5, 5, kX5, by decide, rfl, tyX5_ok 0 (by decide), rfl, q_w 267 (by decide +kernel) rfl⟩
theorem fX5_37 : q_F RX5 37 6 1 .int false := ⟨RX6, TX6, 2, kX6, by decide, rfl, tyX6_ok 1 (by decide), Or.inr ⟨"ShadowRows", q_wn 253 (by decide +kernel)⟩⟩
theorem fX5_48 : q_F RX5 48 6 0 (.array .char) true := ⟨RX6, TX6, 2, kX6, by decide, rfl, tyX6_ok 0 (by decide), Or.inr ⟨"ShadowRows", q_wn 251 (by decide +kernel)⟩⟩
theorem fX6_9 : q_F RX6 9 6 0 (.array .char) true := ⟨RX6, TX6, 2, kX6, by decide, rfl, tyX6_ok 0 (by decide), Or.inl (q_w 250 (by decide +kernel) rfl)⟩
theorem oX6_9 : q_FO RX6 9 6 0 (.array .char) true := ⟨RX6, TX6, 2, kX6, by decide, rfl, tyX6_ok 0 (by decide), rfl, q_w 250 (by decide +kernel) rfl⟩
theorem fX6_15 : q_F RX6 15 6 1 .int false := ⟨RX6, TX6, 2, kX6, by decide, rfl, tyX6_ok 1 (by decide), Or.inl (q_w 252 (by decide +kernel) rfl)⟩
theorem fX7_9 : q_F RX7 9 7 2 (.array .int) true := ⟨RX7, TX7, 7, kX7, by decide, rfl, tyX7_ok 2 (by decide), Or.inl (q_w 224 (by decide +kernel) rfl)⟩
theorem oX7_9 : q_FO RX7 9 7 2 (.array .int) true := ⟨RX7, TX7, 7, kX7, by decide, rfl, tyX7_ok 2 (by decide), rfl, q_w 224 (by decide +kernel) rfl⟩
theorem fX7_15 : q_F RX7 15 7 3 .int false := ⟨RX7, TX7, 7, kX7, by decide, rfl, tyX7_ok 3 (by decide), Or.inl (q_w 225 (by decide +kernel) rfl)⟩
theorem fX7_19 : q_F RX7 19 7 4 (.array .int) true := ⟨RX7, TX7, 7, kX7, by decide, rfl, tyX7_ok 4 (by decide), Or.inl (q_w 226 (by decide +kernel) rfl)⟩
theorem oX7_19 : q_FO RX7 19 7 4 (.array .int) true := ⟨RX7, TX7, 7, kX7, by decide, rfl, tyX7_ok 4 (by decide), rfl, q_w 226 (by decide +kernel) rfl⟩
theorem fX7_22 : q_F RX7 22 7 5 (.array .int) true := ⟨RX7, TX7, 7, kX7, by decide, rfl, tyX7_ok 5 (by decide), Or.inl (q_w 227 (by decide +kernel) rfl)⟩
theorem oX7_22 : q_FO RX7 22 7 5 (.array .int) true := ⟨RX7, TX7, 7, kX7, by decide, rfl, tyX7_ok 5 (by decide), rfl, q_w 227 (by decide +kernel) rfl⟩
theorem fX7_25 : q_F RX7 25 7 6 (.array .int) true := ⟨RX7, TX7, 7, kX7, by decide, rfl, tyX7_ok 6 (by decide), Or.inl (q_w 228 (by decide +kernel) rfl)⟩
theorem oX7_25 : q_FO RX7 25 7 6 (.array .int) true := ⟨RX7, TX7, 7, kX7, by decide, rfl, tyX7_ok 6 (by decide), rfl, q_w 228 (by decide +kernel) rfl⟩
theorem fX7_28 : q_F RX7 28 7 0 (.object "ShadowRows$Field") true := ⟨RX7, TX7, 7, kX7, by decide, rfl, tyX7_ok 0 (by decide), Or.inl (q_w 222 (by decide +kernel) rfl)⟩
theorem oX7_28 : q_FO RX7 28 7 0 (.object "ShadowRows$Field") true := ⟨RX7, TX7, 7, kX7, by decide, rfl, tyX7_ok 0 (by decide), rfl, q_w 222 (by decide +kernel) rfl⟩
theorem fX7_32 : q_F RX7 32 7 1 (.object "ShadowRows$Light") true := ⟨RX7, TX7, 7, kX7, by decide, rfl, tyX7_ok 1 (by decide), Or.inl (q_w 223 (by decide +kernel) rfl)⟩
theorem oX7_32 : q_FO RX7 32 7 1 (.object "ShadowRows$Light") true := ⟨RX7, TX7, 7, kX7, by decide, rfl, tyX7_ok 1 (by decide), rfl, q_w 223 (by decide +kernel) rfl⟩
theorem fX7_39 : q_F RX7 39 0 0 .int false := ⟨RX0, TX0, 11, kX0, by decide, rfl, tyX0_ok 0 (by decide), Or.inr ⟨"ShadowRows", q_wn 121 (by decide +kernel)⟩⟩
theorem fX7_68 : q_F RX7 68 0 2 (.array .int) true := ⟨RX0, TX0, 11, kX0, by decide, rfl, tyX0_ok 2 (by decide), Or.inr ⟨"ShadowRows", q_wn 129 (by decide +kernel)⟩⟩
theorem fX7_71 : q_F RX7 71 2 3 (.array .int) true := ⟨RX2, TX2, 6, kX2, by decide, rfl, tyX2_ok 3 (by decide), Or.inr ⟨"ShadowRows", q_wn 189 (by decide +kernel)⟩⟩
theorem fX9_7 : q_F RX9 7 9 0 (.array .int) true := ⟨RX9, TX9, 17, kX9, by decide, rfl, tyX9_ok 0 (by decide), Or.inl (q_w 860 (by decide +kernel) rfl)⟩
theorem oX9_7 : q_FO RX9 7 9 0 (.array .int) true := ⟨RX9, TX9, 17, kX9, by decide, rfl, tyX9_ok 0 (by decide), rfl, q_w 860 (by decide +kernel) rfl⟩
theorem fX9_13 : q_F RX9 13 9 1 (.array .int) true := ⟨RX9, TX9, 17, kX9, by decide, rfl, tyX9_ok 1 (by decide), Or.inl (q_w 861 (by decide +kernel) rfl)⟩
theorem oX9_13 : q_FO RX9 13 9 1 (.array .int) true := ⟨RX9, TX9, 17, kX9, by decide, rfl, tyX9_ok 1 (by decide), rfl, q_w 861 (by decide +kernel) rfl⟩
theorem fX9_16 : q_F RX9 16 9 3 (.array .int) true := ⟨RX9, TX9, 17, kX9, by decide, rfl, tyX9_ok 3 (by decide), Or.inl (q_w 863 (by decide +kernel) rfl)⟩
theorem oX9_16 : q_FO RX9 16 9 3 (.array .int) true := ⟨RX9, TX9, 17, kX9, by decide, rfl, tyX9_ok 3 (by decide), rfl, q_w 863 (by decide +kernel) rfl⟩
theorem fX9_19 : q_F RX9 19 9 4 (.array .int) true := ⟨RX9, TX9, 17, kX9, by decide, rfl, tyX9_ok 4 (by decide), Or.inl (q_w 864 (by decide +kernel) rfl)⟩
theorem oX9_19 : q_FO RX9 19 9 4 (.array .int) true := ⟨RX9, TX9, 17, kX9, by decide, rfl, tyX9_ok 4 (by decide), rfl, q_w 864 (by decide +kernel) rfl⟩
theorem fX9_22 : q_F RX9 22 9 5 (.array .int) true := ⟨RX9, TX9, 17, kX9, by decide, rfl, tyX9_ok 5 (by decide), Or.inl (q_w 865 (by decide +kernel) rfl)⟩
theorem oX9_22 : q_FO RX9 22 9 5 (.array .int) true := ⟨RX9, TX9, 17, kX9, by decide, rfl, tyX9_ok 5 (by decide), rfl, q_w 865 (by decide +kernel) rfl⟩
theorem fX9_25 : q_F RX9 25 9 7 (.array .int) true := ⟨RX9, TX9, 17, kX9, by decide, rfl, tyX9_ok 7 (by decide), Or.inl (q_w 867 (by decide +kernel) rfl)⟩
theorem oX9_25 : q_FO RX9 25 9 7 (.array .int) true := ⟨RX9, TX9, 17, kX9, by decide, rfl, tyX9_ok 7 (by decide), rfl, q_w 867 (by decide +kernel) rfl⟩
theorem fX9_28 : q_F RX9 28 9 8 (.array .int) true := ⟨RX9, TX9, 17, kX9, by decide, rfl, tyX9_ok 8 (by decide), Or.inl (q_w 868 (by decide +kernel) rfl)⟩
theorem oX9_28 : q_FO RX9 28 9 8 (.array .int) true := ⟨RX9, TX9, 17, kX9, by decide, rfl, tyX9_ok 8 (by decide), rfl, q_w 868 (by decide +kernel) rfl⟩
theorem fX9_31 : q_F RX9 31 9 9 (.array .int) true := ⟨RX9, TX9, 17, kX9, by decide, rfl, tyX9_ok 9 (by decide), Or.inl (q_w 869 (by decide +kernel) rfl)⟩
theorem oX9_31 : q_FO RX9 31 9 9 (.array .int) true := ⟨RX9, TX9, 17, kX9, by decide, rfl, tyX9_ok 9 (by decide), rfl, q_w 869 (by decide +kernel) rfl⟩
theorem fX9_34 : q_F RX9 34 9 2 .int false := ⟨RX9, TX9, 17, kX9, by decide, rfl, tyX9_ok 2 (by decide), Or.inl (q_w 862 (by decide +kernel) rfl)⟩
theorem fX9_183 : q_F RX9 183 9 6 .int false := ⟨RX9, TX9, 17, kX9, by decide, rfl, tyX9_ok 6 (by decide), Or.inl (q_w 866 (by decide +kernel) rfl)⟩
theorem fX9_201 : q_F RX9 201 9 10 .int false := ⟨RX9, TX9, 17, kX9, by decide, rfl, tyX9_ok 10 (by decide), Or.inl (q_w 870 (by decide +kernel) rfl)⟩
theorem fX9_213 : q_F RX9 213 9 14 .int false := ⟨RX9, TX9, 17, kX9, by decide, rfl, tyX9_ok 14 (by decide), Or.inl (q_w 874 (by decide +kernel) rfl)⟩
theorem fX9_219 : q_F RX9 219 9 15 .int false := ⟨RX9, TX9, 17, kX9, by decide, rfl, tyX9_ok 15 (by decide), Or.inl (q_w 875 (by decide +kernel) rfl)⟩
theorem fX9_222 : q_F RX9 222 9 16 .int false := ⟨RX9, TX9, 17, kX9, by decide, rfl, tyX9_ok 16 (by decide), Or.inl (q_w 876 (by decide +kernel) rfl)⟩
theorem fX9_225 : q_F RX9 225 9 11 .int false := ⟨RX9, TX9, 17, kX9, by decide, rfl, tyX9_ok 11 (by decide), Or.inl (q_w 871 (by decide +kernel) rfl)⟩
theorem fX9_228 : q_F RX9 228 9 12 .int false := ⟨RX9, TX9, 17, kX9, by decide, rfl, tyX9_ok 12 (by decide), Or.inl (q_w 872 (by decide +kernel) rfl)⟩
theorem fX9_231 : q_F RX9 231 9 13 .int false := ⟨RX9, TX9, 17, kX9, by decide, rfl, tyX9_ok 13 (by decide), Or.inl (q_w 873 (by decide +kernel) rfl)⟩
theorem wX8_1 : Cond.methodLink RX8 1 Lib.objectInit ∈ q_words := q_w 91 (by decide +kernel) rfl
theorem wX0_3 : Cond.methodLink RX0 3 Lib.objectInit ∈ q_words := q_w 99 (by decide +kernel) rfl
theorem wX0_50 : Cond.methodLink RX0 50 arraycopyName ∈ q_words := q_w 343 (by decide +kernel) rfl
theorem wX1_3 : Cond.methodLink RX1 3 Lib.objectInit ∈ q_words := q_w 290 (by decide +kernel) rfl
theorem wX2_3 : Cond.methodLink RX2 3 Lib.objectInit ∈ q_words := q_w 184 (by decide +kernel) rfl
theorem wX2_80 : Cond.methodLink RX2 80 Lib.Math.min.name ∈ q_words := q_w 538 (by decide +kernel) rfl
theorem wX2_88 : Cond.methodLink RX2 88 Lib.Math.max.name ∈ q_words := q_w 569 (by decide +kernel) rfl
theorem wX3_3 : Cond.methodLink RX3 3 Lib.objectInit ∈ q_words := q_w 211 (by decide +kernel) rfl
theorem wX3_81 : Cond.methodLink RX3 81 Lib.Math.min.name ∈ q_words := q_w 494 (by decide +kernel) rfl
theorem wX4_3 : Cond.methodLink RX4 3 Lib.objectInit ∈ q_words := q_w 105 (by decide +kernel) rfl
theorem wX4_22 : Cond.methodLink RX4 22 arraycopyName ∈ q_words := q_w 350 (by decide +kernel) rfl
theorem wX5_3 : Cond.methodLink RX5 3 Lib.objectInit ∈ q_words := q_w 266 (by decide +kernel) rfl
theorem wX6_3 : Cond.methodLink RX6 3 Lib.objectInit ∈ q_words := q_w 249 (by decide +kernel) rfl
theorem wX7_3 : Cond.methodLink RX7 3 Lib.objectInit ∈ q_words := q_w 221 (by decide +kernel) rfl
theorem wX7_74 : Cond.methodLink RX7 74 Lib.Math.max.name ∈ q_words := q_w 647 (by decide +kernel) rfl
theorem wX7_90 : Cond.methodLink RX7 90 Lib.Math.min.name ∈ q_words := q_w 667 (by decide +kernel) rfl
theorem wX9_1 : Cond.methodLink RX9 1 Lib.objectInit ∈ q_words := q_w 859 (by decide +kernel) rfl
theorem wX2_57 : Cond.fieldLink RX2 57 (q_stn 1).1 (q_stn 1).2 "[I" ∈ q_words := q_w 555 (by decide +kernel) rfl
theorem wX2_66 : Cond.fieldLink RX2 66 (q_stn 0).1 (q_stn 0).2 "[I" ∈ q_words := q_w 527 (by decide +kernel) rfl
theorem wX7_36 : Cond.fieldLink RX7 36 (q_stn 2).1 (q_stn 2).2 "[I" ∈ q_words := q_w 640 (by decide +kernel) rfl
theorem w_native : Cond.native arraycopyName ∈ q_words := q_w 345 (by decide +kernel) rfl
theorem w_copyS : Cond.static arraycopyName ∈ q_words := q_w 344 (by decide +kernel) rfl
theorem w_sys : Cond.initialized "java/lang/System" ∈ q_words := q_w 79 (by decide +kernel) rfl
theorem w_math : Cond.initialized "java/lang/Math" ∈ q_words := q_w 80 (by decide +kernel) rfl
theorem w_maxS : Cond.static Lib.Math.max.name ∈ q_words := q_w 570 (by decide +kernel) rfl
theorem w_maxC : Cond.code Lib.Math.max.name Lib.Math.max.code 2 (some .int) ∈ q_words := q_w 571 (by decide +kernel) rfl
theorem w_minS : Cond.static Lib.Math.min.name ∈ q_words := q_w 495 (by decide +kernel) rfl
theorem w_minC : Cond.code Lib.Math.min.name Lib.Math.min.code 2 (some .int) ∈ q_words := q_w 496 (by decide +kernel) rfl
theorem w_objI : Cond.instanceMethod Lib.objectInit ∈ q_words := q_w 92 (by decide +kernel) rfl
theorem w_objC : Cond.code Lib.objectInit ⟨#[0xb1]⟩ 1 none ∈ q_words := q_w 93 (by decide +kernel) rfl
theorem w_ini_L : Cond.initialized RL ∈ q_words := q_w 68 (by decide +kernel) rfl
theorem w_ini_X8 : Cond.initialized RX8 ∈ q_words := q_w 69 (by decide +kernel) rfl
theorem w_ini_X0 : Cond.initialized RX0 ∈ q_words := q_w 70 (by decide +kernel) rfl
theorem w_ini_X4 : Cond.initialized RX4 ∈ q_words := q_w 71 (by decide +kernel) rfl
theorem w_ini_X2 : Cond.initialized RX2 ∈ q_words := q_w 72 (by decide +kernel) rfl
theorem w_ini_X3 : Cond.initialized RX3 ∈ q_words := q_w 73 (by decide +kernel) rfl
theorem w_ini_X7 : Cond.initialized RX7 ∈ q_words := q_w 74 (by decide +kernel) rfl
theorem w_ini_X6 : Cond.initialized RX6 ∈ q_words := q_w 75 (by decide +kernel) rfl
theorem w_ini_X5 : Cond.initialized RX5 ∈ q_words := q_w 76 (by decide +kernel) rfl
theorem w_ini_X1 : Cond.initialized RX1 ∈ q_words := q_w 77 (by decide +kernel) rfl
theorem w_ini_X9 : Cond.initialized RX9 ∈ q_words := q_w 78 (by decide +kernel) rfl
theorem w_ini_J10 : Cond.initialized RJ10 ∈ q_words := q_w 79 (by decide +kernel) rfl
theorem w_ini_J9 : Cond.initialized RJ9 ∈ q_words := q_w 80 (by decide +kernel) rfl
theorem w_ini_J0 : Cond.initialized RJ0 ∈ q_words := q_w 81 (by decide +kernel) rfl
theorem w_ini_J1 : Cond.initialized RJ1 ∈ q_words := q_w 82 (by decide +kernel) rfl
theorem w_ini_J2 : Cond.initialized RJ2 ∈ q_words := q_w 83 (by decide +kernel) rfl
theorem w_ini_J3 : Cond.initialized RJ3 ∈ q_words := q_w 84 (by decide +kernel) rfl
theorem w_ini_J11 : Cond.initialized RJ11 ∈ q_words := q_w 85 (by decide +kernel) rfl
theorem wL_7 : Cond.classLink RL 7 "ShadowRows" ∈ q_words := q_w 86 (by decide +kernel) rfl
theorem w_new_X8 : Cond.instantiable RX8 9 ∈ q_words := q_w 87 (by decide +kernel) rfl
theorem wX8_7 : Cond.classLink RX8 7 "ShadowRows$Field" ∈ q_words := q_w 94 (by decide +kernel) rfl
theorem w_new_X0 : Cond.instantiable RX0 11 ∈ q_words := q_w 95 (by decide +kernel) rfl
theorem wX0_37 : Cond.classLink RX0 37 "ShadowRows$Offers" ∈ q_words := q_w 100 (by decide +kernel) rfl
theorem w_new_X4 : Cond.instantiable RX4 3 ∈ q_words := q_w 101 (by decide +kernel) rfl
theorem wX8_16 : Cond.classLink RX8 16 "ShadowRows$Light" ∈ q_words := q_w 179 (by decide +kernel) rfl
theorem w_new_X2 : Cond.instantiable RX2 6 ∈ q_words := q_w 180 (by decide +kernel) rfl
theorem wX8_25 : Cond.classLink RX8 25 "ShadowRows$Market" ∈ q_words := q_w 206 (by decide +kernel) rfl
theorem w_new_X3 : Cond.instantiable RX3 1 ∈ q_words := q_w 207 (by decide +kernel) rfl
theorem wX8_32 : Cond.classLink RX8 32 "ShadowRows$TiltSearch" ∈ q_words := q_w 216 (by decide +kernel) rfl
theorem w_new_X7 : Cond.instantiable RX7 7 ∈ q_words := q_w 217 (by decide +kernel) rfl
theorem wX8_41 : Cond.classLink RX8 41 "ShadowRows$Pad" ∈ q_words := q_w 244 (by decide +kernel) rfl
theorem w_new_X6 : Cond.instantiable RX6 2 ∈ q_words := q_w 245 (by decide +kernel) rfl
theorem wX8_48 : Cond.classLink RX8 48 "ShadowRows$OrderReader" ∈ q_words := q_w 261 (by decide +kernel) rfl
theorem w_new_X5 : Cond.instantiable RX5 5 ∈ q_words := q_w 262 (by decide +kernel) rfl
theorem wX8_57 : Cond.classLink RX8 57 "ShadowRows$History" ∈ q_words := q_w 285 (by decide +kernel) rfl
theorem w_new_X1 : Cond.instantiable RX1 2 ∈ q_words := q_w 286 (by decide +kernel) rfl
theorem wX1_15 : Cond.classLink RX1 15 "ShadowRows$Field" ∈ q_words := q_w 291 (by decide +kernel) rfl
theorem wL_10 : Cond.classLink RL 10 "ShadowRowsModel" ∈ q_words := q_w 854 (by decide +kernel) rfl
theorem w_new_X9 : Cond.instantiable RX9 17 ∈ q_words := q_w 855 (by decide +kernel) rfl
theorem w_arr_int : Cond.arrayClass .int ∈ q_words := q_w 119 (by decide +kernel) rfl
theorem w_arr_char : Cond.arrayClass .char ∈ q_words := q_w 260 (by decide +kernel) rfl
theorem w_arr_boolean : Cond.arrayClass .boolean ∈ q_words := q_w 330 (by decide +kernel) rfl
theorem wX8_138 : Cond.constant RX8 138 (Int32.ofInt 1000000000) ∈ q_words := q_w 510 (by decide +kernel) rfl
theorem wX8_226 : Cond.constant RX8 226 (Int32.ofInt 1000000) ∈ q_words := q_w 627 (by decide +kernel) rfl
theorem wX6_23 : Cond.constantLong RX6 23 255 ∈ q_words := q_w 687 (by decide +kernel) rfl
theorem wX6_25 : Cond.constantLong RX6 25 33 ∈ q_words := q_w 688 (by decide +kernel) rfl
theorem wX6_27 : Cond.constantLong RX6 27 126 ∈ q_words := q_w 689 (by decide +kernel) rfl
theorem wJ2_227 : Cond.constant RJ2 227 (Int32.ofInt 65536) ∈ q_words := q_w 753 (by decide +kernel) rfl
theorem wJ11_110 : Cond.constant RJ11 110 (Int32.ofInt 55232) ∈ q_words := q_w 792 (by decide +kernel) rfl
theorem wJ11_76 : Cond.constant RJ11 76 (Int32.ofInt 56320) ∈ q_words := q_w 796 (by decide +kernel) rfl
theorem w_arr_byte : Cond.arrayClass .byte ∈ q_words := q_w 821 (by decide +kernel) rfl
theorem wX9_167 : Cond.constant RX9 167 (Int32.ofInt 1000000000) ∈ q_words := q_w 1048 (by decide +kernel) rfl
theorem wX9_186 : Cond.constant RX9 186 (Int32.ofInt 1000000) ∈ q_words := q_w 1143 (by decide +kernel) rfl
theorem wX9_199 : Cond.constantLong RX9 199 255 ∈ q_words := q_w 1170 (by decide +kernel) rfl
theorem wL_87 : Cond.constantLong RL 87 4294967295 ∈ q_words := q_w 1227 (by decide +kernel) rfl
/-- the cells: a field's block, and all of them -/
def q_kF (f : Nat) : List Nat := [0, f + 3, f + 4, f + 5, f + 6, f + 7, 0, f + 8, f + 9, f + 12, 0]
def q_kO (f : Nat) : List Nat := [0, f + 3, f + 4]
def q_blk (f : Nat) : List q_K := [.inl (0, q_kF f), .inr (0, 6), .inr (0, 6), .inr (0, 6), .inr (0, 6), .inr (0, 10), .inr (0, 360), .inl (4, q_kO (f + 7)), .inr (0, 50), .inr (0, 10), .inl (4, q_kO (f + 10)), .inr (0, 50), .inr (0, 10)]
def KC : List q_K := [.inl (8, [3, 16, 21, 22, 27, 29, 31, 124, 151])] ++ q_blk 1 ++ [.inl (2, [3, 0, 17, 18, 19, 20]), .inr (0, 36), .inr (0, 6), .inr (0, 6), .inr (0, 6), .inl (3, [3]), .inl (7, [3, 16, 23, 0, 24, 25, 26]), .inr (0, 15625), .inr (0, 6), .inr (0, 6), .inr (0, 6), .inl (6, [28, 0]), .inr (2, 80), .inl (5, [27, 0, 0, 30, 0]), .inr (0, 5), .inl (1, [0, 32]), .inr (3, 7)] ++
  q_blk 31 ++ q_blk 44 ++ q_blk 57 ++ q_blk 70 ++ q_blk 83 ++ q_blk 96 ++ q_blk 109 ++ [.inr (3, 2)] ++ q_blk 123 ++ q_blk 136 ++ [.inr (1, 2)] ++
  [.inl (9, [153, 154, 0, 155, 156, 157, 0, 158, 159, 160, 0, 0, 0, 0, 0, 0, 0]), .inr (0, 489), .inr (0, 2934), .inr (0, 978), .inr (0, 2), .inr (0, 80), .inr (0, 300), .inr (0, 1800), .inr (0, 6)]
theorem KC_len : KC.length = 159 := by decide +kernel
theorem kc0 : KC[0]? = some (.inl (8, [3, 16, 21, 22, 27, 29, 31, 124, 151])) := by decide +kernel
theorem kc1 : KC[1]? = some (.inl (0, q_kF 1)) := by decide +kernel
theorem kc2 : KC[2]? = some (.inr (0, 6)) := by decide +kernel
theorem kc3 : KC[3]? = some (.inr (0, 6)) := by decide +kernel
theorem kc4 : KC[4]? = some (.inr (0, 6)) := by decide +kernel
theorem kc5 : KC[5]? = some (.inr (0, 6)) := by decide +kernel
theorem kc6 : KC[6]? = some (.inr (0, 10)) := by decide +kernel
theorem kc7 : KC[7]? = some (.inr (0, 360)) := by decide +kernel
theorem kc8 : KC[8]? = some (.inl (4, q_kO 8)) := by decide +kernel
theorem kc9 : KC[9]? = some (.inr (0, 50)) := by decide +kernel
theorem kc10 : KC[10]? = some (.inr (0, 10)) := by decide +kernel
theorem kc11 : KC[11]? = some (.inl (4, q_kO 11)) := by decide +kernel
theorem kc12 : KC[12]? = some (.inr (0, 50)) := by decide +kernel
theorem kc13 : KC[13]? = some (.inr (0, 10)) := by decide +kernel
theorem kc14 : KC[14]? = some (.inl (2, [3, 0, 17, 18, 19, 20])) := by decide +kernel
theorem kc15 : KC[15]? = some (.inr (0, 36)) := by decide +kernel
theorem kc16 : KC[16]? = some (.inr (0, 6)) := by decide +kernel
theorem kc17 : KC[17]? = some (.inr (0, 6)) := by decide +kernel
theorem kc18 : KC[18]? = some (.inr (0, 6)) := by decide +kernel
theorem kc19 : KC[19]? = some (.inl (3, [3])) := by decide +kernel
theorem kc20 : KC[20]? = some (.inl (7, [3, 16, 23, 0, 24, 25, 26])) := by decide +kernel
theorem kc21 : KC[21]? = some (.inr (0, 15625)) := by decide +kernel
theorem kc22 : KC[22]? = some (.inr (0, 6)) := by decide +kernel
theorem kc23 : KC[23]? = some (.inr (0, 6)) := by decide +kernel
theorem kc24 : KC[24]? = some (.inr (0, 6)) := by decide +kernel
theorem kc25 : KC[25]? = some (.inl (6, [28, 0])) := by decide +kernel
theorem kc26 : KC[26]? = some (.inr (2, 80)) := by decide +kernel
theorem kc27 : KC[27]? = some (.inl (5, [27, 0, 0, 30, 0])) := by decide +kernel
theorem kc28 : KC[28]? = some (.inr (0, 5)) := by decide +kernel
theorem kc29 : KC[29]? = some (.inl (1, [0, 32])) := by decide +kernel
theorem kc30 : KC[30]? = some (.inr (3, 7)) := by decide +kernel
theorem kc31 : KC[31]? = some (.inl (0, q_kF 31)) := by decide +kernel
theorem kc32 : KC[32]? = some (.inr (0, 6)) := by decide +kernel
theorem kc33 : KC[33]? = some (.inr (0, 6)) := by decide +kernel
theorem kc34 : KC[34]? = some (.inr (0, 6)) := by decide +kernel
theorem kc35 : KC[35]? = some (.inr (0, 6)) := by decide +kernel
theorem kc36 : KC[36]? = some (.inr (0, 10)) := by decide +kernel
theorem kc37 : KC[37]? = some (.inr (0, 360)) := by decide +kernel
theorem kc38 : KC[38]? = some (.inl (4, q_kO 38)) := by decide +kernel
theorem kc39 : KC[39]? = some (.inr (0, 50)) := by decide +kernel
theorem kc40 : KC[40]? = some (.inr (0, 10)) := by decide +kernel
theorem kc41 : KC[41]? = some (.inl (4, q_kO 41)) := by decide +kernel
theorem kc42 : KC[42]? = some (.inr (0, 50)) := by decide +kernel
theorem kc43 : KC[43]? = some (.inr (0, 10)) := by decide +kernel
theorem kc44 : KC[44]? = some (.inl (0, q_kF 44)) := by decide +kernel
theorem kc45 : KC[45]? = some (.inr (0, 6)) := by decide +kernel
theorem kc46 : KC[46]? = some (.inr (0, 6)) := by decide +kernel
theorem kc47 : KC[47]? = some (.inr (0, 6)) := by decide +kernel
theorem kc48 : KC[48]? = some (.inr (0, 6)) := by decide +kernel
theorem kc49 : KC[49]? = some (.inr (0, 10)) := by decide +kernel
theorem kc50 : KC[50]? = some (.inr (0, 360)) := by decide +kernel
theorem kc51 : KC[51]? = some (.inl (4, q_kO 51)) := by decide +kernel
theorem kc52 : KC[52]? = some (.inr (0, 50)) := by decide +kernel
theorem kc53 : KC[53]? = some (.inr (0, 10)) := by decide +kernel
theorem kc54 : KC[54]? = some (.inl (4, q_kO 54)) := by decide +kernel
theorem kc55 : KC[55]? = some (.inr (0, 50)) := by decide +kernel
theorem kc56 : KC[56]? = some (.inr (0, 10)) := by decide +kernel
theorem kc57 : KC[57]? = some (.inl (0, q_kF 57)) := by decide +kernel
theorem kc58 : KC[58]? = some (.inr (0, 6)) := by decide +kernel
theorem kc59 : KC[59]? = some (.inr (0, 6)) := by decide +kernel
theorem kc60 : KC[60]? = some (.inr (0, 6)) := by decide +kernel
theorem kc61 : KC[61]? = some (.inr (0, 6)) := by decide +kernel
theorem kc62 : KC[62]? = some (.inr (0, 10)) := by decide +kernel
theorem kc63 : KC[63]? = some (.inr (0, 360)) := by decide +kernel
theorem kc64 : KC[64]? = some (.inl (4, q_kO 64)) := by decide +kernel
theorem kc65 : KC[65]? = some (.inr (0, 50)) := by decide +kernel
theorem kc66 : KC[66]? = some (.inr (0, 10)) := by decide +kernel
theorem kc67 : KC[67]? = some (.inl (4, q_kO 67)) := by decide +kernel
theorem kc68 : KC[68]? = some (.inr (0, 50)) := by decide +kernel
theorem kc69 : KC[69]? = some (.inr (0, 10)) := by decide +kernel
theorem kc70 : KC[70]? = some (.inl (0, q_kF 70)) := by decide +kernel
theorem kc71 : KC[71]? = some (.inr (0, 6)) := by decide +kernel
theorem kc72 : KC[72]? = some (.inr (0, 6)) := by decide +kernel
theorem kc73 : KC[73]? = some (.inr (0, 6)) := by decide +kernel
theorem kc74 : KC[74]? = some (.inr (0, 6)) := by decide +kernel
theorem kc75 : KC[75]? = some (.inr (0, 10)) := by decide +kernel
theorem kc76 : KC[76]? = some (.inr (0, 360)) := by decide +kernel
theorem kc77 : KC[77]? = some (.inl (4, q_kO 77)) := by decide +kernel
theorem kc78 : KC[78]? = some (.inr (0, 50)) := by decide +kernel
theorem kc79 : KC[79]? = some (.inr (0, 10)) := by decide +kernel
theorem kc80 : KC[80]? = some (.inl (4, q_kO 80)) := by decide +kernel
theorem kc81 : KC[81]? = some (.inr (0, 50)) := by decide +kernel
theorem kc82 : KC[82]? = some (.inr (0, 10)) := by decide +kernel
theorem kc83 : KC[83]? = some (.inl (0, q_kF 83)) := by decide +kernel
theorem kc84 : KC[84]? = some (.inr (0, 6)) := by decide +kernel
theorem kc85 : KC[85]? = some (.inr (0, 6)) := by decide +kernel
theorem kc86 : KC[86]? = some (.inr (0, 6)) := by decide +kernel
theorem kc87 : KC[87]? = some (.inr (0, 6)) := by decide +kernel
theorem kc88 : KC[88]? = some (.inr (0, 10)) := by decide +kernel
theorem kc89 : KC[89]? = some (.inr (0, 360)) := by decide +kernel
theorem kc90 : KC[90]? = some (.inl (4, q_kO 90)) := by decide +kernel
theorem kc91 : KC[91]? = some (.inr (0, 50)) := by decide +kernel
theorem kc92 : KC[92]? = some (.inr (0, 10)) := by decide +kernel
theorem kc93 : KC[93]? = some (.inl (4, q_kO 93)) := by decide +kernel
theorem kc94 : KC[94]? = some (.inr (0, 50)) := by decide +kernel
theorem kc95 : KC[95]? = some (.inr (0, 10)) := by decide +kernel
theorem kc96 : KC[96]? = some (.inl (0, q_kF 96)) := by decide +kernel
theorem kc97 : KC[97]? = some (.inr (0, 6)) := by decide +kernel
theorem kc98 : KC[98]? = some (.inr (0, 6)) := by decide +kernel
theorem kc99 : KC[99]? = some (.inr (0, 6)) := by decide +kernel
theorem kc100 : KC[100]? = some (.inr (0, 6)) := by decide +kernel
theorem kc101 : KC[101]? = some (.inr (0, 10)) := by decide +kernel
theorem kc102 : KC[102]? = some (.inr (0, 360)) := by decide +kernel
theorem kc103 : KC[103]? = some (.inl (4, q_kO 103)) := by decide +kernel
theorem kc104 : KC[104]? = some (.inr (0, 50)) := by decide +kernel
theorem kc105 : KC[105]? = some (.inr (0, 10)) := by decide +kernel
theorem kc106 : KC[106]? = some (.inl (4, q_kO 106)) := by decide +kernel
theorem kc107 : KC[107]? = some (.inr (0, 50)) := by decide +kernel
theorem kc108 : KC[108]? = some (.inr (0, 10)) := by decide +kernel
theorem kc109 : KC[109]? = some (.inl (0, q_kF 109)) := by decide +kernel
theorem kc110 : KC[110]? = some (.inr (0, 6)) := by decide +kernel
theorem kc111 : KC[111]? = some (.inr (0, 6)) := by decide +kernel
theorem kc112 : KC[112]? = some (.inr (0, 6)) := by decide +kernel
theorem kc113 : KC[113]? = some (.inr (0, 6)) := by decide +kernel
theorem kc114 : KC[114]? = some (.inr (0, 10)) := by decide +kernel
theorem kc115 : KC[115]? = some (.inr (0, 360)) := by decide +kernel
theorem kc116 : KC[116]? = some (.inl (4, q_kO 116)) := by decide +kernel
theorem kc117 : KC[117]? = some (.inr (0, 50)) := by decide +kernel
theorem kc118 : KC[118]? = some (.inr (0, 10)) := by decide +kernel
theorem kc119 : KC[119]? = some (.inl (4, q_kO 119)) := by decide +kernel
theorem kc120 : KC[120]? = some (.inr (0, 50)) := by decide +kernel
theorem kc121 : KC[121]? = some (.inr (0, 10)) := by decide +kernel
theorem kc122 : KC[122]? = some (.inr (3, 2)) := by decide +kernel
theorem kc123 : KC[123]? = some (.inl (0, q_kF 123)) := by decide +kernel
theorem kc124 : KC[124]? = some (.inr (0, 6)) := by decide +kernel
theorem kc125 : KC[125]? = some (.inr (0, 6)) := by decide +kernel
theorem kc126 : KC[126]? = some (.inr (0, 6)) := by decide +kernel
theorem kc127 : KC[127]? = some (.inr (0, 6)) := by decide +kernel
theorem kc128 : KC[128]? = some (.inr (0, 10)) := by decide +kernel
theorem kc129 : KC[129]? = some (.inr (0, 360)) := by decide +kernel
theorem kc130 : KC[130]? = some (.inl (4, q_kO 130)) := by decide +kernel
theorem kc131 : KC[131]? = some (.inr (0, 50)) := by decide +kernel
theorem kc132 : KC[132]? = some (.inr (0, 10)) := by decide +kernel
theorem kc133 : KC[133]? = some (.inl (4, q_kO 133)) := by decide +kernel
theorem kc134 : KC[134]? = some (.inr (0, 50)) := by decide +kernel
theorem kc135 : KC[135]? = some (.inr (0, 10)) := by decide +kernel
theorem kc136 : KC[136]? = some (.inl (0, q_kF 136)) := by decide +kernel
theorem kc137 : KC[137]? = some (.inr (0, 6)) := by decide +kernel
theorem kc138 : KC[138]? = some (.inr (0, 6)) := by decide +kernel
theorem kc139 : KC[139]? = some (.inr (0, 6)) := by decide +kernel
theorem kc140 : KC[140]? = some (.inr (0, 6)) := by decide +kernel
theorem kc141 : KC[141]? = some (.inr (0, 10)) := by decide +kernel
theorem kc142 : KC[142]? = some (.inr (0, 360)) := by decide +kernel
theorem kc143 : KC[143]? = some (.inl (4, q_kO 143)) := by decide +kernel
theorem kc144 : KC[144]? = some (.inr (0, 50)) := by decide +kernel
theorem kc145 : KC[145]? = some (.inr (0, 10)) := by decide +kernel
theorem kc146 : KC[146]? = some (.inl (4, q_kO 146)) := by decide +kernel
theorem kc147 : KC[147]? = some (.inr (0, 50)) := by decide +kernel
theorem kc148 : KC[148]? = some (.inr (0, 10)) := by decide +kernel
theorem kc149 : KC[149]? = some (.inr (1, 2)) := by decide +kernel
theorem kc150 : KC[150]? = some (.inl (9, [153, 154, 0, 155, 156, 157, 0, 158, 159, 160, 0, 0, 0, 0, 0, 0, 0])) := by decide +kernel
theorem kc151 : KC[151]? = some (.inr (0, 489)) := by decide +kernel
theorem kc152 : KC[152]? = some (.inr (0, 2934)) := by decide +kernel
theorem kc153 : KC[153]? = some (.inr (0, 978)) := by decide +kernel
theorem kc154 : KC[154]? = some (.inr (0, 2)) := by decide +kernel
theorem kc155 : KC[155]? = some (.inr (0, 80)) := by decide +kernel
theorem kc156 : KC[156]? = some (.inr (0, 300)) := by decide +kernel
theorem kc157 : KC[157]? = some (.inr (0, 1800)) := by decide +kernel
theorem kc158 : KC[158]? = some (.inr (0, 6)) := by decide +kernel
end
section
/-! the rules for a world given as a pair; what is read gets a name and its range -/
noncomputable def q_B (P : Prop) : Int := @ite Int P (Classical.propDecidable P) 1 0
theorem q_B_t {P : Prop} (h : P) : q_B P = 1 := if_pos h
theorem q_B_f {P : Prop} (h : ¬ P) : q_B P = 0 := if_neg h
theorem q_B_or (P : Prop) : (P ∧ q_B P = 1) ∨ (¬ P ∧ q_B P = 0) := (Classical.em P).elim (fun h => Or.inl ⟨h, q_B_t h⟩) (fun h => Or.inr ⟨h, q_B_f h⟩)
theorem q_B_rg (P : Prop) : q_rg (q_B P) := by rcases q_B_or P with ⟨-, h⟩ | ⟨-, h⟩ <;> rw [h] <;> exact ⟨by decide, by decide⟩
theorem q_B_nar (P : Prop) : narrow .boolean (q_i (q_B P)) = q_i (q_B P) := by rcases q_B_or P with ⟨-, h⟩ | ⟨-, h⟩ <;> rw [h] <;> rfl
theorem q_B_congr {P P' : Prop} (h : P ↔ P') : q_B P = q_B P' := by rw [show P = P' from propext h]
section PR
variable {Γ : q_G} {M M' : q_M} {d d' bc bs pc pc' : Nat} {L : List (Nat × Value)} {st stk As : List Value} {K : List q_K} {S : q_S} {Q Q' : Option Value → q_W → Prop}
theorem q_if_eq_B {P : Prop} {off : Int} {tgt : Nat} {w : q_W} (hd : decode M.2.1 pc = .ok (.ifCond .eq off, 3)) (ht : (pc : Int) + off = (tgt : Int)) (hp : pc + 3 = pc') (kt : ¬ P → q_Go Γ M d bc bs tgt L st w Q) (kf : P → q_Go Γ M d bc bs pc' L st w Q) : q_Go Γ M d bc bs pc L (q_i (q_B P) :: st) w Q :=
  q_if_eq hd ht hp (q_B_rg P) (fun h => kt (fun hP => by rw [q_B_t hP] at h; cases h)) (fun h => kf (Classical.byContradiction fun hP => h (q_B_f hP)))
theorem q_if_ne_B {P : Prop} {off : Int} {tgt : Nat} {w : q_W} (hd : decode M.2.1 pc = .ok (.ifCond .ne off, 3)) (ht : (pc : Int) + off = (tgt : Int)) (hp : pc + 3 = pc') (kt : P → q_Go Γ M d bc bs tgt L st w Q) (kf : ¬ P → q_Go Γ M d bc bs pc' L st w Q) : q_Go Γ M d bc bs pc L (q_i (q_B P) :: st) w Q :=
  q_if_ne hd ht hp (q_B_rg P) (fun h => kt (Classical.byContradiction fun hP => h (q_B_f hP))) (fun h => kf (fun hP => by rw [q_B_t hP] at h; cases h))
/-- a name for the world's numbers -/
theorem q_topS (k : ∀ S' : q_S, S' = S → q_Go Γ M d bc bs pc L st (K, S') Q) : q_Go Γ M d bc bs pc L st (K, S) Q := k S rfl
theorem p_rng (k : (∀ a j, q_rg (S a j)) → q_Go Γ M d bc bs pc L st (K, S) Q) : q_Go Γ M d bc bs pc L st (K, S) Q := q_rng (pc' := pc) k
theorem p_getI {idx ci k a : Nat} {ty : FieldType} {fin : Bool} {fl : List Nat} (hd : decode M.2.1 pc = .ok (.getfield idx, 3)) (hp : pc + 3 = pc') (hF : q_F M.1.cls idx ci k ty fin) (hK : K[a]? = some (.inl (ci, fl))) (hf : fl[k]? = some 0) (kk : ∀ y : Int, y = S a k → q_rg y → q_Go Γ M d bc bs pc' L (q_i y :: st) (K, S) Q) : q_Go Γ M d bc bs pc L (q_r Γ a :: st) (K, S) Q := q_rng (pc' := pc) fun hr => q_getI hd hp hF hK hf (kk _ rfl (hr a k))
theorem p_getR {idx ci k a f : Nat} {ty : FieldType} {fin : Bool} {fl : List Nat} (hd : decode M.2.1 pc = .ok (.getfield idx, 3)) (hp : pc + 3 = pc') (hF : q_F M.1.cls idx ci k ty fin) (hK : K[a]? = some (.inl (ci, fl))) (hf : fl[k]? = some (f + 2)) (kk : q_Go Γ M d bc bs pc' L (q_r Γ f :: st) (K, S) Q) : q_Go Γ M d bc bs pc L (q_r Γ a :: st) (K, S) Q := q_getR hd hp hF hK hf kk
theorem p_putI {idx ci k a : Nat} {ty : FieldType} {fl : List Nat} {z : Int} (hd : decode M.2.1 pc = .ok (.putfield idx, 3)) (hp : pc + 3 = pc') (hF : q_F M.1.cls idx ci k ty false) (hK : K[a]? = some (.inl (ci, fl))) (hf : fl[k]? = some 0) (hn : narrow ty (q_i z) = q_i z) (hfit : fits ty (q_i z) = true) (hz : q_rg z) (kk : q_Go Γ M d bc bs pc' L st (K, q_up S a k z) Q) : q_Go Γ M d bc bs pc L (q_i z :: q_r Γ a :: st) (K, S) Q := q_putI hd hp hF hK hf hn hfit hz kk
/-- any number, in range or not -/
theorem p_any (z : Int) (kk : ∀ y : Int, q_i y = q_i z → q_rg y → (q_rg z → y = z) → q_Go Γ M d bc bs pc L (q_i y :: st) (K, S) Q) : q_Go Γ M d bc bs pc L (q_i z :: st) (K, S) Q := by
  have e : q_i (Int32.ofInt z).toInt = q_i z := by unfold q_i; rw [q_ot]
  rw [← e]
  exact kk _ e (q_rgt _) (fun h => q_ti h)
theorem p_iald {a n : Nat} {z : Int} (hd : decode M.2.1 pc = .ok (.iaload, 1)) (hp : pc + 1 = pc') (hK : K[a]? = some (.inr (0, n))) (h0 : 0 ≤ z) (h1 : z < (n : Int)) (hn : n ≤ 2147483647) (kk : ∀ y : Int, y = S a z → q_rg y → q_Go Γ M d bc bs pc' L (q_i y :: st) (K, S) Q) : q_Go Γ M d bc bs pc L (q_i z :: q_r Γ a :: st) (K, S) Q := q_rng (pc' := pc) fun hr => q_iald hd hp hK h0 h1 hn (kk _ rfl (hr a z))
theorem p_zald {a n : Nat} {z : Int} (hd : decode M.2.1 pc = .ok (.baload, 1)) (hp : pc + 1 = pc') (hK : K[a]? = some (.inr (1, n))) (h0 : 0 ≤ z) (h1 : z < (n : Int)) (hn : n ≤ 2147483647) (kk : ∀ y : Int, y = S a z → q_rg y → q_Go Γ M d bc bs pc' L (q_i y :: st) (K, S) Q) : q_Go Γ M d bc bs pc L (q_i z :: q_r Γ a :: st) (K, S) Q := q_rng (pc' := pc) fun hr => q_zald hd hp hK h0 h1 hn (kk _ rfl (hr a z))
theorem p_cald {a n : Nat} {z : Int} (hd : decode M.2.1 pc = .ok (.caload, 1)) (hp : pc + 1 = pc') (hK : K[a]? = some (.inr (2, n))) (h0 : 0 ≤ z) (h1 : z < (n : Int)) (hn : n ≤ 2147483647) (kk : ∀ y : Int, y = S a z → q_rg y → q_Go Γ M d bc bs pc' L (q_i y :: st) (K, S) Q) : q_Go Γ M d bc bs pc L (q_i z :: q_r Γ a :: st) (K, S) Q := q_rng (pc' := pc) fun hr => q_cald hd hp hK h0 h1 hn (kk _ rfl (hr a z))
theorem p_aald {a n : Nat} {z : Int} (i : Nat) (hd : decode M.2.1 pc = .ok (.aaload, 1)) (hp : pc + 1 = pc') (hK : K[a]? = some (.inr (3, n))) (h0 : 0 ≤ z) (h1 : z < (n : Int)) (hn : n ≤ 2147483647) (h2 : S a z = (i : Int)) (kk : q_Go Γ M d bc bs pc' L (q_r Γ i :: st) (K, S) Q) : q_Go Γ M d bc bs pc L (q_i z :: q_r Γ a :: st) (K, S) Q :=
  q_aald (w := (K, S)) hd hp hK h0 h1 hn (by show 0 ≤ S a z; omega) (by rw [show ((K, S) : q_W).2 a z = (i : Int) from h2]; exact kk)
theorem p_iast {a n : Nat} {z v : Int} (hd : decode M.2.1 pc = .ok (.iastore, 1)) (hp : pc + 1 = pc') (hK : K[a]? = some (.inr (0, n))) (h0 : 0 ≤ z) (h1 : z < (n : Int)) (hn : n ≤ 2147483647) (hv : q_rg v) (kk : q_Go Γ M d bc bs pc' L st (K, q_up S a z v) Q) : q_Go Γ M d bc bs pc L (q_i v :: q_i z :: q_r Γ a :: st) (K, S) Q := q_iast hd hp hK h0 h1 hn hv kk
theorem p_zast {a n : Nat} {z v : Int} (hd : decode M.2.1 pc = .ok (.bastore, 1)) (hp : pc + 1 = pc') (hK : K[a]? = some (.inr (1, n))) (h0 : 0 ≤ z) (h1 : z < (n : Int)) (hn : n ≤ 2147483647) (hv : v = 0 ∨ v = 1) (kk : q_Go Γ M d bc bs pc' L st (K, q_up S a z v) Q) : q_Go Γ M d bc bs pc L (q_i v :: q_i z :: q_r Γ a :: st) (K, S) Q := q_zast hd hp hK h0 h1 hn hv kk
theorem p_cast {a n : Nat} {z v : Int} (hd : decode M.2.1 pc = .ok (.castore, 1)) (hp : pc + 1 = pc') (hK : K[a]? = some (.inr (2, n))) (h0 : 0 ≤ z) (h1 : z < (n : Int)) (hn : n ≤ 2147483647) (hv0 : 0 ≤ v) (hv1 : v < 65536) (kk : q_Go Γ M d bc bs pc' L st (K, q_up S a z v) Q) : q_Go Γ M d bc bs pc L (q_i v :: q_i z :: q_r Γ a :: st) (K, S) Q := q_cast hd hp hK h0 h1 hn hv0 hv1 kk
theorem p_aast {a n i : Nat} {z : Int} {fl : List Nat} (hd : decode M.2.1 pc = .ok (.aastore, 1)) (hp : pc + 1 = pc') (hK : K[a]? = some (.inr (3, n))) (h0 : 0 ≤ z) (h1 : z < (n : Int)) (hn : n ≤ 2147483647) (hi : K[i]? = some (.inl (0, fl))) (hi2 : i ≤ 2147483647) (kk : q_Go Γ M d bc bs pc' L st (K, q_up S a z i) Q) : q_Go Γ M d bc bs pc L (q_r Γ i :: q_i z :: q_r Γ a :: st) (K, S) Q := q_aast hd hp hK h0 h1 hn hi hi2 kk
theorem p_alen {a t n : Nat} (hd : decode M.2.1 pc = .ok (.arraylength, 1)) (hp : pc + 1 = pc') (ht : t < 4) (hK : K[a]? = some (.inr (t, n))) (kk : q_Go Γ M d bc bs pc' L (q_i n :: st) (K, S) Q) : q_Go Γ M d bc bs pc L (q_r Γ a :: st) (K, S) Q := q_alen hd hp ht hK kk
theorem p_tald {i : Nat} {z : Int} {w : q_W} (hd : decode M.2.1 pc = .ok (.iaload, 1)) (hp : pc + 1 = pc') (hi : i < 4) (h0 : 0 ≤ z) (h1 : z < ((q_tab Γ i).1 : Int)) (h2 : z ≤ 2147483647) (kk : ∀ y : Int, y = (q_tab Γ i).2 z.toNat → q_Go Γ M d bc bs pc' L (q_i y :: st) w Q) : q_Go Γ M d bc bs pc L (q_i z :: .ref (q_ad Γ i) :: st) w Q := q_tald hd hp hi h0 h1 h2 (kk _ rfl)
theorem p_copy {idx a0 a n0 n1 : Nat} {sp dp n : Int} (hd : decode M.2.1 pc = .ok (.invokestatic idx, 3)) (hp : pc + 3 = pc') (hlk : Cond.methodLink M.1.cls idx arraycopyName ∈ q_words) (hd1 : 1 ≤ d) (hcat : (st.map fun v => v.category).sum ≤ 8)
    (hK0 : K[a0]? = some (.inr (0, n0))) (hK1 : K[a]? = some (.inr (0, n1))) (h1 : 0 ≤ sp) (h2 : 0 ≤ dp) (h3 : 0 ≤ n) (h4 : sp + n ≤ (n0 : Int)) (h5 : dp + n ≤ (n1 : Int)) (h6 : n0 ≤ 2147483647) (h7 : n1 ≤ 2147483647)
    (kk : q_Go Γ M d bc bs pc' L st (K, q_cp S a0 a sp dp n) Q) : q_Go Γ M d bc bs pc L (q_i n :: q_i dp :: q_r Γ a :: q_i sp :: q_r Γ a0 :: st) (K, S) Q := q_copy hd hp hlk w_native w_copyS w_sys hd1 hcat hK0 hK1 h1 h2 h3 h4 h5 h6 h7 kk
theorem p_max {idx : Nat} {a b : Int} {w : q_W} (hd : decode M.2.1 pc = .ok (.invokestatic idx, 3)) (hp : pc + 3 = pc') (hlk : Cond.methodLink M.1.cls idx Lib.Math.max.name ∈ q_words) (hd1 : 1 ≤ d) (hcat : (st.map fun v => v.category).sum ≤ 8) (ra : q_rg a) (rb : q_rg b) (k : ∀ y : Int, y = max a b → q_Go Γ M d bc bs pc' L (q_i y :: st) w Q) : q_Go Γ M d bc bs pc L (q_i b :: q_i a :: st) w Q := q_max hd hp hlk w_maxS w_math w_maxC hd1 hcat ra rb (k _ rfl)
theorem p_min {idx : Nat} {a b : Int} {w : q_W} (hd : decode M.2.1 pc = .ok (.invokestatic idx, 3)) (hp : pc + 3 = pc') (hlk : Cond.methodLink M.1.cls idx Lib.Math.min.name ∈ q_words) (hd1 : 1 ≤ d) (hcat : (st.map fun v => v.category).sum ≤ 8) (ra : q_rg a) (rb : q_rg b) (k : ∀ y : Int, y = min a b → q_Go Γ M d bc bs pc' L (q_i y :: st) w Q) : q_Go Γ M d bc bs pc L (q_i b :: q_i a :: st) w Q := q_min hd hp hlk w_minS w_math w_minC hd1 hcat ra rb (k _ rfl)
/-- returns of what is due -/
theorem p_iret {z z0 : Int} {w w0 : q_W} (hd : decode M.2.1 pc = .ok (.ireturn, 1)) (hr : M.2.2.2 = some .int) (hz : z = z0) (hw : w = w0) : q_Go Γ M d bc bs pc L [q_i z] w (q_ev (some (q_i z0)) w0) := q_iret hd hr rfl ⟨by rw [hz], hw⟩
theorem p_zret {P : Prop} {z : Int} {w w0 : q_W} (hd : decode M.2.1 pc = .ok (.ireturn, 1)) (hr : M.2.2.2 = some .boolean) (hz : z = q_B P) (hw : w = w0) : q_Go Γ M d bc bs pc L [q_i z] w (q_ev (some (q_i (q_B P))) w0) := by
  subst hz
  exact q_iret hd hr (q_B_nar P) ⟨rfl, hw⟩
theorem p_vret {w w0 : q_W} (hd : decode M.2.1 pc = .ok (.return_, 1)) (hr : M.2.2.2 = none) (hw : w = w0) : q_Go Γ M d bc bs pc L [] w (q_ev none w0) := q_vret hd hr ⟨rfl, hw⟩
end PR
section PT
variable {Γ : q_G} {M : q_M} {d bc bs pc : Nat} {L : List (Nat × Value)} {st : List Value} {w : q_W} {Q : Option Value → q_W → Prop}
theorem p_top {z : Int} (k : ∀ y : Int, y = z → q_Go Γ M d bc bs pc L (q_i y :: st) w Q) : q_Go Γ M d bc bs pc L (q_i z :: st) w Q := k z rfl
theorem p_topL {z : Int64} (k : ∀ y : Int64, y = z → q_Go Γ M d bc bs pc L (.long y :: st) w Q) : q_Go Γ M d bc bs pc L (.long z :: st) w Q := k z rfl
theorem p_sub {L' : List (Nat × Value)} (ks : List Nat) (hL : lv_pick L ks = L') (k : q_Go Γ M d bc bs pc L' st w Q) : q_Go Γ M d bc bs pc L st w Q := q_sub (pc' := pc) ks hL k
end PT
end
section
/-! what a field of rows is, as a function φ of places (the reference's one row of numbers), and what is asked of it -/
theorem q_mulb {a b A B : Int} (h0 : 0 ≤ a) (h1 : a ≤ A) (h2 : 0 ≤ b) (h3 : b ≤ B) : 0 ≤ a * b ∧ a * b ≤ A * B :=
  ⟨Int.mul_nonneg h0 h2, Int.mul_le_mul h1 h3 h2 (by omega)⟩
noncomputable def q_if (P : Prop) (x y : Int) : Int := @ite Int P (Classical.propDecidable P) x y
theorem q_if_t {P : Prop} {x y : Int} (h : P) : q_if P x y = x := if_pos h
theorem q_if_f {P : Prop} {x y : Int} (h : ¬ P) : q_if P x y = y := if_neg h
def q_sum (f : Int → Int) : Nat → Int
  | 0 => 0
  | n + 1 => q_sum f n + f n
theorem q_sum_s {f : Int → Int} {k : Int} (h : 0 ≤ k) : q_sum f (k + 1).toNat = q_sum f k.toNat + f k := by
  rw [show (k + 1).toNat = k.toNat + 1 by omega]
  show _ + f (k.toNat : Int) = _
  rw [Int.toNat_of_nonneg h]
theorem q_sum_c {f g : Int → Int} {n : Nat} (h : ∀ k : Int, 0 ≤ k → k < n → f k = g k) : q_sum f n = q_sum g n := by
  induction n with
  | zero => rfl
  | succ n ih =>
    show q_sum f n + f n = q_sum g n + g n
    rw [ih (fun k h0 h1 => h k h0 (by omega)), h n (by omega) (by omega)]
theorem q_sum_b {f : Int → Int} {n : Nat} {A : Int} (h : ∀ k : Int, 0 ≤ k → k < n → 0 ≤ f k ∧ f k ≤ A) : 0 ≤ q_sum f n ∧ q_sum f n ≤ A * n := by
  induction n with
  | zero => exact ⟨by simp [q_sum], by simp [q_sum]⟩
  | succ n ih =>
    have h1 := ih (fun k h0 h1 => h k h0 (by omega))
    have h2 := h n (by omega) (by omega)
    have e : A * ((n + 1 : Nat) : Int) = A * n + A := by rw [Int.natCast_succ, Int.mul_add, Int.mul_one]
    show 0 ≤ q_sum f n + f n ∧ q_sum f n + f n ≤ A * ((n + 1 : Nat) : Int)
    rw [e]
    omega
def s_pt (φ : Int → Int) (r p : Int) : Int := φ (15 + 4 * r + p)
def s_rt (φ : Int → Int) (a b h : Int) : Int := φ (39 + 10 * (6 * a + b) + h)
def s_as (φ : Int → Int) (i p : Int) : Int := φ (399 + 4 * i + p)
def s_bd (φ : Int → Int) (i p : Int) : Int := φ (439 + 5 * i + p)
/-- all numbers where they must be -/
def s_ok (φ : Int → Int) : Prop := (0 ≤ φ 0 ∧ φ 0 ≤ 6) ∧ (1 ≤ φ 1 ∧ φ 1 ≤ 10) ∧ (0 ≤ φ 3 ∧ φ 3 ≤ 10) ∧ (0 ≤ φ 4 ∧ φ 4 ≤ 10) ∧ (∀ h, 0 ≤ h → h < 10 → 0 ≤ φ (5 + h) ∧ φ (5 + h) ≤ 9) ∧
  (∀ r, 0 ≤ r → r < 6 → (0 ≤ s_pt φ r 0 ∧ s_pt φ r 0 ≤ 200) ∧ (0 ≤ s_pt φ r 1 ∧ s_pt φ r 1 ≤ 20) ∧ (0 ≤ s_pt φ r 2 ∧ s_pt φ r 2 ≤ 4)) ∧
  (∀ a b h, 0 ≤ a → a < 6 → 0 ≤ b → b < 6 → 0 ≤ h → h < 10 → 0 ≤ s_rt φ a b h ∧ s_rt φ a b h ≤ 999) ∧
  (∀ i, 0 ≤ i → i < 10 → (0 ≤ s_as φ i 0 ∧ s_as φ i 0 ≤ 5) ∧ (0 ≤ s_as φ i 1 ∧ s_as φ i 1 ≤ 9) ∧ (0 ≤ s_as φ i 2 ∧ s_as φ i 2 ≤ 200) ∧ (0 ≤ s_as φ i 3 ∧ s_as φ i 3 ≤ 999)) ∧
  (∀ i, 0 ≤ i → i < 10 → (0 ≤ s_bd φ i 0 ∧ s_bd φ i 0 ≤ 5) ∧ (0 ≤ s_bd φ i 1 ∧ s_bd φ i 1 ≤ 9) ∧ (0 ≤ s_bd φ i 2 ∧ s_bd φ i 2 ≤ 200) ∧ (0 ≤ s_bd φ i 3 ∧ s_bd φ i 3 ≤ 999) ∧ (0 ≤ s_bd φ i 4 ∧ s_bd φ i 4 ≤ 5))
def s_slope (h : Int) : Int := if (if h < 5 then h else 9 - h) = 0 then 6 else 5 - (if h < 5 then h else 9 - h)
def s_sun (h : Int) : Int := if h < 5 then h + 1 else 10 - h
def s_dist (φ : Int → Int) (a b h : Int) : Int := if h < 5 then s_pt φ b 0 - s_pt φ a 0 else s_pt φ a 0 - s_pt φ b 0
def s_loss (φ : Int → Int) (a b h : Int) : Int := (2 * s_dist φ a b h + s_slope h - 1) / s_slope h
def s_sh (φ : Int → Int) (a t b h : Int) : Int := if s_dist φ a b h ≤ 0 then 0 else max 0 (s_pt φ a 1 * t - s_loss φ a b h)
def s_flat (φ : Int → Int) (h : Int) : Prop := φ 1 ≤ φ (5 + h)
def s_keeps (φ : Int → Int) (a t h : Int) : Prop := ∀ b, 0 ≤ b → b < φ 0 → b = a ∨ s_sh φ a t b h ≤ s_rt φ a b h
/-- the greatest number up to n, above 0, with P; 0 if there is none -/
noncomputable def s_dn (P : Int → Prop) : Nat → Int
  | 0 => 0
  | n + 1 => q_if (P ((n : Int) + 1)) ((n : Int) + 1) (s_dn P n)
theorem s_dn_b (P : Int → Prop) (n : Nat) : 0 ≤ s_dn P n ∧ s_dn P n ≤ n := by
  induction n with
  | zero => exact ⟨by simp [s_dn], by simp [s_dn]⟩
  | succ n ih =>
    by_cases h : P ((n : Int) + 1)
    · rw [show s_dn P (n + 1) = (n : Int) + 1 from q_if_t h]; omega
    · rw [show s_dn P (n + 1) = s_dn P n from q_if_f h]; omega
theorem s_dn_t {P : Int → Prop} {t : Int} (h0 : 0 < t) (h : P t) : s_dn P t.toNat = t := by
  obtain ⟨n, rfl⟩ : ∃ n : Nat, t = (n : Int) + 1 := ⟨(t - 1).toNat, by omega⟩
  rw [show ((n : Int) + 1).toNat = n + 1 by omega]
  exact q_if_t h
theorem s_dn_f {P : Int → Prop} {t : Int} (h0 : 0 < t) (h : ¬ P t) : s_dn P t.toNat = s_dn P (t - 1).toNat := by
  obtain ⟨n, rfl⟩ : ∃ n : Nat, t = (n : Int) + 1 := ⟨(t - 1).toNat, by omega⟩
  rw [show ((n : Int) + 1).toNat = n + 1 by omega, show ((n : Int) + 1 - 1).toNat = n by omega]
  exact q_if_f h
noncomputable def s_ti (φ : Int → Int) (r own h : Int) : Int := q_if (s_flat φ h) 0 (s_dn (fun t => s_keeps φ r t h) own.toNat)
theorem s_ti_b {φ : Int → Int} {r own h : Int} (h0 : 0 ≤ own) : 0 ≤ s_ti φ r own h ∧ s_ti φ r own h ≤ own := by
  have h1 := s_dn_b (fun t => s_keeps φ r t h) own.toNat
  by_cases hf : s_flat φ h
  · rw [show s_ti φ r own h = 0 from q_if_t hf]; omega
  · rw [show s_ti φ r own h = s_dn (fun t => s_keeps φ r t h) own.toNat from q_if_f hf]; omega
noncomputable def s_he (φ : Int → Int) (r h : Int) : Int := s_pt φ r 1 * s_ti φ r (s_pt φ r 2) h
noncomputable def s_si (φ : Int → Int) (a b h : Int) : Int := s_sh φ a (s_ti φ a (s_pt φ a 2) h) b h
def s_far (φ : Int → Int) (a b : Int) : Int := if s_pt φ a 0 - s_pt φ b 0 < 0 then -(s_pt φ a 0 - s_pt φ b 0) else s_pt φ a 0 - s_pt φ b 0
noncomputable def s_up (φ : Int → Int) (r h a : Int) : Int := if a = r then 0 else s_si φ a r h
def s_more (φ : Int → Int) (r a up best most : Int) : Prop := most < up ∨ (0 < up ∧ up = most ∧ s_far φ a r < s_far φ best r)
/-- the row to blame so far, and the height of its shadow -/
noncomputable def s_bN (φ : Int → Int) (r h : Int) : Nat → Int × Int
  | 0 => (-6, 0)
  | n + 1 => (q_if (s_more φ r n (s_up φ r h n) (s_bN φ r h n).1 (s_bN φ r h n).2) n (s_bN φ r h n).1, q_if (s_more φ r n (s_up φ r h n) (s_bN φ r h n).1 (s_bN φ r h n).2) (s_up φ r h n) (s_bN φ r h n).2)
noncomputable def s_bl (φ : Int → Int) (r h : Int) : Int := (s_bN φ r h (φ 0).toNat).1
noncomputable def s_shd (φ : Int → Int) (r h : Int) : Int := min (if s_bl φ r h = -6 then 0 else s_si φ (s_bl φ r h) r h) (s_he φ r h)
noncomputable def s_y (φ : Int → Int) (r h : Int) : Int := (s_he φ r h - s_shd φ r h) * s_sun h + s_pt φ r 1
noncomputable def s_yo (φ : Int → Int) (r : Int) : Int := q_sum (s_y φ r) 10
noncomputable def s_all (φ : Int → Int) : Int := q_sum (s_yo φ) (φ 0).toNat
def s_taken (φ : Int → Int) (p : Int) : Prop := ∃ r, 0 ≤ r ∧ r < φ 0 ∧ s_pt φ r 0 = p
noncomputable def s_full (φ : Int → Int) (r : Int) : Int := q_sum (fun h => s_he φ r h * s_sun h + s_pt φ r 1) 10
noncomputable def s_low (φ : Int → Int) (r : Int) : Int := q_sum (fun h => q_B (¬ s_flat φ h ∧ s_ti φ r (s_pt φ r 2) h < s_pt φ r 2)) 10
noncomputable def s_shh (φ : Int → Int) (r : Int) : Int := q_sum (fun h => q_B (0 < s_shd φ r h)) 10
noncomputable def s_blh (φ : Int → Int) (r a : Int) : Int := q_sum (fun h => q_B (s_bl φ r h = a)) 10
noncomputable def s_mbN (φ : Int → Int) (r : Int) : Nat → Int × Int
  | 0 => (-6, 0)
  | n + 1 => (q_if ((s_mbN φ r n).2 < s_blh φ r n) n (s_mbN φ r n).1, q_if ((s_mbN φ r n).2 < s_blh φ r n) (s_blh φ r n) (s_mbN φ r n).2)
noncomputable def s_mb (φ : Int → Int) (r : Int) : Int := (s_mbN φ r (φ 0).toNat).1
/-! how great they are -/
theorem s_slope_b {h : Int} (h0 : 0 ≤ h) (h1 : h < 10) : 1 ≤ s_slope h ∧ s_slope h ≤ 6 := by
  unfold s_slope
  repeat' split
  all_goals omega
theorem s_sun_b {h : Int} (h0 : 0 ≤ h) (h1 : h < 10) : 1 ≤ s_sun h ∧ s_sun h ≤ 5 := by
  unfold s_sun
  split <;> omega
theorem s_dist_b {φ : Int → Int} (ok : s_ok φ) {a b : Int} (h : Int) (ha0 : 0 ≤ a) (ha : a < 6) (hb0 : 0 ≤ b) (hb : b < 6) : -200 ≤ s_dist φ a b h ∧ s_dist φ a b h ≤ 200 := by
  obtain ⟨-, -, -, -, -, hr, -⟩ := ok
  have h1 := (hr a ha0 ha).1
  have h2 := (hr b hb0 hb).1
  unfold s_dist
  split <;> omega
theorem s_loss_b {φ : Int → Int} (ok : s_ok φ) {a b h : Int} (ha0 : 0 ≤ a) (ha : a < 6) (hb0 : 0 ≤ b) (hb : b < 6) (h0 : 0 ≤ h) (h1 : h < 10) (hd : 0 < s_dist φ a b h) : 0 ≤ s_loss φ a b h ∧ s_loss φ a b h ≤ 405 := by
  have h2 := s_dist_b ok h ha0 ha hb0 hb
  have h3 := s_slope_b h0 h1
  unfold s_loss
  have h4 : (2 * s_dist φ a b h + s_slope h - 1) / s_slope h ≤ 2 * s_dist φ a b h + s_slope h - 1 := Int.ediv_le_self _ (by omega)
  have h5 : 0 ≤ (2 * s_dist φ a b h + s_slope h - 1) / s_slope h := Int.ediv_nonneg (by omega) (by omega)
  omega
theorem s_sh_b {φ : Int → Int} (ok : s_ok φ) {a t b h : Int} (ha0 : 0 ≤ a) (ha : a < 6) (ht0 : 0 ≤ t) (ht : t ≤ 4) (hb0 : 0 ≤ b) (hb : b < 6) (h0 : 0 ≤ h) (h1 : h < 10) : 0 ≤ s_sh φ a t b h ∧ s_sh φ a t b h ≤ 80 := by
  have h2 := (ok.2.2.2.2.2.1 a ha0 ha).2.1
  have h3 := q_mulb h2.1 h2.2 ht0 ht
  unfold s_sh
  split
  · omega
  · have h4 := s_loss_b ok ha0 ha hb0 hb h0 h1 (by omega)
    omega
theorem s_rows_b {φ : Int → Int} (ok : s_ok φ) : 0 ≤ φ 0 ∧ φ 0 ≤ 6 := ok.1
theorem s_pt_b {φ : Int → Int} (ok : s_ok φ) {r : Int} (h0 : 0 ≤ r) (h1 : r < 6) : (0 ≤ s_pt φ r 0 ∧ s_pt φ r 0 ≤ 200) ∧ (0 ≤ s_pt φ r 1 ∧ s_pt φ r 1 ≤ 20) ∧ (0 ≤ s_pt φ r 2 ∧ s_pt φ r 2 ≤ 4) := ok.2.2.2.2.2.1 r h0 h1
theorem s_rt_b {φ : Int → Int} (ok : s_ok φ) {a b h : Int} (ha0 : 0 ≤ a) (ha : a < 6) (hb0 : 0 ≤ b) (hb : b < 6) (h0 : 0 ≤ h) (h1 : h < 10) : 0 ≤ s_rt φ a b h ∧ s_rt φ a b h ≤ 999 := ok.2.2.2.2.2.2.1 a b h ha0 ha hb0 hb h0 h1
theorem s_tio_b {φ : Int → Int} (ok : s_ok φ) {r : Int} (h : Int) (h0 : 0 ≤ r) (h1 : r < 6) : 0 ≤ s_ti φ r (s_pt φ r 2) h ∧ s_ti φ r (s_pt φ r 2) h ≤ 4 := by
  have h2 := (s_pt_b ok h0 h1).2.2
  have h3 := s_ti_b (φ := φ) (r := r) (h := h) h2.1
  omega
theorem s_he_b {φ : Int → Int} (ok : s_ok φ) {r : Int} (h : Int) (h0 : 0 ≤ r) (h1 : r < 6) : 0 ≤ s_he φ r h ∧ s_he φ r h ≤ 80 := by
  have h2 := (s_pt_b ok h0 h1).2.1
  have h3 := s_tio_b ok h h0 h1
  exact q_mulb h2.1 h2.2 h3.1 h3.2
theorem s_si_b {φ : Int → Int} (ok : s_ok φ) {a b h : Int} (ha0 : 0 ≤ a) (ha : a < 6) (hb0 : 0 ≤ b) (hb : b < 6) (h0 : 0 ≤ h) (h1 : h < 10) : 0 ≤ s_si φ a b h ∧ s_si φ a b h ≤ 80 := by
  have h3 := s_tio_b ok h ha0 ha
  exact s_sh_b ok ha0 ha h3.1 h3.2 hb0 hb h0 h1
theorem s_up_b {φ : Int → Int} (ok : s_ok φ) {a r h : Int} (ha0 : 0 ≤ a) (ha : a < 6) (hb0 : 0 ≤ r) (hb : r < 6) (h0 : 0 ≤ h) (h1 : h < 10) : 0 ≤ s_up φ r h a ∧ s_up φ r h a ≤ 80 := by
  have h3 := s_si_b ok ha0 ha hb0 hb h0 h1
  unfold s_up
  split <;> omega
theorem s_bN_b {φ : Int → Int} (ok : s_ok φ) {r h : Int} (hb0 : 0 ≤ r) (hb : r < 6) (h0 : 0 ≤ h) (h1 : h < 10) (n : Nat) (hn : (n : Int) ≤ φ 0) : (0 ≤ (s_bN φ r h n).2 ∧ (s_bN φ r h n).2 ≤ 80) ∧ (((s_bN φ r h n).1 = -6 ∧ (s_bN φ r h n).2 = 0) ∨ (0 ≤ (s_bN φ r h n).1 ∧ (s_bN φ r h n).1 < n ∧ 0 < (s_bN φ r h n).2 ∧ (s_bN φ r h n).2 = s_up φ r h (s_bN φ r h n).1)) := by
  induction n with
  | zero => simp [s_bN]
  | succ n ih =>
    have hr := s_rows_b ok
    have ih := ih (by omega)
    have hu := s_up_b ok (a := n) (by omega) (by omega) hb0 hb h0 h1
    by_cases hm : s_more φ r n (s_up φ r h n) (s_bN φ r h n).1 (s_bN φ r h n).2
    · rw [show s_bN φ r h (n + 1) = ((n : Int), s_up φ r h n) from Prod.ext (q_if_t hm) (q_if_t hm)]
      refine ⟨hu, Or.inr ⟨by show 0 ≤ (n : Int); omega, by show (n : Int) < ((n + 1 : Nat) : Int); omega, ?_, rfl⟩⟩
      show 0 < s_up φ r h n
      rcases hm with hm | hm
      · omega
      · exact hm.1
    · rw [show s_bN φ r h (n + 1) = s_bN φ r h n from Prod.ext (q_if_f hm) (q_if_f hm)]
      refine ⟨ih.1, ih.2.elim Or.inl (fun q => Or.inr ⟨q.1, by omega, q.2.2.1, q.2.2.2⟩)⟩
theorem s_bl_b {φ : Int → Int} (ok : s_ok φ) {r h : Int} (hb0 : 0 ≤ r) (hb : r < 6) (h0 : 0 ≤ h) (h1 : h < 10) : s_bl φ r h = -6 ∨ (0 ≤ s_bl φ r h ∧ s_bl φ r h < φ 0) := by
  have hr := s_rows_b ok
  have h2 := s_bN_b ok hb0 hb h0 h1 (φ 0).toNat (by omega)
  rcases h2.2 with q | q
  · exact Or.inl q.1
  · exact Or.inr ⟨q.1, by have := q.2.1; show (s_bN φ r h (φ 0).toNat).1 < φ 0; omega⟩
theorem s_shd_b {φ : Int → Int} (ok : s_ok φ) {r h : Int} (hb0 : 0 ≤ r) (hb : r < 6) (h0 : 0 ≤ h) (h1 : h < 10) : 0 ≤ s_shd φ r h ∧ s_shd φ r h ≤ s_he φ r h := by
  have hr := s_rows_b ok
  have h2 := s_bl_b ok hb0 hb h0 h1
  have h3 := s_he_b ok h hb0 hb
  unfold s_shd
  split
  · omega
  · have h4 := s_si_b ok (a := s_bl φ r h) (by omega) (by omega) hb0 hb h0 h1
    omega
theorem s_y_b {φ : Int → Int} (ok : s_ok φ) {r h : Int} (hb0 : 0 ≤ r) (hb : r < 6) (h0 : 0 ≤ h) (h1 : h < 10) : 0 ≤ s_y φ r h ∧ s_y φ r h ≤ 420 := by
  have h2 := s_shd_b ok hb0 hb h0 h1
  have h3 := s_he_b ok h hb0 hb
  have h4 := s_sun_b h0 h1
  have h5 := q_mulb (a := s_he φ r h - s_shd φ r h) (b := s_sun h) (A := 80) (B := 5) (by omega) (by omega) (by omega) (by omega)
  have h6 := (s_pt_b ok hb0 hb).2.1
  unfold s_y
  omega
theorem s_yo_b {φ : Int → Int} (ok : s_ok φ) {r : Int} (hb0 : 0 ≤ r) (hb : r < 6) : 0 ≤ s_yo φ r ∧ s_yo φ r ≤ 4200 :=
  q_sum_b (A := 420) (n := 10) (fun k h0 h1 => s_y_b ok hb0 hb h0 (by omega))
theorem s_all_b {φ : Int → Int} (ok : s_ok φ) : 0 ≤ s_all φ ∧ s_all φ ≤ 25200 := by
  have hr := s_rows_b ok
  have h := q_sum_b (f := s_yo φ) (A := 4200) (n := (φ 0).toNat) (fun k h0 h1 => s_yo_b ok h0 (by omega))
  have e : s_all φ = q_sum (s_yo φ) (φ 0).toNat := rfl
  rw [e]
  have h2 : ((φ 0).toNat : Int) ≤ 6 := by omega
  omega
end
section
set_option maxRecDepth 20000 in
set_option maxHeartbeats 4000000 in
theorem c_X9_within {Γ : q_G} {K : List q_K} {S : q_S} {v l h : Int} (hv : q_rg v) (hl : q_rg l) (hh : q_rg h) : q_Sp Γ mX9_within 0 0 0 [q_i v, q_i l, q_i h] (K, S) (q_ev (some (q_i (q_B (l ≤ v ∧ v ≤ h)))) (K, S)) := by
  show q_Go Γ mX9_within 0 0 0 0 [(0, q_i v), (1, q_i l), (2, q_i h)] [] (K, S) (q_ev (some (q_i (q_B (l ≤ v ∧ v ≤ h)))) (K, S))
  refine q_iloadn (pc' := 1) 0 dX9_within_0 rfl rfl ?_
  refine q_iloadn (pc' := 2) 1 dX9_within_1 rfl rfl ?_
  refine q_icmp_lt (tgt := 14) (pc' := 5) dX9_within_2 rfl rfl (by omega) (by omega) (fun c2 => ?_) (fun c2 => ?_)
  · refine q_iconst (pc' := 15) dX9_within_14 rfl ?_
    refine p_zret dX9_within_15 rfl ?_ ?_
    · first | (rw [q_B_t ⟨by omega, by omega⟩]; done) | (rw [q_B_f (by omega)]; done)
    · rfl
  · refine q_iloadn (pc' := 6) 0 dX9_within_5 rfl rfl ?_
    refine q_iloadn (pc' := 7) 2 dX9_within_6 rfl rfl ?_
    refine q_icmp_gt (tgt := 14) (pc' := 10) dX9_within_7 rfl rfl (by omega) (by omega) (fun c7 => ?_) (fun c7 => ?_)
    · refine q_iconst (pc' := 15) dX9_within_14 rfl ?_
      refine p_zret dX9_within_15 rfl ?_ ?_
      · first | (rw [q_B_t ⟨by omega, by omega⟩]; done) | (rw [q_B_f (by omega)]; done)
      · rfl
    · refine q_iconst (pc' := 11) dX9_within_10 rfl ?_
      refine q_goto (pc' := 15) dX9_within_11 rfl ?_
      refine p_zret dX9_within_15 rfl ?_ ?_
      · first | (rw [q_B_t ⟨by omega, by omega⟩]; done) | (rw [q_B_f (by omega)]; done)
      · rfl
set_option maxRecDepth 20000 in
set_option maxHeartbeats 4000000 in
theorem c_X9_part {Γ : q_G} {S : q_S} {r p : Int} (r0 : 0 ≤ 15 + 4 * r + p) (r1 : 15 + 4 * r + p < 489) : q_Sp Γ mX9_part 0 0 0 [q_r Γ 150, q_i r, q_i p] (KC, S) (q_ev (some (q_i (s_pt (S 151) r p))) (KC, S)) := by
  show q_Go Γ mX9_part 0 0 0 0 [(0, q_r Γ 150), (1, q_i r), (2, q_i p)] [] (KC, S) (q_ev (some (q_i (s_pt (S 151) r p))) (KC, S))
  refine q_aloadn (pc' := 1) 0 dX9_part_0 rfl rfl ?_
  refine p_getR (pc' := 4) (f := 151) dX9_part_1 rfl fX9_7 kc150 rfl ?_
  refine q_bipush (pc' := 6) dX9_part_4 rfl rfl ?_
  refine q_iconst (pc' := 7) dX9_part_6 rfl ?_
  refine q_iloadn (pc' := 8) 1 dX9_part_7 rfl rfl ?_
  refine q_imul (pc' := 9) dX9_part_8 rfl ?_
  refine q_iadd (pc' := 10) dX9_part_9 rfl ?_
  refine q_iloadn (pc' := 11) 2 dX9_part_10 rfl rfl ?_
  refine q_iadd (pc' := 12) dX9_part_11 rfl ?_
  refine p_iald (pc' := 13) dX9_part_12 rfl kc151 (by omega) (by omega) (by decide) (fun y12 ey12 ry12 => ?_)
  refine p_iret dX9_part_13 rfl ?_ ?_
  · assumption
  · rfl
set_option maxRecDepth 20000 in
set_option maxHeartbeats 4000000 in
theorem c_X9_rightOf {Γ : q_G} {S : q_S} {a b h : Int} (r0 : 0 ≤ 39 + 10 * (6 * a + b) + h) (r1 : 39 + 10 * (6 * a + b) + h < 489) : q_Sp Γ mX9_rightOf 0 0 0 [q_r Γ 150, q_i a, q_i b, q_i h] (KC, S) (q_ev (some (q_i (s_rt (S 151) a b h))) (KC, S)) := by
  show q_Go Γ mX9_rightOf 0 0 0 0 [(0, q_r Γ 150), (1, q_i a), (2, q_i b), (3, q_i h)] [] (KC, S) (q_ev (some (q_i (s_rt (S 151) a b h))) (KC, S))
  refine q_aloadn (pc' := 1) 0 dX9_rightOf_0 rfl rfl ?_
  refine p_getR (pc' := 4) (f := 151) dX9_rightOf_1 rfl fX9_7 kc150 rfl ?_
  refine q_bipush (pc' := 6) dX9_rightOf_4 rfl rfl ?_
  refine q_bipush (pc' := 8) dX9_rightOf_6 rfl rfl ?_
  refine q_bipush (pc' := 10) dX9_rightOf_8 rfl rfl ?_
  refine q_iloadn (pc' := 11) 1 dX9_rightOf_10 rfl rfl ?_
  refine q_imul (pc' := 12) dX9_rightOf_11 rfl ?_
  refine q_iloadn (pc' := 13) 2 dX9_rightOf_12 rfl rfl ?_
  refine q_iadd (pc' := 14) dX9_rightOf_13 rfl ?_
  refine q_imul (pc' := 15) dX9_rightOf_14 rfl ?_
  refine q_iadd (pc' := 16) dX9_rightOf_15 rfl ?_
  refine q_iloadn (pc' := 17) 3 dX9_rightOf_16 rfl rfl ?_
  refine q_iadd (pc' := 18) dX9_rightOf_17 rfl ?_
  refine p_iald (pc' := 19) dX9_rightOf_18 rfl kc151 (by omega) (by omega) (by decide) (fun y18 ey18 ry18 => ?_)
  refine p_iret dX9_rightOf_19 rfl ?_ ?_
  · assumption
  · rfl
set_option maxRecDepth 20000 in
set_option maxHeartbeats 4000000 in
theorem c_X9_askPart {Γ : q_G} {S : q_S} {i p : Int} (r0 : 0 ≤ 399 + 4 * i + p) (r1 : 399 + 4 * i + p < 489) : q_Sp Γ mX9_askPart 0 0 0 [q_r Γ 150, q_i i, q_i p] (KC, S) (q_ev (some (q_i (s_as (S 151) i p))) (KC, S)) := by
  show q_Go Γ mX9_askPart 0 0 0 0 [(0, q_r Γ 150), (1, q_i i), (2, q_i p)] [] (KC, S) (q_ev (some (q_i (s_as (S 151) i p))) (KC, S))
  refine q_aloadn (pc' := 1) 0 dX9_askPart_0 rfl rfl ?_
  refine p_getR (pc' := 4) (f := 151) dX9_askPart_1 rfl fX9_7 kc150 rfl ?_
  refine q_sipush (pc' := 7) dX9_askPart_4 rfl rfl ?_
  refine q_iconst (pc' := 8) dX9_askPart_7 rfl ?_
  refine q_iloadn (pc' := 9) 1 dX9_askPart_8 rfl rfl ?_
  refine q_imul (pc' := 10) dX9_askPart_9 rfl ?_
  refine q_iadd (pc' := 11) dX9_askPart_10 rfl ?_
  refine q_iloadn (pc' := 12) 2 dX9_askPart_11 rfl rfl ?_
  refine q_iadd (pc' := 13) dX9_askPart_12 rfl ?_
  refine p_iald (pc' := 14) dX9_askPart_13 rfl kc151 (by omega) (by omega) (by decide) (fun y13 ey13 ry13 => ?_)
  refine p_iret dX9_askPart_14 rfl ?_ ?_
  · assumption
  · rfl
set_option maxRecDepth 20000 in
set_option maxHeartbeats 4000000 in
theorem c_X9_bidPart {Γ : q_G} {S : q_S} {i p : Int} (r0 : 0 ≤ 439 + 5 * i + p) (r1 : 439 + 5 * i + p < 489) : q_Sp Γ mX9_bidPart 0 0 0 [q_r Γ 150, q_i i, q_i p] (KC, S) (q_ev (some (q_i (s_bd (S 151) i p))) (KC, S)) := by
  show q_Go Γ mX9_bidPart 0 0 0 0 [(0, q_r Γ 150), (1, q_i i), (2, q_i p)] [] (KC, S) (q_ev (some (q_i (s_bd (S 151) i p))) (KC, S))
  refine q_aloadn (pc' := 1) 0 dX9_bidPart_0 rfl rfl ?_
  refine p_getR (pc' := 4) (f := 151) dX9_bidPart_1 rfl fX9_7 kc150 rfl ?_
  refine q_sipush (pc' := 7) dX9_bidPart_4 rfl rfl ?_
  refine q_iconst (pc' := 8) dX9_bidPart_7 rfl ?_
  refine q_iloadn (pc' := 9) 1 dX9_bidPart_8 rfl rfl ?_
  refine q_imul (pc' := 10) dX9_bidPart_9 rfl ?_
  refine q_iadd (pc' := 11) dX9_bidPart_10 rfl ?_
  refine q_iloadn (pc' := 12) 2 dX9_bidPart_11 rfl rfl ?_
  refine q_iadd (pc' := 13) dX9_bidPart_12 rfl ?_
  refine p_iald (pc' := 14) dX9_bidPart_13 rfl kc151 (by omega) (by omega) (by decide) (fun y13 ey13 ry13 => ?_)
  refine p_iret dX9_bidPart_14 rfl ?_ ?_
  · assumption
  · rfl
set_option maxRecDepth 20000 in
set_option maxHeartbeats 4000000 in
theorem c_X9_isRow {Γ : q_G} {S : q_S} {r : Int} (ok : s_ok (S 151)) (hr : q_rg r) : q_Sp Γ mX9_isRow 1 0 0 [q_r Γ 150, q_i r] (KC, S) (q_ev (some (q_i (q_B (0 ≤ r ∧ r < S 151 0)))) (KC, S)) := by
  show q_Go Γ mX9_isRow 1 0 0 0 [(0, q_r Γ 150), (1, q_i r)] [] (KC, S) (q_ev (some (q_i (q_B (0 ≤ r ∧ r < S 151 0)))) (KC, S))
  have rw0 := s_rows_b ok
  refine q_iloadn (pc' := 1) 1 dX9_isRow_0 rfl rfl ?_
  refine q_iconst (pc' := 2) dX9_isRow_1 rfl ?_
  refine q_aloadn (pc' := 3) 0 dX9_isRow_2 rfl rfl ?_
  refine p_getR (pc' := 6) (f := 151) dX9_isRow_3 rfl fX9_7 kc150 rfl ?_
  refine q_iconst (pc' := 7) dX9_isRow_6 rfl ?_
  refine p_iald (pc' := 8) dX9_isRow_7 rfl kc151 (by omega) (by omega) (by decide) (fun y7 ey7 ry7 => ?_)
  refine q_iconst (pc' := 9) dX9_isRow_8 rfl ?_
  refine q_isub (pc' := 10) dX9_isRow_9 rfl ?_
  refine q_callSI (pc' := 13) dX9_isRow_10 rfl lX9_42 iX9_within (c_X9_within (by omega) (by omega) (by omega)) rfl rfl (Nat.le_of_ble_eq_true rfl) (Nat.le_of_ble_eq_true rfl) (Nat.le_of_ble_eq_true rfl) ?_
  refine p_zret dX9_isRow_13 rfl ?_ ?_
  · refine q_B_congr ?_; omega
  · rfl
set_option maxRecDepth 20000 in
set_option maxHeartbeats 4000000 in
theorem c_X9_isHour {Γ : q_G} {S : q_S} {h : Int} (hr : q_rg h) : q_Sp Γ mX9_isHour 1 0 0 [q_i h] (KC, S) (q_ev (some (q_i (q_B (0 ≤ h ∧ h < 10)))) (KC, S)) := by
  show q_Go Γ mX9_isHour 1 0 0 0 [(0, q_i h)] [] (KC, S) (q_ev (some (q_i (q_B (0 ≤ h ∧ h < 10)))) (KC, S))
  refine q_iloadn (pc' := 1) 0 dX9_isHour_0 rfl rfl ?_
  refine q_iconst (pc' := 2) dX9_isHour_1 rfl ?_
  refine q_bipush (pc' := 4) dX9_isHour_2 rfl rfl ?_
  refine q_callSI (pc' := 7) dX9_isHour_4 rfl lX9_42 iX9_within (c_X9_within (by omega) (by omega) (by omega)) rfl rfl (Nat.le_of_ble_eq_true rfl) (Nat.le_of_ble_eq_true rfl) (Nat.le_of_ble_eq_true rfl) ?_
  refine p_zret dX9_isHour_7 rfl ?_ ?_
  · refine q_B_congr ?_; omega
  · rfl
set_option maxRecDepth 20000 in
set_option maxHeartbeats 4000000 in
theorem c_X9_slopeOf {Γ : q_G} {S : q_S} {h : Int} (h0 : 0 ≤ h) (h1 : h < 10) : q_Sp Γ mX9_slopeOf 0 0 0 [q_i h] (KC, S) (q_ev (some (q_i (s_slope h))) (KC, S)) := by
  show q_Go Γ mX9_slopeOf 0 0 0 0 [(0, q_i h)] [] (KC, S) (q_ev (some (q_i (s_slope h))) (KC, S))
  refine q_iloadn (pc' := 1) 0 dX9_slopeOf_0 rfl rfl ?_
  refine q_iconst (pc' := 2) dX9_slopeOf_1 rfl ?_
  refine q_icmp_ge (tgt := 9) (pc' := 5) dX9_slopeOf_2 rfl rfl (by omega) (by decide) (fun c2 => ?_) (fun c2 => ?_)
  · refine q_bipush (pc' := 11) dX9_slopeOf_9 rfl rfl ?_
    refine q_iloadn (pc' := 12) 0 dX9_slopeOf_11 rfl rfl ?_
    refine q_isub (pc' := 13) dX9_slopeOf_12 rfl ?_
    refine q_istoren (pc' := 14) (L' := [(1, q_i (9 - h)), (0, q_i h)]) dX9_slopeOf_13 rfl rfl (by decide) rfl ?_
    refine q_iloadn (pc' := 15) 0 dX9_slopeOf_14 rfl rfl ?_
    refine q_if_ne (tgt := 23) (pc' := 18) dX9_slopeOf_15 rfl rfl (by omega) (fun c15 => ?_) (fun c15 => ?_)
    · refine q_iconst (pc' := 24) dX9_slopeOf_23 rfl ?_
      refine q_iloadn (pc' := 25) 0 dX9_slopeOf_24 rfl rfl ?_
      refine q_isub (pc' := 26) dX9_slopeOf_25 rfl ?_
      refine p_iret dX9_slopeOf_26 rfl ?_ ?_
      · unfold s_slope; omega
      · rfl
    · refine q_bipush (pc' := 20) dX9_slopeOf_18 rfl rfl ?_
      refine q_goto (pc' := 26) dX9_slopeOf_20 rfl ?_
      refine p_iret dX9_slopeOf_26 rfl ?_ ?_
      · unfold s_slope; omega
      · rfl
  · refine q_iloadn (pc' := 6) 0 dX9_slopeOf_5 rfl rfl ?_
    refine q_goto (pc' := 13) dX9_slopeOf_6 rfl ?_
    refine q_istoren (pc' := 14) (L' := [(1, q_i h), (0, q_i h)]) dX9_slopeOf_13 rfl rfl (by decide) rfl ?_
    refine q_iloadn (pc' := 15) 0 dX9_slopeOf_14 rfl rfl ?_
    refine q_if_ne (tgt := 23) (pc' := 18) dX9_slopeOf_15 rfl rfl (by omega) (fun c15_1 => ?_) (fun c15_1 => ?_)
    · refine q_iconst (pc' := 24) dX9_slopeOf_23 rfl ?_
      refine q_iloadn (pc' := 25) 0 dX9_slopeOf_24 rfl rfl ?_
      refine q_isub (pc' := 26) dX9_slopeOf_25 rfl ?_
      refine p_iret dX9_slopeOf_26 rfl ?_ ?_
      · unfold s_slope; omega
      · rfl
    · refine q_bipush (pc' := 20) dX9_slopeOf_18 rfl rfl ?_
      refine q_goto (pc' := 26) dX9_slopeOf_20 rfl ?_
      refine p_iret dX9_slopeOf_26 rfl ?_ ?_
      · unfold s_slope; omega
      · rfl
set_option maxRecDepth 20000 in
set_option maxHeartbeats 4000000 in
theorem c_X9_sunOf {Γ : q_G} {S : q_S} {h : Int} (h0 : 0 ≤ h) (h1 : h < 10) : q_Sp Γ mX9_sunOf 0 0 0 [q_i h] (KC, S) (q_ev (some (q_i (s_sun h))) (KC, S)) := by
  show q_Go Γ mX9_sunOf 0 0 0 0 [(0, q_i h)] [] (KC, S) (q_ev (some (q_i (s_sun h))) (KC, S))
  refine q_iloadn (pc' := 1) 0 dX9_sunOf_0 rfl rfl ?_
  refine q_iconst (pc' := 2) dX9_sunOf_1 rfl ?_
  refine q_icmp_ge (tgt := 11) (pc' := 5) dX9_sunOf_2 rfl rfl (by omega) (by decide) (fun c2 => ?_) (fun c2 => ?_)
  · refine q_bipush (pc' := 13) dX9_sunOf_11 rfl rfl ?_
    refine q_iloadn (pc' := 14) 0 dX9_sunOf_13 rfl rfl ?_
    refine q_isub (pc' := 15) dX9_sunOf_14 rfl ?_
    refine p_iret dX9_sunOf_15 rfl ?_ ?_
    · unfold s_sun; omega
    · rfl
  · refine q_iloadn (pc' := 6) 0 dX9_sunOf_5 rfl rfl ?_
    refine q_iconst (pc' := 7) dX9_sunOf_6 rfl ?_
    refine q_iadd (pc' := 8) dX9_sunOf_7 rfl ?_
    refine q_goto (pc' := 15) dX9_sunOf_8 rfl ?_
    refine p_iret dX9_sunOf_15 rfl ?_ ?_
    · unfold s_sun; omega
    · rfl
set_option maxRecDepth 20000 in
set_option maxHeartbeats 4000000 in
theorem c_X9_shadow {Γ : q_G} {S : q_S} {a t b h : Int} (ok : s_ok (S 151)) (a0 : 0 ≤ a) (a1 : a < 6) (t0 : 0 ≤ t) (t1 : t ≤ 4) (b0 : 0 ≤ b) (b1 : b < 6) (h0 : 0 ≤ h) (h1 : h < 10) : q_Sp Γ mX9_shadow 1 0 0 [q_r Γ 150, q_i a, q_i t, q_i b, q_i h] (KC, S) (q_ev (some (q_i (s_sh (S 151) a t b h))) (KC, S)) := by
  show q_Go Γ mX9_shadow 1 0 0 0 [(0, q_r Γ 150), (1, q_i a), (2, q_i t), (3, q_i b), (4, q_i h)] [] (KC, S) (q_ev (some (q_i (s_sh (S 151) a t b h))) (KC, S))
  have pa := s_pt_b ok a0 a1
  have pb := s_pt_b ok b0 b1
  have sb := s_slope_b h0 h1
  have hm := q_mulb pa.2.1.1 pa.2.1.2 t0 t1
  refine q_iload (pc' := 2) 4 dX9_shadow_0 rfl rfl ?_
  refine q_iconst (pc' := 3) dX9_shadow_2 rfl ?_
  refine q_icmp_ge (tgt := 22) (pc' := 6) dX9_shadow_3 rfl rfl (by omega) (by decide) (fun c3 => ?_) (fun c3 => ?_)
  · refine q_aloadn (pc' := 23) 0 dX9_shadow_22 rfl rfl ?_
    refine q_iloadn (pc' := 24) 1 dX9_shadow_23 rfl rfl ?_
    refine q_iconst (pc' := 25) dX9_shadow_24 rfl ?_
    refine q_callVI (pc' := 28) dX9_shadow_25 rfl lX9_46 iX9_part kc150 rfl (c_X9_part (by omega) (by omega)) rfl rfl (Nat.le_of_ble_eq_true rfl) (Nat.le_of_ble_eq_true rfl) (Nat.le_of_ble_eq_true rfl) ?_
    refine q_aloadn (pc' := 29) 0 dX9_shadow_28 rfl rfl ?_
    refine q_iloadn (pc' := 30) 3 dX9_shadow_29 rfl rfl ?_
    refine q_iconst (pc' := 31) dX9_shadow_30 rfl ?_
    refine q_callVI (pc' := 34) dX9_shadow_31 rfl lX9_46 iX9_part kc150 rfl (c_X9_part (by omega) (by omega)) rfl rfl (Nat.le_of_ble_eq_true rfl) (Nat.le_of_ble_eq_true rfl) (Nat.le_of_ble_eq_true rfl) ?_
    refine q_isub (pc' := 35) dX9_shadow_34 rfl ?_
    refine q_istore (pc' := 37) (L' := [(5, q_i ((s_pt (S 151) a 0) - (s_pt (S 151) b 0))), (0, q_r Γ 150), (1, q_i a), (2, q_i t), (3, q_i b), (4, q_i h)]) dX9_shadow_35 rfl (by decide) rfl ?_
    have hd : ((s_pt (S 151) a 0) - (s_pt (S 151) b 0)) = s_dist (S 151) a b h := by unfold s_dist; omega
    refine q_iload (pc' := 39) 0 dX9_shadow_37 rfl rfl ?_
    refine q_if_gt (tgt := 44) (pc' := 42) dX9_shadow_39 rfl rfl (by omega) (fun c39 => ?_) (fun c39 => ?_)
    · refine q_iload (pc' := 46) 5 dX9_shadow_44 rfl rfl ?_
      refine q_callSI (pc' := 49) dX9_shadow_46 rfl lX9_50 iX9_slopeOf (c_X9_slopeOf (by omega) (by omega)) rfl rfl (Nat.le_of_ble_eq_true rfl) (Nat.le_of_ble_eq_true rfl) (Nat.le_of_ble_eq_true rfl) ?_
      refine q_istore (pc' := 51) (L' := [(6, q_i (s_slope h)), (5, q_i ((s_pt (S 151) a 0) - (s_pt (S 151) b 0))), (0, q_r Γ 150), (1, q_i a), (2, q_i t), (3, q_i b), (4, q_i h)]) dX9_shadow_49 rfl (by decide) rfl ?_
      refine q_aloadn (pc' := 52) 2 dX9_shadow_51 rfl rfl ?_
      refine q_iloadn (pc' := 53) 3 dX9_shadow_52 rfl rfl ?_
      refine q_iconst (pc' := 54) dX9_shadow_53 rfl ?_
      refine q_callVI (pc' := 57) dX9_shadow_54 rfl lX9_46 iX9_part kc150 rfl (c_X9_part (by omega) (by omega)) rfl rfl (Nat.le_of_ble_eq_true rfl) (Nat.le_of_ble_eq_true rfl) (Nat.le_of_ble_eq_true rfl) ?_
      refine q_iloadn (pc' := 58) 4 dX9_shadow_57 rfl rfl ?_
      refine q_imul (pc' := 59) dX9_shadow_58 rfl ?_
      refine q_iconst (pc' := 60) dX9_shadow_59 rfl ?_
      refine q_iload (pc' := 62) 1 dX9_shadow_60 rfl rfl ?_
      refine q_imul (pc' := 63) dX9_shadow_62 rfl ?_
      refine q_iload (pc' := 65) 0 dX9_shadow_63 rfl rfl ?_
      refine q_iadd (pc' := 66) dX9_shadow_65 rfl ?_
      refine q_iconst (pc' := 67) dX9_shadow_66 rfl ?_
      refine q_isub (pc' := 68) dX9_shadow_67 rfl ?_
      refine q_iload (pc' := 70) 0 dX9_shadow_68 rfl rfl ?_
      refine q_idiv (pc' := 71) dX9_shadow_70 rfl (by omega) (by omega) (by omega) (by omega) ?_
      refine q_isub (pc' := 72) dX9_shadow_71 rfl ?_
      refine p_top (fun x72 hx72 => ?_)
      refine q_istore (pc' := 74) (L' := [(7, q_i x72), (6, q_i (s_slope h)), (5, q_i ((s_pt (S 151) a 0) - (s_pt (S 151) b 0))), (0, q_r Γ 150), (1, q_i a), (2, q_i t), (3, q_i b), (4, q_i h)]) dX9_shadow_72 rfl (by decide) rfl ?_
      have hl : (2 * ((s_pt (S 151) a 0) - (s_pt (S 151) b 0)) + s_slope h - 1) / s_slope h = s_loss (S 151) a b h := by unfold s_loss; rw [← hd]
      have hb := s_loss_b ok a0 a1 b0 b1 h0 h1 (by omega)
      refine q_iload (pc' := 76) 0 dX9_shadow_74 rfl rfl ?_
      refine q_if_le (tgt := 84) (pc' := 79) dX9_shadow_76 rfl rfl (by omega) (fun c76 => ?_) (fun c76 => ?_)
      · refine q_iconst (pc' := 85) dX9_shadow_84 rfl ?_
        refine p_iret dX9_shadow_85 rfl ?_ ?_
        · unfold s_sh; omega
        · rfl
      · refine q_iload (pc' := 81) 0 dX9_shadow_79 rfl rfl ?_
        refine q_goto (pc' := 85) dX9_shadow_81 rfl ?_
        refine p_iret dX9_shadow_85 rfl ?_ ?_
        · unfold s_sh; omega
        · rfl
    · refine q_iconst (pc' := 43) dX9_shadow_42 rfl ?_
      refine p_iret dX9_shadow_43 rfl ?_ ?_
      · unfold s_sh; omega
      · rfl
  · refine q_aloadn (pc' := 7) 0 dX9_shadow_6 rfl rfl ?_
    refine q_iloadn (pc' := 8) 3 dX9_shadow_7 rfl rfl ?_
    refine q_iconst (pc' := 9) dX9_shadow_8 rfl ?_
    refine q_callVI (pc' := 12) dX9_shadow_9 rfl lX9_46 iX9_part kc150 rfl (c_X9_part (by omega) (by omega)) rfl rfl (Nat.le_of_ble_eq_true rfl) (Nat.le_of_ble_eq_true rfl) (Nat.le_of_ble_eq_true rfl) ?_
    refine q_aloadn (pc' := 13) 0 dX9_shadow_12 rfl rfl ?_
    refine q_iloadn (pc' := 14) 1 dX9_shadow_13 rfl rfl ?_
    refine q_iconst (pc' := 15) dX9_shadow_14 rfl ?_
    refine q_callVI (pc' := 18) dX9_shadow_15 rfl lX9_46 iX9_part kc150 rfl (c_X9_part (by omega) (by omega)) rfl rfl (Nat.le_of_ble_eq_true rfl) (Nat.le_of_ble_eq_true rfl) (Nat.le_of_ble_eq_true rfl) ?_
    refine q_isub (pc' := 19) dX9_shadow_18 rfl ?_
    refine q_goto (pc' := 35) dX9_shadow_19 rfl ?_
    refine q_istore (pc' := 37) (L' := [(5, q_i ((s_pt (S 151) b 0) - (s_pt (S 151) a 0))), (0, q_r Γ 150), (1, q_i a), (2, q_i t), (3, q_i b), (4, q_i h)]) dX9_shadow_35 rfl (by decide) rfl ?_
    have hd : ((s_pt (S 151) b 0) - (s_pt (S 151) a 0)) = s_dist (S 151) a b h := by unfold s_dist; omega
    refine q_iload (pc' := 39) 0 dX9_shadow_37 rfl rfl ?_
    refine q_if_gt (tgt := 44) (pc' := 42) dX9_shadow_39 rfl rfl (by omega) (fun c39_1 => ?_) (fun c39_1 => ?_)
    · refine q_iload (pc' := 46) 5 dX9_shadow_44 rfl rfl ?_
      refine q_callSI (pc' := 49) dX9_shadow_46 rfl lX9_50 iX9_slopeOf (c_X9_slopeOf (by omega) (by omega)) rfl rfl (Nat.le_of_ble_eq_true rfl) (Nat.le_of_ble_eq_true rfl) (Nat.le_of_ble_eq_true rfl) ?_
      refine q_istore (pc' := 51) (L' := [(6, q_i (s_slope h)), (5, q_i ((s_pt (S 151) b 0) - (s_pt (S 151) a 0))), (0, q_r Γ 150), (1, q_i a), (2, q_i t), (3, q_i b), (4, q_i h)]) dX9_shadow_49 rfl (by decide) rfl ?_
      refine q_aloadn (pc' := 52) 2 dX9_shadow_51 rfl rfl ?_
      refine q_iloadn (pc' := 53) 3 dX9_shadow_52 rfl rfl ?_
      refine q_iconst (pc' := 54) dX9_shadow_53 rfl ?_
      refine q_callVI (pc' := 57) dX9_shadow_54 rfl lX9_46 iX9_part kc150 rfl (c_X9_part (by omega) (by omega)) rfl rfl (Nat.le_of_ble_eq_true rfl) (Nat.le_of_ble_eq_true rfl) (Nat.le_of_ble_eq_true rfl) ?_
      refine q_iloadn (pc' := 58) 4 dX9_shadow_57 rfl rfl ?_
      refine q_imul (pc' := 59) dX9_shadow_58 rfl ?_
      refine q_iconst (pc' := 60) dX9_shadow_59 rfl ?_
      refine q_iload (pc' := 62) 1 dX9_shadow_60 rfl rfl ?_
      refine q_imul (pc' := 63) dX9_shadow_62 rfl ?_
      refine q_iload (pc' := 65) 0 dX9_shadow_63 rfl rfl ?_
      refine q_iadd (pc' := 66) dX9_shadow_65 rfl ?_
      refine q_iconst (pc' := 67) dX9_shadow_66 rfl ?_
      refine q_isub (pc' := 68) dX9_shadow_67 rfl ?_
      refine q_iload (pc' := 70) 0 dX9_shadow_68 rfl rfl ?_
      refine q_idiv (pc' := 71) dX9_shadow_70 rfl (by omega) (by omega) (by omega) (by omega) ?_
      refine q_isub (pc' := 72) dX9_shadow_71 rfl ?_
      refine p_top (fun x72_1 hx72_1 => ?_)
      refine q_istore (pc' := 74) (L' := [(7, q_i x72_1), (6, q_i (s_slope h)), (5, q_i ((s_pt (S 151) b 0) - (s_pt (S 151) a 0))), (0, q_r Γ 150), (1, q_i a), (2, q_i t), (3, q_i b), (4, q_i h)]) dX9_shadow_72 rfl (by decide) rfl ?_
      have hl : (2 * ((s_pt (S 151) b 0) - (s_pt (S 151) a 0)) + s_slope h - 1) / s_slope h = s_loss (S 151) a b h := by unfold s_loss; rw [← hd]
      have hb := s_loss_b ok a0 a1 b0 b1 h0 h1 (by omega)
      refine q_iload (pc' := 76) 0 dX9_shadow_74 rfl rfl ?_
      refine q_if_le (tgt := 84) (pc' := 79) dX9_shadow_76 rfl rfl (by omega) (fun c76_1 => ?_) (fun c76_1 => ?_)
      · refine q_iconst (pc' := 85) dX9_shadow_84 rfl ?_
        refine p_iret dX9_shadow_85 rfl ?_ ?_
        · unfold s_sh; omega
        · rfl
      · refine q_iload (pc' := 81) 0 dX9_shadow_79 rfl rfl ?_
        refine q_goto (pc' := 85) dX9_shadow_81 rfl ?_
        refine p_iret dX9_shadow_85 rfl ?_ ?_
        · unfold s_sh; omega
        · rfl
    · refine q_iconst (pc' := 43) dX9_shadow_42 rfl ?_
      refine p_iret dX9_shadow_43 rfl ?_ ?_
      · unfold s_sh; omega
      · rfl
set_option maxRecDepth 20000 in
set_option maxHeartbeats 4000000 in
theorem c_X9_isFlat {Γ : q_G} {S : q_S} {h : Int} (ok : s_ok (S 151)) (h0 : 0 ≤ h) (h1 : h < 10) : q_Sp Γ mX9_isFlat 0 0 0 [q_r Γ 150, q_i h] (KC, S) (q_ev (some (q_i (q_B (s_flat (S 151) h)))) (KC, S)) := by
  show q_Go Γ mX9_isFlat 0 0 0 0 [(0, q_r Γ 150), (1, q_i h)] [] (KC, S) (q_ev (some (q_i (q_B (s_flat (S 151) h)))) (KC, S))
  refine q_aloadn (pc' := 1) 0 dX9_isFlat_0 rfl rfl ?_
  refine p_getR (pc' := 4) (f := 151) dX9_isFlat_1 rfl fX9_7 kc150 rfl ?_
  refine q_iconst (pc' := 5) dX9_isFlat_4 rfl ?_
  refine q_iloadn (pc' := 6) 1 dX9_isFlat_5 rfl rfl ?_
  refine q_iadd (pc' := 7) dX9_isFlat_6 rfl ?_
  refine p_iald (pc' := 8) dX9_isFlat_7 rfl kc151 (by omega) (by omega) (by decide) (fun y7 ey7 ry7 => ?_)
  refine q_aloadn (pc' := 9) 0 dX9_isFlat_8 rfl rfl ?_
  refine p_getR (pc' := 12) (f := 151) dX9_isFlat_9 rfl fX9_7 kc150 rfl ?_
  refine q_iconst (pc' := 13) dX9_isFlat_12 rfl ?_
  refine p_iald (pc' := 14) dX9_isFlat_13 rfl kc151 (by omega) (by omega) (by decide) (fun y13 ey13 ry13 => ?_)
  refine q_icmp_lt (tgt := 21) (pc' := 17) dX9_isFlat_14 rfl rfl (by omega) (by omega) (fun c14 => ?_) (fun c14 => ?_)
  · refine q_iconst (pc' := 22) dX9_isFlat_21 rfl ?_
    refine p_zret dX9_isFlat_22 rfl ?_ ?_
    · first | exact (q_B_t (by unfold s_flat; omega)).symm | exact (q_B_f (by unfold s_flat; omega)).symm
    · rfl
  · refine q_iconst (pc' := 18) dX9_isFlat_17 rfl ?_
    refine q_goto (pc' := 22) dX9_isFlat_18 rfl ?_
    refine p_zret dX9_isFlat_22 rfl ?_ ?_
    · first | exact (q_B_t (by unfold s_flat; omega)).symm | exact (q_B_f (by unfold s_flat; omega)).symm
    · rfl
end
