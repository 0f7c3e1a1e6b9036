def mn_0 : MethodName := ⟨"ReadBound$Diary", "<init>", "(LReadBound$Tokens;LReadBound$Land;)V"⟩
theorem md_0 : (mc_0.all fun q => decide (decode prog_2_method_1_code q.1 = .ok (q.2.1, q.2.2))) = true := by decide +kernel
def mn_1 : MethodName := ⟨"ReadBound$Diary", "readLines", "()Z"⟩
theorem md_1 : (mc_1.all fun q => decide (decode prog_2_method_2_code q.1 = .ok (q.2.1, q.2.2))) = true := by decide +kernel
def mn_2 : MethodName := ⟨"ReadBound$Diary", "readLine", "()Z"⟩
theorem md_2 : (mc_2.all fun q => decide (decode prog_2_method_3_code q.1 = .ok (q.2.1, q.2.2))) = true := by decide +kernel
def mn_3 : MethodName := ⟨"ReadBound$Diary", "readManLine", "()Z"⟩
theorem md_3 : (mc_3.all fun q => decide (decode prog_2_method_4_code q.1 = .ok (q.2.1, q.2.2))) = true := by decide +kernel
def mn_4 : MethodName := ⟨"ReadBound$Diary", "takeFirst", "()Z"⟩
theorem md_4 : (mc_4.all fun q => decide (decode prog_2_method_5_code q.1 = .ok (q.2.1, q.2.2))) = true := by decide +kernel
def mn_5 : MethodName := ⟨"ReadBound$Diary", "add", "(III)Z"⟩
theorem md_5 : (mc_5.all fun q => decide (decode prog_2_method_6_code q.1 = .ok (q.2.1, q.2.2))) = true := by decide +kernel
def mn_6 : MethodName := ⟨"ReadBound$Image", "<init>", "()V"⟩
theorem md_6 : (mc_6.all fun q => decide (decode prog_3_method_1_code q.1 = .ok (q.2.1, q.2.2))) = true := by decide +kernel
def mn_7 : MethodName := ⟨"ReadBound$Image", "take", "(LReadBound$Land;LReadBound$Life;LReadBound$Sentence;)V"⟩
theorem md_7 : (mc_7.all fun q => decide (decode prog_3_method_2_code q.1 = .ok (q.2.1, q.2.2))) = true := by decide +kernel
def mn_8 : MethodName := ⟨"ReadBound$Image", "giveBack", "(LReadBound$Land;LReadBound$Life;LReadBound$Sentence;)V"⟩
theorem md_8 : (mc_8.all fun q => decide (decode prog_3_method_3_code q.1 = .ok (q.2.1, q.2.2))) = true := by decide +kernel
def mn_9 : MethodName := ⟨"ReadBound$Land", "<init>", "()V"⟩
theorem md_9 : (mc_9.all fun q => decide (decode prog_4_method_1_code q.1 = .ok (q.2.1, q.2.2))) = true := by decide +kernel
def mn_10 : MethodName := ⟨"ReadBound$Land", "clear", "()V"⟩
theorem md_10 : (mc_10.all fun q => decide (decode prog_4_method_2_code q.1 = .ok (q.2.1, q.2.2))) = true := by decide +kernel
def mn_11 : MethodName := ⟨"ReadBound$Land", "copyFrom", "(LReadBound$Land;)V"⟩
theorem md_11 : (mc_11.all fun q => decide (decode prog_4_method_3_code q.1 = .ok (q.2.1, q.2.2))) = true := by decide +kernel
def mn_12 : MethodName := ⟨"ReadBound$Land", "isTold", "(J)Z"⟩
theorem md_12 : (mc_12.all fun q => decide (decode prog_4_method_4_code q.1 = .ok (q.2.1, q.2.2))) = true := by decide +kernel
def mn_13 : MethodName := ⟨"ReadBound$Land", "numberOf", "(JI)I"⟩
theorem md_13 : (mc_13.all fun q => decide (decode prog_4_method_5_code q.1 = .ok (q.2.1, q.2.2))) = true := by decide +kernel
def mn_14 : MethodName := ⟨"ReadBound$Land", "addName", "(JI)I"⟩
theorem md_14 : (mc_14.all fun q => decide (decode prog_4_method_6_code q.1 = .ok (q.2.1, q.2.2))) = true := by decide +kernel
def mn_15 : MethodName := ⟨"ReadBound$Land", "addBits", "(II)V"⟩
theorem md_15 : (mc_15.all fun q => decide (decode prog_4_method_7_code q.1 = .ok (q.2.1, q.2.2))) = true := by decide +kernel
def mn_16 : MethodName := ⟨"ReadBound$Land", "hasRoad", "(II)Z"⟩
theorem md_16 : (mc_16.all fun q => decide (decode prog_4_method_8_code q.1 = .ok (q.2.1, q.2.2))) = true := by decide +kernel
def mn_17 : MethodName := ⟨"ReadBound$Land", "parts", "(III)Z"⟩
theorem md_17 : (mc_17.all fun q => decide (decode prog_4_method_9_code q.1 = .ok (q.2.1, q.2.2))) = true := by decide +kernel
def mn_18 : MethodName := ⟨"ReadBound$Land", "forbiddenBy", "(I)I"⟩
theorem md_18 : (mc_18.all fun q => decide (decode prog_4_method_10_code q.1 = .ok (q.2.1, q.2.2))) = true := by decide +kernel
def mn_19 : MethodName := ⟨"ReadBound$Land", "clerksOf", "(I)I"⟩
theorem md_19 : (mc_19.all fun q => decide (decode prog_4_method_11_code q.1 = .ok (q.2.1, q.2.2))) = true := by decide +kernel
def mn_20 : MethodName := ⟨"ReadBound$LandReader", "<init>", "(LReadBound$Tokens;LReadBound$Land;)V"⟩
theorem md_20 : (mc_20.all fun q => decide (decode prog_5_method_1_code q.1 = .ok (q.2.1, q.2.2))) = true := by decide +kernel
def mn_21 : MethodName := ⟨"ReadBound$LandReader", "readLines", "()I"⟩
theorem md_21 : (mc_21.all fun q => decide (decode prog_5_method_2_code q.1 = .ok (q.2.1, q.2.2))) = true := by decide +kernel
def mn_22 : MethodName := ⟨"ReadBound$LandReader", "readLine", "()Z"⟩
theorem md_22 : (mc_22.all fun q => decide (decode prog_5_method_3_code q.1 = .ok (q.2.1, q.2.2))) = true := by decide +kernel
def mn_23 : MethodName := ⟨"ReadBound$LandReader", "takeFirst", "(II)Z"⟩
theorem md_23 : (mc_23.all fun q => decide (decode prog_5_method_4_code q.1 = .ok (q.2.1, q.2.2))) = true := by decide +kernel
def mn_24 : MethodName := ⟨"ReadBound$LandReader", "takeNewName", "(I)I"⟩
theorem md_24 : (mc_24.all fun q => decide (decode prog_5_method_5_code q.1 = .ok (q.2.1, q.2.2))) = true := by decide +kernel
def mn_25 : MethodName := ⟨"ReadBound$LandReader", "readRoad", "()Z"⟩
theorem md_25 : (mc_25.all fun q => decide (decode prog_5_method_6_code q.1 = .ok (q.2.1, q.2.2))) = true := by decide +kernel
def mn_26 : MethodName := ⟨"ReadBound$LandReader", "takeLawHead", "()Z"⟩
theorem md_26 : (mc_26.all fun q => decide (decode prog_5_method_7_code q.1 = .ok (q.2.1, q.2.2))) = true := by decide +kernel
def mn_27 : MethodName := ⟨"ReadBound$LandReader", "readDeeds", "()Z"⟩
theorem md_27 : (mc_27.all fun q => decide (decode prog_5_method_8_code q.1 = .ok (q.2.1, q.2.2))) = true := by decide +kernel
def mn_28 : MethodName := ⟨"ReadBound$LandReader", "takeDeed", "(I)Z"⟩
theorem md_28 : (mc_28.all fun q => decide (decode prog_5_method_9_code q.1 = .ok (q.2.1, q.2.2))) = true := by decide +kernel
def mn_29 : MethodName := ⟨"ReadBound$LandReader", "readRepealed", "()Z"⟩
theorem md_29 : (mc_29.all fun q => decide (decode prog_5_method_10_code q.1 = .ok (q.2.1, q.2.2))) = true := by decide +kernel
def mn_30 : MethodName := ⟨"ReadBound$LandReader", "readMan", "()Z"⟩
theorem md_30 : (mc_30.all fun q => decide (decode prog_5_method_11_code q.1 = .ok (q.2.1, q.2.2))) = true := by decide +kernel
def mn_31 : MethodName := ⟨"ReadBound$LandReader", "readRound", "()Z"⟩
theorem md_31 : (mc_31.all fun q => decide (decode prog_5_method_12_code q.1 = .ok (q.2.1, q.2.2))) = true := by decide +kernel
def mn_32 : MethodName := ⟨"ReadBound$LandReader", "takeStop", "(I)Z"⟩
theorem md_32 : (mc_32.all fun q => decide (decode prog_5_method_13_code q.1 = .ok (q.2.1, q.2.2))) = true := by decide +kernel
def mn_33 : MethodName := ⟨"ReadBound$LandReader", "readClerk", "()Z"⟩
theorem md_33 : (mc_33.all fun q => decide (decode prog_5_method_14_code q.1 = .ok (q.2.1, q.2.2))) = true := by decide +kernel
def mn_34 : MethodName := ⟨"ReadBound$LandReader", "readPost", "()Z"⟩
theorem md_34 : (mc_34.all fun q => decide (decode prog_5_method_15_code q.1 = .ok (q.2.1, q.2.2))) = true := by decide +kernel
def mn_35 : MethodName := ⟨"ReadBound$Life", "<init>", "([I)V"⟩
theorem md_35 : (mc_35.all fun q => decide (decode prog_6_method_1_code q.1 = .ok (q.2.1, q.2.2))) = true := by decide +kernel
def mn_36 : MethodName := ⟨"ReadBound$Life", "copyFrom", "(LReadBound$Life;)V"⟩
theorem md_36 : (mc_36.all fun q => decide (decode prog_6_method_2_code q.1 = .ok (q.2.1, q.2.2))) = true := by decide +kernel
def mn_37 : MethodName := ⟨"ReadBound$Life", "begin", "()V"⟩
theorem md_37 : (mc_37.all fun q => decide (decode prog_6_method_3_code q.1 = .ok (q.2.1, q.2.2))) = true := by decide +kernel
def mn_38 : MethodName := ⟨"ReadBound$Life", "today", "()I"⟩
theorem md_38 : (mc_38.all fun q => decide (decode prog_6_method_4_code q.1 = .ok (q.2.1, q.2.2))) = true := by decide +kernel
def mn_39 : MethodName := ⟨"ReadBound$Life", "wordsOf", "(II)I"⟩
theorem md_39 : (mc_39.all fun q => decide (decode prog_6_method_5_code q.1 = .ok (q.2.1, q.2.2))) = true := by decide +kernel
def mn_40 : MethodName := ⟨"ReadBound$Life", "readOn", "(II)I"⟩
theorem md_40 : (mc_40.all fun q => decide (decode prog_6_method_6_code q.1 = .ok (q.2.1, q.2.2))) = true := by decide +kernel
def mn_41 : MethodName := ⟨"ReadBound$Life", "readBoard", "(I)V"⟩
theorem md_41 : (mc_41.all fun q => decide (decode prog_6_method_7_code q.1 = .ok (q.2.1, q.2.2))) = true := by decide +kernel
def mn_42 : MethodName := ⟨"ReadBound$Life", "readLaw", "(II)V"⟩
theorem md_42 : (mc_42.all fun q => decide (decode prog_6_method_8_code q.1 = .ok (q.2.1, q.2.2))) = true := by decide +kernel
def mn_43 : MethodName := ⟨"ReadBound$Life", "whyNot", "(III)I"⟩
theorem md_43 : (mc_43.all fun q => decide (decode prog_6_method_9_code q.1 = .ok (q.2.1, q.2.2))) = true := by decide +kernel
def mn_44 : MethodName := ⟨"ReadBound$Life", "whyNotGo", "(II)I"⟩
theorem md_44 : (mc_44.all fun q => decide (decode prog_6_method_10_code q.1 = .ok (q.2.1, q.2.2))) = true := by decide +kernel
def mn_45 : MethodName := ⟨"ReadBound$Life", "hasRoadTo", "(II)Z"⟩
theorem md_45 : (mc_45.all fun q => decide (decode prog_6_method_11_code q.1 = .ok (q.2.1, q.2.2))) = true := by decide +kernel
def mn_46 : MethodName := ⟨"ReadBound$Life", "live", "(III)V"⟩
theorem md_46 : (mc_46.all fun q => decide (decode prog_6_method_12_code q.1 = .ok (q.2.1, q.2.2))) = true := by decide +kernel
def mn_47 : MethodName := ⟨"ReadBound$Life", "loseWords", "(I)V"⟩
theorem md_47 : (mc_47.all fun q => decide (decode prog_6_method_13_code q.1 = .ok (q.2.1, q.2.2))) = true := by decide +kernel
def mn_48 : MethodName := ⟨"ReadBound$Life", "putUp", "(II)V"⟩
theorem md_48 : (mc_48.all fun q => decide (decode prog_6_method_14_code q.1 = .ok (q.2.1, q.2.2))) = true := by decide +kernel
def mn_49 : MethodName := ⟨"ReadBound$Life", "passDays", "(I)V"⟩
theorem md_49 : (mc_49.all fun q => decide (decode prog_6_method_15_code q.1 = .ok (q.2.1, q.2.2))) = true := by decide +kernel
def mn_50 : MethodName := ⟨"ReadBound$Life", "forgetOld", "()V"⟩
theorem md_50 : (mc_50.all fun q => decide (decode prog_6_method_16_code q.1 = .ok (q.2.1, q.2.2))) = true := by decide +kernel
def mn_51 : MethodName := ⟨"ReadBound$Life", "goRound", "(I)V"⟩
theorem md_51 : (mc_51.all fun q => decide (decode prog_6_method_17_code q.1 = .ok (q.2.1, q.2.2))) = true := by decide +kernel
def mn_52 : MethodName := ⟨"ReadBound$Life", "drawDays", "(II)V"⟩
theorem md_52 : (mc_52.all fun q => decide (decode prog_6_method_18_code q.1 = .ok (q.2.1, q.2.2))) = true := by decide +kernel
def mn_53 : MethodName := ⟨"ReadBound$Life", "drawMan", "(I)V"⟩
theorem md_53 : (mc_53.all fun q => decide (decode prog_6_method_19_code q.1 = .ok (q.2.1, q.2.2))) = true := by decide +kernel
def mn_54 : MethodName := ⟨"ReadBound$Life", "draw", "(I)I"⟩
theorem md_54 : (mc_54.all fun q => decide (decode prog_6_method_20_code q.1 = .ok (q.2.1, q.2.2))) = true := by decide +kernel
def mn_55 : MethodName := ⟨"ReadBound$Life", "stateOf", "(II)I"⟩
theorem md_55 : (mc_55.all fun q => decide (decode prog_6_method_21_code q.1 = .ok (q.2.1, q.2.2))) = true := by decide +kernel
def mn_56 : MethodName := ⟨"ReadBound$Life", "wholeFor", "(I)I"⟩
theorem md_56 : (mc_56.all fun q => decide (decode prog_6_method_22_code q.1 = .ok (q.2.1, q.2.2))) = true := by decide +kernel
def mn_57 : MethodName := ⟨"ReadBound$Life", "repealedBy", "(I)I"⟩
theorem md_57 : (mc_57.all fun q => decide (decode prog_6_method_23_code q.1 = .ok (q.2.1, q.2.2))) = true := by decide +kernel
def mn_58 : MethodName := ⟨"ReadBound$Life", "liftedFor", "(I)I"⟩
theorem md_58 : (mc_58.all fun q => decide (decode prog_6_method_24_code q.1 = .ok (q.2.1, q.2.2))) = true := by decide +kernel
def mn_59 : MethodName := ⟨"ReadBound$Life", "bindingOn", "(I)I"⟩
theorem md_59 : (mc_59.all fun q => decide (decode prog_6_method_25_code q.1 = .ok (q.2.1, q.2.2))) = true := by decide +kernel
def mn_60 : MethodName := ⟨"ReadBound$Life", "barredFor", "(I)I"⟩
theorem md_60 : (mc_60.all fun q => decide (decode prog_6_method_26_code q.1 = .ok (q.2.1, q.2.2))) = true := by decide +kernel
def mn_61 : MethodName := ⟨"ReadBound$Life", "menBoundBy", "(I)I"⟩
theorem md_61 : (mc_61.all fun q => decide (decode prog_6_method_27_code q.1 = .ok (q.2.1, q.2.2))) = true := by decide +kernel
def mn_62 : MethodName := ⟨"ReadBound$Life", "freeMen", "()I"⟩
theorem md_62 : (mc_62.all fun q => decide (decode prog_6_method_28_code q.1 = .ok (q.2.1, q.2.2))) = true := by decide +kernel
def mn_63 : MethodName := ⟨"ReadBound$Life", "wordsInAll", "(I)I"⟩
theorem md_63 : (mc_63.all fun q => decide (decode prog_6_method_29_code q.1 = .ok (q.2.1, q.2.2))) = true := by decide +kernel
def mn_64 : MethodName := ⟨"ReadBound$Life", "postsInAll", "()I"⟩
theorem md_64 : (mc_64.all fun q => decide (decode prog_6_method_30_code q.1 = .ok (q.2.1, q.2.2))) = true := by decide +kernel
def mn_65 : MethodName := ⟨"ReadBound$Life", "deedsInAll", "()I"⟩
theorem md_65 : (mc_65.all fun q => decide (decode prog_6_method_31_code q.1 = .ok (q.2.1, q.2.2))) = true := by decide +kernel
def mn_66 : MethodName := ⟨"ReadBound$Life", "menWithBlinkers", "()I"⟩
theorem md_66 : (mc_66.all fun q => decide (decode prog_6_method_32_code q.1 = .ok (q.2.1, q.2.2))) = true := by decide +kernel
def mn_67 : MethodName := ⟨"ReadBound$Life", "menIn", "(I)I"⟩
theorem md_67 : (mc_67.all fun q => decide (decode prog_6_method_33_code q.1 = .ok (q.2.1, q.2.2))) = true := by decide +kernel
def mn_68 : MethodName := ⟨"ReadBound$Life", "placesOf", "(I)I"⟩
theorem md_68 : (mc_68.all fun q => decide (decode prog_6_method_34_code q.1 = .ok (q.2.1, q.2.2))) = true := by decide +kernel
def mn_69 : MethodName := ⟨"ReadBound$Life", "placesOfAny", "(I)I"⟩
theorem md_69 : (mc_69.all fun q => decide (decode prog_6_method_35_code q.1 = .ok (q.2.1, q.2.2))) = true := by decide +kernel
def mn_70 : MethodName := ⟨"ReadBound$Past", "<init>", "()V"⟩
theorem md_70 : (mc_70.all fun q => decide (decode prog_7_method_1_code q.1 = .ok (q.2.1, q.2.2))) = true := by decide +kernel
def mn_71 : MethodName := ⟨"ReadBound$Past", "forget", "()V"⟩
theorem md_71 : (mc_71.all fun q => decide (decode prog_7_method_2_code q.1 = .ok (q.2.1, q.2.2))) = true := by decide +kernel
def mn_72 : MethodName := ⟨"ReadBound$Past", "keep", "([I)V"⟩
theorem md_72 : (mc_72.all fun q => decide (decode prog_7_method_3_code q.1 = .ok (q.2.1, q.2.2))) = true := by decide +kernel
def mn_73 : MethodName := ⟨"ReadBound$Past", "takeBack", "([I)I"⟩
theorem md_73 : (mc_73.all fun q => decide (decode prog_7_method_4_code q.1 = .ok (q.2.1, q.2.2))) = true := by decide +kernel
def mn_74 : MethodName := ⟨"ReadBound$Route", "<init>", "([I)V"⟩
theorem md_74 : (mc_74.all fun q => decide (decode prog_8_method_1_code q.1 = .ok (q.2.1, q.2.2))) = true := by decide +kernel
def mn_75 : MethodName := ⟨"ReadBound$Route", "find", "(III)I"⟩
theorem md_75 : (mc_75.all fun q => decide (decode prog_8_method_2_code q.1 = .ok (q.2.1, q.2.2))) = true := by decide +kernel
def mn_76 : MethodName := ⟨"ReadBound$Route", "neighboursOf", "(I)I"⟩
theorem md_76 : (mc_76.all fun q => decide (decode prog_8_method_3_code q.1 = .ok (q.2.1, q.2.2))) = true := by decide +kernel
def mn_77 : MethodName := ⟨"ReadBound$Route", "walk", "(II)V"⟩
theorem md_77 : (mc_77.all fun q => decide (decode prog_8_method_4_code q.1 = .ok (q.2.1, q.2.2))) = true := by decide +kernel
def mn_78 : MethodName := ⟨"ReadBound$Route", "leastOf", "(I)I"⟩
theorem md_78 : (mc_78.all fun q => decide (decode prog_8_method_5_code q.1 = .ok (q.2.1, q.2.2))) = true := by decide +kernel
def mn_79 : MethodName := ⟨"ReadBound$Sentence", "<init>", "()V"⟩
theorem md_79 : (mc_79.all fun q => decide (decode prog_9_method_1_code q.1 = .ok (q.2.1, q.2.2))) = true := by decide +kernel
def mn_80 : MethodName := ⟨"ReadBound$Sentence", "clear", "()V"⟩
theorem md_80 : (mc_80.all fun q => decide (decode prog_9_method_2_code q.1 = .ok (q.2.1, q.2.2))) = true := by decide +kernel
def mn_81 : MethodName := ⟨"ReadBound$Sentence", "copyFrom", "(LReadBound$Sentence;)V"⟩
theorem md_81 : (mc_81.all fun q => decide (decode prog_9_method_3_code q.1 = .ok (q.2.1, q.2.2))) = true := by decide +kernel
def mn_82 : MethodName := ⟨"ReadBound$Sentence", "add", "(III)V"⟩
theorem md_82 : (mc_82.all fun q => decide (decode prog_9_method_4_code q.1 = .ok (q.2.1, q.2.2))) = true := by decide +kernel
def mn_83 : MethodName := ⟨"ReadBound$Sentence", "menOf", "(LReadBound$Life;)I"⟩
theorem md_83 : (mc_83.all fun q => decide (decode prog_9_method_5_code q.1 = .ok (q.2.1, q.2.2))) = true := by decide +kernel
def mn_84 : MethodName := ⟨"ReadBound$Sentence", "menOfOne", "(LReadBound$Life;I)I"⟩
theorem md_84 : (mc_84.all fun q => decide (decode prog_9_method_6_code q.1 = .ok (q.2.1, q.2.2))) = true := by decide +kernel
def mn_85 : MethodName := ⟨"ReadBound$Sentence", "holds", "(LReadBound$Life;II)Z"⟩
theorem md_85 : (mc_85.all fun q => decide (decode prog_9_method_7_code q.1 = .ok (q.2.1, q.2.2))) = true := by decide +kernel
def mn_86 : MethodName := ⟨"ReadBound$Sentence", "compares", "(II)Z"⟩
theorem md_86 : (mc_86.all fun q => decide (decode prog_9_method_8_code q.1 = .ok (q.2.1, q.2.2))) = true := by decide +kernel
def mn_87 : MethodName := ⟨"ReadBound$SentenceReader", "<init>", "(LReadBound$Tokens;LReadBound$Land;LReadBound$Sentence;)V"⟩
theorem md_87 : (mc_87.all fun q => decide (decode prog_10_method_1_code q.1 = .ok (q.2.1, q.2.2))) = true := by decide +kernel
def mn_88 : MethodName := ⟨"ReadBound$SentenceReader", "readText", "()I"⟩
theorem md_88 : (mc_88.all fun q => decide (decode prog_10_method_2_code q.1 = .ok (q.2.1, q.2.2))) = true := by decide +kernel
def mn_89 : MethodName := ⟨"ReadBound$SentenceReader", "readCond", "(I)Z"⟩
theorem md_89 : (mc_89.all fun q => decide (decode prog_10_method_3_code q.1 = .ok (q.2.1, q.2.2))) = true := by decide +kernel
def mn_90 : MethodName := ⟨"ReadBound$SentenceReader", "readOne", "(I)Z"⟩
theorem md_90 : (mc_90.all fun q => decide (decode prog_10_method_4_code q.1 = .ok (q.2.1, q.2.2))) = true := by decide +kernel
def mn_91 : MethodName := ⟨"ReadBound$SentenceReader", "readNot", "(I)Z"⟩
theorem md_91 : (mc_91.all fun q => decide (decode prog_10_method_5_code q.1 = .ok (q.2.1, q.2.2))) = true := by decide +kernel
def mn_92 : MethodName := ⟨"ReadBound$SentenceReader", "readNamed", "(II)Z"⟩
theorem md_92 : (mc_92.all fun q => decide (decode prog_10_method_6_code q.1 = .ok (q.2.1, q.2.2))) = true := by decide +kernel
def mn_93 : MethodName := ⟨"ReadBound$SentenceReader", "readCompared", "(I)Z"⟩
theorem md_93 : (mc_93.all fun q => decide (decode prog_10_method_7_code q.1 = .ok (q.2.1, q.2.2))) = true := by decide +kernel
def mn_94 : MethodName := ⟨"ReadBound$Tokens", "<init>", "()V"⟩
theorem md_94 : (mc_94.all fun q => decide (decode prog_11_method_1_code q.1 = .ok (q.2.1, q.2.2))) = true := by decide +kernel
def mn_95 : MethodName := ⟨"ReadBound$Tokens", "addFour", "(I)V"⟩
theorem md_95 : (mc_95.all fun q => decide (decode prog_11_method_2_code q.1 = .ok (q.2.1, q.2.2))) = true := by decide +kernel
def mn_96 : MethodName := ⟨"ReadBound$Tokens", "byteAt", "(I)I"⟩
theorem md_96 : (mc_96.all fun q => decide (decode prog_11_method_3_code q.1 = .ok (q.2.1, q.2.2))) = true := by decide +kernel
def mn_97 : MethodName := ⟨"ReadBound$Tokens", "begin", "(I)V"⟩
theorem md_97 : (mc_97.all fun q => decide (decode prog_11_method_4_code q.1 = .ok (q.2.1, q.2.2))) = true := by decide +kernel
def mn_98 : MethodName := ⟨"ReadBound$Tokens", "advance", "()V"⟩
theorem md_98 : (mc_98.all fun q => decide (decode prog_11_method_5_code q.1 = .ok (q.2.1, q.2.2))) = true := by decide +kernel
def mn_99 : MethodName := ⟨"ReadBound$Tokens", "readRun", "(I)V"⟩
theorem md_99 : (mc_99.all fun q => decide (decode prog_11_method_6_code q.1 = .ok (q.2.1, q.2.2))) = true := by decide +kernel
def mn_100 : MethodName := ⟨"ReadBound$Tokens", "keywordOf", "(J)I"⟩
theorem md_100 : (mc_100.all fun q => decide (decode prog_11_method_7_code q.1 = .ok (q.2.1, q.2.2))) = true := by decide +kernel
def mn_101 : MethodName := ⟨"ReadBound$Tokens", "isLetter", "(I)Z"⟩
theorem md_101 : (mc_101.all fun q => decide (decode prog_11_method_8_code q.1 = .ok (q.2.1, q.2.2))) = true := by decide +kernel
def mn_102 : MethodName := ⟨"ReadBound$Tokens", "isDigit", "(I)Z"⟩
theorem md_102 : (mc_102.all fun q => decide (decode prog_11_method_9_code q.1 = .ok (q.2.1, q.2.2))) = true := by decide +kernel
def mn_103 : MethodName := ⟨"ReadBound$Tokens", "refuse", "(I)Z"⟩
theorem md_103 : (mc_103.all fun q => decide (decode prog_11_method_10_code q.1 = .ok (q.2.1, q.2.2))) = true := by decide +kernel
def mn_104 : MethodName := ⟨"ReadBound$Tokens", "isSign", "(C)Z"⟩
theorem md_104 : (mc_104.all fun q => decide (decode prog_11_method_11_code q.1 = .ok (q.2.1, q.2.2))) = true := by decide +kernel
def mn_105 : MethodName := ⟨"ReadBound$Tokens", "takeSign", "(C)Z"⟩
theorem md_105 : (mc_105.all fun q => decide (decode prog_11_method_12_code q.1 = .ok (q.2.1, q.2.2))) = true := by decide +kernel
def mn_106 : MethodName := ⟨"ReadBound$Tokens", "takeNumber", "(II)I"⟩
theorem md_106 : (mc_106.all fun q => decide (decode prog_11_method_13_code q.1 = .ok (q.2.1, q.2.2))) = true := by decide +kernel
def mn_107 : MethodName := ⟨"ReadBound$Tokens", "isNameHere", "()Z"⟩
theorem md_107 : (mc_107.all fun q => decide (decode prog_11_method_14_code q.1 = .ok (q.2.1, q.2.2))) = true := by decide +kernel
def mn_108 : MethodName := ⟨"ReadBound$Tokens", "nameHere", "(LReadBound$Land;I)I"⟩
theorem md_108 : (mc_108.all fun q => decide (decode prog_11_method_15_code q.1 = .ok (q.2.1, q.2.2))) = true := by decide +kernel
def mn_109 : MethodName := ⟨"ReadBound$Tokens", "takeName", "(LReadBound$Land;I)I"⟩
theorem md_109 : (mc_109.all fun q => decide (decode prog_11_method_16_code q.1 = .ok (q.2.1, q.2.2))) = true := by decide +kernel
def mn_110 : MethodName := ⟨"ReadBound", "<init>", "()V"⟩
theorem md_110 : (mc_110.all fun q => decide (decode prog_1_method_1_code q.1 = .ok (q.2.1, q.2.2))) = true := by decide +kernel
def mn_111 : MethodName := ⟨"ReadBound", "feed", "(IIIII)I"⟩
theorem md_111 : (mc_111.all fun q => decide (decode prog_1_method_2_code q.1 = .ok (q.2.1, q.2.2))) = true := by decide +kernel
def mn_112 : MethodName := ⟨"ReadBound", "end", "(I)Z"⟩
theorem md_112 : (mc_112.all fun q => decide (decode prog_1_method_3_code q.1 = .ok (q.2.1, q.2.2))) = true := by decide +kernel
def mn_113 : MethodName := ⟨"ReadBound", "land", "()I"⟩
theorem md_113 : (mc_113.all fun q => decide (decode prog_1_method_4_code q.1 = .ok (q.2.1, q.2.2))) = true := by decide +kernel
def mn_114 : MethodName := ⟨"ReadBound", "fault", "()I"⟩
theorem md_114 : (mc_114.all fun q => decide (decode prog_1_method_5_code q.1 = .ok (q.2.1, q.2.2))) = true := by decide +kernel
def mn_115 : MethodName := ⟨"ReadBound", "law", "(II)I"⟩
theorem md_115 : (mc_115.all fun q => decide (decode prog_1_method_6_code q.1 = .ok (q.2.1, q.2.2))) = true := by decide +kernel
def mn_116 : MethodName := ⟨"ReadBound", "place", "(II)I"⟩
theorem md_116 : (mc_116.all fun q => decide (decode prog_1_method_8_code q.1 = .ok (q.2.1, q.2.2))) = true := by decide +kernel
def mn_117 : MethodName := ⟨"ReadBound", "now", "(I)I"⟩
theorem md_117 : (mc_117.all fun q => decide (decode prog_1_method_9_code q.1 = .ok (q.2.1, q.2.2))) = true := by decide +kernel
def mn_118 : MethodName := ⟨"ReadBound", "go", "(II)I"⟩
theorem md_118 : (mc_118.all fun q => decide (decode prog_1_method_10_code q.1 = .ok (q.2.1, q.2.2))) = true := by decide +kernel
def mn_119 : MethodName := ⟨"ReadBound", "act", "(II)I"⟩
theorem md_119 : (mc_119.all fun q => decide (decode prog_1_method_11_code q.1 = .ok (q.2.1, q.2.2))) = true := by decide +kernel
def mn_120 : MethodName := ⟨"ReadBound", "wear", "(II)I"⟩
theorem md_120 : (mc_120.all fun q => decide (decode prog_1_method_12_code q.1 = .ok (q.2.1, q.2.2))) = true := by decide +kernel
def mn_121 : MethodName := ⟨"ReadBound", "fever", "(I)I"⟩
theorem md_121 : (mc_121.all fun q => decide (decode prog_1_method_13_code q.1 = .ok (q.2.1, q.2.2))) = true := by decide +kernel
def mn_122 : MethodName := ⟨"ReadBound", "post", "(II)I"⟩
theorem md_122 : (mc_122.all fun q => decide (decode prog_1_method_14_code q.1 = .ok (q.2.1, q.2.2))) = true := by decide +kernel
def mn_123 : MethodName := ⟨"ReadBound", "rain", "(I)I"⟩
theorem md_123 : (mc_123.all fun q => decide (decode prog_1_method_15_code q.1 = .ok (q.2.1, q.2.2))) = true := by decide +kernel
def mn_124 : MethodName := ⟨"ReadBound", "days", "(I)I"⟩
theorem md_124 : (mc_124.all fun q => decide (decode prog_1_method_16_code q.1 = .ok (q.2.1, q.2.2))) = true := by decide +kernel
def mn_125 : MethodName := ⟨"ReadBound", "undo", "()I"⟩
theorem md_125 : (mc_125.all fun q => decide (decode prog_1_method_17_code q.1 = .ok (q.2.1, q.2.2))) = true := by decide +kernel
def mn_126 : MethodName := ⟨"ReadBound", "words", "(II)I"⟩
theorem md_126 : (mc_126.all fun q => decide (decode prog_1_method_18_code q.1 = .ok (q.2.1, q.2.2))) = true := by decide +kernel
def mn_127 : MethodName := ⟨"ReadBound", "state", "(II)I"⟩
theorem md_127 : (mc_127.all fun q => decide (decode prog_1_method_19_code q.1 = .ok (q.2.1, q.2.2))) = true := by decide +kernel
def mn_128 : MethodName := ⟨"ReadBound", "binds", "(I)I"⟩
theorem md_128 : (mc_128.all fun q => decide (decode prog_1_method_20_code q.1 = .ok (q.2.1, q.2.2))) = true := by decide +kernel
def mn_129 : MethodName := ⟨"ReadBound", "barred", "(I)I"⟩
theorem md_129 : (mc_129.all fun q => decide (decode prog_1_method_21_code q.1 = .ok (q.2.1, q.2.2))) = true := by decide +kernel
def mn_130 : MethodName := ⟨"ReadBound", "lifted", "(I)I"⟩
theorem md_130 : (mc_130.all fun q => decide (decode prog_1_method_22_code q.1 = .ok (q.2.1, q.2.2))) = true := by decide +kernel
def mn_131 : MethodName := ⟨"ReadBound", "bound", "(I)I"⟩
theorem md_131 : (mc_131.all fun q => decide (decode prog_1_method_23_code q.1 = .ok (q.2.1, q.2.2))) = true := by decide +kernel
def mn_132 : MethodName := ⟨"ReadBound", "forgets", "(II)I"⟩
theorem md_132 : (mc_132.all fun q => decide (decode prog_1_method_24_code q.1 = .ok (q.2.1, q.2.2))) = true := by decide +kernel
def mn_133 : MethodName := ⟨"ReadBound", "way", "(III)I"⟩
theorem md_133 : (mc_133.all fun q => decide (decode prog_1_method_25_code q.1 = .ok (q.2.1, q.2.2))) = true := by decide +kernel
def mn_134 : MethodName := ⟨"ReadBound", "step", "(I)I"⟩
theorem md_134 : (mc_134.all fun q => decide (decode prog_1_method_26_code q.1 = .ok (q.2.1, q.2.2))) = true := by decide +kernel
def mn_135 : MethodName := ⟨"ReadBound", "meets", "(II)I"⟩
theorem md_135 : (mc_135.all fun q => decide (decode prog_1_method_27_code q.1 = .ok (q.2.1, q.2.2))) = true := by decide +kernel
def mn_136 : MethodName := ⟨"ReadBound", "boards", "(III)I"⟩
theorem md_136 : (mc_136.all fun q => decide (decode prog_1_method_28_code q.1 = .ok (q.2.1, q.2.2))) = true := by decide +kernel
def mn_137 : MethodName := ⟨"ReadBound", "posts", "(II)I"⟩
theorem md_137 : (mc_137.all fun q => decide (decode prog_1_method_29_code q.1 = .ok (q.2.1, q.2.2))) = true := by decide +kernel
def mn_138 : MethodName := ⟨"ReadBound", "posted", "()I"⟩
theorem md_138 : (mc_138.all fun q => decide (decode prog_1_method_30_code q.1 = .ok (q.2.1, q.2.2))) = true := by decide +kernel
def mn_139 : MethodName := ⟨"ReadBound", "reads", "(I)I"⟩
theorem md_139 : (mc_139.all fun q => decide (decode prog_1_method_31_code q.1 = .ok (q.2.1, q.2.2))) = true := by decide +kernel
def mn_140 : MethodName := ⟨"ReadBound", "surely", "()I"⟩
theorem md_140 : (mc_140.all fun q => decide (decode prog_1_method_32_code q.1 = .ok (q.2.1, q.2.2))) = true := by decide +kernel
def mn_141 : MethodName := ⟨"ReadBound", "when", "(III)I"⟩
theorem md_141 : (mc_141.all fun q => decide (decode prog_1_method_33_code q.1 = .ok (q.2.1, q.2.2))) = true := by decide +kernel
def mn_142 : MethodName := ⟨"ReadBound", "clerks", "(I)I"⟩
theorem md_142 : (mc_142.all fun q => decide (decode prog_1_method_34_code q.1 = .ok (q.2.1, q.2.2))) = true := by decide +kernel
def mn_143 : MethodName := ⟨"ReadBound", "drawn", "(II)I"⟩
theorem md_143 : (mc_143.all fun q => decide (decode prog_1_method_35_code q.1 = .ok (q.2.1, q.2.2))) = true := by decide +kernel
def mn_144 : MethodName := ⟨"ReadBound", "odds", "(III)I"⟩
theorem md_144 : (mc_144.all fun q => decide (decode prog_1_method_36_code q.1 = .ok (q.2.1, q.2.2))) = true := by decide +kernel
def mn_145 : MethodName := ⟨"ReadBound", "diary", "(I)I"⟩
theorem md_145 : (mc_145.all fun q => decide (decode prog_1_method_37_code q.1 = .ok (q.2.1, q.2.2))) = true := by decide +kernel
def mn_146 : MethodName := ⟨"ReadBound", "told", "(I)I"⟩
theorem md_146 : (mc_146.all fun q => decide (decode prog_1_method_38_code q.1 = .ok (q.2.1, q.2.2))) = true := by decide +kernel
def mn_147 : MethodName := ⟨"ReadBound", "sentence", "()I"⟩
theorem md_147 : (mc_147.all fun q => decide (decode prog_1_method_39_code q.1 = .ok (q.2.1, q.2.2))) = true := by decide +kernel
def mn_148 : MethodName := ⟨"ReadBound", "said", "(I)I"⟩
theorem md_148 : (mc_148.all fun q => decide (decode prog_1_method_40_code q.1 = .ok (q.2.1, q.2.2))) = true := by decide +kernel
def mn_149 : MethodName := ⟨"ReadBound", "image", "(I)Z"⟩
theorem md_149 : (mc_149.all fun q => decide (decode prog_1_method_41_code q.1 = .ok (q.2.1, q.2.2))) = true := by decide +kernel
def mn_150 : MethodName := ⟨"ReadBound", "restore", "(I)Z"⟩
theorem md_150 : (mc_150.all fun q => decide (decode prog_1_method_42_code q.1 = .ok (q.2.1, q.2.2))) = true := by decide +kernel
def mn_151 : MethodName := ⟨"ReadBound", "count", "(I)I"⟩
theorem md_151 : (mc_151.all fun q => decide (decode prog_1_method_43_code q.1 = .ok (q.2.1, q.2.2))) = true := by decide +kernel
def mn_152 : MethodName := ⟨"ReadBound", "isOne", "(II)Z"⟩
theorem md_152 : (mc_152.all fun q => decide (decode prog_1_method_44_code q.1 = .ok (q.2.1, q.2.2))) = true := by decide +kernel
def mn_153 : MethodName := ⟨"ReadBound", "areBits", "(II)Z"⟩
theorem md_153 : (mc_153.all fun q => decide (decode prog_1_method_45_code q.1 = .ok (q.2.1, q.2.2))) = true := by decide +kernel
def mn_154 : MethodName := ⟨"ReadBound", "isManAndLaw", "(II)Z"⟩
theorem md_154 : (mc_154.all fun q => decide (decode prog_1_method_46_code q.1 = .ok (q.2.1, q.2.2))) = true := by decide +kernel
def mn_155 : MethodName := ⟨"ReadBound", "imageIn", "(I)LReadBound$Image;"⟩
theorem md_155 : (mc_155.all fun q => decide (decode prog_1_method_47_code q.1 = .ok (q.2.1, q.2.2))) = true := by decide +kernel
def mn_156 : MethodName := ⟨"ReadBound", "attempt", "(III)I"⟩
theorem md_156 : (mc_156.all fun q => decide (decode prog_1_method_48_code q.1 = .ok (q.2.1, q.2.2))) = true := by decide +kernel
def mn_157 : MethodName := ⟨"ReadBound", "menWhoHaveAll", "(II)I"⟩
theorem md_157 : (mc_157.all fun q => decide (decode prog_1_method_49_code q.1 = .ok (q.2.1, q.2.2))) = true := by decide +kernel
def mn_158 : MethodName := ⟨"ReadBound", "judge", "(LReadBound$Life;)I"⟩
theorem md_158 : (mc_158.all fun q => decide (decode prog_1_method_50_code q.1 = .ok (q.2.1, q.2.2))) = true := by decide +kernel
def mn_159 : MethodName := ⟨"ReadBound", "at", "([II)I"⟩
theorem md_159 : (mc_159.all fun q => decide (decode prog_1_method_51_code q.1 = .ok (q.2.1, q.2.2))) = true := by decide +kernel
def mn_160 : MethodName := ⟨"ReadBound", "put", "([III)V"⟩
theorem md_160 : (mc_160.all fun q => decide (decode prog_1_method_52_code q.1 = .ok (q.2.1, q.2.2))) = true := by decide +kernel
def mn_161 : MethodName := ⟨"ReadBound", "copy", "([I[I)V"⟩
theorem md_161 : (mc_161.all fun q => decide (decode prog_1_method_53_code q.1 = .ok (q.2.1, q.2.2))) = true := by decide +kernel
def mn_162 : MethodName := ⟨"ReadBoundModel", "throwsIf", "(Z)Z"⟩
theorem md_162 : (mc_162.all fun q => decide (decode prog_13_method_2_code q.1 = .ok (q.2.1, q.2.2))) = true := by decide +kernel
def mn_163 : MethodName := ⟨"ReadBoundModel", "feed", "(IIIII)I"⟩
theorem md_163 : (mc_163.all fun q => decide (decode prog_13_method_3_code q.1 = .ok (q.2.1, q.2.2))) = true := by decide +kernel
def mn_164 : MethodName := ⟨"ReadBoundModel", "four", "(I)V"⟩
theorem md_164 : (mc_164.all fun q => decide (decode prog_13_method_4_code q.1 = .ok (q.2.1, q.2.2))) = true := by decide +kernel
def mn_165 : MethodName := ⟨"ReadBoundModel", "end", "(I)Z"⟩
theorem md_165 : (mc_165.all fun q => decide (decode prog_13_method_5_code q.1 = .ok (q.2.1, q.2.2))) = true := by decide +kernel
def mn_166 : MethodName := ⟨"ReadBoundModel", "taken", "(I)V"⟩
theorem md_166 : (mc_166.all fun q => decide (decode prog_13_method_6_code q.1 = .ok (q.2.1, q.2.2))) = true := by decide +kernel
def mn_167 : MethodName := ⟨"ReadBoundModel", "isIn", "(III)Z"⟩
theorem md_167 : (mc_167.all fun q => decide (decode prog_13_method_7_code q.1 = .ok (q.2.1, q.2.2))) = true := by decide +kernel
def mn_168 : MethodName := ⟨"ReadBoundModel", "bitOf", "(II)Z"⟩
theorem md_168 : (mc_168.all fun q => decide (decode prog_13_method_8_code q.1 = .ok (q.2.1, q.2.2))) = true := by decide +kernel
def mn_169 : MethodName := ⟨"ReadBoundModel", "lesser", "(II)I"⟩
theorem md_169 : (mc_169.all fun q => decide (decode prog_13_method_9_code q.1 = .ok (q.2.1, q.2.2))) = true := by decide +kernel
def mn_170 : MethodName := ⟨"ReadBoundModel", "greater", "(II)I"⟩
theorem md_170 : (mc_170.all fun q => decide (decode prog_13_method_10_code q.1 = .ok (q.2.1, q.2.2))) = true := by decide +kernel
def mn_171 : MethodName := ⟨"ReadBoundModel", "bits", "(I)I"⟩
theorem md_171 : (mc_171.all fun q => decide (decode prog_13_method_11_code q.1 = .ok (q.2.1, q.2.2))) = true := by decide +kernel
def mn_172 : MethodName := ⟨"ReadBoundModel", "<init>", "()V"⟩
theorem md_172 : (mc_172.all fun q => decide (decode prog_13_method_12_code q.1 = .ok (q.2.1, q.2.2))) = true := by decide +kernel
def mn_173 : MethodName := ⟨"ReadBoundModel", "peek", "()I"⟩
theorem md_173 : (mc_173.all fun q => decide (decode prog_13_method_13_code q.1 = .ok (q.2.1, q.2.2))) = true := by decide +kernel
def mn_174 : MethodName := ⟨"ReadBoundModel", "isSmall", "(I)Z"⟩
theorem md_174 : (mc_174.all fun q => decide (decode prog_13_method_14_code q.1 = .ok (q.2.1, q.2.2))) = true := by decide +kernel
def mn_175 : MethodName := ⟨"ReadBoundModel", "isDigit", "(I)Z"⟩
theorem md_175 : (mc_175.all fun q => decide (decode prog_13_method_15_code q.1 = .ok (q.2.1, q.2.2))) = true := by decide +kernel
def mn_176 : MethodName := ⟨"ReadBoundModel", "skip", "()V"⟩
theorem md_176 : (mc_176.all fun q => decide (decode prog_13_method_16_code q.1 = .ok (q.2.1, q.2.2))) = true := by decide +kernel
def mn_177 : MethodName := ⟨"ReadBoundModel", "bad", "(I)Z"⟩
theorem md_177 : (mc_177.all fun q => decide (decode prog_13_method_17_code q.1 = .ok (q.2.1, q.2.2))) = true := by decide +kernel
def mn_178 : MethodName := ⟨"ReadBoundModel", "isWord", "(J)Z"⟩
theorem md_178 : (mc_178.all fun q => decide (decode prog_13_method_18_code q.1 = .ok (q.2.1, q.2.2))) = true := by decide +kernel
def mn_179 : MethodName := ⟨"ReadBoundModel", "isSign", "(I)Z"⟩
theorem md_179 : (mc_179.all fun q => decide (decode prog_13_method_19_code q.1 = .ok (q.2.1, q.2.2))) = true := by decide +kernel
def mn_180 : MethodName := ⟨"ReadBoundModel", "sign", "(I)Z"⟩
theorem md_180 : (mc_180.all fun q => decide (decode prog_13_method_20_code q.1 = .ok (q.2.1, q.2.2))) = true := by decide +kernel
def mn_181 : MethodName := ⟨"ReadBoundModel", "isName", "()Z"⟩
theorem md_181 : (mc_181.all fun q => decide (decode prog_13_method_21_code q.1 = .ok (q.2.1, q.2.2))) = true := by decide +kernel
def mn_182 : MethodName := ⟨"ReadBoundModel", "takes", "(II)Z"⟩
theorem md_182 : (mc_182.all fun q => decide (decode prog_13_method_22_code q.1 = .ok (q.2.1, q.2.2))) = true := by decide +kernel
def mn_183 : MethodName := ⟨"ReadBoundModel", "puts", "(III)Z"⟩
theorem md_183 : (mc_183.all fun q => decide (decode prog_13_method_23_code q.1 = .ok (q.2.1, q.2.2))) = true := by decide +kernel
def mn_184 : MethodName := ⟨"ReadBoundModel", "find", "(II)I"⟩
theorem md_184 : (mc_184.all fun q => decide (decode prog_13_method_24_code q.1 = .ok (q.2.1, q.2.2))) = true := by decide +kernel
def mn_185 : MethodName := ⟨"ReadBoundModel", "fresh", "(I)Z"⟩
theorem md_185 : (mc_185.all fun q => decide (decode prog_13_method_25_code q.1 = .ok (q.2.1, q.2.2))) = true := by decide +kernel
def mn_186 : MethodName := ⟨"ReadBoundModel", "looksAt", "(II)Z"⟩
theorem md_186 : (mc_186.all fun q => decide (decode prog_13_method_26_code q.1 = .ok (q.2.1, q.2.2))) = true := by decide +kernel
def mn_187 : MethodName := ⟨"ReadBoundModel", "takesName", "(II)Z"⟩
theorem md_187 : (mc_187.all fun q => decide (decode prog_13_method_27_code q.1 = .ok (q.2.1, q.2.2))) = true := by decide +kernel
def mn_188 : MethodName := ⟨"ReadBoundModel", "line", "()Z"⟩
theorem md_188 : (mc_188.all fun q => decide (decode prog_13_method_28_code q.1 = .ok (q.2.1, q.2.2))) = true := by decide +kernel
def mn_189 : MethodName := ⟨"ReadBoundModel", "readRoad", "()Z"⟩
theorem md_189 : (mc_189.all fun q => decide (decode prog_13_method_29_code q.1 = .ok (q.2.1, q.2.2))) = true := by decide +kernel
def mn_190 : MethodName := ⟨"ReadBoundModel", "readLaw", "(Z)Z"⟩
theorem md_190 : (mc_190.all fun q => decide (decode prog_13_method_30_code q.1 = .ok (q.2.1, q.2.2))) = true := by decide +kernel
def mn_191 : MethodName := ⟨"ReadBoundModel", "readRound", "()Z"⟩
theorem md_191 : (mc_191.all fun q => decide (decode prog_13_method_31_code q.1 = .ok (q.2.1, q.2.2))) = true := by decide +kernel
def mn_192 : MethodName := ⟨"ReadBoundModel", "land", "()I"⟩
theorem md_192 : (mc_192.all fun q => decide (decode prog_13_method_32_code q.1 = .ok (q.2.1, q.2.2))) = true := by decide +kernel
def mn_193 : MethodName := ⟨"ReadBoundModel", "fault", "()I"⟩
theorem md_193 : (mc_193.all fun q => decide (decode prog_13_method_33_code q.1 = .ok (q.2.1, q.2.2))) = true := by decide +kernel
def mn_194 : MethodName := ⟨"ReadBoundModel", "isPlace", "(I)Z"⟩
theorem md_194 : (mc_194.all fun q => decide (decode prog_13_method_34_code q.1 = .ok (q.2.1, q.2.2))) = true := by decide +kernel
def mn_195 : MethodName := ⟨"ReadBoundModel", "isDeed", "(I)Z"⟩
theorem md_195 : (mc_195.all fun q => decide (decode prog_13_method_35_code q.1 = .ok (q.2.1, q.2.2))) = true := by decide +kernel
def mn_196 : MethodName := ⟨"ReadBoundModel", "isLaw", "(I)Z"⟩
theorem md_196 : (mc_196.all fun q => decide (decode prog_13_method_36_code q.1 = .ok (q.2.1, q.2.2))) = true := by decide +kernel
def mn_197 : MethodName := ⟨"ReadBoundModel", "isMan", "(I)Z"⟩
theorem md_197 : (mc_197.all fun q => decide (decode prog_13_method_37_code q.1 = .ok (q.2.1, q.2.2))) = true := by decide +kernel
def mn_198 : MethodName := ⟨"ReadBoundModel", "cell", "(II)I"⟩
theorem md_198 : (mc_198.all fun q => decide (decode prog_13_method_38_code q.1 = .ok (q.2.1, q.2.2))) = true := by decide +kernel
def mn_199 : MethodName := ⟨"ReadBoundModel", "has", "(III)V"⟩
theorem md_199 : (mc_199.all fun q => decide (decode prog_13_method_39_code q.1 = .ok (q.2.1, q.2.2))) = true := by decide +kernel
def mn_200 : MethodName := ⟨"ReadBoundModel", "reads", "(II)V"⟩
theorem md_200 : (mc_200.all fun q => decide (decode prog_13_method_40_code q.1 = .ok (q.2.1, q.2.2))) = true := by decide +kernel
def mn_201 : MethodName := ⟨"ReadBoundModel", "readsAll", "(I)V"⟩
theorem md_201 : (mc_201.all fun q => decide (decode prog_13_method_41_code q.1 = .ok (q.2.1, q.2.2))) = true := by decide +kernel
def mn_202 : MethodName := ⟨"ReadBoundModel", "stateOf", "(II)I"⟩
theorem md_202 : (mc_202.all fun q => decide (decode prog_13_method_42_code q.1 = .ok (q.2.1, q.2.2))) = true := by decide +kernel
def mn_203 : MethodName := ⟨"ReadBoundModel", "isRepealed", "(II)Z"⟩
theorem md_203 : (mc_203.all fun q => decide (decode prog_13_method_43_code q.1 = .ok (q.2.1, q.2.2))) = true := by decide +kernel
def mn_204 : MethodName := ⟨"ReadBoundModel", "doesBind", "(II)Z"⟩
theorem md_204 : (mc_204.all fun q => decide (decode prog_13_method_44_code q.1 = .ok (q.2.1, q.2.2))) = true := by decide +kernel
def mn_205 : MethodName := ⟨"ReadBoundModel", "bindsOf", "(I)I"⟩
theorem md_205 : (mc_205.all fun q => decide (decode prog_13_method_45_code q.1 = .ok (q.2.1, q.2.2))) = true := by decide +kernel
def mn_206 : MethodName := ⟨"ReadBoundModel", "forbiddenBy", "(I)I"⟩
theorem md_206 : (mc_206.all fun q => decide (decode prog_13_method_46_code q.1 = .ok (q.2.1, q.2.2))) = true := by decide +kernel
def mn_207 : MethodName := ⟨"ReadBoundModel", "barredOf", "(I)I"⟩
theorem md_207 : (mc_207.all fun q => decide (decode prog_13_method_47_code q.1 = .ok (q.2.1, q.2.2))) = true := by decide +kernel
def mn_208 : MethodName := ⟨"ReadBoundModel", "wordsOf", "(I)I"⟩
theorem md_208 : (mc_208.all fun q => decide (decode prog_13_method_48_code q.1 = .ok (q.2.1, q.2.2))) = true := by decide +kernel
def mn_209 : MethodName := ⟨"ReadBoundModel", "law", "(II)I"⟩
theorem md_209 : (mc_209.all fun q => decide (decode prog_13_method_49_code q.1 = .ok (q.2.1, q.2.2))) = true := by decide +kernel
def mn_210 : MethodName := ⟨"ReadBoundModel", "man", "(II)I"⟩
theorem md_210 : (mc_210.all fun q => decide (decode prog_13_method_50_code q.1 = .ok (q.2.1, q.2.2))) = true := by decide +kernel
def mn_211 : MethodName := ⟨"ReadBoundModel", "place", "(II)I"⟩
theorem md_211 : (mc_211.all fun q => decide (decode prog_13_method_51_code q.1 = .ok (q.2.1, q.2.2))) = true := by decide +kernel
def mn_212 : MethodName := ⟨"ReadBoundModel", "freeMen", "()I"⟩
theorem md_212 : (mc_212.all fun q => decide (decode prog_13_method_52_code q.1 = .ok (q.2.1, q.2.2))) = true := by decide +kernel
def mn_213 : MethodName := ⟨"ReadBoundModel", "now", "(I)I"⟩
theorem md_213 : (mc_213.all fun q => decide (decode prog_13_method_53_code q.1 = .ok (q.2.1, q.2.2))) = true := by decide +kernel
def mn_214 : MethodName := ⟨"ReadBoundModel", "whyGo", "(II)I"⟩
theorem md_214 : (mc_214.all fun q => decide (decode prog_13_method_54_code q.1 = .ok (q.2.1, q.2.2))) = true := by decide +kernel
def mn_215 : MethodName := ⟨"ReadBoundModel", "comes", "(II)V"⟩
theorem md_215 : (mc_215.all fun q => decide (decode prog_13_method_55_code q.1 = .ok (q.2.1, q.2.2))) = true := by decide +kernel
def mn_216 : MethodName := ⟨"ReadBoundModel", "goes", "(II)V"⟩
theorem md_216 : (mc_216.all fun q => decide (decode prog_13_method_56_code q.1 = .ok (q.2.1, q.2.2))) = true := by decide +kernel
def mn_217 : MethodName := ⟨"ReadBoundModel", "whyAct", "(II)I"⟩
theorem md_217 : (mc_217.all fun q => decide (decode prog_13_method_57_code q.1 = .ok (q.2.1, q.2.2))) = true := by decide +kernel
def mn_218 : MethodName := ⟨"ReadBoundModel", "acts", "(I)V"⟩
theorem md_218 : (mc_218.all fun q => decide (decode prog_13_method_58_code q.1 = .ok (q.2.1, q.2.2))) = true := by decide +kernel
def mn_219 : MethodName := ⟨"ReadBoundModel", "whyWear", "(II)I"⟩
theorem md_219 : (mc_219.all fun q => decide (decode prog_13_method_59_code q.1 = .ok (q.2.1, q.2.2))) = true := by decide +kernel
def mn_220 : MethodName := ⟨"ReadBoundModel", "wears", "(II)V"⟩
theorem md_220 : (mc_220.all fun q => decide (decode prog_13_method_60_code q.1 = .ok (q.2.1, q.2.2))) = true := by decide +kernel
def mn_221 : MethodName := ⟨"ReadBoundModel", "whyFever", "(I)I"⟩
theorem md_221 : (mc_221.all fun q => decide (decode prog_13_method_61_code q.1 = .ok (q.2.1, q.2.2))) = true := by decide +kernel
def mn_222 : MethodName := ⟨"ReadBoundModel", "fevers", "(I)V"⟩
theorem md_222 : (mc_222.all fun q => decide (decode prog_13_method_62_code q.1 = .ok (q.2.1, q.2.2))) = true := by decide +kernel
def mn_223 : MethodName := ⟨"ReadBoundModel", "whyPost", "(II)I"⟩
theorem md_223 : (mc_223.all fun q => decide (decode prog_13_method_63_code q.1 = .ok (q.2.1, q.2.2))) = true := by decide +kernel
def mn_224 : MethodName := ⟨"ReadBoundModel", "putsUp", "(II)V"⟩
theorem md_224 : (mc_224.all fun q => decide (decode prog_13_method_64_code q.1 = .ok (q.2.1, q.2.2))) = true := by decide +kernel
def mn_225 : MethodName := ⟨"ReadBoundModel", "whyRain", "(I)I"⟩
theorem md_225 : (mc_225.all fun q => decide (decode prog_13_method_65_code q.1 = .ok (q.2.1, q.2.2))) = true := by decide +kernel
def mn_226 : MethodName := ⟨"ReadBoundModel", "rains", "(I)V"⟩
theorem md_226 : (mc_226.all fun q => decide (decode prog_13_method_66_code q.1 = .ok (q.2.1, q.2.2))) = true := by decide +kernel
def mn_227 : MethodName := ⟨"ReadBoundModel", "walks", "(I)V"⟩
theorem md_227 : (mc_227.all fun q => decide (decode prog_13_method_67_code q.1 = .ok (q.2.1, q.2.2))) = true := by decide +kernel
def mn_228 : MethodName := ⟨"ReadBoundModel", "day", "()V"⟩
theorem md_228 : (mc_228.all fun q => decide (decode prog_13_method_68_code q.1 = .ok (q.2.1, q.2.2))) = true := by decide +kernel
def mn_229 : MethodName := ⟨"ReadBoundModel", "goesOn", "(I)I"⟩
theorem md_229 : (mc_229.all fun q => decide (decode prog_13_method_69_code q.1 = .ok (q.2.1, q.2.2))) = true := by decide +kernel
def mn_230 : MethodName := ⟨"ReadBoundModel", "go", "(II)I"⟩
theorem md_230 : (mc_230.all fun q => decide (decode prog_13_method_70_code q.1 = .ok (q.2.1, q.2.2))) = true := by decide +kernel
def mn_231 : MethodName := ⟨"ReadBoundModel", "act", "(II)I"⟩
theorem md_231 : (mc_231.all fun q => decide (decode prog_13_method_71_code q.1 = .ok (q.2.1, q.2.2))) = true := by decide +kernel
def mn_232 : MethodName := ⟨"ReadBoundModel", "wear", "(II)I"⟩
theorem md_232 : (mc_232.all fun q => decide (decode prog_13_method_72_code q.1 = .ok (q.2.1, q.2.2))) = true := by decide +kernel
def mn_233 : MethodName := ⟨"ReadBoundModel", "fever", "(I)I"⟩
theorem md_233 : (mc_233.all fun q => decide (decode prog_13_method_73_code q.1 = .ok (q.2.1, q.2.2))) = true := by decide +kernel
def mn_234 : MethodName := ⟨"ReadBoundModel", "post", "(II)I"⟩
theorem md_234 : (mc_234.all fun q => decide (decode prog_13_method_74_code q.1 = .ok (q.2.1, q.2.2))) = true := by decide +kernel
def mn_235 : MethodName := ⟨"ReadBoundModel", "rain", "(I)I"⟩
theorem md_235 : (mc_235.all fun q => decide (decode prog_13_method_75_code q.1 = .ok (q.2.1, q.2.2))) = true := by decide +kernel
def mn_236 : MethodName := ⟨"ReadBoundModel", "days", "(I)I"⟩
theorem md_236 : (mc_236.all fun q => decide (decode prog_13_method_76_code q.1 = .ok (q.2.1, q.2.2))) = true := by decide +kernel
def mn_237 : MethodName := ⟨"ReadBoundModel", "keep", "()V"⟩
theorem md_237 : (mc_237.all fun q => decide (decode prog_13_method_77_code q.1 = .ok (q.2.1, q.2.2))) = true := by decide +kernel
def mn_238 : MethodName := ⟨"ReadBoundModel", "undo", "()I"⟩
theorem md_238 : (mc_238.all fun q => decide (decode prog_13_method_78_code q.1 = .ok (q.2.1, q.2.2))) = true := by decide +kernel
def mn_239 : MethodName := ⟨"ReadBoundModel", "tries", "()V"⟩
theorem md_239 : (mc_239.all fun q => decide (decode prog_13_method_79_code q.1 = .ok (q.2.1, q.2.2))) = true := by decide +kernel
def mn_240 : MethodName := ⟨"ReadBoundModel", "back", "()V"⟩
theorem md_240 : (mc_240.all fun q => decide (decode prog_13_method_80_code q.1 = .ok (q.2.1, q.2.2))) = true := by decide +kernel
def mn_241 : MethodName := ⟨"ReadBoundModel", "words", "(II)I"⟩
theorem md_241 : (mc_241.all fun q => decide (decode prog_13_method_81_code q.1 = .ok (q.2.1, q.2.2))) = true := by decide +kernel
def mn_242 : MethodName := ⟨"ReadBoundModel", "state", "(II)I"⟩
theorem md_242 : (mc_242.all fun q => decide (decode prog_13_method_82_code q.1 = .ok (q.2.1, q.2.2))) = true := by decide +kernel
def mn_243 : MethodName := ⟨"ReadBoundModel", "binds", "(I)I"⟩
theorem md_243 : (mc_243.all fun q => decide (decode prog_13_method_83_code q.1 = .ok (q.2.1, q.2.2))) = true := by decide +kernel
def mn_244 : MethodName := ⟨"ReadBoundModel", "barred", "(I)I"⟩
theorem md_244 : (mc_244.all fun q => decide (decode prog_13_method_84_code q.1 = .ok (q.2.1, q.2.2))) = true := by decide +kernel
def mn_245 : MethodName := ⟨"ReadBoundModel", "lifted", "(I)I"⟩
theorem md_245 : (mc_245.all fun q => decide (decode prog_13_method_85_code q.1 = .ok (q.2.1, q.2.2))) = true := by decide +kernel
def mn_246 : MethodName := ⟨"ReadBoundModel", "bound", "(I)I"⟩
theorem md_246 : (mc_246.all fun q => decide (decode prog_13_method_86_code q.1 = .ok (q.2.1, q.2.2))) = true := by decide +kernel
def mn_247 : MethodName := ⟨"ReadBoundModel", "forgets", "(II)I"⟩
theorem md_247 : (mc_247.all fun q => decide (decode prog_13_method_87_code q.1 = .ok (q.2.1, q.2.2))) = true := by decide +kernel
def mn_248 : MethodName := ⟨"ReadBoundModel", "clerks", "(I)I"⟩
theorem md_248 : (mc_248.all fun q => decide (decode prog_13_method_88_code q.1 = .ok (q.2.1, q.2.2))) = true := by decide +kernel
def mn_249 : MethodName := ⟨"ReadBoundModel", "canEnter", "(II)Z"⟩
theorem md_249 : (mc_249.all fun q => decide (decode prog_13_method_89_code q.1 = .ok (q.2.1, q.2.2))) = true := by decide +kernel
def mn_250 : MethodName := ⟨"ReadBoundModel", "wayOf", "(III)I"⟩
theorem md_250 : (mc_250.all fun q => decide (decode prog_13_method_90_code q.1 = .ok (q.2.1, q.2.2))) = true := by decide +kernel
def mn_251 : MethodName := ⟨"ReadBoundModel", "way", "(III)I"⟩
theorem md_251 : (mc_251.all fun q => decide (decode prog_13_method_91_code q.1 = .ok (q.2.1, q.2.2))) = true := by decide +kernel
def mn_252 : MethodName := ⟨"ReadBoundModel", "step", "(I)I"⟩
theorem md_252 : (mc_252.all fun q => decide (decode prog_13_method_92_code q.1 = .ok (q.2.1, q.2.2))) = true := by decide +kernel
def mn_253 : MethodName := ⟨"ReadBoundModel", "meets", "(II)I"⟩
theorem md_253 : (mc_253.all fun q => decide (decode prog_13_method_93_code q.1 = .ok (q.2.1, q.2.2))) = true := by decide +kernel
def mn_254 : MethodName := ⟨"ReadBoundModel", "isUnread", "(III)Z"⟩
theorem md_254 : (mc_254.all fun q => decide (decode prog_13_method_94_code q.1 = .ok (q.2.1, q.2.2))) = true := by decide +kernel
def mn_255 : MethodName := ⟨"ReadBoundModel", "boards", "(III)I"⟩
theorem md_255 : (mc_255.all fun q => decide (decode prog_13_method_95_code q.1 = .ok (q.2.1, q.2.2))) = true := by decide +kernel
def mn_256 : MethodName := ⟨"ReadBoundModel", "readersOf", "(I)I"⟩
theorem md_256 : (mc_256.all fun q => decide (decode prog_13_method_96_code q.1 = .ok (q.2.1, q.2.2))) = true := by decide +kernel
def mn_257 : MethodName := ⟨"ReadBoundModel", "posts", "(II)I"⟩
theorem md_257 : (mc_257.all fun q => decide (decode prog_13_method_97_code q.1 = .ok (q.2.1, q.2.2))) = true := by decide +kernel
def mn_258 : MethodName := ⟨"ReadBoundModel", "posted", "()I"⟩
theorem md_258 : (mc_258.all fun q => decide (decode prog_13_method_98_code q.1 = .ok (q.2.1, q.2.2))) = true := by decide +kernel
def mn_259 : MethodName := ⟨"ReadBoundModel", "reads", "(I)I"⟩
theorem md_259 : (mc_259.all fun q => decide (decode prog_13_method_99_code q.1 = .ok (q.2.1, q.2.2))) = true := by decide +kernel
def mn_260 : MethodName := ⟨"ReadBoundModel", "surely", "()I"⟩
theorem md_260 : (mc_260.all fun q => decide (decode prog_13_method_100_code q.1 = .ok (q.2.1, q.2.2))) = true := by decide +kernel
def mn_261 : MethodName := ⟨"ReadBoundModel", "when", "(III)I"⟩
theorem md_261 : (mc_261.all fun q => decide (decode prog_13_method_101_code q.1 = .ok (q.2.1, q.2.2))) = true := by decide +kernel
def mn_262 : MethodName := ⟨"ReadBoundModel", "draw", "(I)I"⟩
theorem md_262 : (mc_262.all fun q => decide (decode prog_13_method_102_code q.1 = .ok (q.2.1, q.2.2))) = true := by decide +kernel
def mn_263 : MethodName := ⟨"ReadBoundModel", "draws", "(II)I"⟩
theorem md_263 : (mc_263.all fun q => decide (decode prog_13_method_103_code q.1 = .ok (q.2.1, q.2.2))) = true := by decide +kernel
def mn_264 : MethodName := ⟨"ReadBoundModel", "drawn", "(II)I"⟩
theorem md_264 : (mc_264.all fun q => decide (decode prog_13_method_104_code q.1 = .ok (q.2.1, q.2.2))) = true := by decide +kernel
def mn_265 : MethodName := ⟨"ReadBoundModel", "odds", "(III)I"⟩
theorem md_265 : (mc_265.all fun q => decide (decode prog_13_method_105_code q.1 = .ok (q.2.1, q.2.2))) = true := by decide +kernel
def mn_266 : MethodName := ⟨"ReadBoundModel", "bookLine", "()Z"⟩
theorem md_266 : (mc_266.all fun q => decide (decode prog_13_method_106_code q.1 = .ok (q.2.1, q.2.2))) = true := by decide +kernel
def mn_267 : MethodName := ⟨"ReadBoundModel", "putsName", "(III)Z"⟩
theorem md_267 : (mc_267.all fun q => decide (decode prog_13_method_107_code q.1 = .ok (q.2.1, q.2.2))) = true := by decide +kernel
def mn_268 : MethodName := ⟨"ReadBoundModel", "whyLine", "(III)I"⟩
theorem md_268 : (mc_268.all fun q => decide (decode prog_13_method_108_code q.1 = .ok (q.2.1, q.2.2))) = true := by decide +kernel
def mn_269 : MethodName := ⟨"ReadBoundModel", "livesLine", "(III)V"⟩
theorem md_269 : (mc_269.all fun q => decide (decode prog_13_method_109_code q.1 = .ok (q.2.1, q.2.2))) = true := by decide +kernel
def mn_270 : MethodName := ⟨"ReadBoundModel", "diary", "(I)I"⟩
theorem md_270 : (mc_270.all fun q => decide (decode prog_13_method_110_code q.1 = .ok (q.2.1, q.2.2))) = true := by decide +kernel
def mn_271 : MethodName := ⟨"ReadBoundModel", "told", "(I)I"⟩
theorem md_271 : (mc_271.all fun q => decide (decode prog_13_method_111_code q.1 = .ok (q.2.1, q.2.2))) = true := by decide +kernel
def mn_272 : MethodName := ⟨"ReadBoundModel", "code", "(III)V"⟩
theorem md_272 : (mc_272.all fun q => decide (decode prog_13_method_112_code q.1 = .ok (q.2.1, q.2.2))) = true := by decide +kernel
def mn_273 : MethodName := ⟨"ReadBoundModel", "joins", "(I)V"⟩
theorem md_273 : (mc_273.all fun q => decide (decode prog_13_method_113_code q.1 = .ok (q.2.1, q.2.2))) = true := by decide +kernel
def mn_274 : MethodName := ⟨"ReadBoundModel", "nots", "()V"⟩
theorem md_274 : (mc_274.all fun q => decide (decode prog_13_method_114_code q.1 = .ok (q.2.1, q.2.2))) = true := by decide +kernel
def mn_275 : MethodName := ⟨"ReadBoundModel", "leafOf", "()I"⟩
theorem md_275 : (mc_275.all fun q => decide (decode prog_13_method_115_code q.1 = .ok (q.2.1, q.2.2))) = true := by decide +kernel
def mn_276 : MethodName := ⟨"ReadBoundModel", "operand", "()Z"⟩
theorem md_276 : (mc_276.all fun q => decide (decode prog_13_method_116_code q.1 = .ok (q.2.1, q.2.2))) = true := by decide +kernel
def mn_277 : MethodName := ⟨"ReadBoundModel", "behind", "()Z"⟩
theorem md_277 : (mc_277.all fun q => decide (decode prog_13_method_117_code q.1 = .ok (q.2.1, q.2.2))) = true := by decide +kernel
def mn_278 : MethodName := ⟨"ReadBoundModel", "sentence", "()I"⟩
theorem md_278 : (mc_278.all fun q => decide (decode prog_13_method_118_code q.1 = .ok (q.2.1, q.2.2))) = true := by decide +kernel
def mn_279 : MethodName := ⟨"ReadBoundModel", "isLeaf", "(IIII)Z"⟩
theorem md_279 : (mc_279.all fun q => decide (decode prog_13_method_119_code q.1 = .ok (q.2.1, q.2.2))) = true := by decide +kernel
def mn_280 : MethodName := ⟨"ReadBoundModel", "isSaid", "(I)Z"⟩
theorem md_280 : (mc_280.all fun q => decide (decode prog_13_method_120_code q.1 = .ok (q.2.1, q.2.2))) = true := by decide +kernel
def mn_281 : MethodName := ⟨"ReadBoundModel", "said", "(I)I"⟩
theorem md_281 : (mc_281.all fun q => decide (decode prog_13_method_121_code q.1 = .ok (q.2.1, q.2.2))) = true := by decide +kernel
def mn_282 : MethodName := ⟨"ReadBoundModel", "image", "(I)Z"⟩
theorem md_282 : (mc_282.all fun q => decide (decode prog_13_method_122_code q.1 = .ok (q.2.1, q.2.2))) = true := by decide +kernel
def mn_283 : MethodName := ⟨"ReadBoundModel", "restore", "(I)Z"⟩
theorem md_283 : (mc_283.all fun q => decide (decode prog_13_method_123_code q.1 = .ok (q.2.1, q.2.2))) = true := by decide +kernel
def mn_284 : MethodName := ⟨"ReadBoundModel", "count", "(I)I"⟩
theorem md_284 : (mc_284.all fun q => decide (decode prog_13_method_124_code q.1 = .ok (q.2.1, q.2.2))) = true := by decide +kernel
def mn_285 : MethodName := ⟨"java/lang/Integer", "bitCount", "(I)I"⟩
theorem md_285 : (mc_285.all fun q => decide (decode prog_18_method_49_code q.1 = .ok (q.2.1, q.2.2))) = true := by decide +kernel
