section
/-- a private method of a class that the tables say can be made, by its rows of tables_1 -/
def lw_okq (q : MethodName × Nat) : Prop := (q.1.cls ≠ "java/lang/invoke/MethodHandle" ∧ q.1.cls ≠ "java/lang/invoke/VarHandle") ∧ Cond.instantiable q.1.cls q.2 ∈ tables_1 ∧ Cond.privateMethod q.1 ∈ tables_1 ∧ Cond.instanceMethod q.1 ∈ tables_1
theorem lw_p0 : lw_okq (⟨"CubicBench$Division", "findRoots", "()V"⟩, 13) := ⟨⟨by decide +kernel, by decide +kernel⟩, List.mem_of_getElem? (i := 296) (by decide +kernel), List.mem_of_getElem? (i := 437) (by decide +kernel), List.mem_of_getElem? (i := 438) (by decide +kernel)⟩
theorem lw_p1 : lw_okq (⟨"java/lang/Throwable", "fillInStackTrace", "(I)Ljava/lang/Throwable;"⟩, 6) := ⟨⟨by decide +kernel, by decide +kernel⟩, List.mem_of_getElem? (i := 497) (by decide +kernel), List.mem_of_getElem? (i := 495) (by decide +kernel), List.mem_of_getElem? (i := 496) (by decide +kernel)⟩
theorem lw_p2 : lw_okq (⟨"CubicBench", "keptCurve", "(III)I"⟩, 16) := ⟨⟨by decide +kernel, by decide +kernel⟩, List.mem_of_getElem? (i := 37) (by decide +kernel), List.mem_of_getElem? (i := 531) (by decide +kernel), List.mem_of_getElem? (i := 532) (by decide +kernel)⟩
theorem lw_p3 : lw_okq (⟨"CubicBench", "numberOfCurve", "(III)I"⟩, 16) := ⟨⟨by decide +kernel, by decide +kernel⟩, List.mem_of_getElem? (i := 37) (by decide +kernel), List.mem_of_getElem? (i := 535) (by decide +kernel), List.mem_of_getElem? (i := 536) (by decide +kernel)⟩
theorem lw_p4 : lw_okq (⟨"CubicBench", "wholeCurve", "(I)LCubicBench$Curve;"⟩, 16) := ⟨⟨by decide +kernel, by decide +kernel⟩, List.mem_of_getElem? (i := 37) (by decide +kernel), List.mem_of_getElem? (i := 603) (by decide +kernel), List.mem_of_getElem? (i := 604) (by decide +kernel)⟩
theorem lw_p5 : lw_okq (⟨"CubicBench", "curveAt", "(I)LCubicBench$Curve;"⟩, 16) := ⟨⟨by decide +kernel, by decide +kernel⟩, List.mem_of_getElem? (i := 37) (by decide +kernel), List.mem_of_getElem? (i := 607) (by decide +kernel), List.mem_of_getElem? (i := 608) (by decide +kernel)⟩
theorem lw_p6 : lw_okq (⟨"CubicBench", "restCurve", "(I)LCubicBench$Curve;"⟩, 16) := ⟨⟨by decide +kernel, by decide +kernel⟩, List.mem_of_getElem? (i := 37) (by decide +kernel), List.mem_of_getElem? (i := 647) (by decide +kernel), List.mem_of_getElem? (i := 648) (by decide +kernel)⟩
theorem lw_p7 : lw_okq (⟨"CubicBench", "keptSpot", "(LCubicBench$Spot;)I"⟩, 16) := ⟨⟨by decide +kernel, by decide +kernel⟩, List.mem_of_getElem? (i := 37) (by decide +kernel), List.mem_of_getElem? (i := 700) (by decide +kernel), List.mem_of_getElem? (i := 701) (by decide +kernel)⟩
theorem lw_p8 : lw_okq (⟨"CubicBench", "spotAt", "(I)LCubicBench$Spot;"⟩, 16) := ⟨⟨by decide +kernel, by decide +kernel⟩, List.mem_of_getElem? (i := 37) (by decide +kernel), List.mem_of_getElem? (i := 781) (by decide +kernel), List.mem_of_getElem? (i := 782) (by decide +kernel)⟩
theorem lw_p9 : lw_okq (⟨"CubicBench", "keptRest", "(IJ)I"⟩, 16) := ⟨⟨by decide +kernel, by decide +kernel⟩, List.mem_of_getElem? (i := 37) (by decide +kernel), List.mem_of_getElem? (i := 800) (by decide +kernel), List.mem_of_getElem? (i := 801) (by decide +kernel)⟩
theorem lw_p10 : lw_okq (⟨"CubicBench$Fractions", "accept", "()Z"⟩, 17) := ⟨⟨by decide +kernel, by decide +kernel⟩, List.mem_of_getElem? (i := 110) (by decide +kernel), List.mem_of_getElem? (i := 809) (by decide +kernel), List.mem_of_getElem? (i := 810) (by decide +kernel)⟩
theorem lw_p11 : lw_okq (⟨"CubicBench$Big", "trim", "()V"⟩, 3) := ⟨⟨by decide +kernel, by decide +kernel⟩, List.mem_of_getElem? (i := 54) (by decide +kernel), List.mem_of_getElem? (i := 1086) (by decide +kernel), List.mem_of_getElem? (i := 1087) (by decide +kernel)⟩
theorem lw_p12 : lw_okq (⟨"CubicBench$Fractions", "layTangent", "(LCubicBench$Spot;LCubicBench$Curve;)V"⟩, 17) := ⟨⟨by decide +kernel, by decide +kernel⟩, List.mem_of_getElem? (i := 110) (by decide +kernel), List.mem_of_getElem? (i := 1090) (by decide +kernel), List.mem_of_getElem? (i := 1091) (by decide +kernel)⟩
theorem lw_p13 : lw_okq (⟨"CubicBench$Fractions", "setScaled", "(LCubicBench$Big;LCubicBench$Big;J)V"⟩, 17) := ⟨⟨by decide +kernel, by decide +kernel⟩, List.mem_of_getElem? (i := 110) (by decide +kernel), List.mem_of_getElem? (i := 1095) (by decide +kernel), List.mem_of_getElem? (i := 1096) (by decide +kernel)⟩
theorem lw_p14 : lw_okq (⟨"CubicBench$Fractions", "addScaled", "(LCubicBench$Big;LCubicBench$Big;JLCubicBench$Big;)V"⟩, 17) := ⟨⟨by decide +kernel, by decide +kernel⟩, List.mem_of_getElem? (i := 110) (by decide +kernel), List.mem_of_getElem? (i := 1101) (by decide +kernel), List.mem_of_getElem? (i := 1102) (by decide +kernel)⟩
theorem lw_p15 : lw_okq (⟨"CubicBench$Big", "joinSizes", "(LCubicBench$Big;LCubicBench$Big;)V"⟩, 3) := ⟨⟨by decide +kernel, by decide +kernel⟩, List.mem_of_getElem? (i := 54) (by decide +kernel), List.mem_of_getElem? (i := 1109) (by decide +kernel), List.mem_of_getElem? (i := 1110) (by decide +kernel)⟩
def lw_privs_1 : List (MethodName × Nat) := [(⟨"CubicBench$Division", "findRoots", "()V"⟩, 13), (⟨"java/lang/Throwable", "fillInStackTrace", "(I)Ljava/lang/Throwable;"⟩, 6), (⟨"CubicBench", "keptCurve", "(III)I"⟩, 16), (⟨"CubicBench", "numberOfCurve", "(III)I"⟩, 16), (⟨"CubicBench", "wholeCurve", "(I)LCubicBench$Curve;"⟩, 16), (⟨"CubicBench", "curveAt", "(I)LCubicBench$Curve;"⟩, 16), (⟨"CubicBench", "restCurve", "(I)LCubicBench$Curve;"⟩, 16), (⟨"CubicBench", "keptSpot", "(LCubicBench$Spot;)I"⟩, 16), (⟨"CubicBench", "spotAt", "(I)LCubicBench$Spot;"⟩, 16), (⟨"CubicBench", "keptRest", "(IJ)I"⟩, 16), (⟨"CubicBench$Fractions", "accept", "()Z"⟩, 17), (⟨"CubicBench$Big", "trim", "()V"⟩, 3), (⟨"CubicBench$Fractions", "layTangent", "(LCubicBench$Spot;LCubicBench$Curve;)V"⟩, 17), (⟨"CubicBench$Fractions", "setScaled", "(LCubicBench$Big;LCubicBench$Big;J)V"⟩, 17), (⟨"CubicBench$Fractions", "addScaled", "(LCubicBench$Big;LCubicBench$Big;JLCubicBench$Big;)V"⟩, 17), (⟨"CubicBench$Big", "joinSizes", "(LCubicBench$Big;LCubicBench$Big;)V"⟩, 3)]
theorem lw_r1 : ∀ q ∈ lw_privs_1, lw_okq q := List.forall_mem_cons.mpr ⟨lw_p0, List.forall_mem_cons.mpr ⟨lw_p1, List.forall_mem_cons.mpr ⟨lw_p2, List.forall_mem_cons.mpr ⟨lw_p3, List.forall_mem_cons.mpr ⟨lw_p4, List.forall_mem_cons.mpr ⟨lw_p5, List.forall_mem_cons.mpr ⟨lw_p6, List.forall_mem_cons.mpr ⟨lw_p7, List.forall_mem_cons.mpr ⟨lw_p8, List.forall_mem_cons.mpr ⟨lw_p9, List.forall_mem_cons.mpr ⟨lw_p10, List.forall_mem_cons.mpr ⟨lw_p11, List.forall_mem_cons.mpr ⟨lw_p12, List.forall_mem_cons.mpr ⟨lw_p13, List.forall_mem_cons.mpr ⟨lw_p14, List.forall_mem_cons.mpr ⟨lw_p15, fun _ h => absurd h List.not_mem_nil⟩⟩⟩⟩⟩⟩⟩⟩⟩⟩⟩⟩⟩⟩⟩⟩
theorem lw_p16 : lw_okq (⟨"CubicBench$Big", "takeSizes", "(LCubicBench$Big;LCubicBench$Big;)V"⟩, 3) := ⟨⟨by decide +kernel, by decide +kernel⟩, List.mem_of_getElem? (i := 54) (by decide +kernel), List.mem_of_getElem? (i := 1115) (by decide +kernel), List.mem_of_getElem? (i := 1116) (by decide +kernel)⟩
theorem lw_p17 : lw_okq (⟨"CubicBench$Fractions", "layChord", "(LCubicBench$Spot;LCubicBench$Spot;LCubicBench$Curve;)V"⟩, 17) := ⟨⟨by decide +kernel, by decide +kernel⟩, List.mem_of_getElem? (i := 110) (by decide +kernel), List.mem_of_getElem? (i := 1121) (by decide +kernel), List.mem_of_getElem? (i := 1122) (by decide +kernel)⟩
theorem lw_p18 : lw_okq (⟨"CubicBench$Fractions", "settle", "()Z"⟩, 17) := ⟨⟨by decide +kernel, by decide +kernel⟩, List.mem_of_getElem? (i := 110) (by decide +kernel), List.mem_of_getElem? (i := 1134) (by decide +kernel), List.mem_of_getElem? (i := 1135) (by decide +kernel)⟩
theorem lw_p19 : lw_okq (⟨"CubicBench$Big", "topTwo", "()J"⟩, 3) := ⟨⟨by decide +kernel, by decide +kernel⟩, List.mem_of_getElem? (i := 54) (by decide +kernel), List.mem_of_getElem? (i := 1147) (by decide +kernel), List.mem_of_getElem? (i := 1148) (by decide +kernel)⟩
theorem lw_p20 : lw_okq (⟨"CubicBench$Big", "factorBelow", "(JJ)J"⟩, 3) := ⟨⟨by decide +kernel, by decide +kernel⟩, List.mem_of_getElem? (i := 54) (by decide +kernel), List.mem_of_getElem? (i := 1151) (by decide +kernel), List.mem_of_getElem? (i := 1152) (by decide +kernel)⟩
theorem lw_p21 : lw_okq (⟨"CubicBench$Big", "takeTimes", "(LCubicBench$Big;JI)V"⟩, 3) := ⟨⟨by decide +kernel, by decide +kernel⟩, List.mem_of_getElem? (i := 54) (by decide +kernel), List.mem_of_getElem? (i := 1158) (by decide +kernel), List.mem_of_getElem? (i := 1159) (by decide +kernel)⟩
theorem lw_p22 : lw_okq (⟨"CubicBench$Big", "raise", "(JI)V"⟩, 3) := ⟨⟨by decide +kernel, by decide +kernel⟩, List.mem_of_getElem? (i := 54) (by decide +kernel), List.mem_of_getElem? (i := 1162) (by decide +kernel), List.mem_of_getElem? (i := 1163) (by decide +kernel)⟩
theorem lw_p23 : lw_okq (⟨"CubicBench$Big", "halve", "()V"⟩, 3) := ⟨⟨by decide +kernel, by decide +kernel⟩, List.mem_of_getElem? (i := 54) (by decide +kernel), List.mem_of_getElem? (i := 1187) (by decide +kernel), List.mem_of_getElem? (i := 1188) (by decide +kernel)⟩
theorem lw_p24 : lw_okq (⟨"CubicBench$Fractions", "setHeight", "(LCubicBench$Spot;LCubicBench$Spot;)V"⟩, 17) := ⟨⟨by decide +kernel, by decide +kernel⟩, List.mem_of_getElem? (i := 110) (by decide +kernel), List.mem_of_getElem? (i := 1191) (by decide +kernel), List.mem_of_getElem? (i := 1192) (by decide +kernel)⟩
theorem lw_p25 : lw_okq (⟨"CubicBench", "keptResult", "(I)I"⟩, 16) := ⟨⟨by decide +kernel, by decide +kernel⟩, List.mem_of_getElem? (i := 37) (by decide +kernel), List.mem_of_getElem? (i := 1195) (by decide +kernel), List.mem_of_getElem? (i := 1196) (by decide +kernel)⟩
theorem lw_p26 : lw_okq (⟨"CubicBench", "orderOf", "(LCubicBench$Spot;LCubicBench$Curve;)I"⟩, 16) := ⟨⟨by decide +kernel, by decide +kernel⟩, List.mem_of_getElem? (i := 37) (by decide +kernel), List.mem_of_getElem? (i := 1246) (by decide +kernel), List.mem_of_getElem? (i := 1247) (by decide +kernel)⟩
theorem lw_p27 : lw_okq (⟨"CubicBench$Big", "size", "()J"⟩, 3) := ⟨⟨by decide +kernel, by decide +kernel⟩, List.mem_of_getElem? (i := 54) (by decide +kernel), List.mem_of_getElem? (i := 1257) (by decide +kernel), List.mem_of_getElem? (i := 1258) (by decide +kernel)⟩
theorem lw_p28 : lw_okq (⟨"CubicBench$Rests", "someMultiple", "(JJJ)J"⟩, 1) := ⟨⟨by decide +kernel, by decide +kernel⟩, List.mem_of_getElem? (i := 173) (by decide +kernel), List.mem_of_getElem? (i := 1278) (by decide +kernel), List.mem_of_getElem? (i := 1279) (by decide +kernel)⟩
theorem lw_p29 : lw_okq (⟨"CubicBench$Rests", "stepTo", "(JI)J"⟩, 1) := ⟨⟨by decide +kernel, by decide +kernel⟩, List.mem_of_getElem? (i := 173) (by decide +kernel), List.mem_of_getElem? (i := 1290) (by decide +kernel), List.mem_of_getElem? (i := 1291) (by decide +kernel)⟩
theorem lw_p30 : lw_okq (⟨"CubicBench$Big", "digitAt", "(I)I"⟩, 3) := ⟨⟨by decide +kernel, by decide +kernel⟩, List.mem_of_getElem? (i := 54) (by decide +kernel), List.mem_of_getElem? (i := 1325) (by decide +kernel), List.mem_of_getElem? (i := 1326) (by decide +kernel)⟩
theorem lw_p31 : lw_okq (⟨"CubicBench$Torsion", "keepAt", "(JJJ)V"⟩, 4) := ⟨⟨by decide +kernel, by decide +kernel⟩, List.mem_of_getElem? (i := 184) (by decide +kernel), List.mem_of_getElem? (i := 1346) (by decide +kernel), List.mem_of_getElem? (i := 1347) (by decide +kernel)⟩
def lw_privs_2 : List (MethodName × Nat) := [(⟨"CubicBench$Big", "takeSizes", "(LCubicBench$Big;LCubicBench$Big;)V"⟩, 3), (⟨"CubicBench$Fractions", "layChord", "(LCubicBench$Spot;LCubicBench$Spot;LCubicBench$Curve;)V"⟩, 17), (⟨"CubicBench$Fractions", "settle", "()Z"⟩, 17), (⟨"CubicBench$Big", "topTwo", "()J"⟩, 3), (⟨"CubicBench$Big", "factorBelow", "(JJ)J"⟩, 3), (⟨"CubicBench$Big", "takeTimes", "(LCubicBench$Big;JI)V"⟩, 3), (⟨"CubicBench$Big", "raise", "(JI)V"⟩, 3), (⟨"CubicBench$Big", "halve", "()V"⟩, 3), (⟨"CubicBench$Fractions", "setHeight", "(LCubicBench$Spot;LCubicBench$Spot;)V"⟩, 17), (⟨"CubicBench", "keptResult", "(I)I"⟩, 16), (⟨"CubicBench", "orderOf", "(LCubicBench$Spot;LCubicBench$Curve;)I"⟩, 16), (⟨"CubicBench$Big", "size", "()J"⟩, 3), (⟨"CubicBench$Rests", "someMultiple", "(JJJ)J"⟩, 1), (⟨"CubicBench$Rests", "stepTo", "(JI)J"⟩, 1), (⟨"CubicBench$Big", "digitAt", "(I)I"⟩, 3), (⟨"CubicBench$Torsion", "keepAt", "(JJJ)V"⟩, 4)]
theorem lw_r2 : ∀ q ∈ lw_privs_2, lw_okq q := List.forall_mem_cons.mpr ⟨lw_p16, List.forall_mem_cons.mpr ⟨lw_p17, List.forall_mem_cons.mpr ⟨lw_p18, List.forall_mem_cons.mpr ⟨lw_p19, List.forall_mem_cons.mpr ⟨lw_p20, List.forall_mem_cons.mpr ⟨lw_p21, List.forall_mem_cons.mpr ⟨lw_p22, List.forall_mem_cons.mpr ⟨lw_p23, List.forall_mem_cons.mpr ⟨lw_p24, List.forall_mem_cons.mpr ⟨lw_p25, List.forall_mem_cons.mpr ⟨lw_p26, List.forall_mem_cons.mpr ⟨lw_p27, List.forall_mem_cons.mpr ⟨lw_p28, List.forall_mem_cons.mpr ⟨lw_p29, List.forall_mem_cons.mpr ⟨lw_p30, List.forall_mem_cons.mpr ⟨lw_p31, fun _ h => absurd h List.not_mem_nil⟩⟩⟩⟩⟩⟩⟩⟩⟩⟩⟩⟩⟩⟩⟩⟩
theorem lw_p32 : lw_okq (⟨"CubicBench$Torsion", "keep", "(JJ)V"⟩, 4) := ⟨⟨by decide +kernel, by decide +kernel⟩, List.mem_of_getElem? (i := 184) (by decide +kernel), List.mem_of_getElem? (i := 1351) (by decide +kernel), List.mem_of_getElem? (i := 1352) (by decide +kernel)⟩
theorem lw_p33 : lw_okq (⟨"CubicBench$Searching", "keepSquare", "(IIJ)V"⟩, 4) := ⟨⟨by decide +kernel, by decide +kernel⟩, List.mem_of_getElem? (i := 204) (by decide +kernel), List.mem_of_getElem? (i := 1384) (by decide +kernel), List.mem_of_getElem? (i := 1385) (by decide +kernel)⟩
theorem lw_p34 : lw_okq (⟨"CubicBench", "pointsOf", "(LCubicBench$Curve;)I"⟩, 16) := ⟨⟨by decide +kernel, by decide +kernel⟩, List.mem_of_getElem? (i := 37) (by decide +kernel), List.mem_of_getElem? (i := 1429) (by decide +kernel), List.mem_of_getElem? (i := 1430) (by decide +kernel)⟩
theorem lw_p35 : lw_okq (⟨"CubicBench$Listing", "keep", "(J)V"⟩, 11) := ⟨⟨by decide +kernel, by decide +kernel⟩, List.mem_of_getElem? (i := 224) (by decide +kernel), List.mem_of_getElem? (i := 1439) (by decide +kernel), List.mem_of_getElem? (i := 1440) (by decide +kernel)⟩
theorem lw_p36 : lw_okq (⟨"CubicBench", "listedCurve", "(I)LCubicBench$Curve;"⟩, 16) := ⟨⟨by decide +kernel, by decide +kernel⟩, List.mem_of_getElem? (i := 37) (by decide +kernel), List.mem_of_getElem? (i := 1473) (by decide +kernel), List.mem_of_getElem? (i := 1474) (by decide +kernel)⟩
theorem lw_p37 : lw_okq (⟨"CubicBench$Listing", "greatestOrder", "(LCubicBench$Curve;)I"⟩, 11) := ⟨⟨by decide +kernel, by decide +kernel⟩, List.mem_of_getElem? (i := 224) (by decide +kernel), List.mem_of_getElem? (i := 1495) (by decide +kernel), List.mem_of_getElem? (i := 1496) (by decide +kernel)⟩
theorem lw_p38 : lw_okq (⟨"CubicBench$Listing", "firstOfLongest", "(LCubicBench$Curve;)J"⟩, 11) := ⟨⟨by decide +kernel, by decide +kernel⟩, List.mem_of_getElem? (i := 224) (by decide +kernel), List.mem_of_getElem? (i := 1504) (by decide +kernel), List.mem_of_getElem? (i := 1505) (by decide +kernel)⟩
theorem lw_p39 : lw_okq (⟨"CubicBench$Listing", "reachAll", "(LCubicBench$Curve;)V"⟩, 11) := ⟨⟨by decide +kernel, by decide +kernel⟩, List.mem_of_getElem? (i := 224) (by decide +kernel), List.mem_of_getElem? (i := 1508) (by decide +kernel), List.mem_of_getElem? (i := 1509) (by decide +kernel)⟩
theorem lw_p40 : lw_okq (⟨"CubicBench$Listing", "isApart", "(JLCubicBench$Curve;)Z"⟩, 11) := ⟨⟨by decide +kernel, by decide +kernel⟩, List.mem_of_getElem? (i := 224) (by decide +kernel), List.mem_of_getElem? (i := 1516) (by decide +kernel), List.mem_of_getElem? (i := 1517) (by decide +kernel)⟩
theorem lw_p41 : lw_okq (⟨"CubicBench", "paired", "(JJILCubicBench$Curve;)I"⟩, 16) := ⟨⟨by decide +kernel, by decide +kernel⟩, List.mem_of_getElem? (i := 37) (by decide +kernel), List.mem_of_getElem? (i := 1531) (by decide +kernel), List.mem_of_getElem? (i := 1532) (by decide +kernel)⟩
theorem lw_p42 : lw_okq (⟨"CubicBench$Chain", "keep", "(JJZLCubicBench$Curve;)J"⟩, 6) := ⟨⟨by decide +kernel, by decide +kernel⟩, List.mem_of_getElem? (i := 270) (by decide +kernel), List.mem_of_getElem? (i := 1544) (by decide +kernel), List.mem_of_getElem? (i := 1545) (by decide +kernel)⟩
theorem lw_p43 : lw_okq (⟨"CubicBench$Chain", "lineAt", "(IJJ)J"⟩, 6) := ⟨⟨by decide +kernel, by decide +kernel⟩, List.mem_of_getElem? (i := 270) (by decide +kernel), List.mem_of_getElem? (i := 1562) (by decide +kernel), List.mem_of_getElem? (i := 1563) (by decide +kernel)⟩
theorem lw_p44 : lw_okq (⟨"CubicBench$Division", "begin", "(JJ)V"⟩, 13) := ⟨⟨by decide +kernel, by decide +kernel⟩, List.mem_of_getElem? (i := 296) (by decide +kernel), List.mem_of_getElem? (i := 1583) (by decide +kernel), List.mem_of_getElem? (i := 1584) (by decide +kernel)⟩
theorem lw_p45 : lw_okq (⟨"CubicBench$Division", "setOdd", "(I)V"⟩, 13) := ⟨⟨by decide +kernel, by decide +kernel⟩, List.mem_of_getElem? (i := 296) (by decide +kernel), List.mem_of_getElem? (i := 1604) (by decide +kernel), List.mem_of_getElem? (i := 1605) (by decide +kernel)⟩
theorem lw_p46 : lw_okq (⟨"CubicBench$Division", "multiply", "([J[J)V"⟩, 13) := ⟨⟨by decide +kernel, by decide +kernel⟩, List.mem_of_getElem? (i := 296) (by decide +kernel), List.mem_of_getElem? (i := 1609) (by decide +kernel), List.mem_of_getElem? (i := 1610) (by decide +kernel)⟩
theorem lw_p47 : lw_okq (⟨"CubicBench$Division", "takeAway", "([J)V"⟩, 13) := ⟨⟨by decide +kernel, by decide +kernel⟩, List.mem_of_getElem? (i := 296) (by decide +kernel), List.mem_of_getElem? (i := 1616) (by decide +kernel), List.mem_of_getElem? (i := 1617) (by decide +kernel)⟩
def lw_privs_3 : List (MethodName × Nat) := [(⟨"CubicBench$Torsion", "keep", "(JJ)V"⟩, 4), (⟨"CubicBench$Searching", "keepSquare", "(IIJ)V"⟩, 4), (⟨"CubicBench", "pointsOf", "(LCubicBench$Curve;)I"⟩, 16), (⟨"CubicBench$Listing", "keep", "(J)V"⟩, 11), (⟨"CubicBench", "listedCurve", "(I)LCubicBench$Curve;"⟩, 16), (⟨"CubicBench$Listing", "greatestOrder", "(LCubicBench$Curve;)I"⟩, 11), (⟨"CubicBench$Listing", "firstOfLongest", "(LCubicBench$Curve;)J"⟩, 11), (⟨"CubicBench$Listing", "reachAll", "(LCubicBench$Curve;)V"⟩, 11), (⟨"CubicBench$Listing", "isApart", "(JLCubicBench$Curve;)Z"⟩, 11), (⟨"CubicBench", "paired", "(JJILCubicBench$Curve;)I"⟩, 16), (⟨"CubicBench$Chain", "keep", "(JJZLCubicBench$Curve;)J"⟩, 6), (⟨"CubicBench$Chain", "lineAt", "(IJJ)J"⟩, 6), (⟨"CubicBench$Division", "begin", "(JJ)V"⟩, 13), (⟨"CubicBench$Division", "setOdd", "(I)V"⟩, 13), (⟨"CubicBench$Division", "multiply", "([J[J)V"⟩, 13), (⟨"CubicBench$Division", "takeAway", "([J)V"⟩, 13)]
theorem lw_r3 : ∀ q ∈ lw_privs_3, lw_okq q := List.forall_mem_cons.mpr ⟨lw_p32, List.forall_mem_cons.mpr ⟨lw_p33, List.forall_mem_cons.mpr ⟨lw_p34, List.forall_mem_cons.mpr ⟨lw_p35, List.forall_mem_cons.mpr ⟨lw_p36, List.forall_mem_cons.mpr ⟨lw_p37, List.forall_mem_cons.mpr ⟨lw_p38, List.forall_mem_cons.mpr ⟨lw_p39, List.forall_mem_cons.mpr ⟨lw_p40, List.forall_mem_cons.mpr ⟨lw_p41, List.forall_mem_cons.mpr ⟨lw_p42, List.forall_mem_cons.mpr ⟨lw_p43, List.forall_mem_cons.mpr ⟨lw_p44, List.forall_mem_cons.mpr ⟨lw_p45, List.forall_mem_cons.mpr ⟨lw_p46, List.forall_mem_cons.mpr ⟨lw_p47, fun _ h => absurd h List.not_mem_nil⟩⟩⟩⟩⟩⟩⟩⟩⟩⟩⟩⟩⟩⟩⟩⟩
theorem lw_p48 : lw_okq (⟨"CubicBench$Division", "setEven", "(I)V"⟩, 13) := ⟨⟨by decide +kernel, by decide +kernel⟩, List.mem_of_getElem? (i := 296) (by decide +kernel), List.mem_of_getElem? (i := 1620) (by decide +kernel), List.mem_of_getElem? (i := 1621) (by decide +kernel)⟩
theorem lw_p49 : lw_okq (⟨"CubicBench", "curveWithRoom", "(III)I"⟩, 16) := ⟨⟨by decide +kernel, by decide +kernel⟩, List.mem_of_getElem? (i := 37) (by decide +kernel), List.mem_of_getElem? (i := 1665) (by decide +kernel), List.mem_of_getElem? (i := 1666) (by decide +kernel)⟩
theorem lw_p50 : lw_okq (⟨"CubicBench$Fractions", "layWay", "(LCubicBench$Spot;LCubicBench$Lead;)V"⟩, 17) := ⟨⟨by decide +kernel, by decide +kernel⟩, List.mem_of_getElem? (i := 110) (by decide +kernel), List.mem_of_getElem? (i := 1673) (by decide +kernel), List.mem_of_getElem? (i := 1674) (by decide +kernel)⟩
theorem lw_p51 : lw_okq (⟨"CubicBenchModel", "cubicOf", "(JJI)I"⟩, 74) := ⟨⟨by decide +kernel, by decide +kernel⟩, List.mem_of_getElem? (i := 1677) (by decide +kernel), List.mem_of_getElem? (i := 1995) (by decide +kernel), List.mem_of_getElem? (i := 1996) (by decide +kernel)⟩
theorem lw_p52 : lw_okq (⟨"CubicBenchModel", "gives", "(II)I"⟩, 74) := ⟨⟨by decide +kernel, by decide +kernel⟩, List.mem_of_getElem? (i := 1677) (by decide +kernel), List.mem_of_getElem? (i := 1999) (by decide +kernel), List.mem_of_getElem? (i := 2000) (by decide +kernel)⟩
theorem lw_p53 : lw_okq (⟨"CubicBenchModel", "isCubic", "(I)Z"⟩, 74) := ⟨⟨by decide +kernel, by decide +kernel⟩, List.mem_of_getElem? (i := 1677) (by decide +kernel), List.mem_of_getElem? (i := 2007) (by decide +kernel), List.mem_of_getElem? (i := 2008) (by decide +kernel)⟩
theorem lw_p54 : lw_okq (⟨"CubicBenchModel", "bad", "(Z)Z"⟩, 74) := ⟨⟨by decide +kernel, by decide +kernel⟩, List.mem_of_getElem? (i := 1677) (by decide +kernel), List.mem_of_getElem? (i := 2015) (by decide +kernel), List.mem_of_getElem? (i := 2016) (by decide +kernel)⟩
theorem lw_p55 : lw_okq (⟨"CubicBenchModel", "marks", "(I)V"⟩, 74) := ⟨⟨by decide +kernel, by decide +kernel⟩, List.mem_of_getElem? (i := 1677) (by decide +kernel), List.mem_of_getElem? (i := 2023) (by decide +kernel), List.mem_of_getElem? (i := 2024) (by decide +kernel)⟩
theorem lw_p56 : lw_okq (⟨"CubicBenchModel", "numberOf", "(ILCubicBenchModel$Pt;)I"⟩, 74) := ⟨⟨by decide +kernel, by decide +kernel⟩, List.mem_of_getElem? (i := 1677) (by decide +kernel), List.mem_of_getElem? (i := 2039) (by decide +kernel), List.mem_of_getElem? (i := 2040) (by decide +kernel)⟩
theorem lw_p57 : lw_okq (⟨"CubicBenchModel", "fetch", "(ILCubicBenchModel$Pt;)V"⟩, 74) := ⟨⟨by decide +kernel, by decide +kernel⟩, List.mem_of_getElem? (i := 1677) (by decide +kernel), List.mem_of_getElem? (i := 2043) (by decide +kernel), List.mem_of_getElem? (i := 2044) (by decide +kernel)⟩
theorem lw_p58 : lw_okq (⟨"CubicBenchModel", "fetchNumber", "(ILCubicBenchModel$Num;)V"⟩, 74) := ⟨⟨by decide +kernel, by decide +kernel⟩, List.mem_of_getElem? (i := 1677) (by decide +kernel), List.mem_of_getElem? (i := 2047) (by decide +kernel), List.mem_of_getElem? (i := 2048) (by decide +kernel)⟩
theorem lw_p59 : lw_okq (⟨"CubicBenchModel", "isSame", "(ILCubicBenchModel$Pt;LCubicBenchModel$Pt;)Z"⟩, 74) := ⟨⟨by decide +kernel, by decide +kernel⟩, List.mem_of_getElem? (i := 1677) (by decide +kernel), List.mem_of_getElem? (i := 2051) (by decide +kernel), List.mem_of_getElem? (i := 2052) (by decide +kernel)⟩
theorem lw_p60 : lw_okq (⟨"CubicBenchModel$Frac", "is", "(LCubicBenchModel$Frac;)Z"⟩, 2) := ⟨⟨by decide +kernel, by decide +kernel⟩, List.mem_of_getElem? (i := 1709) (by decide +kernel), List.mem_of_getElem? (i := 2055) (by decide +kernel), List.mem_of_getElem? (i := 2056) (by decide +kernel)⟩
theorem lw_p61 : lw_okq (⟨"CubicBenchModel$Num", "is", "(LCubicBenchModel$Num;)Z"⟩, 3) := ⟨⟨by decide +kernel, by decide +kernel⟩, List.mem_of_getElem? (i := 1683) (by decide +kernel), List.mem_of_getElem? (i := 2059) (by decide +kernel), List.mem_of_getElem? (i := 2060) (by decide +kernel)⟩
theorem lw_p62 : lw_okq (⟨"CubicBenchModel$Num", "sizes", "(LCubicBenchModel$Num;)I"⟩, 3) := ⟨⟨by decide +kernel, by decide +kernel⟩, List.mem_of_getElem? (i := 1683) (by decide +kernel), List.mem_of_getElem? (i := 2063) (by decide +kernel), List.mem_of_getElem? (i := 2064) (by decide +kernel)⟩
theorem lw_p63 : lw_okq (⟨"CubicBenchModel", "keep", "(LCubicBenchModel$Num;I)V"⟩, 74) := ⟨⟨by decide +kernel, by decide +kernel⟩, List.mem_of_getElem? (i := 1677) (by decide +kernel), List.mem_of_getElem? (i := 2067) (by decide +kernel), List.mem_of_getElem? (i := 2068) (by decide +kernel)⟩
def lw_privs_4 : List (MethodName × Nat) := [(⟨"CubicBench$Division", "setEven", "(I)V"⟩, 13), (⟨"CubicBench", "curveWithRoom", "(III)I"⟩, 16), (⟨"CubicBench$Fractions", "layWay", "(LCubicBench$Spot;LCubicBench$Lead;)V"⟩, 17), (⟨"CubicBenchModel", "cubicOf", "(JJI)I"⟩, 74), (⟨"CubicBenchModel", "gives", "(II)I"⟩, 74), (⟨"CubicBenchModel", "isCubic", "(I)Z"⟩, 74), (⟨"CubicBenchModel", "bad", "(Z)Z"⟩, 74), (⟨"CubicBenchModel", "marks", "(I)V"⟩, 74), (⟨"CubicBenchModel", "numberOf", "(ILCubicBenchModel$Pt;)I"⟩, 74), (⟨"CubicBenchModel", "fetch", "(ILCubicBenchModel$Pt;)V"⟩, 74), (⟨"CubicBenchModel", "fetchNumber", "(ILCubicBenchModel$Num;)V"⟩, 74), (⟨"CubicBenchModel", "isSame", "(ILCubicBenchModel$Pt;LCubicBenchModel$Pt;)Z"⟩, 74), (⟨"CubicBenchModel$Frac", "is", "(LCubicBenchModel$Frac;)Z"⟩, 2), (⟨"CubicBenchModel$Num", "is", "(LCubicBenchModel$Num;)Z"⟩, 3), (⟨"CubicBenchModel$Num", "sizes", "(LCubicBenchModel$Num;)I"⟩, 3), (⟨"CubicBenchModel", "keep", "(LCubicBenchModel$Num;I)V"⟩, 74)]
theorem lw_r4 : ∀ q ∈ lw_privs_4, lw_okq q := List.forall_mem_cons.mpr ⟨lw_p48, List.forall_mem_cons.mpr ⟨lw_p49, List.forall_mem_cons.mpr ⟨lw_p50, List.forall_mem_cons.mpr ⟨lw_p51, List.forall_mem_cons.mpr ⟨lw_p52, List.forall_mem_cons.mpr ⟨lw_p53, List.forall_mem_cons.mpr ⟨lw_p54, List.forall_mem_cons.mpr ⟨lw_p55, List.forall_mem_cons.mpr ⟨lw_p56, List.forall_mem_cons.mpr ⟨lw_p57, List.forall_mem_cons.mpr ⟨lw_p58, List.forall_mem_cons.mpr ⟨lw_p59, List.forall_mem_cons.mpr ⟨lw_p60, List.forall_mem_cons.mpr ⟨lw_p61, List.forall_mem_cons.mpr ⟨lw_p62, List.forall_mem_cons.mpr ⟨lw_p63, fun _ h => absurd h List.not_mem_nil⟩⟩⟩⟩⟩⟩⟩⟩⟩⟩⟩⟩⟩⟩⟩⟩
theorem lw_p64 : lw_okq (⟨"CubicBenchModel", "valueAt", "(IJ)J"⟩, 74) := ⟨⟨by decide +kernel, by decide +kernel⟩, List.mem_of_getElem? (i := 1677) (by decide +kernel), List.mem_of_getElem? (i := 2077) (by decide +kernel), List.mem_of_getElem? (i := 2078) (by decide +kernel)⟩
theorem lw_p65 : lw_okq (⟨"CubicBenchModel$Frac", "set", "(J)V"⟩, 2) := ⟨⟨by decide +kernel, by decide +kernel⟩, List.mem_of_getElem? (i := 1709) (by decide +kernel), List.mem_of_getElem? (i := 2084) (by decide +kernel), List.mem_of_getElem? (i := 2085) (by decide +kernel)⟩
theorem lw_p66 : lw_okq (⟨"CubicBenchModel$Num", "set", "(J)V"⟩, 3) := ⟨⟨by decide +kernel, by decide +kernel⟩, List.mem_of_getElem? (i := 1683) (by decide +kernel), List.mem_of_getElem? (i := 2088) (by decide +kernel), List.mem_of_getElem? (i := 2089) (by decide +kernel)⟩
theorem lw_p67 : lw_okq (⟨"CubicBenchModel", "isPoint", "(I)Z"⟩, 74) := ⟨⟨by decide +kernel, by decide +kernel⟩, List.mem_of_getElem? (i := 1677) (by decide +kernel), List.mem_of_getElem? (i := 2097) (by decide +kernel), List.mem_of_getElem? (i := 2098) (by decide +kernel)⟩
theorem lw_p68 : lw_okq (⟨"CubicBenchModel", "joins", "(ILCubicBenchModel$Pt;LCubicBenchModel$Pt;LCubicBenchModel$Pt;)Z"⟩, 74) := ⟨⟨by decide +kernel, by decide +kernel⟩, List.mem_of_getElem? (i := 1677) (by decide +kernel), List.mem_of_getElem? (i := 2101) (by decide +kernel), List.mem_of_getElem? (i := 2102) (by decide +kernel)⟩
theorem lw_p69 : lw_okq (⟨"CubicBenchModel$Pt", "take", "(LCubicBenchModel$Pt;)V"⟩, 5) := ⟨⟨by decide +kernel, by decide +kernel⟩, List.mem_of_getElem? (i := 1703) (by decide +kernel), List.mem_of_getElem? (i := 2105) (by decide +kernel), List.mem_of_getElem? (i := 2106) (by decide +kernel)⟩
theorem lw_p70 : lw_okq (⟨"CubicBenchModel$Frac", "take", "(LCubicBenchModel$Frac;)V"⟩, 2) := ⟨⟨by decide +kernel, by decide +kernel⟩, List.mem_of_getElem? (i := 1709) (by decide +kernel), List.mem_of_getElem? (i := 2109) (by decide +kernel), List.mem_of_getElem? (i := 2110) (by decide +kernel)⟩
theorem lw_p71 : lw_okq (⟨"CubicBenchModel$Num", "take", "(LCubicBenchModel$Num;)V"⟩, 3) := ⟨⟨by decide +kernel, by decide +kernel⟩, List.mem_of_getElem? (i := 1683) (by decide +kernel), List.mem_of_getElem? (i := 2113) (by decide +kernel), List.mem_of_getElem? (i := 2114) (by decide +kernel)⟩
theorem lw_p72 : lw_okq (⟨"CubicBenchModel", "addRests", "(ILCubicBenchModel$Pt;LCubicBenchModel$Pt;LCubicBenchModel$Pt;)Z"⟩, 74) := ⟨⟨by decide +kernel, by decide +kernel⟩, List.mem_of_getElem? (i := 1677) (by decide +kernel), List.mem_of_getElem? (i := 2117) (by decide +kernel), List.mem_of_getElem? (i := 2118) (by decide +kernel)⟩
theorem lw_p73 : lw_okq (⟨"CubicBenchModel", "addWhole", "(ILCubicBenchModel$Pt;LCubicBenchModel$Pt;LCubicBenchModel$Pt;)Z"⟩, 74) := ⟨⟨by decide +kernel, by decide +kernel⟩, List.mem_of_getElem? (i := 1677) (by decide +kernel), List.mem_of_getElem? (i := 2123) (by decide +kernel), List.mem_of_getElem? (i := 2124) (by decide +kernel)⟩
theorem lw_p74 : lw_okq (⟨"CubicBenchModel", "mul", "(LCubicBenchModel$Frac;LCubicBenchModel$Frac;LCubicBenchModel$Frac;)V"⟩, 74) := ⟨⟨by decide +kernel, by decide +kernel⟩, List.mem_of_getElem? (i := 1677) (by decide +kernel), List.mem_of_getElem? (i := 2127) (by decide +kernel), List.mem_of_getElem? (i := 2128) (by decide +kernel)⟩
theorem lw_p75 : lw_okq (⟨"CubicBenchModel$Num", "product", "(LCubicBenchModel$Num;LCubicBenchModel$Num;)V"⟩, 3) := ⟨⟨by decide +kernel, by decide +kernel⟩, List.mem_of_getElem? (i := 1683) (by decide +kernel), List.mem_of_getElem? (i := 2131) (by decide +kernel), List.mem_of_getElem? (i := 2132) (by decide +kernel)⟩
theorem lw_p76 : lw_okq (⟨"CubicBenchModel$Num", "cut", "()V"⟩, 3) := ⟨⟨by decide +kernel, by decide +kernel⟩, List.mem_of_getElem? (i := 1683) (by decide +kernel), List.mem_of_getElem? (i := 2135) (by decide +kernel), List.mem_of_getElem? (i := 2136) (by decide +kernel)⟩
theorem lw_p77 : lw_okq (⟨"CubicBenchModel", "lowest", "(LCubicBenchModel$Frac;)V"⟩, 74) := ⟨⟨by decide +kernel, by decide +kernel⟩, List.mem_of_getElem? (i := 1677) (by decide +kernel), List.mem_of_getElem? (i := 2139) (by decide +kernel), List.mem_of_getElem? (i := 2140) (by decide +kernel)⟩
theorem lw_p78 : lw_okq (⟨"CubicBenchModel", "divide", "(LCubicBenchModel$Num;LCubicBenchModel$Num;LCubicBenchModel$Num;)V"⟩, 74) := ⟨⟨by decide +kernel, by decide +kernel⟩, List.mem_of_getElem? (i := 1677) (by decide +kernel), List.mem_of_getElem? (i := 2145) (by decide +kernel), List.mem_of_getElem? (i := 2146) (by decide +kernel)⟩
theorem lw_p79 : lw_okq (⟨"CubicBenchModel$Num", "isOne", "()Z"⟩, 3) := ⟨⟨by decide +kernel, by decide +kernel⟩, List.mem_of_getElem? (i := 1683) (by decide +kernel), List.mem_of_getElem? (i := 2157) (by decide +kernel), List.mem_of_getElem? (i := 2158) (by decide +kernel)⟩
def lw_privs_5 : List (MethodName × Nat) := [(⟨"CubicBenchModel", "valueAt", "(IJ)J"⟩, 74), (⟨"CubicBenchModel$Frac", "set", "(J)V"⟩, 2), (⟨"CubicBenchModel$Num", "set", "(J)V"⟩, 3), (⟨"CubicBenchModel", "isPoint", "(I)Z"⟩, 74), (⟨"CubicBenchModel", "joins", "(ILCubicBenchModel$Pt;LCubicBenchModel$Pt;LCubicBenchModel$Pt;)Z"⟩, 74), (⟨"CubicBenchModel$Pt", "take", "(LCubicBenchModel$Pt;)V"⟩, 5), (⟨"CubicBenchModel$Frac", "take", "(LCubicBenchModel$Frac;)V"⟩, 2), (⟨"CubicBenchModel$Num", "take", "(LCubicBenchModel$Num;)V"⟩, 3), (⟨"CubicBenchModel", "addRests", "(ILCubicBenchModel$Pt;LCubicBenchModel$Pt;LCubicBenchModel$Pt;)Z"⟩, 74), (⟨"CubicBenchModel", "addWhole", "(ILCubicBenchModel$Pt;LCubicBenchModel$Pt;LCubicBenchModel$Pt;)Z"⟩, 74), (⟨"CubicBenchModel", "mul", "(LCubicBenchModel$Frac;LCubicBenchModel$Frac;LCubicBenchModel$Frac;)V"⟩, 74), (⟨"CubicBenchModel$Num", "product", "(LCubicBenchModel$Num;LCubicBenchModel$Num;)V"⟩, 3), (⟨"CubicBenchModel$Num", "cut", "()V"⟩, 3), (⟨"CubicBenchModel", "lowest", "(LCubicBenchModel$Frac;)V"⟩, 74), (⟨"CubicBenchModel", "divide", "(LCubicBenchModel$Num;LCubicBenchModel$Num;LCubicBenchModel$Num;)V"⟩, 74), (⟨"CubicBenchModel$Num", "isOne", "()Z"⟩, 3)]
theorem lw_r5 : ∀ q ∈ lw_privs_5, lw_okq q := List.forall_mem_cons.mpr ⟨lw_p64, List.forall_mem_cons.mpr ⟨lw_p65, List.forall_mem_cons.mpr ⟨lw_p66, List.forall_mem_cons.mpr ⟨lw_p67, List.forall_mem_cons.mpr ⟨lw_p68, List.forall_mem_cons.mpr ⟨lw_p69, List.forall_mem_cons.mpr ⟨lw_p70, List.forall_mem_cons.mpr ⟨lw_p71, List.forall_mem_cons.mpr ⟨lw_p72, List.forall_mem_cons.mpr ⟨lw_p73, List.forall_mem_cons.mpr ⟨lw_p74, List.forall_mem_cons.mpr ⟨lw_p75, List.forall_mem_cons.mpr ⟨lw_p76, List.forall_mem_cons.mpr ⟨lw_p77, List.forall_mem_cons.mpr ⟨lw_p78, List.forall_mem_cons.mpr ⟨lw_p79, fun _ h => absurd h List.not_mem_nil⟩⟩⟩⟩⟩⟩⟩⟩⟩⟩⟩⟩⟩⟩⟩⟩
theorem lw_p80 : lw_okq (⟨"CubicBenchModel", "plus", "(LCubicBenchModel$Frac;LCubicBenchModel$Frac;ZLCubicBenchModel$Frac;)V"⟩, 74) := ⟨⟨by decide +kernel, by decide +kernel⟩, List.mem_of_getElem? (i := 1677) (by decide +kernel), List.mem_of_getElem? (i := 2161) (by decide +kernel), List.mem_of_getElem? (i := 2162) (by decide +kernel)⟩
theorem lw_p81 : lw_okq (⟨"CubicBenchModel$Num", "sum", "(LCubicBenchModel$Num;LCubicBenchModel$Num;Z)V"⟩, 3) := ⟨⟨by decide +kernel, by decide +kernel⟩, List.mem_of_getElem? (i := 1683) (by decide +kernel), List.mem_of_getElem? (i := 2165) (by decide +kernel), List.mem_of_getElem? (i := 2166) (by decide +kernel)⟩
theorem lw_p82 : lw_okq (⟨"CubicBenchModel", "quot", "(LCubicBenchModel$Frac;LCubicBenchModel$Frac;LCubicBenchModel$Frac;)V"⟩, 74) := ⟨⟨by decide +kernel, by decide +kernel⟩, List.mem_of_getElem? (i := 1677) (by decide +kernel), List.mem_of_getElem? (i := 2170) (by decide +kernel), List.mem_of_getElem? (i := 2171) (by decide +kernel)⟩
theorem lw_p83 : lw_okq (⟨"CubicBenchModel", "isSpent", "(LCubicBenchModel$Frac;)Z"⟩, 74) := ⟨⟨by decide +kernel, by decide +kernel⟩, List.mem_of_getElem? (i := 1677) (by decide +kernel), List.mem_of_getElem? (i := 2174) (by decide +kernel), List.mem_of_getElem? (i := 2175) (by decide +kernel)⟩
theorem lw_p84 : lw_okq (⟨"CubicBenchModel", "isLong", "(LCubicBenchModel$Num;)Z"⟩, 74) := ⟨⟨by decide +kernel, by decide +kernel⟩, List.mem_of_getElem? (i := 1677) (by decide +kernel), List.mem_of_getElem? (i := 2178) (by decide +kernel), List.mem_of_getElem? (i := 2179) (by decide +kernel)⟩
theorem lw_p85 : lw_okq (⟨"CubicBenchModel", "mirrors", "(ILCubicBenchModel$Pt;)V"⟩, 74) := ⟨⟨by decide +kernel, by decide +kernel⟩, List.mem_of_getElem? (i := 1677) (by decide +kernel), List.mem_of_getElem? (i := 2187) (by decide +kernel), List.mem_of_getElem? (i := 2188) (by decide +kernel)⟩
theorem lw_p86 : lw_okq (⟨"CubicBenchModel", "multiple", "(ILCubicBenchModel$Pt;J)Z"⟩, 74) := ⟨⟨by decide +kernel, by decide +kernel⟩, List.mem_of_getElem? (i := 1677) (by decide +kernel), List.mem_of_getElem? (i := 2195) (by decide +kernel), List.mem_of_getElem? (i := 2196) (by decide +kernel)⟩
theorem lw_p87 : lw_okq (⟨"CubicBenchModel", "orderOf", "(ILCubicBenchModel$Pt;)I"⟩, 74) := ⟨⟨by decide +kernel, by decide +kernel⟩, List.mem_of_getElem? (i := 1677) (by decide +kernel), List.mem_of_getElem? (i := 2203) (by decide +kernel), List.mem_of_getElem? (i := 2204) (by decide +kernel)⟩
theorem lw_p88 : lw_okq (⟨"CubicBenchModel", "manyOf", "(I)I"⟩, 74) := ⟨⟨by decide +kernel, by decide +kernel⟩, List.mem_of_getElem? (i := 1677) (by decide +kernel), List.mem_of_getElem? (i := 2207) (by decide +kernel), List.mem_of_getElem? (i := 2208) (by decide +kernel)⟩
theorem lw_p89 : lw_okq (⟨"CubicBenchModel", "decimals", "(LCubicBenchModel$Num;)V"⟩, 74) := ⟨⟨by decide +kernel, by decide +kernel⟩, List.mem_of_getElem? (i := 1677) (by decide +kernel), List.mem_of_getElem? (i := 2219) (by decide +kernel), List.mem_of_getElem? (i := 2220) (by decide +kernel)⟩
theorem lw_p90 : lw_okq (⟨"CubicBenchModel", "puts", "(I)V"⟩, 74) := ⟨⟨by decide +kernel, by decide +kernel⟩, List.mem_of_getElem? (i := 1677) (by decide +kernel), List.mem_of_getElem? (i := 2223) (by decide +kernel), List.mem_of_getElem? (i := 2224) (by decide +kernel)⟩
theorem lw_p91 : lw_okq (⟨"CubicBenchModel$Num", "parts", "(I)I"⟩, 3) := ⟨⟨by decide +kernel, by decide +kernel⟩, List.mem_of_getElem? (i := 1683) (by decide +kernel), List.mem_of_getElem? (i := 2227) (by decide +kernel), List.mem_of_getElem? (i := 2228) (by decide +kernel)⟩
theorem lw_p92 : lw_okq (⟨"CubicBenchModel", "backs", "(I)V"⟩, 74) := ⟨⟨by decide +kernel, by decide +kernel⟩, List.mem_of_getElem? (i := 1677) (by decide +kernel), List.mem_of_getElem? (i := 2243) (by decide +kernel), List.mem_of_getElem? (i := 2244) (by decide +kernel)⟩
theorem lw_p93 : lw_okq (⟨"CubicBenchModel", "rowOf", "(IJ)V"⟩, 74) := ⟨⟨by decide +kernel, by decide +kernel⟩, List.mem_of_getElem? (i := 1677) (by decide +kernel), List.mem_of_getElem? (i := 2247) (by decide +kernel), List.mem_of_getElem? (i := 2248) (by decide +kernel)⟩
theorem lw_p94 : lw_okq (⟨"CubicBenchModel", "keepBack", "(III)V"⟩, 74) := ⟨⟨by decide +kernel, by decide +kernel⟩, List.mem_of_getElem? (i := 1677) (by decide +kernel), List.mem_of_getElem? (i := 2253) (by decide +kernel), List.mem_of_getElem? (i := 2254) (by decide +kernel)⟩
theorem lw_p95 : lw_okq (⟨"CubicBenchModel", "isRest", "(IIZ)Z"⟩, 74) := ⟨⟨by decide +kernel, by decide +kernel⟩, List.mem_of_getElem? (i := 1677) (by decide +kernel), List.mem_of_getElem? (i := 2283) (by decide +kernel), List.mem_of_getElem? (i := 2284) (by decide +kernel)⟩
def lw_privs_6 : List (MethodName × Nat) := [(⟨"CubicBenchModel", "plus", "(LCubicBenchModel$Frac;LCubicBenchModel$Frac;ZLCubicBenchModel$Frac;)V"⟩, 74), (⟨"CubicBenchModel$Num", "sum", "(LCubicBenchModel$Num;LCubicBenchModel$Num;Z)V"⟩, 3), (⟨"CubicBenchModel", "quot", "(LCubicBenchModel$Frac;LCubicBenchModel$Frac;LCubicBenchModel$Frac;)V"⟩, 74), (⟨"CubicBenchModel", "isSpent", "(LCubicBenchModel$Frac;)Z"⟩, 74), (⟨"CubicBenchModel", "isLong", "(LCubicBenchModel$Num;)Z"⟩, 74), (⟨"CubicBenchModel", "mirrors", "(ILCubicBenchModel$Pt;)V"⟩, 74), (⟨"CubicBenchModel", "multiple", "(ILCubicBenchModel$Pt;J)Z"⟩, 74), (⟨"CubicBenchModel", "orderOf", "(ILCubicBenchModel$Pt;)I"⟩, 74), (⟨"CubicBenchModel", "manyOf", "(I)I"⟩, 74), (⟨"CubicBenchModel", "decimals", "(LCubicBenchModel$Num;)V"⟩, 74), (⟨"CubicBenchModel", "puts", "(I)V"⟩, 74), (⟨"CubicBenchModel$Num", "parts", "(I)I"⟩, 3), (⟨"CubicBenchModel", "backs", "(I)V"⟩, 74), (⟨"CubicBenchModel", "rowOf", "(IJ)V"⟩, 74), (⟨"CubicBenchModel", "keepBack", "(III)V"⟩, 74), (⟨"CubicBenchModel", "isRest", "(IIZ)Z"⟩, 74)]
theorem lw_r6 : ∀ q ∈ lw_privs_6, lw_okq q := List.forall_mem_cons.mpr ⟨lw_p80, List.forall_mem_cons.mpr ⟨lw_p81, List.forall_mem_cons.mpr ⟨lw_p82, List.forall_mem_cons.mpr ⟨lw_p83, List.forall_mem_cons.mpr ⟨lw_p84, List.forall_mem_cons.mpr ⟨lw_p85, List.forall_mem_cons.mpr ⟨lw_p86, List.forall_mem_cons.mpr ⟨lw_p87, List.forall_mem_cons.mpr ⟨lw_p88, List.forall_mem_cons.mpr ⟨lw_p89, List.forall_mem_cons.mpr ⟨lw_p90, List.forall_mem_cons.mpr ⟨lw_p91, List.forall_mem_cons.mpr ⟨lw_p92, List.forall_mem_cons.mpr ⟨lw_p93, List.forall_mem_cons.mpr ⟨lw_p94, List.forall_mem_cons.mpr ⟨lw_p95, fun _ h => absurd h List.not_mem_nil⟩⟩⟩⟩⟩⟩⟩⟩⟩⟩⟩⟩⟩⟩⟩⟩
theorem lw_p96 : lw_okq (⟨"CubicBenchModel", "lists", "(I)V"⟩, 74) := ⟨⟨by decide +kernel, by decide +kernel⟩, List.mem_of_getElem? (i := 1677) (by decide +kernel), List.mem_of_getElem? (i := 2295) (by decide +kernel), List.mem_of_getElem? (i := 2296) (by decide +kernel)⟩
theorem lw_p97 : lw_okq (⟨"CubicBenchModel", "ofList", "(ILCubicBenchModel$Pt;)V"⟩, 74) := ⟨⟨by decide +kernel, by decide +kernel⟩, List.mem_of_getElem? (i := 1677) (by decide +kernel), List.mem_of_getElem? (i := 2299) (by decide +kernel), List.mem_of_getElem? (i := 2300) (by decide +kernel)⟩
theorem lw_p98 : lw_okq (⟨"CubicBenchModel", "groups", "(I)V"⟩, 74) := ⟨⟨by decide +kernel, by decide +kernel⟩, List.mem_of_getElem? (i := 1677) (by decide +kernel), List.mem_of_getElem? (i := 2307) (by decide +kernel), List.mem_of_getElem? (i := 2308) (by decide +kernel)⟩
theorem lw_p99 : lw_okq (⟨"CubicBenchModel", "seatOf", "([ILCubicBenchModel$Pt;)I"⟩, 74) := ⟨⟨by decide +kernel, by decide +kernel⟩, List.mem_of_getElem? (i := 1677) (by decide +kernel), List.mem_of_getElem? (i := 2311) (by decide +kernel), List.mem_of_getElem? (i := 2312) (by decide +kernel)⟩
theorem lw_p100 : lw_okq (⟨"CubicBenchModel", "isApart", "(III[I)Z"⟩, 74) := ⟨⟨by decide +kernel, by decide +kernel⟩, List.mem_of_getElem? (i := 1677) (by decide +kernel), List.mem_of_getElem? (i := 2315) (by decide +kernel), List.mem_of_getElem? (i := 2316) (by decide +kernel)⟩
theorem lw_p101 : lw_okq (⟨"CubicBenchModel", "pairBy", "(II)I"⟩, 74) := ⟨⟨by decide +kernel, by decide +kernel⟩, List.mem_of_getElem? (i := 1677) (by decide +kernel), List.mem_of_getElem? (i := 2323) (by decide +kernel), List.mem_of_getElem? (i := 2324) (by decide +kernel)⟩
theorem lw_p102 : lw_okq (⟨"CubicBenchModel", "lines", "(ILCubicBenchModel$Pt;LCubicBenchModel$Pt;I)J"⟩, 74) := ⟨⟨by decide +kernel, by decide +kernel⟩, List.mem_of_getElem? (i := 1677) (by decide +kernel), List.mem_of_getElem? (i := 2327) (by decide +kernel), List.mem_of_getElem? (i := 2328) (by decide +kernel)⟩
theorem lw_p103 : lw_okq (⟨"CubicBenchModel", "lineAt", "(ILCubicBenchModel$Pt;LCubicBenchModel$Pt;LCubicBenchModel$Pt;)J"⟩, 74) := ⟨⟨by decide +kernel, by decide +kernel⟩, List.mem_of_getElem? (i := 1677) (by decide +kernel), List.mem_of_getElem? (i := 2331) (by decide +kernel), List.mem_of_getElem? (i := 2332) (by decide +kernel)⟩
theorem lw_p104 : lw_okq (⟨"CubicBenchModel", "uprightAt", "(ILCubicBenchModel$Pt;LCubicBenchModel$Pt;)J"⟩, 74) := ⟨⟨by decide +kernel, by decide +kernel⟩, List.mem_of_getElem? (i := 1677) (by decide +kernel), List.mem_of_getElem? (i := 2335) (by decide +kernel), List.mem_of_getElem? (i := 2336) (by decide +kernel)⟩
theorem lw_p105 : lw_okq (⟨"CubicBenchModel", "first", "(IIJJ)V"⟩, 74) := ⟨⟨by decide +kernel, by decide +kernel⟩, List.mem_of_getElem? (i := 1677) (by decide +kernel), List.mem_of_getElem? (i := 2343) (by decide +kernel), List.mem_of_getElem? (i := 2344) (by decide +kernel)⟩
theorem lw_p106 : lw_okq (⟨"CubicBenchModel", "makes", "(IJ)V"⟩, 74) := ⟨⟨by decide +kernel, by decide +kernel⟩, List.mem_of_getElem? (i := 1677) (by decide +kernel), List.mem_of_getElem? (i := 2354) (by decide +kernel), List.mem_of_getElem? (i := 2355) (by decide +kernel)⟩
theorem lw_p107 : lw_okq (⟨"CubicBenchModel", "start", "(I)V"⟩, 74) := ⟨⟨by decide +kernel, by decide +kernel⟩, List.mem_of_getElem? (i := 1677) (by decide +kernel), List.mem_of_getElem? (i := 2358) (by decide +kernel), List.mem_of_getElem? (i := 2359) (by decide +kernel)⟩
theorem lw_p108 : lw_okq (⟨"CubicBenchModel", "byPoly", "(IJ)V"⟩, 74) := ⟨⟨by decide +kernel, by decide +kernel⟩, List.mem_of_getElem? (i := 1677) (by decide +kernel), List.mem_of_getElem? (i := 2362) (by decide +kernel), List.mem_of_getElem? (i := 2363) (by decide +kernel)⟩
theorem lw_p109 : lw_okq (⟨"CubicBenchModel", "byCube", "(J)V"⟩, 74) := ⟨⟨by decide +kernel, by decide +kernel⟩, List.mem_of_getElem? (i := 1677) (by decide +kernel), List.mem_of_getElem? (i := 2369) (by decide +kernel), List.mem_of_getElem? (i := 2370) (by decide +kernel)⟩
theorem lw_p110 : lw_okq (⟨"CubicBenchModel", "degree", "()I"⟩, 74) := ⟨⟨by decide +kernel, by decide +kernel⟩, List.mem_of_getElem? (i := 1677) (by decide +kernel), List.mem_of_getElem? (i := 2373) (by decide +kernel), List.mem_of_getElem? (i := 2374) (by decide +kernel)⟩
theorem lw_p111 : lw_okq (⟨"CubicBenchModel", "leads", "(I)I"⟩, 74) := ⟨⟨by decide +kernel, by decide +kernel⟩, List.mem_of_getElem? (i := 1677) (by decide +kernel), List.mem_of_getElem? (i := 2389) (by decide +kernel), List.mem_of_getElem? (i := 2390) (by decide +kernel)⟩
def lw_privs_7 : List (MethodName × Nat) := [(⟨"CubicBenchModel", "lists", "(I)V"⟩, 74), (⟨"CubicBenchModel", "ofList", "(ILCubicBenchModel$Pt;)V"⟩, 74), (⟨"CubicBenchModel", "groups", "(I)V"⟩, 74), (⟨"CubicBenchModel", "seatOf", "([ILCubicBenchModel$Pt;)I"⟩, 74), (⟨"CubicBenchModel", "isApart", "(III[I)Z"⟩, 74), (⟨"CubicBenchModel", "pairBy", "(II)I"⟩, 74), (⟨"CubicBenchModel", "lines", "(ILCubicBenchModel$Pt;LCubicBenchModel$Pt;I)J"⟩, 74), (⟨"CubicBenchModel", "lineAt", "(ILCubicBenchModel$Pt;LCubicBenchModel$Pt;LCubicBenchModel$Pt;)J"⟩, 74), (⟨"CubicBenchModel", "uprightAt", "(ILCubicBenchModel$Pt;LCubicBenchModel$Pt;)J"⟩, 74), (⟨"CubicBenchModel", "first", "(IIJJ)V"⟩, 74), (⟨"CubicBenchModel", "makes", "(IJ)V"⟩, 74), (⟨"CubicBenchModel", "start", "(I)V"⟩, 74), (⟨"CubicBenchModel", "byPoly", "(IJ)V"⟩, 74), (⟨"CubicBenchModel", "byCube", "(J)V"⟩, 74), (⟨"CubicBenchModel", "degree", "()I"⟩, 74), (⟨"CubicBenchModel", "leads", "(I)I"⟩, 74)]
theorem lw_r7 : ∀ q ∈ lw_privs_7, lw_okq q := List.forall_mem_cons.mpr ⟨lw_p96, List.forall_mem_cons.mpr ⟨lw_p97, List.forall_mem_cons.mpr ⟨lw_p98, List.forall_mem_cons.mpr ⟨lw_p99, List.forall_mem_cons.mpr ⟨lw_p100, List.forall_mem_cons.mpr ⟨lw_p101, List.forall_mem_cons.mpr ⟨lw_p102, List.forall_mem_cons.mpr ⟨lw_p103, List.forall_mem_cons.mpr ⟨lw_p104, List.forall_mem_cons.mpr ⟨lw_p105, List.forall_mem_cons.mpr ⟨lw_p106, List.forall_mem_cons.mpr ⟨lw_p107, List.forall_mem_cons.mpr ⟨lw_p108, List.forall_mem_cons.mpr ⟨lw_p109, List.forall_mem_cons.mpr ⟨lw_p110, List.forall_mem_cons.mpr ⟨lw_p111, fun _ h => absurd h List.not_mem_nil⟩⟩⟩⟩⟩⟩⟩⟩⟩⟩⟩⟩⟩⟩⟩⟩
theorem lw_p112 : lw_okq (⟨"CubicBenchModel", "throughRests", "(J)Z"⟩, 74) := ⟨⟨by decide +kernel, by decide +kernel⟩, List.mem_of_getElem? (i := 1677) (by decide +kernel), List.mem_of_getElem? (i := 2408) (by decide +kernel), List.mem_of_getElem? (i := 2409) (by decide +kernel)⟩
theorem lw_p113 : lw_okq (⟨"CubicBenchModel", "throughWhole", "()Z"⟩, 74) := ⟨⟨by decide +kernel, by decide +kernel⟩, List.mem_of_getElem? (i := 1677) (by decide +kernel), List.mem_of_getElem? (i := 2412) (by decide +kernel), List.mem_of_getElem? (i := 2413) (by decide +kernel)⟩
def lw_privs_8 : List (MethodName × Nat) := [(⟨"CubicBenchModel", "throughRests", "(J)Z"⟩, 74), (⟨"CubicBenchModel", "throughWhole", "()Z"⟩, 74)]
theorem lw_r8 : ∀ q ∈ lw_privs_8, lw_okq q := List.forall_mem_cons.mpr ⟨lw_p112, List.forall_mem_cons.mpr ⟨lw_p113, fun _ h => absurd h List.not_mem_nil⟩⟩
def lw_privs : List (MethodName × Nat) := lw_privs_1 ++ (lw_privs_2 ++ (lw_privs_3 ++ (lw_privs_4 ++ (lw_privs_5 ++ (lw_privs_6 ++ (lw_privs_7 ++ (lw_privs_8)))))))
def lw_tbl : List Cond := k2_sels lw_privs ++ tables_1
theorem lw_privs_ok : ∀ q ∈ lw_privs, lw_okq q := by
  show ∀ q ∈ lw_privs_1 ++ (lw_privs_2 ++ (lw_privs_3 ++ (lw_privs_4 ++ (lw_privs_5 ++ (lw_privs_6 ++ (lw_privs_7 ++ (lw_privs_8))))))), lw_okq q
  exact List.forall_mem_append.mpr ⟨lw_r1, List.forall_mem_append.mpr ⟨lw_r2, List.forall_mem_append.mpr ⟨lw_r3, List.forall_mem_append.mpr ⟨lw_r4, List.forall_mem_append.mpr ⟨lw_r5, List.forall_mem_append.mpr ⟨lw_r6, List.forall_mem_append.mpr ⟨lw_r7, lw_r8⟩⟩⟩⟩⟩⟩⟩
end
section
section VXA
/-! The laws vx_back, vx_callV, vx_callS, vx_callSW, vx_throw0, vx_throwS follow proofs of the library, with one case more: JvmDerived/Free/Laws.lean (Back.of_free), Shelf42/LK1.lean (callV, callS), Shelf/KitTraced.lean (throwNew0V, throwNewS). -/
/-- where a method has thrown q: the class by its name, the cell, what was written, the world -/
def vx_T (XC : String → State → State → Prop) (st : State) (q : Addr) (t : State) (mc ms : Nat) (free : Addr → Prop) : Prop :=
  ∃ (E : String) (ce : Cell) (L : List Loc), XC E st t ∧ t.heap[q]? = some ce ∧ ce.vm = .none ∧ st.vm.findClass E = some ce.cls ∧ st.WarmedH t.vm ∧ st.sameButNew ({ t with vm := st.vm } : State) L mc ms ∧ ∀ z ∈ L, free z.base
def vx_Q (Qc : Array Value → State → Outcome → State → Prop) (XC : String → State → State → Prop) (mc ms : Nat) (free : Addr → Prop) : Array Value → State → Outcome → State → Prop := fun a st o t =>
  (Qc a st o t ∧ ∃ L, FrameEnd st o t L mc ms ∧ ∀ q ∈ L, free q.base) ∨ ∃ q, o = .threw q ∧ vx_T XC st q t mc ms free
/-- a callee that returns or throws -/
def vx_Met (l : Launch) (y : MethodName) (ws : List Cond) (rm : Room) (Pc : Array Value → State → Prop) (Qc : Array Value → State → Outcome → State → Prop) (XC : String → State → State → Prop) (mc ms : Nat) (free : Addr → Prop) : Prop :=
  MetFree l y (headSpec ws rm) Pc (fun _ _ _ _ _ => True) (vx_Q Qc XC mc ms free)
def vx_Post (XC : String → State → State → Prop) (mc ms : Nat) (free : Addr → Prop) : Pt → Array Value → Addr → Pt → Prop := fun A a q B =>
  ∃ (g : JFrame) (mk : MethodId) (t : State) (L : List Loc) (E : String) (ce : Cell), B.U.heap = t.heap ∧ B.U.vm = t.vm ∧ XC E (A.U.calling g mk a) t ∧ t.heap[q]? = some ce ∧ ce.vm = .none ∧ A.U.vm.findClass E = some ce.cls ∧ B.locs = A.locs ++ L ∧ (∀ z ∈ L, free z.base) ∧ B.cells = A.cells + mc ∧ B.slots = A.slots + ms
def vx_Back (l : Launch) (R : Room) (p : Program) (e : Env) (below : List Frame) (s : State) (sargs : Array Value) (y : MethodName) (len W9 : Nat)
    (Pre : Pt → Array Value → Prop) (Post : Pt → Array Value → Option Value → Pt → Prop) (PostX : Pt → Array Value → Addr → Pt → Prop) : Prop :=
  ∀ (m : MethodId) (meth : Method) (c : Code) (A : Pt) (g : JFrame) (ig : Instr) (mk : MethodId) (a : Array Value),
    Stand p l e R s m sargs below meth c A.U A.locs A.cells A.slots → g.method = m → g.locals.size = c.maxLocals → decode c.code g.pc = .ok (ig, len) →
    2 * g.monitorRoom + (g.stack.map fun v => v.category).sum ≤ W9 → A.U.methodNamed? y = some mk → Pre A a →
    (∃ (v : Option Value) (B : Pt), Stand p l e R s m sargs below meth c B.U B.locs B.cells B.slots ∧ Post A a v B ∧
      Steps p.tables e below (doInvoke e (A.U.setTop g) [] mk a).1 (B.U.setTop { g with pc := g.pc + len, stack := v.toList ++ g.stack })) ∨
    (∃ (q : Addr) (B : Pt), Stand p l e R s m sargs below meth c B.U B.locs B.cells B.slots ∧ PostX A a q B ∧
      Steps p.tables e below (doInvoke e (A.U.setTop g) [] mk a).1 ((B.U.setTop g).pushFrame (.throwing q)))
section Payer
variable {l : Launch} {R : Room} {p : Program} {e : Env} {below : List Frame} {s : State} {sargs : Array Value} {y : MethodName} {len W9 : Nat}
theorem vx_back {ws : List Cond} {rm : Room} {Pc : Array Value → State → Prop} {Qc : Array Value → State → Outcome → State → Prop} {XC : String → State → State → Prop} {mc ms : Nat} {free : Addr → Prop} {bytes : ByteArray} {maxL : Nat} {ret : Option FieldType}
    (hM : vx_Met l y ws rm Pc Qc XC mc ms free) (hblind : FrameBlind Pc) (hrc : rm.cells = mc) (hrs : rm.slots = ms)
    (hframes : rm.frames + 1 ≤ R.frames) (hlocals : W9 + (maxL + 11) + rm.locals ≤ R.locals)
    (hws : ∀ w ∈ ws, ∀ a' U, s.WarmedH U.vm → w.before a' U = true) (hcode : Cond.code y bytes maxL ret ∈ ws) (hinit : ∀ a' U, s.WarmedH U.vm → (Cond.initialized y.cls).before a' U = true) :
    vx_Back l R p e below s sargs y len W9 (PreOf R mc ms Pc) (PostOf Qc mc ms free) (vx_Post XC mc ms free) := by
  intro m meth c A g ig mk a X hg hsize hdg hW hn hp
  have h1 : (headSpec ws rm).pre.before a A.U = true := atoms_intro fun w hw => hws w hw _ _ X.warmed
  have h2 : (Cond.code y bytes maxL ret).before a A.U = true := hws _ hcode _ _ X.warmed
  have h3 : (Cond.initialized y.cls).before a A.U = true := hinit _ _ X.warmed
  have h4 : A.cells + (headSpec ws rm).room.cells ≤ R.cells := by rw [show (headSpec ws rm).room.cells = mc from hrc]; exact hp.1
  have h5 : A.slots + (headSpec ws rm).room.slots ≤ R.slots := by rw [show (headSpec ws rm).room.slots = ms from hrs]; exact hp.2.1
  have hPc : Pc a (A.U.calling g mk a) := hblind _ _ _ _ hp.2.2
  obtain ⟨U, Ls, c0, s0⟩ := A
  dsimp only [Pt.U, Pt.locs, Pt.cells, Pt.slots] at h1 h2 h3 h4 h5 X hn hPc ⊢
  obtain ⟨methY, cY, hmY, hcY, -, hlY, -, -, -, -⟩ := Cond.code_spec hn h2
  obtain ⟨kY, hkY, -⟩ := className_of_methodNamed hn
  have hinitY : kY.init = .initialized := Cond.initialized_spec (findClass_of_methodNamed hn) hkY h3
  have h : At U g.method c below := by rw [hg]; exact X.here
  have hlocals9 : W9 + (maxL + 11) + (headSpec ws rm).room.locals ≤ R.locals := hlocals
  have happ : (headSpec ws rm).appliesLoose y e.platform (U.calling g mk a) = true :=
    Spec.appliesLoose_calling (g := g) h hdg hn hkY hinitY
      (X.room_calling (g := g) (R' := (headSpec ws rm).room) hsize hmY hcY hframes (by rw [hlY]; omega) h4 h5) h1
  obtain ⟨mid, hmid⟩ := h.above
  have hfr : (U.setTop g).frames = (.java g :: mid) ++ below := by rw [State.frames_setTop' g h.top, hmid]; rfl
  obtain ⟨o, s₂, hsteps, -, hend, hq⟩ := Steps.callFree hM p X.admits X.cas X.clock (acts := []) hfr happ hPc trivial
  have hq' : vx_Q Qc XC mc ms free a (U.calling g mk a) o s₂ := hq
  rw [State.frames_setTop' g h.top] at hend
  obtain ⟨g₀, hg0⟩ := Option.isSome_iff_exists.mp h.top
  obtain ⟨r, hr⟩ := State.topJava?_eq_some.mp hg0
  have hr' : (({ U with heap := s₂.heap, slotsUsed := s₂.slotsUsed } : State).setVm s₂.vm).frames = .java g₀ :: r := hr
  rcases hq' with ⟨hqc, L, hfe, hL⟩ | ⟨q, rfl, E, ce, L, hx, hce, hcv, hcl, hW₂, hsm, hL⟩
  · obtain ⟨⟨v, rfl⟩, hW₂, e2, q2, q3, q4, q5, q6⟩ := id hfe
    have e3 : s₂ = ({ (U.calling g mk a).setFrames s₂.frames with heap := s₂.heap, slotsUsed := s₂.slotsUsed } : State).setVm s₂.vm := by
      have : s₂ = ({ s₂ with vm := (U.calling g mk a).vm } : State).setVm s₂.vm := rfl
      rw [e2] at this
      exact this
    obtain ⟨c₂, i₂, len₂, hc₂, hd₂, hf₂⟩ := hend
    have hW' : U.WarmedH s₂.vm := hW₂
    have hcc : c₂ = c := by
      have h1 : s₂.code? g.method = U.code? g.method := by
        rw [State.code?_eq, State.code?_eq, hW'.alike.method?]
      exact Option.some.inj (hc₂.symm.trans (h1.trans h.code))
    subst hcc
    have hlen : len₂ = len := by rw [hdg] at hd₂; cases hd₂; rfl
    subst hlen
    have hs₂ : s₂ = (({ U with heap := s₂.heap, slotsUsed := s₂.slotsUsed } : State).setVm s₂.vm).setTop { g with pc := g.pc + len₂, stack := v.toList ++ g.stack } := by
      refine e3.trans ?_
      rw [hf₂, State.calling_eq h.top, State.setFrames_setFrames, State.setTop_of_frames _ hr', hr]
      rfl
    have hsame : U.sameButNew ({ U with heap := s₂.heap, slotsUsed := s₂.slotsUsed } : State) L mc ms := by
      refine ⟨?_, q2, q3, q4, q5, q6⟩
      obtain ⟨t, ht, -⟩ := State.frames_cons hr
      show ({ U with heap := s₂.heap, slotsUsed := s₂.slotsUsed } : State) = { U.setFrames U.frames with heap := s₂.heap, slotsUsed := s₂.slotsUsed }
      rw [State.setFrames_self ht]
    subst hg
    refine Or.inl ⟨v, ⟨(({ U with heap := s₂.heap, slotsUsed := s₂.slotsUsed } : State).setVm s₂.vm), Ls ++ L, c0 + mc, s0 + ms⟩,
      ⟨X.admits, X.cas, X.clock, X.frames, X.room, X.hears, X.method, X.code, (X.here.setHeapUsed s₂.heap s₂.slotsUsed).setVm hW'.alike, X.tail, State.WarmedH.trans X.warmed hW', X.limits, X.bytes, X.same.trans (hsame.setVm s.vm)⟩,
      ⟨g, mk, s₂, L, rfl, rfl, hqc, rfl, hL, rfl, rfl⟩, ?_⟩
    show Steps p.tables e below _ ((({ U with heap := s₂.heap, slotsUsed := s₂.slotsUsed } : State).setVm s₂.vm).setTop { g with pc := g.pc + len₂, stack := v.toList ++ g.stack })
    rw [← hs₂]
    exact hsteps
  · obtain ⟨e2, q2, q3, q4, q5, q6⟩ := id hsm
    have e3 : s₂ = ({ (U.calling g mk a).setFrames s₂.frames with heap := s₂.heap, slotsUsed := s₂.slotsUsed } : State).setVm s₂.vm := by
      have : s₂ = ({ s₂ with vm := (U.calling g mk a).vm } : State).setVm s₂.vm := rfl
      rw [e2] at this
      exact this
    have hf₂ : s₂.frames = .throwing q :: .java g :: U.frames.tail := hend
    have hW' : U.WarmedH s₂.vm := hW₂
    have hs₂ : s₂ = ((({ U with heap := s₂.heap, slotsUsed := s₂.slotsUsed } : State).setVm s₂.vm).setTop g).pushFrame (.throwing q) := by
      refine e3.trans ?_
      rw [hf₂, State.calling_eq h.top, State.setFrames_setFrames, State.pushFrame, State.frames_setTop _ hr', State.setTop_of_frames _ hr', State.setFrames_setFrames, hr]
      rfl
    have hsame : U.sameButNew ({ U with heap := s₂.heap, slotsUsed := s₂.slotsUsed } : State) L mc ms := by
      refine ⟨?_, q2, q3, q4, q5, q6⟩
      obtain ⟨t, ht, -⟩ := State.frames_cons hr
      show ({ U with heap := s₂.heap, slotsUsed := s₂.slotsUsed } : State) = { U.setFrames U.frames with heap := s₂.heap, slotsUsed := s₂.slotsUsed }
      rw [State.setFrames_self ht]
    subst hg
    refine Or.inr ⟨q, ⟨(({ U with heap := s₂.heap, slotsUsed := s₂.slotsUsed } : State).setVm s₂.vm), Ls ++ L, c0 + mc, s0 + ms⟩,
      ⟨X.admits, X.cas, X.clock, X.frames, X.room, X.hears, X.method, X.code, (X.here.setHeapUsed s₂.heap s₂.slotsUsed).setVm hW'.alike, X.tail, State.WarmedH.trans X.warmed hW', X.limits, X.bytes, X.same.trans (hsame.setVm s.vm)⟩,
      ⟨g, mk, s₂, L, E, ce, rfl, rfl, hx, hce, hcv, hcl, rfl, hL, rfl, rfl⟩, ?_⟩
    show Steps p.tables e below _ (((({ U with heap := s₂.heap, slotsUsed := s₂.slotsUsed } : State).setVm s₂.vm).setTop g).pushFrame (.throwing q))
    rw [← hs₂]
    exact hsteps
end Payer
section Calls
variable {p : Program} {l : Launch} {e : Env} {R : Room} {s : State} {m : MethodId} {args : Array Value} {below : List Frame} {meth : Method} {c : Code} {T : State} {locs : List Loc} {cells slots : Nat}
theorem vx_callV (X : Stand p l e R s m args below meth c T locs cells slots) (hexec : p.tables.exec = Jvm.exec) {own C : String} {index : Nat} {y : MethodName} {bytes : ByteArray} {maxL : Nat} {ret : Option FieldType}
    (hown : s.vm.findClass own = some m.cls) (hlink : (Cond.methodLink own index y).before args s = true) (hinst : (Cond.instanceMethod y).before args s = true) (hsel : (Cond.selects C y y).before args s = true)
    (hcode : (Cond.code y bytes maxL ret).before args s = true) (hy : y.cls ≠ "java/lang/invoke/MethodHandle" ∧ y.cls ≠ "java/lang/invoke/VarHandle")
    {W9 : Nat} {Pre : Pt → Array Value → Prop} {Post : Pt → Array Value → Option Value → Pt → Prop} {PostX : Pt → Array Value → Addr → Pt → Prop} (hK : vx_Back l R p e below s args y 3 W9 Pre Post PostX)
    {b : Addr} {cellB : Cell} (hcell : T.heap[b]? = some cellB) (hobj : cellB.vm.isStatics = false) (hcls : s.vm.findClass C = some cellB.cls)
    {g : JFrame} (hg : g.method = m) (hsize : g.locals.size = c.maxLocals) {argsL rest : List Value} (hlen : ∀ sig, parseMethodDescriptor y.desc = some sig → argsL.length = sig.parameters.length)
    (hstack : g.stack = argsL.reverse ++ .ref b :: rest) (hW : 2 * g.monitorRoom + (rest.map fun v => v.category).sum ≤ W9) (hdg : decode c.code g.pc = .ok (.invokevirtual index, 3))
    (hpre : ∀ vm₁, s.WarmedH vm₁ → Pre ⟨T.setVm vm₁, locs, cells, slots⟩ (Value.ref b :: argsL).toArray) :
    (∃ (v : Option Value) (vm₁ : Vm) (B : Pt), s.WarmedH vm₁ ∧ Stand p l e R s m args below meth c B.U B.locs B.cells B.slots ∧ Post ⟨T.setVm vm₁, locs, cells, slots⟩ (Value.ref b :: argsL).toArray v B ∧
      ∀ target, Steps p.tables e below (B.U.setTop { g with pc := g.pc + 3, stack := v.toList ++ rest }) target → Steps p.tables e below (T.setTop g) target) ∨
    (∃ (q : Addr) (vm₁ : Vm) (B : Pt), s.WarmedH vm₁ ∧ Stand p l e R s m args below meth c B.U B.locs B.cells B.slots ∧ PostX ⟨T.setVm vm₁, locs, cells, slots⟩ (Value.ref b :: argsL).toArray q B ∧
      Steps p.tables e below (T.setTop g) ((B.U.setTop { g with stack := rest }).pushFrame (.throwing q))) := by
  obtain ⟨mk, methM, hnamed, hmethM, hstM, habM⟩ := Cond.instanceMethod_spec hinst
  obtain ⟨methM', cM, hmethM', -, -, -, -, -, -, hsigM⟩ := Cond.code_spec hnamed hcode
  cases hmethM.symm.trans hmethM'
  obtain ⟨c2, r2, m2, q1, q2, q3, q4, kP, hkP, hkPi⟩ := Cond.selects_spec hsel
  cases hcls.symm.trans q1
  cases (State.methodFound?_of_named hnamed hy).symm.trans q2
  cases hnamed.symm.trans q3
  have hselP : selectMethod e.platform s.vm cellB.cls mk = .method mk := by rw [Launch.admits_selectMethod X.admits]; exact q4
  obtain ⟨vm₁, X₁, hstep₁⟩ := X.invokevirtual hexec hown hlink hnamed hmethM hstM hkP hkPi hy (a := b) (cell := cellB) hcell
    (fun z h => by rw [h] at hobj; cases hobj) hselP hmethM habM hkP hkPi (g := g) hg (argsL := argsL) (rest := rest) (hlen _ hsigM) hstack hdg
  rcases hK m meth c ⟨T.setVm vm₁, locs, cells, slots⟩ { g with stack := rest } (.invokevirtual index) mk (Value.ref b :: argsL).toArray X₁ hg hsize hdg hW (X₁.named hnamed) (hpre vm₁ X₁.warmed) with ⟨v, B, X', hpost, hsteps⟩ | ⟨q, B, X', hpost, hsteps⟩
  · exact Or.inl ⟨v, vm₁, B, X₁.warmed, X', hpost, fun target h => hstep₁ _ fun acts => by rw [doInvoke_state]; exact hsteps.trans h⟩
  · exact Or.inr ⟨q, vm₁, B, X₁.warmed, X', hpost, hstep₁ _ fun acts => by rw [doInvoke_state]; exact hsteps⟩
theorem vx_callS (X : Stand p l e R s m args below meth c T locs cells slots) (hexec : p.tables.exec = Jvm.exec) {own : String} {index : Nat} {y : MethodName} {bytes : ByteArray} {maxL : Nat} {ret : Option FieldType}
    (hown : s.vm.findClass own = some m.cls) (hlink : (Cond.methodLink own index y).before args s = true) (hstat : (Cond.static y).before args s = true) (hinit : (Cond.initialized y.cls).before args s = true)
    (hcode : (Cond.code y bytes maxL ret).before args s = true) (hy : y.cls ≠ "java/lang/invoke/MethodHandle" ∧ y.cls ≠ "java/lang/invoke/VarHandle")
    {W9 : Nat} {Pre : Pt → Array Value → Prop} {Post : Pt → Array Value → Option Value → Pt → Prop} {PostX : Pt → Array Value → Addr → Pt → Prop} (hK : vx_Back l R p e below s args y 3 W9 Pre Post PostX)
    {g : JFrame} (hg : g.method = m) (hsize : g.locals.size = c.maxLocals) {argsL rest : List Value} (hlen : ∀ sig, parseMethodDescriptor y.desc = some sig → argsL.length = sig.parameters.length)
    (hstack : g.stack = argsL.reverse ++ rest) (hW : 2 * g.monitorRoom + (rest.map fun v => v.category).sum ≤ W9) (hdg : decode c.code g.pc = .ok (.invokestatic index, 3))
    (hpre : ∀ vm₁, s.WarmedH vm₁ → Pre ⟨T.setVm vm₁, locs, cells, slots⟩ argsL.toArray) :
    (∃ (v : Option Value) (vm₁ : Vm) (B : Pt), s.WarmedH vm₁ ∧ Stand p l e R s m args below meth c B.U B.locs B.cells B.slots ∧ Post ⟨T.setVm vm₁, locs, cells, slots⟩ argsL.toArray v B ∧
      ∀ target, Steps p.tables e below (B.U.setTop { g with pc := g.pc + 3, stack := v.toList ++ rest }) target → Steps p.tables e below (T.setTop g) target) ∨
    (∃ (q : Addr) (vm₁ : Vm) (B : Pt), s.WarmedH vm₁ ∧ Stand p l e R s m args below meth c B.U B.locs B.cells B.slots ∧ PostX ⟨T.setVm vm₁, locs, cells, slots⟩ argsL.toArray q B ∧
      Steps p.tables e below (T.setTop g) ((B.U.setTop { g with stack := rest }).pushFrame (.throwing q))) := by
  obtain ⟨mk, hnamed⟩ := Cond.code_named hcode
  obtain ⟨methM, cM, hmethM, -, -, -, -, -, -, hsigM⟩ := Cond.code_spec hnamed hcode
  have hstatic : methM.isStatic = true := Cond.static_spec hnamed hmethM hstat
  obtain ⟨kP, hkP, -⟩ := className_of_methodNamed hnamed
  have hinitP : kP.init = .initialized := Cond.initialized_spec (findClass_of_methodNamed hnamed) hkP hinit
  obtain ⟨vm₁, X₁, hstep₁⟩ := X.invokestatic hexec hown hlink hnamed hmethM hstatic hkP hinitP hy (g := g) hg (argsL := argsL) (rest := rest) (hlen _ hsigM) hstack hdg
  rcases hK m meth c ⟨T.setVm vm₁, locs, cells, slots⟩ { g with stack := rest } (.invokestatic index) mk argsL.toArray X₁ hg hsize hdg hW (X₁.named hnamed) (hpre vm₁ X₁.warmed) with ⟨v, B, X', hpost, hsteps⟩ | ⟨q, B, X', hpost, hsteps⟩
  · exact Or.inl ⟨v, vm₁, B, X₁.warmed, X', hpost, fun target h => hstep₁ _ fun acts => by rw [doInvoke_state]; exact hsteps.trans h⟩
  · exact Or.inr ⟨q, vm₁, B, X₁.warmed, X', hpost, hstep₁ _ fun acts => by rw [doInvoke_state]; exact hsteps⟩
end Calls
theorem vx_cls {s : State} {T : State} {vm₁ : Vm} {E : String} {k : ClassId} (hW : s.WarmedH vm₁) (h : (T.setVm vm₁).vm.findClass E = some k) : s.vm.findClass E = some k := by
  have h1 : vm₁.findClass E = some k := h
  rw [hW.alike.findClass] at h1
  exact h1
/-- the method's frame g, with q thrown over it -/
def vx_W (p : Program) (l : Launch) (e : Env) (R : Room) (s : State) (m : MethodId) (args : Array Value) (below : List Frame) (meth : Method) (c : Code) (H : Heap) (locs : List Loc) (cells slots : Nat) (Q : State → Prop) (g : JFrame) (q : Addr) : Prop :=
  ∀ T : State, T.heap = H → Stand p l e R s m args below meth c T locs cells slots → ∃ t, Steps p.tables e below ((T.setTop g).pushFrame (.throwing q)) t ∧ Q t
def vx_Run (p : Program) (l : Launch) (e : Env) (R : Room) (s : State) (m : MethodId) (args : Array Value) (below : List Frame) (meth : Method) (c : Code) (H : Heap) (locs : List Loc) (cells slots mc ms : Nat) (g : JFrame) (rest : List Value) (Qa : State → Outcome → State → Prop) (XC : String → State → State → Prop) (free : Addr → Prop) : Prop :=
  ∀ T : State, T.heap = H → Stand p l e R s m args below meth c T locs cells slots →
    (∃ (v : Option Value) (st₀ t T' : State) (L : List Loc), st₀.heap = H ∧ Stand p l e R s m args below meth c T' (locs ++ L) (cells + mc) (slots + ms) ∧ (∀ q ∈ L, free q.base) ∧ T'.heap = t.heap ∧ T'.vm = t.vm ∧ Qa st₀ (.returned v) t ∧
      Goes p e below T g T' { g with pc := g.pc + 3, stack := v.toList ++ rest }) ∨
    (∃ (q : Addr) (st₀ t T' : State) (L : List Loc) (E : String) (ce : Cell), st₀.heap = H ∧ Stand p l e R s m args below meth c T' (locs ++ L) (cells + mc) (slots + ms) ∧ (∀ z ∈ L, free z.base) ∧ T'.heap = t.heap ∧ T'.vm = t.vm ∧ XC E st₀ t ∧ t.heap[q]? = some ce ∧ ce.vm = .none ∧ s.vm.findClass E = some ce.cls ∧
      Steps p.tables e below (T.setTop g) ((T'.setTop { g with stack := rest }).pushFrame (.throwing q)))
def vx_X {S : Type} (px : S → Prop) (B : String → S → State → Prop) (A : Nat → Prop) : String → State → State → Prop := fun E st t => ∃ u : S, px u ∧ B E u t ∧ va_F A st t
section Runs
variable {p : Program} {l : Launch} {e : Env} {R : Room} {s : State} {m : MethodId} {args : Array Value} {below : List Frame} {meth : Method} {c : Code} {H : Heap} {locs : List Loc} {cells slots : Nat}
variable {y : MethodName} {bytes cc : ByteArray} {maxL nL mc ms n index : Nat} {ret : Option FieldType} {ws : List Cond} {rm : Room} {Pc : Array Value → State → Prop} {Qc : Array Value → State → Outcome → State → Prop} {XC : String → State → State → Prop} {free : Addr → Prop} {Ts : List Cond} {own C : String} {b : Addr} {As rest : List Value} {g : JFrame}
theorem vx_callBack (cb : CallB R s args own index y bytes maxL ret ws rm mc ms n) (hM : vx_Met l y ws rm Pc Qc XC mc ms free) (hbl : FrameBlind Pc) : vx_Back l R p e below s args y 3 8 (PreOf R mc ms Pc) (PostOf Qc mc ms free) (vx_Post XC mc ms free) := by
  obtain ⟨hrc, hrs, hfr, hlo, hws, hcw, -, hini, -⟩ := cb
  exact vx_back (bytes := bytes) (maxL := maxL) (ret := ret) hM hbl hrc hrs hfr hlo hws hcw (fun a' U hW => word_at hW (Or.inl (by first | rfl | simp [Cond.onTables, Cond.keeps, Cond.steady])) hini)
theorem vx_runV (S : CallFix p m c cc nL s args Ts own) (hM : vx_Met l y ws rm Pc Qc XC mc ms free) (cw : CallW R s args own C index y bytes maxL ret ws rm mc ms n) (hp : PreV s H C b Pc As)
    (hg : g.method = m) (hn : As.length = n) (hsize : g.locals.size = nL) (hstack : g.stack = As.reverse ++ .ref b :: rest) (hW : 2 * g.monitorRoom + (rest.map fun v => v.category).sum ≤ 8) (hdg : decode cc g.pc = .ok (.invokevirtual index, 3)) (hf : cells + mc ≤ R.cells ∧ slots + ms ≤ R.slots) :
    vx_Run p l e R s m args below meth c H locs cells slots mc ms g rest (Qc (Value.ref b :: As).toArray) XC free := by
  have hK : vx_Back l R p e below s args y 3 8 (PreOf R mc ms Pc) (PostOf Qc mc ms free) (vx_Post XC mc ms free) := vx_callBack cw.1 hM hp.1
  obtain ⟨⟨-, -, -, -, -, -, hcode, -, hy, hlen, hl⟩, hin, hse⟩ := cw
  obtain ⟨hx, hb, hml, ho, -⟩ := S
  obtain ⟨-, ⟨cellB, hcB, hoB, hclB⟩, hPc⟩ := hp
  intro T hT X
  rcases vx_callV X hx (C := C) (bytes := bytes) (maxL := maxL) (ret := ret) ho hl hin hse hcode hy hK (by rw [hT]; exact hcB) hoB hclB hg (hsize.trans hml.symm) (argsL := As) (rest := rest) (fun sig h => hn.trans (hlen sig h)) hstack hW (by rw [hb]; exact hdg)
    (fun vm₁ hW₁ => ⟨hf.1, hf.2, hPc (T.setVm vm₁) hT hW₁⟩) with ⟨v, vm₁, ⟨U', l2, c2, s2⟩, hW₁, X', ⟨g', mk, t, L, e1, e2, hq, h1, hL, h2, h3⟩, st⟩ | ⟨q, vm₁, ⟨U', l2, c2, s2⟩, hW₁, X', ⟨g', mk, t, L, E, ce, e1, e2, hq, hce, hcv, hcl, h1, hL, h2, h3⟩, st⟩
  · dsimp only [Pt.U, Pt.locs, Pt.cells, Pt.slots] at X' e1 e2 h1 h2 h3 st
    subst h1; subst h2; subst h3
    exact Or.inl ⟨v, (T.setVm vm₁).calling g' mk (Value.ref b :: As).toArray, t, U', L, hT, X', hL, e1, e2, hq, st⟩
  · dsimp only [Pt.U, Pt.locs, Pt.cells, Pt.slots] at X' e1 e2 h1 h2 h3 st hcl
    subst h1; subst h2; subst h3
    exact Or.inr ⟨q, (T.setVm vm₁).calling g' mk (Value.ref b :: As).toArray, t, U', L, E, ce, hT, X', hL, e1, e2, hq, hce, hcv, vx_cls hW₁ hcl, st⟩
theorem vx_runS (S : CallFix p m c cc nL s args Ts own) (hM : vx_Met l y ws rm Pc Qc XC mc ms free) (cw : CallB R s args own index y bytes maxL ret ws rm mc ms n ∧ (Cond.static y).before args s = true) (hp : PreS s H Pc As)
    (hg : g.method = m) (hn : As.length = n) (hsize : g.locals.size = nL) (hstack : g.stack = As.reverse ++ rest) (hW : 2 * g.monitorRoom + (rest.map fun v => v.category).sum ≤ 8) (hdg : decode cc g.pc = .ok (.invokestatic index, 3)) (hf : cells + mc ≤ R.cells ∧ slots + ms ≤ R.slots) :
    vx_Run p l e R s m args below meth c H locs cells slots mc ms g rest (Qc As.toArray) XC free := by
  have hK : vx_Back l R p e below s args y 3 8 (PreOf R mc ms Pc) (PostOf Qc mc ms free) (vx_Post XC mc ms free) := vx_callBack cw.1 hM hp.1
  obtain ⟨⟨-, -, -, -, -, -, hcode, hini, hy, hlen, hl⟩, hstt⟩ := cw
  obtain ⟨hx, hb, hml, ho, -⟩ := S
  intro T hT X
  rcases vx_callS X hx (bytes := bytes) (maxL := maxL) (ret := ret) ho hl hstt hini hcode hy hK hg (hsize.trans hml.symm) (argsL := As) (rest := rest) (fun sig h => hn.trans (hlen sig h)) hstack hW (by rw [hb]; exact hdg)
    (fun vm₁ hW₁ => ⟨hf.1, hf.2, hp.2 (T.setVm vm₁) hT hW₁⟩) with ⟨v, vm₁, ⟨U', l2, c2, s2⟩, hW₁, X', ⟨g', mk, t, L, e1, e2, hq, h1, hL, h2, h3⟩, st⟩ | ⟨q, vm₁, ⟨U', l2, c2, s2⟩, hW₁, X', ⟨g', mk, t, L, E, ce, e1, e2, hq, hce, hcv, hcl, h1, hL, h2, h3⟩, st⟩
  · dsimp only [Pt.U, Pt.locs, Pt.cells, Pt.slots] at X' e1 e2 h1 h2 h3 st
    subst h1; subst h2; subst h3
    exact Or.inl ⟨v, (T.setVm vm₁).calling g' mk As.toArray, t, U', L, hT, X', hL, e1, e2, hq, st⟩
  · dsimp only [Pt.U, Pt.locs, Pt.cells, Pt.slots] at X' e1 e2 h1 h2 h3 st hcl
    subst h1; subst h2; subst h3
    exact Or.inr ⟨q, (T.setVm vm₁).calling g' mk As.toArray, t, U', L, E, ce, hT, X', hL, e1, e2, hq, hce, hcv, vx_cls hW₁ hcl, st⟩
end Runs
section Rows
variable {p : Program} {l : Launch} {e : Env} {R : Room} {s : State} {m : MethodId} {args : Array Value} {below : List Frame} {meth : Method} {c : Code} {H : Heap} {locs : List Loc} {cells slots : Nat} {Q : State → Prop}
variable {mc ms : Nat} {free : Addr → Prop} {A0 A1 : Nat → Prop} {H0 : Heap} {a : Array Value} {pc : Nat} {ls : Array Slot} {st0 rest : List Value}
theorem vx_keep {st₀ t T' : State} {L : List Loc} (h0 : st₀.heap = H) (e1 : T'.heap = t.heap) (hS : va_S A0 H0 H locs) (hA : ∀ q, q < H.size → A1 q → A0 q) (hf : ∀ q, free q → A0 q) (hL : ∀ q ∈ L, free q.base) (hF : va_F A1 st₀ t) :
    H.size ≤ T'.heap.size ∧ (∀ q : Nat, q < H.size → ¬ A1 q → T'.heap[q]? = H[q]?) ∧ va_S A0 H0 T'.heap (locs ++ L) := by
  obtain ⟨hz, hk⟩ := hF
  rw [h0] at hz hk
  exact ⟨by rw [e1]; exact hz, fun q h1 h2 => by rw [e1]; exact hk q h1 h2,
    ⟨Nat.le_trans hS.1 (by rw [e1]; exact hz), fun q h1 h2 => by rw [e1, hk q (Nat.lt_of_lt_of_le h1 hS.1) (fun z => h2 (hA q (Nat.lt_of_lt_of_le h1 hS.1) z))]; exact hS.2.1 q h1 h2, fun q hq => by
      rcases List.mem_append.mp hq with h | h
      · exact hS.2.2 q h
      · exact hf _ (hL q h)⟩⟩
theorem vx_calli {S SX : Type} {post : Int32 → S → Prop} {px : SX → Prop} {B : S → State → Prop} {BX : String → SX → State → Prop} {AX : Nat → Prop} (hr : vx_Run p l e R s m args below meth c H locs cells slots mc ms (F0 m pc ls st0) rest (va_Qi post B A1 a) (vx_X px BX AX) free) (hS : va_S A0 H0 H locs) (hA : ∀ q, q < H.size → A1 q → A0 q) (hf : ∀ q, free q → A0 q) (hAX : ∀ q, q < H.size → AX q → A0 q)
    (kx : ∀ (E : String) (ce : Cell) (q9 : Addr) (u : SX) (t : State) (H1 : Heap) (locs1 : List Loc), t.heap = H1 → s.vm.Alike t.vm → px u → BX E u t → H.size ≤ H1.size → (∀ q : Nat, q < H.size → ¬ AX q → H1[q]? = H[q]?) → va_S A0 H0 H1 locs1 → H1[q9]? = some ce → ce.vm = .none → s.vm.findClass E = some ce.cls → vx_W p l e R s m args below meth c H1 locs1 (cells + mc) (slots + ms) Q (F0 m pc ls rest) q9)
    (kk : ∀ (r : Int32) (u : S) (t : State) (H1 : Heap) (locs1 : List Loc), t.heap = H1 → s.vm.Alike t.vm → post r u → B u t → H.size ≤ H1.size → (∀ q : Nat, q < H.size → ¬ A1 q → H1[q]? = H[q]?) → va_S A0 H0 H1 locs1 → W p l e R s m args below meth c H1 locs1 (cells + mc) (slots + ms) Q (F0 m (pc + 3) ls (.int r :: rest))) : W p l e R s m args below meth c H locs cells slots Q (F0 m pc ls st0) := by
  intro T hT X
  rcases hr T hT X with ⟨v, st₀, t, T', L, h0, X', hL, e1, e2, ⟨⟨r, u, hv, hp, hb⟩, hF⟩, st⟩ | ⟨q, st₀, t, T', L, E, ce, h0, X', hL, e1, e2, ⟨u, hp, hb, hF⟩, hce, hcv, hcl, st⟩
  · cases hv
    obtain ⟨k1, k2, k3⟩ := vx_keep h0 e1 hS hA hf hL hF
    obtain ⟨t2, a1, b1⟩ := kk r u t T'.heap (locs ++ L) e1.symm (by rw [← e2]; exact X'.warmed.alike) hp hb k1 k2 k3 T' rfl X'
    exact ⟨t2, st t2 a1, b1⟩
  · obtain ⟨k1, k2, k3⟩ := vx_keep h0 e1 hS hAX hf hL hF
    obtain ⟨t2, a1, b1⟩ := kx E ce q u t T'.heap (locs ++ L) e1.symm (by rw [← e2]; exact X'.warmed.alike) hp hb k1 k2 k3 (by rw [e1]; exact hce) hcv hcl T' rfl X'
    exact ⟨t2, st.trans a1, b1⟩
end Rows
section Ends
variable {p : Program} {l : Launch} {e : Env} {R : Room} {s : State} {m : MethodId} {args : Array Value} {below : List Frame} {meth : Method} {c : Code} {H : Heap} {locs : List Loc} {cells slots : Nat} {Q : State → Prop}
variable {mc ms : Nat} {free : Addr → Prop} {A0 A1 : Nat → Prop} {H0 : Heap} {a : Array Value} {ls : Array Slot} {st0 rest : List Value}
variable {Qc : Array Value → State → Outcome → State → Prop} {XC : String → State → State → Prop}
/-- what a body that may throw owes at its end -/
def vx_MQ (below : List Frame) (Qc : Array Value → State → Outcome → State → Prop) (XC : String → State → State → Prop) (a : Array Value) (s : State) (mc ms : Nat) (free : Addr → Prop) : State → Prop := fun t =>
  ∃ o, t.status = .running ∧ Ended t below o ∧ vx_Q Qc XC mc ms free a s o t
theorem vx_ret {g : JFrame} {mc ms : Nat} (k : W p l e R s m args below meth c H locs cells slots (MQ below Qc args s mc ms free) g) : W p l e R s m args below meth c H locs cells slots (vx_MQ below Qc XC args s mc ms free) g := by
  intro T hT X
  obtain ⟨t, a1, o, b1, b2, b3, b4⟩ := k T hT X
  exact ⟨t, a1, o, b1, b2, Or.inl ⟨b3, b4⟩⟩
/-- not caught here: it goes on to the caller -/
theorem vx_widen {g : JFrame} {q : Addr} {k n : Nat} (h1 : cells ≤ k) (h2 : slots ≤ n) (kk : vx_W p l e R s m args below meth c H locs k n Q g q) : vx_W p l e R s m args below meth c H locs cells slots Q g q := fun T hT X => kk T hT (stand_widen X h1 h2)
theorem vx_out {pc : Nat} {E : String} {ce : Cell} {q : Addr} {mc ms : Nat} (hout : ∀ x ∈ c.exceptionTable.toList, covers x pc = false) (hlocks : meth.locks = false) (hcell : H[q]? = some ce) (hv : ce.vm = .none) (hcl : s.vm.findClass E = some ce.cls)
    (hx : ∀ t : State, t.heap = H → s.vm.Alike t.vm → XC E s t) (hf : ∀ z ∈ locs, free z.base) (hc : cells ≤ mc) (hs : slots ≤ ms) :
    vx_W p l e R s m args below meth c H locs cells slots (vx_MQ below Qc XC args s mc ms free) (F0 m pc ls rest) q := by
  intro T hT X
  obtain ⟨st1, hrun, hend, hW, hsm⟩ := X.leaveThrown q (g := F0 m pc ls rest) rfl rfl rfl hout hlocks
  have hcell9 : (T.setFrames (.throwing q :: below)).heap[q]? = some ce := by
    show T.heap[q]? = some ce
    rw [hT]; exact hcell
  exact ⟨_, st1, .threw q, hrun, hend, Or.inr ⟨q, rfl, E, ce, locs, hx _ hT hW.alike, hcell9, hv, hcl, hW, hsm.mono hc hs, hf⟩⟩
theorem vx_frame {U : State} {k n : Nat} (h : s.sameButNew ({ U with vm := s.vm } : State) locs k n) : s.heap.size ≤ U.heap.size ∧ ∀ q : Nat, q < s.heap.size → (∀ z ∈ locs, z.base ≠ q) → U.heap[q]? = s.heap[q]? := by
  obtain ⟨-, h2, -, -, -, h6⟩ := h
  refine ⟨h2, fun q hq hz => ?_⟩
  obtain ⟨c9, e1, e2, e3, e4⟩ := h6 q _ (Array.getElem?_eq_getElem hq)
  have hs : c9.slots = (s.heap[q]).slots := Array.ext_getElem? fun i => e4 i fun hm => hz _ hm rfl
  have h9 : c9 = s.heap[q] := by
    rw [hs] at e2
    exact e2
  have e5 : U.heap[q]? = some c9 := e1
  rw [e5, h9, Array.getElem?_eq_getElem hq]
/-- the words of a throw but the four that speak of the heap -/
def vx_no (w : Cond) : Bool := decide (w ≠ .isRef (.static Bundle.tN "UNASSIGNED_STACK" Bundle.steD)) && decide (w ≠ .isRef (.static Bundle.tN "SUPPRESSED_SENTINEL" Bundle.listD)) && decide (w ≠ .laysStatic Bundle.tN "UNASSIGNED_STACK" Bundle.steD) && decide (w ≠ .laysStatic Bundle.tN "SUPPRESSED_SENTINEL" Bundle.listD)
def vx_atS (own : String) (ic : Nat) (X : String) (names : List String) : List Cond := (Bundle.ownAtoms own ic X names).filter vx_no
/-- a word that the tables alone decide, or a good one -/
def vx_ot (w : Cond) : Bool := w.onTables || goodWord w
theorem vx_ot_at {args a' : Array Value} {s U : State} {w : Cond} (hW : s.WarmedH U.vm) (hvm : s.vm = U.vm) (hg : vx_ot w = true) (h : w.before args s = true) : w.before a' U = true := by
  simp only [vx_ot, Bool.or_eq_true] at hg
  rcases hg with hg | hg
  · exact va_tabs hg hvm h
  · exact word_at hW (good_of_word hg) h
/-- a list's words: the good ones out of the method's own list, the others by premises of their own -/
theorem vx_hat {args : Array Value} {s : State} {L B : List Cond} (h1 : ∀ w ∈ L.filter goodWord, w.before args s = true) (h2 : ∀ w ∈ L.filter (fun w => !goodWord w), w ∈ B) (h3 : ∀ w ∈ B, w.before args s = true) : ∀ w ∈ L, w.before args s = true := by
  intro w hw
  by_cases g : goodWord w = true
  · exact h1 w (List.mem_filter.mpr ⟨hw, g⟩)
  · refine h3 w (h2 w (List.mem_filter.mpr ⟨hw, ?_⟩))
    show (!goodWord w) = true
    cases hgw : goodWord w
    · rfl
    · exact absurd hgw g
theorem vx_c {args : Array Value} {s : State} {w : Cond} {B : List Cond} (h : w.before args s = true) (t : ∀ w ∈ B, w.before args s = true) : ∀ w' ∈ w :: B, w'.before args s = true := fun w' h' => (List.mem_cons.mp h').elim (fun e => by rw [e]; exact h) (t w')
theorem vx_n {args : Array Value} {s : State} : ∀ w ∈ ([] : List Cond), w.before args s = true := fun _ h => nomatch h
theorem vx_own {args : Array Value} {s : State} {L : List Cond} (h1 : ∀ w ∈ L.filter vx_no, w.before args s = true)
    (hU : (Cond.isRef (.static Bundle.tN "UNASSIGNED_STACK" Bundle.steD)).before args s = true) (hN : (Cond.isRef (.static Bundle.tN "SUPPRESSED_SENTINEL" Bundle.listD)).before args s = true)
    (lU : (Cond.laysStatic Bundle.tN "UNASSIGNED_STACK" Bundle.steD).before args s = true) (lN : (Cond.laysStatic Bundle.tN "SUPPRESSED_SENTINEL" Bundle.listD).before args s = true) : ∀ w ∈ L, w.before args s = true := by
  intro w hw
  by_cases e1 : w = .isRef (.static Bundle.tN "UNASSIGNED_STACK" Bundle.steD)
  · rw [e1]; exact hU
  · by_cases e2 : w = .isRef (.static Bundle.tN "SUPPRESSED_SENTINEL" Bundle.listD)
    · rw [e2]; exact hN
    · by_cases e3 : w = .laysStatic Bundle.tN "UNASSIGNED_STACK" Bundle.steD
      · rw [e3]; exact lU
      · by_cases e4 : w = .laysStatic Bundle.tN "SUPPRESSED_SENTINEL" Bundle.listD
        · rw [e4]; exact lN
        · exact h1 w (List.mem_filter.mpr ⟨hw, by unfold vx_no; rw [decide_eq_true e1, decide_eq_true e2, decide_eq_true e3, decide_eq_true e4]; rfl⟩)
/-- where a static field lies, its class's statics cell in H -/
def vx_L (C n d : String) (A : Nat → Prop) (U : State) (H : Heap) : Prop := ∃ (c : ClassId) (k : Class) (i : Nat) (f : Field) (a : Nat) (cell : Cell), U.vm.findClass C = some c ∧ U.fieldFound? C n d = some (c, k, i, f) ∧ f.isStatic = true ∧ k.statics = some a ∧ H[a]? = some cell ∧ cell.vm.isStatics = true ∧ cell.cls = c ∧ f.slot < cell.slots.size ∧ k.staticTypes[f.slot]? = some f.type ∧ ¬ A a
theorem vx_L.moved {C n d : String} {A : Nat → Prop} {u U : State} {H : Heap} (hvm : u.vm.Alike U.vm) (h : vx_L C n d A u H) : vx_L C n d A U H := by
  obtain ⟨c, k, i, f, a, cell, h1, h2, h3, h4, h5, h6, h7, h8, h9, h10⟩ := h
  obtain ⟨k', hi', he⟩ := State.fieldFound?_setVm hvm h2
  exact ⟨c, k', i, f, a, cell, by rw [hvm.findClass]; exact h1, hi', h3, by rw [he]; exact h4, h5, h6, h7, h8, by rw [he]; exact h9, h10⟩
theorem vx_L.kept {C n d : String} {A : Nat → Prop} {U : State} {H H1 : Heap} (h : vx_L C n d A U H) (hq : ∀ a : Nat, a < H.size → ¬ A a → H1[a]? = H[a]?) : vx_L C n d A U H1 := by
  obtain ⟨c, k, i, f, a, cell, h1, h2, h3, h4, h5, h6, h7, h8, h9, h10⟩ := h
  exact ⟨c, k, i, f, a, cell, h1, h2, h3, h4, by rw [hq a (Array.getElem?_eq_some_iff.mp h5).1 h10]; exact h5, h6, h7, h8, h9, h10⟩
theorem vx_L.narrow {C n d : String} {A B : Nat → Prop} {U : State} {H : Heap} (h : vx_L C n d A U H) (hAB : ∀ q, B q → A q) : vx_L C n d B U H := by
  obtain ⟨c, k, i, f, a, cell, h1, h2, h3, h4, h5, h6, h7, h8, h9, h10⟩ := h
  exact ⟨c, k, i, f, a, cell, h1, h2, h3, h4, h5, h6, h7, h8, h9, fun z => h10 (hAB _ z)⟩
theorem vx_L.word {C n d : String} {A : Nat → Prop} {s : State} {args : Array Value} (h : vx_L C n d A s s.heap) : (Cond.laysStatic C n d).before args s = true := by
  obtain ⟨c, k, i, f, a, cell, h1, h2, h3, h4, h5, h6, h7, h8, h9, -⟩ := h
  show (Cond.laysStatic C n d).holds args s none s [] = true
  exact Cond.laysStatic_of h1 h2 h3 h4 h5 h6 h7 h8 h9
/-- .. and what it holds: null or some reference -/
def vx_Zq (C n d : String) (A : Nat → Prop) (U : State) (H : Heap) : Prop := va_Zq C n d A U H ∧ vx_L C n d A U H
theorem vx_Zq.moved {C n d : String} {A : Nat → Prop} {u U : State} {H : Heap} (hvm : u.vm.Alike U.vm) (h : vx_Zq C n d A u H) : vx_Zq C n d A U H := ⟨va_Zq.moved hvm h.1, vx_L.moved hvm h.2⟩
theorem vx_Zq.kept {C n d : String} {A : Nat → Prop} {U : State} {H H1 : Heap} (h : vx_Zq C n d A U H) (hq : ∀ a : Nat, a < H.size → ¬ A a → H1[a]? = H[a]?) : vx_Zq C n d A U H1 := ⟨va_Zq.kept h.1 hq, vx_L.kept h.2 hq⟩
theorem vx_Zq.narrow {C n d : String} {A B : Nat → Prop} {U : State} {H : Heap} (h : vx_Zq C n d A U H) (hAB : ∀ q, B q → A q) : vx_Zq C n d B U H := ⟨va_Zq.narrow h.1 hAB, vx_L.narrow h.2 hAB⟩
theorem vx_Zqof {args : Array Value} {s : State} {C n d : String} {A : Nat → Prop} (hl : (Cond.laysStatic C n d).before args s = true) (hini : (Cond.initialized C).before args s = true) (h : (Cond.isRef (.static C n d)).before args s = true) (hA : ∀ a : Nat, a < s.heap.size → ¬ A a) : vx_Zq C n d A s s.heap := by
  refine ⟨va_Zqof hl hini h hA, ?_⟩
  obtain ⟨c, k, i, f, a, cell, h1, h2, h3, h4, h5, h6, h7, h8, h9⟩ := Cond.laysStatic_spec hl
  exact ⟨c, k, i, f, a, cell, h1, h2, h3, h4, h5, h6, h7, h8, h9, hA a (Array.getElem?_eq_some_iff.mp h5).1⟩
theorem vx_isRef {C n d : String} {v : Value} {A : Nat → Prop} {s : State} {args : Array Value} (h : va_Z C n d v A s s.heap) (hv : v.isRef = true) : (Cond.isRef (.static C n d)).before args s = true := by
  obtain ⟨cf, kf, fi, f, a, cell, h1, h2, h3, h4, h5, h6, h7, -⟩ := h
  have he : (Term.static C n d).eval args s none [] s = some v := by
    simp [Term.eval, State.fieldNamed?, h1, h2, h4, h5, h6, h7]
  simp only [Cond.before, Cond.holds, Cond.value, he]
  cases v <;> simp_all [Value.isRef]
theorem vx_isRefq {C n d : String} {A : Nat → Prop} {s : State} {args : Array Value} (h : va_Zq C n d A s s.heap) : (Cond.isRef (.static C n d)).before args s = true := by
  rcases h with h | ⟨t, h⟩
  · exact vx_isRef h rfl
  · exact vx_isRef h rfl
/-- the same frame, seen from here: as if the method were called anew in this heap -/
theorem vx_rebase {T : State} (X : Stand p l e R s m args below meth c T locs cells slots) {R' : Room} (hf : R'.frames ≤ R.frames) (hl : R'.locals ≤ R.locals) (hc : cells + R'.cells ≤ R.cells) (hs : slots + R'.slots ≤ R.slots) :
    Stand p l e R' ((T.setVm s.vm).setFrames (.invoking m args :: below)) m args below meth c T [] 0 0 := by
  have htop : (T.setVm s.vm).topJava?.isSome := X.here.top
  have hF : ((T.setVm s.vm).setFrames (.invoking m args :: below)).frames = .invoking m args :: below := State.frames_setFrames _ (State.cur_lt_of_top htop)
  obtain ⟨g₀, hg0⟩ := Option.isSome_iff_exists.mp htop
  obtain ⟨r, hr⟩ := State.topJava?_eq_some.mp hg0
  have hl9 : e.platform.stackLimits (T.setVm s.vm).me = e.platform.stackLimits s.me := X.limits
  have hb9 : (T.setVm s.vm).me.stackBytes = s.me.stackBytes := X.bytes
  refine ⟨X.admits, X.cas, X.clock, hF, ?_, X.hears, X.method, X.code, X.here, X.tail, X.warmed, ?_, ?_, ?_⟩
  · have h := X.room
    have hU : ((T.setVm s.vm).setFrames (.invoking m args :: below)).localsInUse = s.localsInUse := by
      rw [State.localsInUse_invoking hF (meth := meth) (c := c) X.method X.code, State.localsInUse_invoking X.frames X.method X.code]
    simp only [State.hasRoom, Bool.and_eq_true, decide_eq_true_eq] at h ⊢
    obtain ⟨⟨⟨⟨h1, h2, h3, h4, h5, h6⟩, h7⟩, h8⟩, h9⟩ := h
    rw [X.frames, List.length_cons] at h2 h3
    have q1 := X.heapSize
    have q2 := X.used
    simp only [hF, hU, List.length_cons, State.stackLimits_setFrames, State.stackBytes_setFrames, hl9, hb9]
    refine ⟨⟨⟨⟨by omega, by omega, by omega, by omega, by omega, h6⟩, ?_⟩, ?_⟩, X.book⟩
    · show T.heap.size + R'.cells ≤ e.platform.maxCells
      omega
    · show T.slotsUsed + R'.slots ≤ e.platform.maxSlots
      omega
  · rw [State.stackLimits_setFrames]; rfl
  · rw [State.stackBytes_setFrames]; rfl
  · refine ⟨?_, Nat.le_refl _, Nat.le_refl _, ?_, ?_, fun a c9 h9 => ⟨c9, h9, rfl, rfl, fun _ _ => rfl⟩⟩
    · obtain ⟨t, ht, -⟩ := State.frames_cons hr
      show T.setVm s.vm = { ((T.setVm s.vm).setFrames (.invoking m args :: below)).setFrames (T.setVm s.vm).frames with heap := T.heap, slotsUsed := T.slotsUsed }
      rw [State.setFrames_setFrames, State.setFrames_self ht]
      rfl
    · show T.slotsUsed = T.slotsUsed + ((T.heap.toList.drop T.heap.size).map (·.slots.size)).sum
      rw [List.drop_eq_nil_of_le (Nat.le_of_eq Array.length_toList)]
      rfl
    · show ((T.heap.toList.drop T.heap.size).map (·.slots.size)).sum ≤ 0
      rw [List.drop_eq_nil_of_le (Nat.le_of_eq Array.length_toList)]
      exact Nat.le_refl _
/-- 'throw new E("text")': new; dup; ldc; invokespecial; athrow -/
theorem vx_throwS {cc : ByteArray} {pc : Nat} (hexec : p.tables.exec = Jvm.exec) (hb : c.code = cc) (hl : l.stackTraces = false) {own cls text : String} {names : List String} {ik is ic mc ms sa : Nat} {A : Nat → Prop}
    (hown : s.vm.findClass own = some m.cls) (hcls : Bundle.fit cls = true) (hnames : ∀ n ∈ names, Bundle.fit n = true)
    (hk : (Cond.classLink own ik cls).before args s = true) (hini : (Cond.initialized cls).before args s = true) (hstr : vk_R own is text sa s) (hat : ∀ w ∈ vx_atS own ic cls names, w.before args s = true)
    (hgood : ∀ w ∈ Cond.classLink own ik cls :: Cond.initialized cls :: vx_atS own ic cls names, vx_ot w = true)
    (hU : vx_Zq Bundle.tN "UNASSIGNED_STACK" Bundle.steD A s s.heap) (hN : vx_Zq Bundle.tN "SUPPRESSED_SENTINEL" Bundle.listD A s s.heap) (hS : va_S A s.heap H locs) (hsize : ls.size = c.maxLocals)
    (d0 : decode cc pc = .ok (.new ik, 3)) (d3 : decode cc (pc + 3) = .ok (.dup, 1)) (d4 : decode cc (pc + 4) = .ok (.ldc is, 2)) (d6 : decode cc (pc + 6) = .ok (.invokespecial ic, 3)) (d9 : decode cc (pc + 9) = .ok (.athrow, 1))
    (hout : ∀ x ∈ c.exceptionTable.toList, covers x (pc + 9) = false)
    (hRframes : names.length + 3 < R.frames) (hRlocals : (rest.map fun v => v.category).sum + (13 * (names.length + 1) + 43) ≤ R.locals) (hRcells : cells + 1 ≤ R.cells) (hRslots : slots + 6 ≤ R.slots) (hlocks : meth.locks = false)
    (hx : ∀ t : State, s.vm.Alike t.vm → H.size ≤ t.heap.size → (∀ q : Nat, q < H.size → t.heap[q]? = H[q]?) → XC cls s t)
    (hf : ∀ z ∈ locs, free z.base) (hc : cells + 1 ≤ mc) (hs : slots + 6 ≤ ms) :
    W p l e R s m args below meth c H locs cells slots (vx_MQ below Qc XC args s mc ms free) (F0 m pc ls rest) := by
  intro T hT X
  have htr : e.platform.stackTraces = false := (show e.platform.stackTraces = l.stackTraces by rw [X.admits.platform]).trans hl
  have Y := vx_rebase X (R' := { frames := R.frames, locals := R.locals, cells := 1, slots := 6 }) (Nat.le_refl _) (Nat.le_refl _) hRcells hRslots
  obtain ⟨s', hA⟩ : ∃ z, z = (T.setVm s.vm).setFrames (.invoking m args :: below) := ⟨_, rfl⟩
  rw [← hA] at Y
  have hvm : s'.vm = s.vm := by rw [hA]; rfl
  have hhp : s'.heap = H := by rw [hA]; exact hT
  have hW0 : s.WarmedH s'.vm := by rw [hvm]; exact State.WarmedH.refl s
  have hat' : ∀ w ∈ vx_atS own ic cls names, w.before args s' = true := fun w hw => vx_ot_at hW0 hvm.symm (hgood w (List.mem_cons_of_mem _ (List.mem_cons_of_mem _ hw))) (hat w hw)
  have hk' : (Cond.classLink own ik cls).before args s' = true := vx_ot_at hW0 hvm.symm (hgood _ List.mem_cons_self) hk
  have hini' : (Cond.initialized cls).before args s' = true := vx_ot_at hW0 hvm.symm (hgood _ (List.mem_cons_of_mem _ List.mem_cons_self)) hini
  have hU' : vx_Zq Bundle.tN "UNASSIGNED_STACK" Bundle.steD A s' s'.heap := by rw [hhp]; exact vx_Zq.moved hW0.alike (hU.kept hS.2.1)
  have hN' : vx_Zq Bundle.tN "SUPPRESSED_SENTINEL" Bundle.listD A s' s'.heap := by rw [hhp]; exact vx_Zq.moved hW0.alike (hN.kept hS.2.1)
  have h : ∀ w ∈ Bundle.ownAtoms own ic cls names, w.before args s' = true := vx_own hat' (vx_isRefq hU'.1) (vx_isRefq hN'.1) hU'.2.word hN'.2.word
  have hown' : s'.vm.findClass own = some m.cls := by rw [hvm]; exact hown
  have hins : (Cond.instantiable cls 6).before args s' = true := h _ (by simp [Bundle.ownAtoms])
  obtain ⟨vm₁, cX, kX, hfX, hkX, -, -, X₁, st1⟩ := Y.newCold hexec (own := own) (C := cls) (index := ik) (n := 6) hown' hk' hins hini'
    (g := F0 m pc ls rest) rfl (by rw [hb]; exact d0) (Nat.le_refl _) (Nat.le_refl _)
  generalize hT1 : (T.setVm vm₁).pushCell { cls := cX, slots := kX.instanceTypes.map defaultValue, vm := .none } = T1 at X₁ st1
  have hcat : (Value.ref T.heap.size).category = 1 := rfl
  have hcellA : T1.heap[T.heap.size]? = some (freshCell cX kX) := by rw [← hT1]; exact State.heap_pushCell_size _ _
  have d3' : decode c.code (pc + 3) = .ok (.dup, 1) := by rw [hb]; exact d3
  have d4' : decode c.code (pc + 4) = .ok (.ldc is, 2) := by rw [hb]; exact d4
  have hstr' : vk_R own is text sa s' := vk_R.warm hW0 hstr
  obtain ⟨U, hsteps, hrun, hend, hW, hsame, ce, hce, hO⟩ := X₁.ctorThrowS hexec htr (own := own) (cls := cls) (names := names) (ic := ic) hown' hcls hnames h (fun x hx => nomatch hx) hfX hkX hcellA (by rw [hhp, hT]; exact Nat.le_refl _) (msg := .ref sa) rfl
    (g := { method := m, pc := pc + 6, locals := ls, stack := .ref sa :: .ref T.heap.size :: .ref T.heap.size :: rest, locked := none }) rfl hsize rfl rfl (rest := rest) rfl
    (by rw [hb]; exact d6) (by rw [hb]; exact d9) hout hRframes (by simp only [List.map_cons, List.sum_cons, hcat]; omega) hlocks
  obtain ⟨f1, f2⟩ := vx_frame hsame
  rw [hhp] at f1 f2
  have hWs : s.WarmedH U.vm := State.WarmedH.trans hW0 hW
  have hcl : s.vm.findClass cls = some ce.cls := by
    have h9 := hO.cls
    rw [hvm] at h9
    exact h9
  have hall : s.sameButNew ({ U with vm := s.vm } : State) locs mc ms := by
    subst hA
    obtain ⟨e1, e2⟩ := hsame
    rw [State.setFrames_setFrames] at e1
    have h2 : (T.setVm s.vm).sameButNew ({ U with vm := s.vm } : State) [] (0 + 1) (0 + 6) := ⟨e1, e2⟩
    have h3 := X.same.trans h2
    rw [List.append_nil] at h3
    exact h3.mono hc hs
  refine ⟨U, ?_, .threw T.heap.size, hrun, hend, Or.inr ⟨T.heap.size, rfl, cls, ce, locs, hx U hWs.alike f1 (fun q hq => f2 q hq (fun z hz => nomatch hz)), hce, hO.vm, hcl, hWs, hall, hf⟩⟩
  refine st1 _ ?_
  show Steps p.tables e below (T1.setTop { method := m, pc := pc + 3, locals := ls, stack := .ref T.heap.size :: rest, locked := none }) _
  jvm_step X₁.here [X₁.here.top, hexec, d3', Value.category]
  exact X₁.ldcString hexec (own := own) (text := text) (index := is) (a := sa) hown' hstr'.1 hstr'.2
    (g := { method := m, pc := pc + 4, locals := ls, stack := .ref T.heap.size :: .ref T.heap.size :: rest, locked := none }) rfl d4' _ hsteps
/-- 'throw new E("text")', the text by a wide index -/
theorem vx_throwSW {cc : ByteArray} {pc : Nat} (hexec : p.tables.exec = Jvm.exec) (hb : c.code = cc) (hl : l.stackTraces = false) {own cls text : String} {names : List String} {ik is ic mc ms sa : Nat} {A : Nat → Prop}
    (hown : s.vm.findClass own = some m.cls) (hcls : Bundle.fit cls = true) (hnames : ∀ n ∈ names, Bundle.fit n = true)
    (hk : (Cond.classLink own ik cls).before args s = true) (hini : (Cond.initialized cls).before args s = true) (hstr : vk_R own is text sa s) (hat : ∀ w ∈ vx_atS own ic cls names, w.before args s = true)
    (hgood : ∀ w ∈ Cond.classLink own ik cls :: Cond.initialized cls :: vx_atS own ic cls names, vx_ot w = true)
    (hU : vx_Zq Bundle.tN "UNASSIGNED_STACK" Bundle.steD A s s.heap) (hN : vx_Zq Bundle.tN "SUPPRESSED_SENTINEL" Bundle.listD A s s.heap) (hS : va_S A s.heap H locs) (hsize : ls.size = c.maxLocals)
    (d0 : decode cc pc = .ok (.new ik, 3)) (d3 : decode cc (pc + 3) = .ok (.dup, 1)) (d4 : decode cc (pc + 4) = .ok (.ldc_w is, 3)) (d7 : decode cc (pc + 7) = .ok (.invokespecial ic, 3)) (d10 : decode cc (pc + 10) = .ok (.athrow, 1))
    (hout : ∀ x ∈ c.exceptionTable.toList, covers x (pc + 10) = false)
    (hRframes : names.length + 3 < R.frames) (hRlocals : (rest.map fun v => v.category).sum + (13 * (names.length + 1) + 43) ≤ R.locals) (hRcells : cells + 1 ≤ R.cells) (hRslots : slots + 6 ≤ R.slots) (hlocks : meth.locks = false)
    (hx : ∀ t : State, s.vm.Alike t.vm → H.size ≤ t.heap.size → (∀ q : Nat, q < H.size → t.heap[q]? = H[q]?) → XC cls s t)
    (hf : ∀ z ∈ locs, free z.base) (hc : cells + 1 ≤ mc) (hs : slots + 6 ≤ ms) :
    W p l e R s m args below meth c H locs cells slots (vx_MQ below Qc XC args s mc ms free) (F0 m pc ls rest) := by
  intro T hT X
  have htr : e.platform.stackTraces = false := (show e.platform.stackTraces = l.stackTraces by rw [X.admits.platform]).trans hl
  have Y := vx_rebase X (R' := { frames := R.frames, locals := R.locals, cells := 1, slots := 6 }) (Nat.le_refl _) (Nat.le_refl _) hRcells hRslots
  obtain ⟨s', hA⟩ : ∃ z, z = (T.setVm s.vm).setFrames (.invoking m args :: below) := ⟨_, rfl⟩
  rw [← hA] at Y
  have hvm : s'.vm = s.vm := by rw [hA]; rfl
  have hhp : s'.heap = H := by rw [hA]; exact hT
  have hW0 : s.WarmedH s'.vm := by rw [hvm]; exact State.WarmedH.refl s
  have hat' : ∀ w ∈ vx_atS own ic cls names, w.before args s' = true := fun w hw => vx_ot_at hW0 hvm.symm (hgood w (List.mem_cons_of_mem _ (List.mem_cons_of_mem _ hw))) (hat w hw)
  have hk' : (Cond.classLink own ik cls).before args s' = true := vx_ot_at hW0 hvm.symm (hgood _ List.mem_cons_self) hk
  have hini' : (Cond.initialized cls).before args s' = true := vx_ot_at hW0 hvm.symm (hgood _ (List.mem_cons_of_mem _ List.mem_cons_self)) hini
  have hU' : vx_Zq Bundle.tN "UNASSIGNED_STACK" Bundle.steD A s' s'.heap := by rw [hhp]; exact vx_Zq.moved hW0.alike (hU.kept hS.2.1)
  have hN' : vx_Zq Bundle.tN "SUPPRESSED_SENTINEL" Bundle.listD A s' s'.heap := by rw [hhp]; exact vx_Zq.moved hW0.alike (hN.kept hS.2.1)
  have h : ∀ w ∈ Bundle.ownAtoms own ic cls names, w.before args s' = true := vx_own hat' (vx_isRefq hU'.1) (vx_isRefq hN'.1) hU'.2.word hN'.2.word
  have hown' : s'.vm.findClass own = some m.cls := by rw [hvm]; exact hown
  have hins : (Cond.instantiable cls 6).before args s' = true := h _ (by simp [Bundle.ownAtoms])
  obtain ⟨vm₁, cX, kX, hfX, hkX, -, -, X₁, st1⟩ := Y.newCold hexec (own := own) (C := cls) (index := ik) (n := 6) hown' hk' hins hini'
    (g := F0 m pc ls rest) rfl (by rw [hb]; exact d0) (Nat.le_refl _) (Nat.le_refl _)
  generalize hT1 : (T.setVm vm₁).pushCell { cls := cX, slots := kX.instanceTypes.map defaultValue, vm := .none } = T1 at X₁ st1
  have hcat : (Value.ref T.heap.size).category = 1 := rfl
  have hcellA : T1.heap[T.heap.size]? = some (freshCell cX kX) := by rw [← hT1]; exact State.heap_pushCell_size _ _
  have d3' : decode c.code (pc + 3) = .ok (.dup, 1) := by rw [hb]; exact d3
  have d4' : decode c.code (pc + 4) = .ok (.ldc_w is, 3) := by rw [hb]; exact d4
  have hstr' : vk_R own is text sa s' := vk_R.warm hW0 hstr
  obtain ⟨U, hsteps, hrun, hend, hW, hsame, ce, hce, hO⟩ := X₁.ctorThrowS hexec htr (own := own) (cls := cls) (names := names) (ic := ic) hown' hcls hnames h (fun x hx => nomatch hx) hfX hkX hcellA (by rw [hhp, hT]; exact Nat.le_refl _) (msg := .ref sa) rfl
    (g := { method := m, pc := pc + 7, locals := ls, stack := .ref sa :: .ref T.heap.size :: .ref T.heap.size :: rest, locked := none }) rfl hsize rfl rfl (rest := rest) rfl
    (by rw [hb]; exact d7) (by rw [hb]; exact d10) hout hRframes (by simp only [List.map_cons, List.sum_cons, hcat]; omega) hlocks
  obtain ⟨f1, f2⟩ := vx_frame hsame
  rw [hhp] at f1 f2
  have hWs : s.WarmedH U.vm := State.WarmedH.trans hW0 hW
  have hcl : s.vm.findClass cls = some ce.cls := by
    have h9 := hO.cls
    rw [hvm] at h9
    exact h9
  have hall : s.sameButNew ({ U with vm := s.vm } : State) locs mc ms := by
    subst hA
    obtain ⟨e1, e2⟩ := hsame
    rw [State.setFrames_setFrames] at e1
    have h2 : (T.setVm s.vm).sameButNew ({ U with vm := s.vm } : State) [] (0 + 1) (0 + 6) := ⟨e1, e2⟩
    have h3 := X.same.trans h2
    rw [List.append_nil] at h3
    exact h3.mono hc hs
  refine ⟨U, ?_, .threw T.heap.size, hrun, hend, Or.inr ⟨T.heap.size, rfl, cls, ce, locs, hx U hWs.alike f1 (fun q hq => f2 q hq (fun z hz => nomatch hz)), hce, hO.vm, hcl, hWs, hall, hf⟩⟩
  refine st1 _ ?_
  show Steps p.tables e below (T1.setTop { method := m, pc := pc + 3, locals := ls, stack := .ref T.heap.size :: rest, locked := none }) _
  jvm_step X₁.here [X₁.here.top, hexec, d3', Value.category]
  exact X₁.ldcStringW hexec (own := own) (text := text) (index := is) (a := sa) hown' hstr'.1 hstr'.2
    (g := { method := m, pc := pc + 4, locals := ls, stack := .ref T.heap.size :: .ref T.heap.size :: rest, locked := none }) rfl d4' _ hsteps
end Ends
section Bodies
variable {l : Launch}
theorem vx_ofW {y : MethodName} {ws ws' : List Cond} {rm : Room} {Pc : Array Value → State → Prop} {Qc : Array Value → State → Outcome → State → Prop} {XC : String → State → State → Prop} {mc ms : Nat} {free : Addr → Prop} {cc : ByteArray} {maxL : Nat} {ret : Option FieldType}
    (hy : plainName y.cls = true) (hw : ws = Cond.code y cc maxL ret :: ws')
    (body : ∀ p e s m args below meth c s₁, BodyLoose p l y (headSpec ws rm) cc maxL ret e s m args below meth c s₁ → c.maxLocals = maxL → (∀ x ∈ c.exceptionTable.toList, False) → Pc args s →
      W p l e (headSpec ws rm).room s m args below meth c s.heap [] 0 0 (vx_MQ below Qc XC args s mc ms free) (entryFrame m args maxL)) : vx_Met l y ws rm Pc Qc XC mc ms free := by
  refine MetFree.of_bodyS (code := cc) (maxLocals := maxL) (ret := ret) hy ?_ ?_
  · intro args s m h hn
    obtain ⟨meth, c, h1, h2, h3, h4, h5, h6, -, -⟩ := Cond.code_spec hn (atoms_spec (ws := ws) h _ (by rw [hw]; exact List.mem_cons_self))
    exact ⟨meth, c, h1, h2, h3, h4, h5, h6⟩
  · intro p e s m args below meth c s₁ B hml hP _
    have hh0 : s₁.heap = s.heap := by rw [B.state]; rfl
    have ht : ∀ x ∈ c.exceptionTable.toList, False := by
      obtain ⟨meth9, c9, h1, h2, -, -, -, -, h7, -⟩ := Cond.code_spec B.named (atoms_spec (ws := ws) B.pre _ (by rw [hw]; exact List.mem_cons_self))
      cases Option.some.inj (h1.symm.trans B.method)
      cases Option.some.inj (h2.symm.trans (Stand.of_body B).code)
      intro x hx
      rw [Array.isEmpty_iff.mp h7] at hx
      cases hx
    obtain ⟨t, a1, o, b1, b2, b3⟩ := body p e s m args below meth c s₁ B hml ht hP s₁ hh0 (Stand.of_body B)
    exact ⟨t, o, a1, b1, b2, b3⟩
/-- the table of a body with handlers -/
theorem vx_table {p : Program} {x y : MethodName} {S : Spec} {cc bytes : ByteArray} {maxL maxL' : Nat} {ret ret' : Option FieldType} {e : Env} {s s₁ : State} {m : MethodId} {args : Array Value} {below : List Frame} {meth : Method} {c : Code} {hh : List (Nat × Nat × Nat × Nat)}
    (B : BodyLoose p l y S cc maxL ret e s m args below meth c s₁) (h : (Cond.codeWith y bytes maxL' ret' hh).before args s = true) : c.exceptionTable.toList = tableOf hh := by
  obtain ⟨m9, meth9, c9, hn9, h1, h2, -, -, h6, -⟩ := Cond.codeWith_spec h
  cases Option.some.inj (hn9.symm.trans B.named)
  cases Option.some.inj (h1.symm.trans B.method)
  cases Option.some.inj (h2.symm.trans (Stand.of_body B).code)
  rw [← h6, table_eq]
end Bodies
end VXA
section VXS
variable {p : Program} {l : Launch} {e : Env} {R : Room} {s : State} {m : MethodId} {args : Array Value} {below : List Frame} {meth : Method} {c : Code} {T : State} {H : Heap} {locs : List Loc} {cells slots : Nat}
abbrev vx_CSW (R : Room) (s : State) (args : Array Value) (own : String) (index : Nat) (y : MethodName) (bytes : ByteArray) (maxL : Nat) (ret : Option FieldType) (hh : List (Nat × Nat × Nat × Nat)) (ws : List Cond) (rm : Room) (mc ms n : Nat) : Prop :=
  (rm.cells = mc ∧ rm.slots = ms ∧ rm.frames + 1 ≤ R.frames ∧ 8 + (maxL + 11) + rm.locals ≤ R.locals ∧ (∀ w ∈ ws, ∀ (a' : Array Value) (U : State), s.WarmedH U.vm → w.before a' U = true) ∧ Cond.codeWith y bytes maxL ret hh ∈ ws) ∧
  (Cond.codeWith y bytes maxL ret hh).before args s = true ∧ (Cond.initialized y.cls).before args s = true ∧ (y.cls ≠ "java/lang/invoke/MethodHandle" ∧ y.cls ≠ "java/lang/invoke/VarHandle") ∧
  (∀ sig, parseMethodDescriptor y.desc = some sig → n = sig.parameters.length) ∧ (Cond.methodLink own index y).before args s = true ∧ (Cond.static y).before args s = true
theorem vx_cwSW {own : String} {index maxL mc ms : Nat} {y : MethodName} {bytes : ByteArray} {ret : Option FieldType} {hh : List (Nat × Nat × Nat × Nat)} {Ts ws ws' : List Cond} {rm : Room} (n : Nat) (ht : ∀ w ∈ Ts, w.before args s = true) (hT : GoodIn Ts (va_wsS own index y ws)) (hw : ws = Cond.codeWith y bytes maxL ret hh :: ws') (hrc : rm.cells = mc) (hrs : rm.slots = ms)
    (hd : y.cls ≠ "java/lang/invoke/MethodHandle" ∧ y.cls ≠ "java/lang/invoke/VarHandle" ∧ (parseMethodDescriptor y.desc).map (fun d => d.parameters.length) = some n) (hR : rm.frames + 1 ≤ R.frames ∧ 8 + (maxL + 11) + rm.locals ≤ R.locals) :
    vx_CSW R s args own index y bytes maxL ret hh ws rm mc ms n := by
  have ok : ∀ w ∈ va_wsS own index y ws, w.before args s = true := fun w h => ht w (hT w h).1
  have hG : GoodIn Ts ws := fun w h => hT w (by unfold va_wsS; exact List.mem_append_right _ h)
  have hc : Cond.codeWith y bytes maxL ret hh ∈ ws := by rw [hw]; exact List.mem_cons_self
  refine ⟨⟨hrc, hrs, hR.1, hR.2, pay_in ht hG, hc⟩, ht _ (hG _ hc).1, ok _ (by simp [va_wsS]), ⟨hd.1, hd.2.1⟩, fun sig h => ?_, ok _ (by simp [va_wsS]), ok _ (by simp [va_wsS])⟩
  have h2 := hd.2.2
  rw [h] at h2
  exact (Option.some.inj h2).symm
theorem vx_callSW (X : Stand p l e R s m args below meth c T locs cells slots) (hexec : p.tables.exec = Jvm.exec) {own : String} {index : Nat} {y : MethodName} {bytes : ByteArray} {maxL : Nat} {ret : Option FieldType} {hh : List (Nat × Nat × Nat × Nat)}
    (hown : s.vm.findClass own = some m.cls) (hlink : (Cond.methodLink own index y).before args s = true) (hstat : (Cond.static y).before args s = true) (hinit : (Cond.initialized y.cls).before args s = true)
    (hcode : (Cond.codeWith y bytes maxL ret hh).before args s = true) (hy : y.cls ≠ "java/lang/invoke/MethodHandle" ∧ y.cls ≠ "java/lang/invoke/VarHandle")
    {W9 : Nat} {Pre : Pt → Array Value → Prop} {Post : Pt → Array Value → Option Value → Pt → Prop} (hK : Back l R p e below s args y 3 W9 Pre Post)
    {g : JFrame} (hg : g.method = m) (hsize : g.locals.size = c.maxLocals) {argsL rest : List Value} (hlen : ∀ sig, parseMethodDescriptor y.desc = some sig → argsL.length = sig.parameters.length)
    (hstack : g.stack = argsL.reverse ++ rest) (hW : 2 * g.monitorRoom + (rest.map fun v => v.category).sum ≤ W9) (hdg : decode c.code g.pc = .ok (.invokestatic index, 3))
    (hpre : ∀ vm₁, s.WarmedH vm₁ → Pre ⟨T.setVm vm₁, locs, cells, slots⟩ argsL.toArray) :
    ∃ (v : Option Value) (vm₁ : Vm) (B : Pt), s.WarmedH vm₁ ∧ Stand p l e R s m args below meth c B.U B.locs B.cells B.slots ∧ Post ⟨T.setVm vm₁, locs, cells, slots⟩ argsL.toArray v B ∧
      ∀ target, Steps p.tables e below (B.U.setTop { g with pc := g.pc + 3, stack := v.toList ++ rest }) target → Steps p.tables e below (T.setTop g) target := by
  obtain ⟨mk, methM, cM, hnamed, hmethM, -, -, -, -, -, -, hsigM⟩ := Cond.codeWith_spec hcode
  have hstatic : methM.isStatic = true := Cond.static_spec hnamed hmethM hstat
  obtain ⟨kP, hkP, -⟩ := className_of_methodNamed hnamed
  have hinitP : kP.init = .initialized := Cond.initialized_spec (findClass_of_methodNamed hnamed) hkP hinit
  obtain ⟨vm₁, X₁, hstep₁⟩ := X.invokestatic hexec hown hlink hnamed hmethM hstatic hkP hinitP hy (g := g) hg (argsL := argsL) (rest := rest) (hlen _ hsigM) hstack hdg
  obtain ⟨v, B, X', hpost, hsteps⟩ := hK m meth c ⟨T.setVm vm₁, locs, cells, slots⟩ { g with stack := rest } (.invokestatic index) mk argsL.toArray X₁ hg hsize hdg hW (X₁.named hnamed) (hpre vm₁ X₁.warmed)
  exact ⟨v, vm₁, B, X₁.warmed, X', hpost, fun target h => hstep₁ _ fun acts => by rw [doInvoke_state]; exact hsteps.trans h⟩
theorem vx_runSW {y : MethodName} {bytes cc : ByteArray} {maxL nL mc ms n index : Nat} {ret : Option FieldType} {hh : List (Nat × Nat × Nat × Nat)} {ws : List Cond} {rm : Room} {Pc : Array Value → State → Prop} {Qc : Array Value → State → Outcome → State → Prop} {free : Addr → Prop} {Ts : List Cond} {own : String} {As rest : List Value} {g : JFrame}
    (S : CallFix p m c cc nL s args Ts own) (hM : Met l y ws rm Pc Qc mc ms free) (cw : vx_CSW R s args own index y bytes maxL ret hh ws rm mc ms n) (hp : PreS s H Pc As)
    (hg : g.method = m) (hn : As.length = n) (hsize : g.locals.size = nL) (hstack : g.stack = As.reverse ++ rest) (hW : 2 * g.monitorRoom + (rest.map fun v => v.category).sum ≤ 8) (hdg : decode cc g.pc = .ok (.invokestatic index, 3)) (hf : cells + mc ≤ R.cells ∧ slots + ms ≤ R.slots) :
    va_Run p l e R s m args below meth c H locs cells slots mc ms g rest (Qc As.toArray) (free) := by
  obtain ⟨⟨hrc, hrs, hfr, hlo, hws, hcw⟩, hcode, hini, hy, hlen, hl, hstt⟩ := cw
  have hK : Back l R p e below s args y 3 8 (PreOf R mc ms Pc) (PostOf Qc mc ms free) := va_backW (hh := hh) (bytes := bytes) (maxL := maxL) (ret := ret) hM hp.1 hrc hrs hfr hlo hws hcw (fun a' U hW => word_at hW (Or.inl (by first | rfl | simp [Cond.onTables, Cond.keeps, Cond.steady])) hini)
  obtain ⟨hx, hb, hml, ho, -⟩ := S
  intro T hT X
  obtain ⟨v, vm₁, ⟨U', l2, c2, s2⟩, hW₁, X', ⟨g', mk, t, L, e1, e2, hq, h1, hL, h2, h3⟩, st⟩ := vx_callSW X hx (hh := hh) (bytes := bytes) (maxL := maxL) (ret := ret) ho hl hstt hini hcode hy hK hg (hsize.trans hml.symm) (argsL := As) (rest := rest) (fun sig h => hn.trans (hlen sig h)) hstack hW (by rw [hb]; exact hdg)
    (fun vm₁ hW₁ => ⟨hf.1, hf.2, hp.2 (T.setVm vm₁) hT hW₁⟩)
  dsimp only [Pt.U, Pt.locs, Pt.cells, Pt.slots] at X' e1 e2 h1 h2 h3 st
  subst h1; subst h2; subst h3
  exact ⟨v, (T.setVm vm₁).calling g' mk As.toArray, t, U', L, hT, X', hL, e1, e2, hq, st⟩
end VXS
theorem vx_ofWH {l : Launch} {y : MethodName} {ws ws' : List Cond} {rm : Room} {Pc : Array Value → State → Prop} {Qc : Array Value → State → Outcome → State → Prop} {XC : String → State → State → Prop} {mc ms : Nat} {free : Addr → Prop} {cc : ByteArray} {maxL : Nat} {ret : Option FieldType} {hh : List (Nat × Nat × Nat × Nat)}
    (hy : plainName y.cls = true) (hw : ws = Cond.codeWith y cc maxL ret hh :: ws')
    (body : ∀ p e s m args below meth c s₁, BodyLoose p l y (headSpec ws rm) cc maxL ret e s m args below meth c s₁ → c.maxLocals = maxL → Pc args s →
      W p l e (headSpec ws rm).room s m args below meth c s.heap [] 0 0 (vx_MQ below Qc XC args s mc ms free) (entryFrame m args maxL)) : vx_Met l y ws rm Pc Qc XC mc ms free := by
  refine MetFree.of_bodyS (code := cc) (maxLocals := maxL) (ret := ret) hy ?_ ?_
  · intro args s m h hn
    obtain ⟨m9, meth, c, hn9, h1, h2, h3, h4, -, h5, h6, -⟩ := Cond.codeWith_spec (atoms_spec (ws := ws) h _ (by rw [hw]; exact List.mem_cons_self))
    cases hn.symm.trans hn9
    exact ⟨meth, c, h1, h2, h3, h4, h5, h6⟩
  · intro p e s m args below meth c s₁ B hml hP _
    have hh0 : s₁.heap = s.heap := by rw [B.state]; rfl
    obtain ⟨t, a1, o, b1, b2, b3⟩ := body p e s m args below meth c s₁ B hml hP s₁ hh0 (Stand.of_body B)
    exact ⟨t, o, a1, b1, b2, b3⟩
end
section
/-- new cells only -/
abbrev nw (sz : Nat) : Nat → Prop := fun q => sz ≤ q
/-- what a call that never returns does: E0 is thrown, nothing old is changed -/
def px_X (E0 : String) (sz : Nat) : String → State → State → Prop := fun E st t => E = E0 ∧ va_F (nw sz) st t
section PX
variable {p : Program} {l : Launch} {e : Env} {R : Room} {s : State} {m : MethodId} {args : Array Value} {below : List Frame} {meth : Method} {c : Code} {H : Heap} {locs : List Loc} {cells slots : Nat} {Q : State → Prop}
theorem px_call {E0 : String} {mc ms pc sz : Nat} {ls : Array Slot} {st0 rest : List Value} {A0 : Nat → Prop} {H0 : Heap}
    (hr : vx_Run p l e R s m args below meth c H locs cells slots mc ms (F0 m pc ls st0) rest (fun _ _ _ => False) (px_X E0 sz) (nw sz)) (hsz : sz = H.size) (hS : va_S A0 H0 H locs) (hA : ∀ q, H0.size ≤ q → A0 q)
    (kx : ∀ (ce : Cell) (q9 : Addr) (H1 : Heap) (locs1 : List Loc), H.size ≤ H1.size → (∀ q : Nat, q < H.size → H1[q]? = H[q]?) → va_S A0 H0 H1 locs1 → H1[q9]? = some ce → ce.vm = .none → s.vm.findClass E0 = some ce.cls → vx_W p l e R s m args below meth c H1 locs1 (cells + mc) (slots + ms) Q (F0 m pc ls rest) q9) :
    W p l e R s m args below meth c H locs cells slots Q (F0 m pc ls st0) := by
  subst hsz
  intro T hT X
  rcases hr T hT X with ⟨v, st₀, t, T', L, h0, X', hL, e1, e2, hf, st⟩ | ⟨q, st₀, t, T', L, E, ce, h0, X', hL, e1, e2, ⟨rfl, hF⟩, hce, hcv, hcl, st⟩
  · exact hf.elim
  · obtain ⟨k1, k2, k3⟩ := vx_keep (A1 := nw H.size) h0 e1 hS (fun q hq h => absurd h (Nat.not_le.mpr hq)) (fun q h => hA q (Nat.le_trans hS.1 h)) hL hF
    obtain ⟨t2, a1, b1⟩ := kx ce q T'.heap (locs ++ L) k1 (fun x hx => k2 x hx (Nat.not_le.mpr hx)) k3 (by rw [e1]; exact hce) hcv hcl T' rfl X'
    exact ⟨t2, st.trans a1, b1⟩
/-- the first row of the table takes it; her class may be asked for the first time -/
theorem px_go {e : Env} {d : Bool} {acts : List Action} {u : State} {f : JFrame} {a : Addr} {Qh : Handler → Pre} {Ec : CtlPost} {x : ExceptionTableEntry} {r : List ExceptionTableEntry} {k : ClassId} {cell : Cell} (hx : covers x f.pc = true) (h0 : x.catchType ≠ 0)
    (hl : u.vm.ClassLinks e.platform f.method.cls x.catchType k) (hcell : u.heap[a]? = some cell) (hobj : ∀ z, cell.vm ≠ .statics z)
    (hk : ∃ z, u.vm.classes[cell.cls]? = some z) (hc : ∃ z, u.vm.classes[k]? = some z) (hfit : u.vm.assignable cell.cls k = true) :
    wp (findHandler.go f a (x :: r)) Qh Ec e d acts u ↔ Qh (.found x.handlerPc) d acts (u.setVm (u.vm.noted f.method.cls x.catchType (.cls k))) := by
  simp only [covers] at hx
  obtain ⟨ha, ht⟩ := (resolveClass_links e.toSetting hl).op (op := VmOp.resolveClass f.method.cls x.catchType) rfl
  have hal : u.vm.Alike (u.vm.noted f.method.cls x.catchType (.cls k)) := (Vm.Alike.refl u.vm).noted _ _ _
  obtain ⟨k1, hk1⟩ := hk
  obtain ⟨k2, hk2⟩ := hc
  obtain ⟨k1', hk1', -⟩ := hal.2.2 _ _ hk1
  obtain ⟨k2', hk2', -⟩ := hal.2.2 _ _ hk2
  have hfit' : (u.vm.noted f.method.cls x.catchType (.cls k)).assignable cell.cls k = true := by rw [hal.assignable]; exact hfit
  simp [findHandler.go, hx, h0, ha, ht, hcell, hobj, hk1', hk2', hfit', VmOp.dirties, VmOp.acts]
theorem px_frames (u : State) (vm' : Vm) (F G : List Frame) : ((u.setFrames F).setVm vm').setFrames G = (u.setVm vm').setFrames G := by
  have h1 : (u.setFrames F).setVm vm' = (u.setVm vm').setFrames F := rfl
  rw [h1, State.setFrames_setFrames]
theorem px_caught {tb : Tables} {e : Env} {u target : State} {g : JFrame} {c : Code} {below : List Frame} {a : Addr} (h : At u g.method c below) {pc : Nat} {vm' : Vm}
    (hfind : ∀ (Qh : Handler → Pre) (Ec : CtlPost) (d : Bool) (acts : List Action), wp (findHandler g a) Qh Ec e d acts ((u.setTop g).pushFrame (.throwing a)) ↔ Qh (.found pc) d acts (((u.setTop g).pushFrame (.throwing a)).setVm vm'))
    (hrest : Steps tb e below ((u.setVm vm').setTop { g with pc := pc, stack := [.ref a] }) target) : Steps tb e below ((u.setTop g).pushFrame (.throwing a)) target := by
  have hstep : ∀ r : List Frame, (stepThrowing e ((u.setTop g).pushFrame (.throwing a)) a (.java g :: r)).Is ((((u.setTop g).pushFrame (.throwing a)).setVm vm').setFrames (.java { g with pc := pc, stack := [.ref a] } :: r)) [] := by
    intro r
    simp only [stepThrowing, searchFrame, vmDo]
    generalize hr : Sem.go _ e false [] _ = res
    obtain ⟨as, rfl, ha⟩ := Sem.eq_ok_of hr (a := Handler.found pc) (s' := ((u.setTop g).pushFrame (.throwing a)).setVm vm') (acts' := []) (by simp [hfind _ _ _ _])
    exact ⟨rfl, ha⟩
  obtain ⟨hgo, hw⟩ := h.throwing a
  refine Steps.head hgo hw ?_
  rw [stepThread_throwing (frames_entered h.top _), (hstep _).1]
  obtain ⟨g₀, hg⟩ := Option.isSome_iff_exists.mp h.top
  obtain ⟨r, hr⟩ := State.topJava?_eq_some.mp hg
  have hr' : (u.setVm vm').frames = .java g₀ :: r := hr
  rw [State.setTop_of_frames _ hr'] at hrest
  rw [hr, List.tail_cons, State.pushFrame, px_frames, State.setTop_of_frames _ hr, px_frames]
  exact hrest
theorem px_catch {own name E : String} {ce : Cell} {q : Addr} {pc : Nat} {ls : Array Slot} {rest : List Value} (hown : s.vm.findClass own = some m.cls) (x : ExceptionTableEntry) (suf : List ExceptionTableEntry) (hsplit : c.exceptionTable.toList = x :: suf) (hx : covers x pc = true) (h0 : x.catchType ≠ 0)
    (hlink : (Cond.classLink own x.catchType name).before args s = true) (hcast : (Cond.castable E name).before args s = true) (hcell : H[q]? = some ce) (hv : ce.vm = .none) (hcl : s.vm.findClass E = some ce.cls)
    (kk : W p l e R s m args below meth c H locs cells slots Q (F0 m x.handlerPc ls [.ref q])) : vx_W p l e R s m args below meth c H locs cells slots Q (F0 m pc ls rest) q := by
  intro T hT X
  have hpl : e.platform.magicAccessors = ({} : Platform).magicAccessors := by rw [X.admits.platform]
  obtain ⟨c3, c4, hc3, hc4, hasg⟩ := Cond.castable_spec hcast
  cases Option.some.inj (hc3.symm.trans hcl)
  obtain ⟨c5, hc5, hcl5⟩ := Cond.classLink_spec hown hlink e.platform hpl
  cases Option.some.inj (hc4.symm.trans hc5)
  obtain ⟨-, hwarm, -⟩ := State.classEntry (e := e) X.warmed hcl5
  have hal := X.warmed.alike
  obtain ⟨k9, h9, -⟩ := Vm.findClass_spec hcl
  obtain ⟨k8, h8, -⟩ := Vm.findClass_spec hc4
  obtain ⟨k9', h9', -⟩ := hal.2.2 _ _ h9
  obtain ⟨k8', h8', -⟩ := hal.2.2 _ _ h8
  obtain ⟨t, a1, b1⟩ := kk (T.setVm (T.vm.noted m.cls x.catchType (.cls c4))) hT (X.noted hwarm)
  refine ⟨t, px_caught (g := F0 m pc ls rest) X.here (fun Qh Ec d acts => ?_) a1, b1⟩
  have hm9 : ((T.setTop (F0 m pc ls rest)).pushFrame (.throwing q)).vm.method? (F0 m pc ls rest).method = some meth := by rw [throwing_vm]; exact X.method'
  rw [Jvm.W.findHandler_eq hm9 X.code, hsplit]
  have e1 : ((T.setTop (F0 m pc ls rest)).pushFrame (.throwing q)).vm = T.vm := throwing_vm T _ q
  rw [px_go (k := c4) (cell := ce) hx h0 (by rw [e1]; exact X.warmed.classLinks hcl5) (by rw [throwing_heap, hT]; exact hcell) (fun z hz => by rw [hv] at hz; cases hz) ⟨k9', by rw [e1]; exact h9'⟩ ⟨k8', by rw [e1]; exact h8'⟩ (by rw [e1, hal.assignable]; exact hasg), e1]
end PX
end
section
section GM
variable {p : Program} {l : Launch} {e : Env} {R : Room} {s : State} {m : MethodId} {args : Array Value} {below : List Frame} {meth : Method} {c : Code} {H : Heap} {locs : List Loc} {cells slots : Nat} {Q : State → Prop}
abbrev gm_in (comp : ClassId) (M : Nat) (dv : Value) : Cell := { cls := comp, slots := Array.replicate M dv }
/-- one row more: made, and noted in the outer row at h0 -/
def gm_nx (h0 : Nat) (comp : ClassId) (M : Nat) (dv : Value) (T' : State) (i : Nat) : State := match T'.heap[h0]? with
  | some x9 => (T'.pushCell (gm_in comp M dv)).setCell h0 (x9.setSlot i (.ref T'.heap.size))
  | none => T'
def gm_f (T : State) (cA comp : ClassId) (N M : Nat) (dv : Value) : Nat → State
  | 0 => T.pushCell { cls := cA, slots := Array.replicate N .null }
  | i + 1 => gm_nx T.heap.size comp M dv (gm_f T cA comp N M dv i) i
/-- where the making of a grid stands behind i rows: all older cells as in T, the outer row at the old end -/
def gm_I (p : Program) (l : Launch) (e : Env) (R : Room) (s : State) (m : MethodId) (args : Array Value) (below : List Frame) (meth : Method) (c : Code) (T : State) (locs : List Loc) (cells slots : Nat) (cA : ClassId) (N M i : Nat) (T' : State) : Prop :=
  ∃ (cell : Cell) (ex : List Loc), Stand p l e R s m args below meth c T' (locs ++ ex) (cells + 1 + i) (slots + N + i * M) ∧ (∀ z ∈ ex, z.base = T.heap.size) ∧ T'.vm = T.vm ∧
    T'.heap[T.heap.size]? = some cell ∧ cell.cls = cA ∧ cell.vm = .none ∧ cell.slots.size = N ∧ T'.heap.size = T.heap.size + 1 + i ∧ T'.slotsUsed = T.slotsUsed + N + i * M ∧ ∀ a : Nat, a < T.heap.size → T'.heap[a]? = T.heap[a]?
theorem gm_step {T T' : State} {cA comp : ClassId} {N M i : Nat} {dv : Value} (hI : gm_I p l e R s m args below meth c T locs cells slots cA N M i T') : gm_I p l e R s m args below meth c T locs cells slots cA N M (i + 1) (gm_nx T.heap.size comp M dv T' i) := by
  obtain ⟨cell, ex, X, hex, hvm, hcell, hcc, hcv, hcs, hsz, hsu, hold⟩ := hI
  have hlt : T.heap.size < T'.heap.size := by rw [hsz]; omega
  have X1 := X.pushed (gm_in comp M dv)
  have hcell1 : (T'.pushCell (gm_in comp M dv)).heap[T.heap.size]? = some cell := by rw [State.heap_pushCell_of_lt (h := hlt)]; exact hcell
  have X2 := X1.stored hcell1 i (.ref T'.heap.size)
  have e0 : gm_nx T.heap.size comp M dv T' i = (T'.pushCell (gm_in comp M dv)).setCell T.heap.size (cell.setSlot i (.ref T'.heap.size)) := by
    unfold gm_nx
    rw [hcell]
  rw [e0]
  refine ⟨cell.setSlot i (.ref T'.heap.size), ex ++ [⟨T.heap.size, i⟩], ?_, ?_, hvm, State.heap_setCell_self hcell1, hcc, hcv, ?_, ?_, ?_, ?_⟩
  · have e1 : (gm_in comp M dv).slots.size = M := by simp
    rw [e1] at X2
    have e2 : slots + N + (i + 1) * M = slots + N + i * M + M := by rw [Nat.succ_mul]; omega
    rw [e2, ← List.append_assoc]
    exact X2
  · intro z hz
    rcases List.mem_append.mp hz with h | h
    · exact hex z h
    · rw [List.mem_singleton.mp h]
  · simp [Cell.setSlot, hcs]
  · rw [size_setCell, size_pushCell, hsz]
    omega
  · show T'.slotsUsed + _ = _
    rw [hsu, Nat.succ_mul]
    simp
    omega
  · intro a ha
    rw [State.heap_setCell_other (Nat.ne_of_gt ha), State.heap_pushCell_of_lt (h := Nat.lt_trans ha hlt)]
    exact hold a ha
theorem gm_all {T : State} (X : Stand p l e R s m args below meth c T locs cells slots) (cA comp : ClassId) (N M : Nat) (dv : Value) : ∀ i, gm_I p l e R s m args below meth c T locs cells slots cA N M i (gm_f T cA comp N M dv i)
  | 0 => by
    have XO := X.pushed { cls := cA, slots := Array.replicate N .null }
    have esz : ({ cls := cA, slots := Array.replicate N .null } : Cell).slots.size = N := by simp
    rw [esz] at XO
    exact ⟨_, [], by simpa [gm_f] using XO, (fun z hz => by cases hz), rfl, State.heap_pushCell_size _ _, rfl, rfl, esz, size_pushCell _ _, by show T.slotsUsed + _ = _; simp, fun a ha => State.heap_pushCell_of_lt _ _ ha⟩
  | i + 1 => gm_step (gm_all X cA comp N M dv i)
theorem gm_make {T T' : State} {cA comp cc : ClassId} {kC : Class} {ty : FieldType} {g : JFrame} {N M i : Nat} (hI : gm_I p l e R s m args below meth c T locs cells slots cA N M i T') (hi : i < N)
    (hkC : T.vm.classes[comp]? = some kC) (hkindC : kC.kind = .array cc ty) (hdf : fits ty (defaultValue ty) = true)
    {k : Int32} (hk : ¬ k < 0) (hM : k.toNatClampNeg = M) (hl2 : ¬ M > e.platform.arrayLengthLimit) (hh2 : ¬ M * componentBytes ty > e.platform.maxHeapBytes)
    (hc1 : T.heap.size + 1 + N ≤ e.platform.maxCells) (hs1 : T.slotsUsed + N + N * M ≤ e.platform.maxSlots) {Ec : CtlPost} {d : Bool} {acts : List Action} {Qz : Addr → Pre}
    (hq : ∀ acts', Qz T'.heap.size d acts' ((T'.pushCell (gm_in comp M (defaultValue ty))).setTop g)) :
    wp (multianewarray.make comp [k]) Qz Ec e d acts (T'.setTop g) := by
  obtain ⟨cell, ex, X, hex, hvm, hcell, hcc, hcv, hcs, hsz, hsu, hold⟩ := hI
  subst hM
  have hmul : i * k.toNatClampNeg + k.toNatClampNeg ≤ N * k.toNatClampNeg := by
    have := Nat.mul_le_mul_right k.toNatClampNeg (show i + 1 ≤ N from hi)
    rw [Nat.succ_mul] at this
    exact this
  have hvm' : (T'.setTop g).vm = T.vm := hvm
  rw [multianewarray.make]
  simp only [wp_bind', W.ite, hk, if_false, wp_pure', W.theClass, hvm', hkC, hkindC, Option.some.injEq, exists_eq_left']
  exact W.newArray_of (k := kC) (comp := cc) (type := ty) (by rw [hvm']; exact hkC) hkindC hl2 hh2 (by show T'.heap.size < _; rw [hsz]; omega) (by show T'.slotsUsed + _ ≤ _; rw [hsu]; omega) hdf (fun acts' => hq acts')
theorem px_mna {cc : ByteArray} (hexec : p.tables.exec = Jvm.exec) (hb : c.code = cc) {own : String} {index : Nat} {ty : FieldType} (hown : s.vm.findClass own = some m.cls) (hclink : (Cond.classLink own index ("[" ++ (FieldType.array ty).toString)).before args s = true)
    (hover : (Cond.arrayOver (.array ty)).before args s = true) (harr : (Cond.arrayClass ty).before args s = true) {A : Nat → Prop} {H0 : Heap} (hS : va_S A H0 H locs) (hs0 : s.heap.size ≤ H.size)
    {n k : Int32} {N M : Nat} (hn : ¬ n < 0) (hk : ¬ k < 0) (hN : n.toNatClampNeg = N) (hM : k.toNatClampNeg = M) (hb1 : N * 4 ≤ 536870912) (hb2 : M * componentBytes ty ≤ 536870912) (hb3 : M ≤ 536870912) (hdf : fits ty (defaultValue ty) = true)
    (hcells : cells + (1 + N) ≤ R.cells) (hslots : slots + (N + N * M) ≤ R.slots) {pc : Nat} {ls : Array Slot} {rest : List Value} (hdg : decode cc pc = .ok (.multianewarray index 2, 4))
    (kk : ∀ (q : Nat) (H1 : Heap), (∀ a : Nat, a < H.size → H1[a]? = H[a]?) → va_S A H0 H1 locs → W p l e R s m args below meth c H1 locs (cells + 1 + N) (slots + N + N * M) Q (F0 m (pc + 4) ls (.ref q :: rest))) :
    W p l e R s m args below meth c H locs cells slots Q (F0 m pc ls (.int k :: .int n :: rest)) := by
  subst hN
  subst hM
  subst hb
  intro T hT X
  subst hT
  have hpl : e.platform.magicAccessors = ({} : Platform).magicAccessors := by rw [X.admits.platform]
  obtain ⟨comp, cA, kA, hcomp, -, hkA, hkindA, hnameA⟩ := arrayOverA_spec hover
  obtain ⟨comp', kC, cc, hcomp', hkC, hkindC⟩ := Cond.arrayClass_spec harr
  have ec : comp' = comp := Option.some.inj (hcomp'.symm.trans hcomp)
  subst ec
  obtain ⟨c0, hfc0, hcl⟩ := Cond.classLink_spec hown hclink e.platform hpl
  cases hnameA.symm.trans hfc0
  obtain ⟨hg₁, hwarm₁, -⟩ := State.classEntry (e := e) X.warmed hcl
  generalize T.vm.noted m.cls index (.cls cA) = vm₁ at hg₁ hwarm₁
  have hal : s.vm.Alike vm₁ := hwarm₁.alike
  obtain ⟨kA₁, hkA₁, heA⟩ := hal.2.2 _ _ hkA
  obtain ⟨kC₁, hkC₁, heC⟩ := hal.2.2 _ _ hkC
  have hkindA₁ : kA₁.kind = .array comp' (.array ty) := by rw [heA]; exact hkindA
  have hkindC₁ : kC₁.kind = .array cc ty := by rw [heC]; exact hkindC
  obtain ⟨hr1, hr2⟩ := X.roomAbove hcells hslots
  have hl1 : ¬ n.toNatClampNeg > e.platform.arrayLengthLimit := by rw [Launch.admits_arrayLengthLimit X.admits]; omega
  have hh1 : ¬ n.toNatClampNeg * componentBytes (.array ty) > e.platform.maxHeapBytes := by
    rw [Launch.admits_maxHeapBytes X.admits]; show ¬ n.toNatClampNeg * 4 > 536870912; omega
  have hl2 : ¬ k.toNatClampNeg > e.platform.arrayLengthLimit := by rw [Launch.admits_arrayLengthLimit X.admits]; omega
  have hh2 : ¬ k.toNatClampNeg * componentBytes ty > e.platform.maxHeapBytes := by rw [Launch.admits_maxHeapBytes X.admits]; omega
  have X₁ := X.noted hwarm₁
  have hall := gm_all X₁ cA comp' n.toNatClampNeg k.toNatClampNeg (defaultValue ty)
  have hTv : (T.setVm vm₁).heap.size = T.heap.size := rfl
  obtain ⟨cellN, exN, XN, hexN, -, -, -, -, -, hszN, -, holdN⟩ := hall n.toNatClampNeg
  have XF := Stand.forget XN (fun z hz => by rw [hexN z hz]; exact hs0)
  obtain ⟨t, a1, b1⟩ := kk T.heap.size _ (fun a ha => holdN a ha) ⟨Nat.le_trans hS.1 (by rw [hszN, hTv]; omega), fun q h1 h2 => (holdN q (Nat.lt_of_lt_of_le h1 hS.1)).trans (hS.2.1 q h1 h2), hS.2.2⟩ (gm_f (T.setVm vm₁) cA comp' n.toNatClampNeg k.toNatClampNeg (defaultValue ty) n.toNatClampNeg) rfl XF
  refine ⟨t, ?_, b1⟩
  jvm_step X.here [hexec, hdg]
  simp only [multianewarray.sem, wp_bind', W.resolveClassAt_links (State.method?_setTop (F0 m pc ls (.int k :: .int n :: rest)) X.here.top) hg₁]
  rw [W.popN, if_neg (by decide)]
  refine ⟨F0 m pc ls (.int k :: .int n :: rest), State.topJava?_setTop' (s := T.setVm vm₁) _ X.here.top, [.int n, .int k], rest, rfl, rfl, ?_⟩
  simp only [List.mapM_cons, List.mapM_nil, wp_bind', wp_pure']
  rw [show ((T.setTop (F0 m pc ls (.int k :: .int n :: rest))).setVm vm₁).setTop (F0 m pc ls rest) = (T.setVm vm₁).setTop (F0 m pc ls rest) from State.setTop_setTop (T.setVm vm₁) _ _]
  generalize hT1 : T.setVm vm₁ = T1 at *
  have hT1h : T1.heap = T.heap := by rw [← hT1]; rfl
  have hT1s : T1.slotsUsed = T.slotsUsed := by rw [← hT1]; rfl
  have hT1v : T1.vm = vm₁ := by rw [← hT1]; rfl
  have hfind : ([k].find? (· < 0)) = none := by simp [hk]
  have hkA₂ : T1.vm.classes[cA]? = some kA₁ := by rw [hT1v]; exact hkA₁
  have hkC₂ : T1.vm.classes[comp']? = some kC₁ := by rw [hT1v]; exact hkC₁
  rw [multianewarray.make]
  simp only [wp_bind', W.ite, hn, if_false, wp_pure', W.theClass, State.vm_setTop, hkA₂, hkindA₁, Option.some.injEq, exists_eq_left']
  refine W.newArray_of (k := kA₁) (comp := comp') (type := .array ty) (by rw [State.vm_setTop]; exact hkA₂) hkindA₁ hl1 hh1 (by show T1.heap.size < _; rw [hT1h]; omega) (by show T1.slotsUsed + _ ≤ _; rw [hT1s]; have := Nat.zero_le (n.toNatClampNeg * k.toNatClampNeg); omega) rfl (fun acts' => ?_)
  simp only [hfind]
  rw [ite_self, wp_bind', Std.Legacy.Range.forIn_eq_forIn_range']
  have hsz : ([:n.toNatClampNeg] : Std.Legacy.Range).size = n.toNatClampNeg := by simp [Std.Legacy.Range.size]
  rw [hsz]
  refine wp_forIn_inv (fun rs u => ∃ i, i ≤ n.toNatClampNeg ∧ rs = List.range' i (n.toNatClampNeg - i) ∧ u = (gm_f T1 cA comp' n.toNatClampNeg k.toNatClampNeg (defaultValue ty) i).setTop (F0 m pc ls rest)) _ _ ⟨0, Nat.zero_le _, rfl, rfl⟩ ?_ ?_
  · rintro x rs u d' acts' Q' ⟨i, hi, hl, rfl⟩ hnext
    have hlt : i < n.toNatClampNeg := by
      rcases Nat.lt_or_ge i n.toNatClampNeg with h | h
      · exact h
      · rw [show n.toNatClampNeg - i = 0 from by omega] at hl
        simp at hl
    obtain ⟨rfl, hrest⟩ : x = i ∧ rs = List.range' (i + 1) (n.toNatClampNeg - (i + 1)) := by
      rw [show n.toNatClampNeg - i = (n.toNatClampNeg - (i + 1)) + 1 from by omega, List.range'_succ] at hl
      exact ⟨(List.cons.inj hl).1, (List.cons.inj hl).2⟩
    simp only [wp_bind']
    refine gm_make (hall x) hlt hkC₂ hkindC₁ hdf hk rfl hl2 hh2 (by rw [hT1h]; omega) (by rw [hT1s]; omega) (fun acts2 => ?_)
    obtain ⟨c9, ex, Xi, hex, hvm, hcell, hcc, hcv, hcs, hsz9, hsu, hold⟩ := hall x
    have hlt0 : T1.heap.size < (gm_f T1 cA comp' n.toNatClampNeg k.toNatClampNeg (defaultValue ty) x).heap.size := by rw [hsz9]; omega
    have hcell1 : ((gm_f T1 cA comp' n.toNatClampNeg k.toNatClampNeg (defaultValue ty) x).pushCell (gm_in comp' k.toNatClampNeg (defaultValue ty))).heap[T1.heap.size]? = some c9 := by rw [State.heap_pushCell_of_lt (h := hlt0)]; exact hcell
    simp only [wp_bind', W.writeLoc, wp_pure']
    refine ⟨c9, hcell1, by rw [hcv]; exact (fun h => by cases h), by rw [hcs]; exact hlt, ?_, hnext _ _ _ ⟨x + 1, hlt, hrest, ?_⟩⟩
    · rw [hcc, hcv]
      have h9 : (((gm_f T1 cA comp' n.toNatClampNeg k.toNatClampNeg (defaultValue ty) x).pushCell (gm_in comp' k.toNatClampNeg (defaultValue ty))).setTop (F0 m pc ls rest)).vm = T1.vm := hvm
      simp [State.fitsSlot, State.slotType?, hvm, hkA₂, hkindA₁, fits]
    · show _ = (gm_nx _ _ _ _ _ _).setTop _
      unfold gm_nx
      rw [hcell]
      rfl
  · rintro u d' acts' ⟨i, hi, hl, rfl⟩
    have hiN : i = n.toNatClampNeg := by
      rcases Nat.lt_or_ge i n.toNatClampNeg with h | h
      · rw [show n.toNatClampNeg - i = (n.toNatClampNeg - (i + 1)) + 1 from by omega, List.range'_succ] at hl
        cases hl
      · omega
    subst hiN
    simp only [wp_pure', wp_bind', W.mark, W.pushRef, State.topJava?_setTop' _ XF.here.top, Option.some.injEq, exists_eq_left', State.setTop_setTop, State.heap_setTop]
    intro acts
    simp [jvm, XF.here.top]
    rw [hT1h]
    exact a1
end GM
end
section
def RX0 : String := "CubicBench$Big"
def TX0 : u_T := fun k => match k with
  | 0 => ("CubicBench$Big", "parts", "[I", true)
  | 1 => ("CubicBench$Big", "length", "I", false)
  | _ => ("CubicBench$Big", "below", "Z", false)
def tyX0 : Nat → FieldType := fun k => match k with
  | 0 => .array .int
  | 1 => .int
  | _ => .boolean
abbrev wsX00 : List Cond := u_ws RX0 TX0 3
theorem nmX0 : ∀ a, a < 3 → ∀ b, b < 3 → a ≠ b → (TX0 a).2.1 ≠ (TX0 b).2.1 := by decide +kernel
theorem tyX0_ok : ∀ k, k < 3 → parseFieldDescriptor (TX0 k).2.2.1 = some (tyX0 k) := by decide +kernel
def dfX0 : List Value := [.null, .int 0, .int 0]
theorem dfX0_ok : ∀ j, j < 3 → defaultValue (tyX0 j) = vp_V dfX0 j := by decide +kernel
def RX1 : String := "CubicBench$Chain"
def TX1 : u_T := fun k => match k with
  | 0 => ("CubicBench$Chain", "squared", "[Z", true)
  | 1 => ("CubicBench$Chain", "kinds", "[I", true)
  | 2 => ("CubicBench$Chain", "places", "[J", true)
  | 3 => ("CubicBench$Chain", "slopes", "[J", true)
  | 4 => ("CubicBench$Chain", "ends", "[J", true)
  | _ => ("CubicBench$Chain", "held", "I", false)
def tyX1 : Nat → FieldType := fun k => match k with
  | 0 => .array .boolean
  | 1 => .array .int
  | 2 => .array .long
  | 3 => .array .long
  | 4 => .array .long
  | _ => .int
abbrev wsX10 : List Cond := u_ws RX1 TX1 6
theorem nmX1 : ∀ a, a < 6 → ∀ b, b < 6 → a ≠ b → (TX1 a).2.1 ≠ (TX1 b).2.1 := by decide +kernel
theorem tyX1_ok : ∀ k, k < 6 → parseFieldDescriptor (TX1 k).2.2.1 = some (tyX1 k) := by decide +kernel
def dfX1 : List Value := [.null, .null, .null, .null, .null, .int 0]
theorem dfX1_ok : ∀ j, j < 6 → defaultValue (tyX1 j) = vp_V dfX1 j := by decide +kernel
def RX2 : String := "CubicBench$Curve"
def TX2 : u_T := fun k => match k with
  | 0 => ("CubicBench$Curve", "a", "I", true)
  | 1 => ("CubicBench$Curve", "b", "I", true)
  | 2 => ("CubicBench$Curve", "p", "I", true)
  | _ => ("CubicBench$Curve", "points", "I", false)
def tyX2 : Nat → FieldType := fun k => match k with
  | 0 => .int
  | 1 => .int
  | 2 => .int
  | _ => .int
abbrev wsX20 : List Cond := u_ws RX2 TX2 4
theorem nmX2 : ∀ a, a < 4 → ∀ b, b < 4 → a ≠ b → (TX2 a).2.1 ≠ (TX2 b).2.1 := by decide +kernel
theorem tyX2_ok : ∀ k, k < 4 → parseFieldDescriptor (TX2 k).2.2.1 = some (tyX2 k) := by decide +kernel
def dfX2 : List Value := [.int 0, .int 0, .int 0, .int 0]
theorem dfX2_ok : ∀ j, j < 4 → defaultValue (tyX2 j) = vp_V dfX2 j := by decide +kernel
def RX3 : String := "CubicBench$Division"
def TX3 : u_T := fun k => match k with
  | 0 => ("CubicBench$Division", "rows", "[[J", true)
  | 1 => ("CubicBench$Division", "cubicSquare", "[J", true)
  | 2 => ("CubicBench$Division", "left", "[J", true)
  | 3 => ("CubicBench$Division", "right", "[J", true)
  | 4 => ("CubicBench$Division", "spare", "[J", true)
  | 5 => ("CubicBench$Division", "roots", "[I", true)
  | 6 => ("CubicBench$Division", "rootsHeld", "I", false)
  | 7 => ("CubicBench$Division", "rootsKnown", "Z", false)
  | 8 => ("CubicBench$Division", "of", "LCubicBench$Curve;", false)
  | 9 => ("CubicBench$Division", "known", "I", false)
  | 10 => ("CubicBench$Division", "latest", "I", false)
  | 11 => ("CubicBench$Division", "p", "I", false)
  | _ => ("CubicBench$Division", "degree", "I", false)
def tyX3 : Nat → FieldType := fun k => match k with
  | 0 => .array (.array .long)
  | 1 => .array .long
  | 2 => .array .long
  | 3 => .array .long
  | 4 => .array .long
  | 5 => .array .int
  | 6 => .int
  | 7 => .boolean
  | 8 => .object "CubicBench$Curve"
  | 9 => .int
  | 10 => .int
  | 11 => .int
  | _ => .int
abbrev wsX30 : List Cond := u_ws RX3 TX3 13
theorem nmX3 : ∀ a, a < 13 → ∀ b, b < 13 → a ≠ b → (TX3 a).2.1 ≠ (TX3 b).2.1 := by decide +kernel
theorem tyX3_ok : ∀ k, k < 13 → parseFieldDescriptor (TX3 k).2.2.1 = some (tyX3 k) := by decide +kernel
def dfX3 : List Value := [.null, .null, .null, .null, .null, .null, .int 0, .int 0, .null, .int 0, .int 0, .int 0, .int 0]
theorem dfX3_ok : ∀ j, j < 13 → defaultValue (tyX3 j) = vp_V dfX3 j := by decide +kernel
def RX4 : String := "CubicBench$Fractions"
def TX4 : u_T := fun k => match k with
  | 0 => ("CubicBench$Fractions", "result", "LCubicBench$Spot;", false)
  | 1 => ("CubicBench$Fractions", "next", "LCubicBench$Spot;", false)
  | 2 => ("CubicBench$Fractions", "base", "LCubicBench$Spot;", true)
  | 3 => ("CubicBench$Fractions", "firstSquare", "LCubicBench$Big;", true)
  | 4 => ("CubicBench$Fractions", "secondSquare", "LCubicBench$Big;", true)
  | 5 => ("CubicBench$Fractions", "newSquare", "LCubicBench$Big;", true)
  | 6 => ("CubicBench$Fractions", "rise", "LCubicBench$Big;", true)
  | 7 => ("CubicBench$Fractions", "run", "LCubicBench$Big;", true)
  | 8 => ("CubicBench$Fractions", "cut", "LCubicBench$Big;", true)
  | 9 => ("CubicBench$Fractions", "top", "LCubicBench$Big;", true)
  | 10 => ("CubicBench$Fractions", "bottom", "LCubicBench$Big;", true)
  | 11 => ("CubicBench$Fractions", "common", "LCubicBench$Big;", true)
  | 12 => ("CubicBench$Fractions", "one", "LCubicBench$Big;", true)
  | 13 => ("CubicBench$Fractions", "two", "LCubicBench$Big;", true)
  | 14 => ("CubicBench$Fractions", "three", "LCubicBench$Big;", true)
  | 15 => ("CubicBench$Fractions", "four", "LCubicBench$Big;", true)
  | _ => ("CubicBench$Fractions", "factor", "LCubicBench$Big;", true)
def tyX4 : Nat → FieldType := fun k => match k with
  | 0 => .object "CubicBench$Spot"
  | 1 => .object "CubicBench$Spot"
  | 2 => .object "CubicBench$Spot"
  | 3 => .object "CubicBench$Big"
  | 4 => .object "CubicBench$Big"
  | 5 => .object "CubicBench$Big"
  | 6 => .object "CubicBench$Big"
  | 7 => .object "CubicBench$Big"
  | 8 => .object "CubicBench$Big"
  | 9 => .object "CubicBench$Big"
  | 10 => .object "CubicBench$Big"
  | 11 => .object "CubicBench$Big"
  | 12 => .object "CubicBench$Big"
  | 13 => .object "CubicBench$Big"
  | 14 => .object "CubicBench$Big"
  | 15 => .object "CubicBench$Big"
  | _ => .object "CubicBench$Big"
abbrev wsX40 : List Cond := u_ws RX4 TX4 17
theorem nmX4 : ∀ a, a < 17 → ∀ b, b < 17 → a ≠ b → (TX4 a).2.1 ≠ (TX4 b).2.1 := by decide +kernel
theorem tyX4_ok : ∀ k, k < 17 → parseFieldDescriptor (TX4 k).2.2.1 = some (tyX4 k) := by decide +kernel
def dfX4 : List Value := [.null, .null, .null, .null, .null, .null, .null, .null, .null, .null, .null, .null, .null, .null, .null, .null, .null]
theorem dfX4_ok : ∀ j, j < 17 → defaultValue (tyX4 j) = vp_V dfX4 j := by decide +kernel
def RX5 : String := "CubicBench$Lead"
def TX5 : u_T := fun k => match k with
  | 0 => ("CubicBench$Lead", "a", "J", false)
  | 1 => ("CubicBench$Lead", "b", "J", false)
  | 2 => ("CubicBench$Lead", "x", "J", false)
  | 3 => ("CubicBench$Lead", "v", "J", false)
  | _ => ("CubicBench$Lead", "u", "J", false)
def tyX5 : Nat → FieldType := fun k => match k with
  | 0 => .long
  | 1 => .long
  | 2 => .long
  | 3 => .long
  | _ => .long
abbrev wsX50 : List Cond := u_ws RX5 TX5 5
theorem nmX5 : ∀ a, a < 5 → ∀ b, b < 5 → a ≠ b → (TX5 a).2.1 ≠ (TX5 b).2.1 := by decide +kernel
theorem tyX5_ok : ∀ k, k < 5 → parseFieldDescriptor (TX5 k).2.2.1 = some (tyX5 k) := by decide +kernel
def dfX5 : List Value := [.long 0, .long 0, .long 0, .long 0, .long 0]
theorem dfX5_ok : ∀ j, j < 5 → defaultValue (tyX5 j) = vp_V dfX5 j := by decide +kernel
def RX6 : String := "CubicBench$Listing"
def TX6 : u_T := fun k => match k with
  | 0 => ("CubicBench$Listing", "roots", "[I", true)
  | 1 => ("CubicBench$Listing", "codes", "[J", true)
  | 2 => ("CubicBench$Listing", "reached", "[B", true)
  | 3 => ("CubicBench$Listing", "held", "I", false)
  | 4 => ("CubicBench$Listing", "listed", "LCubicBench$Curve;", false)
  | 5 => ("CubicBench$Listing", "grouped", "LCubicBench$Curve;", false)
  | 6 => ("CubicBench$Listing", "longest", "I", false)
  | 7 => ("CubicBench$Listing", "across", "I", false)
  | 8 => ("CubicBench$Listing", "firstMaker", "J", false)
  | 9 => ("CubicBench$Listing", "secondMaker", "J", false)
  | _ => ("CubicBench$Listing", "hasSecond", "Z", false)
def tyX6 : Nat → FieldType := fun k => match k with
  | 0 => .array .int
  | 1 => .array .long
  | 2 => .array .byte
  | 3 => .int
  | 4 => .object "CubicBench$Curve"
  | 5 => .object "CubicBench$Curve"
  | 6 => .int
  | 7 => .int
  | 8 => .long
  | 9 => .long
  | _ => .boolean
abbrev wsX60 : List Cond := u_ws RX6 TX6 11
theorem nmX6 : ∀ a, a < 11 → ∀ b, b < 11 → a ≠ b → (TX6 a).2.1 ≠ (TX6 b).2.1 := by decide +kernel
theorem tyX6_ok : ∀ k, k < 11 → parseFieldDescriptor (TX6 k).2.2.1 = some (tyX6 k) := by decide +kernel
def dfX6 : List Value := [.null, .null, .null, .int 0, .null, .null, .int 0, .int 0, .long 0, .long 0, .int 0]
theorem dfX6_ok : ∀ j, j < 11 → defaultValue (tyX6 j) = vp_V dfX6 j := by decide +kernel
def RX7 : String := "CubicBench$Rests"
def TX7 : u_T := fun k => match k with
  | _ => ("CubicBench$Rests", "steps", "[J", true)
def tyX7 : Nat → FieldType := fun k => match k with
  | _ => .array .long
abbrev wsX70 : List Cond := u_ws RX7 TX7 1
theorem nmX7 : ∀ a, a < 1 → ∀ b, b < 1 → a ≠ b → (TX7 a).2.1 ≠ (TX7 b).2.1 := by decide +kernel
theorem tyX7_ok : ∀ k, k < 1 → parseFieldDescriptor (TX7 k).2.2.1 = some (tyX7 k) := by decide +kernel
def dfX7 : List Value := [.null]
theorem dfX7_ok : ∀ j, j < 1 → defaultValue (tyX7 j) = vp_V dfX7 j := by decide +kernel
def RX8 : String := "CubicBench$Searching"
def TX8 : u_T := fun k => match k with
  | 0 => ("CubicBench$Searching", "rs", "[I", false)
  | 1 => ("CubicBench$Searching", "ss", "[I", false)
  | 2 => ("CubicBench$Searching", "ts", "[J", false)
  | _ => ("CubicBench$Searching", "held", "I", false)
def tyX8 : Nat → FieldType := fun k => match k with
  | 0 => .array .int
  | 1 => .array .int
  | 2 => .array .long
  | _ => .int
abbrev wsX80 : List Cond := u_ws RX8 TX8 4
theorem nmX8 : ∀ a, a < 4 → ∀ b, b < 4 → a ≠ b → (TX8 a).2.1 ≠ (TX8 b).2.1 := by decide +kernel
theorem tyX8_ok : ∀ k, k < 4 → parseFieldDescriptor (TX8 k).2.2.1 = some (tyX8 k) := by decide +kernel
def dfX8 : List Value := [.null, .null, .null, .int 0]
theorem dfX8_ok : ∀ j, j < 4 → defaultValue (tyX8 j) = vp_V dfX8 j := by decide +kernel
def RX9 : String := "CubicBench$Spot"
def TX9 : u_T := fun k => match k with
  | 0 => ("CubicBench$Spot", "curve", "I", false)
  | 1 => ("CubicBench$Spot", "far", "Z", false)
  | 2 => ("CubicBench$Spot", "code", "J", false)
  | 3 => ("CubicBench$Spot", "\x72", "LCubicBench$Big;", true)
  | 4 => ("CubicBench$Spot", "t", "LCubicBench$Big;", true)
  | _ => ("CubicBench$Spot", "e", "LCubicBench$Big;", true)
def tyX9 : Nat → FieldType := fun k => match k with
  | 0 => .int
  | 1 => .boolean
  | 2 => .long
  | 3 => .object "CubicBench$Big"
  | 4 => .object "CubicBench$Big"
  | _ => .object "CubicBench$Big"
abbrev wsX90 : List Cond := u_ws RX9 TX9 6
theorem nmX9 : ∀ a, a < 6 → ∀ b, b < 6 → a ≠ b → (TX9 a).2.1 ≠ (TX9 b).2.1 := by decide +kernel
theorem tyX9_ok : ∀ k, k < 6 → parseFieldDescriptor (TX9 k).2.2.1 = some (tyX9 k) := by decide +kernel
def dfX9 : List Value := [.int 0, .int 0, .long 0, .null, .null, .null]
theorem dfX9_ok : ∀ j, j < 6 → defaultValue (tyX9 j) = vp_V dfX9 j := by decide +kernel
def RX10 : String := "CubicBench$Torsion"
def TX10 : u_T := fun k => match k with
  | 0 => ("CubicBench$Torsion", "xs", "[J", true)
  | 1 => ("CubicBench$Torsion", "ys", "[J", true)
  | 2 => ("CubicBench$Torsion", "held", "I", false)
  | _ => ("CubicBench$Torsion", "of", "LCubicBench$Curve;", false)
def tyX10 : Nat → FieldType := fun k => match k with
  | 0 => .array .long
  | 1 => .array .long
  | 2 => .int
  | _ => .object "CubicBench$Curve"
abbrev wsX100 : List Cond := u_ws RX10 TX10 4
theorem nmX10 : ∀ a, a < 4 → ∀ b, b < 4 → a ≠ b → (TX10 a).2.1 ≠ (TX10 b).2.1 := by decide +kernel
theorem tyX10_ok : ∀ k, k < 4 → parseFieldDescriptor (TX10 k).2.2.1 = some (tyX10 k) := by decide +kernel
def dfX10 : List Value := [.null, .null, .int 0, .null]
theorem dfX10_ok : ∀ j, j < 4 → defaultValue (tyX10 j) = vp_V dfX10 j := by decide +kernel
def RX11 : String := "CubicBench"
def TX11 : u_T := fun k => match k with
  | 0 => ("CubicBench", "curves", "[LCubicBench$Curve;", true)
  | 1 => ("CubicBench", "curvesHeld", "I", false)
  | 2 => ("CubicBench", "spots", "[LCubicBench$Spot;", true)
  | 3 => ("CubicBench", "spotsHeld", "I", false)
  | 4 => ("CubicBench", "page", "[B", true)
  | 5 => ("CubicBench", "pageLength", "I", false)
  | 6 => ("CubicBench", "asked", "LCubicBench$Spot;", true)
  | 7 => ("CubicBench", "fractions", "LCubicBench$Fractions;", true)
  | 8 => ("CubicBench", "rests", "LCubicBench$Rests;", true)
  | 9 => ("CubicBench", "torsion", "LCubicBench$Torsion;", true)
  | 10 => ("CubicBench", "searching", "LCubicBench$Searching;", true)
  | 11 => ("CubicBench", "listing", "LCubicBench$Listing;", true)
  | 12 => ("CubicBench", "firstChain", "LCubicBench$Chain;", true)
  | 13 => ("CubicBench", "secondChain", "LCubicBench$Chain;", true)
  | 14 => ("CubicBench", "division", "LCubicBench$Division;", true)
  | _ => ("CubicBench", "lead", "LCubicBench$Lead;", true)
def tyX11 : Nat → FieldType := fun k => match k with
  | 0 => .array (.object "CubicBench$Curve")
  | 1 => .int
  | 2 => .array (.object "CubicBench$Spot")
  | 3 => .int
  | 4 => .array .byte
  | 5 => .int
  | 6 => .object "CubicBench$Spot"
  | 7 => .object "CubicBench$Fractions"
  | 8 => .object "CubicBench$Rests"
  | 9 => .object "CubicBench$Torsion"
  | 10 => .object "CubicBench$Searching"
  | 11 => .object "CubicBench$Listing"
  | 12 => .object "CubicBench$Chain"
  | 13 => .object "CubicBench$Chain"
  | 14 => .object "CubicBench$Division"
  | _ => .object "CubicBench$Lead"
abbrev wsX110 : List Cond := u_ws RX11 TX11 16
theorem nmX11 : ∀ a, a < 16 → ∀ b, b < 16 → a ≠ b → (TX11 a).2.1 ≠ (TX11 b).2.1 := by decide +kernel
theorem tyX11_ok : ∀ k, k < 16 → parseFieldDescriptor (TX11 k).2.2.1 = some (tyX11 k) := by decide +kernel
def dfX11 : List Value := [.null, .int 0, .null, .int 0, .null, .int 0, .null, .null, .null, .null, .null, .null, .null, .null, .null, .null]
theorem dfX11_ok : ∀ j, j < 16 → defaultValue (tyX11 j) = vp_V dfX11 j := by decide +kernel
def RX12 : String := "CubicBenchModel$Frac"
def TX12 : u_T := fun k => match k with
  | 0 => ("CubicBenchModel$Frac", "u", "LCubicBenchModel$Num;", true)
  | _ => ("CubicBenchModel$Frac", "l", "LCubicBenchModel$Num;", true)
def tyX12 : Nat → FieldType := fun k => match k with
  | 0 => .object "CubicBenchModel$Num"
  | _ => .object "CubicBenchModel$Num"
abbrev wsX120 : List Cond := u_ws RX12 TX12 2
theorem nmX12 : ∀ a, a < 2 → ∀ b, b < 2 → a ≠ b → (TX12 a).2.1 ≠ (TX12 b).2.1 := by decide +kernel
theorem tyX12_ok : ∀ k, k < 2 → parseFieldDescriptor (TX12 k).2.2.1 = some (tyX12 k) := by decide +kernel
def dfX12 : List Value := [.null, .null]
theorem dfX12_ok : ∀ j, j < 2 → defaultValue (tyX12 j) = vp_V dfX12 j := by decide +kernel
def RX13 : String := "CubicBenchModel$Num"
def TX13 : u_T := fun k => match k with
  | 0 => ("CubicBenchModel$Num", "d", "[I", true)
  | 1 => ("CubicBenchModel$Num", "n", "I", false)
  | _ => ("CubicBenchModel$Num", "less", "Z", false)
def tyX13 : Nat → FieldType := fun k => match k with
  | 0 => .array .int
  | 1 => .int
  | _ => .boolean
abbrev wsX130 : List Cond := u_ws RX13 TX13 3
theorem nmX13 : ∀ a, a < 3 → ∀ b, b < 3 → a ≠ b → (TX13 a).2.1 ≠ (TX13 b).2.1 := by decide +kernel
theorem tyX13_ok : ∀ k, k < 3 → parseFieldDescriptor (TX13 k).2.2.1 = some (tyX13 k) := by decide +kernel
def dfX13 : List Value := [.null, .int 0, .int 0]
theorem dfX13_ok : ∀ j, j < 3 → defaultValue (tyX13 j) = vp_V dfX13 j := by decide +kernel
def RX14 : String := "CubicBenchModel$Pt"
def TX14 : u_T := fun k => match k with
  | 0 => ("CubicBenchModel$Pt", "far", "Z", false)
  | 1 => ("CubicBenchModel$Pt", "x", "LCubicBenchModel$Frac;", true)
  | 2 => ("CubicBenchModel$Pt", "y", "LCubicBenchModel$Frac;", true)
  | 3 => ("CubicBenchModel$Pt", "rx", "J", false)
  | _ => ("CubicBenchModel$Pt", "ry", "J", false)
def tyX14 : Nat → FieldType := fun k => match k with
  | 0 => .boolean
  | 1 => .object "CubicBenchModel$Frac"
  | 2 => .object "CubicBenchModel$Frac"
  | 3 => .long
  | _ => .long
abbrev wsX140 : List Cond := u_ws RX14 TX14 5
theorem nmX14 : ∀ a, a < 5 → ∀ b, b < 5 → a ≠ b → (TX14 a).2.1 ≠ (TX14 b).2.1 := by decide +kernel
theorem tyX14_ok : ∀ k, k < 5 → parseFieldDescriptor (TX14 k).2.2.1 = some (tyX14 k) := by decide +kernel
def dfX14 : List Value := [.int 0, .null, .null, .long 0, .long 0]
theorem dfX14_ok : ∀ j, j < 5 → defaultValue (tyX14 j) = vp_V dfX14 j := by decide +kernel
def RX15 : String := "CubicBenchModel"
def TX15 : u_T := fun k => match k with
  | 0 => ("CubicBenchModel", "thrown", "I", false)
  | 1 => ("CubicBenchModel", "n0", "LCubicBenchModel$Num;", true)
  | 2 => ("CubicBenchModel", "n1", "LCubicBenchModel$Num;", true)
  | 3 => ("CubicBenchModel", "g0", "LCubicBenchModel$Num;", true)
  | 4 => ("CubicBenchModel", "g1", "LCubicBenchModel$Num;", true)
  | 5 => ("CubicBenchModel", "g2", "LCubicBenchModel$Num;", true)
  | 6 => ("CubicBenchModel", "g3", "LCubicBenchModel$Num;", true)
  | 7 => ("CubicBenchModel", "ten", "LCubicBenchModel$Num;", true)
  | 8 => ("CubicBenchModel", "ca", "[J", true)
  | 9 => ("CubicBenchModel", "cb", "[J", true)
  | 10 => ("CubicBenchModel", "cp", "[I", true)
  | 11 => ("CubicBenchModel", "cMany", "[I", true)
  | 12 => ("CubicBenchModel", "cubics", "I", false)
  | 13 => ("CubicBenchModel", "squares", "[Z", false)
  | 14 => ("CubicBenchModel", "squaresOf", "I", false)
  | 15 => ("CubicBenchModel", "pc", "[I", true)
  | 16 => ("CubicBenchModel", "pFar", "[Z", true)
  | 17 => ("CubicBenchModel", "px", "[I", true)
  | 18 => ("CubicBenchModel", "py", "[I", true)
  | 19 => ("CubicBenchModel", "digits", "[I", true)
  | 20 => ("CubicBenchModel", "digitMany", "[I", true)
  | 21 => ("CubicBenchModel", "digitLess", "[Z", true)
  | 22 => ("CubicBenchModel", "points", "I", false)
  | 23 => ("CubicBenchModel", "same", "LCubicBenchModel$Pt;", true)
  | 24 => ("CubicBenchModel", "s0", "LCubicBenchModel$Frac;", true)
  | 25 => ("CubicBenchModel", "s1", "LCubicBenchModel$Frac;", true)
  | 26 => ("CubicBenchModel", "s2", "LCubicBenchModel$Frac;", true)
  | 27 => ("CubicBenchModel", "s3", "LCubicBenchModel$Frac;", true)
  | 28 => ("CubicBenchModel", "sum", "LCubicBenchModel$Pt;", true)
  | 29 => ("CubicBenchModel", "acc", "LCubicBenchModel$Pt;", true)
  | 30 => ("CubicBenchModel", "one", "LCubicBenchModel$Pt;", true)
  | 31 => ("CubicBenchModel", "wa", "LCubicBenchModel$Pt;", true)
  | 32 => ("CubicBenchModel", "wb", "LCubicBenchModel$Pt;", true)
  | 33 => ("CubicBenchModel", "page", "[B", true)
  | 34 => ("CubicBenchModel", "paged", "I", false)
  | 35 => ("CubicBenchModel", "isBacked", "[Z", true)
  | 36 => ("CubicBenchModel", "backMany", "[I", true)
  | 37 => ("CubicBenchModel", "backX", "[[I", true)
  | 38 => ("CubicBenchModel", "backY", "[[I", true)
  | 39 => ("CubicBenchModel", "fr", "[I", true)
  | 40 => ("CubicBenchModel", "fs", "[I", true)
  | 41 => ("CubicBenchModel", "ft", "[J", true)
  | 42 => ("CubicBenchModel", "founds", "I", false)
  | 43 => ("CubicBenchModel", "lx", "[I", true)
  | 44 => ("CubicBenchModel", "ly", "[I", true)
  | 45 => ("CubicBenchModel", "listed", "I", false)
  | 46 => ("CubicBenchModel", "listedOf", "I", false)
  | 47 => ("CubicBenchModel", "isGrouped", "[Z", true)
  | 48 => ("CubicBenchModel", "groupN", "[I", true)
  | 49 => ("CubicBenchModel", "makerOne", "[I", true)
  | 50 => ("CubicBenchModel", "makerTwo", "[I", true)
  | 51 => ("CubicBenchModel", "isOf", "[Z", true)
  | 52 => ("CubicBenchModel", "lineSum", "LCubicBenchModel$Pt;", true)
  | 53 => ("CubicBenchModel", "run", "LCubicBenchModel$Pt;", true)
  | 54 => ("CubicBenchModel", "next", "LCubicBenchModel$Pt;", true)
  | 55 => ("CubicBenchModel", "pp", "LCubicBenchModel$Pt;", true)
  | 56 => ("CubicBenchModel", "pq", "LCubicBenchModel$Pt;", true)
  | 57 => ("CubicBenchModel", "ps", "LCubicBenchModel$Pt;", true)
  | 58 => ("CubicBenchModel", "pr", "LCubicBenchModel$Pt;", true)
  | 59 => ("CubicBenchModel", "pt", "LCubicBenchModel$Pt;", true)
  | 60 => ("CubicBenchModel", "poly", "[J", true)
  | 61 => ("CubicBenchModel", "pa", "[J", true)
  | 62 => ("CubicBenchModel", "pb", "[J", true)
  | 63 => ("CubicBenchModel", "pd", "[J", true)
  | 64 => ("CubicBenchModel", "cube", "[J", true)
  | 65 => ("CubicBenchModel", "polyOf", "I", false)
  | 66 => ("CubicBenchModel", "polyBy", "I", false)
  | 67 => ("CubicBenchModel", "work", "[J", true)
  | 68 => ("CubicBenchModel", "ledA", "J", false)
  | 69 => ("CubicBenchModel", "ledB", "J", false)
  | 70 => ("CubicBenchModel", "ledV", "J", false)
  | 71 => ("CubicBenchModel", "ledU", "J", false)
  | 72 => ("CubicBenchModel", "ledOrder", "I", false)
  | _ => ("CubicBenchModel", "th", "LCubicBenchModel$Pt;", true)
def tyX15 : Nat → FieldType := fun k => match k with
  | 0 => .int
  | 1 => .object "CubicBenchModel$Num"
  | 2 => .object "CubicBenchModel$Num"
  | 3 => .object "CubicBenchModel$Num"
  | 4 => .object "CubicBenchModel$Num"
  | 5 => .object "CubicBenchModel$Num"
  | 6 => .object "CubicBenchModel$Num"
  | 7 => .object "CubicBenchModel$Num"
  | 8 => .array .long
  | 9 => .array .long
  | 10 => .array .int
  | 11 => .array .int
  | 12 => .int
  | 13 => .array .boolean
  | 14 => .int
  | 15 => .array .int
  | 16 => .array .boolean
  | 17 => .array .int
  | 18 => .array .int
  | 19 => .array .int
  | 20 => .array .int
  | 21 => .array .boolean
  | 22 => .int
  | 23 => .object "CubicBenchModel$Pt"
  | 24 => .object "CubicBenchModel$Frac"
  | 25 => .object "CubicBenchModel$Frac"
  | 26 => .object "CubicBenchModel$Frac"
  | 27 => .object "CubicBenchModel$Frac"
  | 28 => .object "CubicBenchModel$Pt"
  | 29 => .object "CubicBenchModel$Pt"
  | 30 => .object "CubicBenchModel$Pt"
  | 31 => .object "CubicBenchModel$Pt"
  | 32 => .object "CubicBenchModel$Pt"
  | 33 => .array .byte
  | 34 => .int
  | 35 => .array .boolean
  | 36 => .array .int
  | 37 => .array (.array .int)
  | 38 => .array (.array .int)
  | 39 => .array .int
  | 40 => .array .int
  | 41 => .array .long
  | 42 => .int
  | 43 => .array .int
  | 44 => .array .int
  | 45 => .int
  | 46 => .int
  | 47 => .array .boolean
  | 48 => .array .int
  | 49 => .array .int
  | 50 => .array .int
  | 51 => .array .boolean
  | 52 => .object "CubicBenchModel$Pt"
  | 53 => .object "CubicBenchModel$Pt"
  | 54 => .object "CubicBenchModel$Pt"
  | 55 => .object "CubicBenchModel$Pt"
  | 56 => .object "CubicBenchModel$Pt"
  | 57 => .object "CubicBenchModel$Pt"
  | 58 => .object "CubicBenchModel$Pt"
  | 59 => .object "CubicBenchModel$Pt"
  | 60 => .array .long
  | 61 => .array .long
  | 62 => .array .long
  | 63 => .array .long
  | 64 => .array .long
  | 65 => .int
  | 66 => .int
  | 67 => .array .long
  | 68 => .long
  | 69 => .long
  | 70 => .long
  | 71 => .long
  | 72 => .int
  | _ => .object "CubicBenchModel$Pt"
abbrev wsX150 : List Cond := u_ws RX15 TX15 74
theorem nmX15 : ∀ a, a < 74 → ∀ b, b < 74 → a ≠ b → (TX15 a).2.1 ≠ (TX15 b).2.1 := by decide +kernel
theorem tyX15_ok : ∀ k, k < 74 → parseFieldDescriptor (TX15 k).2.2.1 = some (tyX15 k) := by decide +kernel
def dfX15 : List Value := [.int 0, .null, .null, .null, .null, .null, .null, .null, .null, .null, .null, .null, .int 0, .null, .int 0, .null, .null, .null, .null, .null, .null, .null, .int 0, .null, .null, .null, .null, .null, .null, .null, .null, .null, .null, .null, .int 0, .null, .null, .null, .null, .null, .null, .null, .int 0, .null, .null, .int 0, .int 0, .null, .null, .null, .null, .null, .null, .null, .null, .null, .null, .null, .null, .null, .null, .null, .null, .null, .null, .int 0, .int 0, .null, .long 0, .long 0, .long 0, .long 0, .int 0, .null]
theorem dfX15_ok : ∀ j, j < 74 → defaultValue (tyX15 j) = vp_V dfX15 j := by decide +kernel
def RL : String := "CubicBenchLaw"
abbrev cX0_init : ByteArray := prog_2_method_1_code
def yX0_init : MethodName := ⟨RX0, "<init>", "(I)V"⟩
abbrev cX9_init : ByteArray := prog_11_method_1_code
def yX9_init : MethodName := ⟨RX9, "<init>", "(I)V"⟩
abbrev cX1_init : ByteArray := prog_3_method_1_code
def yX1_init : MethodName := ⟨RX1, "<init>", "()V"⟩
abbrev cX5_init : ByteArray := prog_7_method_1_code
def yX5_init : MethodName := ⟨RX5, "<init>", "()V"⟩
abbrev cX6_init : ByteArray := prog_8_method_1_code
def yX6_init : MethodName := ⟨RX6, "<init>", "()V"⟩
abbrev cX7_init : ByteArray := prog_9_method_1_code
def yX7_init : MethodName := ⟨RX7, "<init>", "()V"⟩
abbrev cX10_init : ByteArray := prog_12_method_1_code
def yX10_init : MethodName := ⟨RX10, "<init>", "()V"⟩
abbrev cX3_init : ByteArray := prog_5_method_1_code
def yX3_init : MethodName := ⟨RX3, "<init>", "()V"⟩
abbrev cX8_init : ByteArray := prog_10_method_1_code
def yX8_init : MethodName := ⟨RX8, "<init>", "()V"⟩
abbrev cX4_init : ByteArray := prog_6_method_1_code
def yX4_init : MethodName := ⟨RX4, "<init>", "()V"⟩
abbrev cX13_init : ByteArray := prog_16_method_1_code
def yX13_init : MethodName := ⟨RX13, "<init>", "()V"⟩
abbrev cX12_init : ByteArray := prog_15_method_1_code
def yX12_init : MethodName := ⟨RX12, "<init>", "()V"⟩
abbrev cX14_init : ByteArray := prog_17_method_1_code
def yX14_init : MethodName := ⟨RX14, "<init>", "()V"⟩
abbrev cX2_init : ByteArray := prog_4_method_1_code
def yX2_init : MethodName := ⟨RX2, "<init>", "(III)V"⟩
abbrev cX11_init : ByteArray := prog_1_method_1_code
def yX11_init : MethodName := ⟨RX11, "<init>", "()V"⟩
abbrev cX15_init : ByteArray := prog_14_method_1_code
def yX15_init : MethodName := ⟨RX15, "<init>", "()V"⟩
abbrev cX15_isCubic : ByteArray := prog_14_method_18_code
def yX15_isCubic : MethodName := ⟨RX15, "isCubic", "(I)Z"⟩
abbrev cX15_isPoint : ByteArray := prog_14_method_35_code
def yX15_isPoint : MethodName := ⟨RX15, "isPoint", "(I)Z"⟩
abbrev cX15_isRest : ByteArray := prog_14_method_62_code
def yX15_isRest : MethodName := ⟨RX15, "isRest", "(IIZ)Z"⟩
abbrev cX15_rest : ByteArray := prog_14_method_21_code
def yX15_rest : MethodName := ⟨RX15, "rest", "(II)I"⟩
abbrev cX15_turned : ByteArray := prog_14_method_23_code
def yX15_turned : MethodName := ⟨RX15, "turned", "(I)I"⟩
abbrev cX15_about : ByteArray := prog_14_method_24_code
def yX15_about : MethodName := ⟨RX15, "about", "(II)J"⟩
abbrev cX15_far : ByteArray := prog_14_method_36_code
def yX15_far : MethodName := ⟨RX15, "far", "(I)I"⟩
abbrev cX15_point : ByteArray := prog_14_method_37_code
def yX15_point : MethodName := ⟨RX15, "point", "(III)I"⟩
abbrev cX15_add : ByteArray := prog_14_method_40_code
def yX15_add : MethodName := ⟨RX15, "add", "(II)I"⟩
abbrev cX15_mirror : ByteArray := prog_14_method_41_code
def yX15_mirror : MethodName := ⟨RX15, "mirror", "(I)I"⟩
abbrev cX15_times : ByteArray := prog_14_method_42_code
def yX15_times : MethodName := ⟨RX15, "times", "(II)I"⟩
abbrev cX15_order : ByteArray := prog_14_method_44_code
def yX15_order : MethodName := ⟨RX15, "order", "(I)I"⟩
abbrev cX15_told : ByteArray := prog_14_method_45_code
def yX15_told : MethodName := ⟨RX15, "told", "(II)I"⟩
abbrev cX15_print : ByteArray := prog_14_method_48_code
def yX15_print : MethodName := ⟨RX15, "print", "(II)I"⟩
abbrev cX15_back : ByteArray := prog_14_method_55_code
def yX15_back : MethodName := ⟨RX15, "back", "(I)I"⟩
abbrev cX15_backAt : ByteArray := prog_14_method_56_code
def yX15_backAt : MethodName := ⟨RX15, "backAt", "(II)I"⟩
abbrev cX15_search : ByteArray := prog_14_method_59_code
def yX15_search : MethodName := ⟨RX15, "search", "(II)I"⟩
abbrev cX15_count : ByteArray := prog_14_method_63_code
def yX15_count : MethodName := ⟨RX15, "count", "(I)I"⟩
abbrev cX15_over : ByteArray := prog_14_method_64_code
def yX15_over : MethodName := ⟨RX15, "over", "(II)J"⟩
abbrev cX15_list : ByteArray := prog_14_method_67_code
def yX15_list : MethodName := ⟨RX15, "list", "(II)I"⟩
abbrev cX15_group : ByteArray := prog_14_method_72_code
def yX15_group : MethodName := ⟨RX15, "group", "(II)I"⟩
abbrev cX15_pair : ByteArray := prog_14_method_76_code
def yX15_pair : MethodName := ⟨RX15, "pair", "(III)I"⟩
abbrev cX15_polynomial : ByteArray := prog_14_method_84_code
def yX15_polynomial : MethodName := ⟨RX15, "polynomial", "(II)I"⟩
abbrev cX15_led : ByteArray := prog_14_method_91_code
def yX15_led : MethodName := ⟨RX15, "led", "(I)I"⟩
abbrev cX15_through : ByteArray := prog_14_method_92_code
def yX15_through : MethodName := ⟨RX15, "through", "(II)I"⟩
abbrev cX15_found : ByteArray := prog_14_method_60_code
def yX15_found : MethodName := ⟨RX15, "found", "(II)J"⟩
abbrev cX15_coefficient : ByteArray := prog_14_method_86_code
def yX15_coefficient : MethodName := ⟨RX15, "coefficient", "(I)I"⟩
abbrev cX15_root : ByteArray := prog_14_method_87_code
def yX15_root : MethodName := ⟨RX15, "root", "(I)I"⟩
abbrev cX15_octet : ByteArray := prog_14_method_49_code
def yX15_octet : MethodName := ⟨RX15, "octet", "(I)I"⟩
abbrev cX15_counted : ByteArray := prog_14_method_50_code
def yX15_counted : MethodName := ⟨RX15, "counted", "(I)I"⟩
end
section
def wU : List Cond := lw_tbl.filter goodWord
theorem wU_in {w : Cond} (h : w ∈ lw_tbl) (hg : goodWord w = true) : w ∈ wU := List.mem_filter.mpr ⟨h, hg⟩
theorem wU_sub {w : Cond} (h : w ∈ wU) : w ∈ lw_tbl := (List.mem_filter.mp h).1
theorem wU_good {w : Cond} (h : w ∈ wU) : goodWord w = true := (List.mem_filter.mp h).2
theorem wU_0 {w : Cond} (i : Nat) (h : (k2_sels lw_privs)[i]? = some w) (hg : goodWord w = true) : w ∈ wU := wU_in (List.mem_append_left _ (List.mem_of_getElem? h)) hg
theorem wU_1 {w : Cond} (i : Nat) (h : tables_1_1[i]? = some w) (hg : goodWord w = true) : w ∈ wU := wU_in (List.mem_append_right _ (show w ∈ tables_1 from List.mem_append_left _ (List.mem_of_getElem? h))) hg
theorem wU_2 {w : Cond} (i : Nat) (h : tables_1_2[i]? = some w) (hg : goodWord w = true) : w ∈ wU := wU_in (List.mem_append_right _ (show w ∈ tables_1 from List.mem_append_right _ (List.mem_append_left _ (List.mem_of_getElem? h)))) hg
theorem wU_3 {w : Cond} (i : Nat) (h : tables_1_3[i]? = some w) (hg : goodWord w = true) : w ∈ wU := wU_in (List.mem_append_right _ (show w ∈ tables_1 from List.mem_append_right _ (List.mem_append_right _ (List.mem_append_left _ (List.mem_of_getElem? h))))) hg
theorem wU_4 {w : Cond} (i : Nat) (h : tables_1_4[i]? = some w) (hg : goodWord w = true) : w ∈ wU := wU_in (List.mem_append_right _ (show w ∈ tables_1 from List.mem_append_right _ (List.mem_append_right _ (List.mem_append_right _ (List.mem_append_left _ (List.mem_of_getElem? h)))))) hg
theorem wU_5 {w : Cond} (i : Nat) (h : tables_1_5[i]? = some w) (hg : goodWord w = true) : w ∈ wU := wU_in (List.mem_append_right _ (show w ∈ tables_1 from List.mem_append_right _ (List.mem_append_right _ (List.mem_append_right _ (List.mem_append_right _ (List.mem_append_left _ (List.mem_of_getElem? h))))))) hg
theorem wU_6 {w : Cond} (i : Nat) (h : tables_1_6[i]? = some w) (hg : goodWord w = true) : w ∈ wU := wU_in (List.mem_append_right _ (show w ∈ tables_1 from List.mem_append_right _ (List.mem_append_right _ (List.mem_append_right _ (List.mem_append_right _ (List.mem_append_right _ (List.mem_append_left _ (List.mem_of_getElem? h)))))))) hg
theorem wU_7 {w : Cond} (i : Nat) (h : tables_1_7[i]? = some w) (hg : goodWord w = true) : w ∈ wU := wU_in (List.mem_append_right _ (show w ∈ tables_1 from List.mem_append_right _ (List.mem_append_right _ (List.mem_append_right _ (List.mem_append_right _ (List.mem_append_right _ (List.mem_append_right _ (List.mem_append_left _ (List.mem_of_getElem? h))))))))) hg
theorem wU_8 {w : Cond} (i : Nat) (h : tables_1_8[i]? = some w) (hg : goodWord w = true) : w ∈ wU := wU_in (List.mem_append_right _ (show w ∈ tables_1 from List.mem_append_right _ (List.mem_append_right _ (List.mem_append_right _ (List.mem_append_right _ (List.mem_append_right _ (List.mem_append_right _ (List.mem_append_right _ (List.mem_append_left _ (List.mem_of_getElem? h)))))))))) hg
theorem wU_9 {w : Cond} (i : Nat) (h : tables_1_9[i]? = some w) (hg : goodWord w = true) : w ∈ wU := wU_in (List.mem_append_right _ (show w ∈ tables_1 from List.mem_append_right _ (List.mem_append_right _ (List.mem_append_right _ (List.mem_append_right _ (List.mem_append_right _ (List.mem_append_right _ (List.mem_append_right _ (List.mem_append_right _ (List.mem_append_left _ (List.mem_of_getElem? h))))))))))) hg
theorem wU_10 {w : Cond} (i : Nat) (h : tables_1_10[i]? = some w) (hg : goodWord w = true) : w ∈ wU := wU_in (List.mem_append_right _ (show w ∈ tables_1 from List.mem_append_right _ (List.mem_append_right _ (List.mem_append_right _ (List.mem_append_right _ (List.mem_append_right _ (List.mem_append_right _ (List.mem_append_right _ (List.mem_append_right _ (List.mem_append_right _ (List.mem_append_left _ (List.mem_of_getElem? h)))))))))))) hg
theorem wU_11 {w : Cond} (i : Nat) (h : tables_1_11[i]? = some w) (hg : goodWord w = true) : w ∈ wU := wU_in (List.mem_append_right _ (show w ∈ tables_1 from List.mem_append_right _ (List.mem_append_right _ (List.mem_append_right _ (List.mem_append_right _ (List.mem_append_right _ (List.mem_append_right _ (List.mem_append_right _ (List.mem_append_right _ (List.mem_append_right _ (List.mem_append_right _ (List.mem_of_getElem? h)))))))))))) hg
theorem gU {pre : List Cond} (h : ∀ w ∈ pre, w ∈ wU) : GoodIn wU (pre ++ wU) := fun w hw => have hm : w ∈ wU := (List.mem_append.mp hw).elim (h w) id
  ⟨hm, good_of_word (wU_good hm)⟩
theorem gC {cd : Cond} (h : cd ∈ wU) : GoodIn wU (cd :: wU) := gU (pre := [cd]) (fun w hw => by rw [List.mem_singleton.mp hw]; exact h)
theorem gV {own C : String} {idx : Nat} {y : MethodName} {cd : Cond} (h1 : Cond.methodLink own idx y ∈ wU) (h2 : Cond.instanceMethod y ∈ wU) (h3 : Cond.selects C y y ∈ wU) (h4 : Cond.initialized C ∈ wU) (h5 : cd ∈ wU) : GoodIn wU (wsV own idx C y (cd :: wU)) :=
  gU (pre := [.methodLink own idx y, .instanceMethod y, .selects C y y, .initialized C, cd]) (List.forall_mem_cons.mpr ⟨h1, List.forall_mem_cons.mpr ⟨h2, List.forall_mem_cons.mpr ⟨h3, List.forall_mem_cons.mpr ⟨h4, List.forall_mem_cons.mpr ⟨h5, fun _ h => absurd h List.not_mem_nil⟩⟩⟩⟩⟩)
theorem gS {own : String} {idx : Nat} {y : MethodName} {cd : Cond} (h1 : Cond.methodLink own idx y ∈ wU) (h2 : Cond.static y ∈ wU) (h4 : Cond.initialized y.cls ∈ wU) (h5 : cd ∈ wU) : GoodIn wU (va_wsS own idx y (cd :: wU)) :=
  gU (pre := [.methodLink own idx y, .static y, .initialized y.cls, cd]) (List.forall_mem_cons.mpr ⟨h1, List.forall_mem_cons.mpr ⟨h2, List.forall_mem_cons.mpr ⟨h4, List.forall_mem_cons.mpr ⟨h5, fun _ h => absurd h List.not_mem_nil⟩⟩⟩⟩)
theorem u0 : (Cond.methodLink RX0 1 objectInit) ∈ wU := wU_1 58 rfl rfl
theorem u1 : (Cond.instanceMethod objectInit) ∈ wU := wU_1 42 rfl rfl
theorem u2 : (Cond.code objectInit ⟨#[0xb1]⟩ 1 none) ∈ wU := wU_1 43 rfl rfl
theorem u3 : (Cond.arrayClass Jvm.ClassFile.FieldType.int) ∈ wU := wU_1 73 rfl rfl
theorem u4 : (Cond.fieldLink RX0 7 "CubicBench$Big" "parts" "[I") ∈ wU := wU_1 59 rfl rfl
theorem u5 : (Cond.methodLink RX9 1 objectInit) ∈ wU := wU_1 52 rfl rfl
theorem u6 : (Cond.classLink RX9 7 RX0) ∈ wU := wU_1 53 rfl rfl
theorem u7 : (Cond.instantiable RX0 3) ∈ wU := wU_1 54 rfl rfl
theorem u8 : (Cond.initialized RX0) ∈ wU := wU_1 3 rfl rfl
theorem u9 : (Cond.instanceMethod yX0_init) ∈ wU := wU_1 56 rfl rfl
theorem u10 : (Cond.code yX0_init cX0_init 2 none) ∈ wU := wU_1 57 rfl rfl
theorem u11 : (Cond.methodLink RX9 9 yX0_init) ∈ wU := wU_1 55 rfl rfl
theorem u12 : (Cond.fieldLink RX9 12 "CubicBench$Spot" "\x72" "LCubicBench$Big;") ∈ wU := wU_1 84 rfl rfl
theorem u13 : (Cond.fieldLink RX9 18 "CubicBench$Spot" "t" "LCubicBench$Big;") ∈ wU := wU_1 88 rfl rfl
theorem u14 : (Cond.fieldLink RX9 21 "CubicBench$Spot" "e" "LCubicBench$Big;") ∈ wU := wU_1 93 rfl rfl
theorem u15 : (Cond.methodLink RX1 1 objectInit) ∈ wU := wU_2 34 rfl rfl
theorem u16 : (Cond.arrayClass Jvm.ClassFile.FieldType.boolean) ∈ wU := wU_2 54 rfl rfl
theorem u17 : (Cond.fieldLink RX1 9 "CubicBench$Chain" "squared" "[Z") ∈ wU := wU_2 35 rfl rfl
theorem u18 : (Cond.fieldLink RX1 13 "CubicBench$Chain" "kinds" "[I") ∈ wU := wU_2 36 rfl rfl
theorem u19 : (Cond.arrayClass Jvm.ClassFile.FieldType.long) ∈ wU := wU_1 182 rfl rfl
theorem u20 : (Cond.fieldLink RX1 17 "CubicBench$Chain" "places" "[J") ∈ wU := wU_2 37 rfl rfl
theorem u21 : (Cond.fieldLink RX1 21 "CubicBench$Chain" "slopes" "[J") ∈ wU := wU_2 38 rfl rfl
theorem u22 : (Cond.fieldLink RX1 24 "CubicBench$Chain" "ends" "[J") ∈ wU := wU_2 39 rfl rfl
theorem u23 : (Cond.methodLink RX5 3 objectInit) ∈ wU := wU_2 109 rfl rfl
theorem u24 : (Cond.methodLink RX6 3 objectInit) ∈ wU := wU_1 228 rfl rfl
theorem u25 : (Cond.fieldLink RX6 9 "CubicBench$Listing" "roots" "[I") ∈ wU := wU_1 229 rfl rfl
theorem u26 : (Cond.fieldLink RX6 15 "CubicBench$Listing" "codes" "[J") ∈ wU := wU_1 230 rfl rfl
theorem u27 : (Cond.arrayClass Jvm.ClassFile.FieldType.byte) ∈ wU := wU_1 72 rfl rfl
theorem u28 : (Cond.fieldLink RX6 19 "CubicBench$Listing" "reached" "[B") ∈ wU := wU_1 231 rfl rfl
theorem u29 : (Cond.methodLink RX7 5 objectInit) ∈ wU := wU_1 177 rfl rfl
theorem u30 : (Cond.fieldLink RX7 11 "CubicBench$Rests" "steps" "[J") ∈ wU := wU_1 178 rfl rfl
theorem u31 : (Cond.methodLink RX10 1 objectInit) ∈ wU := wU_1 188 rfl rfl
theorem u32 : (Cond.fieldLink RX10 9 "CubicBench$Torsion" "xs" "[J") ∈ wU := wU_1 189 rfl rfl
theorem u33 : (Cond.fieldLink RX10 13 "CubicBench$Torsion" "ys" "[J") ∈ wU := wU_1 190 rfl rfl
theorem u34 : (Cond.methodLink RX3 3 objectInit) ∈ wU := wU_2 60 rfl rfl
theorem u35 : (Cond.classLink RX3 11 "[[J") ∈ wU := wU_2 61 rfl rfl
theorem u36 : (Cond.fieldLink RX3 13 "CubicBench$Division" "rows" "[[J") ∈ wU := wU_2 63 rfl rfl
theorem u37 : (Cond.fieldLink RX3 16 "CubicBench$Division" "cubicSquare" "[J") ∈ wU := wU_2 64 rfl rfl
theorem u38 : (Cond.fieldLink RX3 20 "CubicBench$Division" "left" "[J") ∈ wU := wU_2 65 rfl rfl
theorem u39 : (Cond.fieldLink RX3 23 "CubicBench$Division" "right" "[J") ∈ wU := wU_2 66 rfl rfl
theorem u40 : (Cond.fieldLink RX3 26 "CubicBench$Division" "spare" "[J") ∈ wU := wU_2 67 rfl rfl
theorem u41 : (Cond.fieldLink RX3 29 "CubicBench$Division" "roots" "[I") ∈ wU := wU_2 68 rfl rfl
theorem u42 : (Cond.fieldLink RX3 33 "CubicBench$Division" "degree" "I") ∈ wU := wU_2 75 rfl rfl
theorem u43 : (Cond.methodLink RX8 1 objectInit) ∈ wU := wU_1 208 rfl rfl
theorem u44 : (Cond.fieldLink RX8 9 "CubicBench$Searching" "rs" "[I") ∈ wU := wU_1 209 rfl rfl
theorem u45 : (Cond.fieldLink RX8 13 "CubicBench$Searching" "ss" "[I") ∈ wU := wU_1 210 rfl rfl
theorem u46 : (Cond.fieldLink RX8 16 "CubicBench$Searching" "ts" "[J") ∈ wU := wU_1 211 rfl rfl
theorem u47 : (Cond.methodLink RX4 3 objectInit) ∈ wU := wU_1 114 rfl rfl
theorem u48 : (Cond.classLink RX4 9 RX9) ∈ wU := wU_1 115 rfl rfl
theorem u49 : (Cond.instantiable RX9 6) ∈ wU := wU_1 48 rfl rfl
theorem u50 : (Cond.initialized RX9) ∈ wU := wU_1 2 rfl rfl
theorem u51 : (Cond.instanceMethod yX9_init) ∈ wU := wU_1 50 rfl rfl
theorem u52 : (Cond.code yX9_init cX9_init 2 none) ∈ wU := wU_1 51 rfl rfl
theorem u53 : (Cond.methodLink RX4 13 yX9_init) ∈ wU := wU_1 116 rfl rfl
theorem u54 : (Cond.fieldLink RX4 16 "CubicBench$Fractions" "result" "LCubicBench$Spot;") ∈ wU := wU_1 119 rfl rfl
theorem u55 : (Cond.fieldLink RX4 22 "CubicBench$Fractions" "next" "LCubicBench$Spot;") ∈ wU := wU_1 121 rfl rfl
theorem u56 : (Cond.fieldLink RX4 25 "CubicBench$Fractions" "base" "LCubicBench$Spot;") ∈ wU := wU_1 122 rfl rfl
theorem u57 : (Cond.classLink RX4 11 RX0) ∈ wU := wU_1 117 rfl rfl
theorem u58 : (Cond.methodLink RX4 28 yX0_init) ∈ wU := wU_1 118 rfl rfl
theorem u59 : (Cond.fieldLink RX4 29 "CubicBench$Fractions" "firstSquare" "LCubicBench$Big;") ∈ wU := wU_1 123 rfl rfl
theorem u60 : (Cond.fieldLink RX4 33 "CubicBench$Fractions" "secondSquare" "LCubicBench$Big;") ∈ wU := wU_1 124 rfl rfl
theorem u61 : (Cond.fieldLink RX4 36 "CubicBench$Fractions" "newSquare" "LCubicBench$Big;") ∈ wU := wU_1 125 rfl rfl
theorem u62 : (Cond.fieldLink RX4 39 "CubicBench$Fractions" "rise" "LCubicBench$Big;") ∈ wU := wU_1 126 rfl rfl
theorem u63 : (Cond.fieldLink RX4 42 "CubicBench$Fractions" "run" "LCubicBench$Big;") ∈ wU := wU_1 127 rfl rfl
theorem u64 : (Cond.fieldLink RX4 45 "CubicBench$Fractions" "cut" "LCubicBench$Big;") ∈ wU := wU_1 128 rfl rfl
theorem u65 : (Cond.fieldLink RX4 48 "CubicBench$Fractions" "top" "LCubicBench$Big;") ∈ wU := wU_1 129 rfl rfl
theorem u66 : (Cond.fieldLink RX4 51 "CubicBench$Fractions" "bottom" "LCubicBench$Big;") ∈ wU := wU_1 130 rfl rfl
theorem u67 : (Cond.fieldLink RX4 54 "CubicBench$Fractions" "common" "LCubicBench$Big;") ∈ wU := wU_1 131 rfl rfl
theorem u68 : (Cond.fieldLink RX4 57 "CubicBench$Fractions" "one" "LCubicBench$Big;") ∈ wU := wU_1 132 rfl rfl
theorem u69 : (Cond.fieldLink RX4 60 "CubicBench$Fractions" "two" "LCubicBench$Big;") ∈ wU := wU_1 133 rfl rfl
theorem u70 : (Cond.fieldLink RX4 63 "CubicBench$Fractions" "three" "LCubicBench$Big;") ∈ wU := wU_1 134 rfl rfl
theorem u71 : (Cond.fieldLink RX4 66 "CubicBench$Fractions" "four" "LCubicBench$Big;") ∈ wU := wU_1 135 rfl rfl
theorem u72 : (Cond.fieldLink RX4 69 "CubicBench$Fractions" "factor" "LCubicBench$Big;") ∈ wU := wU_1 136 rfl rfl
theorem u73 : (Cond.methodLink RX13 3 objectInit) ∈ wU := wU_8 7 rfl rfl
theorem u74 : (Cond.fieldLink RX13 9 "CubicBenchModel$Num" "d" "[I") ∈ wU := wU_8 8 rfl rfl
theorem u75 : (Cond.methodLink RX12 1 objectInit) ∈ wU := wU_8 33 rfl rfl
theorem u76 : (Cond.classLink RX12 7 RX13) ∈ wU := wU_8 34 rfl rfl
theorem u77 : (Cond.instantiable RX13 3) ∈ wU := wU_8 3 rfl rfl
theorem u78 : (Cond.initialized RX13) ∈ wU := wU_1 13 rfl rfl
theorem u79 : (Cond.instanceMethod yX13_init) ∈ wU := wU_8 5 rfl rfl
theorem u80 : (Cond.code yX13_init cX13_init 1 none) ∈ wU := wU_8 6 rfl rfl
theorem u81 : (Cond.fieldLink RX12 10 "CubicBenchModel$Frac" "u" "LCubicBenchModel$Num;") ∈ wU := wU_8 36 rfl rfl
theorem u82 : (Cond.fieldLink RX12 16 "CubicBenchModel$Frac" "l" "LCubicBenchModel$Num;") ∈ wU := wU_8 38 rfl rfl
theorem u83 : (Cond.methodLink RX14 1 objectInit) ∈ wU := wU_8 27 rfl rfl
theorem u84 : (Cond.classLink RX14 7 RX12) ∈ wU := wU_8 28 rfl rfl
theorem u85 : (Cond.instantiable RX12 2) ∈ wU := wU_8 29 rfl rfl
theorem u86 : (Cond.initialized RX12) ∈ wU := wU_1 15 rfl rfl
theorem u87 : (Cond.instanceMethod yX12_init) ∈ wU := wU_8 31 rfl rfl
theorem u88 : (Cond.code yX12_init cX12_init 1 none) ∈ wU := wU_8 32 rfl rfl
theorem u89 : (Cond.fieldLink RX14 10 "CubicBenchModel$Pt" "x" "LCubicBenchModel$Frac;") ∈ wU := wU_8 47 rfl rfl
theorem u90 : (Cond.fieldLink RX14 16 "CubicBenchModel$Pt" "y" "LCubicBenchModel$Frac;") ∈ wU := wU_8 49 rfl rfl
theorem u91 : (Cond.methodLink RX2 1 objectInit) ∈ wU := wU_3 78 rfl rfl
theorem u92 : (Cond.fieldLink RX2 7 "CubicBench$Curve" "a" "I") ∈ wU := wU_3 79 rfl rfl
theorem u93 : (Cond.fieldLink RX2 13 "CubicBench$Curve" "b" "I") ∈ wU := wU_3 89 rfl rfl
theorem u94 : (Cond.fieldLink RX2 16 "CubicBench$Curve" "p" "I") ∈ wU := wU_3 96 rfl rfl
theorem u95 : (Cond.methodLink RX11 1 objectInit) ∈ wU := wU_1 41 rfl rfl
theorem u96 : (Cond.classLink RX11 9 RX2) ∈ wU := wU_1 44 rfl rfl
theorem u97 : (Cond.fieldLink RX11 11 "CubicBench" "curves" "[LCubicBench$Curve;") ∈ wU := wU_2 131 rfl rfl
theorem u98 : (Cond.classLink RX11 15 RX9) ∈ wU := wU_1 46 rfl rfl
theorem u99 : (Cond.fieldLink RX11 17 "CubicBench" "spots" "[LCubicBench$Spot;") ∈ wU := wU_2 133 rfl rfl
theorem u100 : (Cond.fieldLink RX11 21 "CubicBench" "page" "[B") ∈ wU := wU_2 135 rfl rfl
theorem u101 : (Cond.methodLink RX11 27 yX9_init) ∈ wU := wU_1 49 rfl rfl
theorem u102 : (Cond.fieldLink RX11 30 "CubicBench" "asked" "LCubicBench$Spot;") ∈ wU := wU_2 137 rfl rfl
theorem u103 : (Cond.classLink RX11 34 RX4) ∈ wU := wU_1 109 rfl rfl
theorem u104 : (Cond.instantiable RX4 17) ∈ wU := wU_1 110 rfl rfl
theorem u105 : (Cond.initialized RX4) ∈ wU := wU_1 4 rfl rfl
theorem u106 : (Cond.instanceMethod yX4_init) ∈ wU := wU_1 112 rfl rfl
theorem u107 : (Cond.code yX4_init cX4_init 1 none) ∈ wU := wU_1 113 rfl rfl
theorem u108 : (Cond.methodLink RX11 36 yX4_init) ∈ wU := wU_1 111 rfl rfl
theorem u109 : (Cond.fieldLink RX11 37 "CubicBench" "fractions" "LCubicBench$Fractions;") ∈ wU := wU_2 138 rfl rfl
theorem u110 : (Cond.classLink RX11 41 RX7) ∈ wU := wU_1 172 rfl rfl
theorem u111 : (Cond.instantiable RX7 1) ∈ wU := wU_1 173 rfl rfl
theorem u112 : (Cond.initialized RX7) ∈ wU := wU_1 5 rfl rfl
theorem u113 : (Cond.instanceMethod yX7_init) ∈ wU := wU_1 175 rfl rfl
theorem u114 : (Cond.code yX7_init cX7_init 1 none) ∈ wU := wU_1 176 rfl rfl
theorem u115 : (Cond.methodLink RX11 43 yX7_init) ∈ wU := wU_1 174 rfl rfl
theorem u116 : (Cond.fieldLink RX11 44 "CubicBench" "rests" "LCubicBench$Rests;") ∈ wU := wU_2 139 rfl rfl
theorem u117 : (Cond.classLink RX11 48 RX10) ∈ wU := wU_1 183 rfl rfl
theorem u118 : (Cond.instantiable RX10 4) ∈ wU := wU_1 184 rfl rfl
theorem u119 : (Cond.initialized RX10) ∈ wU := wU_1 6 rfl rfl
theorem u120 : (Cond.instanceMethod yX10_init) ∈ wU := wU_1 186 rfl rfl
theorem u121 : (Cond.code yX10_init cX10_init 1 none) ∈ wU := wU_1 187 rfl rfl
theorem u122 : (Cond.methodLink RX11 50 yX10_init) ∈ wU := wU_1 185 rfl rfl
theorem u123 : (Cond.fieldLink RX11 51 "CubicBench" "torsion" "LCubicBench$Torsion;") ∈ wU := wU_2 140 rfl rfl
theorem u124 : (Cond.classLink RX11 55 RX8) ∈ wU := wU_1 203 rfl rfl
theorem u125 : (Cond.instantiable RX8 4) ∈ wU := wU_1 204 rfl rfl
theorem u126 : (Cond.initialized RX8) ∈ wU := wU_1 7 rfl rfl
theorem u127 : (Cond.instanceMethod yX8_init) ∈ wU := wU_1 206 rfl rfl
theorem u128 : (Cond.code yX8_init cX8_init 1 none) ∈ wU := wU_1 207 rfl rfl
theorem u129 : (Cond.methodLink RX11 57 yX8_init) ∈ wU := wU_1 205 rfl rfl
theorem u130 : (Cond.fieldLink RX11 58 "CubicBench" "searching" "LCubicBench$Searching;") ∈ wU := wU_2 141 rfl rfl
theorem u131 : (Cond.classLink RX11 62 RX6) ∈ wU := wU_1 223 rfl rfl
theorem u132 : (Cond.instantiable RX6 11) ∈ wU := wU_1 224 rfl rfl
theorem u133 : (Cond.initialized RX6) ∈ wU := wU_1 8 rfl rfl
theorem u134 : (Cond.instanceMethod yX6_init) ∈ wU := wU_1 226 rfl rfl
theorem u135 : (Cond.code yX6_init cX6_init 1 none) ∈ wU := wU_1 227 rfl rfl
theorem u136 : (Cond.methodLink RX11 64 yX6_init) ∈ wU := wU_1 225 rfl rfl
theorem u137 : (Cond.fieldLink RX11 65 "CubicBench" "listing" "LCubicBench$Listing;") ∈ wU := wU_2 142 rfl rfl
theorem u138 : (Cond.classLink RX11 69 RX1) ∈ wU := wU_2 29 rfl rfl
theorem u139 : (Cond.instantiable RX1 6) ∈ wU := wU_2 30 rfl rfl
theorem u140 : (Cond.initialized RX1) ∈ wU := wU_1 9 rfl rfl
theorem u141 : (Cond.instanceMethod yX1_init) ∈ wU := wU_2 32 rfl rfl
theorem u142 : (Cond.code yX1_init cX1_init 1 none) ∈ wU := wU_2 33 rfl rfl
theorem u143 : (Cond.methodLink RX11 71 yX1_init) ∈ wU := wU_2 31 rfl rfl
theorem u144 : (Cond.fieldLink RX11 72 "CubicBench" "firstChain" "LCubicBench$Chain;") ∈ wU := wU_2 143 rfl rfl
theorem u145 : (Cond.fieldLink RX11 76 "CubicBench" "secondChain" "LCubicBench$Chain;") ∈ wU := wU_2 144 rfl rfl
theorem u146 : (Cond.classLink RX11 79 RX3) ∈ wU := wU_2 55 rfl rfl
theorem u147 : (Cond.instantiable RX3 13) ∈ wU := wU_2 56 rfl rfl
theorem u148 : (Cond.initialized RX3) ∈ wU := wU_1 10 rfl rfl
theorem u149 : (Cond.instanceMethod yX3_init) ∈ wU := wU_2 58 rfl rfl
theorem u150 : (Cond.code yX3_init cX3_init 1 none) ∈ wU := wU_2 59 rfl rfl
theorem u151 : (Cond.methodLink RX11 81 yX3_init) ∈ wU := wU_2 57 rfl rfl
theorem u152 : (Cond.fieldLink RX11 82 "CubicBench" "division" "LCubicBench$Division;") ∈ wU := wU_2 145 rfl rfl
theorem u153 : (Cond.classLink RX11 86 RX5) ∈ wU := wU_2 104 rfl rfl
theorem u154 : (Cond.instantiable RX5 5) ∈ wU := wU_2 105 rfl rfl
theorem u155 : (Cond.initialized RX5) ∈ wU := wU_1 11 rfl rfl
theorem u156 : (Cond.instanceMethod yX5_init) ∈ wU := wU_2 107 rfl rfl
theorem u157 : (Cond.code yX5_init cX5_init 1 none) ∈ wU := wU_2 108 rfl rfl
theorem u158 : (Cond.methodLink RX11 88 yX5_init) ∈ wU := wU_2 106 rfl rfl
theorem u159 : (Cond.fieldLink RX11 89 "CubicBench" "lead" "LCubicBench$Lead;") ∈ wU := wU_2 146 rfl rfl
theorem u160 : (Cond.methodLink RX15 1 objectInit) ∈ wU := wU_8 1 rfl rfl
theorem u161 : (Cond.classLink RX15 7 RX13) ∈ wU := wU_8 2 rfl rfl
theorem u162 : (Cond.fieldLink RX15 10 "CubicBenchModel" "n0" "LCubicBenchModel$Num;") ∈ wU := wU_8 71 rfl rfl
theorem u163 : (Cond.fieldLink RX15 16 "CubicBenchModel" "n1" "LCubicBenchModel$Num;") ∈ wU := wU_8 72 rfl rfl
theorem u164 : (Cond.fieldLink RX15 19 "CubicBenchModel" "g0" "LCubicBenchModel$Num;") ∈ wU := wU_8 73 rfl rfl
theorem u165 : (Cond.fieldLink RX15 22 "CubicBenchModel" "g1" "LCubicBenchModel$Num;") ∈ wU := wU_8 74 rfl rfl
theorem u166 : (Cond.fieldLink RX15 25 "CubicBenchModel" "g2" "LCubicBenchModel$Num;") ∈ wU := wU_8 75 rfl rfl
theorem u167 : (Cond.fieldLink RX15 28 "CubicBenchModel" "g3" "LCubicBenchModel$Num;") ∈ wU := wU_8 76 rfl rfl
theorem u168 : (Cond.fieldLink RX15 31 "CubicBenchModel" "ten" "LCubicBenchModel$Num;") ∈ wU := wU_8 77 rfl rfl
theorem u169 : (Cond.fieldLink RX15 34 "CubicBenchModel" "ca" "[J") ∈ wU := wU_8 78 rfl rfl
theorem u170 : (Cond.fieldLink RX15 38 "CubicBenchModel" "cb" "[J") ∈ wU := wU_8 79 rfl rfl
theorem u171 : (Cond.fieldLink RX15 41 "CubicBenchModel" "cp" "[I") ∈ wU := wU_8 80 rfl rfl
theorem u172 : (Cond.fieldLink RX15 45 "CubicBenchModel" "cMany" "[I") ∈ wU := wU_8 81 rfl rfl
theorem u173 : (Cond.fieldLink RX15 48 "CubicBenchModel" "squares" "[Z") ∈ wU := wU_8 83 rfl rfl
theorem u174 : (Cond.fieldLink RX15 52 "CubicBenchModel" "pc" "[I") ∈ wU := wU_8 85 rfl rfl
theorem u175 : (Cond.fieldLink RX15 55 "CubicBenchModel" "pFar" "[Z") ∈ wU := wU_8 86 rfl rfl
theorem u176 : (Cond.fieldLink RX15 58 "CubicBenchModel" "px" "[I") ∈ wU := wU_8 87 rfl rfl
theorem u177 : (Cond.fieldLink RX15 61 "CubicBenchModel" "py" "[I") ∈ wU := wU_8 88 rfl rfl
theorem u178 : (Cond.constant RX15 64 (38400)) ∈ wU := wU_8 21 rfl rfl
theorem u179 : (Cond.fieldLink RX15 65 "CubicBenchModel" "digits" "[I") ∈ wU := wU_8 89 rfl rfl
theorem u180 : (Cond.fieldLink RX15 68 "CubicBenchModel" "digitMany" "[I") ∈ wU := wU_8 90 rfl rfl
theorem u181 : (Cond.fieldLink RX15 71 "CubicBenchModel" "digitLess" "[Z") ∈ wU := wU_8 91 rfl rfl
theorem u182 : (Cond.classLink RX15 74 RX14) ∈ wU := wU_8 22 rfl rfl
theorem u183 : (Cond.instantiable RX14 5) ∈ wU := wU_8 23 rfl rfl
theorem u184 : (Cond.initialized RX14) ∈ wU := wU_1 14 rfl rfl
theorem u185 : (Cond.instanceMethod yX14_init) ∈ wU := wU_8 25 rfl rfl
theorem u186 : (Cond.code yX14_init cX14_init 1 none) ∈ wU := wU_8 26 rfl rfl
theorem u187 : (Cond.fieldLink RX15 77 "CubicBenchModel" "same" "LCubicBenchModel$Pt;") ∈ wU := wU_8 93 rfl rfl
theorem u188 : (Cond.classLink RX15 81 RX12) ∈ wU := wU_8 66 rfl rfl
theorem u189 : (Cond.fieldLink RX15 84 "CubicBenchModel" "s0" "LCubicBenchModel$Frac;") ∈ wU := wU_8 94 rfl rfl
theorem u190 : (Cond.fieldLink RX15 88 "CubicBenchModel" "s1" "LCubicBenchModel$Frac;") ∈ wU := wU_8 95 rfl rfl
theorem u191 : (Cond.fieldLink RX15 91 "CubicBenchModel" "s2" "LCubicBenchModel$Frac;") ∈ wU := wU_8 96 rfl rfl
theorem u192 : (Cond.fieldLink RX15 94 "CubicBenchModel" "s3" "LCubicBenchModel$Frac;") ∈ wU := wU_8 97 rfl rfl
theorem u193 : (Cond.fieldLink RX15 97 "CubicBenchModel" "sum" "LCubicBenchModel$Pt;") ∈ wU := wU_8 98 rfl rfl
theorem u194 : (Cond.fieldLink RX15 100 "CubicBenchModel" "acc" "LCubicBenchModel$Pt;") ∈ wU := wU_8 99 rfl rfl
theorem u195 : (Cond.fieldLink RX15 103 "CubicBenchModel" "one" "LCubicBenchModel$Pt;") ∈ wU := wU_8 100 rfl rfl
theorem u196 : (Cond.fieldLink RX15 106 "CubicBenchModel" "wa" "LCubicBenchModel$Pt;") ∈ wU := wU_8 101 rfl rfl
theorem u197 : (Cond.fieldLink RX15 109 "CubicBenchModel" "wb" "LCubicBenchModel$Pt;") ∈ wU := wU_8 102 rfl rfl
theorem u198 : (Cond.fieldLink RX15 112 "CubicBenchModel" "page" "[B") ∈ wU := wU_8 103 rfl rfl
theorem u199 : (Cond.fieldLink RX15 116 "CubicBenchModel" "isBacked" "[Z") ∈ wU := wU_8 105 rfl rfl
theorem u200 : (Cond.fieldLink RX15 119 "CubicBenchModel" "backMany" "[I") ∈ wU := wU_8 106 rfl rfl
theorem u201 : (Cond.classLink RX15 122 "[I") ∈ wU := wU_8 68 rfl rfl
theorem u202 : (Cond.fieldLink RX15 123 "CubicBenchModel" "backX" "[[I") ∈ wU := wU_8 107 rfl rfl
theorem u203 : (Cond.fieldLink RX15 127 "CubicBenchModel" "backY" "[[I") ∈ wU := wU_8 108 rfl rfl
theorem u204 : (Cond.fieldLink RX15 130 "CubicBenchModel" "fr" "[I") ∈ wU := wU_8 109 rfl rfl
theorem u205 : (Cond.fieldLink RX15 133 "CubicBenchModel" "fs" "[I") ∈ wU := wU_8 110 rfl rfl
theorem u206 : (Cond.fieldLink RX15 136 "CubicBenchModel" "ft" "[J") ∈ wU := wU_8 111 rfl rfl
theorem u207 : (Cond.fieldLink RX15 139 "CubicBenchModel" "lx" "[I") ∈ wU := wU_8 113 rfl rfl
theorem u208 : (Cond.fieldLink RX15 142 "CubicBenchModel" "ly" "[I") ∈ wU := wU_8 114 rfl rfl
theorem u209 : (Cond.fieldLink RX15 145 "CubicBenchModel" "listedOf" "I") ∈ wU := wU_8 116 rfl rfl
theorem u210 : (Cond.fieldLink RX15 149 "CubicBenchModel" "isGrouped" "[Z") ∈ wU := wU_8 117 rfl rfl
theorem u211 : (Cond.fieldLink RX15 152 "CubicBenchModel" "groupN" "[I") ∈ wU := wU_8 118 rfl rfl
theorem u212 : (Cond.fieldLink RX15 155 "CubicBenchModel" "makerOne" "[I") ∈ wU := wU_8 119 rfl rfl
theorem u213 : (Cond.fieldLink RX15 158 "CubicBenchModel" "makerTwo" "[I") ∈ wU := wU_8 120 rfl rfl
theorem u214 : (Cond.fieldLink RX15 161 "CubicBenchModel" "isOf" "[Z") ∈ wU := wU_8 121 rfl rfl
theorem u215 : (Cond.fieldLink RX15 164 "CubicBenchModel" "lineSum" "LCubicBenchModel$Pt;") ∈ wU := wU_8 122 rfl rfl
theorem u216 : (Cond.fieldLink RX15 167 "CubicBenchModel" "run" "LCubicBenchModel$Pt;") ∈ wU := wU_8 123 rfl rfl
theorem u217 : (Cond.fieldLink RX15 170 "CubicBenchModel" "next" "LCubicBenchModel$Pt;") ∈ wU := wU_8 124 rfl rfl
theorem u218 : (Cond.fieldLink RX15 173 "CubicBenchModel" "pp" "LCubicBenchModel$Pt;") ∈ wU := wU_8 125 rfl rfl
theorem u219 : (Cond.fieldLink RX15 176 "CubicBenchModel" "pq" "LCubicBenchModel$Pt;") ∈ wU := wU_8 126 rfl rfl
theorem u220 : (Cond.fieldLink RX15 179 "CubicBenchModel" "ps" "LCubicBenchModel$Pt;") ∈ wU := wU_8 127 rfl rfl
theorem u221 : (Cond.fieldLink RX15 182 "CubicBenchModel" "pr" "LCubicBenchModel$Pt;") ∈ wU := wU_8 128 rfl rfl
theorem u222 : (Cond.fieldLink RX15 185 "CubicBenchModel" "pt" "LCubicBenchModel$Pt;") ∈ wU := wU_8 129 rfl rfl
theorem u223 : (Cond.fieldLink RX15 188 "CubicBenchModel" "poly" "[J") ∈ wU := wU_8 130 rfl rfl
theorem u224 : (Cond.fieldLink RX15 191 "CubicBenchModel" "pa" "[J") ∈ wU := wU_8 131 rfl rfl
theorem u225 : (Cond.fieldLink RX15 194 "CubicBenchModel" "pb" "[J") ∈ wU := wU_8 132 rfl rfl
theorem u226 : (Cond.fieldLink RX15 197 "CubicBenchModel" "pd" "[J") ∈ wU := wU_8 133 rfl rfl
theorem u227 : (Cond.fieldLink RX15 200 "CubicBenchModel" "cube" "[J") ∈ wU := wU_8 134 rfl rfl
theorem u228 : (Cond.fieldLink RX15 203 "CubicBenchModel" "work" "[J") ∈ wU := wU_8 137 rfl rfl
theorem u229 : (Cond.fieldLink RX15 206 "CubicBenchModel" "th" "LCubicBenchModel$Pt;") ∈ wU := wU_8 143 rfl rfl
theorem u230 : (Cond.fieldLink RX15 209 "CubicBenchModel" "thrown" "I") ∈ wU := wU_8 70 rfl rfl
theorem u231 : (Cond.fieldLink RX15 284 "CubicBenchModel" "cubics" "I") ∈ wU := wU_8 82 rfl rfl
theorem u232 : (Cond.fieldLink RX15 355 "CubicBenchModel" "points" "I") ∈ wU := wU_8 92 rfl rfl
theorem u233 : (Cond.methodLink RX15 308 yX15_isCubic) ∈ wU := wU_9 86 rfl rfl
theorem u234 : (Cond.instanceMethod yX15_isCubic) ∈ wU := wU_9 88 rfl rfl
theorem u235 : (Cond.selects RX15 yX15_isCubic yX15_isCubic) ∈ wU := wU_0 53 rfl rfl
theorem u236 : (Cond.initialized RX15) ∈ wU := wU_1 12 rfl rfl
theorem u237 : (Cond.code yX15_isCubic cX15_isCubic 2 (some .boolean)) ∈ wU := wU_9 89 rfl rfl
theorem u238 : (Cond.methodLink RX15 419 yX15_isPoint) ∈ wU := wU_9 176 rfl rfl
theorem u239 : (Cond.instanceMethod yX15_isPoint) ∈ wU := wU_9 178 rfl rfl
theorem u240 : (Cond.selects RX15 yX15_isPoint yX15_isPoint) ∈ wU := wU_0 67 rfl rfl
theorem u241 : (Cond.code yX15_isPoint cX15_isPoint 2 (some .boolean)) ∈ wU := wU_9 179 rfl rfl
theorem u242 : (Cond.constant RX15 307 (1000003)) ∈ wU := wU_9 93 rfl rfl
theorem u243 : (Cond.methodLink RX15 476 yX15_isRest) ∈ wU := wU_10 122 rfl rfl
theorem u244 : (Cond.instanceMethod yX15_isRest) ∈ wU := wU_10 124 rfl rfl
theorem u245 : (Cond.selects RX15 yX15_isRest yX15_isRest) ∈ wU := wU_0 95 rfl rfl
theorem u246 : (Cond.code yX15_isRest cX15_isRest 4 (some .boolean)) ∈ wU := wU_10 125 rfl rfl
theorem u247 : (Cond.fieldLink RX15 466 "CubicBenchModel" "founds" "I") ∈ wU := wU_8 112 rfl rfl
theorem u248 : (Cond.fieldLink RX15 548 "CubicBenchModel" "polyOf" "I") ∈ wU := wU_8 135 rfl rfl
theorem u249 : (Cond.fieldLink RX15 433 "CubicBenchModel" "paged" "I") ∈ wU := wU_8 104 rfl rfl
theorem u250 : (Cond.laysFinal RX0 RX0 "parts" "[I") ∈ wU := wU_1 65 rfl rfl
theorem u251 : (Cond.lays RX0 RX0 "length" "I") ∈ wU := wU_1 67 rfl rfl
theorem u252 : (Cond.lays RX0 RX0 "below" "Z") ∈ wU := wU_1 69 rfl rfl
theorem u253 : (Cond.laysFinal RX1 RX1 "squared" "[Z") ∈ wU := wU_2 41 rfl rfl
theorem u254 : (Cond.laysFinal RX1 RX1 "kinds" "[I") ∈ wU := wU_2 43 rfl rfl
theorem u255 : (Cond.laysFinal RX1 RX1 "places" "[J") ∈ wU := wU_2 45 rfl rfl
theorem u256 : (Cond.laysFinal RX1 RX1 "slopes" "[J") ∈ wU := wU_2 47 rfl rfl
theorem u257 : (Cond.laysFinal RX1 RX1 "ends" "[J") ∈ wU := wU_2 49 rfl rfl
theorem u258 : (Cond.lays RX1 RX1 "held" "I") ∈ wU := wU_2 51 rfl rfl
theorem u259 : (Cond.laysFinal RX2 RX2 "a" "I") ∈ wU := wU_3 105 rfl rfl
theorem u260 : (Cond.laysFinal RX2 RX2 "b" "I") ∈ wU := wU_3 107 rfl rfl
theorem u261 : (Cond.laysFinal RX2 RX2 "p" "I") ∈ wU := wU_3 109 rfl rfl
theorem u262 : (Cond.lays RX2 RX2 "points" "I") ∈ wU := wU_3 111 rfl rfl
theorem u263 : (Cond.laysFinal RX3 RX3 "rows" "[[J") ∈ wU := wU_2 77 rfl rfl
theorem u264 : (Cond.laysFinal RX3 RX3 "cubicSquare" "[J") ∈ wU := wU_2 79 rfl rfl
theorem u265 : (Cond.laysFinal RX3 RX3 "left" "[J") ∈ wU := wU_2 81 rfl rfl
theorem u266 : (Cond.laysFinal RX3 RX3 "right" "[J") ∈ wU := wU_2 83 rfl rfl
theorem u267 : (Cond.laysFinal RX3 RX3 "spare" "[J") ∈ wU := wU_2 85 rfl rfl
theorem u268 : (Cond.laysFinal RX3 RX3 "roots" "[I") ∈ wU := wU_2 87 rfl rfl
theorem u269 : (Cond.lays RX3 RX3 "rootsHeld" "I") ∈ wU := wU_2 89 rfl rfl
theorem u270 : (Cond.lays RX3 RX3 "rootsKnown" "Z") ∈ wU := wU_2 91 rfl rfl
theorem u271 : (Cond.lays RX3 RX3 "of" "LCubicBench$Curve;") ∈ wU := wU_2 93 rfl rfl
theorem u272 : (Cond.lays RX3 RX3 "known" "I") ∈ wU := wU_2 95 rfl rfl
theorem u273 : (Cond.lays RX3 RX3 "latest" "I") ∈ wU := wU_2 97 rfl rfl
theorem u274 : (Cond.lays RX3 RX3 "p" "I") ∈ wU := wU_2 99 rfl rfl
theorem u275 : (Cond.lays RX3 RX3 "degree" "I") ∈ wU := wU_2 101 rfl rfl
theorem u276 : (Cond.lays RX4 RX4 "result" "LCubicBench$Spot;") ∈ wU := wU_1 137 rfl rfl
theorem u277 : (Cond.lays RX4 RX4 "next" "LCubicBench$Spot;") ∈ wU := wU_1 139 rfl rfl
theorem u278 : (Cond.laysFinal RX4 RX4 "base" "LCubicBench$Spot;") ∈ wU := wU_1 141 rfl rfl
theorem u279 : (Cond.laysFinal RX4 RX4 "firstSquare" "LCubicBench$Big;") ∈ wU := wU_1 143 rfl rfl
theorem u280 : (Cond.laysFinal RX4 RX4 "secondSquare" "LCubicBench$Big;") ∈ wU := wU_1 145 rfl rfl
theorem u281 : (Cond.laysFinal RX4 RX4 "newSquare" "LCubicBench$Big;") ∈ wU := wU_1 147 rfl rfl
theorem u282 : (Cond.laysFinal RX4 RX4 "rise" "LCubicBench$Big;") ∈ wU := wU_1 149 rfl rfl
theorem u283 : (Cond.laysFinal RX4 RX4 "run" "LCubicBench$Big;") ∈ wU := wU_1 151 rfl rfl
theorem u284 : (Cond.laysFinal RX4 RX4 "cut" "LCubicBench$Big;") ∈ wU := wU_1 153 rfl rfl
theorem u285 : (Cond.laysFinal RX4 RX4 "top" "LCubicBench$Big;") ∈ wU := wU_1 155 rfl rfl
theorem u286 : (Cond.laysFinal RX4 RX4 "bottom" "LCubicBench$Big;") ∈ wU := wU_1 157 rfl rfl
theorem u287 : (Cond.laysFinal RX4 RX4 "common" "LCubicBench$Big;") ∈ wU := wU_1 159 rfl rfl
theorem u288 : (Cond.laysFinal RX4 RX4 "one" "LCubicBench$Big;") ∈ wU := wU_1 161 rfl rfl
theorem u289 : (Cond.laysFinal RX4 RX4 "two" "LCubicBench$Big;") ∈ wU := wU_1 163 rfl rfl
theorem u290 : (Cond.laysFinal RX4 RX4 "three" "LCubicBench$Big;") ∈ wU := wU_1 165 rfl rfl
theorem u291 : (Cond.laysFinal RX4 RX4 "four" "LCubicBench$Big;") ∈ wU := wU_1 167 rfl rfl
theorem u292 : (Cond.laysFinal RX4 RX4 "factor" "LCubicBench$Big;") ∈ wU := wU_1 169 rfl rfl
theorem u293 : (Cond.lays RX5 RX5 "a" "J") ∈ wU := wU_2 120 rfl rfl
theorem u294 : (Cond.lays RX5 RX5 "b" "J") ∈ wU := wU_2 122 rfl rfl
theorem u295 : (Cond.lays RX5 RX5 "x" "J") ∈ wU := wU_2 124 rfl rfl
theorem u296 : (Cond.lays RX5 RX5 "v" "J") ∈ wU := wU_2 126 rfl rfl
theorem u297 : (Cond.lays RX5 RX5 "u" "J") ∈ wU := wU_2 128 rfl rfl
theorem u298 : (Cond.laysFinal RX6 RX6 "roots" "[I") ∈ wU := wU_2 6 rfl rfl
theorem u299 : (Cond.laysFinal RX6 RX6 "codes" "[J") ∈ wU := wU_2 8 rfl rfl
theorem u300 : (Cond.laysFinal RX6 RX6 "reached" "[B") ∈ wU := wU_2 10 rfl rfl
theorem u301 : (Cond.lays RX6 RX6 "held" "I") ∈ wU := wU_2 12 rfl rfl
theorem u302 : (Cond.lays RX6 RX6 "listed" "LCubicBench$Curve;") ∈ wU := wU_2 14 rfl rfl
theorem u303 : (Cond.lays RX6 RX6 "grouped" "LCubicBench$Curve;") ∈ wU := wU_2 16 rfl rfl
theorem u304 : (Cond.lays RX6 RX6 "longest" "I") ∈ wU := wU_2 18 rfl rfl
theorem u305 : (Cond.lays RX6 RX6 "across" "I") ∈ wU := wU_2 20 rfl rfl
theorem u306 : (Cond.lays RX6 RX6 "firstMaker" "J") ∈ wU := wU_2 22 rfl rfl
theorem u307 : (Cond.lays RX6 RX6 "secondMaker" "J") ∈ wU := wU_2 24 rfl rfl
theorem u308 : (Cond.lays RX6 RX6 "hasSecond" "Z") ∈ wU := wU_2 26 rfl rfl
theorem u309 : (Cond.laysFinal RX7 RX7 "steps" "[J") ∈ wU := wU_1 179 rfl rfl
theorem u310 : (Cond.lays RX8 RX8 "rs" "[I") ∈ wU := wU_1 214 rfl rfl
theorem u311 : (Cond.lays RX8 RX8 "ss" "[I") ∈ wU := wU_1 216 rfl rfl
theorem u312 : (Cond.lays RX8 RX8 "ts" "[J") ∈ wU := wU_1 218 rfl rfl
theorem u313 : (Cond.lays RX8 RX8 "held" "I") ∈ wU := wU_1 220 rfl rfl
theorem u314 : (Cond.lays RX9 RX9 "curve" "I") ∈ wU := wU_1 96 rfl rfl
theorem u315 : (Cond.lays RX9 RX9 "far" "Z") ∈ wU := wU_1 98 rfl rfl
theorem u316 : (Cond.lays RX9 RX9 "code" "J") ∈ wU := wU_1 100 rfl rfl
theorem u317 : (Cond.laysFinal RX9 RX9 "\x72" "LCubicBench$Big;") ∈ wU := wU_1 102 rfl rfl
theorem u318 : (Cond.laysFinal RX9 RX9 "t" "LCubicBench$Big;") ∈ wU := wU_1 104 rfl rfl
theorem u319 : (Cond.laysFinal RX9 RX9 "e" "LCubicBench$Big;") ∈ wU := wU_1 106 rfl rfl
theorem u320 : (Cond.laysFinal RX10 RX10 "xs" "[J") ∈ wU := wU_1 194 rfl rfl
theorem u321 : (Cond.laysFinal RX10 RX10 "ys" "[J") ∈ wU := wU_1 196 rfl rfl
theorem u322 : (Cond.lays RX10 RX10 "held" "I") ∈ wU := wU_1 198 rfl rfl
theorem u323 : (Cond.lays RX10 RX10 "of" "LCubicBench$Curve;") ∈ wU := wU_1 200 rfl rfl
theorem u324 : (Cond.laysFinal RX11 RX11 "curves" "[LCubicBench$Curve;") ∈ wU := wU_2 147 rfl rfl
theorem u325 : (Cond.lays RX11 RX11 "curvesHeld" "I") ∈ wU := wU_2 149 rfl rfl
theorem u326 : (Cond.laysFinal RX11 RX11 "spots" "[LCubicBench$Spot;") ∈ wU := wU_2 151 rfl rfl
theorem u327 : (Cond.lays RX11 RX11 "spotsHeld" "I") ∈ wU := wU_2 153 rfl rfl
theorem u328 : (Cond.laysFinal RX11 RX11 "page" "[B") ∈ wU := wU_2 155 rfl rfl
theorem u329 : (Cond.lays RX11 RX11 "pageLength" "I") ∈ wU := wU_2 157 rfl rfl
theorem u330 : (Cond.laysFinal RX11 RX11 "asked" "LCubicBench$Spot;") ∈ wU := wU_2 159 rfl rfl
theorem u331 : (Cond.laysFinal RX11 RX11 "fractions" "LCubicBench$Fractions;") ∈ wU := wU_2 161 rfl rfl
theorem u332 : (Cond.laysFinal RX11 RX11 "rests" "LCubicBench$Rests;") ∈ wU := wU_2 163 rfl rfl
theorem u333 : (Cond.laysFinal RX11 RX11 "torsion" "LCubicBench$Torsion;") ∈ wU := wU_2 165 rfl rfl
theorem u334 : (Cond.laysFinal RX11 RX11 "searching" "LCubicBench$Searching;") ∈ wU := wU_2 167 rfl rfl
theorem u335 : (Cond.laysFinal RX11 RX11 "listing" "LCubicBench$Listing;") ∈ wU := wU_2 169 rfl rfl
theorem u336 : (Cond.laysFinal RX11 RX11 "firstChain" "LCubicBench$Chain;") ∈ wU := wU_2 171 rfl rfl
theorem u337 : (Cond.laysFinal RX11 RX11 "secondChain" "LCubicBench$Chain;") ∈ wU := wU_2 173 rfl rfl
theorem u338 : (Cond.laysFinal RX11 RX11 "division" "LCubicBench$Division;") ∈ wU := wU_2 175 rfl rfl
theorem u339 : (Cond.laysFinal RX11 RX11 "lead" "LCubicBench$Lead;") ∈ wU := wU_2 177 rfl rfl
theorem u340 : (Cond.laysFinal RX12 RX12 "u" "LCubicBenchModel$Num;") ∈ wU := wU_8 40 rfl rfl
theorem u341 : (Cond.laysFinal RX12 RX12 "l" "LCubicBenchModel$Num;") ∈ wU := wU_8 42 rfl rfl
theorem u342 : (Cond.laysFinal RX13 RX13 "d" "[I") ∈ wU := wU_8 14 rfl rfl
theorem u343 : (Cond.lays RX13 RX13 "n" "I") ∈ wU := wU_8 16 rfl rfl
theorem u344 : (Cond.lays RX13 RX13 "less" "Z") ∈ wU := wU_8 18 rfl rfl
theorem u345 : (Cond.lays RX14 RX14 "far" "Z") ∈ wU := wU_8 55 rfl rfl
theorem u346 : (Cond.laysFinal RX14 RX14 "x" "LCubicBenchModel$Frac;") ∈ wU := wU_8 57 rfl rfl
theorem u347 : (Cond.laysFinal RX14 RX14 "y" "LCubicBenchModel$Frac;") ∈ wU := wU_8 59 rfl rfl
theorem u348 : (Cond.lays RX14 RX14 "rx" "J") ∈ wU := wU_8 61 rfl rfl
theorem u349 : (Cond.lays RX14 RX14 "ry" "J") ∈ wU := wU_8 63 rfl rfl
theorem u350 : (Cond.lays RX15 RX15 "thrown" "I") ∈ wU := wU_8 144 rfl rfl
theorem u351 : (Cond.laysFinal RX15 RX15 "n0" "LCubicBenchModel$Num;") ∈ wU := wU_8 146 rfl rfl
theorem u352 : (Cond.laysFinal RX15 RX15 "n1" "LCubicBenchModel$Num;") ∈ wU := wU_8 148 rfl rfl
theorem u353 : (Cond.laysFinal RX15 RX15 "g0" "LCubicBenchModel$Num;") ∈ wU := wU_8 150 rfl rfl
theorem u354 : (Cond.laysFinal RX15 RX15 "g1" "LCubicBenchModel$Num;") ∈ wU := wU_8 152 rfl rfl
theorem u355 : (Cond.laysFinal RX15 RX15 "g2" "LCubicBenchModel$Num;") ∈ wU := wU_8 154 rfl rfl
theorem u356 : (Cond.laysFinal RX15 RX15 "g3" "LCubicBenchModel$Num;") ∈ wU := wU_8 156 rfl rfl
theorem u357 : (Cond.laysFinal RX15 RX15 "ten" "LCubicBenchModel$Num;") ∈ wU := wU_8 158 rfl rfl
theorem u358 : (Cond.laysFinal RX15 RX15 "ca" "[J") ∈ wU := wU_8 160 rfl rfl
theorem u359 : (Cond.laysFinal RX15 RX15 "cb" "[J") ∈ wU := wU_8 162 rfl rfl
theorem u360 : (Cond.laysFinal RX15 RX15 "cp" "[I") ∈ wU := wU_8 164 rfl rfl
theorem u361 : (Cond.laysFinal RX15 RX15 "cMany" "[I") ∈ wU := wU_8 166 rfl rfl
theorem u362 : (Cond.lays RX15 RX15 "cubics" "I") ∈ wU := wU_8 168 rfl rfl
theorem u363 : (Cond.lays RX15 RX15 "squares" "[Z") ∈ wU := wU_8 170 rfl rfl
theorem u364 : (Cond.lays RX15 RX15 "squaresOf" "I") ∈ wU := wU_8 172 rfl rfl
theorem u365 : (Cond.laysFinal RX15 RX15 "pc" "[I") ∈ wU := wU_8 174 rfl rfl
theorem u366 : (Cond.laysFinal RX15 RX15 "pFar" "[Z") ∈ wU := wU_8 176 rfl rfl
theorem u367 : (Cond.laysFinal RX15 RX15 "px" "[I") ∈ wU := wU_8 178 rfl rfl
theorem u368 : (Cond.laysFinal RX15 RX15 "py" "[I") ∈ wU := wU_8 180 rfl rfl
theorem u369 : (Cond.laysFinal RX15 RX15 "digits" "[I") ∈ wU := wU_8 182 rfl rfl
theorem u370 : (Cond.laysFinal RX15 RX15 "digitMany" "[I") ∈ wU := wU_8 184 rfl rfl
theorem u371 : (Cond.laysFinal RX15 RX15 "digitLess" "[Z") ∈ wU := wU_8 186 rfl rfl
theorem u372 : (Cond.lays RX15 RX15 "points" "I") ∈ wU := wU_8 188 rfl rfl
theorem u373 : (Cond.laysFinal RX15 RX15 "same" "LCubicBenchModel$Pt;") ∈ wU := wU_8 190 rfl rfl
theorem u374 : (Cond.laysFinal RX15 RX15 "s0" "LCubicBenchModel$Frac;") ∈ wU := wU_8 192 rfl rfl
theorem u375 : (Cond.laysFinal RX15 RX15 "s1" "LCubicBenchModel$Frac;") ∈ wU := wU_8 194 rfl rfl
theorem u376 : (Cond.laysFinal RX15 RX15 "s2" "LCubicBenchModel$Frac;") ∈ wU := wU_8 196 rfl rfl
theorem u377 : (Cond.laysFinal RX15 RX15 "s3" "LCubicBenchModel$Frac;") ∈ wU := wU_8 198 rfl rfl
theorem u378 : (Cond.laysFinal RX15 RX15 "sum" "LCubicBenchModel$Pt;") ∈ wU := wU_8 200 rfl rfl
theorem u379 : (Cond.laysFinal RX15 RX15 "acc" "LCubicBenchModel$Pt;") ∈ wU := wU_8 202 rfl rfl
theorem u380 : (Cond.laysFinal RX15 RX15 "one" "LCubicBenchModel$Pt;") ∈ wU := wU_8 204 rfl rfl
theorem u381 : (Cond.laysFinal RX15 RX15 "wa" "LCubicBenchModel$Pt;") ∈ wU := wU_8 206 rfl rfl
theorem u382 : (Cond.laysFinal RX15 RX15 "wb" "LCubicBenchModel$Pt;") ∈ wU := wU_8 208 rfl rfl
theorem u383 : (Cond.laysFinal RX15 RX15 "page" "[B") ∈ wU := wU_8 210 rfl rfl
theorem u384 : (Cond.lays RX15 RX15 "paged" "I") ∈ wU := wU_8 212 rfl rfl
theorem u385 : (Cond.laysFinal RX15 RX15 "isBacked" "[Z") ∈ wU := wU_8 214 rfl rfl
theorem u386 : (Cond.laysFinal RX15 RX15 "backMany" "[I") ∈ wU := wU_8 216 rfl rfl
theorem u387 : (Cond.laysFinal RX15 RX15 "backX" "[[I") ∈ wU := wU_8 218 rfl rfl
theorem u388 : (Cond.laysFinal RX15 RX15 "backY" "[[I") ∈ wU := wU_8 220 rfl rfl
theorem u389 : (Cond.laysFinal RX15 RX15 "fr" "[I") ∈ wU := wU_8 222 rfl rfl
theorem u390 : (Cond.laysFinal RX15 RX15 "fs" "[I") ∈ wU := wU_8 224 rfl rfl
theorem u391 : (Cond.laysFinal RX15 RX15 "ft" "[J") ∈ wU := wU_8 226 rfl rfl
theorem u392 : (Cond.lays RX15 RX15 "founds" "I") ∈ wU := wU_8 228 rfl rfl
theorem u393 : (Cond.laysFinal RX15 RX15 "lx" "[I") ∈ wU := wU_8 230 rfl rfl
theorem u394 : (Cond.laysFinal RX15 RX15 "ly" "[I") ∈ wU := wU_8 232 rfl rfl
theorem u395 : (Cond.lays RX15 RX15 "listed" "I") ∈ wU := wU_8 234 rfl rfl
theorem u396 : (Cond.lays RX15 RX15 "listedOf" "I") ∈ wU := wU_8 236 rfl rfl
theorem u397 : (Cond.laysFinal RX15 RX15 "isGrouped" "[Z") ∈ wU := wU_8 238 rfl rfl
theorem u398 : (Cond.laysFinal RX15 RX15 "groupN" "[I") ∈ wU := wU_9 0 rfl rfl
theorem u399 : (Cond.laysFinal RX15 RX15 "makerOne" "[I") ∈ wU := wU_9 2 rfl rfl
theorem u400 : (Cond.laysFinal RX15 RX15 "makerTwo" "[I") ∈ wU := wU_9 4 rfl rfl
theorem u401 : (Cond.laysFinal RX15 RX15 "isOf" "[Z") ∈ wU := wU_9 6 rfl rfl
theorem u402 : (Cond.laysFinal RX15 RX15 "lineSum" "LCubicBenchModel$Pt;") ∈ wU := wU_9 8 rfl rfl
theorem u403 : (Cond.laysFinal RX15 RX15 "run" "LCubicBenchModel$Pt;") ∈ wU := wU_9 10 rfl rfl
theorem u404 : (Cond.laysFinal RX15 RX15 "next" "LCubicBenchModel$Pt;") ∈ wU := wU_9 12 rfl rfl
theorem u405 : (Cond.laysFinal RX15 RX15 "pp" "LCubicBenchModel$Pt;") ∈ wU := wU_9 14 rfl rfl
theorem u406 : (Cond.laysFinal RX15 RX15 "pq" "LCubicBenchModel$Pt;") ∈ wU := wU_9 16 rfl rfl
theorem u407 : (Cond.laysFinal RX15 RX15 "ps" "LCubicBenchModel$Pt;") ∈ wU := wU_9 18 rfl rfl
theorem u408 : (Cond.laysFinal RX15 RX15 "pr" "LCubicBenchModel$Pt;") ∈ wU := wU_9 20 rfl rfl
theorem u409 : (Cond.laysFinal RX15 RX15 "pt" "LCubicBenchModel$Pt;") ∈ wU := wU_9 22 rfl rfl
theorem u410 : (Cond.laysFinal RX15 RX15 "poly" "[J") ∈ wU := wU_9 24 rfl rfl
theorem u411 : (Cond.laysFinal RX15 RX15 "pa" "[J") ∈ wU := wU_9 26 rfl rfl
theorem u412 : (Cond.laysFinal RX15 RX15 "pb" "[J") ∈ wU := wU_9 28 rfl rfl
theorem u413 : (Cond.laysFinal RX15 RX15 "pd" "[J") ∈ wU := wU_9 30 rfl rfl
theorem u414 : (Cond.laysFinal RX15 RX15 "cube" "[J") ∈ wU := wU_9 32 rfl rfl
theorem u415 : (Cond.lays RX15 RX15 "polyOf" "I") ∈ wU := wU_9 34 rfl rfl
theorem u416 : (Cond.lays RX15 RX15 "polyBy" "I") ∈ wU := wU_9 36 rfl rfl
theorem u417 : (Cond.laysFinal RX15 RX15 "work" "[J") ∈ wU := wU_9 38 rfl rfl
theorem u418 : (Cond.lays RX15 RX15 "ledA" "J") ∈ wU := wU_9 40 rfl rfl
theorem u419 : (Cond.lays RX15 RX15 "ledB" "J") ∈ wU := wU_9 42 rfl rfl
theorem u420 : (Cond.lays RX15 RX15 "ledV" "J") ∈ wU := wU_9 44 rfl rfl
theorem u421 : (Cond.lays RX15 RX15 "ledU" "J") ∈ wU := wU_9 46 rfl rfl
theorem u422 : (Cond.lays RX15 RX15 "ledOrder" "I") ∈ wU := wU_9 48 rfl rfl
theorem u423 : (Cond.laysFinal RX15 RX15 "th" "LCubicBenchModel$Pt;") ∈ wU := wU_9 50 rfl rfl
theorem iX0 : ∀ w ∈ wsX00, w ∈ wU := by
  intro w hw
  obtain ⟨k, hk, rfl⟩ := List.mem_map.mp hw
  have hk := List.mem_range.mp hk
  match k, hk with
  | 0, _ => exact u250
  | 1, _ => exact u251
  | 2, _ => exact u252
  | k + 3, hk => exact absurd hk (by omega)
theorem iX1 : ∀ w ∈ wsX10, w ∈ wU := by
  intro w hw
  obtain ⟨k, hk, rfl⟩ := List.mem_map.mp hw
  have hk := List.mem_range.mp hk
  match k, hk with
  | 0, _ => exact u253
  | 1, _ => exact u254
  | 2, _ => exact u255
  | 3, _ => exact u256
  | 4, _ => exact u257
  | 5, _ => exact u258
  | k + 6, hk => exact absurd hk (by omega)
theorem iX2 : ∀ w ∈ wsX20, w ∈ wU := by
  intro w hw
  obtain ⟨k, hk, rfl⟩ := List.mem_map.mp hw
  have hk := List.mem_range.mp hk
  match k, hk with
  | 0, _ => exact u259
  | 1, _ => exact u260
  | 2, _ => exact u261
  | 3, _ => exact u262
  | k + 4, hk => exact absurd hk (by omega)
theorem iX3 : ∀ w ∈ wsX30, w ∈ wU := by
  intro w hw
  obtain ⟨k, hk, rfl⟩ := List.mem_map.mp hw
  have hk := List.mem_range.mp hk
  match k, hk with
  | 0, _ => exact u263
  | 1, _ => exact u264
  | 2, _ => exact u265
  | 3, _ => exact u266
  | 4, _ => exact u267
  | 5, _ => exact u268
  | 6, _ => exact u269
  | 7, _ => exact u270
  | 8, _ => exact u271
  | 9, _ => exact u272
  | 10, _ => exact u273
  | 11, _ => exact u274
  | 12, _ => exact u275
  | k + 13, hk => exact absurd hk (by omega)
theorem iX4 : ∀ w ∈ wsX40, w ∈ wU := by
  intro w hw
  obtain ⟨k, hk, rfl⟩ := List.mem_map.mp hw
  have hk := List.mem_range.mp hk
  match k, hk with
  | 0, _ => exact u276
  | 1, _ => exact u277
  | 2, _ => exact u278
  | 3, _ => exact u279
  | 4, _ => exact u280
  | 5, _ => exact u281
  | 6, _ => exact u282
  | 7, _ => exact u283
  | 8, _ => exact u284
  | 9, _ => exact u285
  | 10, _ => exact u286
  | 11, _ => exact u287
  | 12, _ => exact u288
  | 13, _ => exact u289
  | 14, _ => exact u290
  | 15, _ => exact u291
  | 16, _ => exact u292
  | k + 17, hk => exact absurd hk (by omega)
theorem iX5 : ∀ w ∈ wsX50, w ∈ wU := by
  intro w hw
  obtain ⟨k, hk, rfl⟩ := List.mem_map.mp hw
  have hk := List.mem_range.mp hk
  match k, hk with
  | 0, _ => exact u293
  | 1, _ => exact u294
  | 2, _ => exact u295
  | 3, _ => exact u296
  | 4, _ => exact u297
  | k + 5, hk => exact absurd hk (by omega)
theorem iX6 : ∀ w ∈ wsX60, w ∈ wU := by
  intro w hw
  obtain ⟨k, hk, rfl⟩ := List.mem_map.mp hw
  have hk := List.mem_range.mp hk
  match k, hk with
  | 0, _ => exact u298
  | 1, _ => exact u299
  | 2, _ => exact u300
  | 3, _ => exact u301
  | 4, _ => exact u302
  | 5, _ => exact u303
  | 6, _ => exact u304
  | 7, _ => exact u305
  | 8, _ => exact u306
  | 9, _ => exact u307
  | 10, _ => exact u308
  | k + 11, hk => exact absurd hk (by omega)
theorem iX7 : ∀ w ∈ wsX70, w ∈ wU := by
  intro w hw
  obtain ⟨k, hk, rfl⟩ := List.mem_map.mp hw
  have hk := List.mem_range.mp hk
  match k, hk with
  | 0, _ => exact u309
  | k + 1, hk => exact absurd hk (by omega)
theorem iX8 : ∀ w ∈ wsX80, w ∈ wU := by
  intro w hw
  obtain ⟨k, hk, rfl⟩ := List.mem_map.mp hw
  have hk := List.mem_range.mp hk
  match k, hk with
  | 0, _ => exact u310
  | 1, _ => exact u311
  | 2, _ => exact u312
  | 3, _ => exact u313
  | k + 4, hk => exact absurd hk (by omega)
theorem iX9 : ∀ w ∈ wsX90, w ∈ wU := by
  intro w hw
  obtain ⟨k, hk, rfl⟩ := List.mem_map.mp hw
  have hk := List.mem_range.mp hk
  match k, hk with
  | 0, _ => exact u314
  | 1, _ => exact u315
  | 2, _ => exact u316
  | 3, _ => exact u317
  | 4, _ => exact u318
  | 5, _ => exact u319
  | k + 6, hk => exact absurd hk (by omega)
theorem iX10 : ∀ w ∈ wsX100, w ∈ wU := by
  intro w hw
  obtain ⟨k, hk, rfl⟩ := List.mem_map.mp hw
  have hk := List.mem_range.mp hk
  match k, hk with
  | 0, _ => exact u320
  | 1, _ => exact u321
  | 2, _ => exact u322
  | 3, _ => exact u323
  | k + 4, hk => exact absurd hk (by omega)
theorem iX11 : ∀ w ∈ wsX110, w ∈ wU := by
  intro w hw
  obtain ⟨k, hk, rfl⟩ := List.mem_map.mp hw
  have hk := List.mem_range.mp hk
  match k, hk with
  | 0, _ => exact u324
  | 1, _ => exact u325
  | 2, _ => exact u326
  | 3, _ => exact u327
  | 4, _ => exact u328
  | 5, _ => exact u329
  | 6, _ => exact u330
  | 7, _ => exact u331
  | 8, _ => exact u332
  | 9, _ => exact u333
  | 10, _ => exact u334
  | 11, _ => exact u335
  | 12, _ => exact u336
  | 13, _ => exact u337
  | 14, _ => exact u338
  | 15, _ => exact u339
  | k + 16, hk => exact absurd hk (by omega)
theorem iX12 : ∀ w ∈ wsX120, w ∈ wU := by
  intro w hw
  obtain ⟨k, hk, rfl⟩ := List.mem_map.mp hw
  have hk := List.mem_range.mp hk
  match k, hk with
  | 0, _ => exact u340
  | 1, _ => exact u341
  | k + 2, hk => exact absurd hk (by omega)
theorem iX13 : ∀ w ∈ wsX130, w ∈ wU := by
  intro w hw
  obtain ⟨k, hk, rfl⟩ := List.mem_map.mp hw
  have hk := List.mem_range.mp hk
  match k, hk with
  | 0, _ => exact u342
  | 1, _ => exact u343
  | 2, _ => exact u344
  | k + 3, hk => exact absurd hk (by omega)
theorem iX14 : ∀ w ∈ wsX140, w ∈ wU := by
  intro w hw
  obtain ⟨k, hk, rfl⟩ := List.mem_map.mp hw
  have hk := List.mem_range.mp hk
  match k, hk with
  | 0, _ => exact u345
  | 1, _ => exact u346
  | 2, _ => exact u347
  | 3, _ => exact u348
  | 4, _ => exact u349
  | k + 5, hk => exact absurd hk (by omega)
theorem iX15 : ∀ w ∈ wsX150, w ∈ wU := by
  intro w hw
  obtain ⟨k, hk, rfl⟩ := List.mem_map.mp hw
  have hk := List.mem_range.mp hk
  match k, hk with
  | 0, _ => exact u350
  | 1, _ => exact u351
  | 2, _ => exact u352
  | 3, _ => exact u353
  | 4, _ => exact u354
  | 5, _ => exact u355
  | 6, _ => exact u356
  | 7, _ => exact u357
  | 8, _ => exact u358
  | 9, _ => exact u359
  | 10, _ => exact u360
  | 11, _ => exact u361
  | 12, _ => exact u362
  | 13, _ => exact u363
  | 14, _ => exact u364
  | 15, _ => exact u365
  | 16, _ => exact u366
  | 17, _ => exact u367
  | 18, _ => exact u368
  | 19, _ => exact u369
  | 20, _ => exact u370
  | 21, _ => exact u371
  | 22, _ => exact u372
  | 23, _ => exact u373
  | 24, _ => exact u374
  | 25, _ => exact u375
  | 26, _ => exact u376
  | 27, _ => exact u377
  | 28, _ => exact u378
  | 29, _ => exact u379
  | 30, _ => exact u380
  | 31, _ => exact u381
  | 32, _ => exact u382
  | 33, _ => exact u383
  | 34, _ => exact u384
  | 35, _ => exact u385
  | 36, _ => exact u386
  | 37, _ => exact u387
  | 38, _ => exact u388
  | 39, _ => exact u389
  | 40, _ => exact u390
  | 41, _ => exact u391
  | 42, _ => exact u392
  | 43, _ => exact u393
  | 44, _ => exact u394
  | 45, _ => exact u395
  | 46, _ => exact u396
  | 47, _ => exact u397
  | 48, _ => exact u398
  | 49, _ => exact u399
  | 50, _ => exact u400
  | 51, _ => exact u401
  | 52, _ => exact u402
  | 53, _ => exact u403
  | 54, _ => exact u404
  | 55, _ => exact u405
  | 56, _ => exact u406
  | 57, _ => exact u407
  | 58, _ => exact u408
  | 59, _ => exact u409
  | 60, _ => exact u410
  | 61, _ => exact u411
  | 62, _ => exact u412
  | 63, _ => exact u413
  | 64, _ => exact u414
  | 65, _ => exact u415
  | 66, _ => exact u416
  | 67, _ => exact u417
  | 68, _ => exact u418
  | 69, _ => exact u419
  | 70, _ => exact u420
  | 71, _ => exact u421
  | 72, _ => exact u422
  | 73, _ => exact u423
  | k + 74, hk => exact absurd hk (by omega)
end
section
abbrev clx : List vw_C := [(RX0, TX0, 3), (RX1, TX1, 6), (RX2, TX2, 4), (RX3, TX3, 13), (RX4, TX4, 17), (RX5, TX5, 5), (RX6, TX6, 11), (RX7, TX7, 1), (RX8, TX8, 4), (RX9, TX9, 6), (RX10, TX10, 4), (RX11, TX11, 16), (RX12, TX12, 2), (RX13, TX13, 3), (RX14, TX14, 5), (RX15, TX15, 74)]
abbrev nIOO : String := "java/lang/IndexOutOfBoundsException"
abbrev nIAE : String := "java/lang/IllegalArgumentException"
/-- what the tables say beside wU's words: links between nest mates, arrays of references, casts, texts -/
def ev (U : State) : Prop :=
  (va_Nw (.methodLinkNest RX15 9 yX13_init RX15) U ∧ va_Nw (.methodLinkNest RX15 76 yX14_init RX15) U ∧ va_Nw (.methodLinkNest RX15 83 yX12_init RX15) U ∧ va_Nw (.methodLinkNest RX12 9 yX13_init RX15) U ∧ va_Nw (.methodLinkNest RX14 9 yX12_init RX15) U) ∧
  (va_AO RX2 U ∧ va_AO RX9 U) ∧ ((Cond.arrayOver (.array .int)).before #[] U = true ∧ (Cond.arrayOver (.array .long)).before #[] U = true) ∧
  (va_Nw (.castable nIOO nIOO) U ∧ va_Nw (.castable nIAE nIAE) U) ∧
  ((∃ a, vk_R RX11 369 "no such cubic" a U) ∧ (∃ a, vk_R RX11 377 "no such point" a U) ∧ (∃ a, vk_R RX11 274 "the latest search has no such one" a U) ∧ ∃ a, vk_R RX11 95 "a or b is beyond 10,000" a U)
theorem ev_AOA {t : FieldType} {u U : State} (hvm : u.vm.Alike U.vm) (h : (Cond.arrayOver (.array t)).before #[] u = true) : (Cond.arrayOver (.array t)).before #[] U = true := by
  obtain ⟨comp, c, k, h1, h2, h3, h4, h5⟩ := arrayOverA_spec h
  obtain ⟨k', hk', he⟩ := hvm.2.2 _ _ h3
  have hi : (U.vm.classes.findIdx? fun (x : Class) => match x.kind with | .array component _ => component == comp | _ => false) = some c := by
    rw [hvm.findIdx?_eq _ (fun _ => rfl)]
    exact h2
  have hkind : k'.kind = .array comp (.array t) := by rw [he]; exact h4
  have f1 : U.vm.findClass (FieldType.array t).toString = some comp := by rw [hvm.findClass]; exact h1
  have f2 : U.vm.findClass ("[" ++ (FieldType.array t).toString) = some c := by rw [hvm.findClass]; exact h5
  unfold Cond.before Cond.holds
  simp only [Cond.value]
  rw [f1, Option.bind_some]
  refine (congrArg (fun o : Option Nat => (o.bind (fun c => (U.vm.classes[c]?).map fun (k : Class) => match k.kind with | .array _ ty => decide (ty = FieldType.array t) && decide (U.vm.findClass ("[" ++ (FieldType.array t).toString) = some c) | _ => false) == some true)) hi).trans ?_
  simp [hk', hkind, f2]
theorem ev.warm {s U : State} (hW : s.WarmedH U.vm) (h : ev s) : ev U := by
  obtain ⟨⟨a1, a2, a3, a4, a5⟩, ⟨b1, b2⟩, ⟨c1, c2⟩, ⟨d1, d2⟩, ⟨⟨_, e1⟩, ⟨_, e2⟩, ⟨_, e3⟩, ⟨_, e4⟩⟩⟩ := h
  exact ⟨⟨va_Nw.warmM hW a1, va_Nw.warmM hW a2, va_Nw.warmM hW a3, va_Nw.warmM hW a4, va_Nw.warmM hW a5⟩, ⟨b1.moved hW.alike, b2.moved hW.alike⟩, ⟨ev_AOA hW.alike c1, ev_AOA hW.alike c2⟩, ⟨va_Nw.warmC hW d1, va_Nw.warmC hW d2⟩, ⟨⟨_, vk_R.warm hW e1⟩, ⟨_, vk_R.warm hW e2⟩, ⟨_, vk_R.warm hW e3⟩, ⟨_, vk_R.warm hW e4⟩⟩⟩
theorem ev.calling {U : State} (g : JFrame) (mk : MethodId) (a : Array Value) (h : ev U) : ev (U.calling g mk a) := ev.warm (U := U.calling g mk a) (State.WarmedH.refl U) h
/-- the statics that a throw reads, apart from the cells that are new since sz -/
def zz (sz : Nat) (U : State) (H : Heap) : Prop := vx_Zq Bundle.tN "UNASSIGNED_STACK" Bundle.steD (nw sz) U H ∧ vx_Zq Bundle.tN "SUPPRESSED_SENTINEL" Bundle.listD (nw sz) U H
theorem zz.moved {sz : Nat} {u U : State} {H : Heap} (hvm : u.vm.Alike U.vm) (h : zz sz u H) : zz sz U H := ⟨vx_Zq.moved hvm h.1, vx_Zq.moved hvm h.2⟩
theorem zz.grown {sz : Nat} {U : State} {H H1 : Heap} (h : zz sz U H) (hs : sz ≤ H1.size) (hq : ∀ a : Nat, a < H.size → ¬ nw sz a → H1[a]? = H[a]?) : zz H1.size U H1 := ⟨(h.1.kept hq).narrow (fun q hq => Nat.le_trans hs hq), (h.2.kept hq).narrow (fun q hq => Nat.le_trans hs hq)⟩
/-- a method on the bench's object x: it reads, or throws -/
def tP (dC : Nat → ClassId) (dI : Nat → Nat → Nat) (ws : va_W) (sz : Nat) (av : List Value) : Array Value → State → Prop := va_Pc av (fun U => U.heap.size = sz ∧ va_P (dC, dI) clx ws U.heap ∧ va_K (dC, dI) clx [] U ∧ ev U ∧ zz sz U U.heap)
theorem tP_blind {dC : Nat → ClassId} {dI : Nat → Nat → Nat} {ws : va_W} {sz : Nat} {av : List Value} : FrameBlind (tP dC dI ws sz av) := fun a U g mk q => by
  obtain ⟨q0, q1, qP, qK, qE, qZ⟩ := q
  exact ⟨q0, q1, qP, va_K.moved (u := U) (U := U.calling g mk a) (Vm.Alike.refl U.vm) qK, qE.calling g mk a, zz.moved (u := U) (U := U.calling g mk a) (Vm.Alike.refl U.vm) qZ⟩
theorem tP_at {dC : Nat → ClassId} {dI : Nat → Nat → Nat} {ws : va_W} {H : Heap} {av : List Value} {s : State} (hP : va_P (dC, dI) clx ws H) (hK : va_K (dC, dI) clx [] s) (hE : ev s) (hZ : zz H.size s H) : ∀ U : State, U.heap = H → s.WarmedH U.vm → tP dC dI ws H.size av av.toArray U :=
  fun U hU hW => ⟨rfl, by rw [hU], by rw [hU]; exact hP, va_K.moved hW.alike hK, hE.warm hW, by rw [hU]; exact hZ.moved hW.alike⟩
/-- a method that wants a world and gives one, without throws -/
def mP (dC : Nat → ClassId) (dI : Nat → Nat → Nat) (ws : va_W) (tys : List (ClassId × FieldType)) (sz : Nat) (av : List Value) : Array Value → State → Prop := va_Pc av (fun U => U.heap.size = sz ∧ va_P (dC, dI) clx ws U.heap ∧ va_K (dC, dI) clx tys U ∧ va_D (fun _ => True) ws)
theorem mP_blind {dC : Nat → ClassId} {dI : Nat → Nat → Nat} {ws : va_W} {tys : List (ClassId × FieldType)} {sz : Nat} {av : List Value} : FrameBlind (mP dC dI ws tys sz av) := fun a U g mk q => by
  obtain ⟨q0, q1, qP, qK, qD⟩ := q
  exact ⟨q0, q1, qP, va_K.moved (u := U) (U := U.calling g mk a) (Vm.Alike.refl U.vm) qK, qD⟩
theorem mP_at {dC : Nat → ClassId} {dI : Nat → Nat → Nat} {ws : va_W} {tys : List (ClassId × FieldType)} {H : Heap} {av : List Value} {s : State} {A : Nat → Prop} (hP : va_P (dC, dI) clx ws H) (hK : va_K (dC, dI) clx tys s) (hD : va_D A ws) : ∀ U : State, U.heap = H → s.WarmedH U.vm → mP dC dI ws tys H.size av av.toArray U :=
  fun U hU hW => ⟨rfl, by rw [hU], by rw [hU]; exact hP, va_K.moved hW.alike hK, hD.weaken (fun _ _ _ _ => trivial)⟩
/-- a constructor whose object nobody looks at again -/
def JC (l : Launch) (y : MethodName) (wy : List Cond) (rm : Room) (ci : Nat) (fs : List Value) (As : List Value) (mc ms : Nat) : Prop :=
  ∀ (dC : Nat → ClassId) (dI : Nat → Nat → Nat) (h0 sz : Nat), Met l y wy rm (va_Pc (.ref h0 :: As) (fun U => U.heap.size = sz ∧ va_P (dC, dI) clx [(h0, .inr (ci, fs))] U.heap ∧ va_K (dC, dI) clx [] U ∧ ev U)) (va_Qv (S := Unit) (fun _ => True) (fun _ _ => True) (va_A [(h0, .inr (ci, fs))] sz)) mc ms (va_A [(h0, .inr (ci, fs))] sz)
/-- a constructor of whose object F is known -/
def KC (l : Launch) (y : MethodName) (wy : List Cond) (rm : Room) (ci : Nat) (fs : List Value) (As : List Value) (F : List Value → Prop) (mc ms : Nat) : Prop :=
  ∀ (dC : Nat → ClassId) (dI : Nat → Nat → Nat) (h0 sz : Nat), Met l y wy rm (va_Pc (.ref h0 :: As) (fun U => U.heap.size = sz ∧ va_P (dC, dI) clx [(h0, .inr (ci, fs))] U.heap ∧ va_K (dC, dI) clx [] U ∧ ev U)) (va_Qv (S := List Value) F (fun u t => va_P (dC, dI) clx [(h0, .inr (ci, u))] t.heap) (va_A [(h0, .inr (ci, fs))] sz)) mc ms (va_A [(h0, .inr (ci, fs))] sz)
theorem va_A1 {q sz a : Nat} {z : va_E} : va_A [(q, z)] sz a ↔ a = q ∨ sz ≤ a := by
  constructor
  · rintro (⟨k, x, h⟩ | h)
    · have hk : k < 1 := (List.getElem?_eq_some_iff.mp h).1
      rw [show k = 0 by omega] at h
      cases h
      exact Or.inl rfl
    · exact Or.inr h
  · rintro (rfl | h)
    · exact Or.inl ⟨0, z, rfl⟩
    · exact Or.inr h
section JK
variable {p : Program} {l : Launch} {e : Env} {R : Room} {s : State} {m : MethodId} {args : Array Value} {below : List Frame} {meth : Method} {c : Code} {H : Heap} {locs : List Loc} {cells slots : Nat} {Q : State → Prop}
variable {cc : ByteArray} {pc : Nat} {ls : Array Slot} {rest : List Value} {D : va_G} {cl : List vw_C} {A : Nat → Prop} {tys : List (ClassId × FieldType)} {ws : va_W} {H0 : Heap}
theorem px_kept {H1 : Heap} (hP : va_P D cl ws H) (hk : ∀ a : Nat, a < H.size → H1[a]? = H[a]?) : va_P D cl ws H1 := hP.kept (fun k q h => hk q.1 ((hP k q h).lt))
theorem px_S {H1 : Heap} (hS : va_S A H0 H locs) (hz : H.size ≤ H1.size) (hk : ∀ a : Nat, a < H.size → H1[a]? = H[a]?) : va_S A H0 H1 locs := ⟨Nat.le_trans hS.1 hz, fun x h1 h2 => (hk x (Nat.lt_of_lt_of_le h1 hS.1)).trans (hS.2.1 x h1 h2), hS.2.2⟩
theorem px_pk (x : Cell) : ∀ a : Nat, a < H.size → (H.push x)[a]? = H[a]? := fun a ha => by rw [Array.getElem?_push, if_neg (Nat.ne_of_lt ha)]
/-- rows that nobody looks at again -/
theorem px_newaJ (hexec : p.tables.exec = Jvm.exec) (hb : c.code = cc) {atype : ArrayType} (harr : (Cond.arrayClass (newarray.typeOf atype)).before args s = true) (hP : va_P D cl ws H) (hS : va_S A H0 H locs) {n : Int32} (N : Nat) (hn : ¬ n < 0) (hN : n.toNatClampNeg = N) (hbytes : N * componentBytes (newarray.typeOf atype) ≤ 536870912) (hcells : cells + 1 ≤ R.cells) (hslots : slots + N ≤ R.slots) (hdg : decode cc pc = .ok (.newarray atype, 2))
    (kk : ∀ (q : Nat) (H1 : Heap), va_P D cl ws H1 → va_S A H0 H1 locs → W p l e R s m args below meth c H1 locs (cells + 1) (slots + N) Q (F0 m (pc + 2) ls (.ref q :: rest))) : W p l e R s m args below meth c H locs cells slots Q (F0 m pc ls (.int n :: rest)) := by
  refine va_newaK hexec hb harr rfl hdg rfl hn hN hbytes hcells hslots rfl fun H1 cA e1 z1 o1 hAr hNm => ?_
  exact kk _ H1 (px_kept hP o1) (px_S hS (by omega) o1)
theorem px_anewJ (hexec : p.tables.exec = Jvm.exec) (hb : c.code = cc) {own C : String} {index : Nat} (hown : s.vm.findClass own = some m.cls) (hclink : (Cond.classLink own index C).before args s = true) (hover : va_AO C s) (hP : va_P D cl ws H) (hS : va_S A H0 H locs) {n : Int32} (N : Nat) (hn : ¬ n < 0) (hN : n.toNatClampNeg = N) (hbytes : N * 4 ≤ 536870912) (hcells : cells + 1 ≤ R.cells) (hslots : slots + N ≤ R.slots) (hdg : decode cc pc = .ok (.anewarray index, 3))
    (kk : ∀ (q : Nat) (H1 : Heap), va_P D cl ws H1 → va_S A H0 H1 locs → W p l e R s m args below meth c H1 locs (cells + 1) (slots + N) Q (F0 m (pc + 3) ls (.ref q :: rest))) : W p l e R s m args below meth c H locs cells slots Q (F0 m pc ls (.int n :: rest)) := by
  subst hN
  refine W.anew hexec hb hown hclink (va_AO.use hover) rfl hdg rfl hn hbytes hcells hslots fun cA kA comp f1 f2 f3 f4 => ?_
  exact kk _ _ (px_kept hP (px_pk _)) (px_S hS (by rw [Array.size_push]; omega) (px_pk _))
theorem px_anewA (hexec : p.tables.exec = Jvm.exec) (hb : c.code = cc) {own : String} {index : Nat} {t : FieldType} (hown : s.vm.findClass own = some m.cls) (hclink : (Cond.classLink own index (FieldType.array t).toString).before args s = true) (hover : (Cond.arrayOver (.array t)).before #[] s = true) (hP : va_P D cl ws H) (hS : va_S A H0 H locs) {n : Int32} (N : Nat) (hn : ¬ n < 0) (hN : n.toNatClampNeg = N) (hbytes : N * 4 ≤ 536870912) (hcells : cells + 1 ≤ R.cells) (hslots : slots + N ≤ R.slots) (hdg : decode cc pc = .ok (.anewarray index, 3))
    (kk : ∀ (q : Nat) (H1 : Heap), va_P D cl ws H1 → va_S A H0 H1 locs → W p l e R s m args below meth c H1 locs (cells + 1) (slots + N) Q (F0 m (pc + 3) ls (.ref q :: rest))) : W p l e R s m args below meth c H locs cells slots Q (F0 m pc ls (.int n :: rest)) := by
  subst hN
  refine W.anewA hexec hb hown hclink hover rfl hdg rfl hn hbytes hcells hslots fun cA kA comp f1 f2 f3 f4 => ?_
  exact kk _ _ (px_kept hP (px_pk _)) (px_S hS (by rw [Array.size_push]; omega) (px_pk _))
theorem px_new {own C : String} {T : u_T} {N ci index : Nat} {Ts : List Cond} (hexec : p.tables.exec = Jvm.exec) (hb : c.code = cc) (hts : ∀ w ∈ Ts, w.before args s = true) (hin : ∀ w ∈ u_ws C T N, w ∈ Ts) (ty : Nat → FieldType) (hty : ∀ k, k < N → parseFieldDescriptor (T k).2.2.1 = some (ty k)) (hown : s.vm.findClass own = some m.cls) (hcl : (Cond.classLink own index C).before args s = true) (hinst : (Cond.instantiable C N).before args s = true) (hini : (Cond.initialized C).before args s = true)
    (hK : va_K D cl tys s) (hP : va_P D cl ws H) (hS : va_S A H0 H locs) (hc : cl[ci]? = some (C, T, N)) {fs : List Value} (hfs : ∀ j, j < N → defaultValue (ty j) = vp_V fs j) (hcells : cells + 1 ≤ R.cells) (hslots : slots + N ≤ R.slots) (hdg : decode cc pc = .ok (.new index, 3))
    (kk : ∀ (q : Nat) (H1 : Heap), va_P D cl ws H1 → va_P D cl [(q, .inr (ci, fs))] H1 → (∀ (k : Nat) (x : Nat × va_E), ws[k]? = some x → x.1 < q) → H0.size ≤ q → va_S A H0 H1 locs → W p l e R s m args below meth c H1 locs (cells + 1) (slots + N) Q (F0 m (pc + 3) ls (.ref q :: rest))) : W p l e R s m args below meth c H locs cells slots Q (F0 m pc ls rest) := by
  have hKn := hK.1 ci _ hc
  refine W.newcK hexec hb hown hcl hinst hini rfl hdg hcells hslots hKn.2.1 rfl fun H1 kC hkC e1 z1 o1 => ?_
  refine kk H.size H1 (px_kept hP o1) (fun k x hx => ?_) (fun k x hx => (hP k x hx).lt) hS.1 (px_S hS (by omega) o1)
  have hz : k < 1 := (List.getElem?_eq_some_iff.mp hx).1
  rw [show k = 0 by omega] at hx
  cases hx
  exact ⟨_, hc, (u_born ty hts hin hKn hkC e1 hty).to hfs⟩
theorem px_initP {dC : Nat → ClassId} {dI : Nat → Nat → Nat} {q ci : Nat} {fs As : List Value} (hK : va_K (dC, dI) clx [] s) (hE : ev s) (hq : va_P (dC, dI) clx [(q, .inr (ci, fs))] H) : PreS s H (va_Pc (.ref q :: As) (fun U => U.heap.size = H.size ∧ va_P (dC, dI) clx [(q, .inr (ci, fs))] U.heap ∧ va_K (dC, dI) clx [] U ∧ ev U)) (.ref q :: As) :=
  ⟨fun a U g mk z => by obtain ⟨q0, q1, qP, qK, qE⟩ := z; exact ⟨q0, q1, qP, va_K.moved (u := U) (U := U.calling g mk a) (Vm.Alike.refl U.vm) qK, qE.calling g mk a⟩, fun U hU hW => ⟨rfl, by rw [hU], by rw [hU]; exact hq, va_K.moved hW.alike hK, hE.warm hW⟩⟩
variable {y : MethodName} {bytes : ByteArray} {maxL nL mc ms n index : Nat} {wy Ts : List Cond} {rm : Room} {own : String}
theorem px_initJ0 {dC : Nat → ClassId} {dI : Nat → Nat → Nat} {q ci : Nat} {fs As : List Value} {free : Addr → Prop} (hr : va_Run p l e R s m args below meth c H locs cells slots mc ms (F0 m pc ls (As.reverse ++ .ref q :: rest)) rest (va_Qv (S := Unit) (fun _ => True) (fun _ _ => True) (va_A [(q, .inr (ci, fs))] H.size) (Value.ref q :: As).toArray) (va_A [(q, .inr (ci, fs))] H.size))
    (hP : va_P (dC, dI) clx ws H) (hlt : ∀ (k : Nat) (x : Nat × va_E), ws[k]? = some x → x.1 < q) (hq0 : H0.size ≤ q) (hS : va_S A H0 H locs) (hA : ∀ q, H0.size ≤ q → A q)
    (kk : ∀ (H1 : Heap) (locs1 : List Loc), va_P (dC, dI) clx ws H1 → va_S A H0 H1 locs1 → W p l e R s m args below meth c H1 locs1 (cells + mc) (slots + ms) Q (F0 m (pc + 3) ls rest)) : W p l e R s m args below meth c H locs cells slots Q (F0 m pc ls (As.reverse ++ .ref q :: rest)) := by
  have hF : ∀ a, va_A [(q, .inr (ci, fs))] H.size a → A a := fun a h => (va_A1.mp h).elim (fun z => by rw [z]; exact hA q hq0) (fun z => hA a (Nat.le_trans hS.1 z))
  refine va_callv hr hS (fun a _ h => hF a h) hF (fun u t H1 locs1 ht hvm hw hB hz1 hk1 hS1 => ?_)
  exact kk H1 locs1 (hP.kept (fun k x hx => hk1 x.1 ((hP k x hx).lt) (fun h => (va_A1.mp h).elim (fun z => Nat.lt_irrefl _ (z ▸ hlt k x hx)) (fun z => Nat.lt_irrefl _ (Nat.lt_of_lt_of_le ((hP k x hx).lt) z))))) hS1
theorem px_initJ {dC : Nat → ClassId} {dI : Nat → Nat → Nat} {q ci : Nat} {fs As : List Value} (hJ : JC l y wy rm ci fs As mc ms) (S : CallFix p m c cc nL s args Ts own) (cw : CallB R s args own index y bytes maxL none wy rm mc ms n ∧ y.name = "<init>" ∧ (Cond.instanceMethod y).before args s = true)
    (hK : va_K (dC, dI) clx [] s) (hE : ev s) (hP : va_P (dC, dI) clx ws H) (hq : va_P (dC, dI) clx [(q, .inr (ci, fs))] H) (hlt : ∀ (k : Nat) (x : Nat × va_E), ws[k]? = some x → x.1 < q) (hq0 : H0.size ≤ q) (hS : va_S A H0 H locs) (hA : ∀ q, H0.size ≤ q → A q) (hn : As.length = n) (hsize : ls.size = nL) (hW : (rest.map fun v => v.category).sum ≤ 8) (hdg : decode cc pc = .ok (.invokespecial index, 3)) (hf : cells + mc ≤ R.cells ∧ slots + ms ≤ R.slots)
    (kk : ∀ (H1 : Heap) (locs1 : List Loc), va_P (dC, dI) clx ws H1 → va_S A H0 H1 locs1 → W p l e R s m args below meth c H1 locs1 (cells + mc) (slots + ms) Q (F0 m (pc + 3) ls rest)) : W p l e R s m args below meth c H locs cells slots Q (F0 m pc ls (As.reverse ++ .ref q :: rest)) :=
  px_initJ0 (free := fun _ => True) (va_runI (As := As) (rest := rest) S (hJ dC dI q H.size) cw (px_initP hK hE hq) rfl hn hsize rfl (lv_room hW) hdg hf) hP hlt hq0 hS hA kk
theorem px_initN {dC : Nat → ClassId} {dI : Nat → Nat → Nat} {q ci : Nat} {fs As : List Value} {host : String} (hJ : JC l y wy rm ci fs As mc ms) (S : CallFix p m c cc nL s args Ts own) (cw : va_CN R s args own index y host bytes maxL none wy rm mc ms n ∧ y.name = "<init>" ∧ (Cond.instanceMethod y).before args s = true)
    (hK : va_K (dC, dI) clx [] s) (hE : ev s) (hP : va_P (dC, dI) clx ws H) (hq : va_P (dC, dI) clx [(q, .inr (ci, fs))] H) (hlt : ∀ (k : Nat) (x : Nat × va_E), ws[k]? = some x → x.1 < q) (hq0 : H0.size ≤ q) (hS : va_S A H0 H locs) (hA : ∀ q, H0.size ≤ q → A q) (hn : As.length = n) (hsize : ls.size = nL) (hW : (rest.map fun v => v.category).sum ≤ 8) (hdg : decode cc pc = .ok (.invokespecial index, 3)) (hf : cells + mc ≤ R.cells ∧ slots + ms ≤ R.slots)
    (kk : ∀ (H1 : Heap) (locs1 : List Loc), va_P (dC, dI) clx ws H1 → va_S A H0 H1 locs1 → W p l e R s m args below meth c H1 locs1 (cells + mc) (slots + ms) Q (F0 m (pc + 3) ls rest)) : W p l e R s m args below meth c H locs cells slots Q (F0 m pc ls (As.reverse ++ .ref q :: rest)) :=
  px_initJ0 (free := fun _ => True) (va_runIN (As := As) (rest := rest) S (hJ dC dI q H.size) cw (px_initP hK hE hq) rfl hn hsize rfl (lv_room hW) hdg hf) hP hlt hq0 hS hA kk
theorem px_initK {dC : Nat → ClassId} {dI : Nat → Nat → Nat} {q ci : Nat} {fs As : List Value} {F : List Value → Prop} (hJ : KC l y wy rm ci fs As F mc ms) (S : CallFix p m c cc nL s args Ts own) (cw : CallB R s args own index y bytes maxL none wy rm mc ms n ∧ y.name = "<init>" ∧ (Cond.instanceMethod y).before args s = true)
    (hK : va_K (dC, dI) clx [] s) (hE : ev s) (hP : va_P (dC, dI) clx ws H) (hD : va_D A ws) (hq : va_P (dC, dI) clx [(q, .inr (ci, fs))] H) (hlt : ∀ (k : Nat) (x : Nat × va_E), ws[k]? = some x → x.1 < q) (hq0 : H0.size ≤ q) (hS : va_S A H0 H locs) (hA : ∀ q, H0.size ≤ q → A q) (hn : As.length = n) (hsize : ls.size = nL) (hW : (rest.map fun v => v.category).sum ≤ 8) (hdg : decode cc pc = .ok (.invokespecial index, 3)) (hf : cells + mc ≤ R.cells ∧ slots + ms ≤ R.slots)
    (kk : ∀ (u : List Value) (H1 : Heap) (locs1 : List Loc), F u → va_P (dC, dI) clx (ws ++ [(q, .inr (ci, u))]) H1 → va_D A (ws ++ [(q, .inr (ci, u))]) → va_S A H0 H1 locs1 → W p l e R s m args below meth c H1 locs1 (cells + mc) (slots + ms) Q (F0 m (pc + 3) ls rest)) : W p l e R s m args below meth c H locs cells slots Q (F0 m pc ls (As.reverse ++ .ref q :: rest)) := by
  have hF : ∀ a, va_A [(q, .inr (ci, fs))] H.size a → A a := fun a h => (va_A1.mp h).elim (fun z => by rw [z]; exact hA q hq0) (fun z => hA a (Nat.le_trans hS.1 z))
  refine va_callv (va_runI (As := As) (rest := rest) S (hJ dC dI q H.size) cw (px_initP hK hE hq) rfl hn hsize rfl (lv_room hW) hdg hf) hS (fun a _ h => hF a h) hF (fun u t H1 locs1 ht hvm hw hB hz1 hk1 hS1 => ?_)
  have hP1 : va_P (dC, dI) clx ws H1 := hP.kept (fun k x hx => hk1 x.1 ((hP k x hx).lt) (fun h => (va_A1.mp h).elim (fun z => Nat.lt_irrefl _ (z ▸ hlt k x hx)) (fun z => Nat.lt_irrefl _ (Nat.lt_of_lt_of_le ((hP k x hx).lt) z))))
  rw [ht] at hB
  refine kk u H1 locs1 hw (hP1.app hB) (va_D.app hD ⟨fun i j x y hi hj _ => ?_, fun k x hx => ?_⟩ (fun i j x y hi hj h => ?_)) hS1
  · have h1 : i < 1 := (List.getElem?_eq_some_iff.mp hi).1
    have h2 : j < 1 := (List.getElem?_eq_some_iff.mp hj).1
    omega
  · have h1 : k < 1 := (List.getElem?_eq_some_iff.mp hx).1
    rw [show k = 0 by omega] at hx
    cases hx
    exact hA q hq0
  · have h1 : j < 1 := (List.getElem?_eq_some_iff.mp hj).1
    rw [show j = 0 by omega] at hj
    cases hj
    exact Nat.lt_irrefl _ (h ▸ hlt i x hi)
end JK
end
section
theorem va_D1 {sz : Nat} (q : Nat) (z : va_E) : va_D (va_A [(q, z)] sz) [(q, z)] := by
  refine ⟨fun i j x y hi hj _ => ?_, fun k x hx => ?_⟩
  · have h1 : i < 1 := (List.getElem?_eq_some_iff.mp hi).1
    have h2 : j < 1 := (List.getElem?_eq_some_iff.mp hj).1
    omega
  · have h1 : k < 1 := (List.getElem?_eq_some_iff.mp hx).1
    rw [show k = 0 by omega] at hx
    cases hx
    exact va_A1.mpr (Or.inl rfl)
theorem dX0_init_0 : decode cX0_init 0 = .ok (.aload_n 0, 1) := by decide +kernel
theorem dX0_init_1 : decode cX0_init 1 = .ok (.invokespecial 1, 3) := by decide +kernel
theorem dX0_init_4 : decode cX0_init 4 = .ok (.aload_n 0, 1) := by decide +kernel
theorem dX0_init_5 : decode cX0_init 5 = .ok (.iload_n 1, 1) := by decide +kernel
theorem dX0_init_6 : decode cX0_init 6 = .ok (.ifCond .le 7, 3) := by decide +kernel
theorem dX0_init_9 : decode cX0_init 9 = .ok (.iload_n 1, 1) := by decide +kernel
theorem dX0_init_10 : decode cX0_init 10 = .ok (.goto 4, 3) := by decide +kernel
theorem dX0_init_14 : decode cX0_init 14 = .ok (.newarray .int, 2) := by decide +kernel
theorem dX0_init_16 : decode cX0_init 16 = .ok (.putfield 7, 3) := by decide +kernel
theorem dX0_init_19 : decode cX0_init 19 = .ok (.return_, 1) := by decide +kernel
theorem dX10_init_0 : decode cX10_init 0 = .ok (.aload_n 0, 1) := by decide +kernel
theorem dX10_init_1 : decode cX10_init 1 = .ok (.invokespecial 1, 3) := by decide +kernel
theorem dX10_init_4 : decode cX10_init 4 = .ok (.aload_n 0, 1) := by decide +kernel
theorem dX10_init_5 : decode cX10_init 5 = .ok (.bipush 32, 2) := by decide +kernel
theorem dX10_init_7 : decode cX10_init 7 = .ok (.newarray .long, 2) := by decide +kernel
theorem dX10_init_9 : decode cX10_init 9 = .ok (.putfield 9, 3) := by decide +kernel
theorem dX10_init_12 : decode cX10_init 12 = .ok (.aload_n 0, 1) := by decide +kernel
theorem dX10_init_13 : decode cX10_init 13 = .ok (.bipush 32, 2) := by decide +kernel
theorem dX10_init_15 : decode cX10_init 15 = .ok (.newarray .long, 2) := by decide +kernel
theorem dX10_init_17 : decode cX10_init 17 = .ok (.putfield 13, 3) := by decide +kernel
theorem dX10_init_20 : decode cX10_init 20 = .ok (.return_, 1) := by decide +kernel
theorem dX12_init_0 : decode cX12_init 0 = .ok (.aload_n 0, 1) := by decide +kernel
theorem dX12_init_1 : decode cX12_init 1 = .ok (.invokespecial 1, 3) := by decide +kernel
theorem dX12_init_4 : decode cX12_init 4 = .ok (.aload_n 0, 1) := by decide +kernel
theorem dX12_init_5 : decode cX12_init 5 = .ok (.new 7, 3) := by decide +kernel
theorem dX12_init_8 : decode cX12_init 8 = .ok (.dup, 1) := by decide +kernel
theorem dX12_init_9 : decode cX12_init 9 = .ok (.invokespecial 9, 3) := by decide +kernel
theorem dX12_init_12 : decode cX12_init 12 = .ok (.putfield 10, 3) := by decide +kernel
theorem dX12_init_15 : decode cX12_init 15 = .ok (.aload_n 0, 1) := by decide +kernel
theorem dX12_init_16 : decode cX12_init 16 = .ok (.new 7, 3) := by decide +kernel
theorem dX12_init_19 : decode cX12_init 19 = .ok (.dup, 1) := by decide +kernel
theorem dX12_init_20 : decode cX12_init 20 = .ok (.invokespecial 9, 3) := by decide +kernel
theorem dX12_init_23 : decode cX12_init 23 = .ok (.putfield 16, 3) := by decide +kernel
theorem dX12_init_26 : decode cX12_init 26 = .ok (.return_, 1) := by decide +kernel
theorem dX13_init_0 : decode cX13_init 0 = .ok (.aload_n 0, 1) := by decide +kernel
theorem dX13_init_1 : decode cX13_init 1 = .ok (.invokespecial 3, 3) := by decide +kernel
theorem dX13_init_4 : decode cX13_init 4 = .ok (.aload_n 0, 1) := by decide +kernel
theorem dX13_init_5 : decode cX13_init 5 = .ok (.sipush 460, 3) := by decide +kernel
theorem dX13_init_8 : decode cX13_init 8 = .ok (.newarray .int, 2) := by decide +kernel
theorem dX13_init_10 : decode cX13_init 10 = .ok (.putfield 9, 3) := by decide +kernel
theorem dX13_init_13 : decode cX13_init 13 = .ok (.return_, 1) := by decide +kernel
theorem dX14_init_0 : decode cX14_init 0 = .ok (.aload_n 0, 1) := by decide +kernel
theorem dX14_init_1 : decode cX14_init 1 = .ok (.invokespecial 1, 3) := by decide +kernel
theorem dX14_init_4 : decode cX14_init 4 = .ok (.aload_n 0, 1) := by decide +kernel
theorem dX14_init_5 : decode cX14_init 5 = .ok (.new 7, 3) := by decide +kernel
theorem dX14_init_8 : decode cX14_init 8 = .ok (.dup, 1) := by decide +kernel
theorem dX14_init_9 : decode cX14_init 9 = .ok (.invokespecial 9, 3) := by decide +kernel
theorem dX14_init_12 : decode cX14_init 12 = .ok (.putfield 10, 3) := by decide +kernel
theorem dX14_init_15 : decode cX14_init 15 = .ok (.aload_n 0, 1) := by decide +kernel
theorem dX14_init_16 : decode cX14_init 16 = .ok (.new 7, 3) := by decide +kernel
theorem dX14_init_19 : decode cX14_init 19 = .ok (.dup, 1) := by decide +kernel
theorem dX14_init_20 : decode cX14_init 20 = .ok (.invokespecial 9, 3) := by decide +kernel
theorem dX14_init_23 : decode cX14_init 23 = .ok (.putfield 16, 3) := by decide +kernel
theorem dX14_init_26 : decode cX14_init 26 = .ok (.return_, 1) := by decide +kernel
theorem dX1_init_0 : decode cX1_init 0 = .ok (.aload_n 0, 1) := by decide +kernel
theorem dX1_init_1 : decode cX1_init 1 = .ok (.invokespecial 1, 3) := by decide +kernel
theorem dX1_init_4 : decode cX1_init 4 = .ok (.aload_n 0, 1) := by decide +kernel
theorem dX1_init_5 : decode cX1_init 5 = .ok (.bipush 40, 2) := by decide +kernel
theorem dX1_init_7 : decode cX1_init 7 = .ok (.newarray .boolean, 2) := by decide +kernel
theorem dX1_init_9 : decode cX1_init 9 = .ok (.putfield 9, 3) := by decide +kernel
theorem dX1_init_12 : decode cX1_init 12 = .ok (.aload_n 0, 1) := by decide +kernel
theorem dX1_init_13 : decode cX1_init 13 = .ok (.bipush 40, 2) := by decide +kernel
theorem dX1_init_15 : decode cX1_init 15 = .ok (.newarray .int, 2) := by decide +kernel
theorem dX1_init_17 : decode cX1_init 17 = .ok (.putfield 13, 3) := by decide +kernel
theorem dX1_init_20 : decode cX1_init 20 = .ok (.aload_n 0, 1) := by decide +kernel
theorem dX1_init_21 : decode cX1_init 21 = .ok (.bipush 40, 2) := by decide +kernel
theorem dX1_init_23 : decode cX1_init 23 = .ok (.newarray .long, 2) := by decide +kernel
theorem dX1_init_25 : decode cX1_init 25 = .ok (.putfield 17, 3) := by decide +kernel
theorem dX1_init_28 : decode cX1_init 28 = .ok (.aload_n 0, 1) := by decide +kernel
theorem dX1_init_29 : decode cX1_init 29 = .ok (.bipush 40, 2) := by decide +kernel
theorem dX1_init_31 : decode cX1_init 31 = .ok (.newarray .long, 2) := by decide +kernel
theorem dX1_init_33 : decode cX1_init 33 = .ok (.putfield 21, 3) := by decide +kernel
theorem dX1_init_36 : decode cX1_init 36 = .ok (.aload_n 0, 1) := by decide +kernel
theorem dX1_init_37 : decode cX1_init 37 = .ok (.bipush 40, 2) := by decide +kernel
theorem dX1_init_39 : decode cX1_init 39 = .ok (.newarray .long, 2) := by decide +kernel
theorem dX1_init_41 : decode cX1_init 41 = .ok (.putfield 24, 3) := by decide +kernel
theorem dX1_init_44 : decode cX1_init 44 = .ok (.return_, 1) := by decide +kernel
theorem dX2_init_0 : decode cX2_init 0 = .ok (.aload_n 0, 1) := by decide +kernel
theorem dX2_init_1 : decode cX2_init 1 = .ok (.invokespecial 1, 3) := by decide +kernel
theorem dX2_init_4 : decode cX2_init 4 = .ok (.aload_n 0, 1) := by decide +kernel
theorem dX2_init_5 : decode cX2_init 5 = .ok (.iload_n 1, 1) := by decide +kernel
theorem dX2_init_6 : decode cX2_init 6 = .ok (.putfield 7, 3) := by decide +kernel
theorem dX2_init_9 : decode cX2_init 9 = .ok (.aload_n 0, 1) := by decide +kernel
theorem dX2_init_10 : decode cX2_init 10 = .ok (.iload_n 2, 1) := by decide +kernel
theorem dX2_init_11 : decode cX2_init 11 = .ok (.putfield 13, 3) := by decide +kernel
theorem dX2_init_14 : decode cX2_init 14 = .ok (.aload_n 0, 1) := by decide +kernel
theorem dX2_init_15 : decode cX2_init 15 = .ok (.iload_n 3, 1) := by decide +kernel
theorem dX2_init_16 : decode cX2_init 16 = .ok (.putfield 16, 3) := by decide +kernel
theorem dX2_init_19 : decode cX2_init 19 = .ok (.return_, 1) := by decide +kernel
theorem dX3_init_0 : decode cX3_init 0 = .ok (.aload_n 0, 1) := by decide +kernel
theorem dX3_init_1 : decode cX3_init 1 = .ok (.invokespecial 3, 3) := by decide +kernel
theorem dX3_init_4 : decode cX3_init 4 = .ok (.aload_n 0, 1) := by decide +kernel
theorem dX3_init_5 : decode cX3_init 5 = .ok (.bipush 12, 2) := by decide +kernel
theorem dX3_init_7 : decode cX3_init 7 = .ok (.bipush 64, 2) := by decide +kernel
theorem dX3_init_9 : decode cX3_init 9 = .ok (.multianewarray 11 2, 4) := by decide +kernel
theorem dX3_init_13 : decode cX3_init 13 = .ok (.putfield 13, 3) := by decide +kernel
theorem dX3_init_16 : decode cX3_init 16 = .ok (.aload_n 0, 1) := by decide +kernel
theorem dX3_init_17 : decode cX3_init 17 = .ok (.bipush 64, 2) := by decide +kernel
theorem dX3_init_19 : decode cX3_init 19 = .ok (.newarray .long, 2) := by decide +kernel
theorem dX3_init_21 : decode cX3_init 21 = .ok (.putfield 16, 3) := by decide +kernel
theorem dX3_init_24 : decode cX3_init 24 = .ok (.aload_n 0, 1) := by decide +kernel
theorem dX3_init_25 : decode cX3_init 25 = .ok (.bipush 64, 2) := by decide +kernel
theorem dX3_init_27 : decode cX3_init 27 = .ok (.newarray .long, 2) := by decide +kernel
theorem dX3_init_29 : decode cX3_init 29 = .ok (.putfield 20, 3) := by decide +kernel
theorem dX3_init_32 : decode cX3_init 32 = .ok (.aload_n 0, 1) := by decide +kernel
theorem dX3_init_33 : decode cX3_init 33 = .ok (.bipush 64, 2) := by decide +kernel
theorem dX3_init_35 : decode cX3_init 35 = .ok (.newarray .long, 2) := by decide +kernel
theorem dX3_init_37 : decode cX3_init 37 = .ok (.putfield 23, 3) := by decide +kernel
theorem dX3_init_40 : decode cX3_init 40 = .ok (.aload_n 0, 1) := by decide +kernel
theorem dX3_init_41 : decode cX3_init 41 = .ok (.bipush 64, 2) := by decide +kernel
theorem dX3_init_43 : decode cX3_init 43 = .ok (.newarray .long, 2) := by decide +kernel
theorem dX3_init_45 : decode cX3_init 45 = .ok (.putfield 26, 3) := by decide +kernel
theorem dX3_init_48 : decode cX3_init 48 = .ok (.aload_n 0, 1) := by decide +kernel
theorem dX3_init_49 : decode cX3_init 49 = .ok (.bipush 64, 2) := by decide +kernel
theorem dX3_init_51 : decode cX3_init 51 = .ok (.newarray .int, 2) := by decide +kernel
theorem dX3_init_53 : decode cX3_init 53 = .ok (.putfield 29, 3) := by decide +kernel
theorem dX3_init_56 : decode cX3_init 56 = .ok (.aload_n 0, 1) := by decide +kernel
theorem dX3_init_57 : decode cX3_init 57 = .ok (.iconst (-1), 1) := by decide +kernel
theorem dX3_init_58 : decode cX3_init 58 = .ok (.putfield 33, 3) := by decide +kernel
theorem dX3_init_61 : decode cX3_init 61 = .ok (.return_, 1) := by decide +kernel
theorem dX4_init_0 : decode cX4_init 0 = .ok (.aload_n 0, 1) := by decide +kernel
theorem dX4_init_1 : decode cX4_init 1 = .ok (.invokespecial 3, 3) := by decide +kernel
theorem dX4_init_4 : decode cX4_init 4 = .ok (.aload_n 0, 1) := by decide +kernel
theorem dX4_init_5 : decode cX4_init 5 = .ok (.new 9, 3) := by decide +kernel
theorem dX4_init_8 : decode cX4_init 8 = .ok (.dup, 1) := by decide +kernel
theorem dX4_init_9 : decode cX4_init 9 = .ok (.bipush 64, 2) := by decide +kernel
theorem dX4_init_11 : decode cX4_init 11 = .ok (.invokespecial 13, 3) := by decide +kernel
theorem dX4_init_14 : decode cX4_init 14 = .ok (.putfield 16, 3) := by decide +kernel
theorem dX4_init_17 : decode cX4_init 17 = .ok (.aload_n 0, 1) := by decide +kernel
theorem dX4_init_18 : decode cX4_init 18 = .ok (.new 9, 3) := by decide +kernel
theorem dX4_init_21 : decode cX4_init 21 = .ok (.dup, 1) := by decide +kernel
theorem dX4_init_22 : decode cX4_init 22 = .ok (.bipush 64, 2) := by decide +kernel
theorem dX4_init_24 : decode cX4_init 24 = .ok (.invokespecial 13, 3) := by decide +kernel
theorem dX4_init_27 : decode cX4_init 27 = .ok (.putfield 22, 3) := by decide +kernel
theorem dX4_init_30 : decode cX4_init 30 = .ok (.aload_n 0, 1) := by decide +kernel
theorem dX4_init_31 : decode cX4_init 31 = .ok (.new 9, 3) := by decide +kernel
theorem dX4_init_34 : decode cX4_init 34 = .ok (.dup, 1) := by decide +kernel
theorem dX4_init_35 : decode cX4_init 35 = .ok (.bipush 64, 2) := by decide +kernel
theorem dX4_init_37 : decode cX4_init 37 = .ok (.invokespecial 13, 3) := by decide +kernel
theorem dX4_init_40 : decode cX4_init 40 = .ok (.putfield 25, 3) := by decide +kernel
theorem dX4_init_43 : decode cX4_init 43 = .ok (.aload_n 0, 1) := by decide +kernel
theorem dX4_init_44 : decode cX4_init 44 = .ok (.new 11, 3) := by decide +kernel
theorem dX4_init_47 : decode cX4_init 47 = .ok (.dup, 1) := by decide +kernel
theorem dX4_init_48 : decode cX4_init 48 = .ok (.bipush 64, 2) := by decide +kernel
theorem dX4_init_50 : decode cX4_init 50 = .ok (.invokespecial 28, 3) := by decide +kernel
theorem dX4_init_53 : decode cX4_init 53 = .ok (.putfield 29, 3) := by decide +kernel
theorem dX4_init_56 : decode cX4_init 56 = .ok (.aload_n 0, 1) := by decide +kernel
theorem dX4_init_57 : decode cX4_init 57 = .ok (.new 11, 3) := by decide +kernel
theorem dX4_init_60 : decode cX4_init 60 = .ok (.dup, 1) := by decide +kernel
theorem dX4_init_61 : decode cX4_init 61 = .ok (.bipush 64, 2) := by decide +kernel
theorem dX4_init_63 : decode cX4_init 63 = .ok (.invokespecial 28, 3) := by decide +kernel
theorem dX4_init_66 : decode cX4_init 66 = .ok (.putfield 33, 3) := by decide +kernel
theorem dX4_init_69 : decode cX4_init 69 = .ok (.aload_n 0, 1) := by decide +kernel
theorem dX4_init_70 : decode cX4_init 70 = .ok (.new 11, 3) := by decide +kernel
theorem dX4_init_73 : decode cX4_init 73 = .ok (.dup, 1) := by decide +kernel
theorem dX4_init_74 : decode cX4_init 74 = .ok (.bipush 64, 2) := by decide +kernel
theorem dX4_init_76 : decode cX4_init 76 = .ok (.invokespecial 28, 3) := by decide +kernel
theorem dX4_init_79 : decode cX4_init 79 = .ok (.putfield 36, 3) := by decide +kernel
theorem dX4_init_82 : decode cX4_init 82 = .ok (.aload_n 0, 1) := by decide +kernel
theorem dX4_init_83 : decode cX4_init 83 = .ok (.new 11, 3) := by decide +kernel
theorem dX4_init_86 : decode cX4_init 86 = .ok (.dup, 1) := by decide +kernel
theorem dX4_init_87 : decode cX4_init 87 = .ok (.bipush 64, 2) := by decide +kernel
theorem dX4_init_89 : decode cX4_init 89 = .ok (.invokespecial 28, 3) := by decide +kernel
theorem dX4_init_92 : decode cX4_init 92 = .ok (.putfield 39, 3) := by decide +kernel
theorem dX4_init_95 : decode cX4_init 95 = .ok (.aload_n 0, 1) := by decide +kernel
theorem dX4_init_96 : decode cX4_init 96 = .ok (.new 11, 3) := by decide +kernel
theorem dX4_init_99 : decode cX4_init 99 = .ok (.dup, 1) := by decide +kernel
theorem dX4_init_100 : decode cX4_init 100 = .ok (.bipush 64, 2) := by decide +kernel
theorem dX4_init_102 : decode cX4_init 102 = .ok (.invokespecial 28, 3) := by decide +kernel
theorem dX4_init_105 : decode cX4_init 105 = .ok (.putfield 42, 3) := by decide +kernel
theorem dX4_init_108 : decode cX4_init 108 = .ok (.aload_n 0, 1) := by decide +kernel
theorem dX4_init_109 : decode cX4_init 109 = .ok (.new 11, 3) := by decide +kernel
theorem dX4_init_112 : decode cX4_init 112 = .ok (.dup, 1) := by decide +kernel
theorem dX4_init_113 : decode cX4_init 113 = .ok (.bipush 64, 2) := by decide +kernel
theorem dX4_init_115 : decode cX4_init 115 = .ok (.invokespecial 28, 3) := by decide +kernel
theorem dX4_init_118 : decode cX4_init 118 = .ok (.putfield 45, 3) := by decide +kernel
theorem dX4_init_121 : decode cX4_init 121 = .ok (.aload_n 0, 1) := by decide +kernel
theorem dX4_init_122 : decode cX4_init 122 = .ok (.new 11, 3) := by decide +kernel
theorem dX4_init_125 : decode cX4_init 125 = .ok (.dup, 1) := by decide +kernel
theorem dX4_init_126 : decode cX4_init 126 = .ok (.bipush 64, 2) := by decide +kernel
theorem dX4_init_128 : decode cX4_init 128 = .ok (.invokespecial 28, 3) := by decide +kernel
theorem dX4_init_131 : decode cX4_init 131 = .ok (.putfield 48, 3) := by decide +kernel
theorem dX4_init_134 : decode cX4_init 134 = .ok (.aload_n 0, 1) := by decide +kernel
theorem dX4_init_135 : decode cX4_init 135 = .ok (.new 11, 3) := by decide +kernel
theorem dX4_init_138 : decode cX4_init 138 = .ok (.dup, 1) := by decide +kernel
theorem dX4_init_139 : decode cX4_init 139 = .ok (.bipush 64, 2) := by decide +kernel
theorem dX4_init_141 : decode cX4_init 141 = .ok (.invokespecial 28, 3) := by decide +kernel
theorem dX4_init_144 : decode cX4_init 144 = .ok (.putfield 51, 3) := by decide +kernel
theorem dX4_init_147 : decode cX4_init 147 = .ok (.aload_n 0, 1) := by decide +kernel
theorem dX4_init_148 : decode cX4_init 148 = .ok (.new 11, 3) := by decide +kernel
theorem dX4_init_151 : decode cX4_init 151 = .ok (.dup, 1) := by decide +kernel
theorem dX4_init_152 : decode cX4_init 152 = .ok (.bipush 64, 2) := by decide +kernel
theorem dX4_init_154 : decode cX4_init 154 = .ok (.invokespecial 28, 3) := by decide +kernel
theorem dX4_init_157 : decode cX4_init 157 = .ok (.putfield 54, 3) := by decide +kernel
theorem dX4_init_160 : decode cX4_init 160 = .ok (.aload_n 0, 1) := by decide +kernel
theorem dX4_init_161 : decode cX4_init 161 = .ok (.new 11, 3) := by decide +kernel
theorem dX4_init_164 : decode cX4_init 164 = .ok (.dup, 1) := by decide +kernel
theorem dX4_init_165 : decode cX4_init 165 = .ok (.bipush 64, 2) := by decide +kernel
theorem dX4_init_167 : decode cX4_init 167 = .ok (.invokespecial 28, 3) := by decide +kernel
theorem dX4_init_170 : decode cX4_init 170 = .ok (.putfield 57, 3) := by decide +kernel
theorem dX4_init_173 : decode cX4_init 173 = .ok (.aload_n 0, 1) := by decide +kernel
theorem dX4_init_174 : decode cX4_init 174 = .ok (.new 11, 3) := by decide +kernel
theorem dX4_init_177 : decode cX4_init 177 = .ok (.dup, 1) := by decide +kernel
theorem dX4_init_178 : decode cX4_init 178 = .ok (.bipush 64, 2) := by decide +kernel
theorem dX4_init_180 : decode cX4_init 180 = .ok (.invokespecial 28, 3) := by decide +kernel
theorem dX4_init_183 : decode cX4_init 183 = .ok (.putfield 60, 3) := by decide +kernel
theorem dX4_init_186 : decode cX4_init 186 = .ok (.aload_n 0, 1) := by decide +kernel
theorem dX4_init_187 : decode cX4_init 187 = .ok (.new 11, 3) := by decide +kernel
theorem dX4_init_190 : decode cX4_init 190 = .ok (.dup, 1) := by decide +kernel
theorem dX4_init_191 : decode cX4_init 191 = .ok (.bipush 64, 2) := by decide +kernel
theorem dX4_init_193 : decode cX4_init 193 = .ok (.invokespecial 28, 3) := by decide +kernel
theorem dX4_init_196 : decode cX4_init 196 = .ok (.putfield 63, 3) := by decide +kernel
theorem dX4_init_199 : decode cX4_init 199 = .ok (.aload_n 0, 1) := by decide +kernel
theorem dX4_init_200 : decode cX4_init 200 = .ok (.new 11, 3) := by decide +kernel
theorem dX4_init_203 : decode cX4_init 203 = .ok (.dup, 1) := by decide +kernel
theorem dX4_init_204 : decode cX4_init 204 = .ok (.bipush 64, 2) := by decide +kernel
theorem dX4_init_206 : decode cX4_init 206 = .ok (.invokespecial 28, 3) := by decide +kernel
theorem dX4_init_209 : decode cX4_init 209 = .ok (.putfield 66, 3) := by decide +kernel
theorem dX4_init_212 : decode cX4_init 212 = .ok (.aload_n 0, 1) := by decide +kernel
theorem dX4_init_213 : decode cX4_init 213 = .ok (.new 11, 3) := by decide +kernel
theorem dX4_init_216 : decode cX4_init 216 = .ok (.dup, 1) := by decide +kernel
theorem dX4_init_217 : decode cX4_init 217 = .ok (.bipush 16, 2) := by decide +kernel
theorem dX4_init_219 : decode cX4_init 219 = .ok (.invokespecial 28, 3) := by decide +kernel
theorem dX4_init_222 : decode cX4_init 222 = .ok (.putfield 69, 3) := by decide +kernel
theorem dX4_init_225 : decode cX4_init 225 = .ok (.return_, 1) := by decide +kernel
theorem dX5_init_0 : decode cX5_init 0 = .ok (.aload_n 0, 1) := by decide +kernel
theorem dX5_init_1 : decode cX5_init 1 = .ok (.invokespecial 3, 3) := by decide +kernel
theorem dX5_init_4 : decode cX5_init 4 = .ok (.return_, 1) := by decide +kernel
theorem dX6_init_0 : decode cX6_init 0 = .ok (.aload_n 0, 1) := by decide +kernel
theorem dX6_init_1 : decode cX6_init 1 = .ok (.invokespecial 3, 3) := by decide +kernel
theorem dX6_init_4 : decode cX6_init 4 = .ok (.aload_n 0, 1) := by decide +kernel
theorem dX6_init_5 : decode cX6_init 5 = .ok (.sipush 2000, 3) := by decide +kernel
theorem dX6_init_8 : decode cX6_init 8 = .ok (.newarray .int, 2) := by decide +kernel
theorem dX6_init_10 : decode cX6_init 10 = .ok (.putfield 9, 3) := by decide +kernel
theorem dX6_init_13 : decode cX6_init 13 = .ok (.aload_n 0, 1) := by decide +kernel
theorem dX6_init_14 : decode cX6_init 14 = .ok (.sipush 2112, 3) := by decide +kernel
theorem dX6_init_17 : decode cX6_init 17 = .ok (.newarray .long, 2) := by decide +kernel
theorem dX6_init_19 : decode cX6_init 19 = .ok (.putfield 15, 3) := by decide +kernel
theorem dX6_init_22 : decode cX6_init 22 = .ok (.aload_n 0, 1) := by decide +kernel
theorem dX6_init_23 : decode cX6_init 23 = .ok (.sipush 2000, 3) := by decide +kernel
theorem dX6_init_26 : decode cX6_init 26 = .ok (.newarray .byte, 2) := by decide +kernel
theorem dX6_init_28 : decode cX6_init 28 = .ok (.putfield 19, 3) := by decide +kernel
theorem dX6_init_31 : decode cX6_init 31 = .ok (.return_, 1) := by decide +kernel
theorem dX7_init_0 : decode cX7_init 0 = .ok (.aload_n 0, 1) := by decide +kernel
theorem dX7_init_1 : decode cX7_init 1 = .ok (.invokespecial 5, 3) := by decide +kernel
theorem dX7_init_4 : decode cX7_init 4 = .ok (.aload_n 0, 1) := by decide +kernel
theorem dX7_init_5 : decode cX7_init 5 = .ok (.bipush 64, 2) := by decide +kernel
theorem dX7_init_7 : decode cX7_init 7 = .ok (.newarray .long, 2) := by decide +kernel
theorem dX7_init_9 : decode cX7_init 9 = .ok (.putfield 11, 3) := by decide +kernel
theorem dX7_init_12 : decode cX7_init 12 = .ok (.return_, 1) := by decide +kernel
theorem dX8_init_0 : decode cX8_init 0 = .ok (.aload_n 0, 1) := by decide +kernel
theorem dX8_init_1 : decode cX8_init 1 = .ok (.invokespecial 1, 3) := by decide +kernel
theorem dX8_init_4 : decode cX8_init 4 = .ok (.aload_n 0, 1) := by decide +kernel
theorem dX8_init_5 : decode cX8_init 5 = .ok (.bipush 64, 2) := by decide +kernel
theorem dX8_init_7 : decode cX8_init 7 = .ok (.newarray .int, 2) := by decide +kernel
theorem dX8_init_9 : decode cX8_init 9 = .ok (.putfield 9, 3) := by decide +kernel
theorem dX8_init_12 : decode cX8_init 12 = .ok (.aload_n 0, 1) := by decide +kernel
theorem dX8_init_13 : decode cX8_init 13 = .ok (.bipush 64, 2) := by decide +kernel
theorem dX8_init_15 : decode cX8_init 15 = .ok (.newarray .int, 2) := by decide +kernel
theorem dX8_init_17 : decode cX8_init 17 = .ok (.putfield 13, 3) := by decide +kernel
theorem dX8_init_20 : decode cX8_init 20 = .ok (.aload_n 0, 1) := by decide +kernel
theorem dX8_init_21 : decode cX8_init 21 = .ok (.bipush 64, 2) := by decide +kernel
theorem dX8_init_23 : decode cX8_init 23 = .ok (.newarray .long, 2) := by decide +kernel
theorem dX8_init_25 : decode cX8_init 25 = .ok (.putfield 16, 3) := by decide +kernel
theorem dX8_init_28 : decode cX8_init 28 = .ok (.return_, 1) := by decide +kernel
theorem dX9_init_0 : decode cX9_init 0 = .ok (.aload_n 0, 1) := by decide +kernel
theorem dX9_init_1 : decode cX9_init 1 = .ok (.invokespecial 1, 3) := by decide +kernel
theorem dX9_init_4 : decode cX9_init 4 = .ok (.aload_n 0, 1) := by decide +kernel
theorem dX9_init_5 : decode cX9_init 5 = .ok (.new 7, 3) := by decide +kernel
theorem dX9_init_8 : decode cX9_init 8 = .ok (.dup, 1) := by decide +kernel
theorem dX9_init_9 : decode cX9_init 9 = .ok (.iload_n 1, 1) := by decide +kernel
theorem dX9_init_10 : decode cX9_init 10 = .ok (.invokespecial 9, 3) := by decide +kernel
theorem dX9_init_13 : decode cX9_init 13 = .ok (.putfield 12, 3) := by decide +kernel
theorem dX9_init_16 : decode cX9_init 16 = .ok (.aload_n 0, 1) := by decide +kernel
theorem dX9_init_17 : decode cX9_init 17 = .ok (.new 7, 3) := by decide +kernel
theorem dX9_init_20 : decode cX9_init 20 = .ok (.dup, 1) := by decide +kernel
theorem dX9_init_21 : decode cX9_init 21 = .ok (.iload_n 1, 1) := by decide +kernel
theorem dX9_init_22 : decode cX9_init 22 = .ok (.invokespecial 9, 3) := by decide +kernel
theorem dX9_init_25 : decode cX9_init 25 = .ok (.putfield 18, 3) := by decide +kernel
theorem dX9_init_28 : decode cX9_init 28 = .ok (.aload_n 0, 1) := by decide +kernel
theorem dX9_init_29 : decode cX9_init 29 = .ok (.new 7, 3) := by decide +kernel
theorem dX9_init_32 : decode cX9_init 32 = .ok (.dup, 1) := by decide +kernel
theorem dX9_init_33 : decode cX9_init 33 = .ok (.iload_n 1, 1) := by decide +kernel
theorem dX9_init_34 : decode cX9_init 34 = .ok (.invokespecial 9, 3) := by decide +kernel
theorem dX9_init_37 : decode cX9_init 37 = .ok (.putfield 21, 3) := by decide +kernel
theorem dX9_init_40 : decode cX9_init 40 = .ok (.return_, 1) := by decide +kernel
def wk_X0_init : List Cond := .code yX0_init cX0_init 2 none :: wU
set_option maxHeartbeats 4000000 in
set_option maxRecDepth 100000 in
theorem j_X0_init (l : Launch) (k : Int32) (N : Nat) (h0k : ¬ k < 0) (h1k : ¬ k ≤ 0) (hN : k.toNatClampNeg = N) (hN2 : N ≤ 64) : JC l yX0_init wk_X0_init ({ frames := 2, cells := 1, slots := 64, locals := 60 } : Room) 0 dfX0 [.int k] 1 64 := by
  intro dC dI h0 sz
  refine Met.ofW (cc := cX0_init) (maxL := 2) (ret := none) (by decide) rfl ?_
  intro p e s m args below meth c s₁ B hml hv
  obtain ⟨rfl, hsz, hP, hK, hev⟩ := hv
  have hx := B.exec
  have hb := B.bytes
  have hr := B.returns
  have hts := atoms_spec (ws := wk_X0_init) B.pre
  have hu : ∀ w ∈ wU, w.before (Value.ref h0 :: [.int k]).toArray s = true := fun w h => hts w (List.mem_cons_of_mem _ h)
  have hown : s.vm.findClass RX0 = some m.cls := findClass_of_methodNamed B.named
  have hlocks := B.notSynchronized
  have hin : meth.name = "<init>" := (name_of_methodNamed B.named B.method).1
  subst hsz
  have hD := va_D1 (sz := s.heap.size) h0 (.inr (0, dfX0))
  generalize hAe : va_A [(h0, .inr (0, dfX0))] s.heap.size = A at hD ⊢
  have hA : ∀ q : Nat, s.heap.size ≤ q → A q := fun q h => by rw [← hAe]; exact Or.inr h
  have hS : va_S A s.heap s.heap [] := va_S.rf
  have hP : va_P (dC, dI) clx [(h0, .inr (0, [.null, .int 0, .int 0]))] s.heap := hP
  have hD : va_D A [(h0, .inr (0, [.null, .int 0, .int 0]))] := hD
  have hl := lv_entry ([.ref h0, .int k]) (n := 2) (Nat.le_of_ble_eq_true rfl)
  rw [lg_entry_eq]
  generalize (lg_sl ([.ref h0, .int k]) ++ List.replicate (2 - (lg_sl ([.ref h0, .int k])).length) Slot.unset).toArray = ls at hl ⊢
  have hl : lv_has ls 2 [(0, .ref h0), (1, .int k)] := hl
  refine lv_aload_n hx hb dX0_init_0 rfl (lv_at hl 0 rfl) ?_
  refine W.objInit hx hb hown (hu _ u0) (hu _ u1) (hu _ u2) rfl (by rw [hml]; exact hl.1) rfl dX0_init_1 (Nat.le_of_ble_eq_true rfl) (Nat.le_of_ble_eq_true rfl) ?_
  refine W.eq (g2 := F0 m 4 ls []) rfl ?_
  refine lv_aload_n hx hb dX0_init_4 rfl (lv_at hl 0 rfl) ?_
  refine lv_iload_n hx hb dX0_init_5 rfl (lv_at hl 1 rfl) ?_
  refine lv_if_le (tgt := 13) hx hb dX0_init_6 (by decide) (fun c9 => absurd c9 h1k) (fun c9 => ?_)
  refine lv_iload_n hx hb dX0_init_9 rfl (lv_at hl 1 rfl) ?_
  refine lv_goto (tgt := 14) hx hb dX0_init_10 (by decide) ?_
  refine px_newaJ (atype := .int) hx hb (hu _ u3) hP hS N h0k hN (show N * 4 ≤ 536870912 by omega) (Nat.le_of_ble_eq_true rfl) (show 0 + N ≤ 64 by omega) dX0_init_14 (fun q1 H hP hS => ?_)
  refine W.widen (k := 1) (n := 64) (by omega) (by omega) ?_
  refine va_putF (D := (dC, dI)) (ci := 0) (v := .ref q1) (ty := .array .int) (C := RX0) (T := TX0) (N := 3) hx hb hu iX0 tyX0 tyX0_ok nmX0 hown hK hP hD hS 0 rfl rfl 0 (by decide) (hu _ u4) (fun _ h9 => h9) rfl hin rfl (by decide +kernel) rfl rfl (Nat.le_of_ble_eq_true rfl) dX0_init_16 (fun H locs hP hD hS => ?_)
  have hP : va_P (dC, dI) clx [(h0, .inr (0, [.ref q1, .int 0, .int 0]))] H := hP
  have hD : va_D A [(h0, .inr (0, [.ref q1, .int 0, .int 0]))] := hD
  refine W.widen (k := 1) (n := 64) (Nat.le_of_ble_eq_true rfl) (Nat.le_of_ble_eq_true rfl) ?_
  exact W.vret hx hb hr (fun t ht hW => ⟨⟨(), rfl, trivial, trivial⟩, hS.F ht⟩) hS.2.2 dX0_init_19
def wk_X9_init : List Cond := .code yX9_init cX9_init 2 none :: wU
set_option maxHeartbeats 4000000 in
set_option maxRecDepth 100000 in
theorem j_X9_init (l : Launch) (k : Int32) (N : Nat) (h0k : ¬ k < 0) (h1k : ¬ k ≤ 0) (hN : k.toNatClampNeg = N) (hN2 : N ≤ 64) : JC l yX9_init wk_X9_init ({ frames := 3, cells := 6, slots := 201, locals := 81 } : Room) 9 dfX9 [.int k] 6 201 := by
  intro dC dI h0 sz
  refine Met.ofW (cc := cX9_init) (maxL := 2) (ret := none) (by decide) rfl ?_
  intro p e s m args below meth c s₁ B hml hv
  obtain ⟨rfl, hsz, hP, hK, hev⟩ := hv
  have hx := B.exec
  have hb := B.bytes
  have hr := B.returns
  have hts := atoms_spec (ws := wk_X9_init) B.pre
  have hu : ∀ w ∈ wU, w.before (Value.ref h0 :: [.int k]).toArray s = true := fun w h => hts w (List.mem_cons_of_mem _ h)
  have hown : s.vm.findClass RX9 = some m.cls := findClass_of_methodNamed B.named
  have hlocks := B.notSynchronized
  have hin : meth.name = "<init>" := (name_of_methodNamed B.named B.method).1
  subst hsz
  have hD := va_D1 (sz := s.heap.size) h0 (.inr (9, dfX9))
  generalize hAe : va_A [(h0, .inr (9, dfX9))] s.heap.size = A at hD ⊢
  have hA : ∀ q : Nat, s.heap.size ≤ q → A q := fun q h => by rw [← hAe]; exact Or.inr h
  have hS : va_S A s.heap s.heap [] := va_S.rf
  have hP : va_P (dC, dI) clx [(h0, .inr (9, [.int 0, .int 0, .long 0, .null, .null, .null]))] s.heap := hP
  have hD : va_D A [(h0, .inr (9, [.int 0, .int 0, .long 0, .null, .null, .null]))] := hD
  have hl := lv_entry ([.ref h0, .int k]) (n := 2) (Nat.le_of_ble_eq_true rfl)
  rw [lg_entry_eq]
  generalize (lg_sl ([.ref h0, .int k]) ++ List.replicate (2 - (lg_sl ([.ref h0, .int k])).length) Slot.unset).toArray = ls at hl ⊢
  have hl : lv_has ls 2 [(0, .ref h0), (1, .int k)] := hl
  refine lv_aload_n hx hb dX9_init_0 rfl (lv_at hl 0 rfl) ?_
  refine W.objInit hx hb hown (hu _ u5) (hu _ u1) (hu _ u2) rfl (by rw [hml]; exact hl.1) rfl dX9_init_1 (Nat.le_of_ble_eq_true rfl) (Nat.le_of_ble_eq_true rfl) ?_
  refine W.eq (g2 := F0 m 4 ls []) rfl ?_
  refine lv_aload_n hx hb dX9_init_4 rfl (lv_at hl 0 rfl) ?_
  refine px_new (ci := 0) (fs := dfX0) (C := RX0) (T := TX0) (N := 3) hx hb hu iX0 tyX0 tyX0_ok hown (hu _ u6) (hu _ u7) (hu _ u8) hK hP hS rfl dfX0_ok (Nat.le_of_ble_eq_true rfl) (Nat.le_of_ble_eq_true rfl) dX9_init_5 (fun q1 H hP hq hlt hq0 hS => ?_)
  refine W.widen (k := 1) (n := 3) (Nat.le_of_ble_eq_true rfl) (Nat.le_of_ble_eq_true rfl) ?_
  refine lv_dup hx hb dX9_init_8 rfl ?_
  refine lv_iload_n hx hb dX9_init_9 rfl (lv_at hl 1 rfl) ?_
  refine px_initJ (As := [.int k]) (rest := [.ref q1, .ref h0]) (nL := 2) (j_X0_init l k N h0k h1k hN hN2) ⟨hx, hb, hml, hown, hu⟩ (cwI 1 hu (gC u10) rfl rfl rfl (hu _ u8) (hu _ u11) (hu _ u9) rfl (by decide +kernel) ⟨(Nat.le_of_ble_eq_true rfl), (Nat.le_of_ble_eq_true rfl)⟩) hK hev hP hq hlt hq0 hS hA rfl hl.1 (Nat.le_of_ble_eq_true rfl) dX9_init_10 ⟨(Nat.le_of_ble_eq_true rfl), (Nat.le_of_ble_eq_true rfl)⟩ (fun H locs hP hS => ?_)
  refine W.widen (k := 2) (n := 67) (Nat.le_of_ble_eq_true rfl) (Nat.le_of_ble_eq_true rfl) ?_
  refine va_putF (D := (dC, dI)) (ci := 9) (v := .ref q1) (ty := .object "CubicBench$Big") (C := RX9) (T := TX9) (N := 6) hx hb hu iX9 tyX9 tyX9_ok nmX9 hown hK hP hD hS 0 rfl rfl 3 (by decide) (hu _ u12) (fun _ h9 => h9) rfl hin rfl (by decide +kernel) rfl rfl (Nat.le_of_ble_eq_true rfl) dX9_init_13 (fun H locs hP hD hS => ?_)
  have hP : va_P (dC, dI) clx [(h0, .inr (9, [.int 0, .int 0, .long 0, .ref q1, .null, .null]))] H := hP
  have hD : va_D A [(h0, .inr (9, [.int 0, .int 0, .long 0, .ref q1, .null, .null]))] := hD
  refine lv_aload_n hx hb dX9_init_16 rfl (lv_at hl 0 rfl) ?_
  refine px_new (ci := 0) (fs := dfX0) (C := RX0) (T := TX0) (N := 3) hx hb hu iX0 tyX0 tyX0_ok hown (hu _ u6) (hu _ u7) (hu _ u8) hK hP hS rfl dfX0_ok (Nat.le_of_ble_eq_true rfl) (Nat.le_of_ble_eq_true rfl) dX9_init_17 (fun q2 H hP hq hlt hq0 hS => ?_)
  refine W.widen (k := 3) (n := 70) (Nat.le_of_ble_eq_true rfl) (Nat.le_of_ble_eq_true rfl) ?_
  refine lv_dup hx hb dX9_init_20 rfl ?_
  refine lv_iload_n hx hb dX9_init_21 rfl (lv_at hl 1 rfl) ?_
  refine px_initJ (As := [.int k]) (rest := [.ref q2, .ref h0]) (nL := 2) (j_X0_init l k N h0k h1k hN hN2) ⟨hx, hb, hml, hown, hu⟩ (cwI 1 hu (gC u10) rfl rfl rfl (hu _ u8) (hu _ u11) (hu _ u9) rfl (by decide +kernel) ⟨(Nat.le_of_ble_eq_true rfl), (Nat.le_of_ble_eq_true rfl)⟩) hK hev hP hq hlt hq0 hS hA rfl hl.1 (Nat.le_of_ble_eq_true rfl) dX9_init_22 ⟨(Nat.le_of_ble_eq_true rfl), (Nat.le_of_ble_eq_true rfl)⟩ (fun H locs hP hS => ?_)
  refine W.widen (k := 4) (n := 134) (Nat.le_of_ble_eq_true rfl) (Nat.le_of_ble_eq_true rfl) ?_
  refine va_putF (D := (dC, dI)) (ci := 9) (v := .ref q2) (ty := .object "CubicBench$Big") (C := RX9) (T := TX9) (N := 6) hx hb hu iX9 tyX9 tyX9_ok nmX9 hown hK hP hD hS 0 rfl rfl 4 (by decide) (hu _ u13) (fun _ h9 => h9) rfl hin rfl (by decide +kernel) rfl rfl (Nat.le_of_ble_eq_true rfl) dX9_init_25 (fun H locs hP hD hS => ?_)
  have hP : va_P (dC, dI) clx [(h0, .inr (9, [.int 0, .int 0, .long 0, .ref q1, .ref q2, .null]))] H := hP
  have hD : va_D A [(h0, .inr (9, [.int 0, .int 0, .long 0, .ref q1, .ref q2, .null]))] := hD
  refine lv_aload_n hx hb dX9_init_28 rfl (lv_at hl 0 rfl) ?_
  refine px_new (ci := 0) (fs := dfX0) (C := RX0) (T := TX0) (N := 3) hx hb hu iX0 tyX0 tyX0_ok hown (hu _ u6) (hu _ u7) (hu _ u8) hK hP hS rfl dfX0_ok (Nat.le_of_ble_eq_true rfl) (Nat.le_of_ble_eq_true rfl) dX9_init_29 (fun q3 H hP hq hlt hq0 hS => ?_)
  refine W.widen (k := 5) (n := 137) (Nat.le_of_ble_eq_true rfl) (Nat.le_of_ble_eq_true rfl) ?_
  refine lv_dup hx hb dX9_init_32 rfl ?_
  refine lv_iload_n hx hb dX9_init_33 rfl (lv_at hl 1 rfl) ?_
  refine px_initJ (As := [.int k]) (rest := [.ref q3, .ref h0]) (nL := 2) (j_X0_init l k N h0k h1k hN hN2) ⟨hx, hb, hml, hown, hu⟩ (cwI 1 hu (gC u10) rfl rfl rfl (hu _ u8) (hu _ u11) (hu _ u9) rfl (by decide +kernel) ⟨(Nat.le_of_ble_eq_true rfl), (Nat.le_of_ble_eq_true rfl)⟩) hK hev hP hq hlt hq0 hS hA rfl hl.1 (Nat.le_of_ble_eq_true rfl) dX9_init_34 ⟨(Nat.le_of_ble_eq_true rfl), (Nat.le_of_ble_eq_true rfl)⟩ (fun H locs hP hS => ?_)
  refine W.widen (k := 6) (n := 201) (Nat.le_of_ble_eq_true rfl) (Nat.le_of_ble_eq_true rfl) ?_
  refine va_putF (D := (dC, dI)) (ci := 9) (v := .ref q3) (ty := .object "CubicBench$Big") (C := RX9) (T := TX9) (N := 6) hx hb hu iX9 tyX9 tyX9_ok nmX9 hown hK hP hD hS 0 rfl rfl 5 (by decide) (hu _ u14) (fun _ h9 => h9) rfl hin rfl (by decide +kernel) rfl rfl (Nat.le_of_ble_eq_true rfl) dX9_init_37 (fun H locs hP hD hS => ?_)
  have hP : va_P (dC, dI) clx [(h0, .inr (9, [.int 0, .int 0, .long 0, .ref q1, .ref q2, .ref q3]))] H := hP
  have hD : va_D A [(h0, .inr (9, [.int 0, .int 0, .long 0, .ref q1, .ref q2, .ref q3]))] := hD
  refine W.widen (k := 6) (n := 201) (Nat.le_of_ble_eq_true rfl) (Nat.le_of_ble_eq_true rfl) ?_
  exact W.vret hx hb hr (fun t ht hW => ⟨⟨(), rfl, trivial, trivial⟩, hS.F ht⟩) hS.2.2 dX9_init_40
def wk_X1_init : List Cond := .code yX1_init cX1_init 1 none :: wU
set_option maxHeartbeats 4000000 in
set_option maxRecDepth 100000 in
theorem j_X1_init (l : Launch) : JC l yX1_init wk_X1_init ({ frames := 2, cells := 5, slots := 200, locals := 60 } : Room) 1 dfX1 [] 5 200 := by
  intro dC dI h0 sz
  refine Met.ofW (cc := cX1_init) (maxL := 1) (ret := none) (by decide) rfl ?_
  intro p e s m args below meth c s₁ B hml hv
  obtain ⟨rfl, hsz, hP, hK, hev⟩ := hv
  have hx := B.exec
  have hb := B.bytes
  have hr := B.returns
  have hts := atoms_spec (ws := wk_X1_init) B.pre
  have hu : ∀ w ∈ wU, w.before (Value.ref h0 :: []).toArray s = true := fun w h => hts w (List.mem_cons_of_mem _ h)
  have hown : s.vm.findClass RX1 = some m.cls := findClass_of_methodNamed B.named
  have hlocks := B.notSynchronized
  have hin : meth.name = "<init>" := (name_of_methodNamed B.named B.method).1
  subst hsz
  have hD := va_D1 (sz := s.heap.size) h0 (.inr (1, dfX1))
  generalize hAe : va_A [(h0, .inr (1, dfX1))] s.heap.size = A at hD ⊢
  have hA : ∀ q : Nat, s.heap.size ≤ q → A q := fun q h => by rw [← hAe]; exact Or.inr h
  have hS : va_S A s.heap s.heap [] := va_S.rf
  have hP : va_P (dC, dI) clx [(h0, .inr (1, [.null, .null, .null, .null, .null, .int 0]))] s.heap := hP
  have hD : va_D A [(h0, .inr (1, [.null, .null, .null, .null, .null, .int 0]))] := hD
  have hl := lv_entry ([.ref h0]) (n := 1) (Nat.le_of_ble_eq_true rfl)
  rw [lg_entry_eq]
  generalize (lg_sl ([.ref h0]) ++ List.replicate (1 - (lg_sl ([.ref h0])).length) Slot.unset).toArray = ls at hl ⊢
  have hl : lv_has ls 1 [(0, .ref h0)] := hl
  refine lv_aload_n hx hb dX1_init_0 rfl (lv_at hl 0 rfl) ?_
  refine W.objInit hx hb hown (hu _ u15) (hu _ u1) (hu _ u2) rfl (by rw [hml]; exact hl.1) rfl dX1_init_1 (Nat.le_of_ble_eq_true rfl) (Nat.le_of_ble_eq_true rfl) ?_
  refine W.eq (g2 := F0 m 4 ls []) rfl ?_
  refine lv_aload_n hx hb dX1_init_4 rfl (lv_at hl 0 rfl) ?_
  refine lv_bipush (v := 40) hx hb dX1_init_5 (by decide) ?_
  refine px_newaJ (atype := .boolean) hx hb (hu _ u16) hP hS 40 (by decide) (by decide) (by decide) (Nat.le_of_ble_eq_true rfl) (Nat.le_of_ble_eq_true rfl) dX1_init_7 (fun q1 H hP hS => ?_)
  refine W.widen (k := 1) (n := 40) (Nat.le_of_ble_eq_true rfl) (Nat.le_of_ble_eq_true rfl) ?_
  refine va_putF (D := (dC, dI)) (ci := 1) (v := .ref q1) (ty := .array .boolean) (C := RX1) (T := TX1) (N := 6) hx hb hu iX1 tyX1 tyX1_ok nmX1 hown hK hP hD hS 0 rfl rfl 0 (by decide) (hu _ u17) (fun _ h9 => h9) rfl hin rfl (by decide +kernel) rfl rfl (Nat.le_of_ble_eq_true rfl) dX1_init_9 (fun H locs hP hD hS => ?_)
  have hP : va_P (dC, dI) clx [(h0, .inr (1, [.ref q1, .null, .null, .null, .null, .int 0]))] H := hP
  have hD : va_D A [(h0, .inr (1, [.ref q1, .null, .null, .null, .null, .int 0]))] := hD
  refine lv_aload_n hx hb dX1_init_12 rfl (lv_at hl 0 rfl) ?_
  refine lv_bipush (v := 40) hx hb dX1_init_13 (by decide) ?_
  refine px_newaJ (atype := .int) hx hb (hu _ u3) hP hS 40 (by decide) (by decide) (by decide) (Nat.le_of_ble_eq_true rfl) (Nat.le_of_ble_eq_true rfl) dX1_init_15 (fun q2 H hP hS => ?_)
  refine W.widen (k := 2) (n := 80) (Nat.le_of_ble_eq_true rfl) (Nat.le_of_ble_eq_true rfl) ?_
  refine va_putF (D := (dC, dI)) (ci := 1) (v := .ref q2) (ty := .array .int) (C := RX1) (T := TX1) (N := 6) hx hb hu iX1 tyX1 tyX1_ok nmX1 hown hK hP hD hS 0 rfl rfl 1 (by decide) (hu _ u18) (fun _ h9 => h9) rfl hin rfl (by decide +kernel) rfl rfl (Nat.le_of_ble_eq_true rfl) dX1_init_17 (fun H locs hP hD hS => ?_)
  have hP : va_P (dC, dI) clx [(h0, .inr (1, [.ref q1, .ref q2, .null, .null, .null, .int 0]))] H := hP
  have hD : va_D A [(h0, .inr (1, [.ref q1, .ref q2, .null, .null, .null, .int 0]))] := hD
  refine lv_aload_n hx hb dX1_init_20 rfl (lv_at hl 0 rfl) ?_
  refine lv_bipush (v := 40) hx hb dX1_init_21 (by decide) ?_
  refine px_newaJ (atype := .long) hx hb (hu _ u19) hP hS 40 (by decide) (by decide) (by decide) (Nat.le_of_ble_eq_true rfl) (Nat.le_of_ble_eq_true rfl) dX1_init_23 (fun q3 H hP hS => ?_)
  refine W.widen (k := 3) (n := 120) (Nat.le_of_ble_eq_true rfl) (Nat.le_of_ble_eq_true rfl) ?_
  refine va_putF (D := (dC, dI)) (ci := 1) (v := .ref q3) (ty := .array .long) (C := RX1) (T := TX1) (N := 6) hx hb hu iX1 tyX1 tyX1_ok nmX1 hown hK hP hD hS 0 rfl rfl 2 (by decide) (hu _ u20) (fun _ h9 => h9) rfl hin rfl (by decide +kernel) rfl rfl (Nat.le_of_ble_eq_true rfl) dX1_init_25 (fun H locs hP hD hS => ?_)
  have hP : va_P (dC, dI) clx [(h0, .inr (1, [.ref q1, .ref q2, .ref q3, .null, .null, .int 0]))] H := hP
  have hD : va_D A [(h0, .inr (1, [.ref q1, .ref q2, .ref q3, .null, .null, .int 0]))] := hD
  refine lv_aload_n hx hb dX1_init_28 rfl (lv_at hl 0 rfl) ?_
  refine lv_bipush (v := 40) hx hb dX1_init_29 (by decide) ?_
  refine px_newaJ (atype := .long) hx hb (hu _ u19) hP hS 40 (by decide) (by decide) (by decide) (Nat.le_of_ble_eq_true rfl) (Nat.le_of_ble_eq_true rfl) dX1_init_31 (fun q4 H hP hS => ?_)
  refine W.widen (k := 4) (n := 160) (Nat.le_of_ble_eq_true rfl) (Nat.le_of_ble_eq_true rfl) ?_
  refine va_putF (D := (dC, dI)) (ci := 1) (v := .ref q4) (ty := .array .long) (C := RX1) (T := TX1) (N := 6) hx hb hu iX1 tyX1 tyX1_ok nmX1 hown hK hP hD hS 0 rfl rfl 3 (by decide) (hu _ u21) (fun _ h9 => h9) rfl hin rfl (by decide +kernel) rfl rfl (Nat.le_of_ble_eq_true rfl) dX1_init_33 (fun H locs hP hD hS => ?_)
  have hP : va_P (dC, dI) clx [(h0, .inr (1, [.ref q1, .ref q2, .ref q3, .ref q4, .null, .int 0]))] H := hP
  have hD : va_D A [(h0, .inr (1, [.ref q1, .ref q2, .ref q3, .ref q4, .null, .int 0]))] := hD
  refine lv_aload_n hx hb dX1_init_36 rfl (lv_at hl 0 rfl) ?_
  refine lv_bipush (v := 40) hx hb dX1_init_37 (by decide) ?_
  refine px_newaJ (atype := .long) hx hb (hu _ u19) hP hS 40 (by decide) (by decide) (by decide) (Nat.le_of_ble_eq_true rfl) (Nat.le_of_ble_eq_true rfl) dX1_init_39 (fun q5 H hP hS => ?_)
  refine W.widen (k := 5) (n := 200) (Nat.le_of_ble_eq_true rfl) (Nat.le_of_ble_eq_true rfl) ?_
  refine va_putF (D := (dC, dI)) (ci := 1) (v := .ref q5) (ty := .array .long) (C := RX1) (T := TX1) (N := 6) hx hb hu iX1 tyX1 tyX1_ok nmX1 hown hK hP hD hS 0 rfl rfl 4 (by decide) (hu _ u22) (fun _ h9 => h9) rfl hin rfl (by decide +kernel) rfl rfl (Nat.le_of_ble_eq_true rfl) dX1_init_41 (fun H locs hP hD hS => ?_)
  have hP : va_P (dC, dI) clx [(h0, .inr (1, [.ref q1, .ref q2, .ref q3, .ref q4, .ref q5, .int 0]))] H := hP
  have hD : va_D A [(h0, .inr (1, [.ref q1, .ref q2, .ref q3, .ref q4, .ref q5, .int 0]))] := hD
  refine W.widen (k := 5) (n := 200) (Nat.le_of_ble_eq_true rfl) (Nat.le_of_ble_eq_true rfl) ?_
  exact W.vret hx hb hr (fun t ht hW => ⟨⟨(), rfl, trivial, trivial⟩, hS.F ht⟩) hS.2.2 dX1_init_44
def wk_X5_init : List Cond := .code yX5_init cX5_init 1 none :: wU
set_option maxHeartbeats 4000000 in
set_option maxRecDepth 100000 in
theorem j_X5_init (l : Launch) : JC l yX5_init wk_X5_init ({ frames := 2, cells := 0, slots := 0, locals := 60 } : Room) 5 dfX5 [] 0 0 := by
  intro dC dI h0 sz
  refine Met.ofW (cc := cX5_init) (maxL := 1) (ret := none) (by decide) rfl ?_
  intro p e s m args below meth c s₁ B hml hv
  obtain ⟨rfl, hsz, hP, hK, hev⟩ := hv
  have hx := B.exec
  have hb := B.bytes
  have hr := B.returns
  have hts := atoms_spec (ws := wk_X5_init) B.pre
  have hu : ∀ w ∈ wU, w.before (Value.ref h0 :: []).toArray s = true := fun w h => hts w (List.mem_cons_of_mem _ h)
  have hown : s.vm.findClass RX5 = some m.cls := findClass_of_methodNamed B.named
  have hlocks := B.notSynchronized
  have hin : meth.name = "<init>" := (name_of_methodNamed B.named B.method).1
  subst hsz
  have hD := va_D1 (sz := s.heap.size) h0 (.inr (5, dfX5))
  generalize hAe : va_A [(h0, .inr (5, dfX5))] s.heap.size = A at hD ⊢
  have hA : ∀ q : Nat, s.heap.size ≤ q → A q := fun q h => by rw [← hAe]; exact Or.inr h
  have hS : va_S A s.heap s.heap [] := va_S.rf
  have hP : va_P (dC, dI) clx [(h0, .inr (5, [.long 0, .long 0, .long 0, .long 0, .long 0]))] s.heap := hP
  have hD : va_D A [(h0, .inr (5, [.long 0, .long 0, .long 0, .long 0, .long 0]))] := hD
  have hl := lv_entry ([.ref h0]) (n := 1) (Nat.le_of_ble_eq_true rfl)
  rw [lg_entry_eq]
  generalize (lg_sl ([.ref h0]) ++ List.replicate (1 - (lg_sl ([.ref h0])).length) Slot.unset).toArray = ls at hl ⊢
  have hl : lv_has ls 1 [(0, .ref h0)] := hl
  refine lv_aload_n hx hb dX5_init_0 rfl (lv_at hl 0 rfl) ?_
  refine W.objInit hx hb hown (hu _ u23) (hu _ u1) (hu _ u2) rfl (by rw [hml]; exact hl.1) rfl dX5_init_1 (Nat.le_of_ble_eq_true rfl) (Nat.le_of_ble_eq_true rfl) ?_
  refine W.eq (g2 := F0 m 4 ls []) rfl ?_
  refine W.widen (k := 0) (n := 0) (Nat.le_of_ble_eq_true rfl) (Nat.le_of_ble_eq_true rfl) ?_
  exact W.vret hx hb hr (fun t ht hW => ⟨⟨(), rfl, trivial, trivial⟩, hS.F ht⟩) hS.2.2 dX5_init_4
def wk_X6_init : List Cond := .code yX6_init cX6_init 1 none :: wU
set_option maxHeartbeats 4000000 in
set_option maxRecDepth 100000 in
theorem j_X6_init (l : Launch) : JC l yX6_init wk_X6_init ({ frames := 2, cells := 3, slots := 6112, locals := 60 } : Room) 6 dfX6 [] 3 6112 := by
  intro dC dI h0 sz
  refine Met.ofW (cc := cX6_init) (maxL := 1) (ret := none) (by decide) rfl ?_
  intro p e s m args below meth c s₁ B hml hv
  obtain ⟨rfl, hsz, hP, hK, hev⟩ := hv
  have hx := B.exec
  have hb := B.bytes
  have hr := B.returns
  have hts := atoms_spec (ws := wk_X6_init) B.pre
  have hu : ∀ w ∈ wU, w.before (Value.ref h0 :: []).toArray s = true := fun w h => hts w (List.mem_cons_of_mem _ h)
  have hown : s.vm.findClass RX6 = some m.cls := findClass_of_methodNamed B.named
  have hlocks := B.notSynchronized
  have hin : meth.name = "<init>" := (name_of_methodNamed B.named B.method).1
  subst hsz
  have hD := va_D1 (sz := s.heap.size) h0 (.inr (6, dfX6))
  generalize hAe : va_A [(h0, .inr (6, dfX6))] s.heap.size = A at hD ⊢
  have hA : ∀ q : Nat, s.heap.size ≤ q → A q := fun q h => by rw [← hAe]; exact Or.inr h
  have hS : va_S A s.heap s.heap [] := va_S.rf
  have hP : va_P (dC, dI) clx [(h0, .inr (6, [.null, .null, .null, .int 0, .null, .null, .int 0, .int 0, .long 0, .long 0, .int 0]))] s.heap := hP
  have hD : va_D A [(h0, .inr (6, [.null, .null, .null, .int 0, .null, .null, .int 0, .int 0, .long 0, .long 0, .int 0]))] := hD
  have hl := lv_entry ([.ref h0]) (n := 1) (Nat.le_of_ble_eq_true rfl)
  rw [lg_entry_eq]
  generalize (lg_sl ([.ref h0]) ++ List.replicate (1 - (lg_sl ([.ref h0])).length) Slot.unset).toArray = ls at hl ⊢
  have hl : lv_has ls 1 [(0, .ref h0)] := hl
  refine lv_aload_n hx hb dX6_init_0 rfl (lv_at hl 0 rfl) ?_
  refine W.objInit hx hb hown (hu _ u24) (hu _ u1) (hu _ u2) rfl (by rw [hml]; exact hl.1) rfl dX6_init_1 (Nat.le_of_ble_eq_true rfl) (Nat.le_of_ble_eq_true rfl) ?_
  refine W.eq (g2 := F0 m 4 ls []) rfl ?_
  refine lv_aload_n hx hb dX6_init_4 rfl (lv_at hl 0 rfl) ?_
  refine lv_sipush (v := 2000) hx hb dX6_init_5 (by decide) ?_
  refine px_newaJ (atype := .int) hx hb (hu _ u3) hP hS 2000 (by decide) (by decide) (by decide) (Nat.le_of_ble_eq_true rfl) (Nat.le_of_ble_eq_true rfl) dX6_init_8 (fun q1 H hP hS => ?_)
  refine W.widen (k := 1) (n := 2000) (Nat.le_of_ble_eq_true rfl) (Nat.le_of_ble_eq_true rfl) ?_
  refine va_putF (D := (dC, dI)) (ci := 6) (v := .ref q1) (ty := .array .int) (C := RX6) (T := TX6) (N := 11) hx hb hu iX6 tyX6 tyX6_ok nmX6 hown hK hP hD hS 0 rfl rfl 0 (by decide) (hu _ u25) (fun _ h9 => h9) rfl hin rfl (by decide +kernel) rfl rfl (Nat.le_of_ble_eq_true rfl) dX6_init_10 (fun H locs hP hD hS => ?_)
  have hP : va_P (dC, dI) clx [(h0, .inr (6, [.ref q1, .null, .null, .int 0, .null, .null, .int 0, .int 0, .long 0, .long 0, .int 0]))] H := hP
  have hD : va_D A [(h0, .inr (6, [.ref q1, .null, .null, .int 0, .null, .null, .int 0, .int 0, .long 0, .long 0, .int 0]))] := hD
  refine lv_aload_n hx hb dX6_init_13 rfl (lv_at hl 0 rfl) ?_
  refine lv_sipush (v := 2112) hx hb dX6_init_14 (by decide) ?_
  refine px_newaJ (atype := .long) hx hb (hu _ u19) hP hS 2112 (by decide) (by decide) (by decide) (Nat.le_of_ble_eq_true rfl) (Nat.le_of_ble_eq_true rfl) dX6_init_17 (fun q2 H hP hS => ?_)
  refine W.widen (k := 2) (n := 4112) (Nat.le_of_ble_eq_true rfl) (Nat.le_of_ble_eq_true rfl) ?_
  refine va_putF (D := (dC, dI)) (ci := 6) (v := .ref q2) (ty := .array .long) (C := RX6) (T := TX6) (N := 11) hx hb hu iX6 tyX6 tyX6_ok nmX6 hown hK hP hD hS 0 rfl rfl 1 (by decide) (hu _ u26) (fun _ h9 => h9) rfl hin rfl (by decide +kernel) rfl rfl (Nat.le_of_ble_eq_true rfl) dX6_init_19 (fun H locs hP hD hS => ?_)
  have hP : va_P (dC, dI) clx [(h0, .inr (6, [.ref q1, .ref q2, .null, .int 0, .null, .null, .int 0, .int 0, .long 0, .long 0, .int 0]))] H := hP
  have hD : va_D A [(h0, .inr (6, [.ref q1, .ref q2, .null, .int 0, .null, .null, .int 0, .int 0, .long 0, .long 0, .int 0]))] := hD
  refine lv_aload_n hx hb dX6_init_22 rfl (lv_at hl 0 rfl) ?_
  refine lv_sipush (v := 2000) hx hb dX6_init_23 (by decide) ?_
  refine px_newaJ (atype := .byte) hx hb (hu _ u27) hP hS 2000 (by decide) (by decide) (by decide) (Nat.le_of_ble_eq_true rfl) (Nat.le_of_ble_eq_true rfl) dX6_init_26 (fun q3 H hP hS => ?_)
  refine W.widen (k := 3) (n := 6112) (Nat.le_of_ble_eq_true rfl) (Nat.le_of_ble_eq_true rfl) ?_
  refine va_putF (D := (dC, dI)) (ci := 6) (v := .ref q3) (ty := .array .byte) (C := RX6) (T := TX6) (N := 11) hx hb hu iX6 tyX6 tyX6_ok nmX6 hown hK hP hD hS 0 rfl rfl 2 (by decide) (hu _ u28) (fun _ h9 => h9) rfl hin rfl (by decide +kernel) rfl rfl (Nat.le_of_ble_eq_true rfl) dX6_init_28 (fun H locs hP hD hS => ?_)
  have hP : va_P (dC, dI) clx [(h0, .inr (6, [.ref q1, .ref q2, .ref q3, .int 0, .null, .null, .int 0, .int 0, .long 0, .long 0, .int 0]))] H := hP
  have hD : va_D A [(h0, .inr (6, [.ref q1, .ref q2, .ref q3, .int 0, .null, .null, .int 0, .int 0, .long 0, .long 0, .int 0]))] := hD
  refine W.widen (k := 3) (n := 6112) (Nat.le_of_ble_eq_true rfl) (Nat.le_of_ble_eq_true rfl) ?_
  exact W.vret hx hb hr (fun t ht hW => ⟨⟨(), rfl, trivial, trivial⟩, hS.F ht⟩) hS.2.2 dX6_init_31
def wk_X7_init : List Cond := .code yX7_init cX7_init 1 none :: wU
set_option maxHeartbeats 4000000 in
set_option maxRecDepth 100000 in
theorem j_X7_init (l : Launch) : JC l yX7_init wk_X7_init ({ frames := 2, cells := 1, slots := 64, locals := 60 } : Room) 7 dfX7 [] 1 64 := by
  intro dC dI h0 sz
  refine Met.ofW (cc := cX7_init) (maxL := 1) (ret := none) (by decide) rfl ?_
  intro p e s m args below meth c s₁ B hml hv
  obtain ⟨rfl, hsz, hP, hK, hev⟩ := hv
  have hx := B.exec
  have hb := B.bytes
  have hr := B.returns
  have hts := atoms_spec (ws := wk_X7_init) B.pre
  have hu : ∀ w ∈ wU, w.before (Value.ref h0 :: []).toArray s = true := fun w h => hts w (List.mem_cons_of_mem _ h)
  have hown : s.vm.findClass RX7 = some m.cls := findClass_of_methodNamed B.named
  have hlocks := B.notSynchronized
  have hin : meth.name = "<init>" := (name_of_methodNamed B.named B.method).1
  subst hsz
  have hD := va_D1 (sz := s.heap.size) h0 (.inr (7, dfX7))
  generalize hAe : va_A [(h0, .inr (7, dfX7))] s.heap.size = A at hD ⊢
  have hA : ∀ q : Nat, s.heap.size ≤ q → A q := fun q h => by rw [← hAe]; exact Or.inr h
  have hS : va_S A s.heap s.heap [] := va_S.rf
  have hP : va_P (dC, dI) clx [(h0, .inr (7, [.null]))] s.heap := hP
  have hD : va_D A [(h0, .inr (7, [.null]))] := hD
  have hl := lv_entry ([.ref h0]) (n := 1) (Nat.le_of_ble_eq_true rfl)
  rw [lg_entry_eq]
  generalize (lg_sl ([.ref h0]) ++ List.replicate (1 - (lg_sl ([.ref h0])).length) Slot.unset).toArray = ls at hl ⊢
  have hl : lv_has ls 1 [(0, .ref h0)] := hl
  refine lv_aload_n hx hb dX7_init_0 rfl (lv_at hl 0 rfl) ?_
  refine W.objInit hx hb hown (hu _ u29) (hu _ u1) (hu _ u2) rfl (by rw [hml]; exact hl.1) rfl dX7_init_1 (Nat.le_of_ble_eq_true rfl) (Nat.le_of_ble_eq_true rfl) ?_
  refine W.eq (g2 := F0 m 4 ls []) rfl ?_
  refine lv_aload_n hx hb dX7_init_4 rfl (lv_at hl 0 rfl) ?_
  refine lv_bipush (v := 64) hx hb dX7_init_5 (by decide) ?_
  refine px_newaJ (atype := .long) hx hb (hu _ u19) hP hS 64 (by decide) (by decide) (by decide) (Nat.le_of_ble_eq_true rfl) (Nat.le_of_ble_eq_true rfl) dX7_init_7 (fun q1 H hP hS => ?_)
  refine W.widen (k := 1) (n := 64) (Nat.le_of_ble_eq_true rfl) (Nat.le_of_ble_eq_true rfl) ?_
  refine va_putF (D := (dC, dI)) (ci := 7) (v := .ref q1) (ty := .array .long) (C := RX7) (T := TX7) (N := 1) hx hb hu iX7 tyX7 tyX7_ok nmX7 hown hK hP hD hS 0 rfl rfl 0 (by decide) (hu _ u30) (fun _ h9 => h9) rfl hin rfl (by decide +kernel) rfl rfl (Nat.le_of_ble_eq_true rfl) dX7_init_9 (fun H locs hP hD hS => ?_)
  have hP : va_P (dC, dI) clx [(h0, .inr (7, [.ref q1]))] H := hP
  have hD : va_D A [(h0, .inr (7, [.ref q1]))] := hD
  refine W.widen (k := 1) (n := 64) (Nat.le_of_ble_eq_true rfl) (Nat.le_of_ble_eq_true rfl) ?_
  exact W.vret hx hb hr (fun t ht hW => ⟨⟨(), rfl, trivial, trivial⟩, hS.F ht⟩) hS.2.2 dX7_init_12
def wk_X10_init : List Cond := .code yX10_init cX10_init 1 none :: wU
set_option maxHeartbeats 4000000 in
set_option maxRecDepth 100000 in
theorem j_X10_init (l : Launch) : JC l yX10_init wk_X10_init ({ frames := 2, cells := 2, slots := 64, locals := 60 } : Room) 10 dfX10 [] 2 64 := by
  intro dC dI h0 sz
  refine Met.ofW (cc := cX10_init) (maxL := 1) (ret := none) (by decide) rfl ?_
  intro p e s m args below meth c s₁ B hml hv
  obtain ⟨rfl, hsz, hP, hK, hev⟩ := hv
  have hx := B.exec
  have hb := B.bytes
  have hr := B.returns
  have hts := atoms_spec (ws := wk_X10_init) B.pre
  have hu : ∀ w ∈ wU, w.before (Value.ref h0 :: []).toArray s = true := fun w h => hts w (List.mem_cons_of_mem _ h)
  have hown : s.vm.findClass RX10 = some m.cls := findClass_of_methodNamed B.named
  have hlocks := B.notSynchronized
  have hin : meth.name = "<init>" := (name_of_methodNamed B.named B.method).1
  subst hsz
  have hD := va_D1 (sz := s.heap.size) h0 (.inr (10, dfX10))
  generalize hAe : va_A [(h0, .inr (10, dfX10))] s.heap.size = A at hD ⊢
  have hA : ∀ q : Nat, s.heap.size ≤ q → A q := fun q h => by rw [← hAe]; exact Or.inr h
  have hS : va_S A s.heap s.heap [] := va_S.rf
  have hP : va_P (dC, dI) clx [(h0, .inr (10, [.null, .null, .int 0, .null]))] s.heap := hP
  have hD : va_D A [(h0, .inr (10, [.null, .null, .int 0, .null]))] := hD
  have hl := lv_entry ([.ref h0]) (n := 1) (Nat.le_of_ble_eq_true rfl)
  rw [lg_entry_eq]
  generalize (lg_sl ([.ref h0]) ++ List.replicate (1 - (lg_sl ([.ref h0])).length) Slot.unset).toArray = ls at hl ⊢
  have hl : lv_has ls 1 [(0, .ref h0)] := hl
  refine lv_aload_n hx hb dX10_init_0 rfl (lv_at hl 0 rfl) ?_
  refine W.objInit hx hb hown (hu _ u31) (hu _ u1) (hu _ u2) rfl (by rw [hml]; exact hl.1) rfl dX10_init_1 (Nat.le_of_ble_eq_true rfl) (Nat.le_of_ble_eq_true rfl) ?_
  refine W.eq (g2 := F0 m 4 ls []) rfl ?_
  refine lv_aload_n hx hb dX10_init_4 rfl (lv_at hl 0 rfl) ?_
  refine lv_bipush (v := 32) hx hb dX10_init_5 (by decide) ?_
  refine px_newaJ (atype := .long) hx hb (hu _ u19) hP hS 32 (by decide) (by decide) (by decide) (Nat.le_of_ble_eq_true rfl) (Nat.le_of_ble_eq_true rfl) dX10_init_7 (fun q1 H hP hS => ?_)
  refine W.widen (k := 1) (n := 32) (Nat.le_of_ble_eq_true rfl) (Nat.le_of_ble_eq_true rfl) ?_
  refine va_putF (D := (dC, dI)) (ci := 10) (v := .ref q1) (ty := .array .long) (C := RX10) (T := TX10) (N := 4) hx hb hu iX10 tyX10 tyX10_ok nmX10 hown hK hP hD hS 0 rfl rfl 0 (by decide) (hu _ u32) (fun _ h9 => h9) rfl hin rfl (by decide +kernel) rfl rfl (Nat.le_of_ble_eq_true rfl) dX10_init_9 (fun H locs hP hD hS => ?_)
  have hP : va_P (dC, dI) clx [(h0, .inr (10, [.ref q1, .null, .int 0, .null]))] H := hP
  have hD : va_D A [(h0, .inr (10, [.ref q1, .null, .int 0, .null]))] := hD
  refine lv_aload_n hx hb dX10_init_12 rfl (lv_at hl 0 rfl) ?_
  refine lv_bipush (v := 32) hx hb dX10_init_13 (by decide) ?_
  refine px_newaJ (atype := .long) hx hb (hu _ u19) hP hS 32 (by decide) (by decide) (by decide) (Nat.le_of_ble_eq_true rfl) (Nat.le_of_ble_eq_true rfl) dX10_init_15 (fun q2 H hP hS => ?_)
  refine W.widen (k := 2) (n := 64) (Nat.le_of_ble_eq_true rfl) (Nat.le_of_ble_eq_true rfl) ?_
  refine va_putF (D := (dC, dI)) (ci := 10) (v := .ref q2) (ty := .array .long) (C := RX10) (T := TX10) (N := 4) hx hb hu iX10 tyX10 tyX10_ok nmX10 hown hK hP hD hS 0 rfl rfl 1 (by decide) (hu _ u33) (fun _ h9 => h9) rfl hin rfl (by decide +kernel) rfl rfl (Nat.le_of_ble_eq_true rfl) dX10_init_17 (fun H locs hP hD hS => ?_)
  have hP : va_P (dC, dI) clx [(h0, .inr (10, [.ref q1, .ref q2, .int 0, .null]))] H := hP
  have hD : va_D A [(h0, .inr (10, [.ref q1, .ref q2, .int 0, .null]))] := hD
  refine W.widen (k := 2) (n := 64) (Nat.le_of_ble_eq_true rfl) (Nat.le_of_ble_eq_true rfl) ?_
  exact W.vret hx hb hr (fun t ht hW => ⟨⟨(), rfl, trivial, trivial⟩, hS.F ht⟩) hS.2.2 dX10_init_20
def wk_X3_init : List Cond := .code yX3_init cX3_init 1 none :: wU
set_option maxHeartbeats 4000000 in
set_option maxRecDepth 100000 in
theorem j_X3_init (l : Launch) : KC l yX3_init wk_X3_init ({ frames := 2, cells := 18, slots := 1100, locals := 60 } : Room) 3 dfX3 [] (fun u => u[10]? = some (.int 0) ∧ u[12]? = some (.int (-1)) ∧ u.length = 13) 18 1100 := by
  intro dC dI h0 sz
  refine Met.ofW (cc := cX3_init) (maxL := 1) (ret := none) (by decide) rfl ?_
  intro p e s m args below meth c s₁ B hml hv
  obtain ⟨rfl, hsz, hP, hK, hev⟩ := hv
  have hx := B.exec
  have hb := B.bytes
  have hr := B.returns
  have hts := atoms_spec (ws := wk_X3_init) B.pre
  have hu : ∀ w ∈ wU, w.before (Value.ref h0 :: []).toArray s = true := fun w h => hts w (List.mem_cons_of_mem _ h)
  have hown : s.vm.findClass RX3 = some m.cls := findClass_of_methodNamed B.named
  have hlocks := B.notSynchronized
  have hin : meth.name = "<init>" := (name_of_methodNamed B.named B.method).1
  subst hsz
  have hD := va_D1 (sz := s.heap.size) h0 (.inr (3, dfX3))
  generalize hAe : va_A [(h0, .inr (3, dfX3))] s.heap.size = A at hD ⊢
  have hA : ∀ q : Nat, s.heap.size ≤ q → A q := fun q h => by rw [← hAe]; exact Or.inr h
  have hS : va_S A s.heap s.heap [] := va_S.rf
  have hP : va_P (dC, dI) clx [(h0, .inr (3, [.null, .null, .null, .null, .null, .null, .int 0, .int 0, .null, .int 0, .int 0, .int 0, .int 0]))] s.heap := hP
  have hD : va_D A [(h0, .inr (3, [.null, .null, .null, .null, .null, .null, .int 0, .int 0, .null, .int 0, .int 0, .int 0, .int 0]))] := hD
  have hl := lv_entry ([.ref h0]) (n := 1) (Nat.le_of_ble_eq_true rfl)
  rw [lg_entry_eq]
  generalize (lg_sl ([.ref h0]) ++ List.replicate (1 - (lg_sl ([.ref h0])).length) Slot.unset).toArray = ls at hl ⊢
  have hl : lv_has ls 1 [(0, .ref h0)] := hl
  refine lv_aload_n hx hb dX3_init_0 rfl (lv_at hl 0 rfl) ?_
  refine W.objInit hx hb hown (hu _ u34) (hu _ u1) (hu _ u2) rfl (by rw [hml]; exact hl.1) rfl dX3_init_1 (Nat.le_of_ble_eq_true rfl) (Nat.le_of_ble_eq_true rfl) ?_
  refine W.eq (g2 := F0 m 4 ls []) rfl ?_
  refine lv_aload_n hx hb dX3_init_4 rfl (lv_at hl 0 rfl) ?_
  refine lv_bipush (v := 12) hx hb dX3_init_5 (by decide) ?_
  refine lv_bipush (v := 64) hx hb dX3_init_7 (by decide) ?_
  refine px_mna (ty := .long) (N := 12) (M := 64) hx hb hown (hu _ u35) hev.2.2.1.2 (hu _ u19) hS hS.1 (by decide) (by decide) (by decide) (by decide) (by decide) (by decide) (by decide) rfl (Nat.le_of_ble_eq_true rfl) (Nat.le_of_ble_eq_true rfl) dX3_init_9 (fun q1 H hk1 hS => ?_)
  have hP := px_kept hP hk1
  refine W.widen (k := 13) (n := 780) (Nat.le_of_ble_eq_true rfl) (Nat.le_of_ble_eq_true rfl) ?_
  refine va_putF (D := (dC, dI)) (ci := 3) (v := .ref q1) (ty := .array (.array .long)) (C := RX3) (T := TX3) (N := 13) hx hb hu iX3 tyX3 tyX3_ok nmX3 hown hK hP hD hS 0 rfl rfl 0 (by decide) (hu _ u36) (fun _ h9 => h9) rfl hin rfl (by decide +kernel) rfl rfl (Nat.le_of_ble_eq_true rfl) dX3_init_13 (fun H locs hP hD hS => ?_)
  have hP : va_P (dC, dI) clx [(h0, .inr (3, [.ref q1, .null, .null, .null, .null, .null, .int 0, .int 0, .null, .int 0, .int 0, .int 0, .int 0]))] H := hP
  have hD : va_D A [(h0, .inr (3, [.ref q1, .null, .null, .null, .null, .null, .int 0, .int 0, .null, .int 0, .int 0, .int 0, .int 0]))] := hD
  refine lv_aload_n hx hb dX3_init_16 rfl (lv_at hl 0 rfl) ?_
  refine lv_bipush (v := 64) hx hb dX3_init_17 (by decide) ?_
  refine px_newaJ (atype := .long) hx hb (hu _ u19) hP hS 64 (by decide) (by decide) (by decide) (Nat.le_of_ble_eq_true rfl) (Nat.le_of_ble_eq_true rfl) dX3_init_19 (fun q2 H hP hS => ?_)
  refine W.widen (k := 14) (n := 844) (Nat.le_of_ble_eq_true rfl) (Nat.le_of_ble_eq_true rfl) ?_
  refine va_putF (D := (dC, dI)) (ci := 3) (v := .ref q2) (ty := .array .long) (C := RX3) (T := TX3) (N := 13) hx hb hu iX3 tyX3 tyX3_ok nmX3 hown hK hP hD hS 0 rfl rfl 1 (by decide) (hu _ u37) (fun _ h9 => h9) rfl hin rfl (by decide +kernel) rfl rfl (Nat.le_of_ble_eq_true rfl) dX3_init_21 (fun H locs hP hD hS => ?_)
  have hP : va_P (dC, dI) clx [(h0, .inr (3, [.ref q1, .ref q2, .null, .null, .null, .null, .int 0, .int 0, .null, .int 0, .int 0, .int 0, .int 0]))] H := hP
  have hD : va_D A [(h0, .inr (3, [.ref q1, .ref q2, .null, .null, .null, .null, .int 0, .int 0, .null, .int 0, .int 0, .int 0, .int 0]))] := hD
  refine lv_aload_n hx hb dX3_init_24 rfl (lv_at hl 0 rfl) ?_
  refine lv_bipush (v := 64) hx hb dX3_init_25 (by decide) ?_
  refine px_newaJ (atype := .long) hx hb (hu _ u19) hP hS 64 (by decide) (by decide) (by decide) (Nat.le_of_ble_eq_true rfl) (Nat.le_of_ble_eq_true rfl) dX3_init_27 (fun q3 H hP hS => ?_)
  refine W.widen (k := 15) (n := 908) (Nat.le_of_ble_eq_true rfl) (Nat.le_of_ble_eq_true rfl) ?_
  refine va_putF (D := (dC, dI)) (ci := 3) (v := .ref q3) (ty := .array .long) (C := RX3) (T := TX3) (N := 13) hx hb hu iX3 tyX3 tyX3_ok nmX3 hown hK hP hD hS 0 rfl rfl 2 (by decide) (hu _ u38) (fun _ h9 => h9) rfl hin rfl (by decide +kernel) rfl rfl (Nat.le_of_ble_eq_true rfl) dX3_init_29 (fun H locs hP hD hS => ?_)
  have hP : va_P (dC, dI) clx [(h0, .inr (3, [.ref q1, .ref q2, .ref q3, .null, .null, .null, .int 0, .int 0, .null, .int 0, .int 0, .int 0, .int 0]))] H := hP
  have hD : va_D A [(h0, .inr (3, [.ref q1, .ref q2, .ref q3, .null, .null, .null, .int 0, .int 0, .null, .int 0, .int 0, .int 0, .int 0]))] := hD
  refine lv_aload_n hx hb dX3_init_32 rfl (lv_at hl 0 rfl) ?_
  refine lv_bipush (v := 64) hx hb dX3_init_33 (by decide) ?_
  refine px_newaJ (atype := .long) hx hb (hu _ u19) hP hS 64 (by decide) (by decide) (by decide) (Nat.le_of_ble_eq_true rfl) (Nat.le_of_ble_eq_true rfl) dX3_init_35 (fun q4 H hP hS => ?_)
  refine W.widen (k := 16) (n := 972) (Nat.le_of_ble_eq_true rfl) (Nat.le_of_ble_eq_true rfl) ?_
  refine va_putF (D := (dC, dI)) (ci := 3) (v := .ref q4) (ty := .array .long) (C := RX3) (T := TX3) (N := 13) hx hb hu iX3 tyX3 tyX3_ok nmX3 hown hK hP hD hS 0 rfl rfl 3 (by decide) (hu _ u39) (fun _ h9 => h9) rfl hin rfl (by decide +kernel) rfl rfl (Nat.le_of_ble_eq_true rfl) dX3_init_37 (fun H locs hP hD hS => ?_)
  have hP : va_P (dC, dI) clx [(h0, .inr (3, [.ref q1, .ref q2, .ref q3, .ref q4, .null, .null, .int 0, .int 0, .null, .int 0, .int 0, .int 0, .int 0]))] H := hP
  have hD : va_D A [(h0, .inr (3, [.ref q1, .ref q2, .ref q3, .ref q4, .null, .null, .int 0, .int 0, .null, .int 0, .int 0, .int 0, .int 0]))] := hD
  refine lv_aload_n hx hb dX3_init_40 rfl (lv_at hl 0 rfl) ?_
  refine lv_bipush (v := 64) hx hb dX3_init_41 (by decide) ?_
  refine px_newaJ (atype := .long) hx hb (hu _ u19) hP hS 64 (by decide) (by decide) (by decide) (Nat.le_of_ble_eq_true rfl) (Nat.le_of_ble_eq_true rfl) dX3_init_43 (fun q5 H hP hS => ?_)
  refine W.widen (k := 17) (n := 1036) (Nat.le_of_ble_eq_true rfl) (Nat.le_of_ble_eq_true rfl) ?_
  refine va_putF (D := (dC, dI)) (ci := 3) (v := .ref q5) (ty := .array .long) (C := RX3) (T := TX3) (N := 13) hx hb hu iX3 tyX3 tyX3_ok nmX3 hown hK hP hD hS 0 rfl rfl 4 (by decide) (hu _ u40) (fun _ h9 => h9) rfl hin rfl (by decide +kernel) rfl rfl (Nat.le_of_ble_eq_true rfl) dX3_init_45 (fun H locs hP hD hS => ?_)
  have hP : va_P (dC, dI) clx [(h0, .inr (3, [.ref q1, .ref q2, .ref q3, .ref q4, .ref q5, .null, .int 0, .int 0, .null, .int 0, .int 0, .int 0, .int 0]))] H := hP
  have hD : va_D A [(h0, .inr (3, [.ref q1, .ref q2, .ref q3, .ref q4, .ref q5, .null, .int 0, .int 0, .null, .int 0, .int 0, .int 0, .int 0]))] := hD
  refine lv_aload_n hx hb dX3_init_48 rfl (lv_at hl 0 rfl) ?_
  refine lv_bipush (v := 64) hx hb dX3_init_49 (by decide) ?_
  refine px_newaJ (atype := .int) hx hb (hu _ u3) hP hS 64 (by decide) (by decide) (by decide) (Nat.le_of_ble_eq_true rfl) (Nat.le_of_ble_eq_true rfl) dX3_init_51 (fun q6 H hP hS => ?_)
  refine W.widen (k := 18) (n := 1100) (Nat.le_of_ble_eq_true rfl) (Nat.le_of_ble_eq_true rfl) ?_
  refine va_putF (D := (dC, dI)) (ci := 3) (v := .ref q6) (ty := .array .int) (C := RX3) (T := TX3) (N := 13) hx hb hu iX3 tyX3 tyX3_ok nmX3 hown hK hP hD hS 0 rfl rfl 5 (by decide) (hu _ u41) (fun _ h9 => h9) rfl hin rfl (by decide +kernel) rfl rfl (Nat.le_of_ble_eq_true rfl) dX3_init_53 (fun H locs hP hD hS => ?_)
  have hP : va_P (dC, dI) clx [(h0, .inr (3, [.ref q1, .ref q2, .ref q3, .ref q4, .ref q5, .ref q6, .int 0, .int 0, .null, .int 0, .int 0, .int 0, .int 0]))] H := hP
  have hD : va_D A [(h0, .inr (3, [.ref q1, .ref q2, .ref q3, .ref q4, .ref q5, .ref q6, .int 0, .int 0, .null, .int 0, .int 0, .int 0, .int 0]))] := hD
  refine lv_aload_n hx hb dX3_init_56 rfl (lv_at hl 0 rfl) ?_
  refine lv_iconst (v := (-1)) hx hb dX3_init_57 (by decide) ?_
  refine va_put (D := (dC, dI)) (ci := 3) (v := .int (-1)) (ty := .int) (C := RX3) (T := TX3) (N := 13) hx hb hu iX3 tyX3 tyX3_ok nmX3 hown hK hP hD hS 0 rfl rfl 12 (by decide) (hu _ u42) (fun _ h9 => h9) rfl (by decide +kernel) rfl rfl (Nat.le_of_ble_eq_true rfl) dX3_init_58 (fun H locs hP hD hS => ?_)
  have hP : va_P (dC, dI) clx [(h0, .inr (3, [.ref q1, .ref q2, .ref q3, .ref q4, .ref q5, .ref q6, .int 0, .int 0, .null, .int 0, .int 0, .int 0, .int (-1)]))] H := hP
  have hD : va_D A [(h0, .inr (3, [.ref q1, .ref q2, .ref q3, .ref q4, .ref q5, .ref q6, .int 0, .int 0, .null, .int 0, .int 0, .int 0, .int (-1)]))] := hD
  refine W.widen (k := 18) (n := 1100) (Nat.le_of_ble_eq_true rfl) (Nat.le_of_ble_eq_true rfl) ?_
  exact W.vret hx hb hr (fun t ht hW => ⟨⟨[.ref q1, .ref q2, .ref q3, .ref q4, .ref q5, .ref q6, .int 0, .int 0, .null, .int 0, .int 0, .int 0, .int (-1)], rfl, ⟨rfl, rfl, rfl⟩, by show va_P _ _ _ t.heap; rw [ht]; exact hP⟩, hS.F ht⟩) hS.2.2 dX3_init_61
def wk_X8_init : List Cond := .code yX8_init cX8_init 1 none :: wU
set_option maxHeartbeats 4000000 in
set_option maxRecDepth 100000 in
theorem j_X8_init (l : Launch) : KC l yX8_init wk_X8_init ({ frames := 2, cells := 3, slots := 192, locals := 60 } : Room) 8 dfX8 [] (fun u => u[3]? = some (.int 0) ∧ u.length = 4) 3 192 := by
  intro dC dI h0 sz
  refine Met.ofW (cc := cX8_init) (maxL := 1) (ret := none) (by decide) rfl ?_
  intro p e s m args below meth c s₁ B hml hv
  obtain ⟨rfl, hsz, hP, hK, hev⟩ := hv
  have hx := B.exec
  have hb := B.bytes
  have hr := B.returns
  have hts := atoms_spec (ws := wk_X8_init) B.pre
  have hu : ∀ w ∈ wU, w.before (Value.ref h0 :: []).toArray s = true := fun w h => hts w (List.mem_cons_of_mem _ h)
  have hown : s.vm.findClass RX8 = some m.cls := findClass_of_methodNamed B.named
  have hlocks := B.notSynchronized
  have hin : meth.name = "<init>" := (name_of_methodNamed B.named B.method).1
  subst hsz
  have hD := va_D1 (sz := s.heap.size) h0 (.inr (8, dfX8))
  generalize hAe : va_A [(h0, .inr (8, dfX8))] s.heap.size = A at hD ⊢
  have hA : ∀ q : Nat, s.heap.size ≤ q → A q := fun q h => by rw [← hAe]; exact Or.inr h
  have hS : va_S A s.heap s.heap [] := va_S.rf
  have hP : va_P (dC, dI) clx [(h0, .inr (8, [.null, .null, .null, .int 0]))] s.heap := hP
  have hD : va_D A [(h0, .inr (8, [.null, .null, .null, .int 0]))] := hD
  have hl := lv_entry ([.ref h0]) (n := 1) (Nat.le_of_ble_eq_true rfl)
  rw [lg_entry_eq]
  generalize (lg_sl ([.ref h0]) ++ List.replicate (1 - (lg_sl ([.ref h0])).length) Slot.unset).toArray = ls at hl ⊢
  have hl : lv_has ls 1 [(0, .ref h0)] := hl
  refine lv_aload_n hx hb dX8_init_0 rfl (lv_at hl 0 rfl) ?_
  refine W.objInit hx hb hown (hu _ u43) (hu _ u1) (hu _ u2) rfl (by rw [hml]; exact hl.1) rfl dX8_init_1 (Nat.le_of_ble_eq_true rfl) (Nat.le_of_ble_eq_true rfl) ?_
  refine W.eq (g2 := F0 m 4 ls []) rfl ?_
  refine lv_aload_n hx hb dX8_init_4 rfl (lv_at hl 0 rfl) ?_
  refine lv_bipush (v := 64) hx hb dX8_init_5 (by decide) ?_
  refine px_newaJ (atype := .int) hx hb (hu _ u3) hP hS 64 (by decide) (by decide) (by decide) (Nat.le_of_ble_eq_true rfl) (Nat.le_of_ble_eq_true rfl) dX8_init_7 (fun q1 H hP hS => ?_)
  refine W.widen (k := 1) (n := 64) (Nat.le_of_ble_eq_true rfl) (Nat.le_of_ble_eq_true rfl) ?_
  refine va_put (D := (dC, dI)) (ci := 8) (v := .ref q1) (ty := .array .int) (C := RX8) (T := TX8) (N := 4) hx hb hu iX8 tyX8 tyX8_ok nmX8 hown hK hP hD hS 0 rfl rfl 0 (by decide) (hu _ u44) (fun _ h9 => h9) rfl (by decide +kernel) rfl rfl (Nat.le_of_ble_eq_true rfl) dX8_init_9 (fun H locs hP hD hS => ?_)
  have hP : va_P (dC, dI) clx [(h0, .inr (8, [.ref q1, .null, .null, .int 0]))] H := hP
  have hD : va_D A [(h0, .inr (8, [.ref q1, .null, .null, .int 0]))] := hD
  refine lv_aload_n hx hb dX8_init_12 rfl (lv_at hl 0 rfl) ?_
  refine lv_bipush (v := 64) hx hb dX8_init_13 (by decide) ?_
  refine px_newaJ (atype := .int) hx hb (hu _ u3) hP hS 64 (by decide) (by decide) (by decide) (Nat.le_of_ble_eq_true rfl) (Nat.le_of_ble_eq_true rfl) dX8_init_15 (fun q2 H hP hS => ?_)
  refine W.widen (k := 2) (n := 128) (Nat.le_of_ble_eq_true rfl) (Nat.le_of_ble_eq_true rfl) ?_
  refine va_put (D := (dC, dI)) (ci := 8) (v := .ref q2) (ty := .array .int) (C := RX8) (T := TX8) (N := 4) hx hb hu iX8 tyX8 tyX8_ok nmX8 hown hK hP hD hS 0 rfl rfl 1 (by decide) (hu _ u45) (fun _ h9 => h9) rfl (by decide +kernel) rfl rfl (Nat.le_of_ble_eq_true rfl) dX8_init_17 (fun H locs hP hD hS => ?_)
  have hP : va_P (dC, dI) clx [(h0, .inr (8, [.ref q1, .ref q2, .null, .int 0]))] H := hP
  have hD : va_D A [(h0, .inr (8, [.ref q1, .ref q2, .null, .int 0]))] := hD
  refine lv_aload_n hx hb dX8_init_20 rfl (lv_at hl 0 rfl) ?_
  refine lv_bipush (v := 64) hx hb dX8_init_21 (by decide) ?_
  refine px_newaJ (atype := .long) hx hb (hu _ u19) hP hS 64 (by decide) (by decide) (by decide) (Nat.le_of_ble_eq_true rfl) (Nat.le_of_ble_eq_true rfl) dX8_init_23 (fun q3 H hP hS => ?_)
  refine W.widen (k := 3) (n := 192) (Nat.le_of_ble_eq_true rfl) (Nat.le_of_ble_eq_true rfl) ?_
  refine va_put (D := (dC, dI)) (ci := 8) (v := .ref q3) (ty := .array .long) (C := RX8) (T := TX8) (N := 4) hx hb hu iX8 tyX8 tyX8_ok nmX8 hown hK hP hD hS 0 rfl rfl 2 (by decide) (hu _ u46) (fun _ h9 => h9) rfl (by decide +kernel) rfl rfl (Nat.le_of_ble_eq_true rfl) dX8_init_25 (fun H locs hP hD hS => ?_)
  have hP : va_P (dC, dI) clx [(h0, .inr (8, [.ref q1, .ref q2, .ref q3, .int 0]))] H := hP
  have hD : va_D A [(h0, .inr (8, [.ref q1, .ref q2, .ref q3, .int 0]))] := hD
  refine W.widen (k := 3) (n := 192) (Nat.le_of_ble_eq_true rfl) (Nat.le_of_ble_eq_true rfl) ?_
  exact W.vret hx hb hr (fun t ht hW => ⟨⟨[.ref q1, .ref q2, .ref q3, .int 0], rfl, ⟨rfl, rfl⟩, by show va_P _ _ _ t.heap; rw [ht]; exact hP⟩, hS.F ht⟩) hS.2.2 dX8_init_28
def wk_X4_init : List Cond := .code yX4_init cX4_init 1 none :: wU
set_option maxHeartbeats 4000000 in
set_option maxRecDepth 100000 in
theorem j_X4_init (l : Launch) : JC l yX4_init wk_X4_init ({ frames := 4, cells := 49, slots := 1559, locals := 102 } : Room) 4 dfX4 [] 49 1559 := by
  intro dC dI h0 sz
  refine Met.ofW (cc := cX4_init) (maxL := 1) (ret := none) (by decide) rfl ?_
  intro p e s m args below meth c s₁ B hml hv
  obtain ⟨rfl, hsz, hP, hK, hev⟩ := hv
  have hx := B.exec
  have hb := B.bytes
  have hr := B.returns
  have hts := atoms_spec (ws := wk_X4_init) B.pre
  have hu : ∀ w ∈ wU, w.before (Value.ref h0 :: []).toArray s = true := fun w h => hts w (List.mem_cons_of_mem _ h)
  have hown : s.vm.findClass RX4 = some m.cls := findClass_of_methodNamed B.named
  have hlocks := B.notSynchronized
  have hin : meth.name = "<init>" := (name_of_methodNamed B.named B.method).1
  subst hsz
  have hD := va_D1 (sz := s.heap.size) h0 (.inr (4, dfX4))
  generalize hAe : va_A [(h0, .inr (4, dfX4))] s.heap.size = A at hD ⊢
  have hA : ∀ q : Nat, s.heap.size ≤ q → A q := fun q h => by rw [← hAe]; exact Or.inr h
  have hS : va_S A s.heap s.heap [] := va_S.rf
  have hP : va_P (dC, dI) clx [(h0, .inr (4, [.null, .null, .null, .null, .null, .null, .null, .null, .null, .null, .null, .null, .null, .null, .null, .null, .null]))] s.heap := hP
  have hD : va_D A [(h0, .inr (4, [.null, .null, .null, .null, .null, .null, .null, .null, .null, .null, .null, .null, .null, .null, .null, .null, .null]))] := hD
  have hl := lv_entry ([.ref h0]) (n := 1) (Nat.le_of_ble_eq_true rfl)
  rw [lg_entry_eq]
  generalize (lg_sl ([.ref h0]) ++ List.replicate (1 - (lg_sl ([.ref h0])).length) Slot.unset).toArray = ls at hl ⊢
  have hl : lv_has ls 1 [(0, .ref h0)] := hl
  refine lv_aload_n hx hb dX4_init_0 rfl (lv_at hl 0 rfl) ?_
  refine W.objInit hx hb hown (hu _ u47) (hu _ u1) (hu _ u2) rfl (by rw [hml]; exact hl.1) rfl dX4_init_1 (Nat.le_of_ble_eq_true rfl) (Nat.le_of_ble_eq_true rfl) ?_
  refine W.eq (g2 := F0 m 4 ls []) rfl ?_
  refine lv_aload_n hx hb dX4_init_4 rfl (lv_at hl 0 rfl) ?_
  refine px_new (ci := 9) (fs := dfX9) (C := RX9) (T := TX9) (N := 6) hx hb hu iX9 tyX9 tyX9_ok hown (hu _ u48) (hu _ u49) (hu _ u50) hK hP hS rfl dfX9_ok (Nat.le_of_ble_eq_true rfl) (Nat.le_of_ble_eq_true rfl) dX4_init_5 (fun q1 H hP hq hlt hq0 hS => ?_)
  refine W.widen (k := 1) (n := 6) (Nat.le_of_ble_eq_true rfl) (Nat.le_of_ble_eq_true rfl) ?_
  refine lv_dup hx hb dX4_init_8 rfl ?_
  refine lv_bipush (v := 64) hx hb dX4_init_9 (by decide) ?_
  refine px_initJ (As := [.int 64]) (rest := [.ref q1, .ref h0]) (nL := 1) (j_X9_init l 64 64 (by decide) (by decide) (by decide) (by decide)) ⟨hx, hb, hml, hown, hu⟩ (cwI 1 hu (gC u52) rfl rfl rfl (hu _ u50) (hu _ u53) (hu _ u51) rfl (by decide +kernel) ⟨(Nat.le_of_ble_eq_true rfl), (Nat.le_of_ble_eq_true rfl)⟩) hK hev hP hq hlt hq0 hS hA rfl hl.1 (Nat.le_of_ble_eq_true rfl) dX4_init_11 ⟨(Nat.le_of_ble_eq_true rfl), (Nat.le_of_ble_eq_true rfl)⟩ (fun H locs hP hS => ?_)
  refine W.widen (k := 7) (n := 207) (Nat.le_of_ble_eq_true rfl) (Nat.le_of_ble_eq_true rfl) ?_
  refine va_put (D := (dC, dI)) (ci := 4) (v := .ref q1) (ty := .object "CubicBench$Spot") (C := RX4) (T := TX4) (N := 17) hx hb hu iX4 tyX4 tyX4_ok nmX4 hown hK hP hD hS 0 rfl rfl 0 (by decide) (hu _ u54) (fun _ h9 => h9) rfl (by decide +kernel) rfl rfl (Nat.le_of_ble_eq_true rfl) dX4_init_14 (fun H locs hP hD hS => ?_)
  have hP : va_P (dC, dI) clx [(h0, .inr (4, [.ref q1, .null, .null, .null, .null, .null, .null, .null, .null, .null, .null, .null, .null, .null, .null, .null, .null]))] H := hP
  have hD : va_D A [(h0, .inr (4, [.ref q1, .null, .null, .null, .null, .null, .null, .null, .null, .null, .null, .null, .null, .null, .null, .null, .null]))] := hD
  refine lv_aload_n hx hb dX4_init_17 rfl (lv_at hl 0 rfl) ?_
  refine px_new (ci := 9) (fs := dfX9) (C := RX9) (T := TX9) (N := 6) hx hb hu iX9 tyX9 tyX9_ok hown (hu _ u48) (hu _ u49) (hu _ u50) hK hP hS rfl dfX9_ok (Nat.le_of_ble_eq_true rfl) (Nat.le_of_ble_eq_true rfl) dX4_init_18 (fun q2 H hP hq hlt hq0 hS => ?_)
  refine W.widen (k := 8) (n := 213) (Nat.le_of_ble_eq_true rfl) (Nat.le_of_ble_eq_true rfl) ?_
  refine lv_dup hx hb dX4_init_21 rfl ?_
  refine lv_bipush (v := 64) hx hb dX4_init_22 (by decide) ?_
  refine px_initJ (As := [.int 64]) (rest := [.ref q2, .ref h0]) (nL := 1) (j_X9_init l 64 64 (by decide) (by decide) (by decide) (by decide)) ⟨hx, hb, hml, hown, hu⟩ (cwI 1 hu (gC u52) rfl rfl rfl (hu _ u50) (hu _ u53) (hu _ u51) rfl (by decide +kernel) ⟨(Nat.le_of_ble_eq_true rfl), (Nat.le_of_ble_eq_true rfl)⟩) hK hev hP hq hlt hq0 hS hA rfl hl.1 (Nat.le_of_ble_eq_true rfl) dX4_init_24 ⟨(Nat.le_of_ble_eq_true rfl), (Nat.le_of_ble_eq_true rfl)⟩ (fun H locs hP hS => ?_)
  refine W.widen (k := 14) (n := 414) (Nat.le_of_ble_eq_true rfl) (Nat.le_of_ble_eq_true rfl) ?_
  refine va_put (D := (dC, dI)) (ci := 4) (v := .ref q2) (ty := .object "CubicBench$Spot") (C := RX4) (T := TX4) (N := 17) hx hb hu iX4 tyX4 tyX4_ok nmX4 hown hK hP hD hS 0 rfl rfl 1 (by decide) (hu _ u55) (fun _ h9 => h9) rfl (by decide +kernel) rfl rfl (Nat.le_of_ble_eq_true rfl) dX4_init_27 (fun H locs hP hD hS => ?_)
  have hP : va_P (dC, dI) clx [(h0, .inr (4, [.ref q1, .ref q2, .null, .null, .null, .null, .null, .null, .null, .null, .null, .null, .null, .null, .null, .null, .null]))] H := hP
  have hD : va_D A [(h0, .inr (4, [.ref q1, .ref q2, .null, .null, .null, .null, .null, .null, .null, .null, .null, .null, .null, .null, .null, .null, .null]))] := hD
  refine lv_aload_n hx hb dX4_init_30 rfl (lv_at hl 0 rfl) ?_
  refine px_new (ci := 9) (fs := dfX9) (C := RX9) (T := TX9) (N := 6) hx hb hu iX9 tyX9 tyX9_ok hown (hu _ u48) (hu _ u49) (hu _ u50) hK hP hS rfl dfX9_ok (Nat.le_of_ble_eq_true rfl) (Nat.le_of_ble_eq_true rfl) dX4_init_31 (fun q3 H hP hq hlt hq0 hS => ?_)
  refine W.widen (k := 15) (n := 420) (Nat.le_of_ble_eq_true rfl) (Nat.le_of_ble_eq_true rfl) ?_
  refine lv_dup hx hb dX4_init_34 rfl ?_
  refine lv_bipush (v := 64) hx hb dX4_init_35 (by decide) ?_
  refine px_initJ (As := [.int 64]) (rest := [.ref q3, .ref h0]) (nL := 1) (j_X9_init l 64 64 (by decide) (by decide) (by decide) (by decide)) ⟨hx, hb, hml, hown, hu⟩ (cwI 1 hu (gC u52) rfl rfl rfl (hu _ u50) (hu _ u53) (hu _ u51) rfl (by decide +kernel) ⟨(Nat.le_of_ble_eq_true rfl), (Nat.le_of_ble_eq_true rfl)⟩) hK hev hP hq hlt hq0 hS hA rfl hl.1 (Nat.le_of_ble_eq_true rfl) dX4_init_37 ⟨(Nat.le_of_ble_eq_true rfl), (Nat.le_of_ble_eq_true rfl)⟩ (fun H locs hP hS => ?_)
  refine W.widen (k := 21) (n := 621) (Nat.le_of_ble_eq_true rfl) (Nat.le_of_ble_eq_true rfl) ?_
  refine va_putF (D := (dC, dI)) (ci := 4) (v := .ref q3) (ty := .object "CubicBench$Spot") (C := RX4) (T := TX4) (N := 17) hx hb hu iX4 tyX4 tyX4_ok nmX4 hown hK hP hD hS 0 rfl rfl 2 (by decide) (hu _ u56) (fun _ h9 => h9) rfl hin rfl (by decide +kernel) rfl rfl (Nat.le_of_ble_eq_true rfl) dX4_init_40 (fun H locs hP hD hS => ?_)
  have hP : va_P (dC, dI) clx [(h0, .inr (4, [.ref q1, .ref q2, .ref q3, .null, .null, .null, .null, .null, .null, .null, .null, .null, .null, .null, .null, .null, .null]))] H := hP
  have hD : va_D A [(h0, .inr (4, [.ref q1, .ref q2, .ref q3, .null, .null, .null, .null, .null, .null, .null, .null, .null, .null, .null, .null, .null, .null]))] := hD
  refine lv_aload_n hx hb dX4_init_43 rfl (lv_at hl 0 rfl) ?_
  refine px_new (ci := 0) (fs := dfX0) (C := RX0) (T := TX0) (N := 3) hx hb hu iX0 tyX0 tyX0_ok hown (hu _ u57) (hu _ u7) (hu _ u8) hK hP hS rfl dfX0_ok (Nat.le_of_ble_eq_true rfl) (Nat.le_of_ble_eq_true rfl) dX4_init_44 (fun q4 H hP hq hlt hq0 hS => ?_)
  refine W.widen (k := 22) (n := 624) (Nat.le_of_ble_eq_true rfl) (Nat.le_of_ble_eq_true rfl) ?_
  refine lv_dup hx hb dX4_init_47 rfl ?_
  refine lv_bipush (v := 64) hx hb dX4_init_48 (by decide) ?_
  refine px_initJ (As := [.int 64]) (rest := [.ref q4, .ref h0]) (nL := 1) (j_X0_init l 64 64 (by decide) (by decide) (by decide) (by decide)) ⟨hx, hb, hml, hown, hu⟩ (cwI 1 hu (gC u10) rfl rfl rfl (hu _ u8) (hu _ u58) (hu _ u9) rfl (by decide +kernel) ⟨(Nat.le_of_ble_eq_true rfl), (Nat.le_of_ble_eq_true rfl)⟩) hK hev hP hq hlt hq0 hS hA rfl hl.1 (Nat.le_of_ble_eq_true rfl) dX4_init_50 ⟨(Nat.le_of_ble_eq_true rfl), (Nat.le_of_ble_eq_true rfl)⟩ (fun H locs hP hS => ?_)
  refine W.widen (k := 23) (n := 688) (Nat.le_of_ble_eq_true rfl) (Nat.le_of_ble_eq_true rfl) ?_
  refine va_putF (D := (dC, dI)) (ci := 4) (v := .ref q4) (ty := .object "CubicBench$Big") (C := RX4) (T := TX4) (N := 17) hx hb hu iX4 tyX4 tyX4_ok nmX4 hown hK hP hD hS 0 rfl rfl 3 (by decide) (hu _ u59) (fun _ h9 => h9) rfl hin rfl (by decide +kernel) rfl rfl (Nat.le_of_ble_eq_true rfl) dX4_init_53 (fun H locs hP hD hS => ?_)
  have hP : va_P (dC, dI) clx [(h0, .inr (4, [.ref q1, .ref q2, .ref q3, .ref q4, .null, .null, .null, .null, .null, .null, .null, .null, .null, .null, .null, .null, .null]))] H := hP
  have hD : va_D A [(h0, .inr (4, [.ref q1, .ref q2, .ref q3, .ref q4, .null, .null, .null, .null, .null, .null, .null, .null, .null, .null, .null, .null, .null]))] := hD
  refine lv_aload_n hx hb dX4_init_56 rfl (lv_at hl 0 rfl) ?_
  refine px_new (ci := 0) (fs := dfX0) (C := RX0) (T := TX0) (N := 3) hx hb hu iX0 tyX0 tyX0_ok hown (hu _ u57) (hu _ u7) (hu _ u8) hK hP hS rfl dfX0_ok (Nat.le_of_ble_eq_true rfl) (Nat.le_of_ble_eq_true rfl) dX4_init_57 (fun q5 H hP hq hlt hq0 hS => ?_)
  refine W.widen (k := 24) (n := 691) (Nat.le_of_ble_eq_true rfl) (Nat.le_of_ble_eq_true rfl) ?_
  refine lv_dup hx hb dX4_init_60 rfl ?_
  refine lv_bipush (v := 64) hx hb dX4_init_61 (by decide) ?_
  refine px_initJ (As := [.int 64]) (rest := [.ref q5, .ref h0]) (nL := 1) (j_X0_init l 64 64 (by decide) (by decide) (by decide) (by decide)) ⟨hx, hb, hml, hown, hu⟩ (cwI 1 hu (gC u10) rfl rfl rfl (hu _ u8) (hu _ u58) (hu _ u9) rfl (by decide +kernel) ⟨(Nat.le_of_ble_eq_true rfl), (Nat.le_of_ble_eq_true rfl)⟩) hK hev hP hq hlt hq0 hS hA rfl hl.1 (Nat.le_of_ble_eq_true rfl) dX4_init_63 ⟨(Nat.le_of_ble_eq_true rfl), (Nat.le_of_ble_eq_true rfl)⟩ (fun H locs hP hS => ?_)
  refine W.widen (k := 25) (n := 755) (Nat.le_of_ble_eq_true rfl) (Nat.le_of_ble_eq_true rfl) ?_
  refine va_putF (D := (dC, dI)) (ci := 4) (v := .ref q5) (ty := .object "CubicBench$Big") (C := RX4) (T := TX4) (N := 17) hx hb hu iX4 tyX4 tyX4_ok nmX4 hown hK hP hD hS 0 rfl rfl 4 (by decide) (hu _ u60) (fun _ h9 => h9) rfl hin rfl (by decide +kernel) rfl rfl (Nat.le_of_ble_eq_true rfl) dX4_init_66 (fun H locs hP hD hS => ?_)
  have hP : va_P (dC, dI) clx [(h0, .inr (4, [.ref q1, .ref q2, .ref q3, .ref q4, .ref q5, .null, .null, .null, .null, .null, .null, .null, .null, .null, .null, .null, .null]))] H := hP
  have hD : va_D A [(h0, .inr (4, [.ref q1, .ref q2, .ref q3, .ref q4, .ref q5, .null, .null, .null, .null, .null, .null, .null, .null, .null, .null, .null, .null]))] := hD
  refine lv_aload_n hx hb dX4_init_69 rfl (lv_at hl 0 rfl) ?_
  refine px_new (ci := 0) (fs := dfX0) (C := RX0) (T := TX0) (N := 3) hx hb hu iX0 tyX0 tyX0_ok hown (hu _ u57) (hu _ u7) (hu _ u8) hK hP hS rfl dfX0_ok (Nat.le_of_ble_eq_true rfl) (Nat.le_of_ble_eq_true rfl) dX4_init_70 (fun q6 H hP hq hlt hq0 hS => ?_)
  refine W.widen (k := 26) (n := 758) (Nat.le_of_ble_eq_true rfl) (Nat.le_of_ble_eq_true rfl) ?_
  refine lv_dup hx hb dX4_init_73 rfl ?_
  refine lv_bipush (v := 64) hx hb dX4_init_74 (by decide) ?_
  refine px_initJ (As := [.int 64]) (rest := [.ref q6, .ref h0]) (nL := 1) (j_X0_init l 64 64 (by decide) (by decide) (by decide) (by decide)) ⟨hx, hb, hml, hown, hu⟩ (cwI 1 hu (gC u10) rfl rfl rfl (hu _ u8) (hu _ u58) (hu _ u9) rfl (by decide +kernel) ⟨(Nat.le_of_ble_eq_true rfl), (Nat.le_of_ble_eq_true rfl)⟩) hK hev hP hq hlt hq0 hS hA rfl hl.1 (Nat.le_of_ble_eq_true rfl) dX4_init_76 ⟨(Nat.le_of_ble_eq_true rfl), (Nat.le_of_ble_eq_true rfl)⟩ (fun H locs hP hS => ?_)
  refine W.widen (k := 27) (n := 822) (Nat.le_of_ble_eq_true rfl) (Nat.le_of_ble_eq_true rfl) ?_
  refine va_putF (D := (dC, dI)) (ci := 4) (v := .ref q6) (ty := .object "CubicBench$Big") (C := RX4) (T := TX4) (N := 17) hx hb hu iX4 tyX4 tyX4_ok nmX4 hown hK hP hD hS 0 rfl rfl 5 (by decide) (hu _ u61) (fun _ h9 => h9) rfl hin rfl (by decide +kernel) rfl rfl (Nat.le_of_ble_eq_true rfl) dX4_init_79 (fun H locs hP hD hS => ?_)
  have hP : va_P (dC, dI) clx [(h0, .inr (4, [.ref q1, .ref q2, .ref q3, .ref q4, .ref q5, .ref q6, .null, .null, .null, .null, .null, .null, .null, .null, .null, .null, .null]))] H := hP
  have hD : va_D A [(h0, .inr (4, [.ref q1, .ref q2, .ref q3, .ref q4, .ref q5, .ref q6, .null, .null, .null, .null, .null, .null, .null, .null, .null, .null, .null]))] := hD
  refine lv_aload_n hx hb dX4_init_82 rfl (lv_at hl 0 rfl) ?_
  refine px_new (ci := 0) (fs := dfX0) (C := RX0) (T := TX0) (N := 3) hx hb hu iX0 tyX0 tyX0_ok hown (hu _ u57) (hu _ u7) (hu _ u8) hK hP hS rfl dfX0_ok (Nat.le_of_ble_eq_true rfl) (Nat.le_of_ble_eq_true rfl) dX4_init_83 (fun q7 H hP hq hlt hq0 hS => ?_)
  refine W.widen (k := 28) (n := 825) (Nat.le_of_ble_eq_true rfl) (Nat.le_of_ble_eq_true rfl) ?_
  refine lv_dup hx hb dX4_init_86 rfl ?_
  refine lv_bipush (v := 64) hx hb dX4_init_87 (by decide) ?_
  refine px_initJ (As := [.int 64]) (rest := [.ref q7, .ref h0]) (nL := 1) (j_X0_init l 64 64 (by decide) (by decide) (by decide) (by decide)) ⟨hx, hb, hml, hown, hu⟩ (cwI 1 hu (gC u10) rfl rfl rfl (hu _ u8) (hu _ u58) (hu _ u9) rfl (by decide +kernel) ⟨(Nat.le_of_ble_eq_true rfl), (Nat.le_of_ble_eq_true rfl)⟩) hK hev hP hq hlt hq0 hS hA rfl hl.1 (Nat.le_of_ble_eq_true rfl) dX4_init_89 ⟨(Nat.le_of_ble_eq_true rfl), (Nat.le_of_ble_eq_true rfl)⟩ (fun H locs hP hS => ?_)
  refine W.widen (k := 29) (n := 889) (Nat.le_of_ble_eq_true rfl) (Nat.le_of_ble_eq_true rfl) ?_
  refine va_putF (D := (dC, dI)) (ci := 4) (v := .ref q7) (ty := .object "CubicBench$Big") (C := RX4) (T := TX4) (N := 17) hx hb hu iX4 tyX4 tyX4_ok nmX4 hown hK hP hD hS 0 rfl rfl 6 (by decide) (hu _ u62) (fun _ h9 => h9) rfl hin rfl (by decide +kernel) rfl rfl (Nat.le_of_ble_eq_true rfl) dX4_init_92 (fun H locs hP hD hS => ?_)
  have hP : va_P (dC, dI) clx [(h0, .inr (4, [.ref q1, .ref q2, .ref q3, .ref q4, .ref q5, .ref q6, .ref q7, .null, .null, .null, .null, .null, .null, .null, .null, .null, .null]))] H := hP
  have hD : va_D A [(h0, .inr (4, [.ref q1, .ref q2, .ref q3, .ref q4, .ref q5, .ref q6, .ref q7, .null, .null, .null, .null, .null, .null, .null, .null, .null, .null]))] := hD
  refine lv_aload_n hx hb dX4_init_95 rfl (lv_at hl 0 rfl) ?_
  refine px_new (ci := 0) (fs := dfX0) (C := RX0) (T := TX0) (N := 3) hx hb hu iX0 tyX0 tyX0_ok hown (hu _ u57) (hu _ u7) (hu _ u8) hK hP hS rfl dfX0_ok (Nat.le_of_ble_eq_true rfl) (Nat.le_of_ble_eq_true rfl) dX4_init_96 (fun q8 H hP hq hlt hq0 hS => ?_)
  refine W.widen (k := 30) (n := 892) (Nat.le_of_ble_eq_true rfl) (Nat.le_of_ble_eq_true rfl) ?_
  refine lv_dup hx hb dX4_init_99 rfl ?_
  refine lv_bipush (v := 64) hx hb dX4_init_100 (by decide) ?_
  refine px_initJ (As := [.int 64]) (rest := [.ref q8, .ref h0]) (nL := 1) (j_X0_init l 64 64 (by decide) (by decide) (by decide) (by decide)) ⟨hx, hb, hml, hown, hu⟩ (cwI 1 hu (gC u10) rfl rfl rfl (hu _ u8) (hu _ u58) (hu _ u9) rfl (by decide +kernel) ⟨(Nat.le_of_ble_eq_true rfl), (Nat.le_of_ble_eq_true rfl)⟩) hK hev hP hq hlt hq0 hS hA rfl hl.1 (Nat.le_of_ble_eq_true rfl) dX4_init_102 ⟨(Nat.le_of_ble_eq_true rfl), (Nat.le_of_ble_eq_true rfl)⟩ (fun H locs hP hS => ?_)
  refine W.widen (k := 31) (n := 956) (Nat.le_of_ble_eq_true rfl) (Nat.le_of_ble_eq_true rfl) ?_
  refine va_putF (D := (dC, dI)) (ci := 4) (v := .ref q8) (ty := .object "CubicBench$Big") (C := RX4) (T := TX4) (N := 17) hx hb hu iX4 tyX4 tyX4_ok nmX4 hown hK hP hD hS 0 rfl rfl 7 (by decide) (hu _ u63) (fun _ h9 => h9) rfl hin rfl (by decide +kernel) rfl rfl (Nat.le_of_ble_eq_true rfl) dX4_init_105 (fun H locs hP hD hS => ?_)
  have hP : va_P (dC, dI) clx [(h0, .inr (4, [.ref q1, .ref q2, .ref q3, .ref q4, .ref q5, .ref q6, .ref q7, .ref q8, .null, .null, .null, .null, .null, .null, .null, .null, .null]))] H := hP
  have hD : va_D A [(h0, .inr (4, [.ref q1, .ref q2, .ref q3, .ref q4, .ref q5, .ref q6, .ref q7, .ref q8, .null, .null, .null, .null, .null, .null, .null, .null, .null]))] := hD
  refine lv_aload_n hx hb dX4_init_108 rfl (lv_at hl 0 rfl) ?_
  refine px_new (ci := 0) (fs := dfX0) (C := RX0) (T := TX0) (N := 3) hx hb hu iX0 tyX0 tyX0_ok hown (hu _ u57) (hu _ u7) (hu _ u8) hK hP hS rfl dfX0_ok (Nat.le_of_ble_eq_true rfl) (Nat.le_of_ble_eq_true rfl) dX4_init_109 (fun q9 H hP hq hlt hq0 hS => ?_)
  refine W.widen (k := 32) (n := 959) (Nat.le_of_ble_eq_true rfl) (Nat.le_of_ble_eq_true rfl) ?_
  refine lv_dup hx hb dX4_init_112 rfl ?_
  refine lv_bipush (v := 64) hx hb dX4_init_113 (by decide) ?_
  refine px_initJ (As := [.int 64]) (rest := [.ref q9, .ref h0]) (nL := 1) (j_X0_init l 64 64 (by decide) (by decide) (by decide) (by decide)) ⟨hx, hb, hml, hown, hu⟩ (cwI 1 hu (gC u10) rfl rfl rfl (hu _ u8) (hu _ u58) (hu _ u9) rfl (by decide +kernel) ⟨(Nat.le_of_ble_eq_true rfl), (Nat.le_of_ble_eq_true rfl)⟩) hK hev hP hq hlt hq0 hS hA rfl hl.1 (Nat.le_of_ble_eq_true rfl) dX4_init_115 ⟨(Nat.le_of_ble_eq_true rfl), (Nat.le_of_ble_eq_true rfl)⟩ (fun H locs hP hS => ?_)
  refine W.widen (k := 33) (n := 1023) (Nat.le_of_ble_eq_true rfl) (Nat.le_of_ble_eq_true rfl) ?_
  refine va_putF (D := (dC, dI)) (ci := 4) (v := .ref q9) (ty := .object "CubicBench$Big") (C := RX4) (T := TX4) (N := 17) hx hb hu iX4 tyX4 tyX4_ok nmX4 hown hK hP hD hS 0 rfl rfl 8 (by decide) (hu _ u64) (fun _ h9 => h9) rfl hin rfl (by decide +kernel) rfl rfl (Nat.le_of_ble_eq_true rfl) dX4_init_118 (fun H locs hP hD hS => ?_)
  have hP : va_P (dC, dI) clx [(h0, .inr (4, [.ref q1, .ref q2, .ref q3, .ref q4, .ref q5, .ref q6, .ref q7, .ref q8, .ref q9, .null, .null, .null, .null, .null, .null, .null, .null]))] H := hP
  have hD : va_D A [(h0, .inr (4, [.ref q1, .ref q2, .ref q3, .ref q4, .ref q5, .ref q6, .ref q7, .ref q8, .ref q9, .null, .null, .null, .null, .null, .null, .null, .null]))] := hD
  refine lv_aload_n hx hb dX4_init_121 rfl (lv_at hl 0 rfl) ?_
  refine px_new (ci := 0) (fs := dfX0) (C := RX0) (T := TX0) (N := 3) hx hb hu iX0 tyX0 tyX0_ok hown (hu _ u57) (hu _ u7) (hu _ u8) hK hP hS rfl dfX0_ok (Nat.le_of_ble_eq_true rfl) (Nat.le_of_ble_eq_true rfl) dX4_init_122 (fun q10 H hP hq hlt hq0 hS => ?_)
  refine W.widen (k := 34) (n := 1026) (Nat.le_of_ble_eq_true rfl) (Nat.le_of_ble_eq_true rfl) ?_
  refine lv_dup hx hb dX4_init_125 rfl ?_
  refine lv_bipush (v := 64) hx hb dX4_init_126 (by decide) ?_
  refine px_initJ (As := [.int 64]) (rest := [.ref q10, .ref h0]) (nL := 1) (j_X0_init l 64 64 (by decide) (by decide) (by decide) (by decide)) ⟨hx, hb, hml, hown, hu⟩ (cwI 1 hu (gC u10) rfl rfl rfl (hu _ u8) (hu _ u58) (hu _ u9) rfl (by decide +kernel) ⟨(Nat.le_of_ble_eq_true rfl), (Nat.le_of_ble_eq_true rfl)⟩) hK hev hP hq hlt hq0 hS hA rfl hl.1 (Nat.le_of_ble_eq_true rfl) dX4_init_128 ⟨(Nat.le_of_ble_eq_true rfl), (Nat.le_of_ble_eq_true rfl)⟩ (fun H locs hP hS => ?_)
  refine W.widen (k := 35) (n := 1090) (Nat.le_of_ble_eq_true rfl) (Nat.le_of_ble_eq_true rfl) ?_
  refine va_putF (D := (dC, dI)) (ci := 4) (v := .ref q10) (ty := .object "CubicBench$Big") (C := RX4) (T := TX4) (N := 17) hx hb hu iX4 tyX4 tyX4_ok nmX4 hown hK hP hD hS 0 rfl rfl 9 (by decide) (hu _ u65) (fun _ h9 => h9) rfl hin rfl (by decide +kernel) rfl rfl (Nat.le_of_ble_eq_true rfl) dX4_init_131 (fun H locs hP hD hS => ?_)
  have hP : va_P (dC, dI) clx [(h0, .inr (4, [.ref q1, .ref q2, .ref q3, .ref q4, .ref q5, .ref q6, .ref q7, .ref q8, .ref q9, .ref q10, .null, .null, .null, .null, .null, .null, .null]))] H := hP
  have hD : va_D A [(h0, .inr (4, [.ref q1, .ref q2, .ref q3, .ref q4, .ref q5, .ref q6, .ref q7, .ref q8, .ref q9, .ref q10, .null, .null, .null, .null, .null, .null, .null]))] := hD
  refine lv_aload_n hx hb dX4_init_134 rfl (lv_at hl 0 rfl) ?_
  refine px_new (ci := 0) (fs := dfX0) (C := RX0) (T := TX0) (N := 3) hx hb hu iX0 tyX0 tyX0_ok hown (hu _ u57) (hu _ u7) (hu _ u8) hK hP hS rfl dfX0_ok (Nat.le_of_ble_eq_true rfl) (Nat.le_of_ble_eq_true rfl) dX4_init_135 (fun q11 H hP hq hlt hq0 hS => ?_)
  refine W.widen (k := 36) (n := 1093) (Nat.le_of_ble_eq_true rfl) (Nat.le_of_ble_eq_true rfl) ?_
  refine lv_dup hx hb dX4_init_138 rfl ?_
  refine lv_bipush (v := 64) hx hb dX4_init_139 (by decide) ?_
  refine px_initJ (As := [.int 64]) (rest := [.ref q11, .ref h0]) (nL := 1) (j_X0_init l 64 64 (by decide) (by decide) (by decide) (by decide)) ⟨hx, hb, hml, hown, hu⟩ (cwI 1 hu (gC u10) rfl rfl rfl (hu _ u8) (hu _ u58) (hu _ u9) rfl (by decide +kernel) ⟨(Nat.le_of_ble_eq_true rfl), (Nat.le_of_ble_eq_true rfl)⟩) hK hev hP hq hlt hq0 hS hA rfl hl.1 (Nat.le_of_ble_eq_true rfl) dX4_init_141 ⟨(Nat.le_of_ble_eq_true rfl), (Nat.le_of_ble_eq_true rfl)⟩ (fun H locs hP hS => ?_)
  refine W.widen (k := 37) (n := 1157) (Nat.le_of_ble_eq_true rfl) (Nat.le_of_ble_eq_true rfl) ?_
  refine va_putF (D := (dC, dI)) (ci := 4) (v := .ref q11) (ty := .object "CubicBench$Big") (C := RX4) (T := TX4) (N := 17) hx hb hu iX4 tyX4 tyX4_ok nmX4 hown hK hP hD hS 0 rfl rfl 10 (by decide) (hu _ u66) (fun _ h9 => h9) rfl hin rfl (by decide +kernel) rfl rfl (Nat.le_of_ble_eq_true rfl) dX4_init_144 (fun H locs hP hD hS => ?_)
  have hP : va_P (dC, dI) clx [(h0, .inr (4, [.ref q1, .ref q2, .ref q3, .ref q4, .ref q5, .ref q6, .ref q7, .ref q8, .ref q9, .ref q10, .ref q11, .null, .null, .null, .null, .null, .null]))] H := hP
  have hD : va_D A [(h0, .inr (4, [.ref q1, .ref q2, .ref q3, .ref q4, .ref q5, .ref q6, .ref q7, .ref q8, .ref q9, .ref q10, .ref q11, .null, .null, .null, .null, .null, .null]))] := hD
  refine lv_aload_n hx hb dX4_init_147 rfl (lv_at hl 0 rfl) ?_
  refine px_new (ci := 0) (fs := dfX0) (C := RX0) (T := TX0) (N := 3) hx hb hu iX0 tyX0 tyX0_ok hown (hu _ u57) (hu _ u7) (hu _ u8) hK hP hS rfl dfX0_ok (Nat.le_of_ble_eq_true rfl) (Nat.le_of_ble_eq_true rfl) dX4_init_148 (fun q12 H hP hq hlt hq0 hS => ?_)
  refine W.widen (k := 38) (n := 1160) (Nat.le_of_ble_eq_true rfl) (Nat.le_of_ble_eq_true rfl) ?_
  refine lv_dup hx hb dX4_init_151 rfl ?_
  refine lv_bipush (v := 64) hx hb dX4_init_152 (by decide) ?_
  refine px_initJ (As := [.int 64]) (rest := [.ref q12, .ref h0]) (nL := 1) (j_X0_init l 64 64 (by decide) (by decide) (by decide) (by decide)) ⟨hx, hb, hml, hown, hu⟩ (cwI 1 hu (gC u10) rfl rfl rfl (hu _ u8) (hu _ u58) (hu _ u9) rfl (by decide +kernel) ⟨(Nat.le_of_ble_eq_true rfl), (Nat.le_of_ble_eq_true rfl)⟩) hK hev hP hq hlt hq0 hS hA rfl hl.1 (Nat.le_of_ble_eq_true rfl) dX4_init_154 ⟨(Nat.le_of_ble_eq_true rfl), (Nat.le_of_ble_eq_true rfl)⟩ (fun H locs hP hS => ?_)
  refine W.widen (k := 39) (n := 1224) (Nat.le_of_ble_eq_true rfl) (Nat.le_of_ble_eq_true rfl) ?_
  refine va_putF (D := (dC, dI)) (ci := 4) (v := .ref q12) (ty := .object "CubicBench$Big") (C := RX4) (T := TX4) (N := 17) hx hb hu iX4 tyX4 tyX4_ok nmX4 hown hK hP hD hS 0 rfl rfl 11 (by decide) (hu _ u67) (fun _ h9 => h9) rfl hin rfl (by decide +kernel) rfl rfl (Nat.le_of_ble_eq_true rfl) dX4_init_157 (fun H locs hP hD hS => ?_)
  have hP : va_P (dC, dI) clx [(h0, .inr (4, [.ref q1, .ref q2, .ref q3, .ref q4, .ref q5, .ref q6, .ref q7, .ref q8, .ref q9, .ref q10, .ref q11, .ref q12, .null, .null, .null, .null, .null]))] H := hP
  have hD : va_D A [(h0, .inr (4, [.ref q1, .ref q2, .ref q3, .ref q4, .ref q5, .ref q6, .ref q7, .ref q8, .ref q9, .ref q10, .ref q11, .ref q12, .null, .null, .null, .null, .null]))] := hD
  refine lv_aload_n hx hb dX4_init_160 rfl (lv_at hl 0 rfl) ?_
  refine px_new (ci := 0) (fs := dfX0) (C := RX0) (T := TX0) (N := 3) hx hb hu iX0 tyX0 tyX0_ok hown (hu _ u57) (hu _ u7) (hu _ u8) hK hP hS rfl dfX0_ok (Nat.le_of_ble_eq_true rfl) (Nat.le_of_ble_eq_true rfl) dX4_init_161 (fun q13 H hP hq hlt hq0 hS => ?_)
  refine W.widen (k := 40) (n := 1227) (Nat.le_of_ble_eq_true rfl) (Nat.le_of_ble_eq_true rfl) ?_
  refine lv_dup hx hb dX4_init_164 rfl ?_
  refine lv_bipush (v := 64) hx hb dX4_init_165 (by decide) ?_
  refine px_initJ (As := [.int 64]) (rest := [.ref q13, .ref h0]) (nL := 1) (j_X0_init l 64 64 (by decide) (by decide) (by decide) (by decide)) ⟨hx, hb, hml, hown, hu⟩ (cwI 1 hu (gC u10) rfl rfl rfl (hu _ u8) (hu _ u58) (hu _ u9) rfl (by decide +kernel) ⟨(Nat.le_of_ble_eq_true rfl), (Nat.le_of_ble_eq_true rfl)⟩) hK hev hP hq hlt hq0 hS hA rfl hl.1 (Nat.le_of_ble_eq_true rfl) dX4_init_167 ⟨(Nat.le_of_ble_eq_true rfl), (Nat.le_of_ble_eq_true rfl)⟩ (fun H locs hP hS => ?_)
  refine W.widen (k := 41) (n := 1291) (Nat.le_of_ble_eq_true rfl) (Nat.le_of_ble_eq_true rfl) ?_
  refine va_putF (D := (dC, dI)) (ci := 4) (v := .ref q13) (ty := .object "CubicBench$Big") (C := RX4) (T := TX4) (N := 17) hx hb hu iX4 tyX4 tyX4_ok nmX4 hown hK hP hD hS 0 rfl rfl 12 (by decide) (hu _ u68) (fun _ h9 => h9) rfl hin rfl (by decide +kernel) rfl rfl (Nat.le_of_ble_eq_true rfl) dX4_init_170 (fun H locs hP hD hS => ?_)
  have hP : va_P (dC, dI) clx [(h0, .inr (4, [.ref q1, .ref q2, .ref q3, .ref q4, .ref q5, .ref q6, .ref q7, .ref q8, .ref q9, .ref q10, .ref q11, .ref q12, .ref q13, .null, .null, .null, .null]))] H := hP
  have hD : va_D A [(h0, .inr (4, [.ref q1, .ref q2, .ref q3, .ref q4, .ref q5, .ref q6, .ref q7, .ref q8, .ref q9, .ref q10, .ref q11, .ref q12, .ref q13, .null, .null, .null, .null]))] := hD
  refine lv_aload_n hx hb dX4_init_173 rfl (lv_at hl 0 rfl) ?_
  refine px_new (ci := 0) (fs := dfX0) (C := RX0) (T := TX0) (N := 3) hx hb hu iX0 tyX0 tyX0_ok hown (hu _ u57) (hu _ u7) (hu _ u8) hK hP hS rfl dfX0_ok (Nat.le_of_ble_eq_true rfl) (Nat.le_of_ble_eq_true rfl) dX4_init_174 (fun q14 H hP hq hlt hq0 hS => ?_)
  refine W.widen (k := 42) (n := 1294) (Nat.le_of_ble_eq_true rfl) (Nat.le_of_ble_eq_true rfl) ?_
  refine lv_dup hx hb dX4_init_177 rfl ?_
  refine lv_bipush (v := 64) hx hb dX4_init_178 (by decide) ?_
  refine px_initJ (As := [.int 64]) (rest := [.ref q14, .ref h0]) (nL := 1) (j_X0_init l 64 64 (by decide) (by decide) (by decide) (by decide)) ⟨hx, hb, hml, hown, hu⟩ (cwI 1 hu (gC u10) rfl rfl rfl (hu _ u8) (hu _ u58) (hu _ u9) rfl (by decide +kernel) ⟨(Nat.le_of_ble_eq_true rfl), (Nat.le_of_ble_eq_true rfl)⟩) hK hev hP hq hlt hq0 hS hA rfl hl.1 (Nat.le_of_ble_eq_true rfl) dX4_init_180 ⟨(Nat.le_of_ble_eq_true rfl), (Nat.le_of_ble_eq_true rfl)⟩ (fun H locs hP hS => ?_)
  refine W.widen (k := 43) (n := 1358) (Nat.le_of_ble_eq_true rfl) (Nat.le_of_ble_eq_true rfl) ?_
  refine va_putF (D := (dC, dI)) (ci := 4) (v := .ref q14) (ty := .object "CubicBench$Big") (C := RX4) (T := TX4) (N := 17) hx hb hu iX4 tyX4 tyX4_ok nmX4 hown hK hP hD hS 0 rfl rfl 13 (by decide) (hu _ u69) (fun _ h9 => h9) rfl hin rfl (by decide +kernel) rfl rfl (Nat.le_of_ble_eq_true rfl) dX4_init_183 (fun H locs hP hD hS => ?_)
  have hP : va_P (dC, dI) clx [(h0, .inr (4, [.ref q1, .ref q2, .ref q3, .ref q4, .ref q5, .ref q6, .ref q7, .ref q8, .ref q9, .ref q10, .ref q11, .ref q12, .ref q13, .ref q14, .null, .null, .null]))] H := hP
  have hD : va_D A [(h0, .inr (4, [.ref q1, .ref q2, .ref q3, .ref q4, .ref q5, .ref q6, .ref q7, .ref q8, .ref q9, .ref q10, .ref q11, .ref q12, .ref q13, .ref q14, .null, .null, .null]))] := hD
  refine lv_aload_n hx hb dX4_init_186 rfl (lv_at hl 0 rfl) ?_
  refine px_new (ci := 0) (fs := dfX0) (C := RX0) (T := TX0) (N := 3) hx hb hu iX0 tyX0 tyX0_ok hown (hu _ u57) (hu _ u7) (hu _ u8) hK hP hS rfl dfX0_ok (Nat.le_of_ble_eq_true rfl) (Nat.le_of_ble_eq_true rfl) dX4_init_187 (fun q15 H hP hq hlt hq0 hS => ?_)
  refine W.widen (k := 44) (n := 1361) (Nat.le_of_ble_eq_true rfl) (Nat.le_of_ble_eq_true rfl) ?_
  refine lv_dup hx hb dX4_init_190 rfl ?_
  refine lv_bipush (v := 64) hx hb dX4_init_191 (by decide) ?_
  refine px_initJ (As := [.int 64]) (rest := [.ref q15, .ref h0]) (nL := 1) (j_X0_init l 64 64 (by decide) (by decide) (by decide) (by decide)) ⟨hx, hb, hml, hown, hu⟩ (cwI 1 hu (gC u10) rfl rfl rfl (hu _ u8) (hu _ u58) (hu _ u9) rfl (by decide +kernel) ⟨(Nat.le_of_ble_eq_true rfl), (Nat.le_of_ble_eq_true rfl)⟩) hK hev hP hq hlt hq0 hS hA rfl hl.1 (Nat.le_of_ble_eq_true rfl) dX4_init_193 ⟨(Nat.le_of_ble_eq_true rfl), (Nat.le_of_ble_eq_true rfl)⟩ (fun H locs hP hS => ?_)
  refine W.widen (k := 45) (n := 1425) (Nat.le_of_ble_eq_true rfl) (Nat.le_of_ble_eq_true rfl) ?_
  refine va_putF (D := (dC, dI)) (ci := 4) (v := .ref q15) (ty := .object "CubicBench$Big") (C := RX4) (T := TX4) (N := 17) hx hb hu iX4 tyX4 tyX4_ok nmX4 hown hK hP hD hS 0 rfl rfl 14 (by decide) (hu _ u70) (fun _ h9 => h9) rfl hin rfl (by decide +kernel) rfl rfl (Nat.le_of_ble_eq_true rfl) dX4_init_196 (fun H locs hP hD hS => ?_)
  have hP : va_P (dC, dI) clx [(h0, .inr (4, [.ref q1, .ref q2, .ref q3, .ref q4, .ref q5, .ref q6, .ref q7, .ref q8, .ref q9, .ref q10, .ref q11, .ref q12, .ref q13, .ref q14, .ref q15, .null, .null]))] H := hP
  have hD : va_D A [(h0, .inr (4, [.ref q1, .ref q2, .ref q3, .ref q4, .ref q5, .ref q6, .ref q7, .ref q8, .ref q9, .ref q10, .ref q11, .ref q12, .ref q13, .ref q14, .ref q15, .null, .null]))] := hD
  refine lv_aload_n hx hb dX4_init_199 rfl (lv_at hl 0 rfl) ?_
  refine px_new (ci := 0) (fs := dfX0) (C := RX0) (T := TX0) (N := 3) hx hb hu iX0 tyX0 tyX0_ok hown (hu _ u57) (hu _ u7) (hu _ u8) hK hP hS rfl dfX0_ok (Nat.le_of_ble_eq_true rfl) (Nat.le_of_ble_eq_true rfl) dX4_init_200 (fun q16 H hP hq hlt hq0 hS => ?_)
  refine W.widen (k := 46) (n := 1428) (Nat.le_of_ble_eq_true rfl) (Nat.le_of_ble_eq_true rfl) ?_
  refine lv_dup hx hb dX4_init_203 rfl ?_
  refine lv_bipush (v := 64) hx hb dX4_init_204 (by decide) ?_
  refine px_initJ (As := [.int 64]) (rest := [.ref q16, .ref h0]) (nL := 1) (j_X0_init l 64 64 (by decide) (by decide) (by decide) (by decide)) ⟨hx, hb, hml, hown, hu⟩ (cwI 1 hu (gC u10) rfl rfl rfl (hu _ u8) (hu _ u58) (hu _ u9) rfl (by decide +kernel) ⟨(Nat.le_of_ble_eq_true rfl), (Nat.le_of_ble_eq_true rfl)⟩) hK hev hP hq hlt hq0 hS hA rfl hl.1 (Nat.le_of_ble_eq_true rfl) dX4_init_206 ⟨(Nat.le_of_ble_eq_true rfl), (Nat.le_of_ble_eq_true rfl)⟩ (fun H locs hP hS => ?_)
  refine W.widen (k := 47) (n := 1492) (Nat.le_of_ble_eq_true rfl) (Nat.le_of_ble_eq_true rfl) ?_
  refine va_putF (D := (dC, dI)) (ci := 4) (v := .ref q16) (ty := .object "CubicBench$Big") (C := RX4) (T := TX4) (N := 17) hx hb hu iX4 tyX4 tyX4_ok nmX4 hown hK hP hD hS 0 rfl rfl 15 (by decide) (hu _ u71) (fun _ h9 => h9) rfl hin rfl (by decide +kernel) rfl rfl (Nat.le_of_ble_eq_true rfl) dX4_init_209 (fun H locs hP hD hS => ?_)
  have hP : va_P (dC, dI) clx [(h0, .inr (4, [.ref q1, .ref q2, .ref q3, .ref q4, .ref q5, .ref q6, .ref q7, .ref q8, .ref q9, .ref q10, .ref q11, .ref q12, .ref q13, .ref q14, .ref q15, .ref q16, .null]))] H := hP
  have hD : va_D A [(h0, .inr (4, [.ref q1, .ref q2, .ref q3, .ref q4, .ref q5, .ref q6, .ref q7, .ref q8, .ref q9, .ref q10, .ref q11, .ref q12, .ref q13, .ref q14, .ref q15, .ref q16, .null]))] := hD
  refine lv_aload_n hx hb dX4_init_212 rfl (lv_at hl 0 rfl) ?_
  refine px_new (ci := 0) (fs := dfX0) (C := RX0) (T := TX0) (N := 3) hx hb hu iX0 tyX0 tyX0_ok hown (hu _ u57) (hu _ u7) (hu _ u8) hK hP hS rfl dfX0_ok (Nat.le_of_ble_eq_true rfl) (Nat.le_of_ble_eq_true rfl) dX4_init_213 (fun q17 H hP hq hlt hq0 hS => ?_)
  refine W.widen (k := 48) (n := 1495) (Nat.le_of_ble_eq_true rfl) (Nat.le_of_ble_eq_true rfl) ?_
  refine lv_dup hx hb dX4_init_216 rfl ?_
  refine lv_bipush (v := 16) hx hb dX4_init_217 (by decide) ?_
  refine px_initJ (As := [.int 16]) (rest := [.ref q17, .ref h0]) (nL := 1) (j_X0_init l 16 16 (by decide) (by decide) (by decide) (by decide)) ⟨hx, hb, hml, hown, hu⟩ (cwI 1 hu (gC u10) rfl rfl rfl (hu _ u8) (hu _ u58) (hu _ u9) rfl (by decide +kernel) ⟨(Nat.le_of_ble_eq_true rfl), (Nat.le_of_ble_eq_true rfl)⟩) hK hev hP hq hlt hq0 hS hA rfl hl.1 (Nat.le_of_ble_eq_true rfl) dX4_init_219 ⟨(Nat.le_of_ble_eq_true rfl), (Nat.le_of_ble_eq_true rfl)⟩ (fun H locs hP hS => ?_)
  refine W.widen (k := 49) (n := 1559) (Nat.le_of_ble_eq_true rfl) (Nat.le_of_ble_eq_true rfl) ?_
  refine va_putF (D := (dC, dI)) (ci := 4) (v := .ref q17) (ty := .object "CubicBench$Big") (C := RX4) (T := TX4) (N := 17) hx hb hu iX4 tyX4 tyX4_ok nmX4 hown hK hP hD hS 0 rfl rfl 16 (by decide) (hu _ u72) (fun _ h9 => h9) rfl hin rfl (by decide +kernel) rfl rfl (Nat.le_of_ble_eq_true rfl) dX4_init_222 (fun H locs hP hD hS => ?_)
  have hP : va_P (dC, dI) clx [(h0, .inr (4, [.ref q1, .ref q2, .ref q3, .ref q4, .ref q5, .ref q6, .ref q7, .ref q8, .ref q9, .ref q10, .ref q11, .ref q12, .ref q13, .ref q14, .ref q15, .ref q16, .ref q17]))] H := hP
  have hD : va_D A [(h0, .inr (4, [.ref q1, .ref q2, .ref q3, .ref q4, .ref q5, .ref q6, .ref q7, .ref q8, .ref q9, .ref q10, .ref q11, .ref q12, .ref q13, .ref q14, .ref q15, .ref q16, .ref q17]))] := hD
  refine W.widen (k := 49) (n := 1559) (Nat.le_of_ble_eq_true rfl) (Nat.le_of_ble_eq_true rfl) ?_
  exact W.vret hx hb hr (fun t ht hW => ⟨⟨(), rfl, trivial, trivial⟩, hS.F ht⟩) hS.2.2 dX4_init_225
def wk_X13_init : List Cond := .code yX13_init cX13_init 1 none :: wU
set_option maxHeartbeats 4000000 in
set_option maxRecDepth 100000 in
theorem j_X13_init (l : Launch) : JC l yX13_init wk_X13_init ({ frames := 2, cells := 1, slots := 460, locals := 60 } : Room) 13 dfX13 [] 1 460 := by
  intro dC dI h0 sz
  refine Met.ofW (cc := cX13_init) (maxL := 1) (ret := none) (by decide) rfl ?_
  intro p e s m args below meth c s₁ B hml hv
  obtain ⟨rfl, hsz, hP, hK, hev⟩ := hv
  have hx := B.exec
  have hb := B.bytes
  have hr := B.returns
  have hts := atoms_spec (ws := wk_X13_init) B.pre
  have hu : ∀ w ∈ wU, w.before (Value.ref h0 :: []).toArray s = true := fun w h => hts w (List.mem_cons_of_mem _ h)
  have hown : s.vm.findClass RX13 = some m.cls := findClass_of_methodNamed B.named
  have hlocks := B.notSynchronized
  have hin : meth.name = "<init>" := (name_of_methodNamed B.named B.method).1
  subst hsz
  have hD := va_D1 (sz := s.heap.size) h0 (.inr (13, dfX13))
  generalize hAe : va_A [(h0, .inr (13, dfX13))] s.heap.size = A at hD ⊢
  have hA : ∀ q : Nat, s.heap.size ≤ q → A q := fun q h => by rw [← hAe]; exact Or.inr h
  have hS : va_S A s.heap s.heap [] := va_S.rf
  have hP : va_P (dC, dI) clx [(h0, .inr (13, [.null, .int 0, .int 0]))] s.heap := hP
  have hD : va_D A [(h0, .inr (13, [.null, .int 0, .int 0]))] := hD
  have hl := lv_entry ([.ref h0]) (n := 1) (Nat.le_of_ble_eq_true rfl)
  rw [lg_entry_eq]
  generalize (lg_sl ([.ref h0]) ++ List.replicate (1 - (lg_sl ([.ref h0])).length) Slot.unset).toArray = ls at hl ⊢
  have hl : lv_has ls 1 [(0, .ref h0)] := hl
  refine lv_aload_n hx hb dX13_init_0 rfl (lv_at hl 0 rfl) ?_
  refine W.objInit hx hb hown (hu _ u73) (hu _ u1) (hu _ u2) rfl (by rw [hml]; exact hl.1) rfl dX13_init_1 (Nat.le_of_ble_eq_true rfl) (Nat.le_of_ble_eq_true rfl) ?_
  refine W.eq (g2 := F0 m 4 ls []) rfl ?_
  refine lv_aload_n hx hb dX13_init_4 rfl (lv_at hl 0 rfl) ?_
  refine lv_sipush (v := 460) hx hb dX13_init_5 (by decide) ?_
  refine px_newaJ (atype := .int) hx hb (hu _ u3) hP hS 460 (by decide) (by decide) (by decide) (Nat.le_of_ble_eq_true rfl) (Nat.le_of_ble_eq_true rfl) dX13_init_8 (fun q1 H hP hS => ?_)
  refine W.widen (k := 1) (n := 460) (Nat.le_of_ble_eq_true rfl) (Nat.le_of_ble_eq_true rfl) ?_
  refine va_putF (D := (dC, dI)) (ci := 13) (v := .ref q1) (ty := .array .int) (C := RX13) (T := TX13) (N := 3) hx hb hu iX13 tyX13 tyX13_ok nmX13 hown hK hP hD hS 0 rfl rfl 0 (by decide) (hu _ u74) (fun _ h9 => h9) rfl hin rfl (by decide +kernel) rfl rfl (Nat.le_of_ble_eq_true rfl) dX13_init_10 (fun H locs hP hD hS => ?_)
  have hP : va_P (dC, dI) clx [(h0, .inr (13, [.ref q1, .int 0, .int 0]))] H := hP
  have hD : va_D A [(h0, .inr (13, [.ref q1, .int 0, .int 0]))] := hD
  refine W.widen (k := 1) (n := 460) (Nat.le_of_ble_eq_true rfl) (Nat.le_of_ble_eq_true rfl) ?_
  exact W.vret hx hb hr (fun t ht hW => ⟨⟨(), rfl, trivial, trivial⟩, hS.F ht⟩) hS.2.2 dX13_init_13
def wk_X12_init : List Cond := .code yX12_init cX12_init 1 none :: wU
set_option maxHeartbeats 4000000 in
set_option maxRecDepth 100000 in
theorem j_X12_init (l : Launch) : JC l yX12_init wk_X12_init ({ frames := 3, cells := 4, slots := 926, locals := 80 } : Room) 12 dfX12 [] 4 926 := by
  intro dC dI h0 sz
  refine Met.ofW (cc := cX12_init) (maxL := 1) (ret := none) (by decide) rfl ?_
  intro p e s m args below meth c s₁ B hml hv
  obtain ⟨rfl, hsz, hP, hK, hev⟩ := hv
  have hx := B.exec
  have hb := B.bytes
  have hr := B.returns
  have hts := atoms_spec (ws := wk_X12_init) B.pre
  have hu : ∀ w ∈ wU, w.before (Value.ref h0 :: []).toArray s = true := fun w h => hts w (List.mem_cons_of_mem _ h)
  have hown : s.vm.findClass RX12 = some m.cls := findClass_of_methodNamed B.named
  have hlocks := B.notSynchronized
  have hin : meth.name = "<init>" := (name_of_methodNamed B.named B.method).1
  subst hsz
  have hD := va_D1 (sz := s.heap.size) h0 (.inr (12, dfX12))
  generalize hAe : va_A [(h0, .inr (12, dfX12))] s.heap.size = A at hD ⊢
  have hA : ∀ q : Nat, s.heap.size ≤ q → A q := fun q h => by rw [← hAe]; exact Or.inr h
  have hS : va_S A s.heap s.heap [] := va_S.rf
  have hP : va_P (dC, dI) clx [(h0, .inr (12, [.null, .null]))] s.heap := hP
  have hD : va_D A [(h0, .inr (12, [.null, .null]))] := hD
  have hl := lv_entry ([.ref h0]) (n := 1) (Nat.le_of_ble_eq_true rfl)
  rw [lg_entry_eq]
  generalize (lg_sl ([.ref h0]) ++ List.replicate (1 - (lg_sl ([.ref h0])).length) Slot.unset).toArray = ls at hl ⊢
  have hl : lv_has ls 1 [(0, .ref h0)] := hl
  refine lv_aload_n hx hb dX12_init_0 rfl (lv_at hl 0 rfl) ?_
  refine W.objInit hx hb hown (hu _ u75) (hu _ u1) (hu _ u2) rfl (by rw [hml]; exact hl.1) rfl dX12_init_1 (Nat.le_of_ble_eq_true rfl) (Nat.le_of_ble_eq_true rfl) ?_
  refine W.eq (g2 := F0 m 4 ls []) rfl ?_
  refine lv_aload_n hx hb dX12_init_4 rfl (lv_at hl 0 rfl) ?_
  refine px_new (ci := 13) (fs := dfX13) (C := RX13) (T := TX13) (N := 3) hx hb hu iX13 tyX13 tyX13_ok hown (hu _ u76) (hu _ u77) (hu _ u78) hK hP hS rfl dfX13_ok (Nat.le_of_ble_eq_true rfl) (Nat.le_of_ble_eq_true rfl) dX12_init_5 (fun q1 H hP hq hlt hq0 hS => ?_)
  refine W.widen (k := 1) (n := 3) (Nat.le_of_ble_eq_true rfl) (Nat.le_of_ble_eq_true rfl) ?_
  refine lv_dup hx hb dX12_init_8 rfl ?_
  refine px_initN (As := []) (rest := [.ref q1, .ref h0]) (nL := 1) (j_X13_init l) ⟨hx, hb, hml, hown, hu⟩ ⟨va_cnB 0 hu (gC u80) rfl rfl rfl hev.1.2.2.2.1 (hu _ u78) (by decide +kernel) ⟨(Nat.le_of_ble_eq_true rfl), (Nat.le_of_ble_eq_true rfl)⟩, rfl, hu _ u79⟩ hK hev hP hq hlt hq0 hS hA rfl hl.1 (Nat.le_of_ble_eq_true rfl) dX12_init_9 ⟨(Nat.le_of_ble_eq_true rfl), (Nat.le_of_ble_eq_true rfl)⟩ (fun H locs hP hS => ?_)
  refine W.widen (k := 2) (n := 463) (Nat.le_of_ble_eq_true rfl) (Nat.le_of_ble_eq_true rfl) ?_
  refine va_putF (D := (dC, dI)) (ci := 12) (v := .ref q1) (ty := .object "CubicBenchModel$Num") (C := RX12) (T := TX12) (N := 2) hx hb hu iX12 tyX12 tyX12_ok nmX12 hown hK hP hD hS 0 rfl rfl 0 (by decide) (hu _ u81) (fun _ h9 => h9) rfl hin rfl (by decide +kernel) rfl rfl (Nat.le_of_ble_eq_true rfl) dX12_init_12 (fun H locs hP hD hS => ?_)
  have hP : va_P (dC, dI) clx [(h0, .inr (12, [.ref q1, .null]))] H := hP
  have hD : va_D A [(h0, .inr (12, [.ref q1, .null]))] := hD
  refine lv_aload_n hx hb dX12_init_15 rfl (lv_at hl 0 rfl) ?_
  refine px_new (ci := 13) (fs := dfX13) (C := RX13) (T := TX13) (N := 3) hx hb hu iX13 tyX13 tyX13_ok hown (hu _ u76) (hu _ u77) (hu _ u78) hK hP hS rfl dfX13_ok (Nat.le_of_ble_eq_true rfl) (Nat.le_of_ble_eq_true rfl) dX12_init_16 (fun q2 H hP hq hlt hq0 hS => ?_)
  refine W.widen (k := 3) (n := 466) (Nat.le_of_ble_eq_true rfl) (Nat.le_of_ble_eq_true rfl) ?_
  refine lv_dup hx hb dX12_init_19 rfl ?_
  refine px_initN (As := []) (rest := [.ref q2, .ref h0]) (nL := 1) (j_X13_init l) ⟨hx, hb, hml, hown, hu⟩ ⟨va_cnB 0 hu (gC u80) rfl rfl rfl hev.1.2.2.2.1 (hu _ u78) (by decide +kernel) ⟨(Nat.le_of_ble_eq_true rfl), (Nat.le_of_ble_eq_true rfl)⟩, rfl, hu _ u79⟩ hK hev hP hq hlt hq0 hS hA rfl hl.1 (Nat.le_of_ble_eq_true rfl) dX12_init_20 ⟨(Nat.le_of_ble_eq_true rfl), (Nat.le_of_ble_eq_true rfl)⟩ (fun H locs hP hS => ?_)
  refine W.widen (k := 4) (n := 926) (Nat.le_of_ble_eq_true rfl) (Nat.le_of_ble_eq_true rfl) ?_
  refine va_putF (D := (dC, dI)) (ci := 12) (v := .ref q2) (ty := .object "CubicBenchModel$Num") (C := RX12) (T := TX12) (N := 2) hx hb hu iX12 tyX12 tyX12_ok nmX12 hown hK hP hD hS 0 rfl rfl 1 (by decide) (hu _ u82) (fun _ h9 => h9) rfl hin rfl (by decide +kernel) rfl rfl (Nat.le_of_ble_eq_true rfl) dX12_init_23 (fun H locs hP hD hS => ?_)
  have hP : va_P (dC, dI) clx [(h0, .inr (12, [.ref q1, .ref q2]))] H := hP
  have hD : va_D A [(h0, .inr (12, [.ref q1, .ref q2]))] := hD
  refine W.widen (k := 4) (n := 926) (Nat.le_of_ble_eq_true rfl) (Nat.le_of_ble_eq_true rfl) ?_
  exact W.vret hx hb hr (fun t ht hW => ⟨⟨(), rfl, trivial, trivial⟩, hS.F ht⟩) hS.2.2 dX12_init_26
def wk_X14_init : List Cond := .code yX14_init cX14_init 1 none :: wU
set_option maxHeartbeats 4000000 in
set_option maxRecDepth 100000 in
theorem j_X14_init (l : Launch) : JC l yX14_init wk_X14_init ({ frames := 4, cells := 10, slots := 1856, locals := 100 } : Room) 14 dfX14 [] 10 1856 := by
  intro dC dI h0 sz
  refine Met.ofW (cc := cX14_init) (maxL := 1) (ret := none) (by decide) rfl ?_
  intro p e s m args below meth c s₁ B hml hv
  obtain ⟨rfl, hsz, hP, hK, hev⟩ := hv
  have hx := B.exec
  have hb := B.bytes
  have hr := B.returns
  have hts := atoms_spec (ws := wk_X14_init) B.pre
  have hu : ∀ w ∈ wU, w.before (Value.ref h0 :: []).toArray s = true := fun w h => hts w (List.mem_cons_of_mem _ h)
  have hown : s.vm.findClass RX14 = some m.cls := findClass_of_methodNamed B.named
  have hlocks := B.notSynchronized
  have hin : meth.name = "<init>" := (name_of_methodNamed B.named B.method).1
  subst hsz
  have hD := va_D1 (sz := s.heap.size) h0 (.inr (14, dfX14))
  generalize hAe : va_A [(h0, .inr (14, dfX14))] s.heap.size = A at hD ⊢
  have hA : ∀ q : Nat, s.heap.size ≤ q → A q := fun q h => by rw [← hAe]; exact Or.inr h
  have hS : va_S A s.heap s.heap [] := va_S.rf
  have hP : va_P (dC, dI) clx [(h0, .inr (14, [.int 0, .null, .null, .long 0, .long 0]))] s.heap := hP
  have hD : va_D A [(h0, .inr (14, [.int 0, .null, .null, .long 0, .long 0]))] := hD
  have hl := lv_entry ([.ref h0]) (n := 1) (Nat.le_of_ble_eq_true rfl)
  rw [lg_entry_eq]
  generalize (lg_sl ([.ref h0]) ++ List.replicate (1 - (lg_sl ([.ref h0])).length) Slot.unset).toArray = ls at hl ⊢
  have hl : lv_has ls 1 [(0, .ref h0)] := hl
  refine lv_aload_n hx hb dX14_init_0 rfl (lv_at hl 0 rfl) ?_
  refine W.objInit hx hb hown (hu _ u83) (hu _ u1) (hu _ u2) rfl (by rw [hml]; exact hl.1) rfl dX14_init_1 (Nat.le_of_ble_eq_true rfl) (Nat.le_of_ble_eq_true rfl) ?_
  refine W.eq (g2 := F0 m 4 ls []) rfl ?_
  refine lv_aload_n hx hb dX14_init_4 rfl (lv_at hl 0 rfl) ?_
  refine px_new (ci := 12) (fs := dfX12) (C := RX12) (T := TX12) (N := 2) hx hb hu iX12 tyX12 tyX12_ok hown (hu _ u84) (hu _ u85) (hu _ u86) hK hP hS rfl dfX12_ok (Nat.le_of_ble_eq_true rfl) (Nat.le_of_ble_eq_true rfl) dX14_init_5 (fun q1 H hP hq hlt hq0 hS => ?_)
  refine W.widen (k := 1) (n := 2) (Nat.le_of_ble_eq_true rfl) (Nat.le_of_ble_eq_true rfl) ?_
  refine lv_dup hx hb dX14_init_8 rfl ?_
  refine px_initN (As := []) (rest := [.ref q1, .ref h0]) (nL := 1) (j_X12_init l) ⟨hx, hb, hml, hown, hu⟩ ⟨va_cnB 0 hu (gC u88) rfl rfl rfl hev.1.2.2.2.2 (hu _ u86) (by decide +kernel) ⟨(Nat.le_of_ble_eq_true rfl), (Nat.le_of_ble_eq_true rfl)⟩, rfl, hu _ u87⟩ hK hev hP hq hlt hq0 hS hA rfl hl.1 (Nat.le_of_ble_eq_true rfl) dX14_init_9 ⟨(Nat.le_of_ble_eq_true rfl), (Nat.le_of_ble_eq_true rfl)⟩ (fun H locs hP hS => ?_)
  refine W.widen (k := 5) (n := 928) (Nat.le_of_ble_eq_true rfl) (Nat.le_of_ble_eq_true rfl) ?_
  refine va_putF (D := (dC, dI)) (ci := 14) (v := .ref q1) (ty := .object "CubicBenchModel$Frac") (C := RX14) (T := TX14) (N := 5) hx hb hu iX14 tyX14 tyX14_ok nmX14 hown hK hP hD hS 0 rfl rfl 1 (by decide) (hu _ u89) (fun _ h9 => h9) rfl hin rfl (by decide +kernel) rfl rfl (Nat.le_of_ble_eq_true rfl) dX14_init_12 (fun H locs hP hD hS => ?_)
  have hP : va_P (dC, dI) clx [(h0, .inr (14, [.int 0, .ref q1, .null, .long 0, .long 0]))] H := hP
  have hD : va_D A [(h0, .inr (14, [.int 0, .ref q1, .null, .long 0, .long 0]))] := hD
  refine lv_aload_n hx hb dX14_init_15 rfl (lv_at hl 0 rfl) ?_
  refine px_new (ci := 12) (fs := dfX12) (C := RX12) (T := TX12) (N := 2) hx hb hu iX12 tyX12 tyX12_ok hown (hu _ u84) (hu _ u85) (hu _ u86) hK hP hS rfl dfX12_ok (Nat.le_of_ble_eq_true rfl) (Nat.le_of_ble_eq_true rfl) dX14_init_16 (fun q2 H hP hq hlt hq0 hS => ?_)
  refine W.widen (k := 6) (n := 930) (Nat.le_of_ble_eq_true rfl) (Nat.le_of_ble_eq_true rfl) ?_
  refine lv_dup hx hb dX14_init_19 rfl ?_
  refine px_initN (As := []) (rest := [.ref q2, .ref h0]) (nL := 1) (j_X12_init l) ⟨hx, hb, hml, hown, hu⟩ ⟨va_cnB 0 hu (gC u88) rfl rfl rfl hev.1.2.2.2.2 (hu _ u86) (by decide +kernel) ⟨(Nat.le_of_ble_eq_true rfl), (Nat.le_of_ble_eq_true rfl)⟩, rfl, hu _ u87⟩ hK hev hP hq hlt hq0 hS hA rfl hl.1 (Nat.le_of_ble_eq_true rfl) dX14_init_20 ⟨(Nat.le_of_ble_eq_true rfl), (Nat.le_of_ble_eq_true rfl)⟩ (fun H locs hP hS => ?_)
  refine W.widen (k := 10) (n := 1856) (Nat.le_of_ble_eq_true rfl) (Nat.le_of_ble_eq_true rfl) ?_
  refine va_putF (D := (dC, dI)) (ci := 14) (v := .ref q2) (ty := .object "CubicBenchModel$Frac") (C := RX14) (T := TX14) (N := 5) hx hb hu iX14 tyX14 tyX14_ok nmX14 hown hK hP hD hS 0 rfl rfl 2 (by decide) (hu _ u90) (fun _ h9 => h9) rfl hin rfl (by decide +kernel) rfl rfl (Nat.le_of_ble_eq_true rfl) dX14_init_23 (fun H locs hP hD hS => ?_)
  have hP : va_P (dC, dI) clx [(h0, .inr (14, [.int 0, .ref q1, .ref q2, .long 0, .long 0]))] H := hP
  have hD : va_D A [(h0, .inr (14, [.int 0, .ref q1, .ref q2, .long 0, .long 0]))] := hD
  refine W.widen (k := 10) (n := 1856) (Nat.le_of_ble_eq_true rfl) (Nat.le_of_ble_eq_true rfl) ?_
  exact W.vret hx hb hr (fun t ht hW => ⟨⟨(), rfl, trivial, trivial⟩, hS.F ht⟩) hS.2.2 dX14_init_26
def wk_X2_init : List Cond := .code yX2_init cX2_init 4 none :: wU
set_option maxHeartbeats 4000000 in
set_option maxRecDepth 100000 in
theorem j_X2_init (l : Launch) (a0 b0 p0 : Int32) : KC l yX2_init wk_X2_init ({ frames := 2, cells := 0, slots := 0, locals := 60 } : Room) 2 dfX2 [.int a0, .int b0, .int p0] (fun _ => True) 0 0 := by
  intro dC dI h0 sz
  refine Met.ofW (cc := cX2_init) (maxL := 4) (ret := none) (by decide) rfl ?_
  intro p e s m args below meth c s₁ B hml hv
  obtain ⟨rfl, hsz, hP, hK, hev⟩ := hv
  have hx := B.exec
  have hb := B.bytes
  have hr := B.returns
  have hts := atoms_spec (ws := wk_X2_init) B.pre
  have hu : ∀ w ∈ wU, w.before (Value.ref h0 :: [.int a0, .int b0, .int p0]).toArray s = true := fun w h => hts w (List.mem_cons_of_mem _ h)
  have hown : s.vm.findClass RX2 = some m.cls := findClass_of_methodNamed B.named
  have hlocks := B.notSynchronized
  have hin : meth.name = "<init>" := (name_of_methodNamed B.named B.method).1
  subst hsz
  have hD := va_D1 (sz := s.heap.size) h0 (.inr (2, dfX2))
  generalize hAe : va_A [(h0, .inr (2, dfX2))] s.heap.size = A at hD ⊢
  have hA : ∀ q : Nat, s.heap.size ≤ q → A q := fun q h => by rw [← hAe]; exact Or.inr h
  have hS : va_S A s.heap s.heap [] := va_S.rf
  have hP : va_P (dC, dI) clx [(h0, .inr (2, [.int 0, .int 0, .int 0, .int 0]))] s.heap := hP
  have hD : va_D A [(h0, .inr (2, [.int 0, .int 0, .int 0, .int 0]))] := hD
  have hl := lv_entry ([.ref h0, .int a0, .int b0, .int p0]) (n := 4) (Nat.le_of_ble_eq_true rfl)
  rw [lg_entry_eq]
  generalize (lg_sl ([.ref h0, .int a0, .int b0, .int p0]) ++ List.replicate (4 - (lg_sl ([.ref h0, .int a0, .int b0, .int p0])).length) Slot.unset).toArray = ls at hl ⊢
  have hl : lv_has ls 4 [(0, .ref h0), (1, .int a0), (2, .int b0), (3, .int p0)] := hl
  refine lv_aload_n hx hb dX2_init_0 rfl (lv_at hl 0 rfl) ?_
  refine W.objInit hx hb hown (hu _ u91) (hu _ u1) (hu _ u2) rfl (by rw [hml]; exact hl.1) rfl dX2_init_1 (Nat.le_of_ble_eq_true rfl) (Nat.le_of_ble_eq_true rfl) ?_
  refine W.eq (g2 := F0 m 4 ls []) rfl ?_
  refine lv_aload_n hx hb dX2_init_4 rfl (lv_at hl 0 rfl) ?_
  refine lv_iload_n hx hb dX2_init_5 rfl (lv_at hl 1 rfl) ?_
  refine va_putF (D := (dC, dI)) (ci := 2) (v := .int a0) (ty := .int) (C := RX2) (T := TX2) (N := 4) hx hb hu iX2 tyX2 tyX2_ok nmX2 hown hK hP hD hS 0 rfl rfl 0 (by decide) (hu _ u92) (fun _ h9 => h9) rfl hin rfl (by decide +kernel) rfl rfl (Nat.le_of_ble_eq_true rfl) dX2_init_6 (fun H locs hP hD hS => ?_)
  have hP : va_P (dC, dI) clx [(h0, .inr (2, [.int a0, .int 0, .int 0, .int 0]))] H := hP
  have hD : va_D A [(h0, .inr (2, [.int a0, .int 0, .int 0, .int 0]))] := hD
  refine lv_aload_n hx hb dX2_init_9 rfl (lv_at hl 0 rfl) ?_
  refine lv_iload_n hx hb dX2_init_10 rfl (lv_at hl 2 rfl) ?_
  refine va_putF (D := (dC, dI)) (ci := 2) (v := .int b0) (ty := .int) (C := RX2) (T := TX2) (N := 4) hx hb hu iX2 tyX2 tyX2_ok nmX2 hown hK hP hD hS 0 rfl rfl 1 (by decide) (hu _ u93) (fun _ h9 => h9) rfl hin rfl (by decide +kernel) rfl rfl (Nat.le_of_ble_eq_true rfl) dX2_init_11 (fun H locs hP hD hS => ?_)
  have hP : va_P (dC, dI) clx [(h0, .inr (2, [.int a0, .int b0, .int 0, .int 0]))] H := hP
  have hD : va_D A [(h0, .inr (2, [.int a0, .int b0, .int 0, .int 0]))] := hD
  refine lv_aload_n hx hb dX2_init_14 rfl (lv_at hl 0 rfl) ?_
  refine lv_iload_n hx hb dX2_init_15 rfl (lv_at hl 3 rfl) ?_
  refine va_putF (D := (dC, dI)) (ci := 2) (v := .int p0) (ty := .int) (C := RX2) (T := TX2) (N := 4) hx hb hu iX2 tyX2 tyX2_ok nmX2 hown hK hP hD hS 0 rfl rfl 2 (by decide) (hu _ u94) (fun _ h9 => h9) rfl hin rfl (by decide +kernel) rfl rfl (Nat.le_of_ble_eq_true rfl) dX2_init_16 (fun H locs hP hD hS => ?_)
  have hP : va_P (dC, dI) clx [(h0, .inr (2, [.int a0, .int b0, .int p0, .int 0]))] H := hP
  have hD : va_D A [(h0, .inr (2, [.int a0, .int b0, .int p0, .int 0]))] := hD
  refine W.widen (k := 0) (n := 0) (Nat.le_of_ble_eq_true rfl) (Nat.le_of_ble_eq_true rfl) ?_
  exact W.vret hx hb hr (fun t ht hW => ⟨⟨[.int a0, .int b0, .int p0, .int 0], rfl, trivial, by show va_P _ _ _ t.heap; rw [ht]; exact hP⟩, hS.F ht⟩) hS.2.2 dX2_init_19
end
section
def xOK (fs f8 f3 : List Value) (qc q8 q3 : Nat) : Prop := (fs[0]? = some (.ref qc) ∧ fs[1]? = some (.int 0) ∧ fs[3]? = some (.int 0) ∧ fs[5]? = some (.int 0) ∧ fs[10]? = some (.ref q8) ∧ fs[14]? = some (.ref q3) ∧ fs.length = 16 ∧ ∃ qt, fs[9]? = some (.ref qt)) ∧ (f8[3]? = some (.int 0) ∧ f8.length = 4) ∧ (f3[10]? = some (.int 0) ∧ f3[12]? = some (.int (-1)) ∧ f3.length = 13)
def xNew (dC : Nat → ClassId) (dI : Nat → Nat → Nat) (A : Nat → Prop) (h0 : Nat) (t : State) : Prop := ∃ (fs f8 f3 : List Value) (qc q8 q3 : Nat) (cC : ClassId), xOK fs f8 f3 qc q8 q3 ∧ va_P (dC, dI) clx [(h0, .inr (11, fs)), (qc, .inl (cC, 40, .inr (.inr (.inr (.inr (fun _ => none)))))), (q8, .inr (8, f8)), (q3, .inr (3, f3))] t.heap ∧ va_K (dC, dI) clx [(cC, .object RX2)] t ∧ va_D A [(h0, .inr (11, fs)), (qc, .inl (cC, 40, .inr (.inr (.inr (.inr (fun _ => none)))))), (q8, .inr (8, f8)), (q3, .inr (3, f3))]
def mOK (fs : List Value) (q1 q2 q3 q4 q5 q6 : Nat) : Prop := fs[0]? = some (.int 0) ∧ fs[12]? = some (.int 0) ∧ fs[22]? = some (.int 0) ∧ fs[34]? = some (.int 0) ∧ fs[42]? = some (.int 0) ∧ fs[65]? = some (.int 0) ∧ fs[8]? = some (.ref q1) ∧ fs[9]? = some (.ref q2) ∧ fs[10]? = some (.ref q3) ∧ fs[11]? = some (.ref q4) ∧ fs[35]? = some (.ref q5) ∧ fs[47]? = some (.ref q6) ∧ fs.length = 74
def mNew (dC : Nat → ClassId) (dI : Nat → Nat → Nat) (A : Nat → Prop) (h0 : Nat) (t : State) : Prop := ∃ (fs : List Value) (q1 q2 q3 q4 q5 q6 : Nat) (c1 c2 c3 c4 c5 c6 : ClassId), mOK fs q1 q2 q3 q4 q5 q6 ∧ va_P (dC, dI) clx [(h0, .inr (15, fs)), (q1, .inl (c1, 40, .inr (.inl (fun _ => 0)))), (q2, .inl (c2, 40, .inr (.inl (fun _ => 0)))), (q3, .inl (c3, 40, .inl (fun _ => 0))), (q4, .inl (c4, 40, .inl (fun _ => 0))), (q5, .inl (c5, 40, .inl (fun _ => 0))), (q6, .inl (c6, 40, .inl (fun _ => 0)))] t.heap ∧ va_K (dC, dI) clx [(c1, .long), (c2, .long), (c3, .int), (c4, .int), (c5, .boolean), (c6, .boolean)] t ∧ va_D A [(h0, .inr (15, fs)), (q1, .inl (c1, 40, .inr (.inl (fun _ => 0)))), (q2, .inl (c2, 40, .inr (.inl (fun _ => 0)))), (q3, .inl (c3, 40, .inl (fun _ => 0))), (q4, .inl (c4, 40, .inl (fun _ => 0))), (q5, .inl (c5, 40, .inl (fun _ => 0))), (q6, .inl (c6, 40, .inl (fun _ => 0)))]
theorem dX11_init_0 : decode cX11_init 0 = .ok (.aload_n 0, 1) := by decide +kernel
theorem dX11_init_1 : decode cX11_init 1 = .ok (.invokespecial 1, 3) := by decide +kernel
theorem dX11_init_4 : decode cX11_init 4 = .ok (.aload_n 0, 1) := by decide +kernel
theorem dX11_init_5 : decode cX11_init 5 = .ok (.bipush 40, 2) := by decide +kernel
theorem dX11_init_7 : decode cX11_init 7 = .ok (.anewarray 9, 3) := by decide +kernel
theorem dX11_init_10 : decode cX11_init 10 = .ok (.putfield 11, 3) := by decide +kernel
theorem dX11_init_13 : decode cX11_init 13 = .ok (.aload_n 0, 1) := by decide +kernel
theorem dX11_init_14 : decode cX11_init 14 = .ok (.sipush 400, 3) := by decide +kernel
theorem dX11_init_17 : decode cX11_init 17 = .ok (.anewarray 15, 3) := by decide +kernel
theorem dX11_init_20 : decode cX11_init 20 = .ok (.putfield 17, 3) := by decide +kernel
theorem dX11_init_23 : decode cX11_init 23 = .ok (.aload_n 0, 1) := by decide +kernel
theorem dX11_init_24 : decode cX11_init 24 = .ok (.sipush 256, 3) := by decide +kernel
theorem dX11_init_27 : decode cX11_init 27 = .ok (.newarray .byte, 2) := by decide +kernel
theorem dX11_init_29 : decode cX11_init 29 = .ok (.putfield 21, 3) := by decide +kernel
theorem dX11_init_32 : decode cX11_init 32 = .ok (.aload_n 0, 1) := by decide +kernel
theorem dX11_init_33 : decode cX11_init 33 = .ok (.new 15, 3) := by decide +kernel
theorem dX11_init_36 : decode cX11_init 36 = .ok (.dup, 1) := by decide +kernel
theorem dX11_init_37 : decode cX11_init 37 = .ok (.bipush 16, 2) := by decide +kernel
theorem dX11_init_39 : decode cX11_init 39 = .ok (.invokespecial 27, 3) := by decide +kernel
theorem dX11_init_42 : decode cX11_init 42 = .ok (.putfield 30, 3) := by decide +kernel
theorem dX11_init_45 : decode cX11_init 45 = .ok (.aload_n 0, 1) := by decide +kernel
theorem dX11_init_46 : decode cX11_init 46 = .ok (.new 34, 3) := by decide +kernel
theorem dX11_init_49 : decode cX11_init 49 = .ok (.dup, 1) := by decide +kernel
theorem dX11_init_50 : decode cX11_init 50 = .ok (.invokespecial 36, 3) := by decide +kernel
theorem dX11_init_53 : decode cX11_init 53 = .ok (.putfield 37, 3) := by decide +kernel
theorem dX11_init_56 : decode cX11_init 56 = .ok (.aload_n 0, 1) := by decide +kernel
theorem dX11_init_57 : decode cX11_init 57 = .ok (.new 41, 3) := by decide +kernel
theorem dX11_init_60 : decode cX11_init 60 = .ok (.dup, 1) := by decide +kernel
theorem dX11_init_61 : decode cX11_init 61 = .ok (.invokespecial 43, 3) := by decide +kernel
theorem dX11_init_64 : decode cX11_init 64 = .ok (.putfield 44, 3) := by decide +kernel
theorem dX11_init_67 : decode cX11_init 67 = .ok (.aload_n 0, 1) := by decide +kernel
theorem dX11_init_68 : decode cX11_init 68 = .ok (.new 48, 3) := by decide +kernel
theorem dX11_init_71 : decode cX11_init 71 = .ok (.dup, 1) := by decide +kernel
theorem dX11_init_72 : decode cX11_init 72 = .ok (.invokespecial 50, 3) := by decide +kernel
theorem dX11_init_75 : decode cX11_init 75 = .ok (.putfield 51, 3) := by decide +kernel
theorem dX11_init_78 : decode cX11_init 78 = .ok (.aload_n 0, 1) := by decide +kernel
theorem dX11_init_79 : decode cX11_init 79 = .ok (.new 55, 3) := by decide +kernel
theorem dX11_init_82 : decode cX11_init 82 = .ok (.dup, 1) := by decide +kernel
theorem dX11_init_83 : decode cX11_init 83 = .ok (.invokespecial 57, 3) := by decide +kernel
theorem dX11_init_86 : decode cX11_init 86 = .ok (.putfield 58, 3) := by decide +kernel
theorem dX11_init_89 : decode cX11_init 89 = .ok (.aload_n 0, 1) := by decide +kernel
theorem dX11_init_90 : decode cX11_init 90 = .ok (.new 62, 3) := by decide +kernel
theorem dX11_init_93 : decode cX11_init 93 = .ok (.dup, 1) := by decide +kernel
theorem dX11_init_94 : decode cX11_init 94 = .ok (.invokespecial 64, 3) := by decide +kernel
theorem dX11_init_97 : decode cX11_init 97 = .ok (.putfield 65, 3) := by decide +kernel
theorem dX11_init_100 : decode cX11_init 100 = .ok (.aload_n 0, 1) := by decide +kernel
theorem dX11_init_101 : decode cX11_init 101 = .ok (.new 69, 3) := by decide +kernel
theorem dX11_init_104 : decode cX11_init 104 = .ok (.dup, 1) := by decide +kernel
theorem dX11_init_105 : decode cX11_init 105 = .ok (.invokespecial 71, 3) := by decide +kernel
theorem dX11_init_108 : decode cX11_init 108 = .ok (.putfield 72, 3) := by decide +kernel
theorem dX11_init_111 : decode cX11_init 111 = .ok (.aload_n 0, 1) := by decide +kernel
theorem dX11_init_112 : decode cX11_init 112 = .ok (.new 69, 3) := by decide +kernel
theorem dX11_init_115 : decode cX11_init 115 = .ok (.dup, 1) := by decide +kernel
theorem dX11_init_116 : decode cX11_init 116 = .ok (.invokespecial 71, 3) := by decide +kernel
theorem dX11_init_119 : decode cX11_init 119 = .ok (.putfield 76, 3) := by decide +kernel
theorem dX11_init_122 : decode cX11_init 122 = .ok (.aload_n 0, 1) := by decide +kernel
theorem dX11_init_123 : decode cX11_init 123 = .ok (.new 79, 3) := by decide +kernel
theorem dX11_init_126 : decode cX11_init 126 = .ok (.dup, 1) := by decide +kernel
theorem dX11_init_127 : decode cX11_init 127 = .ok (.invokespecial 81, 3) := by decide +kernel
theorem dX11_init_130 : decode cX11_init 130 = .ok (.putfield 82, 3) := by decide +kernel
theorem dX11_init_133 : decode cX11_init 133 = .ok (.aload_n 0, 1) := by decide +kernel
theorem dX11_init_134 : decode cX11_init 134 = .ok (.new 86, 3) := by decide +kernel
theorem dX11_init_137 : decode cX11_init 137 = .ok (.dup, 1) := by decide +kernel
theorem dX11_init_138 : decode cX11_init 138 = .ok (.invokespecial 88, 3) := by decide +kernel
theorem dX11_init_141 : decode cX11_init 141 = .ok (.putfield 89, 3) := by decide +kernel
theorem dX11_init_144 : decode cX11_init 144 = .ok (.return_, 1) := by decide +kernel
def wk_X11_init : List Cond := .code yX11_init cX11_init 1 none :: wU
set_option maxHeartbeats 16000000 in
set_option maxRecDepth 100000 in
theorem k_X11_init (l : Launch) (dC : Nat → ClassId) (dI : Nat → Nat → Nat) (h0 sz : Nat) : Met l yX11_init wk_X11_init ({ frames := 5, cells := 105, slots := 10461, locals := 122 } : Room) (va_Pc [.ref h0] (fun U => U.heap.size = sz ∧ va_P (dC, dI) clx [(h0, .inr (11, dfX11))] U.heap ∧ va_K (dC, dI) clx [] U ∧ ev U)) (va_Qv (S := Unit) (fun _ => True) (fun _ t => xNew dC dI (va_A [(h0, .inr (11, dfX11))] sz) h0 t) (va_A [(h0, .inr (11, dfX11))] sz)) 105 10461 (va_A [(h0, .inr (11, dfX11))] sz) := by
  refine Met.ofW (cc := cX11_init) (maxL := 1) (ret := none) (by decide) rfl ?_
  intro p e s m args below meth c s₁ B hml hv
  obtain ⟨rfl, hsz, hP, hK, hev⟩ := hv
  have hx := B.exec
  have hb := B.bytes
  have hr := B.returns
  have hts := atoms_spec (ws := wk_X11_init) B.pre
  have hu : ∀ w ∈ wU, w.before (Value.ref h0 :: []).toArray s = true := fun w h => hts w (List.mem_cons_of_mem _ h)
  have hown : s.vm.findClass RX11 = some m.cls := findClass_of_methodNamed B.named
  have hlocks := B.notSynchronized
  have hin : meth.name = "<init>" := (name_of_methodNamed B.named B.method).1
  subst hsz
  have hD := va_D1 (sz := s.heap.size) h0 (.inr (11, dfX11))
  generalize hAe : va_A [(h0, .inr (11, dfX11))] s.heap.size = A at hD ⊢
  have hA : ∀ q : Nat, s.heap.size ≤ q → A q := fun q h => by rw [← hAe]; exact Or.inr h
  have hS : va_S A s.heap s.heap [] := va_S.rf
  have hP : va_P (dC, dI) clx [(h0, .inr (11, [.null, .int 0, .null, .int 0, .null, .int 0, .null, .null, .null, .null, .null, .null, .null, .null, .null, .null]))] s.heap := hP
  have hD : va_D A [(h0, .inr (11, [.null, .int 0, .null, .int 0, .null, .int 0, .null, .null, .null, .null, .null, .null, .null, .null, .null, .null]))] := hD
  have hl := lv_entry ([.ref h0]) (n := 1) (Nat.le_of_ble_eq_true rfl)
  rw [lg_entry_eq]
  generalize (lg_sl ([.ref h0]) ++ List.replicate (1 - (lg_sl ([.ref h0])).length) Slot.unset).toArray = ls at hl ⊢
  have hl : lv_has ls 1 [(0, .ref h0)] := hl
  refine lv_aload_n hx hb dX11_init_0 rfl (lv_at hl 0 rfl) ?_
  refine W.objInit hx hb hown (hu _ u95) (hu _ u1) (hu _ u2) rfl (by rw [hml]; exact hl.1) rfl dX11_init_1 (Nat.le_of_ble_eq_true rfl) (Nat.le_of_ble_eq_true rfl) ?_
  refine W.eq (g2 := F0 m 4 ls []) rfl ?_
  refine lv_aload_n hx hb dX11_init_4 rfl (lv_at hl 0 rfl) ?_
  refine lv_bipush (v := 40) hx hb dX11_init_5 (by decide) ?_
  refine va_newq (N' := 40) hx hb hown (hu _ u96) hev.2.1.1 hK hP hD hS hA (by decide) (by decide) (by decide) (Nat.le_of_ble_eq_true rfl) (Nat.le_of_ble_eq_true rfl) dX11_init_7 (fun q1 cy2 H hK hP hD hS => ?_)
  have hP : va_P (dC, dI) clx [(h0, .inr (11, [.null, .int 0, .null, .int 0, .null, .int 0, .null, .null, .null, .null, .null, .null, .null, .null, .null, .null])), (q1, .inl (cy2, 40, .inr (.inr (.inr (.inr (fun _ => none))))))] H := hP
  have hD : va_D A [(h0, .inr (11, [.null, .int 0, .null, .int 0, .null, .int 0, .null, .null, .null, .null, .null, .null, .null, .null, .null, .null])), (q1, .inl (cy2, 40, .inr (.inr (.inr (.inr (fun _ => none))))))] := hD
  have hK : va_K (dC, dI) clx [(cy2, .object RX2)] s := hK
  refine W.widen (k := 1) (n := 40) (Nat.le_of_ble_eq_true rfl) (Nat.le_of_ble_eq_true rfl) ?_
  refine va_putF (D := (dC, dI)) (ci := 11) (v := .ref q1) (ty := .array (.object "CubicBench$Curve")) (C := RX11) (T := TX11) (N := 16) hx hb hu iX11 tyX11 tyX11_ok nmX11 hown hK hP hD hS 0 rfl rfl 0 (by decide) (hu _ u97) (fun _ h9 => h9) rfl hin rfl (by decide +kernel) rfl rfl (Nat.le_of_ble_eq_true rfl) dX11_init_10 (fun H locs hP hD hS => ?_)
  have hP : va_P (dC, dI) clx [(h0, .inr (11, [.ref q1, .int 0, .null, .int 0, .null, .int 0, .null, .null, .null, .null, .null, .null, .null, .null, .null, .null])), (q1, .inl (cy2, 40, .inr (.inr (.inr (.inr (fun _ => none))))))] H := hP
  have hD : va_D A [(h0, .inr (11, [.ref q1, .int 0, .null, .int 0, .null, .int 0, .null, .null, .null, .null, .null, .null, .null, .null, .null, .null])), (q1, .inl (cy2, 40, .inr (.inr (.inr (.inr (fun _ => none))))))] := hD
  refine lv_aload_n hx hb dX11_init_13 rfl (lv_at hl 0 rfl) ?_
  refine lv_sipush (v := 400) hx hb dX11_init_14 (by decide) ?_
  refine px_anewJ hx hb hown (hu _ u98) hev.2.1.2 hP hS 400 (by decide) (by decide) (by decide) (Nat.le_of_ble_eq_true rfl) (Nat.le_of_ble_eq_true rfl) dX11_init_17 (fun q3 H hP hS => ?_)
  refine W.widen (k := 2) (n := 440) (Nat.le_of_ble_eq_true rfl) (Nat.le_of_ble_eq_true rfl) ?_
  refine va_putF (D := (dC, dI)) (ci := 11) (v := .ref q3) (ty := .array (.object "CubicBench$Spot")) (C := RX11) (T := TX11) (N := 16) hx hb hu iX11 tyX11 tyX11_ok nmX11 hown hK hP hD hS 0 rfl rfl 2 (by decide) (hu _ u99) (fun _ h9 => h9) rfl hin rfl (by decide +kernel) rfl rfl (Nat.le_of_ble_eq_true rfl) dX11_init_20 (fun H locs hP hD hS => ?_)
  have hP : va_P (dC, dI) clx [(h0, .inr (11, [.ref q1, .int 0, .ref q3, .int 0, .null, .int 0, .null, .null, .null, .null, .null, .null, .null, .null, .null, .null])), (q1, .inl (cy2, 40, .inr (.inr (.inr (.inr (fun _ => none))))))] H := hP
  have hD : va_D A [(h0, .inr (11, [.ref q1, .int 0, .ref q3, .int 0, .null, .int 0, .null, .null, .null, .null, .null, .null, .null, .null, .null, .null])), (q1, .inl (cy2, 40, .inr (.inr (.inr (.inr (fun _ => none))))))] := hD
  refine lv_aload_n hx hb dX11_init_23 rfl (lv_at hl 0 rfl) ?_
  refine lv_sipush (v := 256) hx hb dX11_init_24 (by decide) ?_
  refine px_newaJ (atype := .byte) hx hb (hu _ u27) hP hS 256 (by decide) (by decide) (by decide) (Nat.le_of_ble_eq_true rfl) (Nat.le_of_ble_eq_true rfl) dX11_init_27 (fun q4 H hP hS => ?_)
  refine W.widen (k := 3) (n := 696) (Nat.le_of_ble_eq_true rfl) (Nat.le_of_ble_eq_true rfl) ?_
  refine va_putF (D := (dC, dI)) (ci := 11) (v := .ref q4) (ty := .array .byte) (C := RX11) (T := TX11) (N := 16) hx hb hu iX11 tyX11 tyX11_ok nmX11 hown hK hP hD hS 0 rfl rfl 4 (by decide) (hu _ u100) (fun _ h9 => h9) rfl hin rfl (by decide +kernel) rfl rfl (Nat.le_of_ble_eq_true rfl) dX11_init_29 (fun H locs hP hD hS => ?_)
  have hP : va_P (dC, dI) clx [(h0, .inr (11, [.ref q1, .int 0, .ref q3, .int 0, .ref q4, .int 0, .null, .null, .null, .null, .null, .null, .null, .null, .null, .null])), (q1, .inl (cy2, 40, .inr (.inr (.inr (.inr (fun _ => none))))))] H := hP
  have hD : va_D A [(h0, .inr (11, [.ref q1, .int 0, .ref q3, .int 0, .ref q4, .int 0, .null, .null, .null, .null, .null, .null, .null, .null, .null, .null])), (q1, .inl (cy2, 40, .inr (.inr (.inr (.inr (fun _ => none))))))] := hD
  refine lv_aload_n hx hb dX11_init_32 rfl (lv_at hl 0 rfl) ?_
  refine px_new (ci := 9) (fs := dfX9) (C := RX9) (T := TX9) (N := 6) hx hb hu iX9 tyX9 tyX9_ok hown (hu _ u98) (hu _ u49) (hu _ u50) hK hP hS rfl dfX9_ok (Nat.le_of_ble_eq_true rfl) (Nat.le_of_ble_eq_true rfl) dX11_init_33 (fun q5 H hP hq hlt hq0 hS => ?_)
  refine W.widen (k := 4) (n := 702) (Nat.le_of_ble_eq_true rfl) (Nat.le_of_ble_eq_true rfl) ?_
  refine lv_dup hx hb dX11_init_36 rfl ?_
  refine lv_bipush (v := 16) hx hb dX11_init_37 (by decide) ?_
  refine px_initJ (As := [.int 16]) (rest := [.ref q5, .ref h0]) (nL := 1) (j_X9_init l 16 16 (by decide) (by decide) (by decide) (by decide)) ⟨hx, hb, hml, hown, hu⟩ (cwI 1 hu (gC u52) rfl rfl rfl (hu _ u50) (hu _ u101) (hu _ u51) rfl (by decide +kernel) ⟨(Nat.le_of_ble_eq_true rfl), (Nat.le_of_ble_eq_true rfl)⟩) (hK.sub [] rfl) hev hP hq hlt hq0 hS hA rfl hl.1 (Nat.le_of_ble_eq_true rfl) dX11_init_39 ⟨(Nat.le_of_ble_eq_true rfl), (Nat.le_of_ble_eq_true rfl)⟩ (fun H locs hP hS => ?_)
  refine W.widen (k := 10) (n := 903) (Nat.le_of_ble_eq_true rfl) (Nat.le_of_ble_eq_true rfl) ?_
  refine va_putF (D := (dC, dI)) (ci := 11) (v := .ref q5) (ty := .object "CubicBench$Spot") (C := RX11) (T := TX11) (N := 16) hx hb hu iX11 tyX11 tyX11_ok nmX11 hown hK hP hD hS 0 rfl rfl 6 (by decide) (hu _ u102) (fun _ h9 => h9) rfl hin rfl (by decide +kernel) rfl rfl (Nat.le_of_ble_eq_true rfl) dX11_init_42 (fun H locs hP hD hS => ?_)
  have hP : va_P (dC, dI) clx [(h0, .inr (11, [.ref q1, .int 0, .ref q3, .int 0, .ref q4, .int 0, .ref q5, .null, .null, .null, .null, .null, .null, .null, .null, .null])), (q1, .inl (cy2, 40, .inr (.inr (.inr (.inr (fun _ => none))))))] H := hP
  have hD : va_D A [(h0, .inr (11, [.ref q1, .int 0, .ref q3, .int 0, .ref q4, .int 0, .ref q5, .null, .null, .null, .null, .null, .null, .null, .null, .null])), (q1, .inl (cy2, 40, .inr (.inr (.inr (.inr (fun _ => none))))))] := hD
  refine lv_aload_n hx hb dX11_init_45 rfl (lv_at hl 0 rfl) ?_
  refine px_new (ci := 4) (fs := dfX4) (C := RX4) (T := TX4) (N := 17) hx hb hu iX4 tyX4 tyX4_ok hown (hu _ u103) (hu _ u104) (hu _ u105) hK hP hS rfl dfX4_ok (Nat.le_of_ble_eq_true rfl) (Nat.le_of_ble_eq_true rfl) dX11_init_46 (fun q6 H hP hq hlt hq0 hS => ?_)
  refine W.widen (k := 11) (n := 920) (Nat.le_of_ble_eq_true rfl) (Nat.le_of_ble_eq_true rfl) ?_
  refine lv_dup hx hb dX11_init_49 rfl ?_
  refine px_initJ (As := []) (rest := [.ref q6, .ref h0]) (nL := 1) (j_X4_init l) ⟨hx, hb, hml, hown, hu⟩ (cwI 0 hu (gC u107) rfl rfl rfl (hu _ u105) (hu _ u108) (hu _ u106) rfl (by decide +kernel) ⟨(Nat.le_of_ble_eq_true rfl), (Nat.le_of_ble_eq_true rfl)⟩) (hK.sub [] rfl) hev hP hq hlt hq0 hS hA rfl hl.1 (Nat.le_of_ble_eq_true rfl) dX11_init_50 ⟨(Nat.le_of_ble_eq_true rfl), (Nat.le_of_ble_eq_true rfl)⟩ (fun H locs hP hS => ?_)
  refine W.widen (k := 60) (n := 2479) (Nat.le_of_ble_eq_true rfl) (Nat.le_of_ble_eq_true rfl) ?_
  refine va_putF (D := (dC, dI)) (ci := 11) (v := .ref q6) (ty := .object "CubicBench$Fractions") (C := RX11) (T := TX11) (N := 16) hx hb hu iX11 tyX11 tyX11_ok nmX11 hown hK hP hD hS 0 rfl rfl 7 (by decide) (hu _ u109) (fun _ h9 => h9) rfl hin rfl (by decide +kernel) rfl rfl (Nat.le_of_ble_eq_true rfl) dX11_init_53 (fun H locs hP hD hS => ?_)
  have hP : va_P (dC, dI) clx [(h0, .inr (11, [.ref q1, .int 0, .ref q3, .int 0, .ref q4, .int 0, .ref q5, .ref q6, .null, .null, .null, .null, .null, .null, .null, .null])), (q1, .inl (cy2, 40, .inr (.inr (.inr (.inr (fun _ => none))))))] H := hP
  have hD : va_D A [(h0, .inr (11, [.ref q1, .int 0, .ref q3, .int 0, .ref q4, .int 0, .ref q5, .ref q6, .null, .null, .null, .null, .null, .null, .null, .null])), (q1, .inl (cy2, 40, .inr (.inr (.inr (.inr (fun _ => none))))))] := hD
  refine lv_aload_n hx hb dX11_init_56 rfl (lv_at hl 0 rfl) ?_
  refine px_new (ci := 7) (fs := dfX7) (C := RX7) (T := TX7) (N := 1) hx hb hu iX7 tyX7 tyX7_ok hown (hu _ u110) (hu _ u111) (hu _ u112) hK hP hS rfl dfX7_ok (Nat.le_of_ble_eq_true rfl) (Nat.le_of_ble_eq_true rfl) dX11_init_57 (fun q7 H hP hq hlt hq0 hS => ?_)
  refine W.widen (k := 61) (n := 2480) (Nat.le_of_ble_eq_true rfl) (Nat.le_of_ble_eq_true rfl) ?_
  refine lv_dup hx hb dX11_init_60 rfl ?_
  refine px_initJ (As := []) (rest := [.ref q7, .ref h0]) (nL := 1) (j_X7_init l) ⟨hx, hb, hml, hown, hu⟩ (cwI 0 hu (gC u114) rfl rfl rfl (hu _ u112) (hu _ u115) (hu _ u113) rfl (by decide +kernel) ⟨(Nat.le_of_ble_eq_true rfl), (Nat.le_of_ble_eq_true rfl)⟩) (hK.sub [] rfl) hev hP hq hlt hq0 hS hA rfl hl.1 (Nat.le_of_ble_eq_true rfl) dX11_init_61 ⟨(Nat.le_of_ble_eq_true rfl), (Nat.le_of_ble_eq_true rfl)⟩ (fun H locs hP hS => ?_)
  refine W.widen (k := 62) (n := 2544) (Nat.le_of_ble_eq_true rfl) (Nat.le_of_ble_eq_true rfl) ?_
  refine va_putF (D := (dC, dI)) (ci := 11) (v := .ref q7) (ty := .object "CubicBench$Rests") (C := RX11) (T := TX11) (N := 16) hx hb hu iX11 tyX11 tyX11_ok nmX11 hown hK hP hD hS 0 rfl rfl 8 (by decide) (hu _ u116) (fun _ h9 => h9) rfl hin rfl (by decide +kernel) rfl rfl (Nat.le_of_ble_eq_true rfl) dX11_init_64 (fun H locs hP hD hS => ?_)
  have hP : va_P (dC, dI) clx [(h0, .inr (11, [.ref q1, .int 0, .ref q3, .int 0, .ref q4, .int 0, .ref q5, .ref q6, .ref q7, .null, .null, .null, .null, .null, .null, .null])), (q1, .inl (cy2, 40, .inr (.inr (.inr (.inr (fun _ => none))))))] H := hP
  have hD : va_D A [(h0, .inr (11, [.ref q1, .int 0, .ref q3, .int 0, .ref q4, .int 0, .ref q5, .ref q6, .ref q7, .null, .null, .null, .null, .null, .null, .null])), (q1, .inl (cy2, 40, .inr (.inr (.inr (.inr (fun _ => none))))))] := hD
  refine lv_aload_n hx hb dX11_init_67 rfl (lv_at hl 0 rfl) ?_
  refine px_new (ci := 10) (fs := dfX10) (C := RX10) (T := TX10) (N := 4) hx hb hu iX10 tyX10 tyX10_ok hown (hu _ u117) (hu _ u118) (hu _ u119) hK hP hS rfl dfX10_ok (Nat.le_of_ble_eq_true rfl) (Nat.le_of_ble_eq_true rfl) dX11_init_68 (fun q8 H hP hq hlt hq0 hS => ?_)
  refine W.widen (k := 63) (n := 2548) (Nat.le_of_ble_eq_true rfl) (Nat.le_of_ble_eq_true rfl) ?_
  refine lv_dup hx hb dX11_init_71 rfl ?_
  refine px_initJ (As := []) (rest := [.ref q8, .ref h0]) (nL := 1) (j_X10_init l) ⟨hx, hb, hml, hown, hu⟩ (cwI 0 hu (gC u121) rfl rfl rfl (hu _ u119) (hu _ u122) (hu _ u120) rfl (by decide +kernel) ⟨(Nat.le_of_ble_eq_true rfl), (Nat.le_of_ble_eq_true rfl)⟩) (hK.sub [] rfl) hev hP hq hlt hq0 hS hA rfl hl.1 (Nat.le_of_ble_eq_true rfl) dX11_init_72 ⟨(Nat.le_of_ble_eq_true rfl), (Nat.le_of_ble_eq_true rfl)⟩ (fun H locs hP hS => ?_)
  refine W.widen (k := 65) (n := 2612) (Nat.le_of_ble_eq_true rfl) (Nat.le_of_ble_eq_true rfl) ?_
  refine va_putF (D := (dC, dI)) (ci := 11) (v := .ref q8) (ty := .object "CubicBench$Torsion") (C := RX11) (T := TX11) (N := 16) hx hb hu iX11 tyX11 tyX11_ok nmX11 hown hK hP hD hS 0 rfl rfl 9 (by decide) (hu _ u123) (fun _ h9 => h9) rfl hin rfl (by decide +kernel) rfl rfl (Nat.le_of_ble_eq_true rfl) dX11_init_75 (fun H locs hP hD hS => ?_)
  have hP : va_P (dC, dI) clx [(h0, .inr (11, [.ref q1, .int 0, .ref q3, .int 0, .ref q4, .int 0, .ref q5, .ref q6, .ref q7, .ref q8, .null, .null, .null, .null, .null, .null])), (q1, .inl (cy2, 40, .inr (.inr (.inr (.inr (fun _ => none))))))] H := hP
  have hD : va_D A [(h0, .inr (11, [.ref q1, .int 0, .ref q3, .int 0, .ref q4, .int 0, .ref q5, .ref q6, .ref q7, .ref q8, .null, .null, .null, .null, .null, .null])), (q1, .inl (cy2, 40, .inr (.inr (.inr (.inr (fun _ => none))))))] := hD
  refine lv_aload_n hx hb dX11_init_78 rfl (lv_at hl 0 rfl) ?_
  refine px_new (ci := 8) (fs := dfX8) (C := RX8) (T := TX8) (N := 4) hx hb hu iX8 tyX8 tyX8_ok hown (hu _ u124) (hu _ u125) (hu _ u126) hK hP hS rfl dfX8_ok (Nat.le_of_ble_eq_true rfl) (Nat.le_of_ble_eq_true rfl) dX11_init_79 (fun q9 H hP hq hlt hq0 hS => ?_)
  refine W.widen (k := 66) (n := 2616) (Nat.le_of_ble_eq_true rfl) (Nat.le_of_ble_eq_true rfl) ?_
  refine lv_dup hx hb dX11_init_82 rfl ?_
  refine px_initK (As := []) (rest := [.ref q9, .ref h0]) (nL := 1) (j_X8_init l) ⟨hx, hb, hml, hown, hu⟩ (cwI 0 hu (gC u128) rfl rfl rfl (hu _ u126) (hu _ u129) (hu _ u127) rfl (by decide +kernel) ⟨(Nat.le_of_ble_eq_true rfl), (Nat.le_of_ble_eq_true rfl)⟩) (hK.sub [] rfl) hev hP hD hq hlt hq0 hS hA rfl hl.1 (Nat.le_of_ble_eq_true rfl) dX11_init_83 ⟨(Nat.le_of_ble_eq_true rfl), (Nat.le_of_ble_eq_true rfl)⟩ (fun fu10 H locs hF11 hP hD hS => ?_)
  have hP : va_P (dC, dI) clx [(h0, .inr (11, [.ref q1, .int 0, .ref q3, .int 0, .ref q4, .int 0, .ref q5, .ref q6, .ref q7, .ref q8, .null, .null, .null, .null, .null, .null])), (q1, .inl (cy2, 40, .inr (.inr (.inr (.inr (fun _ => none)))))), (q9, .inr (8, fu10))] H := hP
  have hD : va_D A [(h0, .inr (11, [.ref q1, .int 0, .ref q3, .int 0, .ref q4, .int 0, .ref q5, .ref q6, .ref q7, .ref q8, .null, .null, .null, .null, .null, .null])), (q1, .inl (cy2, 40, .inr (.inr (.inr (.inr (fun _ => none)))))), (q9, .inr (8, fu10))] := hD
  refine W.widen (k := 69) (n := 2808) (Nat.le_of_ble_eq_true rfl) (Nat.le_of_ble_eq_true rfl) ?_
  refine va_putF (D := (dC, dI)) (ci := 11) (v := .ref q9) (ty := .object "CubicBench$Searching") (C := RX11) (T := TX11) (N := 16) hx hb hu iX11 tyX11 tyX11_ok nmX11 hown hK hP hD hS 0 rfl rfl 10 (by decide) (hu _ u130) (fun _ h9 => h9) rfl hin rfl (by decide +kernel) rfl rfl (Nat.le_of_ble_eq_true rfl) dX11_init_86 (fun H locs hP hD hS => ?_)
  have hP : va_P (dC, dI) clx [(h0, .inr (11, [.ref q1, .int 0, .ref q3, .int 0, .ref q4, .int 0, .ref q5, .ref q6, .ref q7, .ref q8, .ref q9, .null, .null, .null, .null, .null])), (q1, .inl (cy2, 40, .inr (.inr (.inr (.inr (fun _ => none)))))), (q9, .inr (8, fu10))] H := hP
  have hD : va_D A [(h0, .inr (11, [.ref q1, .int 0, .ref q3, .int 0, .ref q4, .int 0, .ref q5, .ref q6, .ref q7, .ref q8, .ref q9, .null, .null, .null, .null, .null])), (q1, .inl (cy2, 40, .inr (.inr (.inr (.inr (fun _ => none)))))), (q9, .inr (8, fu10))] := hD
  refine lv_aload_n hx hb dX11_init_89 rfl (lv_at hl 0 rfl) ?_
  refine px_new (ci := 6) (fs := dfX6) (C := RX6) (T := TX6) (N := 11) hx hb hu iX6 tyX6 tyX6_ok hown (hu _ u131) (hu _ u132) (hu _ u133) hK hP hS rfl dfX6_ok (Nat.le_of_ble_eq_true rfl) (Nat.le_of_ble_eq_true rfl) dX11_init_90 (fun q12 H hP hq hlt hq0 hS => ?_)
  refine W.widen (k := 70) (n := 2819) (Nat.le_of_ble_eq_true rfl) (Nat.le_of_ble_eq_true rfl) ?_
  refine lv_dup hx hb dX11_init_93 rfl ?_
  refine px_initJ (As := []) (rest := [.ref q12, .ref h0]) (nL := 1) (j_X6_init l) ⟨hx, hb, hml, hown, hu⟩ (cwI 0 hu (gC u135) rfl rfl rfl (hu _ u133) (hu _ u136) (hu _ u134) rfl (by decide +kernel) ⟨(Nat.le_of_ble_eq_true rfl), (Nat.le_of_ble_eq_true rfl)⟩) (hK.sub [] rfl) hev hP hq hlt hq0 hS hA rfl hl.1 (Nat.le_of_ble_eq_true rfl) dX11_init_94 ⟨(Nat.le_of_ble_eq_true rfl), (Nat.le_of_ble_eq_true rfl)⟩ (fun H locs hP hS => ?_)
  refine W.widen (k := 73) (n := 8931) (Nat.le_of_ble_eq_true rfl) (Nat.le_of_ble_eq_true rfl) ?_
  refine va_putF (D := (dC, dI)) (ci := 11) (v := .ref q12) (ty := .object "CubicBench$Listing") (C := RX11) (T := TX11) (N := 16) hx hb hu iX11 tyX11 tyX11_ok nmX11 hown hK hP hD hS 0 rfl rfl 11 (by decide) (hu _ u137) (fun _ h9 => h9) rfl hin rfl (by decide +kernel) rfl rfl (Nat.le_of_ble_eq_true rfl) dX11_init_97 (fun H locs hP hD hS => ?_)
  have hP : va_P (dC, dI) clx [(h0, .inr (11, [.ref q1, .int 0, .ref q3, .int 0, .ref q4, .int 0, .ref q5, .ref q6, .ref q7, .ref q8, .ref q9, .ref q12, .null, .null, .null, .null])), (q1, .inl (cy2, 40, .inr (.inr (.inr (.inr (fun _ => none)))))), (q9, .inr (8, fu10))] H := hP
  have hD : va_D A [(h0, .inr (11, [.ref q1, .int 0, .ref q3, .int 0, .ref q4, .int 0, .ref q5, .ref q6, .ref q7, .ref q8, .ref q9, .ref q12, .null, .null, .null, .null])), (q1, .inl (cy2, 40, .inr (.inr (.inr (.inr (fun _ => none)))))), (q9, .inr (8, fu10))] := hD
  refine lv_aload_n hx hb dX11_init_100 rfl (lv_at hl 0 rfl) ?_
  refine px_new (ci := 1) (fs := dfX1) (C := RX1) (T := TX1) (N := 6) hx hb hu iX1 tyX1 tyX1_ok hown (hu _ u138) (hu _ u139) (hu _ u140) hK hP hS rfl dfX1_ok (Nat.le_of_ble_eq_true rfl) (Nat.le_of_ble_eq_true rfl) dX11_init_101 (fun q13 H hP hq hlt hq0 hS => ?_)
  refine W.widen (k := 74) (n := 8937) (Nat.le_of_ble_eq_true rfl) (Nat.le_of_ble_eq_true rfl) ?_
  refine lv_dup hx hb dX11_init_104 rfl ?_
  refine px_initJ (As := []) (rest := [.ref q13, .ref h0]) (nL := 1) (j_X1_init l) ⟨hx, hb, hml, hown, hu⟩ (cwI 0 hu (gC u142) rfl rfl rfl (hu _ u140) (hu _ u143) (hu _ u141) rfl (by decide +kernel) ⟨(Nat.le_of_ble_eq_true rfl), (Nat.le_of_ble_eq_true rfl)⟩) (hK.sub [] rfl) hev hP hq hlt hq0 hS hA rfl hl.1 (Nat.le_of_ble_eq_true rfl) dX11_init_105 ⟨(Nat.le_of_ble_eq_true rfl), (Nat.le_of_ble_eq_true rfl)⟩ (fun H locs hP hS => ?_)
  refine W.widen (k := 79) (n := 9137) (Nat.le_of_ble_eq_true rfl) (Nat.le_of_ble_eq_true rfl) ?_
  refine va_putF (D := (dC, dI)) (ci := 11) (v := .ref q13) (ty := .object "CubicBench$Chain") (C := RX11) (T := TX11) (N := 16) hx hb hu iX11 tyX11 tyX11_ok nmX11 hown hK hP hD hS 0 rfl rfl 12 (by decide) (hu _ u144) (fun _ h9 => h9) rfl hin rfl (by decide +kernel) rfl rfl (Nat.le_of_ble_eq_true rfl) dX11_init_108 (fun H locs hP hD hS => ?_)
  have hP : va_P (dC, dI) clx [(h0, .inr (11, [.ref q1, .int 0, .ref q3, .int 0, .ref q4, .int 0, .ref q5, .ref q6, .ref q7, .ref q8, .ref q9, .ref q12, .ref q13, .null, .null, .null])), (q1, .inl (cy2, 40, .inr (.inr (.inr (.inr (fun _ => none)))))), (q9, .inr (8, fu10))] H := hP
  have hD : va_D A [(h0, .inr (11, [.ref q1, .int 0, .ref q3, .int 0, .ref q4, .int 0, .ref q5, .ref q6, .ref q7, .ref q8, .ref q9, .ref q12, .ref q13, .null, .null, .null])), (q1, .inl (cy2, 40, .inr (.inr (.inr (.inr (fun _ => none)))))), (q9, .inr (8, fu10))] := hD
  refine lv_aload_n hx hb dX11_init_111 rfl (lv_at hl 0 rfl) ?_
  refine px_new (ci := 1) (fs := dfX1) (C := RX1) (T := TX1) (N := 6) hx hb hu iX1 tyX1 tyX1_ok hown (hu _ u138) (hu _ u139) (hu _ u140) hK hP hS rfl dfX1_ok (Nat.le_of_ble_eq_true rfl) (Nat.le_of_ble_eq_true rfl) dX11_init_112 (fun q14 H hP hq hlt hq0 hS => ?_)
  refine W.widen (k := 80) (n := 9143) (Nat.le_of_ble_eq_true rfl) (Nat.le_of_ble_eq_true rfl) ?_
  refine lv_dup hx hb dX11_init_115 rfl ?_
  refine px_initJ (As := []) (rest := [.ref q14, .ref h0]) (nL := 1) (j_X1_init l) ⟨hx, hb, hml, hown, hu⟩ (cwI 0 hu (gC u142) rfl rfl rfl (hu _ u140) (hu _ u143) (hu _ u141) rfl (by decide +kernel) ⟨(Nat.le_of_ble_eq_true rfl), (Nat.le_of_ble_eq_true rfl)⟩) (hK.sub [] rfl) hev hP hq hlt hq0 hS hA rfl hl.1 (Nat.le_of_ble_eq_true rfl) dX11_init_116 ⟨(Nat.le_of_ble_eq_true rfl), (Nat.le_of_ble_eq_true rfl)⟩ (fun H locs hP hS => ?_)
  refine W.widen (k := 85) (n := 9343) (Nat.le_of_ble_eq_true rfl) (Nat.le_of_ble_eq_true rfl) ?_
  refine va_putF (D := (dC, dI)) (ci := 11) (v := .ref q14) (ty := .object "CubicBench$Chain") (C := RX11) (T := TX11) (N := 16) hx hb hu iX11 tyX11 tyX11_ok nmX11 hown hK hP hD hS 0 rfl rfl 13 (by decide) (hu _ u145) (fun _ h9 => h9) rfl hin rfl (by decide +kernel) rfl rfl (Nat.le_of_ble_eq_true rfl) dX11_init_119 (fun H locs hP hD hS => ?_)
  have hP : va_P (dC, dI) clx [(h0, .inr (11, [.ref q1, .int 0, .ref q3, .int 0, .ref q4, .int 0, .ref q5, .ref q6, .ref q7, .ref q8, .ref q9, .ref q12, .ref q13, .ref q14, .null, .null])), (q1, .inl (cy2, 40, .inr (.inr (.inr (.inr (fun _ => none)))))), (q9, .inr (8, fu10))] H := hP
  have hD : va_D A [(h0, .inr (11, [.ref q1, .int 0, .ref q3, .int 0, .ref q4, .int 0, .ref q5, .ref q6, .ref q7, .ref q8, .ref q9, .ref q12, .ref q13, .ref q14, .null, .null])), (q1, .inl (cy2, 40, .inr (.inr (.inr (.inr (fun _ => none)))))), (q9, .inr (8, fu10))] := hD
  refine lv_aload_n hx hb dX11_init_122 rfl (lv_at hl 0 rfl) ?_
  refine px_new (ci := 3) (fs := dfX3) (C := RX3) (T := TX3) (N := 13) hx hb hu iX3 tyX3 tyX3_ok hown (hu _ u146) (hu _ u147) (hu _ u148) hK hP hS rfl dfX3_ok (Nat.le_of_ble_eq_true rfl) (Nat.le_of_ble_eq_true rfl) dX11_init_123 (fun q15 H hP hq hlt hq0 hS => ?_)
  refine W.widen (k := 86) (n := 9356) (Nat.le_of_ble_eq_true rfl) (Nat.le_of_ble_eq_true rfl) ?_
  refine lv_dup hx hb dX11_init_126 rfl ?_
  refine px_initK (As := []) (rest := [.ref q15, .ref h0]) (nL := 1) (j_X3_init l) ⟨hx, hb, hml, hown, hu⟩ (cwI 0 hu (gC u150) rfl rfl rfl (hu _ u148) (hu _ u151) (hu _ u149) rfl (by decide +kernel) ⟨(Nat.le_of_ble_eq_true rfl), (Nat.le_of_ble_eq_true rfl)⟩) (hK.sub [] rfl) hev hP hD hq hlt hq0 hS hA rfl hl.1 (Nat.le_of_ble_eq_true rfl) dX11_init_127 ⟨(Nat.le_of_ble_eq_true rfl), (Nat.le_of_ble_eq_true rfl)⟩ (fun fu16 H locs hF17 hP hD hS => ?_)
  have hP : va_P (dC, dI) clx [(h0, .inr (11, [.ref q1, .int 0, .ref q3, .int 0, .ref q4, .int 0, .ref q5, .ref q6, .ref q7, .ref q8, .ref q9, .ref q12, .ref q13, .ref q14, .null, .null])), (q1, .inl (cy2, 40, .inr (.inr (.inr (.inr (fun _ => none)))))), (q9, .inr (8, fu10)), (q15, .inr (3, fu16))] H := hP
  have hD : va_D A [(h0, .inr (11, [.ref q1, .int 0, .ref q3, .int 0, .ref q4, .int 0, .ref q5, .ref q6, .ref q7, .ref q8, .ref q9, .ref q12, .ref q13, .ref q14, .null, .null])), (q1, .inl (cy2, 40, .inr (.inr (.inr (.inr (fun _ => none)))))), (q9, .inr (8, fu10)), (q15, .inr (3, fu16))] := hD
  refine W.widen (k := 104) (n := 10456) (Nat.le_of_ble_eq_true rfl) (Nat.le_of_ble_eq_true rfl) ?_
  refine va_putF (D := (dC, dI)) (ci := 11) (v := .ref q15) (ty := .object "CubicBench$Division") (C := RX11) (T := TX11) (N := 16) hx hb hu iX11 tyX11 tyX11_ok nmX11 hown hK hP hD hS 0 rfl rfl 14 (by decide) (hu _ u152) (fun _ h9 => h9) rfl hin rfl (by decide +kernel) rfl rfl (Nat.le_of_ble_eq_true rfl) dX11_init_130 (fun H locs hP hD hS => ?_)
  have hP : va_P (dC, dI) clx [(h0, .inr (11, [.ref q1, .int 0, .ref q3, .int 0, .ref q4, .int 0, .ref q5, .ref q6, .ref q7, .ref q8, .ref q9, .ref q12, .ref q13, .ref q14, .ref q15, .null])), (q1, .inl (cy2, 40, .inr (.inr (.inr (.inr (fun _ => none)))))), (q9, .inr (8, fu10)), (q15, .inr (3, fu16))] H := hP
  have hD : va_D A [(h0, .inr (11, [.ref q1, .int 0, .ref q3, .int 0, .ref q4, .int 0, .ref q5, .ref q6, .ref q7, .ref q8, .ref q9, .ref q12, .ref q13, .ref q14, .ref q15, .null])), (q1, .inl (cy2, 40, .inr (.inr (.inr (.inr (fun _ => none)))))), (q9, .inr (8, fu10)), (q15, .inr (3, fu16))] := hD
  refine lv_aload_n hx hb dX11_init_133 rfl (lv_at hl 0 rfl) ?_
  refine px_new (ci := 5) (fs := dfX5) (C := RX5) (T := TX5) (N := 5) hx hb hu iX5 tyX5 tyX5_ok hown (hu _ u153) (hu _ u154) (hu _ u155) hK hP hS rfl dfX5_ok (Nat.le_of_ble_eq_true rfl) (Nat.le_of_ble_eq_true rfl) dX11_init_134 (fun q18 H hP hq hlt hq0 hS => ?_)
  refine W.widen (k := 105) (n := 10461) (Nat.le_of_ble_eq_true rfl) (Nat.le_of_ble_eq_true rfl) ?_
  refine lv_dup hx hb dX11_init_137 rfl ?_
  refine px_initJ (As := []) (rest := [.ref q18, .ref h0]) (nL := 1) (j_X5_init l) ⟨hx, hb, hml, hown, hu⟩ (cwI 0 hu (gC u157) rfl rfl rfl (hu _ u155) (hu _ u158) (hu _ u156) rfl (by decide +kernel) ⟨(Nat.le_of_ble_eq_true rfl), (Nat.le_of_ble_eq_true rfl)⟩) (hK.sub [] rfl) hev hP hq hlt hq0 hS hA rfl hl.1 (Nat.le_of_ble_eq_true rfl) dX11_init_138 ⟨(Nat.le_of_ble_eq_true rfl), (Nat.le_of_ble_eq_true rfl)⟩ (fun H locs hP hS => ?_)
  refine W.widen (k := 105) (n := 10461) (Nat.le_of_ble_eq_true rfl) (Nat.le_of_ble_eq_true rfl) ?_
  refine va_putF (D := (dC, dI)) (ci := 11) (v := .ref q18) (ty := .object "CubicBench$Lead") (C := RX11) (T := TX11) (N := 16) hx hb hu iX11 tyX11 tyX11_ok nmX11 hown hK hP hD hS 0 rfl rfl 15 (by decide) (hu _ u159) (fun _ h9 => h9) rfl hin rfl (by decide +kernel) rfl rfl (Nat.le_of_ble_eq_true rfl) dX11_init_141 (fun H locs hP hD hS => ?_)
  have hP : va_P (dC, dI) clx [(h0, .inr (11, [.ref q1, .int 0, .ref q3, .int 0, .ref q4, .int 0, .ref q5, .ref q6, .ref q7, .ref q8, .ref q9, .ref q12, .ref q13, .ref q14, .ref q15, .ref q18])), (q1, .inl (cy2, 40, .inr (.inr (.inr (.inr (fun _ => none)))))), (q9, .inr (8, fu10)), (q15, .inr (3, fu16))] H := hP
  have hD : va_D A [(h0, .inr (11, [.ref q1, .int 0, .ref q3, .int 0, .ref q4, .int 0, .ref q5, .ref q6, .ref q7, .ref q8, .ref q9, .ref q12, .ref q13, .ref q14, .ref q15, .ref q18])), (q1, .inl (cy2, 40, .inr (.inr (.inr (.inr (fun _ => none)))))), (q9, .inr (8, fu10)), (q15, .inr (3, fu16))] := hD
  refine W.widen (k := 105) (n := 10461) (Nat.le_of_ble_eq_true rfl) (Nat.le_of_ble_eq_true rfl) ?_
  exact W.vret hx hb hr (fun t ht hW => ⟨⟨(), rfl, trivial, ⟨[.ref q1, .int 0, .ref q3, .int 0, .ref q4, .int 0, .ref q5, .ref q6, .ref q7, .ref q8, .ref q9, .ref q12, .ref q13, .ref q14, .ref q15, .ref q18], fu10, fu16, q1, q9, q15, cy2, ⟨⟨rfl, rfl, rfl, rfl, rfl, rfl, rfl, ⟨_, rfl⟩⟩, hF11, hF17⟩, (by rw [ht]; exact hP), va_K.moved hW.alike hK, hD⟩⟩, hS.F ht⟩) hS.2.2 dX11_init_144
end
section
theorem dX15_init_0 : decode cX15_init 0 = .ok (.aload_n 0, 1) := by decide +kernel
theorem dX15_init_1 : decode cX15_init 1 = .ok (.invokespecial 1, 3) := by decide +kernel
theorem dX15_init_4 : decode cX15_init 4 = .ok (.aload_n 0, 1) := by decide +kernel
theorem dX15_init_5 : decode cX15_init 5 = .ok (.new 7, 3) := by decide +kernel
theorem dX15_init_8 : decode cX15_init 8 = .ok (.dup, 1) := by decide +kernel
theorem dX15_init_9 : decode cX15_init 9 = .ok (.invokespecial 9, 3) := by decide +kernel
theorem dX15_init_12 : decode cX15_init 12 = .ok (.putfield 10, 3) := by decide +kernel
theorem dX15_init_15 : decode cX15_init 15 = .ok (.aload_n 0, 1) := by decide +kernel
theorem dX15_init_16 : decode cX15_init 16 = .ok (.new 7, 3) := by decide +kernel
theorem dX15_init_19 : decode cX15_init 19 = .ok (.dup, 1) := by decide +kernel
theorem dX15_init_20 : decode cX15_init 20 = .ok (.invokespecial 9, 3) := by decide +kernel
theorem dX15_init_23 : decode cX15_init 23 = .ok (.putfield 16, 3) := by decide +kernel
theorem dX15_init_26 : decode cX15_init 26 = .ok (.aload_n 0, 1) := by decide +kernel
theorem dX15_init_27 : decode cX15_init 27 = .ok (.new 7, 3) := by decide +kernel
theorem dX15_init_30 : decode cX15_init 30 = .ok (.dup, 1) := by decide +kernel
theorem dX15_init_31 : decode cX15_init 31 = .ok (.invokespecial 9, 3) := by decide +kernel
theorem dX15_init_34 : decode cX15_init 34 = .ok (.putfield 19, 3) := by decide +kernel
theorem dX15_init_37 : decode cX15_init 37 = .ok (.aload_n 0, 1) := by decide +kernel
theorem dX15_init_38 : decode cX15_init 38 = .ok (.new 7, 3) := by decide +kernel
theorem dX15_init_41 : decode cX15_init 41 = .ok (.dup, 1) := by decide +kernel
theorem dX15_init_42 : decode cX15_init 42 = .ok (.invokespecial 9, 3) := by decide +kernel
theorem dX15_init_45 : decode cX15_init 45 = .ok (.putfield 22, 3) := by decide +kernel
theorem dX15_init_48 : decode cX15_init 48 = .ok (.aload_n 0, 1) := by decide +kernel
theorem dX15_init_49 : decode cX15_init 49 = .ok (.new 7, 3) := by decide +kernel
theorem dX15_init_52 : decode cX15_init 52 = .ok (.dup, 1) := by decide +kernel
theorem dX15_init_53 : decode cX15_init 53 = .ok (.invokespecial 9, 3) := by decide +kernel
theorem dX15_init_56 : decode cX15_init 56 = .ok (.putfield 25, 3) := by decide +kernel
theorem dX15_init_59 : decode cX15_init 59 = .ok (.aload_n 0, 1) := by decide +kernel
theorem dX15_init_60 : decode cX15_init 60 = .ok (.new 7, 3) := by decide +kernel
theorem dX15_init_63 : decode cX15_init 63 = .ok (.dup, 1) := by decide +kernel
theorem dX15_init_64 : decode cX15_init 64 = .ok (.invokespecial 9, 3) := by decide +kernel
theorem dX15_init_67 : decode cX15_init 67 = .ok (.putfield 28, 3) := by decide +kernel
theorem dX15_init_70 : decode cX15_init 70 = .ok (.aload_n 0, 1) := by decide +kernel
theorem dX15_init_71 : decode cX15_init 71 = .ok (.new 7, 3) := by decide +kernel
theorem dX15_init_74 : decode cX15_init 74 = .ok (.dup, 1) := by decide +kernel
theorem dX15_init_75 : decode cX15_init 75 = .ok (.invokespecial 9, 3) := by decide +kernel
theorem dX15_init_78 : decode cX15_init 78 = .ok (.putfield 31, 3) := by decide +kernel
theorem dX15_init_81 : decode cX15_init 81 = .ok (.aload_n 0, 1) := by decide +kernel
theorem dX15_init_82 : decode cX15_init 82 = .ok (.bipush 40, 2) := by decide +kernel
theorem dX15_init_84 : decode cX15_init 84 = .ok (.newarray .long, 2) := by decide +kernel
theorem dX15_init_86 : decode cX15_init 86 = .ok (.putfield 34, 3) := by decide +kernel
theorem dX15_init_89 : decode cX15_init 89 = .ok (.aload_n 0, 1) := by decide +kernel
theorem dX15_init_90 : decode cX15_init 90 = .ok (.bipush 40, 2) := by decide +kernel
theorem dX15_init_92 : decode cX15_init 92 = .ok (.newarray .long, 2) := by decide +kernel
theorem dX15_init_94 : decode cX15_init 94 = .ok (.putfield 38, 3) := by decide +kernel
theorem dX15_init_97 : decode cX15_init 97 = .ok (.aload_n 0, 1) := by decide +kernel
theorem dX15_init_98 : decode cX15_init 98 = .ok (.bipush 40, 2) := by decide +kernel
theorem dX15_init_100 : decode cX15_init 100 = .ok (.newarray .int, 2) := by decide +kernel
theorem dX15_init_102 : decode cX15_init 102 = .ok (.putfield 41, 3) := by decide +kernel
theorem dX15_init_105 : decode cX15_init 105 = .ok (.aload_n 0, 1) := by decide +kernel
theorem dX15_init_106 : decode cX15_init 106 = .ok (.bipush 40, 2) := by decide +kernel
theorem dX15_init_108 : decode cX15_init 108 = .ok (.newarray .int, 2) := by decide +kernel
theorem dX15_init_110 : decode cX15_init 110 = .ok (.putfield 45, 3) := by decide +kernel
theorem dX15_init_113 : decode cX15_init 113 = .ok (.aload_n 0, 1) := by decide +kernel
theorem dX15_init_114 : decode cX15_init 114 = .ok (.iconst 1, 1) := by decide +kernel
theorem dX15_init_115 : decode cX15_init 115 = .ok (.newarray .boolean, 2) := by decide +kernel
theorem dX15_init_117 : decode cX15_init 117 = .ok (.putfield 48, 3) := by decide +kernel
theorem dX15_init_120 : decode cX15_init 120 = .ok (.aload_n 0, 1) := by decide +kernel
theorem dX15_init_121 : decode cX15_init 121 = .ok (.sipush 400, 3) := by decide +kernel
theorem dX15_init_124 : decode cX15_init 124 = .ok (.newarray .int, 2) := by decide +kernel
theorem dX15_init_126 : decode cX15_init 126 = .ok (.putfield 52, 3) := by decide +kernel
theorem dX15_init_129 : decode cX15_init 129 = .ok (.aload_n 0, 1) := by decide +kernel
theorem dX15_init_130 : decode cX15_init 130 = .ok (.sipush 400, 3) := by decide +kernel
theorem dX15_init_133 : decode cX15_init 133 = .ok (.newarray .boolean, 2) := by decide +kernel
theorem dX15_init_135 : decode cX15_init 135 = .ok (.putfield 55, 3) := by decide +kernel
theorem dX15_init_138 : decode cX15_init 138 = .ok (.aload_n 0, 1) := by decide +kernel
theorem dX15_init_139 : decode cX15_init 139 = .ok (.sipush 400, 3) := by decide +kernel
theorem dX15_init_142 : decode cX15_init 142 = .ok (.newarray .int, 2) := by decide +kernel
theorem dX15_init_144 : decode cX15_init 144 = .ok (.putfield 58, 3) := by decide +kernel
theorem dX15_init_147 : decode cX15_init 147 = .ok (.aload_n 0, 1) := by decide +kernel
theorem dX15_init_148 : decode cX15_init 148 = .ok (.sipush 400, 3) := by decide +kernel
theorem dX15_init_151 : decode cX15_init 151 = .ok (.newarray .int, 2) := by decide +kernel
theorem dX15_init_153 : decode cX15_init 153 = .ok (.putfield 61, 3) := by decide +kernel
theorem dX15_init_156 : decode cX15_init 156 = .ok (.aload_n 0, 1) := by decide +kernel
theorem dX15_init_157 : decode cX15_init 157 = .ok (.ldc 64, 2) := by decide +kernel
theorem dX15_init_159 : decode cX15_init 159 = .ok (.newarray .int, 2) := by decide +kernel
theorem dX15_init_161 : decode cX15_init 161 = .ok (.putfield 65, 3) := by decide +kernel
theorem dX15_init_164 : decode cX15_init 164 = .ok (.aload_n 0, 1) := by decide +kernel
theorem dX15_init_165 : decode cX15_init 165 = .ok (.sipush 1600, 3) := by decide +kernel
theorem dX15_init_168 : decode cX15_init 168 = .ok (.newarray .int, 2) := by decide +kernel
theorem dX15_init_170 : decode cX15_init 170 = .ok (.putfield 68, 3) := by decide +kernel
theorem dX15_init_173 : decode cX15_init 173 = .ok (.aload_n 0, 1) := by decide +kernel
theorem dX15_init_174 : decode cX15_init 174 = .ok (.sipush 1600, 3) := by decide +kernel
theorem dX15_init_177 : decode cX15_init 177 = .ok (.newarray .boolean, 2) := by decide +kernel
theorem dX15_init_179 : decode cX15_init 179 = .ok (.putfield 71, 3) := by decide +kernel
theorem dX15_init_182 : decode cX15_init 182 = .ok (.aload_n 0, 1) := by decide +kernel
theorem dX15_init_183 : decode cX15_init 183 = .ok (.new 74, 3) := by decide +kernel
theorem dX15_init_186 : decode cX15_init 186 = .ok (.dup, 1) := by decide +kernel
theorem dX15_init_187 : decode cX15_init 187 = .ok (.invokespecial 76, 3) := by decide +kernel
theorem dX15_init_190 : decode cX15_init 190 = .ok (.putfield 77, 3) := by decide +kernel
theorem dX15_init_193 : decode cX15_init 193 = .ok (.aload_n 0, 1) := by decide +kernel
theorem dX15_init_194 : decode cX15_init 194 = .ok (.new 81, 3) := by decide +kernel
theorem dX15_init_197 : decode cX15_init 197 = .ok (.dup, 1) := by decide +kernel
theorem dX15_init_198 : decode cX15_init 198 = .ok (.invokespecial 83, 3) := by decide +kernel
theorem dX15_init_201 : decode cX15_init 201 = .ok (.putfield 84, 3) := by decide +kernel
theorem dX15_init_204 : decode cX15_init 204 = .ok (.aload_n 0, 1) := by decide +kernel
theorem dX15_init_205 : decode cX15_init 205 = .ok (.new 81, 3) := by decide +kernel
theorem dX15_init_208 : decode cX15_init 208 = .ok (.dup, 1) := by decide +kernel
theorem dX15_init_209 : decode cX15_init 209 = .ok (.invokespecial 83, 3) := by decide +kernel
theorem dX15_init_212 : decode cX15_init 212 = .ok (.putfield 88, 3) := by decide +kernel
theorem dX15_init_215 : decode cX15_init 215 = .ok (.aload_n 0, 1) := by decide +kernel
theorem dX15_init_216 : decode cX15_init 216 = .ok (.new 81, 3) := by decide +kernel
theorem dX15_init_219 : decode cX15_init 219 = .ok (.dup, 1) := by decide +kernel
theorem dX15_init_220 : decode cX15_init 220 = .ok (.invokespecial 83, 3) := by decide +kernel
theorem dX15_init_223 : decode cX15_init 223 = .ok (.putfield 91, 3) := by decide +kernel
theorem dX15_init_226 : decode cX15_init 226 = .ok (.aload_n 0, 1) := by decide +kernel
theorem dX15_init_227 : decode cX15_init 227 = .ok (.new 81, 3) := by decide +kernel
theorem dX15_init_230 : decode cX15_init 230 = .ok (.dup, 1) := by decide +kernel
theorem dX15_init_231 : decode cX15_init 231 = .ok (.invokespecial 83, 3) := by decide +kernel
theorem dX15_init_234 : decode cX15_init 234 = .ok (.putfield 94, 3) := by decide +kernel
theorem dX15_init_237 : decode cX15_init 237 = .ok (.aload_n 0, 1) := by decide +kernel
theorem dX15_init_238 : decode cX15_init 238 = .ok (.new 74, 3) := by decide +kernel
theorem dX15_init_241 : decode cX15_init 241 = .ok (.dup, 1) := by decide +kernel
theorem dX15_init_242 : decode cX15_init 242 = .ok (.invokespecial 76, 3) := by decide +kernel
theorem dX15_init_245 : decode cX15_init 245 = .ok (.putfield 97, 3) := by decide +kernel
theorem dX15_init_248 : decode cX15_init 248 = .ok (.aload_n 0, 1) := by decide +kernel
theorem dX15_init_249 : decode cX15_init 249 = .ok (.new 74, 3) := by decide +kernel
theorem dX15_init_252 : decode cX15_init 252 = .ok (.dup, 1) := by decide +kernel
theorem dX15_init_253 : decode cX15_init 253 = .ok (.invokespecial 76, 3) := by decide +kernel
theorem dX15_init_256 : decode cX15_init 256 = .ok (.putfield 100, 3) := by decide +kernel
theorem dX15_init_259 : decode cX15_init 259 = .ok (.aload_n 0, 1) := by decide +kernel
theorem dX15_init_260 : decode cX15_init 260 = .ok (.new 74, 3) := by decide +kernel
theorem dX15_init_263 : decode cX15_init 263 = .ok (.dup, 1) := by decide +kernel
theorem dX15_init_264 : decode cX15_init 264 = .ok (.invokespecial 76, 3) := by decide +kernel
theorem dX15_init_267 : decode cX15_init 267 = .ok (.putfield 103, 3) := by decide +kernel
theorem dX15_init_270 : decode cX15_init 270 = .ok (.aload_n 0, 1) := by decide +kernel
theorem dX15_init_271 : decode cX15_init 271 = .ok (.new 74, 3) := by decide +kernel
theorem dX15_init_274 : decode cX15_init 274 = .ok (.dup, 1) := by decide +kernel
theorem dX15_init_275 : decode cX15_init 275 = .ok (.invokespecial 76, 3) := by decide +kernel
theorem dX15_init_278 : decode cX15_init 278 = .ok (.putfield 106, 3) := by decide +kernel
theorem dX15_init_281 : decode cX15_init 281 = .ok (.aload_n 0, 1) := by decide +kernel
theorem dX15_init_282 : decode cX15_init 282 = .ok (.new 74, 3) := by decide +kernel
theorem dX15_init_285 : decode cX15_init 285 = .ok (.dup, 1) := by decide +kernel
theorem dX15_init_286 : decode cX15_init 286 = .ok (.invokespecial 76, 3) := by decide +kernel
theorem dX15_init_289 : decode cX15_init 289 = .ok (.putfield 109, 3) := by decide +kernel
theorem dX15_init_292 : decode cX15_init 292 = .ok (.aload_n 0, 1) := by decide +kernel
theorem dX15_init_293 : decode cX15_init 293 = .ok (.sipush 260, 3) := by decide +kernel
theorem dX15_init_296 : decode cX15_init 296 = .ok (.newarray .byte, 2) := by decide +kernel
theorem dX15_init_298 : decode cX15_init 298 = .ok (.putfield 112, 3) := by decide +kernel
theorem dX15_init_301 : decode cX15_init 301 = .ok (.aload_n 0, 1) := by decide +kernel
theorem dX15_init_302 : decode cX15_init 302 = .ok (.bipush 40, 2) := by decide +kernel
theorem dX15_init_304 : decode cX15_init 304 = .ok (.newarray .boolean, 2) := by decide +kernel
theorem dX15_init_306 : decode cX15_init 306 = .ok (.putfield 116, 3) := by decide +kernel
theorem dX15_init_309 : decode cX15_init 309 = .ok (.aload_n 0, 1) := by decide +kernel
theorem dX15_init_310 : decode cX15_init 310 = .ok (.bipush 40, 2) := by decide +kernel
theorem dX15_init_312 : decode cX15_init 312 = .ok (.newarray .int, 2) := by decide +kernel
theorem dX15_init_314 : decode cX15_init 314 = .ok (.putfield 119, 3) := by decide +kernel
theorem dX15_init_317 : decode cX15_init 317 = .ok (.aload_n 0, 1) := by decide +kernel
theorem dX15_init_318 : decode cX15_init 318 = .ok (.bipush 40, 2) := by decide +kernel
theorem dX15_init_320 : decode cX15_init 320 = .ok (.anewarray 122, 3) := by decide +kernel
theorem dX15_init_323 : decode cX15_init 323 = .ok (.putfield 123, 3) := by decide +kernel
theorem dX15_init_326 : decode cX15_init 326 = .ok (.aload_n 0, 1) := by decide +kernel
theorem dX15_init_327 : decode cX15_init 327 = .ok (.bipush 40, 2) := by decide +kernel
theorem dX15_init_329 : decode cX15_init 329 = .ok (.anewarray 122, 3) := by decide +kernel
theorem dX15_init_332 : decode cX15_init 332 = .ok (.putfield 127, 3) := by decide +kernel
theorem dX15_init_335 : decode cX15_init 335 = .ok (.aload_n 0, 1) := by decide +kernel
theorem dX15_init_336 : decode cX15_init 336 = .ok (.sipush 16100, 3) := by decide +kernel
theorem dX15_init_339 : decode cX15_init 339 = .ok (.newarray .int, 2) := by decide +kernel
theorem dX15_init_341 : decode cX15_init 341 = .ok (.putfield 130, 3) := by decide +kernel
theorem dX15_init_344 : decode cX15_init 344 = .ok (.aload_n 0, 1) := by decide +kernel
theorem dX15_init_345 : decode cX15_init 345 = .ok (.sipush 16100, 3) := by decide +kernel
theorem dX15_init_348 : decode cX15_init 348 = .ok (.newarray .int, 2) := by decide +kernel
theorem dX15_init_350 : decode cX15_init 350 = .ok (.putfield 133, 3) := by decide +kernel
theorem dX15_init_353 : decode cX15_init 353 = .ok (.aload_n 0, 1) := by decide +kernel
theorem dX15_init_354 : decode cX15_init 354 = .ok (.sipush 16100, 3) := by decide +kernel
theorem dX15_init_357 : decode cX15_init 357 = .ok (.newarray .long, 2) := by decide +kernel
theorem dX15_init_359 : decode cX15_init 359 = .ok (.putfield 136, 3) := by decide +kernel
theorem dX15_init_362 : decode cX15_init 362 = .ok (.aload_n 0, 1) := by decide +kernel
theorem dX15_init_363 : decode cX15_init 363 = .ok (.sipush 2100, 3) := by decide +kernel
theorem dX15_init_366 : decode cX15_init 366 = .ok (.newarray .int, 2) := by decide +kernel
theorem dX15_init_368 : decode cX15_init 368 = .ok (.putfield 139, 3) := by decide +kernel
theorem dX15_init_371 : decode cX15_init 371 = .ok (.aload_n 0, 1) := by decide +kernel
theorem dX15_init_372 : decode cX15_init 372 = .ok (.sipush 2100, 3) := by decide +kernel
theorem dX15_init_375 : decode cX15_init 375 = .ok (.newarray .int, 2) := by decide +kernel
theorem dX15_init_377 : decode cX15_init 377 = .ok (.putfield 142, 3) := by decide +kernel
theorem dX15_init_380 : decode cX15_init 380 = .ok (.aload_n 0, 1) := by decide +kernel
theorem dX15_init_381 : decode cX15_init 381 = .ok (.iconst (-1), 1) := by decide +kernel
theorem dX15_init_382 : decode cX15_init 382 = .ok (.putfield 145, 3) := by decide +kernel
theorem dX15_init_385 : decode cX15_init 385 = .ok (.aload_n 0, 1) := by decide +kernel
theorem dX15_init_386 : decode cX15_init 386 = .ok (.bipush 40, 2) := by decide +kernel
theorem dX15_init_388 : decode cX15_init 388 = .ok (.newarray .boolean, 2) := by decide +kernel
theorem dX15_init_390 : decode cX15_init 390 = .ok (.putfield 149, 3) := by decide +kernel
theorem dX15_init_393 : decode cX15_init 393 = .ok (.aload_n 0, 1) := by decide +kernel
theorem dX15_init_394 : decode cX15_init 394 = .ok (.bipush 40, 2) := by decide +kernel
theorem dX15_init_396 : decode cX15_init 396 = .ok (.newarray .int, 2) := by decide +kernel
theorem dX15_init_398 : decode cX15_init 398 = .ok (.putfield 152, 3) := by decide +kernel
theorem dX15_init_401 : decode cX15_init 401 = .ok (.aload_n 0, 1) := by decide +kernel
theorem dX15_init_402 : decode cX15_init 402 = .ok (.bipush 40, 2) := by decide +kernel
theorem dX15_init_404 : decode cX15_init 404 = .ok (.newarray .int, 2) := by decide +kernel
theorem dX15_init_406 : decode cX15_init 406 = .ok (.putfield 155, 3) := by decide +kernel
theorem dX15_init_409 : decode cX15_init 409 = .ok (.aload_n 0, 1) := by decide +kernel
theorem dX15_init_410 : decode cX15_init 410 = .ok (.bipush 40, 2) := by decide +kernel
theorem dX15_init_412 : decode cX15_init 412 = .ok (.newarray .int, 2) := by decide +kernel
theorem dX15_init_414 : decode cX15_init 414 = .ok (.putfield 158, 3) := by decide +kernel
theorem dX15_init_417 : decode cX15_init 417 = .ok (.aload_n 0, 1) := by decide +kernel
theorem dX15_init_418 : decode cX15_init 418 = .ok (.sipush 2100, 3) := by decide +kernel
theorem dX15_init_421 : decode cX15_init 421 = .ok (.newarray .boolean, 2) := by decide +kernel
theorem dX15_init_423 : decode cX15_init 423 = .ok (.putfield 161, 3) := by decide +kernel
theorem dX15_init_426 : decode cX15_init 426 = .ok (.aload_n 0, 1) := by decide +kernel
theorem dX15_init_427 : decode cX15_init 427 = .ok (.new 74, 3) := by decide +kernel
theorem dX15_init_430 : decode cX15_init 430 = .ok (.dup, 1) := by decide +kernel
theorem dX15_init_431 : decode cX15_init 431 = .ok (.invokespecial 76, 3) := by decide +kernel
theorem dX15_init_434 : decode cX15_init 434 = .ok (.putfield 164, 3) := by decide +kernel
theorem dX15_init_437 : decode cX15_init 437 = .ok (.aload_n 0, 1) := by decide +kernel
theorem dX15_init_438 : decode cX15_init 438 = .ok (.new 74, 3) := by decide +kernel
theorem dX15_init_441 : decode cX15_init 441 = .ok (.dup, 1) := by decide +kernel
theorem dX15_init_442 : decode cX15_init 442 = .ok (.invokespecial 76, 3) := by decide +kernel
theorem dX15_init_445 : decode cX15_init 445 = .ok (.putfield 167, 3) := by decide +kernel
theorem dX15_init_448 : decode cX15_init 448 = .ok (.aload_n 0, 1) := by decide +kernel
theorem dX15_init_449 : decode cX15_init 449 = .ok (.new 74, 3) := by decide +kernel
theorem dX15_init_452 : decode cX15_init 452 = .ok (.dup, 1) := by decide +kernel
theorem dX15_init_453 : decode cX15_init 453 = .ok (.invokespecial 76, 3) := by decide +kernel
theorem dX15_init_456 : decode cX15_init 456 = .ok (.putfield 170, 3) := by decide +kernel
theorem dX15_init_459 : decode cX15_init 459 = .ok (.aload_n 0, 1) := by decide +kernel
theorem dX15_init_460 : decode cX15_init 460 = .ok (.new 74, 3) := by decide +kernel
theorem dX15_init_463 : decode cX15_init 463 = .ok (.dup, 1) := by decide +kernel
theorem dX15_init_464 : decode cX15_init 464 = .ok (.invokespecial 76, 3) := by decide +kernel
theorem dX15_init_467 : decode cX15_init 467 = .ok (.putfield 173, 3) := by decide +kernel
theorem dX15_init_470 : decode cX15_init 470 = .ok (.aload_n 0, 1) := by decide +kernel
theorem dX15_init_471 : decode cX15_init 471 = .ok (.new 74, 3) := by decide +kernel
theorem dX15_init_474 : decode cX15_init 474 = .ok (.dup, 1) := by decide +kernel
theorem dX15_init_475 : decode cX15_init 475 = .ok (.invokespecial 76, 3) := by decide +kernel
theorem dX15_init_478 : decode cX15_init 478 = .ok (.putfield 176, 3) := by decide +kernel
theorem dX15_init_481 : decode cX15_init 481 = .ok (.aload_n 0, 1) := by decide +kernel
theorem dX15_init_482 : decode cX15_init 482 = .ok (.new 74, 3) := by decide +kernel
theorem dX15_init_485 : decode cX15_init 485 = .ok (.dup, 1) := by decide +kernel
theorem dX15_init_486 : decode cX15_init 486 = .ok (.invokespecial 76, 3) := by decide +kernel
theorem dX15_init_489 : decode cX15_init 489 = .ok (.putfield 179, 3) := by decide +kernel
theorem dX15_init_492 : decode cX15_init 492 = .ok (.aload_n 0, 1) := by decide +kernel
theorem dX15_init_493 : decode cX15_init 493 = .ok (.new 74, 3) := by decide +kernel
theorem dX15_init_496 : decode cX15_init 496 = .ok (.dup, 1) := by decide +kernel
theorem dX15_init_497 : decode cX15_init 497 = .ok (.invokespecial 76, 3) := by decide +kernel
theorem dX15_init_500 : decode cX15_init 500 = .ok (.putfield 182, 3) := by decide +kernel
theorem dX15_init_503 : decode cX15_init 503 = .ok (.aload_n 0, 1) := by decide +kernel
theorem dX15_init_504 : decode cX15_init 504 = .ok (.new 74, 3) := by decide +kernel
theorem dX15_init_507 : decode cX15_init 507 = .ok (.dup, 1) := by decide +kernel
theorem dX15_init_508 : decode cX15_init 508 = .ok (.invokespecial 76, 3) := by decide +kernel
theorem dX15_init_511 : decode cX15_init 511 = .ok (.putfield 185, 3) := by decide +kernel
theorem dX15_init_514 : decode cX15_init 514 = .ok (.aload_n 0, 1) := by decide +kernel
theorem dX15_init_515 : decode cX15_init 515 = .ok (.sipush 1920, 3) := by decide +kernel
theorem dX15_init_518 : decode cX15_init 518 = .ok (.newarray .long, 2) := by decide +kernel
theorem dX15_init_520 : decode cX15_init 520 = .ok (.putfield 188, 3) := by decide +kernel
theorem dX15_init_523 : decode cX15_init 523 = .ok (.aload_n 0, 1) := by decide +kernel
theorem dX15_init_524 : decode cX15_init 524 = .ok (.sipush 160, 3) := by decide +kernel
theorem dX15_init_527 : decode cX15_init 527 = .ok (.newarray .long, 2) := by decide +kernel
theorem dX15_init_529 : decode cX15_init 529 = .ok (.putfield 191, 3) := by decide +kernel
theorem dX15_init_532 : decode cX15_init 532 = .ok (.aload_n 0, 1) := by decide +kernel
theorem dX15_init_533 : decode cX15_init 533 = .ok (.sipush 160, 3) := by decide +kernel
theorem dX15_init_536 : decode cX15_init 536 = .ok (.newarray .long, 2) := by decide +kernel
theorem dX15_init_538 : decode cX15_init 538 = .ok (.putfield 194, 3) := by decide +kernel
theorem dX15_init_541 : decode cX15_init 541 = .ok (.aload_n 0, 1) := by decide +kernel
theorem dX15_init_542 : decode cX15_init 542 = .ok (.sipush 160, 3) := by decide +kernel
theorem dX15_init_545 : decode cX15_init 545 = .ok (.newarray .long, 2) := by decide +kernel
theorem dX15_init_547 : decode cX15_init 547 = .ok (.putfield 197, 3) := by decide +kernel
theorem dX15_init_550 : decode cX15_init 550 = .ok (.aload_n 0, 1) := by decide +kernel
theorem dX15_init_551 : decode cX15_init 551 = .ok (.sipush 160, 3) := by decide +kernel
theorem dX15_init_554 : decode cX15_init 554 = .ok (.newarray .long, 2) := by decide +kernel
theorem dX15_init_556 : decode cX15_init 556 = .ok (.putfield 200, 3) := by decide +kernel
theorem dX15_init_559 : decode cX15_init 559 = .ok (.aload_n 0, 1) := by decide +kernel
theorem dX15_init_560 : decode cX15_init 560 = .ok (.sipush 160, 3) := by decide +kernel
theorem dX15_init_563 : decode cX15_init 563 = .ok (.newarray .long, 2) := by decide +kernel
theorem dX15_init_565 : decode cX15_init 565 = .ok (.putfield 203, 3) := by decide +kernel
theorem dX15_init_568 : decode cX15_init 568 = .ok (.aload_n 0, 1) := by decide +kernel
theorem dX15_init_569 : decode cX15_init 569 = .ok (.new 74, 3) := by decide +kernel
theorem dX15_init_572 : decode cX15_init 572 = .ok (.dup, 1) := by decide +kernel
theorem dX15_init_573 : decode cX15_init 573 = .ok (.invokespecial 76, 3) := by decide +kernel
theorem dX15_init_576 : decode cX15_init 576 = .ok (.putfield 206, 3) := by decide +kernel
theorem dX15_init_579 : decode cX15_init 579 = .ok (.return_, 1) := by decide +kernel
def wk_X15_init : List Cond := .code yX15_init cX15_init 1 none :: wU
set_option maxHeartbeats 16000000 in
set_option maxRecDepth 100000 in
theorem k_X15_init (l : Launch) (dC : Nat → ClassId) (dI : Nat → Nat → Nat) (h0 sz : Nat) : Met l yX15_init wk_X15_init ({ frames := 5, cells := 232, slots := 136129, locals := 120 } : Room) (va_Pc [.ref h0] (fun U => U.heap.size = sz ∧ va_P (dC, dI) clx [(h0, .inr (15, dfX15))] U.heap ∧ va_K (dC, dI) clx [] U ∧ ev U)) (va_Qv (S := Unit) (fun _ => True) (fun _ t => mNew dC dI (va_A [(h0, .inr (15, dfX15))] sz) h0 t) (va_A [(h0, .inr (15, dfX15))] sz)) 232 136129 (va_A [(h0, .inr (15, dfX15))] sz) := by
  refine Met.ofW (cc := cX15_init) (maxL := 1) (ret := none) (by decide) rfl ?_
  intro p e s m args below meth c s₁ B hml hv
  obtain ⟨rfl, hsz, hP, hK, hev⟩ := hv
  have hx := B.exec
  have hb := B.bytes
  have hr := B.returns
  have hts := atoms_spec (ws := wk_X15_init) B.pre
  have hu : ∀ w ∈ wU, w.before (Value.ref h0 :: []).toArray s = true := fun w h => hts w (List.mem_cons_of_mem _ h)
  have hown : s.vm.findClass RX15 = some m.cls := findClass_of_methodNamed B.named
  have hlocks := B.notSynchronized
  have hin : meth.name = "<init>" := (name_of_methodNamed B.named B.method).1
  subst hsz
  have hD := va_D1 (sz := s.heap.size) h0 (.inr (15, dfX15))
  generalize hAe : va_A [(h0, .inr (15, dfX15))] s.heap.size = A at hD ⊢
  have hA : ∀ q : Nat, s.heap.size ≤ q → A q := fun q h => by rw [← hAe]; exact Or.inr h
  have hS : va_S A s.heap s.heap [] := va_S.rf
  have hP : va_P (dC, dI) clx [(h0, .inr (15, [.int 0, .null, .null, .null, .null, .null, .null, .null, .null, .null, .null, .null, .int 0, .null, .int 0, .null, .null, .null, .null, .null, .null, .null, .int 0, .null, .null, .null, .null, .null, .null, .null, .null, .null, .null, .null, .int 0, .null, .null, .null, .null, .null, .null, .null, .int 0, .null, .null, .int 0, .int 0, .null, .null, .null, .null, .null, .null, .null, .null, .null, .null, .null, .null, .null, .null, .null, .null, .null, .null, .int 0, .int 0, .null, .long 0, .long 0, .long 0, .long 0, .int 0, .null]))] s.heap := hP
  have hD : va_D A [(h0, .inr (15, [.int 0, .null, .null, .null, .null, .null, .null, .null, .null, .null, .null, .null, .int 0, .null, .int 0, .null, .null, .null, .null, .null, .null, .null, .int 0, .null, .null, .null, .null, .null, .null, .null, .null, .null, .null, .null, .int 0, .null, .null, .null, .null, .null, .null, .null, .int 0, .null, .null, .int 0, .int 0, .null, .null, .null, .null, .null, .null, .null, .null, .null, .null, .null, .null, .null, .null, .null, .null, .null, .null, .int 0, .int 0, .null, .long 0, .long 0, .long 0, .long 0, .int 0, .null]))] := hD
  have hl := lv_entry ([.ref h0]) (n := 1) (Nat.le_of_ble_eq_true rfl)
  rw [lg_entry_eq]
  generalize (lg_sl ([.ref h0]) ++ List.replicate (1 - (lg_sl ([.ref h0])).length) Slot.unset).toArray = ls at hl ⊢
  have hl : lv_has ls 1 [(0, .ref h0)] := hl
  refine lv_aload_n hx hb dX15_init_0 rfl (lv_at hl 0 rfl) ?_
  refine W.objInit hx hb hown (hu _ u160) (hu _ u1) (hu _ u2) rfl (by rw [hml]; exact hl.1) rfl dX15_init_1 (Nat.le_of_ble_eq_true rfl) (Nat.le_of_ble_eq_true rfl) ?_
  refine W.eq (g2 := F0 m 4 ls []) rfl ?_
  refine lv_aload_n hx hb dX15_init_4 rfl (lv_at hl 0 rfl) ?_
  refine px_new (ci := 13) (fs := dfX13) (C := RX13) (T := TX13) (N := 3) hx hb hu iX13 tyX13 tyX13_ok hown (hu _ u161) (hu _ u77) (hu _ u78) hK hP hS rfl dfX13_ok (Nat.le_of_ble_eq_true rfl) (Nat.le_of_ble_eq_true rfl) dX15_init_5 (fun q1 H hP hq hlt hq0 hS => ?_)
  refine W.widen (k := 1) (n := 3) (Nat.le_of_ble_eq_true rfl) (Nat.le_of_ble_eq_true rfl) ?_
  refine lv_dup hx hb dX15_init_8 rfl ?_
  refine px_initN (As := []) (rest := [.ref q1, .ref h0]) (nL := 1) (j_X13_init l) ⟨hx, hb, hml, hown, hu⟩ ⟨va_cnB 0 hu (gC u80) rfl rfl rfl hev.1.1 (hu _ u78) (by decide +kernel) ⟨(Nat.le_of_ble_eq_true rfl), (Nat.le_of_ble_eq_true rfl)⟩, rfl, hu _ u79⟩ hK hev hP hq hlt hq0 hS hA rfl hl.1 (Nat.le_of_ble_eq_true rfl) dX15_init_9 ⟨(Nat.le_of_ble_eq_true rfl), (Nat.le_of_ble_eq_true rfl)⟩ (fun H locs hP hS => ?_)
  refine W.widen (k := 2) (n := 463) (Nat.le_of_ble_eq_true rfl) (Nat.le_of_ble_eq_true rfl) ?_
  refine va_putF (D := (dC, dI)) (ci := 15) (v := .ref q1) (ty := .object "CubicBenchModel$Num") (C := RX15) (T := TX15) (N := 74) hx hb hu iX15 tyX15 tyX15_ok nmX15 hown hK hP hD hS 0 rfl rfl 1 (by decide) (hu _ u162) (fun _ h9 => h9) rfl hin rfl (by decide +kernel) rfl rfl (Nat.le_of_ble_eq_true rfl) dX15_init_12 (fun H locs hP hD hS => ?_)
  have hP : va_P (dC, dI) clx [(h0, .inr (15, [.int 0, .ref q1, .null, .null, .null, .null, .null, .null, .null, .null, .null, .null, .int 0, .null, .int 0, .null, .null, .null, .null, .null, .null, .null, .int 0, .null, .null, .null, .null, .null, .null, .null, .null, .null, .null, .null, .int 0, .null, .null, .null, .null, .null, .null, .null, .int 0, .null, .null, .int 0, .int 0, .null, .null, .null, .null, .null, .null, .null, .null, .null, .null, .null, .null, .null, .null, .null, .null, .null, .null, .int 0, .int 0, .null, .long 0, .long 0, .long 0, .long 0, .int 0, .null]))] H := hP
  have hD : va_D A [(h0, .inr (15, [.int 0, .ref q1, .null, .null, .null, .null, .null, .null, .null, .null, .null, .null, .int 0, .null, .int 0, .null, .null, .null, .null, .null, .null, .null, .int 0, .null, .null, .null, .null, .null, .null, .null, .null, .null, .null, .null, .int 0, .null, .null, .null, .null, .null, .null, .null, .int 0, .null, .null, .int 0, .int 0, .null, .null, .null, .null, .null, .null, .null, .null, .null, .null, .null, .null, .null, .null, .null, .null, .null, .null, .int 0, .int 0, .null, .long 0, .long 0, .long 0, .long 0, .int 0, .null]))] := hD
  refine lv_aload_n hx hb dX15_init_15 rfl (lv_at hl 0 rfl) ?_
  refine px_new (ci := 13) (fs := dfX13) (C := RX13) (T := TX13) (N := 3) hx hb hu iX13 tyX13 tyX13_ok hown (hu _ u161) (hu _ u77) (hu _ u78) hK hP hS rfl dfX13_ok (Nat.le_of_ble_eq_true rfl) (Nat.le_of_ble_eq_true rfl) dX15_init_16 (fun q2 H hP hq hlt hq0 hS => ?_)
  refine W.widen (k := 3) (n := 466) (Nat.le_of_ble_eq_true rfl) (Nat.le_of_ble_eq_true rfl) ?_
  refine lv_dup hx hb dX15_init_19 rfl ?_
  refine px_initN (As := []) (rest := [.ref q2, .ref h0]) (nL := 1) (j_X13_init l) ⟨hx, hb, hml, hown, hu⟩ ⟨va_cnB 0 hu (gC u80) rfl rfl rfl hev.1.1 (hu _ u78) (by decide +kernel) ⟨(Nat.le_of_ble_eq_true rfl), (Nat.le_of_ble_eq_true rfl)⟩, rfl, hu _ u79⟩ hK hev hP hq hlt hq0 hS hA rfl hl.1 (Nat.le_of_ble_eq_true rfl) dX15_init_20 ⟨(Nat.le_of_ble_eq_true rfl), (Nat.le_of_ble_eq_true rfl)⟩ (fun H locs hP hS => ?_)
  refine W.widen (k := 4) (n := 926) (Nat.le_of_ble_eq_true rfl) (Nat.le_of_ble_eq_true rfl) ?_
  refine va_putF (D := (dC, dI)) (ci := 15) (v := .ref q2) (ty := .object "CubicBenchModel$Num") (C := RX15) (T := TX15) (N := 74) hx hb hu iX15 tyX15 tyX15_ok nmX15 hown hK hP hD hS 0 rfl rfl 2 (by decide) (hu _ u163) (fun _ h9 => h9) rfl hin rfl (by decide +kernel) rfl rfl (Nat.le_of_ble_eq_true rfl) dX15_init_23 (fun H locs hP hD hS => ?_)
  have hP : va_P (dC, dI) clx [(h0, .inr (15, [.int 0, .ref q1, .ref q2, .null, .null, .null, .null, .null, .null, .null, .null, .null, .int 0, .null, .int 0, .null, .null, .null, .null, .null, .null, .null, .int 0, .null, .null, .null, .null, .null, .null, .null, .null, .null, .null, .null, .int 0, .null, .null, .null, .null, .null, .null, .null, .int 0, .null, .null, .int 0, .int 0, .null, .null, .null, .null, .null, .null, .null, .null, .null, .null, .null, .null, .null, .null, .null, .null, .null, .null, .int 0, .int 0, .null, .long 0, .long 0, .long 0, .long 0, .int 0, .null]))] H := hP
  have hD : va_D A [(h0, .inr (15, [.int 0, .ref q1, .ref q2, .null, .null, .null, .null, .null, .null, .null, .null, .null, .int 0, .null, .int 0, .null, .null, .null, .null, .null, .null, .null, .int 0, .null, .null, .null, .null, .null, .null, .null, .null, .null, .null, .null, .int 0, .null, .null, .null, .null, .null, .null, .null, .int 0, .null, .null, .int 0, .int 0, .null, .null, .null, .null, .null, .null, .null, .null, .null, .null, .null, .null, .null, .null, .null, .null, .null, .null, .int 0, .int 0, .null, .long 0, .long 0, .long 0, .long 0, .int 0, .null]))] := hD
  refine lv_aload_n hx hb dX15_init_26 rfl (lv_at hl 0 rfl) ?_
  refine px_new (ci := 13) (fs := dfX13) (C := RX13) (T := TX13) (N := 3) hx hb hu iX13 tyX13 tyX13_ok hown (hu _ u161) (hu _ u77) (hu _ u78) hK hP hS rfl dfX13_ok (Nat.le_of_ble_eq_true rfl) (Nat.le_of_ble_eq_true rfl) dX15_init_27 (fun q3 H hP hq hlt hq0 hS => ?_)
  refine W.widen (k := 5) (n := 929) (Nat.le_of_ble_eq_true rfl) (Nat.le_of_ble_eq_true rfl) ?_
  refine lv_dup hx hb dX15_init_30 rfl ?_
  refine px_initN (As := []) (rest := [.ref q3, .ref h0]) (nL := 1) (j_X13_init l) ⟨hx, hb, hml, hown, hu⟩ ⟨va_cnB 0 hu (gC u80) rfl rfl rfl hev.1.1 (hu _ u78) (by decide +kernel) ⟨(Nat.le_of_ble_eq_true rfl), (Nat.le_of_ble_eq_true rfl)⟩, rfl, hu _ u79⟩ hK hev hP hq hlt hq0 hS hA rfl hl.1 (Nat.le_of_ble_eq_true rfl) dX15_init_31 ⟨(Nat.le_of_ble_eq_true rfl), (Nat.le_of_ble_eq_true rfl)⟩ (fun H locs hP hS => ?_)
  refine W.widen (k := 6) (n := 1389) (Nat.le_of_ble_eq_true rfl) (Nat.le_of_ble_eq_true rfl) ?_
  refine va_putF (D := (dC, dI)) (ci := 15) (v := .ref q3) (ty := .object "CubicBenchModel$Num") (C := RX15) (T := TX15) (N := 74) hx hb hu iX15 tyX15 tyX15_ok nmX15 hown hK hP hD hS 0 rfl rfl 3 (by decide) (hu _ u164) (fun _ h9 => h9) rfl hin rfl (by decide +kernel) rfl rfl (Nat.le_of_ble_eq_true rfl) dX15_init_34 (fun H locs hP hD hS => ?_)
  have hP : va_P (dC, dI) clx [(h0, .inr (15, [.int 0, .ref q1, .ref q2, .ref q3, .null, .null, .null, .null, .null, .null, .null, .null, .int 0, .null, .int 0, .null, .null, .null, .null, .null, .null, .null, .int 0, .null, .null, .null, .null, .null, .null, .null, .null, .null, .null, .null, .int 0, .null, .null, .null, .null, .null, .null, .null, .int 0, .null, .null, .int 0, .int 0, .null, .null, .null, .null, .null, .null, .null, .null, .null, .null, .null, .null, .null, .null, .null, .null, .null, .null, .int 0, .int 0, .null, .long 0, .long 0, .long 0, .long 0, .int 0, .null]))] H := hP
  have hD : va_D A [(h0, .inr (15, [.int 0, .ref q1, .ref q2, .ref q3, .null, .null, .null, .null, .null, .null, .null, .null, .int 0, .null, .int 0, .null, .null, .null, .null, .null, .null, .null, .int 0, .null, .null, .null, .null, .null, .null, .null, .null, .null, .null, .null, .int 0, .null, .null, .null, .null, .null, .null, .null, .int 0, .null, .null, .int 0, .int 0, .null, .null, .null, .null, .null, .null, .null, .null, .null, .null, .null, .null, .null, .null, .null, .null, .null, .null, .int 0, .int 0, .null, .long 0, .long 0, .long 0, .long 0, .int 0, .null]))] := hD
  refine lv_aload_n hx hb dX15_init_37 rfl (lv_at hl 0 rfl) ?_
  refine px_new (ci := 13) (fs := dfX13) (C := RX13) (T := TX13) (N := 3) hx hb hu iX13 tyX13 tyX13_ok hown (hu _ u161) (hu _ u77) (hu _ u78) hK hP hS rfl dfX13_ok (Nat.le_of_ble_eq_true rfl) (Nat.le_of_ble_eq_true rfl) dX15_init_38 (fun q4 H hP hq hlt hq0 hS => ?_)
  refine W.widen (k := 7) (n := 1392) (Nat.le_of_ble_eq_true rfl) (Nat.le_of_ble_eq_true rfl) ?_
  refine lv_dup hx hb dX15_init_41 rfl ?_
  refine px_initN (As := []) (rest := [.ref q4, .ref h0]) (nL := 1) (j_X13_init l) ⟨hx, hb, hml, hown, hu⟩ ⟨va_cnB 0 hu (gC u80) rfl rfl rfl hev.1.1 (hu _ u78) (by decide +kernel) ⟨(Nat.le_of_ble_eq_true rfl), (Nat.le_of_ble_eq_true rfl)⟩, rfl, hu _ u79⟩ hK hev hP hq hlt hq0 hS hA rfl hl.1 (Nat.le_of_ble_eq_true rfl) dX15_init_42 ⟨(Nat.le_of_ble_eq_true rfl), (Nat.le_of_ble_eq_true rfl)⟩ (fun H locs hP hS => ?_)
  refine W.widen (k := 8) (n := 1852) (Nat.le_of_ble_eq_true rfl) (Nat.le_of_ble_eq_true rfl) ?_
  refine va_putF (D := (dC, dI)) (ci := 15) (v := .ref q4) (ty := .object "CubicBenchModel$Num") (C := RX15) (T := TX15) (N := 74) hx hb hu iX15 tyX15 tyX15_ok nmX15 hown hK hP hD hS 0 rfl rfl 4 (by decide) (hu _ u165) (fun _ h9 => h9) rfl hin rfl (by decide +kernel) rfl rfl (Nat.le_of_ble_eq_true rfl) dX15_init_45 (fun H locs hP hD hS => ?_)
  have hP : va_P (dC, dI) clx [(h0, .inr (15, [.int 0, .ref q1, .ref q2, .ref q3, .ref q4, .null, .null, .null, .null, .null, .null, .null, .int 0, .null, .int 0, .null, .null, .null, .null, .null, .null, .null, .int 0, .null, .null, .null, .null, .null, .null, .null, .null, .null, .null, .null, .int 0, .null, .null, .null, .null, .null, .null, .null, .int 0, .null, .null, .int 0, .int 0, .null, .null, .null, .null, .null, .null, .null, .null, .null, .null, .null, .null, .null, .null, .null, .null, .null, .null, .int 0, .int 0, .null, .long 0, .long 0, .long 0, .long 0, .int 0, .null]))] H := hP
  have hD : va_D A [(h0, .inr (15, [.int 0, .ref q1, .ref q2, .ref q3, .ref q4, .null, .null, .null, .null, .null, .null, .null, .int 0, .null, .int 0, .null, .null, .null, .null, .null, .null, .null, .int 0, .null, .null, .null, .null, .null, .null, .null, .null, .null, .null, .null, .int 0, .null, .null, .null, .null, .null, .null, .null, .int 0, .null, .null, .int 0, .int 0, .null, .null, .null, .null, .null, .null, .null, .null, .null, .null, .null, .null, .null, .null, .null, .null, .null, .null, .int 0, .int 0, .null, .long 0, .long 0, .long 0, .long 0, .int 0, .null]))] := hD
  refine lv_aload_n hx hb dX15_init_48 rfl (lv_at hl 0 rfl) ?_
  refine px_new (ci := 13) (fs := dfX13) (C := RX13) (T := TX13) (N := 3) hx hb hu iX13 tyX13 tyX13_ok hown (hu _ u161) (hu _ u77) (hu _ u78) hK hP hS rfl dfX13_ok (Nat.le_of_ble_eq_true rfl) (Nat.le_of_ble_eq_true rfl) dX15_init_49 (fun q5 H hP hq hlt hq0 hS => ?_)
  refine W.widen (k := 9) (n := 1855) (Nat.le_of_ble_eq_true rfl) (Nat.le_of_ble_eq_true rfl) ?_
  refine lv_dup hx hb dX15_init_52 rfl ?_
  refine px_initN (As := []) (rest := [.ref q5, .ref h0]) (nL := 1) (j_X13_init l) ⟨hx, hb, hml, hown, hu⟩ ⟨va_cnB 0 hu (gC u80) rfl rfl rfl hev.1.1 (hu _ u78) (by decide +kernel) ⟨(Nat.le_of_ble_eq_true rfl), (Nat.le_of_ble_eq_true rfl)⟩, rfl, hu _ u79⟩ hK hev hP hq hlt hq0 hS hA rfl hl.1 (Nat.le_of_ble_eq_true rfl) dX15_init_53 ⟨(Nat.le_of_ble_eq_true rfl), (Nat.le_of_ble_eq_true rfl)⟩ (fun H locs hP hS => ?_)
  refine W.widen (k := 10) (n := 2315) (Nat.le_of_ble_eq_true rfl) (Nat.le_of_ble_eq_true rfl) ?_
  refine va_putF (D := (dC, dI)) (ci := 15) (v := .ref q5) (ty := .object "CubicBenchModel$Num") (C := RX15) (T := TX15) (N := 74) hx hb hu iX15 tyX15 tyX15_ok nmX15 hown hK hP hD hS 0 rfl rfl 5 (by decide) (hu _ u166) (fun _ h9 => h9) rfl hin rfl (by decide +kernel) rfl rfl (Nat.le_of_ble_eq_true rfl) dX15_init_56 (fun H locs hP hD hS => ?_)
  have hP : va_P (dC, dI) clx [(h0, .inr (15, [.int 0, .ref q1, .ref q2, .ref q3, .ref q4, .ref q5, .null, .null, .null, .null, .null, .null, .int 0, .null, .int 0, .null, .null, .null, .null, .null, .null, .null, .int 0, .null, .null, .null, .null, .null, .null, .null, .null, .null, .null, .null, .int 0, .null, .null, .null, .null, .null, .null, .null, .int 0, .null, .null, .int 0, .int 0, .null, .null, .null, .null, .null, .null, .null, .null, .null, .null, .null, .null, .null, .null, .null, .null, .null, .null, .int 0, .int 0, .null, .long 0, .long 0, .long 0, .long 0, .int 0, .null]))] H := hP
  have hD : va_D A [(h0, .inr (15, [.int 0, .ref q1, .ref q2, .ref q3, .ref q4, .ref q5, .null, .null, .null, .null, .null, .null, .int 0, .null, .int 0, .null, .null, .null, .null, .null, .null, .null, .int 0, .null, .null, .null, .null, .null, .null, .null, .null, .null, .null, .null, .int 0, .null, .null, .null, .null, .null, .null, .null, .int 0, .null, .null, .int 0, .int 0, .null, .null, .null, .null, .null, .null, .null, .null, .null, .null, .null, .null, .null, .null, .null, .null, .null, .null, .int 0, .int 0, .null, .long 0, .long 0, .long 0, .long 0, .int 0, .null]))] := hD
  refine lv_aload_n hx hb dX15_init_59 rfl (lv_at hl 0 rfl) ?_
  refine px_new (ci := 13) (fs := dfX13) (C := RX13) (T := TX13) (N := 3) hx hb hu iX13 tyX13 tyX13_ok hown (hu _ u161) (hu _ u77) (hu _ u78) hK hP hS rfl dfX13_ok (Nat.le_of_ble_eq_true rfl) (Nat.le_of_ble_eq_true rfl) dX15_init_60 (fun q6 H hP hq hlt hq0 hS => ?_)
  refine W.widen (k := 11) (n := 2318) (Nat.le_of_ble_eq_true rfl) (Nat.le_of_ble_eq_true rfl) ?_
  refine lv_dup hx hb dX15_init_63 rfl ?_
  refine px_initN (As := []) (rest := [.ref q6, .ref h0]) (nL := 1) (j_X13_init l) ⟨hx, hb, hml, hown, hu⟩ ⟨va_cnB 0 hu (gC u80) rfl rfl rfl hev.1.1 (hu _ u78) (by decide +kernel) ⟨(Nat.le_of_ble_eq_true rfl), (Nat.le_of_ble_eq_true rfl)⟩, rfl, hu _ u79⟩ hK hev hP hq hlt hq0 hS hA rfl hl.1 (Nat.le_of_ble_eq_true rfl) dX15_init_64 ⟨(Nat.le_of_ble_eq_true rfl), (Nat.le_of_ble_eq_true rfl)⟩ (fun H locs hP hS => ?_)
  refine W.widen (k := 12) (n := 2778) (Nat.le_of_ble_eq_true rfl) (Nat.le_of_ble_eq_true rfl) ?_
  refine va_putF (D := (dC, dI)) (ci := 15) (v := .ref q6) (ty := .object "CubicBenchModel$Num") (C := RX15) (T := TX15) (N := 74) hx hb hu iX15 tyX15 tyX15_ok nmX15 hown hK hP hD hS 0 rfl rfl 6 (by decide) (hu _ u167) (fun _ h9 => h9) rfl hin rfl (by decide +kernel) rfl rfl (Nat.le_of_ble_eq_true rfl) dX15_init_67 (fun H locs hP hD hS => ?_)
  have hP : va_P (dC, dI) clx [(h0, .inr (15, [.int 0, .ref q1, .ref q2, .ref q3, .ref q4, .ref q5, .ref q6, .null, .null, .null, .null, .null, .int 0, .null, .int 0, .null, .null, .null, .null, .null, .null, .null, .int 0, .null, .null, .null, .null, .null, .null, .null, .null, .null, .null, .null, .int 0, .null, .null, .null, .null, .null, .null, .null, .int 0, .null, .null, .int 0, .int 0, .null, .null, .null, .null, .null, .null, .null, .null, .null, .null, .null, .null, .null, .null, .null, .null, .null, .null, .int 0, .int 0, .null, .long 0, .long 0, .long 0, .long 0, .int 0, .null]))] H := hP
  have hD : va_D A [(h0, .inr (15, [.int 0, .ref q1, .ref q2, .ref q3, .ref q4, .ref q5, .ref q6, .null, .null, .null, .null, .null, .int 0, .null, .int 0, .null, .null, .null, .null, .null, .null, .null, .int 0, .null, .null, .null, .null, .null, .null, .null, .null, .null, .null, .null, .int 0, .null, .null, .null, .null, .null, .null, .null, .int 0, .null, .null, .int 0, .int 0, .null, .null, .null, .null, .null, .null, .null, .null, .null, .null, .null, .null, .null, .null, .null, .null, .null, .null, .int 0, .int 0, .null, .long 0, .long 0, .long 0, .long 0, .int 0, .null]))] := hD
  refine lv_aload_n hx hb dX15_init_70 rfl (lv_at hl 0 rfl) ?_
  refine px_new (ci := 13) (fs := dfX13) (C := RX13) (T := TX13) (N := 3) hx hb hu iX13 tyX13 tyX13_ok hown (hu _ u161) (hu _ u77) (hu _ u78) hK hP hS rfl dfX13_ok (Nat.le_of_ble_eq_true rfl) (Nat.le_of_ble_eq_true rfl) dX15_init_71 (fun q7 H hP hq hlt hq0 hS => ?_)
  refine W.widen (k := 13) (n := 2781) (Nat.le_of_ble_eq_true rfl) (Nat.le_of_ble_eq_true rfl) ?_
  refine lv_dup hx hb dX15_init_74 rfl ?_
  refine px_initN (As := []) (rest := [.ref q7, .ref h0]) (nL := 1) (j_X13_init l) ⟨hx, hb, hml, hown, hu⟩ ⟨va_cnB 0 hu (gC u80) rfl rfl rfl hev.1.1 (hu _ u78) (by decide +kernel) ⟨(Nat.le_of_ble_eq_true rfl), (Nat.le_of_ble_eq_true rfl)⟩, rfl, hu _ u79⟩ hK hev hP hq hlt hq0 hS hA rfl hl.1 (Nat.le_of_ble_eq_true rfl) dX15_init_75 ⟨(Nat.le_of_ble_eq_true rfl), (Nat.le_of_ble_eq_true rfl)⟩ (fun H locs hP hS => ?_)
  refine W.widen (k := 14) (n := 3241) (Nat.le_of_ble_eq_true rfl) (Nat.le_of_ble_eq_true rfl) ?_
  refine va_putF (D := (dC, dI)) (ci := 15) (v := .ref q7) (ty := .object "CubicBenchModel$Num") (C := RX15) (T := TX15) (N := 74) hx hb hu iX15 tyX15 tyX15_ok nmX15 hown hK hP hD hS 0 rfl rfl 7 (by decide) (hu _ u168) (fun _ h9 => h9) rfl hin rfl (by decide +kernel) rfl rfl (Nat.le_of_ble_eq_true rfl) dX15_init_78 (fun H locs hP hD hS => ?_)
  have hP : va_P (dC, dI) clx [(h0, .inr (15, [.int 0, .ref q1, .ref q2, .ref q3, .ref q4, .ref q5, .ref q6, .ref q7, .null, .null, .null, .null, .int 0, .null, .int 0, .null, .null, .null, .null, .null, .null, .null, .int 0, .null, .null, .null, .null, .null, .null, .null, .null, .null, .null, .null, .int 0, .null, .null, .null, .null, .null, .null, .null, .int 0, .null, .null, .int 0, .int 0, .null, .null, .null, .null, .null, .null, .null, .null, .null, .null, .null, .null, .null, .null, .null, .null, .null, .null, .int 0, .int 0, .null, .long 0, .long 0, .long 0, .long 0, .int 0, .null]))] H := hP
  have hD : va_D A [(h0, .inr (15, [.int 0, .ref q1, .ref q2, .ref q3, .ref q4, .ref q5, .ref q6, .ref q7, .null, .null, .null, .null, .int 0, .null, .int 0, .null, .null, .null, .null, .null, .null, .null, .int 0, .null, .null, .null, .null, .null, .null, .null, .null, .null, .null, .null, .int 0, .null, .null, .null, .null, .null, .null, .null, .int 0, .null, .null, .int 0, .int 0, .null, .null, .null, .null, .null, .null, .null, .null, .null, .null, .null, .null, .null, .null, .null, .null, .null, .null, .int 0, .int 0, .null, .long 0, .long 0, .long 0, .long 0, .int 0, .null]))] := hD
  refine lv_aload_n hx hb dX15_init_81 rfl (lv_at hl 0 rfl) ?_
  refine lv_bipush (v := 40) hx hb dX15_init_82 (by decide) ?_
  refine va_newa (atype := .long) (a0 := (40, .inr (.inl (fun _ => 0)))) (ty := .long) (N' := 40) hx hb (hu _ u19) rfl hK hP hD hS hA (fun _ => rfl) (by decide) (by decide) (by decide) (Nat.le_of_ble_eq_true rfl) (Nat.le_of_ble_eq_true rfl) dX15_init_84 (fun q8 cy9 H hK hP hD hS => ?_)
  have hP : va_P (dC, dI) clx [(h0, .inr (15, [.int 0, .ref q1, .ref q2, .ref q3, .ref q4, .ref q5, .ref q6, .ref q7, .null, .null, .null, .null, .int 0, .null, .int 0, .null, .null, .null, .null, .null, .null, .null, .int 0, .null, .null, .null, .null, .null, .null, .null, .null, .null, .null, .null, .int 0, .null, .null, .null, .null, .null, .null, .null, .int 0, .null, .null, .int 0, .int 0, .null, .null, .null, .null, .null, .null, .null, .null, .null, .null, .null, .null, .null, .null, .null, .null, .null, .null, .int 0, .int 0, .null, .long 0, .long 0, .long 0, .long 0, .int 0, .null])), (q8, .inl (cy9, 40, .inr (.inl (fun _ => 0))))] H := hP
  have hD : va_D A [(h0, .inr (15, [.int 0, .ref q1, .ref q2, .ref q3, .ref q4, .ref q5, .ref q6, .ref q7, .null, .null, .null, .null, .int 0, .null, .int 0, .null, .null, .null, .null, .null, .null, .null, .int 0, .null, .null, .null, .null, .null, .null, .null, .null, .null, .null, .null, .int 0, .null, .null, .null, .null, .null, .null, .null, .int 0, .null, .null, .int 0, .int 0, .null, .null, .null, .null, .null, .null, .null, .null, .null, .null, .null, .null, .null, .null, .null, .null, .null, .null, .int 0, .int 0, .null, .long 0, .long 0, .long 0, .long 0, .int 0, .null])), (q8, .inl (cy9, 40, .inr (.inl (fun _ => 0))))] := hD
  have hK : va_K (dC, dI) clx [(cy9, .long)] s := hK
  refine W.widen (k := 15) (n := 3281) (Nat.le_of_ble_eq_true rfl) (Nat.le_of_ble_eq_true rfl) ?_
  refine va_putF (D := (dC, dI)) (ci := 15) (v := .ref q8) (ty := .array .long) (C := RX15) (T := TX15) (N := 74) hx hb hu iX15 tyX15 tyX15_ok nmX15 hown hK hP hD hS 0 rfl rfl 8 (by decide) (hu _ u169) (fun _ h9 => h9) rfl hin rfl (by decide +kernel) rfl rfl (Nat.le_of_ble_eq_true rfl) dX15_init_86 (fun H locs hP hD hS => ?_)
  have hP : va_P (dC, dI) clx [(h0, .inr (15, [.int 0, .ref q1, .ref q2, .ref q3, .ref q4, .ref q5, .ref q6, .ref q7, .ref q8, .null, .null, .null, .int 0, .null, .int 0, .null, .null, .null, .null, .null, .null, .null, .int 0, .null, .null, .null, .null, .null, .null, .null, .null, .null, .null, .null, .int 0, .null, .null, .null, .null, .null, .null, .null, .int 0, .null, .null, .int 0, .int 0, .null, .null, .null, .null, .null, .null, .null, .null, .null, .null, .null, .null, .null, .null, .null, .null, .null, .null, .int 0, .int 0, .null, .long 0, .long 0, .long 0, .long 0, .int 0, .null])), (q8, .inl (cy9, 40, .inr (.inl (fun _ => 0))))] H := hP
  have hD : va_D A [(h0, .inr (15, [.int 0, .ref q1, .ref q2, .ref q3, .ref q4, .ref q5, .ref q6, .ref q7, .ref q8, .null, .null, .null, .int 0, .null, .int 0, .null, .null, .null, .null, .null, .null, .null, .int 0, .null, .null, .null, .null, .null, .null, .null, .null, .null, .null, .null, .int 0, .null, .null, .null, .null, .null, .null, .null, .int 0, .null, .null, .int 0, .int 0, .null, .null, .null, .null, .null, .null, .null, .null, .null, .null, .null, .null, .null, .null, .null, .null, .null, .null, .int 0, .int 0, .null, .long 0, .long 0, .long 0, .long 0, .int 0, .null])), (q8, .inl (cy9, 40, .inr (.inl (fun _ => 0))))] := hD
  refine lv_aload_n hx hb dX15_init_89 rfl (lv_at hl 0 rfl) ?_
  refine lv_bipush (v := 40) hx hb dX15_init_90 (by decide) ?_
  refine va_newa (atype := .long) (a0 := (40, .inr (.inl (fun _ => 0)))) (ty := .long) (N' := 40) hx hb (hu _ u19) rfl hK hP hD hS hA (fun _ => rfl) (by decide) (by decide) (by decide) (Nat.le_of_ble_eq_true rfl) (Nat.le_of_ble_eq_true rfl) dX15_init_92 (fun q10 cy11 H hK hP hD hS => ?_)
  have hP : va_P (dC, dI) clx [(h0, .inr (15, [.int 0, .ref q1, .ref q2, .ref q3, .ref q4, .ref q5, .ref q6, .ref q7, .ref q8, .null, .null, .null, .int 0, .null, .int 0, .null, .null, .null, .null, .null, .null, .null, .int 0, .null, .null, .null, .null, .null, .null, .null, .null, .null, .null, .null, .int 0, .null, .null, .null, .null, .null, .null, .null, .int 0, .null, .null, .int 0, .int 0, .null, .null, .null, .null, .null, .null, .null, .null, .null, .null, .null, .null, .null, .null, .null, .null, .null, .null, .int 0, .int 0, .null, .long 0, .long 0, .long 0, .long 0, .int 0, .null])), (q8, .inl (cy9, 40, .inr (.inl (fun _ => 0)))), (q10, .inl (cy11, 40, .inr (.inl (fun _ => 0))))] H := hP
  have hD : va_D A [(h0, .inr (15, [.int 0, .ref q1, .ref q2, .ref q3, .ref q4, .ref q5, .ref q6, .ref q7, .ref q8, .null, .null, .null, .int 0, .null, .int 0, .null, .null, .null, .null, .null, .null, .null, .int 0, .null, .null, .null, .null, .null, .null, .null, .null, .null, .null, .null, .int 0, .null, .null, .null, .null, .null, .null, .null, .int 0, .null, .null, .int 0, .int 0, .null, .null, .null, .null, .null, .null, .null, .null, .null, .null, .null, .null, .null, .null, .null, .null, .null, .null, .int 0, .int 0, .null, .long 0, .long 0, .long 0, .long 0, .int 0, .null])), (q8, .inl (cy9, 40, .inr (.inl (fun _ => 0)))), (q10, .inl (cy11, 40, .inr (.inl (fun _ => 0))))] := hD
  have hK : va_K (dC, dI) clx [(cy9, .long), (cy11, .long)] s := hK
  refine W.widen (k := 16) (n := 3321) (Nat.le_of_ble_eq_true rfl) (Nat.le_of_ble_eq_true rfl) ?_
  refine va_putF (D := (dC, dI)) (ci := 15) (v := .ref q10) (ty := .array .long) (C := RX15) (T := TX15) (N := 74) hx hb hu iX15 tyX15 tyX15_ok nmX15 hown hK hP hD hS 0 rfl rfl 9 (by decide) (hu _ u170) (fun _ h9 => h9) rfl hin rfl (by decide +kernel) rfl rfl (Nat.le_of_ble_eq_true rfl) dX15_init_94 (fun H locs hP hD hS => ?_)
  have hP : va_P (dC, dI) clx [(h0, .inr (15, [.int 0, .ref q1, .ref q2, .ref q3, .ref q4, .ref q5, .ref q6, .ref q7, .ref q8, .ref q10, .null, .null, .int 0, .null, .int 0, .null, .null, .null, .null, .null, .null, .null, .int 0, .null, .null, .null, .null, .null, .null, .null, .null, .null, .null, .null, .int 0, .null, .null, .null, .null, .null, .null, .null, .int 0, .null, .null, .int 0, .int 0, .null, .null, .null, .null, .null, .null, .null, .null, .null, .null, .null, .null, .null, .null, .null, .null, .null, .null, .int 0, .int 0, .null, .long 0, .long 0, .long 0, .long 0, .int 0, .null])), (q8, .inl (cy9, 40, .inr (.inl (fun _ => 0)))), (q10, .inl (cy11, 40, .inr (.inl (fun _ => 0))))] H := hP
  have hD : va_D A [(h0, .inr (15, [.int 0, .ref q1, .ref q2, .ref q3, .ref q4, .ref q5, .ref q6, .ref q7, .ref q8, .ref q10, .null, .null, .int 0, .null, .int 0, .null, .null, .null, .null, .null, .null, .null, .int 0, .null, .null, .null, .null, .null, .null, .null, .null, .null, .null, .null, .int 0, .null, .null, .null, .null, .null, .null, .null, .int 0, .null, .null, .int 0, .int 0, .null, .null, .null, .null, .null, .null, .null, .null, .null, .null, .null, .null, .null, .null, .null, .null, .null, .null, .int 0, .int 0, .null, .long 0, .long 0, .long 0, .long 0, .int 0, .null])), (q8, .inl (cy9, 40, .inr (.inl (fun _ => 0)))), (q10, .inl (cy11, 40, .inr (.inl (fun _ => 0))))] := hD
  refine lv_aload_n hx hb dX15_init_97 rfl (lv_at hl 0 rfl) ?_
  refine lv_bipush (v := 40) hx hb dX15_init_98 (by decide) ?_
  refine va_newa (atype := .int) (a0 := (40, .inl (fun _ => 0))) (ty := .int) (N' := 40) hx hb (hu _ u3) rfl hK hP hD hS hA (fun _ => rfl) (by decide) (by decide) (by decide) (Nat.le_of_ble_eq_true rfl) (Nat.le_of_ble_eq_true rfl) dX15_init_100 (fun q12 cy13 H hK hP hD hS => ?_)
  have hP : va_P (dC, dI) clx [(h0, .inr (15, [.int 0, .ref q1, .ref q2, .ref q3, .ref q4, .ref q5, .ref q6, .ref q7, .ref q8, .ref q10, .null, .null, .int 0, .null, .int 0, .null, .null, .null, .null, .null, .null, .null, .int 0, .null, .null, .null, .null, .null, .null, .null, .null, .null, .null, .null, .int 0, .null, .null, .null, .null, .null, .null, .null, .int 0, .null, .null, .int 0, .int 0, .null, .null, .null, .null, .null, .null, .null, .null, .null, .null, .null, .null, .null, .null, .null, .null, .null, .null, .int 0, .int 0, .null, .long 0, .long 0, .long 0, .long 0, .int 0, .null])), (q8, .inl (cy9, 40, .inr (.inl (fun _ => 0)))), (q10, .inl (cy11, 40, .inr (.inl (fun _ => 0)))), (q12, .inl (cy13, 40, .inl (fun _ => 0)))] H := hP
  have hD : va_D A [(h0, .inr (15, [.int 0, .ref q1, .ref q2, .ref q3, .ref q4, .ref q5, .ref q6, .ref q7, .ref q8, .ref q10, .null, .null, .int 0, .null, .int 0, .null, .null, .null, .null, .null, .null, .null, .int 0, .null, .null, .null, .null, .null, .null, .null, .null, .null, .null, .null, .int 0, .null, .null, .null, .null, .null, .null, .null, .int 0, .null, .null, .int 0, .int 0, .null, .null, .null, .null, .null, .null, .null, .null, .null, .null, .null, .null, .null, .null, .null, .null, .null, .null, .int 0, .int 0, .null, .long 0, .long 0, .long 0, .long 0, .int 0, .null])), (q8, .inl (cy9, 40, .inr (.inl (fun _ => 0)))), (q10, .inl (cy11, 40, .inr (.inl (fun _ => 0)))), (q12, .inl (cy13, 40, .inl (fun _ => 0)))] := hD
  have hK : va_K (dC, dI) clx [(cy9, .long), (cy11, .long), (cy13, .int)] s := hK
  refine W.widen (k := 17) (n := 3361) (Nat.le_of_ble_eq_true rfl) (Nat.le_of_ble_eq_true rfl) ?_
  refine va_putF (D := (dC, dI)) (ci := 15) (v := .ref q12) (ty := .array .int) (C := RX15) (T := TX15) (N := 74) hx hb hu iX15 tyX15 tyX15_ok nmX15 hown hK hP hD hS 0 rfl rfl 10 (by decide) (hu _ u171) (fun _ h9 => h9) rfl hin rfl (by decide +kernel) rfl rfl (Nat.le_of_ble_eq_true rfl) dX15_init_102 (fun H locs hP hD hS => ?_)
  have hP : va_P (dC, dI) clx [(h0, .inr (15, [.int 0, .ref q1, .ref q2, .ref q3, .ref q4, .ref q5, .ref q6, .ref q7, .ref q8, .ref q10, .ref q12, .null, .int 0, .null, .int 0, .null, .null, .null, .null, .null, .null, .null, .int 0, .null, .null, .null, .null, .null, .null, .null, .null, .null, .null, .null, .int 0, .null, .null, .null, .null, .null, .null, .null, .int 0, .null, .null, .int 0, .int 0, .null, .null, .null, .null, .null, .null, .null, .null, .null, .null, .null, .null, .null, .null, .null, .null, .null, .null, .int 0, .int 0, .null, .long 0, .long 0, .long 0, .long 0, .int 0, .null])), (q8, .inl (cy9, 40, .inr (.inl (fun _ => 0)))), (q10, .inl (cy11, 40, .inr (.inl (fun _ => 0)))), (q12, .inl (cy13, 40, .inl (fun _ => 0)))] H := hP
  have hD : va_D A [(h0, .inr (15, [.int 0, .ref q1, .ref q2, .ref q3, .ref q4, .ref q5, .ref q6, .ref q7, .ref q8, .ref q10, .ref q12, .null, .int 0, .null, .int 0, .null, .null, .null, .null, .null, .null, .null, .int 0, .null, .null, .null, .null, .null, .null, .null, .null, .null, .null, .null, .int 0, .null, .null, .null, .null, .null, .null, .null, .int 0, .null, .null, .int 0, .int 0, .null, .null, .null, .null, .null, .null, .null, .null, .null, .null, .null, .null, .null, .null, .null, .null, .null, .null, .int 0, .int 0, .null, .long 0, .long 0, .long 0, .long 0, .int 0, .null])), (q8, .inl (cy9, 40, .inr (.inl (fun _ => 0)))), (q10, .inl (cy11, 40, .inr (.inl (fun _ => 0)))), (q12, .inl (cy13, 40, .inl (fun _ => 0)))] := hD
  refine lv_aload_n hx hb dX15_init_105 rfl (lv_at hl 0 rfl) ?_
  refine lv_bipush (v := 40) hx hb dX15_init_106 (by decide) ?_
  refine va_newa (atype := .int) (a0 := (40, .inl (fun _ => 0))) (ty := .int) (N' := 40) hx hb (hu _ u3) rfl hK hP hD hS hA (fun _ => rfl) (by decide) (by decide) (by decide) (Nat.le_of_ble_eq_true rfl) (Nat.le_of_ble_eq_true rfl) dX15_init_108 (fun q14 cy15 H hK hP hD hS => ?_)
  have hP : va_P (dC, dI) clx [(h0, .inr (15, [.int 0, .ref q1, .ref q2, .ref q3, .ref q4, .ref q5, .ref q6, .ref q7, .ref q8, .ref q10, .ref q12, .null, .int 0, .null, .int 0, .null, .null, .null, .null, .null, .null, .null, .int 0, .null, .null, .null, .null, .null, .null, .null, .null, .null, .null, .null, .int 0, .null, .null, .null, .null, .null, .null, .null, .int 0, .null, .null, .int 0, .int 0, .null, .null, .null, .null, .null, .null, .null, .null, .null, .null, .null, .null, .null, .null, .null, .null, .null, .null, .int 0, .int 0, .null, .long 0, .long 0, .long 0, .long 0, .int 0, .null])), (q8, .inl (cy9, 40, .inr (.inl (fun _ => 0)))), (q10, .inl (cy11, 40, .inr (.inl (fun _ => 0)))), (q12, .inl (cy13, 40, .inl (fun _ => 0))), (q14, .inl (cy15, 40, .inl (fun _ => 0)))] H := hP
  have hD : va_D A [(h0, .inr (15, [.int 0, .ref q1, .ref q2, .ref q3, .ref q4, .ref q5, .ref q6, .ref q7, .ref q8, .ref q10, .ref q12, .null, .int 0, .null, .int 0, .null, .null, .null, .null, .null, .null, .null, .int 0, .null, .null, .null, .null, .null, .null, .null, .null, .null, .null, .null, .int 0, .null, .null, .null, .null, .null, .null, .null, .int 0, .null, .null, .int 0, .int 0, .null, .null, .null, .null, .null, .null, .null, .null, .null, .null, .null, .null, .null, .null, .null, .null, .null, .null, .int 0, .int 0, .null, .long 0, .long 0, .long 0, .long 0, .int 0, .null])), (q8, .inl (cy9, 40, .inr (.inl (fun _ => 0)))), (q10, .inl (cy11, 40, .inr (.inl (fun _ => 0)))), (q12, .inl (cy13, 40, .inl (fun _ => 0))), (q14, .inl (cy15, 40, .inl (fun _ => 0)))] := hD
  have hK : va_K (dC, dI) clx [(cy9, .long), (cy11, .long), (cy13, .int), (cy15, .int)] s := hK
  refine W.widen (k := 18) (n := 3401) (Nat.le_of_ble_eq_true rfl) (Nat.le_of_ble_eq_true rfl) ?_
  refine va_putF (D := (dC, dI)) (ci := 15) (v := .ref q14) (ty := .array .int) (C := RX15) (T := TX15) (N := 74) hx hb hu iX15 tyX15 tyX15_ok nmX15 hown hK hP hD hS 0 rfl rfl 11 (by decide) (hu _ u172) (fun _ h9 => h9) rfl hin rfl (by decide +kernel) rfl rfl (Nat.le_of_ble_eq_true rfl) dX15_init_110 (fun H locs hP hD hS => ?_)
  have hP : va_P (dC, dI) clx [(h0, .inr (15, [.int 0, .ref q1, .ref q2, .ref q3, .ref q4, .ref q5, .ref q6, .ref q7, .ref q8, .ref q10, .ref q12, .ref q14, .int 0, .null, .int 0, .null, .null, .null, .null, .null, .null, .null, .int 0, .null, .null, .null, .null, .null, .null, .null, .null, .null, .null, .null, .int 0, .null, .null, .null, .null, .null, .null, .null, .int 0, .null, .null, .int 0, .int 0, .null, .null, .null, .null, .null, .null, .null, .null, .null, .null, .null, .null, .null, .null, .null, .null, .null, .null, .int 0, .int 0, .null, .long 0, .long 0, .long 0, .long 0, .int 0, .null])), (q8, .inl (cy9, 40, .inr (.inl (fun _ => 0)))), (q10, .inl (cy11, 40, .inr (.inl (fun _ => 0)))), (q12, .inl (cy13, 40, .inl (fun _ => 0))), (q14, .inl (cy15, 40, .inl (fun _ => 0)))] H := hP
  have hD : va_D A [(h0, .inr (15, [.int 0, .ref q1, .ref q2, .ref q3, .ref q4, .ref q5, .ref q6, .ref q7, .ref q8, .ref q10, .ref q12, .ref q14, .int 0, .null, .int 0, .null, .null, .null, .null, .null, .null, .null, .int 0, .null, .null, .null, .null, .null, .null, .null, .null, .null, .null, .null, .int 0, .null, .null, .null, .null, .null, .null, .null, .int 0, .null, .null, .int 0, .int 0, .null, .null, .null, .null, .null, .null, .null, .null, .null, .null, .null, .null, .null, .null, .null, .null, .null, .null, .int 0, .int 0, .null, .long 0, .long 0, .long 0, .long 0, .int 0, .null])), (q8, .inl (cy9, 40, .inr (.inl (fun _ => 0)))), (q10, .inl (cy11, 40, .inr (.inl (fun _ => 0)))), (q12, .inl (cy13, 40, .inl (fun _ => 0))), (q14, .inl (cy15, 40, .inl (fun _ => 0)))] := hD
  refine lv_aload_n hx hb dX15_init_113 rfl (lv_at hl 0 rfl) ?_
  refine lv_iconst (v := 1) hx hb dX15_init_114 (by decide) ?_
  refine px_newaJ (atype := .boolean) hx hb (hu _ u16) hP hS 1 (by decide) (by decide) (by decide) (Nat.le_of_ble_eq_true rfl) (Nat.le_of_ble_eq_true rfl) dX15_init_115 (fun q16 H hP hS => ?_)
  refine W.widen (k := 19) (n := 3402) (Nat.le_of_ble_eq_true rfl) (Nat.le_of_ble_eq_true rfl) ?_
  refine va_put (D := (dC, dI)) (ci := 15) (v := .ref q16) (ty := .array .boolean) (C := RX15) (T := TX15) (N := 74) hx hb hu iX15 tyX15 tyX15_ok nmX15 hown hK hP hD hS 0 rfl rfl 13 (by decide) (hu _ u173) (fun _ h9 => h9) rfl (by decide +kernel) rfl rfl (Nat.le_of_ble_eq_true rfl) dX15_init_117 (fun H locs hP hD hS => ?_)
  have hP : va_P (dC, dI) clx [(h0, .inr (15, [.int 0, .ref q1, .ref q2, .ref q3, .ref q4, .ref q5, .ref q6, .ref q7, .ref q8, .ref q10, .ref q12, .ref q14, .int 0, .ref q16, .int 0, .null, .null, .null, .null, .null, .null, .null, .int 0, .null, .null, .null, .null, .null, .null, .null, .null, .null, .null, .null, .int 0, .null, .null, .null, .null, .null, .null, .null, .int 0, .null, .null, .int 0, .int 0, .null, .null, .null, .null, .null, .null, .null, .null, .null, .null, .null, .null, .null, .null, .null, .null, .null, .null, .int 0, .int 0, .null, .long 0, .long 0, .long 0, .long 0, .int 0, .null])), (q8, .inl (cy9, 40, .inr (.inl (fun _ => 0)))), (q10, .inl (cy11, 40, .inr (.inl (fun _ => 0)))), (q12, .inl (cy13, 40, .inl (fun _ => 0))), (q14, .inl (cy15, 40, .inl (fun _ => 0)))] H := hP
  have hD : va_D A [(h0, .inr (15, [.int 0, .ref q1, .ref q2, .ref q3, .ref q4, .ref q5, .ref q6, .ref q7, .ref q8, .ref q10, .ref q12, .ref q14, .int 0, .ref q16, .int 0, .null, .null, .null, .null, .null, .null, .null, .int 0, .null, .null, .null, .null, .null, .null, .null, .null, .null, .null, .null, .int 0, .null, .null, .null, .null, .null, .null, .null, .int 0, .null, .null, .int 0, .int 0, .null, .null, .null, .null, .null, .null, .null, .null, .null, .null, .null, .null, .null, .null, .null, .null, .null, .null, .int 0, .int 0, .null, .long 0, .long 0, .long 0, .long 0, .int 0, .null])), (q8, .inl (cy9, 40, .inr (.inl (fun _ => 0)))), (q10, .inl (cy11, 40, .inr (.inl (fun _ => 0)))), (q12, .inl (cy13, 40, .inl (fun _ => 0))), (q14, .inl (cy15, 40, .inl (fun _ => 0)))] := hD
  refine lv_aload_n hx hb dX15_init_120 rfl (lv_at hl 0 rfl) ?_
  refine lv_sipush (v := 400) hx hb dX15_init_121 (by decide) ?_
  refine px_newaJ (atype := .int) hx hb (hu _ u3) hP hS 400 (by decide) (by decide) (by decide) (Nat.le_of_ble_eq_true rfl) (Nat.le_of_ble_eq_true rfl) dX15_init_124 (fun q17 H hP hS => ?_)
  refine W.widen (k := 20) (n := 3802) (Nat.le_of_ble_eq_true rfl) (Nat.le_of_ble_eq_true rfl) ?_
  refine va_putF (D := (dC, dI)) (ci := 15) (v := .ref q17) (ty := .array .int) (C := RX15) (T := TX15) (N := 74) hx hb hu iX15 tyX15 tyX15_ok nmX15 hown hK hP hD hS 0 rfl rfl 15 (by decide) (hu _ u174) (fun _ h9 => h9) rfl hin rfl (by decide +kernel) rfl rfl (Nat.le_of_ble_eq_true rfl) dX15_init_126 (fun H locs hP hD hS => ?_)
  have hP : va_P (dC, dI) clx [(h0, .inr (15, [.int 0, .ref q1, .ref q2, .ref q3, .ref q4, .ref q5, .ref q6, .ref q7, .ref q8, .ref q10, .ref q12, .ref q14, .int 0, .ref q16, .int 0, .ref q17, .null, .null, .null, .null, .null, .null, .int 0, .null, .null, .null, .null, .null, .null, .null, .null, .null, .null, .null, .int 0, .null, .null, .null, .null, .null, .null, .null, .int 0, .null, .null, .int 0, .int 0, .null, .null, .null, .null, .null, .null, .null, .null, .null, .null, .null, .null, .null, .null, .null, .null, .null, .null, .int 0, .int 0, .null, .long 0, .long 0, .long 0, .long 0, .int 0, .null])), (q8, .inl (cy9, 40, .inr (.inl (fun _ => 0)))), (q10, .inl (cy11, 40, .inr (.inl (fun _ => 0)))), (q12, .inl (cy13, 40, .inl (fun _ => 0))), (q14, .inl (cy15, 40, .inl (fun _ => 0)))] H := hP
  have hD : va_D A [(h0, .inr (15, [.int 0, .ref q1, .ref q2, .ref q3, .ref q4, .ref q5, .ref q6, .ref q7, .ref q8, .ref q10, .ref q12, .ref q14, .int 0, .ref q16, .int 0, .ref q17, .null, .null, .null, .null, .null, .null, .int 0, .null, .null, .null, .null, .null, .null, .null, .null, .null, .null, .null, .int 0, .null, .null, .null, .null, .null, .null, .null, .int 0, .null, .null, .int 0, .int 0, .null, .null, .null, .null, .null, .null, .null, .null, .null, .null, .null, .null, .null, .null, .null, .null, .null, .null, .int 0, .int 0, .null, .long 0, .long 0, .long 0, .long 0, .int 0, .null])), (q8, .inl (cy9, 40, .inr (.inl (fun _ => 0)))), (q10, .inl (cy11, 40, .inr (.inl (fun _ => 0)))), (q12, .inl (cy13, 40, .inl (fun _ => 0))), (q14, .inl (cy15, 40, .inl (fun _ => 0)))] := hD
  refine lv_aload_n hx hb dX15_init_129 rfl (lv_at hl 0 rfl) ?_
  refine lv_sipush (v := 400) hx hb dX15_init_130 (by decide) ?_
  refine px_newaJ (atype := .boolean) hx hb (hu _ u16) hP hS 400 (by decide) (by decide) (by decide) (Nat.le_of_ble_eq_true rfl) (Nat.le_of_ble_eq_true rfl) dX15_init_133 (fun q18 H hP hS => ?_)
  refine W.widen (k := 21) (n := 4202) (Nat.le_of_ble_eq_true rfl) (Nat.le_of_ble_eq_true rfl) ?_
  refine va_putF (D := (dC, dI)) (ci := 15) (v := .ref q18) (ty := .array .boolean) (C := RX15) (T := TX15) (N := 74) hx hb hu iX15 tyX15 tyX15_ok nmX15 hown hK hP hD hS 0 rfl rfl 16 (by decide) (hu _ u175) (fun _ h9 => h9) rfl hin rfl (by decide +kernel) rfl rfl (Nat.le_of_ble_eq_true rfl) dX15_init_135 (fun H locs hP hD hS => ?_)
  have hP : va_P (dC, dI) clx [(h0, .inr (15, [.int 0, .ref q1, .ref q2, .ref q3, .ref q4, .ref q5, .ref q6, .ref q7, .ref q8, .ref q10, .ref q12, .ref q14, .int 0, .ref q16, .int 0, .ref q17, .ref q18, .null, .null, .null, .null, .null, .int 0, .null, .null, .null, .null, .null, .null, .null, .null, .null, .null, .null, .int 0, .null, .null, .null, .null, .null, .null, .null, .int 0, .null, .null, .int 0, .int 0, .null, .null, .null, .null, .null, .null, .null, .null, .null, .null, .null, .null, .null, .null, .null, .null, .null, .null, .int 0, .int 0, .null, .long 0, .long 0, .long 0, .long 0, .int 0, .null])), (q8, .inl (cy9, 40, .inr (.inl (fun _ => 0)))), (q10, .inl (cy11, 40, .inr (.inl (fun _ => 0)))), (q12, .inl (cy13, 40, .inl (fun _ => 0))), (q14, .inl (cy15, 40, .inl (fun _ => 0)))] H := hP
  have hD : va_D A [(h0, .inr (15, [.int 0, .ref q1, .ref q2, .ref q3, .ref q4, .ref q5, .ref q6, .ref q7, .ref q8, .ref q10, .ref q12, .ref q14, .int 0, .ref q16, .int 0, .ref q17, .ref q18, .null, .null, .null, .null, .null, .int 0, .null, .null, .null, .null, .null, .null, .null, .null, .null, .null, .null, .int 0, .null, .null, .null, .null, .null, .null, .null, .int 0, .null, .null, .int 0, .int 0, .null, .null, .null, .null, .null, .null, .null, .null, .null, .null, .null, .null, .null, .null, .null, .null, .null, .null, .int 0, .int 0, .null, .long 0, .long 0, .long 0, .long 0, .int 0, .null])), (q8, .inl (cy9, 40, .inr (.inl (fun _ => 0)))), (q10, .inl (cy11, 40, .inr (.inl (fun _ => 0)))), (q12, .inl (cy13, 40, .inl (fun _ => 0))), (q14, .inl (cy15, 40, .inl (fun _ => 0)))] := hD
  refine lv_aload_n hx hb dX15_init_138 rfl (lv_at hl 0 rfl) ?_
  refine lv_sipush (v := 400) hx hb dX15_init_139 (by decide) ?_
  refine px_newaJ (atype := .int) hx hb (hu _ u3) hP hS 400 (by decide) (by decide) (by decide) (Nat.le_of_ble_eq_true rfl) (Nat.le_of_ble_eq_true rfl) dX15_init_142 (fun q19 H hP hS => ?_)
  refine W.widen (k := 22) (n := 4602) (Nat.le_of_ble_eq_true rfl) (Nat.le_of_ble_eq_true rfl) ?_
  refine va_putF (D := (dC, dI)) (ci := 15) (v := .ref q19) (ty := .array .int) (C := RX15) (T := TX15) (N := 74) hx hb hu iX15 tyX15 tyX15_ok nmX15 hown hK hP hD hS 0 rfl rfl 17 (by decide) (hu _ u176) (fun _ h9 => h9) rfl hin rfl (by decide +kernel) rfl rfl (Nat.le_of_ble_eq_true rfl) dX15_init_144 (fun H locs hP hD hS => ?_)
  have hP : va_P (dC, dI) clx [(h0, .inr (15, [.int 0, .ref q1, .ref q2, .ref q3, .ref q4, .ref q5, .ref q6, .ref q7, .ref q8, .ref q10, .ref q12, .ref q14, .int 0, .ref q16, .int 0, .ref q17, .ref q18, .ref q19, .null, .null, .null, .null, .int 0, .null, .null, .null, .null, .null, .null, .null, .null, .null, .null, .null, .int 0, .null, .null, .null, .null, .null, .null, .null, .int 0, .null, .null, .int 0, .int 0, .null, .null, .null, .null, .null, .null, .null, .null, .null, .null, .null, .null, .null, .null, .null, .null, .null, .null, .int 0, .int 0, .null, .long 0, .long 0, .long 0, .long 0, .int 0, .null])), (q8, .inl (cy9, 40, .inr (.inl (fun _ => 0)))), (q10, .inl (cy11, 40, .inr (.inl (fun _ => 0)))), (q12, .inl (cy13, 40, .inl (fun _ => 0))), (q14, .inl (cy15, 40, .inl (fun _ => 0)))] H := hP
  have hD : va_D A [(h0, .inr (15, [.int 0, .ref q1, .ref q2, .ref q3, .ref q4, .ref q5, .ref q6, .ref q7, .ref q8, .ref q10, .ref q12, .ref q14, .int 0, .ref q16, .int 0, .ref q17, .ref q18, .ref q19, .null, .null, .null, .null, .int 0, .null, .null, .null, .null, .null, .null, .null, .null, .null, .null, .null, .int 0, .null, .null, .null, .null, .null, .null, .null, .int 0, .null, .null, .int 0, .int 0, .null, .null, .null, .null, .null, .null, .null, .null, .null, .null, .null, .null, .null, .null, .null, .null, .null, .null, .int 0, .int 0, .null, .long 0, .long 0, .long 0, .long 0, .int 0, .null])), (q8, .inl (cy9, 40, .inr (.inl (fun _ => 0)))), (q10, .inl (cy11, 40, .inr (.inl (fun _ => 0)))), (q12, .inl (cy13, 40, .inl (fun _ => 0))), (q14, .inl (cy15, 40, .inl (fun _ => 0)))] := hD
  refine lv_aload_n hx hb dX15_init_147 rfl (lv_at hl 0 rfl) ?_
  refine lv_sipush (v := 400) hx hb dX15_init_148 (by decide) ?_
  refine px_newaJ (atype := .int) hx hb (hu _ u3) hP hS 400 (by decide) (by decide) (by decide) (Nat.le_of_ble_eq_true rfl) (Nat.le_of_ble_eq_true rfl) dX15_init_151 (fun q20 H hP hS => ?_)
  refine W.widen (k := 23) (n := 5002) (Nat.le_of_ble_eq_true rfl) (Nat.le_of_ble_eq_true rfl) ?_
  refine va_putF (D := (dC, dI)) (ci := 15) (v := .ref q20) (ty := .array .int) (C := RX15) (T := TX15) (N := 74) hx hb hu iX15 tyX15 tyX15_ok nmX15 hown hK hP hD hS 0 rfl rfl 18 (by decide) (hu _ u177) (fun _ h9 => h9) rfl hin rfl (by decide +kernel) rfl rfl (Nat.le_of_ble_eq_true rfl) dX15_init_153 (fun H locs hP hD hS => ?_)
  have hP : va_P (dC, dI) clx [(h0, .inr (15, [.int 0, .ref q1, .ref q2, .ref q3, .ref q4, .ref q5, .ref q6, .ref q7, .ref q8, .ref q10, .ref q12, .ref q14, .int 0, .ref q16, .int 0, .ref q17, .ref q18, .ref q19, .ref q20, .null, .null, .null, .int 0, .null, .null, .null, .null, .null, .null, .null, .null, .null, .null, .null, .int 0, .null, .null, .null, .null, .null, .null, .null, .int 0, .null, .null, .int 0, .int 0, .null, .null, .null, .null, .null, .null, .null, .null, .null, .null, .null, .null, .null, .null, .null, .null, .null, .null, .int 0, .int 0, .null, .long 0, .long 0, .long 0, .long 0, .int 0, .null])), (q8, .inl (cy9, 40, .inr (.inl (fun _ => 0)))), (q10, .inl (cy11, 40, .inr (.inl (fun _ => 0)))), (q12, .inl (cy13, 40, .inl (fun _ => 0))), (q14, .inl (cy15, 40, .inl (fun _ => 0)))] H := hP
  have hD : va_D A [(h0, .inr (15, [.int 0, .ref q1, .ref q2, .ref q3, .ref q4, .ref q5, .ref q6, .ref q7, .ref q8, .ref q10, .ref q12, .ref q14, .int 0, .ref q16, .int 0, .ref q17, .ref q18, .ref q19, .ref q20, .null, .null, .null, .int 0, .null, .null, .null, .null, .null, .null, .null, .null, .null, .null, .null, .int 0, .null, .null, .null, .null, .null, .null, .null, .int 0, .null, .null, .int 0, .int 0, .null, .null, .null, .null, .null, .null, .null, .null, .null, .null, .null, .null, .null, .null, .null, .null, .null, .null, .int 0, .int 0, .null, .long 0, .long 0, .long 0, .long 0, .int 0, .null])), (q8, .inl (cy9, 40, .inr (.inl (fun _ => 0)))), (q10, .inl (cy11, 40, .inr (.inl (fun _ => 0)))), (q12, .inl (cy13, 40, .inl (fun _ => 0))), (q14, .inl (cy15, 40, .inl (fun _ => 0)))] := hD
  refine lv_aload_n hx hb dX15_init_156 rfl (lv_at hl 0 rfl) ?_
  refine lv_ldc (v := 38400) hx hb hown (hu _ u178) dX15_init_157 ?_
  refine px_newaJ (atype := .int) hx hb (hu _ u3) hP hS 38400 (by decide) (by decide) (by decide) (Nat.le_of_ble_eq_true rfl) (Nat.le_of_ble_eq_true rfl) dX15_init_159 (fun q21 H hP hS => ?_)
  refine W.widen (k := 24) (n := 43402) (Nat.le_of_ble_eq_true rfl) (Nat.le_of_ble_eq_true rfl) ?_
  refine va_putF (D := (dC, dI)) (ci := 15) (v := .ref q21) (ty := .array .int) (C := RX15) (T := TX15) (N := 74) hx hb hu iX15 tyX15 tyX15_ok nmX15 hown hK hP hD hS 0 rfl rfl 19 (by decide) (hu _ u179) (fun _ h9 => h9) rfl hin rfl (by decide +kernel) rfl rfl (Nat.le_of_ble_eq_true rfl) dX15_init_161 (fun H locs hP hD hS => ?_)
  have hP : va_P (dC, dI) clx [(h0, .inr (15, [.int 0, .ref q1, .ref q2, .ref q3, .ref q4, .ref q5, .ref q6, .ref q7, .ref q8, .ref q10, .ref q12, .ref q14, .int 0, .ref q16, .int 0, .ref q17, .ref q18, .ref q19, .ref q20, .ref q21, .null, .null, .int 0, .null, .null, .null, .null, .null, .null, .null, .null, .null, .null, .null, .int 0, .null, .null, .null, .null, .null, .null, .null, .int 0, .null, .null, .int 0, .int 0, .null, .null, .null, .null, .null, .null, .null, .null, .null, .null, .null, .null, .null, .null, .null, .null, .null, .null, .int 0, .int 0, .null, .long 0, .long 0, .long 0, .long 0, .int 0, .null])), (q8, .inl (cy9, 40, .inr (.inl (fun _ => 0)))), (q10, .inl (cy11, 40, .inr (.inl (fun _ => 0)))), (q12, .inl (cy13, 40, .inl (fun _ => 0))), (q14, .inl (cy15, 40, .inl (fun _ => 0)))] H := hP
  have hD : va_D A [(h0, .inr (15, [.int 0, .ref q1, .ref q2, .ref q3, .ref q4, .ref q5, .ref q6, .ref q7, .ref q8, .ref q10, .ref q12, .ref q14, .int 0, .ref q16, .int 0, .ref q17, .ref q18, .ref q19, .ref q20, .ref q21, .null, .null, .int 0, .null, .null, .null, .null, .null, .null, .null, .null, .null, .null, .null, .int 0, .null, .null, .null, .null, .null, .null, .null, .int 0, .null, .null, .int 0, .int 0, .null, .null, .null, .null, .null, .null, .null, .null, .null, .null, .null, .null, .null, .null, .null, .null, .null, .null, .int 0, .int 0, .null, .long 0, .long 0, .long 0, .long 0, .int 0, .null])), (q8, .inl (cy9, 40, .inr (.inl (fun _ => 0)))), (q10, .inl (cy11, 40, .inr (.inl (fun _ => 0)))), (q12, .inl (cy13, 40, .inl (fun _ => 0))), (q14, .inl (cy15, 40, .inl (fun _ => 0)))] := hD
  refine lv_aload_n hx hb dX15_init_164 rfl (lv_at hl 0 rfl) ?_
  refine lv_sipush (v := 1600) hx hb dX15_init_165 (by decide) ?_
  refine px_newaJ (atype := .int) hx hb (hu _ u3) hP hS 1600 (by decide) (by decide) (by decide) (Nat.le_of_ble_eq_true rfl) (Nat.le_of_ble_eq_true rfl) dX15_init_168 (fun q22 H hP hS => ?_)
  refine W.widen (k := 25) (n := 45002) (Nat.le_of_ble_eq_true rfl) (Nat.le_of_ble_eq_true rfl) ?_
  refine va_putF (D := (dC, dI)) (ci := 15) (v := .ref q22) (ty := .array .int) (C := RX15) (T := TX15) (N := 74) hx hb hu iX15 tyX15 tyX15_ok nmX15 hown hK hP hD hS 0 rfl rfl 20 (by decide) (hu _ u180) (fun _ h9 => h9) rfl hin rfl (by decide +kernel) rfl rfl (Nat.le_of_ble_eq_true rfl) dX15_init_170 (fun H locs hP hD hS => ?_)
  have hP : va_P (dC, dI) clx [(h0, .inr (15, [.int 0, .ref q1, .ref q2, .ref q3, .ref q4, .ref q5, .ref q6, .ref q7, .ref q8, .ref q10, .ref q12, .ref q14, .int 0, .ref q16, .int 0, .ref q17, .ref q18, .ref q19, .ref q20, .ref q21, .ref q22, .null, .int 0, .null, .null, .null, .null, .null, .null, .null, .null, .null, .null, .null, .int 0, .null, .null, .null, .null, .null, .null, .null, .int 0, .null, .null, .int 0, .int 0, .null, .null, .null, .null, .null, .null, .null, .null, .null, .null, .null, .null, .null, .null, .null, .null, .null, .null, .int 0, .int 0, .null, .long 0, .long 0, .long 0, .long 0, .int 0, .null])), (q8, .inl (cy9, 40, .inr (.inl (fun _ => 0)))), (q10, .inl (cy11, 40, .inr (.inl (fun _ => 0)))), (q12, .inl (cy13, 40, .inl (fun _ => 0))), (q14, .inl (cy15, 40, .inl (fun _ => 0)))] H := hP
  have hD : va_D A [(h0, .inr (15, [.int 0, .ref q1, .ref q2, .ref q3, .ref q4, .ref q5, .ref q6, .ref q7, .ref q8, .ref q10, .ref q12, .ref q14, .int 0, .ref q16, .int 0, .ref q17, .ref q18, .ref q19, .ref q20, .ref q21, .ref q22, .null, .int 0, .null, .null, .null, .null, .null, .null, .null, .null, .null, .null, .null, .int 0, .null, .null, .null, .null, .null, .null, .null, .int 0, .null, .null, .int 0, .int 0, .null, .null, .null, .null, .null, .null, .null, .null, .null, .null, .null, .null, .null, .null, .null, .null, .null, .null, .int 0, .int 0, .null, .long 0, .long 0, .long 0, .long 0, .int 0, .null])), (q8, .inl (cy9, 40, .inr (.inl (fun _ => 0)))), (q10, .inl (cy11, 40, .inr (.inl (fun _ => 0)))), (q12, .inl (cy13, 40, .inl (fun _ => 0))), (q14, .inl (cy15, 40, .inl (fun _ => 0)))] := hD
  refine lv_aload_n hx hb dX15_init_173 rfl (lv_at hl 0 rfl) ?_
  refine lv_sipush (v := 1600) hx hb dX15_init_174 (by decide) ?_
  refine px_newaJ (atype := .boolean) hx hb (hu _ u16) hP hS 1600 (by decide) (by decide) (by decide) (Nat.le_of_ble_eq_true rfl) (Nat.le_of_ble_eq_true rfl) dX15_init_177 (fun q23 H hP hS => ?_)
  refine W.widen (k := 26) (n := 46602) (Nat.le_of_ble_eq_true rfl) (Nat.le_of_ble_eq_true rfl) ?_
  refine va_putF (D := (dC, dI)) (ci := 15) (v := .ref q23) (ty := .array .boolean) (C := RX15) (T := TX15) (N := 74) hx hb hu iX15 tyX15 tyX15_ok nmX15 hown hK hP hD hS 0 rfl rfl 21 (by decide) (hu _ u181) (fun _ h9 => h9) rfl hin rfl (by decide +kernel) rfl rfl (Nat.le_of_ble_eq_true rfl) dX15_init_179 (fun H locs hP hD hS => ?_)
  have hP : va_P (dC, dI) clx [(h0, .inr (15, [.int 0, .ref q1, .ref q2, .ref q3, .ref q4, .ref q5, .ref q6, .ref q7, .ref q8, .ref q10, .ref q12, .ref q14, .int 0, .ref q16, .int 0, .ref q17, .ref q18, .ref q19, .ref q20, .ref q21, .ref q22, .ref q23, .int 0, .null, .null, .null, .null, .null, .null, .null, .null, .null, .null, .null, .int 0, .null, .null, .null, .null, .null, .null, .null, .int 0, .null, .null, .int 0, .int 0, .null, .null, .null, .null, .null, .null, .null, .null, .null, .null, .null, .null, .null, .null, .null, .null, .null, .null, .int 0, .int 0, .null, .long 0, .long 0, .long 0, .long 0, .int 0, .null])), (q8, .inl (cy9, 40, .inr (.inl (fun _ => 0)))), (q10, .inl (cy11, 40, .inr (.inl (fun _ => 0)))), (q12, .inl (cy13, 40, .inl (fun _ => 0))), (q14, .inl (cy15, 40, .inl (fun _ => 0)))] H := hP
  have hD : va_D A [(h0, .inr (15, [.int 0, .ref q1, .ref q2, .ref q3, .ref q4, .ref q5, .ref q6, .ref q7, .ref q8, .ref q10, .ref q12, .ref q14, .int 0, .ref q16, .int 0, .ref q17, .ref q18, .ref q19, .ref q20, .ref q21, .ref q22, .ref q23, .int 0, .null, .null, .null, .null, .null, .null, .null, .null, .null, .null, .null, .int 0, .null, .null, .null, .null, .null, .null, .null, .int 0, .null, .null, .int 0, .int 0, .null, .null, .null, .null, .null, .null, .null, .null, .null, .null, .null, .null, .null, .null, .null, .null, .null, .null, .int 0, .int 0, .null, .long 0, .long 0, .long 0, .long 0, .int 0, .null])), (q8, .inl (cy9, 40, .inr (.inl (fun _ => 0)))), (q10, .inl (cy11, 40, .inr (.inl (fun _ => 0)))), (q12, .inl (cy13, 40, .inl (fun _ => 0))), (q14, .inl (cy15, 40, .inl (fun _ => 0)))] := hD
  refine lv_aload_n hx hb dX15_init_182 rfl (lv_at hl 0 rfl) ?_
  refine px_new (ci := 14) (fs := dfX14) (C := RX14) (T := TX14) (N := 5) hx hb hu iX14 tyX14 tyX14_ok hown (hu _ u182) (hu _ u183) (hu _ u184) hK hP hS rfl dfX14_ok (Nat.le_of_ble_eq_true rfl) (Nat.le_of_ble_eq_true rfl) dX15_init_183 (fun q24 H hP hq hlt hq0 hS => ?_)
  refine W.widen (k := 27) (n := 46607) (Nat.le_of_ble_eq_true rfl) (Nat.le_of_ble_eq_true rfl) ?_
  refine lv_dup hx hb dX15_init_186 rfl ?_
  refine px_initN (As := []) (rest := [.ref q24, .ref h0]) (nL := 1) (j_X14_init l) ⟨hx, hb, hml, hown, hu⟩ ⟨va_cnB 0 hu (gC u186) rfl rfl rfl hev.1.2.1 (hu _ u184) (by decide +kernel) ⟨(Nat.le_of_ble_eq_true rfl), (Nat.le_of_ble_eq_true rfl)⟩, rfl, hu _ u185⟩ (hK.sub [] rfl) hev hP hq hlt hq0 hS hA rfl hl.1 (Nat.le_of_ble_eq_true rfl) dX15_init_187 ⟨(Nat.le_of_ble_eq_true rfl), (Nat.le_of_ble_eq_true rfl)⟩ (fun H locs hP hS => ?_)
  refine W.widen (k := 37) (n := 48463) (Nat.le_of_ble_eq_true rfl) (Nat.le_of_ble_eq_true rfl) ?_
  refine va_putF (D := (dC, dI)) (ci := 15) (v := .ref q24) (ty := .object "CubicBenchModel$Pt") (C := RX15) (T := TX15) (N := 74) hx hb hu iX15 tyX15 tyX15_ok nmX15 hown hK hP hD hS 0 rfl rfl 23 (by decide) (hu _ u187) (fun _ h9 => h9) rfl hin rfl (by decide +kernel) rfl rfl (Nat.le_of_ble_eq_true rfl) dX15_init_190 (fun H locs hP hD hS => ?_)
  have hP : va_P (dC, dI) clx [(h0, .inr (15, [.int 0, .ref q1, .ref q2, .ref q3, .ref q4, .ref q5, .ref q6, .ref q7, .ref q8, .ref q10, .ref q12, .ref q14, .int 0, .ref q16, .int 0, .ref q17, .ref q18, .ref q19, .ref q20, .ref q21, .ref q22, .ref q23, .int 0, .ref q24, .null, .null, .null, .null, .null, .null, .null, .null, .null, .null, .int 0, .null, .null, .null, .null, .null, .null, .null, .int 0, .null, .null, .int 0, .int 0, .null, .null, .null, .null, .null, .null, .null, .null, .null, .null, .null, .null, .null, .null, .null, .null, .null, .null, .int 0, .int 0, .null, .long 0, .long 0, .long 0, .long 0, .int 0, .null])), (q8, .inl (cy9, 40, .inr (.inl (fun _ => 0)))), (q10, .inl (cy11, 40, .inr (.inl (fun _ => 0)))), (q12, .inl (cy13, 40, .inl (fun _ => 0))), (q14, .inl (cy15, 40, .inl (fun _ => 0)))] H := hP
  have hD : va_D A [(h0, .inr (15, [.int 0, .ref q1, .ref q2, .ref q3, .ref q4, .ref q5, .ref q6, .ref q7, .ref q8, .ref q10, .ref q12, .ref q14, .int 0, .ref q16, .int 0, .ref q17, .ref q18, .ref q19, .ref q20, .ref q21, .ref q22, .ref q23, .int 0, .ref q24, .null, .null, .null, .null, .null, .null, .null, .null, .null, .null, .int 0, .null, .null, .null, .null, .null, .null, .null, .int 0, .null, .null, .int 0, .int 0, .null, .null, .null, .null, .null, .null, .null, .null, .null, .null, .null, .null, .null, .null, .null, .null, .null, .null, .int 0, .int 0, .null, .long 0, .long 0, .long 0, .long 0, .int 0, .null])), (q8, .inl (cy9, 40, .inr (.inl (fun _ => 0)))), (q10, .inl (cy11, 40, .inr (.inl (fun _ => 0)))), (q12, .inl (cy13, 40, .inl (fun _ => 0))), (q14, .inl (cy15, 40, .inl (fun _ => 0)))] := hD
  refine lv_aload_n hx hb dX15_init_193 rfl (lv_at hl 0 rfl) ?_
  refine px_new (ci := 12) (fs := dfX12) (C := RX12) (T := TX12) (N := 2) hx hb hu iX12 tyX12 tyX12_ok hown (hu _ u188) (hu _ u85) (hu _ u86) hK hP hS rfl dfX12_ok (Nat.le_of_ble_eq_true rfl) (Nat.le_of_ble_eq_true rfl) dX15_init_194 (fun q25 H hP hq hlt hq0 hS => ?_)
  refine W.widen (k := 38) (n := 48465) (Nat.le_of_ble_eq_true rfl) (Nat.le_of_ble_eq_true rfl) ?_
  refine lv_dup hx hb dX15_init_197 rfl ?_
  refine px_initN (As := []) (rest := [.ref q25, .ref h0]) (nL := 1) (j_X12_init l) ⟨hx, hb, hml, hown, hu⟩ ⟨va_cnB 0 hu (gC u88) rfl rfl rfl hev.1.2.2.1 (hu _ u86) (by decide +kernel) ⟨(Nat.le_of_ble_eq_true rfl), (Nat.le_of_ble_eq_true rfl)⟩, rfl, hu _ u87⟩ (hK.sub [] rfl) hev hP hq hlt hq0 hS hA rfl hl.1 (Nat.le_of_ble_eq_true rfl) dX15_init_198 ⟨(Nat.le_of_ble_eq_true rfl), (Nat.le_of_ble_eq_true rfl)⟩ (fun H locs hP hS => ?_)
  refine W.widen (k := 42) (n := 49391) (Nat.le_of_ble_eq_true rfl) (Nat.le_of_ble_eq_true rfl) ?_
  refine va_putF (D := (dC, dI)) (ci := 15) (v := .ref q25) (ty := .object "CubicBenchModel$Frac") (C := RX15) (T := TX15) (N := 74) hx hb hu iX15 tyX15 tyX15_ok nmX15 hown hK hP hD hS 0 rfl rfl 24 (by decide) (hu _ u189) (fun _ h9 => h9) rfl hin rfl (by decide +kernel) rfl rfl (Nat.le_of_ble_eq_true rfl) dX15_init_201 (fun H locs hP hD hS => ?_)
  have hP : va_P (dC, dI) clx [(h0, .inr (15, [.int 0, .ref q1, .ref q2, .ref q3, .ref q4, .ref q5, .ref q6, .ref q7, .ref q8, .ref q10, .ref q12, .ref q14, .int 0, .ref q16, .int 0, .ref q17, .ref q18, .ref q19, .ref q20, .ref q21, .ref q22, .ref q23, .int 0, .ref q24, .ref q25, .null, .null, .null, .null, .null, .null, .null, .null, .null, .int 0, .null, .null, .null, .null, .null, .null, .null, .int 0, .null, .null, .int 0, .int 0, .null, .null, .null, .null, .null, .null, .null, .null, .null, .null, .null, .null, .null, .null, .null, .null, .null, .null, .int 0, .int 0, .null, .long 0, .long 0, .long 0, .long 0, .int 0, .null])), (q8, .inl (cy9, 40, .inr (.inl (fun _ => 0)))), (q10, .inl (cy11, 40, .inr (.inl (fun _ => 0)))), (q12, .inl (cy13, 40, .inl (fun _ => 0))), (q14, .inl (cy15, 40, .inl (fun _ => 0)))] H := hP
  have hD : va_D A [(h0, .inr (15, [.int 0, .ref q1, .ref q2, .ref q3, .ref q4, .ref q5, .ref q6, .ref q7, .ref q8, .ref q10, .ref q12, .ref q14, .int 0, .ref q16, .int 0, .ref q17, .ref q18, .ref q19, .ref q20, .ref q21, .ref q22, .ref q23, .int 0, .ref q24, .ref q25, .null, .null, .null, .null, .null, .null, .null, .null, .null, .int 0, .null, .null, .null, .null, .null, .null, .null, .int 0, .null, .null, .int 0, .int 0, .null, .null, .null, .null, .null, .null, .null, .null, .null, .null, .null, .null, .null, .null, .null, .null, .null, .null, .int 0, .int 0, .null, .long 0, .long 0, .long 0, .long 0, .int 0, .null])), (q8, .inl (cy9, 40, .inr (.inl (fun _ => 0)))), (q10, .inl (cy11, 40, .inr (.inl (fun _ => 0)))), (q12, .inl (cy13, 40, .inl (fun _ => 0))), (q14, .inl (cy15, 40, .inl (fun _ => 0)))] := hD
  refine lv_aload_n hx hb dX15_init_204 rfl (lv_at hl 0 rfl) ?_
  refine px_new (ci := 12) (fs := dfX12) (C := RX12) (T := TX12) (N := 2) hx hb hu iX12 tyX12 tyX12_ok hown (hu _ u188) (hu _ u85) (hu _ u86) hK hP hS rfl dfX12_ok (Nat.le_of_ble_eq_true rfl) (Nat.le_of_ble_eq_true rfl) dX15_init_205 (fun q26 H hP hq hlt hq0 hS => ?_)
  refine W.widen (k := 43) (n := 49393) (Nat.le_of_ble_eq_true rfl) (Nat.le_of_ble_eq_true rfl) ?_
  refine lv_dup hx hb dX15_init_208 rfl ?_
  refine px_initN (As := []) (rest := [.ref q26, .ref h0]) (nL := 1) (j_X12_init l) ⟨hx, hb, hml, hown, hu⟩ ⟨va_cnB 0 hu (gC u88) rfl rfl rfl hev.1.2.2.1 (hu _ u86) (by decide +kernel) ⟨(Nat.le_of_ble_eq_true rfl), (Nat.le_of_ble_eq_true rfl)⟩, rfl, hu _ u87⟩ (hK.sub [] rfl) hev hP hq hlt hq0 hS hA rfl hl.1 (Nat.le_of_ble_eq_true rfl) dX15_init_209 ⟨(Nat.le_of_ble_eq_true rfl), (Nat.le_of_ble_eq_true rfl)⟩ (fun H locs hP hS => ?_)
  refine W.widen (k := 47) (n := 50319) (Nat.le_of_ble_eq_true rfl) (Nat.le_of_ble_eq_true rfl) ?_
  refine va_putF (D := (dC, dI)) (ci := 15) (v := .ref q26) (ty := .object "CubicBenchModel$Frac") (C := RX15) (T := TX15) (N := 74) hx hb hu iX15 tyX15 tyX15_ok nmX15 hown hK hP hD hS 0 rfl rfl 25 (by decide) (hu _ u190) (fun _ h9 => h9) rfl hin rfl (by decide +kernel) rfl rfl (Nat.le_of_ble_eq_true rfl) dX15_init_212 (fun H locs hP hD hS => ?_)
  have hP : va_P (dC, dI) clx [(h0, .inr (15, [.int 0, .ref q1, .ref q2, .ref q3, .ref q4, .ref q5, .ref q6, .ref q7, .ref q8, .ref q10, .ref q12, .ref q14, .int 0, .ref q16, .int 0, .ref q17, .ref q18, .ref q19, .ref q20, .ref q21, .ref q22, .ref q23, .int 0, .ref q24, .ref q25, .ref q26, .null, .null, .null, .null, .null, .null, .null, .null, .int 0, .null, .null, .null, .null, .null, .null, .null, .int 0, .null, .null, .int 0, .int 0, .null, .null, .null, .null, .null, .null, .null, .null, .null, .null, .null, .null, .null, .null, .null, .null, .null, .null, .int 0, .int 0, .null, .long 0, .long 0, .long 0, .long 0, .int 0, .null])), (q8, .inl (cy9, 40, .inr (.inl (fun _ => 0)))), (q10, .inl (cy11, 40, .inr (.inl (fun _ => 0)))), (q12, .inl (cy13, 40, .inl (fun _ => 0))), (q14, .inl (cy15, 40, .inl (fun _ => 0)))] H := hP
  have hD : va_D A [(h0, .inr (15, [.int 0, .ref q1, .ref q2, .ref q3, .ref q4, .ref q5, .ref q6, .ref q7, .ref q8, .ref q10, .ref q12, .ref q14, .int 0, .ref q16, .int 0, .ref q17, .ref q18, .ref q19, .ref q20, .ref q21, .ref q22, .ref q23, .int 0, .ref q24, .ref q25, .ref q26, .null, .null, .null, .null, .null, .null, .null, .null, .int 0, .null, .null, .null, .null, .null, .null, .null, .int 0, .null, .null, .int 0, .int 0, .null, .null, .null, .null, .null, .null, .null, .null, .null, .null, .null, .null, .null, .null, .null, .null, .null, .null, .int 0, .int 0, .null, .long 0, .long 0, .long 0, .long 0, .int 0, .null])), (q8, .inl (cy9, 40, .inr (.inl (fun _ => 0)))), (q10, .inl (cy11, 40, .inr (.inl (fun _ => 0)))), (q12, .inl (cy13, 40, .inl (fun _ => 0))), (q14, .inl (cy15, 40, .inl (fun _ => 0)))] := hD
  refine lv_aload_n hx hb dX15_init_215 rfl (lv_at hl 0 rfl) ?_
  refine px_new (ci := 12) (fs := dfX12) (C := RX12) (T := TX12) (N := 2) hx hb hu iX12 tyX12 tyX12_ok hown (hu _ u188) (hu _ u85) (hu _ u86) hK hP hS rfl dfX12_ok (Nat.le_of_ble_eq_true rfl) (Nat.le_of_ble_eq_true rfl) dX15_init_216 (fun q27 H hP hq hlt hq0 hS => ?_)
  refine W.widen (k := 48) (n := 50321) (Nat.le_of_ble_eq_true rfl) (Nat.le_of_ble_eq_true rfl) ?_
  refine lv_dup hx hb dX15_init_219 rfl ?_
  refine px_initN (As := []) (rest := [.ref q27, .ref h0]) (nL := 1) (j_X12_init l) ⟨hx, hb, hml, hown, hu⟩ ⟨va_cnB 0 hu (gC u88) rfl rfl rfl hev.1.2.2.1 (hu _ u86) (by decide +kernel) ⟨(Nat.le_of_ble_eq_true rfl), (Nat.le_of_ble_eq_true rfl)⟩, rfl, hu _ u87⟩ (hK.sub [] rfl) hev hP hq hlt hq0 hS hA rfl hl.1 (Nat.le_of_ble_eq_true rfl) dX15_init_220 ⟨(Nat.le_of_ble_eq_true rfl), (Nat.le_of_ble_eq_true rfl)⟩ (fun H locs hP hS => ?_)
  refine W.widen (k := 52) (n := 51247) (Nat.le_of_ble_eq_true rfl) (Nat.le_of_ble_eq_true rfl) ?_
  refine va_putF (D := (dC, dI)) (ci := 15) (v := .ref q27) (ty := .object "CubicBenchModel$Frac") (C := RX15) (T := TX15) (N := 74) hx hb hu iX15 tyX15 tyX15_ok nmX15 hown hK hP hD hS 0 rfl rfl 26 (by decide) (hu _ u191) (fun _ h9 => h9) rfl hin rfl (by decide +kernel) rfl rfl (Nat.le_of_ble_eq_true rfl) dX15_init_223 (fun H locs hP hD hS => ?_)
  have hP : va_P (dC, dI) clx [(h0, .inr (15, [.int 0, .ref q1, .ref q2, .ref q3, .ref q4, .ref q5, .ref q6, .ref q7, .ref q8, .ref q10, .ref q12, .ref q14, .int 0, .ref q16, .int 0, .ref q17, .ref q18, .ref q19, .ref q20, .ref q21, .ref q22, .ref q23, .int 0, .ref q24, .ref q25, .ref q26, .ref q27, .null, .null, .null, .null, .null, .null, .null, .int 0, .null, .null, .null, .null, .null, .null, .null, .int 0, .null, .null, .int 0, .int 0, .null, .null, .null, .null, .null, .null, .null, .null, .null, .null, .null, .null, .null, .null, .null, .null, .null, .null, .int 0, .int 0, .null, .long 0, .long 0, .long 0, .long 0, .int 0, .null])), (q8, .inl (cy9, 40, .inr (.inl (fun _ => 0)))), (q10, .inl (cy11, 40, .inr (.inl (fun _ => 0)))), (q12, .inl (cy13, 40, .inl (fun _ => 0))), (q14, .inl (cy15, 40, .inl (fun _ => 0)))] H := hP
  have hD : va_D A [(h0, .inr (15, [.int 0, .ref q1, .ref q2, .ref q3, .ref q4, .ref q5, .ref q6, .ref q7, .ref q8, .ref q10, .ref q12, .ref q14, .int 0, .ref q16, .int 0, .ref q17, .ref q18, .ref q19, .ref q20, .ref q21, .ref q22, .ref q23, .int 0, .ref q24, .ref q25, .ref q26, .ref q27, .null, .null, .null, .null, .null, .null, .null, .int 0, .null, .null, .null, .null, .null, .null, .null, .int 0, .null, .null, .int 0, .int 0, .null, .null, .null, .null, .null, .null, .null, .null, .null, .null, .null, .null, .null, .null, .null, .null, .null, .null, .int 0, .int 0, .null, .long 0, .long 0, .long 0, .long 0, .int 0, .null])), (q8, .inl (cy9, 40, .inr (.inl (fun _ => 0)))), (q10, .inl (cy11, 40, .inr (.inl (fun _ => 0)))), (q12, .inl (cy13, 40, .inl (fun _ => 0))), (q14, .inl (cy15, 40, .inl (fun _ => 0)))] := hD
  refine lv_aload_n hx hb dX15_init_226 rfl (lv_at hl 0 rfl) ?_
  refine px_new (ci := 12) (fs := dfX12) (C := RX12) (T := TX12) (N := 2) hx hb hu iX12 tyX12 tyX12_ok hown (hu _ u188) (hu _ u85) (hu _ u86) hK hP hS rfl dfX12_ok (Nat.le_of_ble_eq_true rfl) (Nat.le_of_ble_eq_true rfl) dX15_init_227 (fun q28 H hP hq hlt hq0 hS => ?_)
  refine W.widen (k := 53) (n := 51249) (Nat.le_of_ble_eq_true rfl) (Nat.le_of_ble_eq_true rfl) ?_
  refine lv_dup hx hb dX15_init_230 rfl ?_
  refine px_initN (As := []) (rest := [.ref q28, .ref h0]) (nL := 1) (j_X12_init l) ⟨hx, hb, hml, hown, hu⟩ ⟨va_cnB 0 hu (gC u88) rfl rfl rfl hev.1.2.2.1 (hu _ u86) (by decide +kernel) ⟨(Nat.le_of_ble_eq_true rfl), (Nat.le_of_ble_eq_true rfl)⟩, rfl, hu _ u87⟩ (hK.sub [] rfl) hev hP hq hlt hq0 hS hA rfl hl.1 (Nat.le_of_ble_eq_true rfl) dX15_init_231 ⟨(Nat.le_of_ble_eq_true rfl), (Nat.le_of_ble_eq_true rfl)⟩ (fun H locs hP hS => ?_)
  refine W.widen (k := 57) (n := 52175) (Nat.le_of_ble_eq_true rfl) (Nat.le_of_ble_eq_true rfl) ?_
  refine va_putF (D := (dC, dI)) (ci := 15) (v := .ref q28) (ty := .object "CubicBenchModel$Frac") (C := RX15) (T := TX15) (N := 74) hx hb hu iX15 tyX15 tyX15_ok nmX15 hown hK hP hD hS 0 rfl rfl 27 (by decide) (hu _ u192) (fun _ h9 => h9) rfl hin rfl (by decide +kernel) rfl rfl (Nat.le_of_ble_eq_true rfl) dX15_init_234 (fun H locs hP hD hS => ?_)
  have hP : va_P (dC, dI) clx [(h0, .inr (15, [.int 0, .ref q1, .ref q2, .ref q3, .ref q4, .ref q5, .ref q6, .ref q7, .ref q8, .ref q10, .ref q12, .ref q14, .int 0, .ref q16, .int 0, .ref q17, .ref q18, .ref q19, .ref q20, .ref q21, .ref q22, .ref q23, .int 0, .ref q24, .ref q25, .ref q26, .ref q27, .ref q28, .null, .null, .null, .null, .null, .null, .int 0, .null, .null, .null, .null, .null, .null, .null, .int 0, .null, .null, .int 0, .int 0, .null, .null, .null, .null, .null, .null, .null, .null, .null, .null, .null, .null, .null, .null, .null, .null, .null, .null, .int 0, .int 0, .null, .long 0, .long 0, .long 0, .long 0, .int 0, .null])), (q8, .inl (cy9, 40, .inr (.inl (fun _ => 0)))), (q10, .inl (cy11, 40, .inr (.inl (fun _ => 0)))), (q12, .inl (cy13, 40, .inl (fun _ => 0))), (q14, .inl (cy15, 40, .inl (fun _ => 0)))] H := hP
  have hD : va_D A [(h0, .inr (15, [.int 0, .ref q1, .ref q2, .ref q3, .ref q4, .ref q5, .ref q6, .ref q7, .ref q8, .ref q10, .ref q12, .ref q14, .int 0, .ref q16, .int 0, .ref q17, .ref q18, .ref q19, .ref q20, .ref q21, .ref q22, .ref q23, .int 0, .ref q24, .ref q25, .ref q26, .ref q27, .ref q28, .null, .null, .null, .null, .null, .null, .int 0, .null, .null, .null, .null, .null, .null, .null, .int 0, .null, .null, .int 0, .int 0, .null, .null, .null, .null, .null, .null, .null, .null, .null, .null, .null, .null, .null, .null, .null, .null, .null, .null, .int 0, .int 0, .null, .long 0, .long 0, .long 0, .long 0, .int 0, .null])), (q8, .inl (cy9, 40, .inr (.inl (fun _ => 0)))), (q10, .inl (cy11, 40, .inr (.inl (fun _ => 0)))), (q12, .inl (cy13, 40, .inl (fun _ => 0))), (q14, .inl (cy15, 40, .inl (fun _ => 0)))] := hD
  refine lv_aload_n hx hb dX15_init_237 rfl (lv_at hl 0 rfl) ?_
  refine px_new (ci := 14) (fs := dfX14) (C := RX14) (T := TX14) (N := 5) hx hb hu iX14 tyX14 tyX14_ok hown (hu _ u182) (hu _ u183) (hu _ u184) hK hP hS rfl dfX14_ok (Nat.le_of_ble_eq_true rfl) (Nat.le_of_ble_eq_true rfl) dX15_init_238 (fun q29 H hP hq hlt hq0 hS => ?_)
  refine W.widen (k := 58) (n := 52180) (Nat.le_of_ble_eq_true rfl) (Nat.le_of_ble_eq_true rfl) ?_
  refine lv_dup hx hb dX15_init_241 rfl ?_
  refine px_initN (As := []) (rest := [.ref q29, .ref h0]) (nL := 1) (j_X14_init l) ⟨hx, hb, hml, hown, hu⟩ ⟨va_cnB 0 hu (gC u186) rfl rfl rfl hev.1.2.1 (hu _ u184) (by decide +kernel) ⟨(Nat.le_of_ble_eq_true rfl), (Nat.le_of_ble_eq_true rfl)⟩, rfl, hu _ u185⟩ (hK.sub [] rfl) hev hP hq hlt hq0 hS hA rfl hl.1 (Nat.le_of_ble_eq_true rfl) dX15_init_242 ⟨(Nat.le_of_ble_eq_true rfl), (Nat.le_of_ble_eq_true rfl)⟩ (fun H locs hP hS => ?_)
  refine W.widen (k := 68) (n := 54036) (Nat.le_of_ble_eq_true rfl) (Nat.le_of_ble_eq_true rfl) ?_
  refine va_putF (D := (dC, dI)) (ci := 15) (v := .ref q29) (ty := .object "CubicBenchModel$Pt") (C := RX15) (T := TX15) (N := 74) hx hb hu iX15 tyX15 tyX15_ok nmX15 hown hK hP hD hS 0 rfl rfl 28 (by decide) (hu _ u193) (fun _ h9 => h9) rfl hin rfl (by decide +kernel) rfl rfl (Nat.le_of_ble_eq_true rfl) dX15_init_245 (fun H locs hP hD hS => ?_)
  have hP : va_P (dC, dI) clx [(h0, .inr (15, [.int 0, .ref q1, .ref q2, .ref q3, .ref q4, .ref q5, .ref q6, .ref q7, .ref q8, .ref q10, .ref q12, .ref q14, .int 0, .ref q16, .int 0, .ref q17, .ref q18, .ref q19, .ref q20, .ref q21, .ref q22, .ref q23, .int 0, .ref q24, .ref q25, .ref q26, .ref q27, .ref q28, .ref q29, .null, .null, .null, .null, .null, .int 0, .null, .null, .null, .null, .null, .null, .null, .int 0, .null, .null, .int 0, .int 0, .null, .null, .null, .null, .null, .null, .null, .null, .null, .null, .null, .null, .null, .null, .null, .null, .null, .null, .int 0, .int 0, .null, .long 0, .long 0, .long 0, .long 0, .int 0, .null])), (q8, .inl (cy9, 40, .inr (.inl (fun _ => 0)))), (q10, .inl (cy11, 40, .inr (.inl (fun _ => 0)))), (q12, .inl (cy13, 40, .inl (fun _ => 0))), (q14, .inl (cy15, 40, .inl (fun _ => 0)))] H := hP
  have hD : va_D A [(h0, .inr (15, [.int 0, .ref q1, .ref q2, .ref q3, .ref q4, .ref q5, .ref q6, .ref q7, .ref q8, .ref q10, .ref q12, .ref q14, .int 0, .ref q16, .int 0, .ref q17, .ref q18, .ref q19, .ref q20, .ref q21, .ref q22, .ref q23, .int 0, .ref q24, .ref q25, .ref q26, .ref q27, .ref q28, .ref q29, .null, .null, .null, .null, .null, .int 0, .null, .null, .null, .null, .null, .null, .null, .int 0, .null, .null, .int 0, .int 0, .null, .null, .null, .null, .null, .null, .null, .null, .null, .null, .null, .null, .null, .null, .null, .null, .null, .null, .int 0, .int 0, .null, .long 0, .long 0, .long 0, .long 0, .int 0, .null])), (q8, .inl (cy9, 40, .inr (.inl (fun _ => 0)))), (q10, .inl (cy11, 40, .inr (.inl (fun _ => 0)))), (q12, .inl (cy13, 40, .inl (fun _ => 0))), (q14, .inl (cy15, 40, .inl (fun _ => 0)))] := hD
  refine lv_aload_n hx hb dX15_init_248 rfl (lv_at hl 0 rfl) ?_
  refine px_new (ci := 14) (fs := dfX14) (C := RX14) (T := TX14) (N := 5) hx hb hu iX14 tyX14 tyX14_ok hown (hu _ u182) (hu _ u183) (hu _ u184) hK hP hS rfl dfX14_ok (Nat.le_of_ble_eq_true rfl) (Nat.le_of_ble_eq_true rfl) dX15_init_249 (fun q30 H hP hq hlt hq0 hS => ?_)
  refine W.widen (k := 69) (n := 54041) (Nat.le_of_ble_eq_true rfl) (Nat.le_of_ble_eq_true rfl) ?_
  refine lv_dup hx hb dX15_init_252 rfl ?_
  refine px_initN (As := []) (rest := [.ref q30, .ref h0]) (nL := 1) (j_X14_init l) ⟨hx, hb, hml, hown, hu⟩ ⟨va_cnB 0 hu (gC u186) rfl rfl rfl hev.1.2.1 (hu _ u184) (by decide +kernel) ⟨(Nat.le_of_ble_eq_true rfl), (Nat.le_of_ble_eq_true rfl)⟩, rfl, hu _ u185⟩ (hK.sub [] rfl) hev hP hq hlt hq0 hS hA rfl hl.1 (Nat.le_of_ble_eq_true rfl) dX15_init_253 ⟨(Nat.le_of_ble_eq_true rfl), (Nat.le_of_ble_eq_true rfl)⟩ (fun H locs hP hS => ?_)
  refine W.widen (k := 79) (n := 55897) (Nat.le_of_ble_eq_true rfl) (Nat.le_of_ble_eq_true rfl) ?_
  refine va_putF (D := (dC, dI)) (ci := 15) (v := .ref q30) (ty := .object "CubicBenchModel$Pt") (C := RX15) (T := TX15) (N := 74) hx hb hu iX15 tyX15 tyX15_ok nmX15 hown hK hP hD hS 0 rfl rfl 29 (by decide) (hu _ u194) (fun _ h9 => h9) rfl hin rfl (by decide +kernel) rfl rfl (Nat.le_of_ble_eq_true rfl) dX15_init_256 (fun H locs hP hD hS => ?_)
  have hP : va_P (dC, dI) clx [(h0, .inr (15, [.int 0, .ref q1, .ref q2, .ref q3, .ref q4, .ref q5, .ref q6, .ref q7, .ref q8, .ref q10, .ref q12, .ref q14, .int 0, .ref q16, .int 0, .ref q17, .ref q18, .ref q19, .ref q20, .ref q21, .ref q22, .ref q23, .int 0, .ref q24, .ref q25, .ref q26, .ref q27, .ref q28, .ref q29, .ref q30, .null, .null, .null, .null, .int 0, .null, .null, .null, .null, .null, .null, .null, .int 0, .null, .null, .int 0, .int 0, .null, .null, .null, .null, .null, .null, .null, .null, .null, .null, .null, .null, .null, .null, .null, .null, .null, .null, .int 0, .int 0, .null, .long 0, .long 0, .long 0, .long 0, .int 0, .null])), (q8, .inl (cy9, 40, .inr (.inl (fun _ => 0)))), (q10, .inl (cy11, 40, .inr (.inl (fun _ => 0)))), (q12, .inl (cy13, 40, .inl (fun _ => 0))), (q14, .inl (cy15, 40, .inl (fun _ => 0)))] H := hP
  have hD : va_D A [(h0, .inr (15, [.int 0, .ref q1, .ref q2, .ref q3, .ref q4, .ref q5, .ref q6, .ref q7, .ref q8, .ref q10, .ref q12, .ref q14, .int 0, .ref q16, .int 0, .ref q17, .ref q18, .ref q19, .ref q20, .ref q21, .ref q22, .ref q23, .int 0, .ref q24, .ref q25, .ref q26, .ref q27, .ref q28, .ref q29, .ref q30, .null, .null, .null, .null, .int 0, .null, .null, .null, .null, .null, .null, .null, .int 0, .null, .null, .int 0, .int 0, .null, .null, .null, .null, .null, .null, .null, .null, .null, .null, .null, .null, .null, .null, .null, .null, .null, .null, .int 0, .int 0, .null, .long 0, .long 0, .long 0, .long 0, .int 0, .null])), (q8, .inl (cy9, 40, .inr (.inl (fun _ => 0)))), (q10, .inl (cy11, 40, .inr (.inl (fun _ => 0)))), (q12, .inl (cy13, 40, .inl (fun _ => 0))), (q14, .inl (cy15, 40, .inl (fun _ => 0)))] := hD
  refine lv_aload_n hx hb dX15_init_259 rfl (lv_at hl 0 rfl) ?_
  refine px_new (ci := 14) (fs := dfX14) (C := RX14) (T := TX14) (N := 5) hx hb hu iX14 tyX14 tyX14_ok hown (hu _ u182) (hu _ u183) (hu _ u184) hK hP hS rfl dfX14_ok (Nat.le_of_ble_eq_true rfl) (Nat.le_of_ble_eq_true rfl) dX15_init_260 (fun q31 H hP hq hlt hq0 hS => ?_)
  refine W.widen (k := 80) (n := 55902) (Nat.le_of_ble_eq_true rfl) (Nat.le_of_ble_eq_true rfl) ?_
  refine lv_dup hx hb dX15_init_263 rfl ?_
  refine px_initN (As := []) (rest := [.ref q31, .ref h0]) (nL := 1) (j_X14_init l) ⟨hx, hb, hml, hown, hu⟩ ⟨va_cnB 0 hu (gC u186) rfl rfl rfl hev.1.2.1 (hu _ u184) (by decide +kernel) ⟨(Nat.le_of_ble_eq_true rfl), (Nat.le_of_ble_eq_true rfl)⟩, rfl, hu _ u185⟩ (hK.sub [] rfl) hev hP hq hlt hq0 hS hA rfl hl.1 (Nat.le_of_ble_eq_true rfl) dX15_init_264 ⟨(Nat.le_of_ble_eq_true rfl), (Nat.le_of_ble_eq_true rfl)⟩ (fun H locs hP hS => ?_)
  refine W.widen (k := 90) (n := 57758) (Nat.le_of_ble_eq_true rfl) (Nat.le_of_ble_eq_true rfl) ?_
  refine va_putF (D := (dC, dI)) (ci := 15) (v := .ref q31) (ty := .object "CubicBenchModel$Pt") (C := RX15) (T := TX15) (N := 74) hx hb hu iX15 tyX15 tyX15_ok nmX15 hown hK hP hD hS 0 rfl rfl 30 (by decide) (hu _ u195) (fun _ h9 => h9) rfl hin rfl (by decide +kernel) rfl rfl (Nat.le_of_ble_eq_true rfl) dX15_init_267 (fun H locs hP hD hS => ?_)
  have hP : va_P (dC, dI) clx [(h0, .inr (15, [.int 0, .ref q1, .ref q2, .ref q3, .ref q4, .ref q5, .ref q6, .ref q7, .ref q8, .ref q10, .ref q12, .ref q14, .int 0, .ref q16, .int 0, .ref q17, .ref q18, .ref q19, .ref q20, .ref q21, .ref q22, .ref q23, .int 0, .ref q24, .ref q25, .ref q26, .ref q27, .ref q28, .ref q29, .ref q30, .ref q31, .null, .null, .null, .int 0, .null, .null, .null, .null, .null, .null, .null, .int 0, .null, .null, .int 0, .int 0, .null, .null, .null, .null, .null, .null, .null, .null, .null, .null, .null, .null, .null, .null, .null, .null, .null, .null, .int 0, .int 0, .null, .long 0, .long 0, .long 0, .long 0, .int 0, .null])), (q8, .inl (cy9, 40, .inr (.inl (fun _ => 0)))), (q10, .inl (cy11, 40, .inr (.inl (fun _ => 0)))), (q12, .inl (cy13, 40, .inl (fun _ => 0))), (q14, .inl (cy15, 40, .inl (fun _ => 0)))] H := hP
  have hD : va_D A [(h0, .inr (15, [.int 0, .ref q1, .ref q2, .ref q3, .ref q4, .ref q5, .ref q6, .ref q7, .ref q8, .ref q10, .ref q12, .ref q14, .int 0, .ref q16, .int 0, .ref q17, .ref q18, .ref q19, .ref q20, .ref q21, .ref q22, .ref q23, .int 0, .ref q24, .ref q25, .ref q26, .ref q27, .ref q28, .ref q29, .ref q30, .ref q31, .null, .null, .null, .int 0, .null, .null, .null, .null, .null, .null, .null, .int 0, .null, .null, .int 0, .int 0, .null, .null, .null, .null, .null, .null, .null, .null, .null, .null, .null, .null, .null, .null, .null, .null, .null, .null, .int 0, .int 0, .null, .long 0, .long 0, .long 0, .long 0, .int 0, .null])), (q8, .inl (cy9, 40, .inr (.inl (fun _ => 0)))), (q10, .inl (cy11, 40, .inr (.inl (fun _ => 0)))), (q12, .inl (cy13, 40, .inl (fun _ => 0))), (q14, .inl (cy15, 40, .inl (fun _ => 0)))] := hD
  refine lv_aload_n hx hb dX15_init_270 rfl (lv_at hl 0 rfl) ?_
  refine px_new (ci := 14) (fs := dfX14) (C := RX14) (T := TX14) (N := 5) hx hb hu iX14 tyX14 tyX14_ok hown (hu _ u182) (hu _ u183) (hu _ u184) hK hP hS rfl dfX14_ok (Nat.le_of_ble_eq_true rfl) (Nat.le_of_ble_eq_true rfl) dX15_init_271 (fun q32 H hP hq hlt hq0 hS => ?_)
  refine W.widen (k := 91) (n := 57763) (Nat.le_of_ble_eq_true rfl) (Nat.le_of_ble_eq_true rfl) ?_
  refine lv_dup hx hb dX15_init_274 rfl ?_
  refine px_initN (As := []) (rest := [.ref q32, .ref h0]) (nL := 1) (j_X14_init l) ⟨hx, hb, hml, hown, hu⟩ ⟨va_cnB 0 hu (gC u186) rfl rfl rfl hev.1.2.1 (hu _ u184) (by decide +kernel) ⟨(Nat.le_of_ble_eq_true rfl), (Nat.le_of_ble_eq_true rfl)⟩, rfl, hu _ u185⟩ (hK.sub [] rfl) hev hP hq hlt hq0 hS hA rfl hl.1 (Nat.le_of_ble_eq_true rfl) dX15_init_275 ⟨(Nat.le_of_ble_eq_true rfl), (Nat.le_of_ble_eq_true rfl)⟩ (fun H locs hP hS => ?_)
  refine W.widen (k := 101) (n := 59619) (Nat.le_of_ble_eq_true rfl) (Nat.le_of_ble_eq_true rfl) ?_
  refine va_putF (D := (dC, dI)) (ci := 15) (v := .ref q32) (ty := .object "CubicBenchModel$Pt") (C := RX15) (T := TX15) (N := 74) hx hb hu iX15 tyX15 tyX15_ok nmX15 hown hK hP hD hS 0 rfl rfl 31 (by decide) (hu _ u196) (fun _ h9 => h9) rfl hin rfl (by decide +kernel) rfl rfl (Nat.le_of_ble_eq_true rfl) dX15_init_278 (fun H locs hP hD hS => ?_)
  have hP : va_P (dC, dI) clx [(h0, .inr (15, [.int 0, .ref q1, .ref q2, .ref q3, .ref q4, .ref q5, .ref q6, .ref q7, .ref q8, .ref q10, .ref q12, .ref q14, .int 0, .ref q16, .int 0, .ref q17, .ref q18, .ref q19, .ref q20, .ref q21, .ref q22, .ref q23, .int 0, .ref q24, .ref q25, .ref q26, .ref q27, .ref q28, .ref q29, .ref q30, .ref q31, .ref q32, .null, .null, .int 0, .null, .null, .null, .null, .null, .null, .null, .int 0, .null, .null, .int 0, .int 0, .null, .null, .null, .null, .null, .null, .null, .null, .null, .null, .null, .null, .null, .null, .null, .null, .null, .null, .int 0, .int 0, .null, .long 0, .long 0, .long 0, .long 0, .int 0, .null])), (q8, .inl (cy9, 40, .inr (.inl (fun _ => 0)))), (q10, .inl (cy11, 40, .inr (.inl (fun _ => 0)))), (q12, .inl (cy13, 40, .inl (fun _ => 0))), (q14, .inl (cy15, 40, .inl (fun _ => 0)))] H := hP
  have hD : va_D A [(h0, .inr (15, [.int 0, .ref q1, .ref q2, .ref q3, .ref q4, .ref q5, .ref q6, .ref q7, .ref q8, .ref q10, .ref q12, .ref q14, .int 0, .ref q16, .int 0, .ref q17, .ref q18, .ref q19, .ref q20, .ref q21, .ref q22, .ref q23, .int 0, .ref q24, .ref q25, .ref q26, .ref q27, .ref q28, .ref q29, .ref q30, .ref q31, .ref q32, .null, .null, .int 0, .null, .null, .null, .null, .null, .null, .null, .int 0, .null, .null, .int 0, .int 0, .null, .null, .null, .null, .null, .null, .null, .null, .null, .null, .null, .null, .null, .null, .null, .null, .null, .null, .int 0, .int 0, .null, .long 0, .long 0, .long 0, .long 0, .int 0, .null])), (q8, .inl (cy9, 40, .inr (.inl (fun _ => 0)))), (q10, .inl (cy11, 40, .inr (.inl (fun _ => 0)))), (q12, .inl (cy13, 40, .inl (fun _ => 0))), (q14, .inl (cy15, 40, .inl (fun _ => 0)))] := hD
  refine lv_aload_n hx hb dX15_init_281 rfl (lv_at hl 0 rfl) ?_
  refine px_new (ci := 14) (fs := dfX14) (C := RX14) (T := TX14) (N := 5) hx hb hu iX14 tyX14 tyX14_ok hown (hu _ u182) (hu _ u183) (hu _ u184) hK hP hS rfl dfX14_ok (Nat.le_of_ble_eq_true rfl) (Nat.le_of_ble_eq_true rfl) dX15_init_282 (fun q33 H hP hq hlt hq0 hS => ?_)
  refine W.widen (k := 102) (n := 59624) (Nat.le_of_ble_eq_true rfl) (Nat.le_of_ble_eq_true rfl) ?_
  refine lv_dup hx hb dX15_init_285 rfl ?_
  refine px_initN (As := []) (rest := [.ref q33, .ref h0]) (nL := 1) (j_X14_init l) ⟨hx, hb, hml, hown, hu⟩ ⟨va_cnB 0 hu (gC u186) rfl rfl rfl hev.1.2.1 (hu _ u184) (by decide +kernel) ⟨(Nat.le_of_ble_eq_true rfl), (Nat.le_of_ble_eq_true rfl)⟩, rfl, hu _ u185⟩ (hK.sub [] rfl) hev hP hq hlt hq0 hS hA rfl hl.1 (Nat.le_of_ble_eq_true rfl) dX15_init_286 ⟨(Nat.le_of_ble_eq_true rfl), (Nat.le_of_ble_eq_true rfl)⟩ (fun H locs hP hS => ?_)
  refine W.widen (k := 112) (n := 61480) (Nat.le_of_ble_eq_true rfl) (Nat.le_of_ble_eq_true rfl) ?_
  refine va_putF (D := (dC, dI)) (ci := 15) (v := .ref q33) (ty := .object "CubicBenchModel$Pt") (C := RX15) (T := TX15) (N := 74) hx hb hu iX15 tyX15 tyX15_ok nmX15 hown hK hP hD hS 0 rfl rfl 32 (by decide) (hu _ u197) (fun _ h9 => h9) rfl hin rfl (by decide +kernel) rfl rfl (Nat.le_of_ble_eq_true rfl) dX15_init_289 (fun H locs hP hD hS => ?_)
  have hP : va_P (dC, dI) clx [(h0, .inr (15, [.int 0, .ref q1, .ref q2, .ref q3, .ref q4, .ref q5, .ref q6, .ref q7, .ref q8, .ref q10, .ref q12, .ref q14, .int 0, .ref q16, .int 0, .ref q17, .ref q18, .ref q19, .ref q20, .ref q21, .ref q22, .ref q23, .int 0, .ref q24, .ref q25, .ref q26, .ref q27, .ref q28, .ref q29, .ref q30, .ref q31, .ref q32, .ref q33, .null, .int 0, .null, .null, .null, .null, .null, .null, .null, .int 0, .null, .null, .int 0, .int 0, .null, .null, .null, .null, .null, .null, .null, .null, .null, .null, .null, .null, .null, .null, .null, .null, .null, .null, .int 0, .int 0, .null, .long 0, .long 0, .long 0, .long 0, .int 0, .null])), (q8, .inl (cy9, 40, .inr (.inl (fun _ => 0)))), (q10, .inl (cy11, 40, .inr (.inl (fun _ => 0)))), (q12, .inl (cy13, 40, .inl (fun _ => 0))), (q14, .inl (cy15, 40, .inl (fun _ => 0)))] H := hP
  have hD : va_D A [(h0, .inr (15, [.int 0, .ref q1, .ref q2, .ref q3, .ref q4, .ref q5, .ref q6, .ref q7, .ref q8, .ref q10, .ref q12, .ref q14, .int 0, .ref q16, .int 0, .ref q17, .ref q18, .ref q19, .ref q20, .ref q21, .ref q22, .ref q23, .int 0, .ref q24, .ref q25, .ref q26, .ref q27, .ref q28, .ref q29, .ref q30, .ref q31, .ref q32, .ref q33, .null, .int 0, .null, .null, .null, .null, .null, .null, .null, .int 0, .null, .null, .int 0, .int 0, .null, .null, .null, .null, .null, .null, .null, .null, .null, .null, .null, .null, .null, .null, .null, .null, .null, .null, .int 0, .int 0, .null, .long 0, .long 0, .long 0, .long 0, .int 0, .null])), (q8, .inl (cy9, 40, .inr (.inl (fun _ => 0)))), (q10, .inl (cy11, 40, .inr (.inl (fun _ => 0)))), (q12, .inl (cy13, 40, .inl (fun _ => 0))), (q14, .inl (cy15, 40, .inl (fun _ => 0)))] := hD
  refine lv_aload_n hx hb dX15_init_292 rfl (lv_at hl 0 rfl) ?_
  refine lv_sipush (v := 260) hx hb dX15_init_293 (by decide) ?_
  refine px_newaJ (atype := .byte) hx hb (hu _ u27) hP hS 260 (by decide) (by decide) (by decide) (Nat.le_of_ble_eq_true rfl) (Nat.le_of_ble_eq_true rfl) dX15_init_296 (fun q34 H hP hS => ?_)
  refine W.widen (k := 113) (n := 61740) (Nat.le_of_ble_eq_true rfl) (Nat.le_of_ble_eq_true rfl) ?_
  refine va_putF (D := (dC, dI)) (ci := 15) (v := .ref q34) (ty := .array .byte) (C := RX15) (T := TX15) (N := 74) hx hb hu iX15 tyX15 tyX15_ok nmX15 hown hK hP hD hS 0 rfl rfl 33 (by decide) (hu _ u198) (fun _ h9 => h9) rfl hin rfl (by decide +kernel) rfl rfl (Nat.le_of_ble_eq_true rfl) dX15_init_298 (fun H locs hP hD hS => ?_)
  have hP : va_P (dC, dI) clx [(h0, .inr (15, [.int 0, .ref q1, .ref q2, .ref q3, .ref q4, .ref q5, .ref q6, .ref q7, .ref q8, .ref q10, .ref q12, .ref q14, .int 0, .ref q16, .int 0, .ref q17, .ref q18, .ref q19, .ref q20, .ref q21, .ref q22, .ref q23, .int 0, .ref q24, .ref q25, .ref q26, .ref q27, .ref q28, .ref q29, .ref q30, .ref q31, .ref q32, .ref q33, .ref q34, .int 0, .null, .null, .null, .null, .null, .null, .null, .int 0, .null, .null, .int 0, .int 0, .null, .null, .null, .null, .null, .null, .null, .null, .null, .null, .null, .null, .null, .null, .null, .null, .null, .null, .int 0, .int 0, .null, .long 0, .long 0, .long 0, .long 0, .int 0, .null])), (q8, .inl (cy9, 40, .inr (.inl (fun _ => 0)))), (q10, .inl (cy11, 40, .inr (.inl (fun _ => 0)))), (q12, .inl (cy13, 40, .inl (fun _ => 0))), (q14, .inl (cy15, 40, .inl (fun _ => 0)))] H := hP
  have hD : va_D A [(h0, .inr (15, [.int 0, .ref q1, .ref q2, .ref q3, .ref q4, .ref q5, .ref q6, .ref q7, .ref q8, .ref q10, .ref q12, .ref q14, .int 0, .ref q16, .int 0, .ref q17, .ref q18, .ref q19, .ref q20, .ref q21, .ref q22, .ref q23, .int 0, .ref q24, .ref q25, .ref q26, .ref q27, .ref q28, .ref q29, .ref q30, .ref q31, .ref q32, .ref q33, .ref q34, .int 0, .null, .null, .null, .null, .null, .null, .null, .int 0, .null, .null, .int 0, .int 0, .null, .null, .null, .null, .null, .null, .null, .null, .null, .null, .null, .null, .null, .null, .null, .null, .null, .null, .int 0, .int 0, .null, .long 0, .long 0, .long 0, .long 0, .int 0, .null])), (q8, .inl (cy9, 40, .inr (.inl (fun _ => 0)))), (q10, .inl (cy11, 40, .inr (.inl (fun _ => 0)))), (q12, .inl (cy13, 40, .inl (fun _ => 0))), (q14, .inl (cy15, 40, .inl (fun _ => 0)))] := hD
  refine lv_aload_n hx hb dX15_init_301 rfl (lv_at hl 0 rfl) ?_
  refine lv_bipush (v := 40) hx hb dX15_init_302 (by decide) ?_
  refine va_newa (atype := .boolean) (a0 := (40, .inl (fun _ => 0))) (ty := .boolean) (N' := 40) hx hb (hu _ u16) rfl hK hP hD hS hA (fun _ => rfl) (by decide) (by decide) (by decide) (Nat.le_of_ble_eq_true rfl) (Nat.le_of_ble_eq_true rfl) dX15_init_304 (fun q35 cy36 H hK hP hD hS => ?_)
  have hP : va_P (dC, dI) clx [(h0, .inr (15, [.int 0, .ref q1, .ref q2, .ref q3, .ref q4, .ref q5, .ref q6, .ref q7, .ref q8, .ref q10, .ref q12, .ref q14, .int 0, .ref q16, .int 0, .ref q17, .ref q18, .ref q19, .ref q20, .ref q21, .ref q22, .ref q23, .int 0, .ref q24, .ref q25, .ref q26, .ref q27, .ref q28, .ref q29, .ref q30, .ref q31, .ref q32, .ref q33, .ref q34, .int 0, .null, .null, .null, .null, .null, .null, .null, .int 0, .null, .null, .int 0, .int 0, .null, .null, .null, .null, .null, .null, .null, .null, .null, .null, .null, .null, .null, .null, .null, .null, .null, .null, .int 0, .int 0, .null, .long 0, .long 0, .long 0, .long 0, .int 0, .null])), (q8, .inl (cy9, 40, .inr (.inl (fun _ => 0)))), (q10, .inl (cy11, 40, .inr (.inl (fun _ => 0)))), (q12, .inl (cy13, 40, .inl (fun _ => 0))), (q14, .inl (cy15, 40, .inl (fun _ => 0))), (q35, .inl (cy36, 40, .inl (fun _ => 0)))] H := hP
  have hD : va_D A [(h0, .inr (15, [.int 0, .ref q1, .ref q2, .ref q3, .ref q4, .ref q5, .ref q6, .ref q7, .ref q8, .ref q10, .ref q12, .ref q14, .int 0, .ref q16, .int 0, .ref q17, .ref q18, .ref q19, .ref q20, .ref q21, .ref q22, .ref q23, .int 0, .ref q24, .ref q25, .ref q26, .ref q27, .ref q28, .ref q29, .ref q30, .ref q31, .ref q32, .ref q33, .ref q34, .int 0, .null, .null, .null, .null, .null, .null, .null, .int 0, .null, .null, .int 0, .int 0, .null, .null, .null, .null, .null, .null, .null, .null, .null, .null, .null, .null, .null, .null, .null, .null, .null, .null, .int 0, .int 0, .null, .long 0, .long 0, .long 0, .long 0, .int 0, .null])), (q8, .inl (cy9, 40, .inr (.inl (fun _ => 0)))), (q10, .inl (cy11, 40, .inr (.inl (fun _ => 0)))), (q12, .inl (cy13, 40, .inl (fun _ => 0))), (q14, .inl (cy15, 40, .inl (fun _ => 0))), (q35, .inl (cy36, 40, .inl (fun _ => 0)))] := hD
  have hK : va_K (dC, dI) clx [(cy9, .long), (cy11, .long), (cy13, .int), (cy15, .int), (cy36, .boolean)] s := hK
  refine W.widen (k := 114) (n := 61780) (Nat.le_of_ble_eq_true rfl) (Nat.le_of_ble_eq_true rfl) ?_
  refine va_putF (D := (dC, dI)) (ci := 15) (v := .ref q35) (ty := .array .boolean) (C := RX15) (T := TX15) (N := 74) hx hb hu iX15 tyX15 tyX15_ok nmX15 hown hK hP hD hS 0 rfl rfl 35 (by decide) (hu _ u199) (fun _ h9 => h9) rfl hin rfl (by decide +kernel) rfl rfl (Nat.le_of_ble_eq_true rfl) dX15_init_306 (fun H locs hP hD hS => ?_)
  have hP : va_P (dC, dI) clx [(h0, .inr (15, [.int 0, .ref q1, .ref q2, .ref q3, .ref q4, .ref q5, .ref q6, .ref q7, .ref q8, .ref q10, .ref q12, .ref q14, .int 0, .ref q16, .int 0, .ref q17, .ref q18, .ref q19, .ref q20, .ref q21, .ref q22, .ref q23, .int 0, .ref q24, .ref q25, .ref q26, .ref q27, .ref q28, .ref q29, .ref q30, .ref q31, .ref q32, .ref q33, .ref q34, .int 0, .ref q35, .null, .null, .null, .null, .null, .null, .int 0, .null, .null, .int 0, .int 0, .null, .null, .null, .null, .null, .null, .null, .null, .null, .null, .null, .null, .null, .null, .null, .null, .null, .null, .int 0, .int 0, .null, .long 0, .long 0, .long 0, .long 0, .int 0, .null])), (q8, .inl (cy9, 40, .inr (.inl (fun _ => 0)))), (q10, .inl (cy11, 40, .inr (.inl (fun _ => 0)))), (q12, .inl (cy13, 40, .inl (fun _ => 0))), (q14, .inl (cy15, 40, .inl (fun _ => 0))), (q35, .inl (cy36, 40, .inl (fun _ => 0)))] H := hP
  have hD : va_D A [(h0, .inr (15, [.int 0, .ref q1, .ref q2, .ref q3, .ref q4, .ref q5, .ref q6, .ref q7, .ref q8, .ref q10, .ref q12, .ref q14, .int 0, .ref q16, .int 0, .ref q17, .ref q18, .ref q19, .ref q20, .ref q21, .ref q22, .ref q23, .int 0, .ref q24, .ref q25, .ref q26, .ref q27, .ref q28, .ref q29, .ref q30, .ref q31, .ref q32, .ref q33, .ref q34, .int 0, .ref q35, .null, .null, .null, .null, .null, .null, .int 0, .null, .null, .int 0, .int 0, .null, .null, .null, .null, .null, .null, .null, .null, .null, .null, .null, .null, .null, .null, .null, .null, .null, .null, .int 0, .int 0, .null, .long 0, .long 0, .long 0, .long 0, .int 0, .null])), (q8, .inl (cy9, 40, .inr (.inl (fun _ => 0)))), (q10, .inl (cy11, 40, .inr (.inl (fun _ => 0)))), (q12, .inl (cy13, 40, .inl (fun _ => 0))), (q14, .inl (cy15, 40, .inl (fun _ => 0))), (q35, .inl (cy36, 40, .inl (fun _ => 0)))] := hD
  refine lv_aload_n hx hb dX15_init_309 rfl (lv_at hl 0 rfl) ?_
  refine lv_bipush (v := 40) hx hb dX15_init_310 (by decide) ?_
  refine px_newaJ (atype := .int) hx hb (hu _ u3) hP hS 40 (by decide) (by decide) (by decide) (Nat.le_of_ble_eq_true rfl) (Nat.le_of_ble_eq_true rfl) dX15_init_312 (fun q37 H hP hS => ?_)
  refine W.widen (k := 115) (n := 61820) (Nat.le_of_ble_eq_true rfl) (Nat.le_of_ble_eq_true rfl) ?_
  refine va_putF (D := (dC, dI)) (ci := 15) (v := .ref q37) (ty := .array .int) (C := RX15) (T := TX15) (N := 74) hx hb hu iX15 tyX15 tyX15_ok nmX15 hown hK hP hD hS 0 rfl rfl 36 (by decide) (hu _ u200) (fun _ h9 => h9) rfl hin rfl (by decide +kernel) rfl rfl (Nat.le_of_ble_eq_true rfl) dX15_init_314 (fun H locs hP hD hS => ?_)
  have hP : va_P (dC, dI) clx [(h0, .inr (15, [.int 0, .ref q1, .ref q2, .ref q3, .ref q4, .ref q5, .ref q6, .ref q7, .ref q8, .ref q10, .ref q12, .ref q14, .int 0, .ref q16, .int 0, .ref q17, .ref q18, .ref q19, .ref q20, .ref q21, .ref q22, .ref q23, .int 0, .ref q24, .ref q25, .ref q26, .ref q27, .ref q28, .ref q29, .ref q30, .ref q31, .ref q32, .ref q33, .ref q34, .int 0, .ref q35, .ref q37, .null, .null, .null, .null, .null, .int 0, .null, .null, .int 0, .int 0, .null, .null, .null, .null, .null, .null, .null, .null, .null, .null, .null, .null, .null, .null, .null, .null, .null, .null, .int 0, .int 0, .null, .long 0, .long 0, .long 0, .long 0, .int 0, .null])), (q8, .inl (cy9, 40, .inr (.inl (fun _ => 0)))), (q10, .inl (cy11, 40, .inr (.inl (fun _ => 0)))), (q12, .inl (cy13, 40, .inl (fun _ => 0))), (q14, .inl (cy15, 40, .inl (fun _ => 0))), (q35, .inl (cy36, 40, .inl (fun _ => 0)))] H := hP
  have hD : va_D A [(h0, .inr (15, [.int 0, .ref q1, .ref q2, .ref q3, .ref q4, .ref q5, .ref q6, .ref q7, .ref q8, .ref q10, .ref q12, .ref q14, .int 0, .ref q16, .int 0, .ref q17, .ref q18, .ref q19, .ref q20, .ref q21, .ref q22, .ref q23, .int 0, .ref q24, .ref q25, .ref q26, .ref q27, .ref q28, .ref q29, .ref q30, .ref q31, .ref q32, .ref q33, .ref q34, .int 0, .ref q35, .ref q37, .null, .null, .null, .null, .null, .int 0, .null, .null, .int 0, .int 0, .null, .null, .null, .null, .null, .null, .null, .null, .null, .null, .null, .null, .null, .null, .null, .null, .null, .null, .int 0, .int 0, .null, .long 0, .long 0, .long 0, .long 0, .int 0, .null])), (q8, .inl (cy9, 40, .inr (.inl (fun _ => 0)))), (q10, .inl (cy11, 40, .inr (.inl (fun _ => 0)))), (q12, .inl (cy13, 40, .inl (fun _ => 0))), (q14, .inl (cy15, 40, .inl (fun _ => 0))), (q35, .inl (cy36, 40, .inl (fun _ => 0)))] := hD
  refine lv_aload_n hx hb dX15_init_317 rfl (lv_at hl 0 rfl) ?_
  refine lv_bipush (v := 40) hx hb dX15_init_318 (by decide) ?_
  refine px_anewA (t := .int) hx hb hown (hu _ u201) hev.2.2.1.1 hP hS 40 (by decide) (by decide) (by decide) (Nat.le_of_ble_eq_true rfl) (Nat.le_of_ble_eq_true rfl) dX15_init_320 (fun q38 H hP hS => ?_)
  refine W.widen (k := 116) (n := 61860) (Nat.le_of_ble_eq_true rfl) (Nat.le_of_ble_eq_true rfl) ?_
  refine va_putF (D := (dC, dI)) (ci := 15) (v := .ref q38) (ty := .array (.array .int)) (C := RX15) (T := TX15) (N := 74) hx hb hu iX15 tyX15 tyX15_ok nmX15 hown hK hP hD hS 0 rfl rfl 37 (by decide) (hu _ u202) (fun _ h9 => h9) rfl hin rfl (by decide +kernel) rfl rfl (Nat.le_of_ble_eq_true rfl) dX15_init_323 (fun H locs hP hD hS => ?_)
  have hP : va_P (dC, dI) clx [(h0, .inr (15, [.int 0, .ref q1, .ref q2, .ref q3, .ref q4, .ref q5, .ref q6, .ref q7, .ref q8, .ref q10, .ref q12, .ref q14, .int 0, .ref q16, .int 0, .ref q17, .ref q18, .ref q19, .ref q20, .ref q21, .ref q22, .ref q23, .int 0, .ref q24, .ref q25, .ref q26, .ref q27, .ref q28, .ref q29, .ref q30, .ref q31, .ref q32, .ref q33, .ref q34, .int 0, .ref q35, .ref q37, .ref q38, .null, .null, .null, .null, .int 0, .null, .null, .int 0, .int 0, .null, .null, .null, .null, .null, .null, .null, .null, .null, .null, .null, .null, .null, .null, .null, .null, .null, .null, .int 0, .int 0, .null, .long 0, .long 0, .long 0, .long 0, .int 0, .null])), (q8, .inl (cy9, 40, .inr (.inl (fun _ => 0)))), (q10, .inl (cy11, 40, .inr (.inl (fun _ => 0)))), (q12, .inl (cy13, 40, .inl (fun _ => 0))), (q14, .inl (cy15, 40, .inl (fun _ => 0))), (q35, .inl (cy36, 40, .inl (fun _ => 0)))] H := hP
  have hD : va_D A [(h0, .inr (15, [.int 0, .ref q1, .ref q2, .ref q3, .ref q4, .ref q5, .ref q6, .ref q7, .ref q8, .ref q10, .ref q12, .ref q14, .int 0, .ref q16, .int 0, .ref q17, .ref q18, .ref q19, .ref q20, .ref q21, .ref q22, .ref q23, .int 0, .ref q24, .ref q25, .ref q26, .ref q27, .ref q28, .ref q29, .ref q30, .ref q31, .ref q32, .ref q33, .ref q34, .int 0, .ref q35, .ref q37, .ref q38, .null, .null, .null, .null, .int 0, .null, .null, .int 0, .int 0, .null, .null, .null, .null, .null, .null, .null, .null, .null, .null, .null, .null, .null, .null, .null, .null, .null, .null, .int 0, .int 0, .null, .long 0, .long 0, .long 0, .long 0, .int 0, .null])), (q8, .inl (cy9, 40, .inr (.inl (fun _ => 0)))), (q10, .inl (cy11, 40, .inr (.inl (fun _ => 0)))), (q12, .inl (cy13, 40, .inl (fun _ => 0))), (q14, .inl (cy15, 40, .inl (fun _ => 0))), (q35, .inl (cy36, 40, .inl (fun _ => 0)))] := hD
  refine lv_aload_n hx hb dX15_init_326 rfl (lv_at hl 0 rfl) ?_
  refine lv_bipush (v := 40) hx hb dX15_init_327 (by decide) ?_
  refine px_anewA (t := .int) hx hb hown (hu _ u201) hev.2.2.1.1 hP hS 40 (by decide) (by decide) (by decide) (Nat.le_of_ble_eq_true rfl) (Nat.le_of_ble_eq_true rfl) dX15_init_329 (fun q39 H hP hS => ?_)
  refine W.widen (k := 117) (n := 61900) (Nat.le_of_ble_eq_true rfl) (Nat.le_of_ble_eq_true rfl) ?_
  refine va_putF (D := (dC, dI)) (ci := 15) (v := .ref q39) (ty := .array (.array .int)) (C := RX15) (T := TX15) (N := 74) hx hb hu iX15 tyX15 tyX15_ok nmX15 hown hK hP hD hS 0 rfl rfl 38 (by decide) (hu _ u203) (fun _ h9 => h9) rfl hin rfl (by decide +kernel) rfl rfl (Nat.le_of_ble_eq_true rfl) dX15_init_332 (fun H locs hP hD hS => ?_)
  have hP : va_P (dC, dI) clx [(h0, .inr (15, [.int 0, .ref q1, .ref q2, .ref q3, .ref q4, .ref q5, .ref q6, .ref q7, .ref q8, .ref q10, .ref q12, .ref q14, .int 0, .ref q16, .int 0, .ref q17, .ref q18, .ref q19, .ref q20, .ref q21, .ref q22, .ref q23, .int 0, .ref q24, .ref q25, .ref q26, .ref q27, .ref q28, .ref q29, .ref q30, .ref q31, .ref q32, .ref q33, .ref q34, .int 0, .ref q35, .ref q37, .ref q38, .ref q39, .null, .null, .null, .int 0, .null, .null, .int 0, .int 0, .null, .null, .null, .null, .null, .null, .null, .null, .null, .null, .null, .null, .null, .null, .null, .null, .null, .null, .int 0, .int 0, .null, .long 0, .long 0, .long 0, .long 0, .int 0, .null])), (q8, .inl (cy9, 40, .inr (.inl (fun _ => 0)))), (q10, .inl (cy11, 40, .inr (.inl (fun _ => 0)))), (q12, .inl (cy13, 40, .inl (fun _ => 0))), (q14, .inl (cy15, 40, .inl (fun _ => 0))), (q35, .inl (cy36, 40, .inl (fun _ => 0)))] H := hP
  have hD : va_D A [(h0, .inr (15, [.int 0, .ref q1, .ref q2, .ref q3, .ref q4, .ref q5, .ref q6, .ref q7, .ref q8, .ref q10, .ref q12, .ref q14, .int 0, .ref q16, .int 0, .ref q17, .ref q18, .ref q19, .ref q20, .ref q21, .ref q22, .ref q23, .int 0, .ref q24, .ref q25, .ref q26, .ref q27, .ref q28, .ref q29, .ref q30, .ref q31, .ref q32, .ref q33, .ref q34, .int 0, .ref q35, .ref q37, .ref q38, .ref q39, .null, .null, .null, .int 0, .null, .null, .int 0, .int 0, .null, .null, .null, .null, .null, .null, .null, .null, .null, .null, .null, .null, .null, .null, .null, .null, .null, .null, .int 0, .int 0, .null, .long 0, .long 0, .long 0, .long 0, .int 0, .null])), (q8, .inl (cy9, 40, .inr (.inl (fun _ => 0)))), (q10, .inl (cy11, 40, .inr (.inl (fun _ => 0)))), (q12, .inl (cy13, 40, .inl (fun _ => 0))), (q14, .inl (cy15, 40, .inl (fun _ => 0))), (q35, .inl (cy36, 40, .inl (fun _ => 0)))] := hD
  refine lv_aload_n hx hb dX15_init_335 rfl (lv_at hl 0 rfl) ?_
  refine lv_sipush (v := 16100) hx hb dX15_init_336 (by decide) ?_
  refine px_newaJ (atype := .int) hx hb (hu _ u3) hP hS 16100 (by decide) (by decide) (by decide) (Nat.le_of_ble_eq_true rfl) (Nat.le_of_ble_eq_true rfl) dX15_init_339 (fun q40 H hP hS => ?_)
  refine W.widen (k := 118) (n := 78000) (Nat.le_of_ble_eq_true rfl) (Nat.le_of_ble_eq_true rfl) ?_
  refine va_putF (D := (dC, dI)) (ci := 15) (v := .ref q40) (ty := .array .int) (C := RX15) (T := TX15) (N := 74) hx hb hu iX15 tyX15 tyX15_ok nmX15 hown hK hP hD hS 0 rfl rfl 39 (by decide) (hu _ u204) (fun _ h9 => h9) rfl hin rfl (by decide +kernel) rfl rfl (Nat.le_of_ble_eq_true rfl) dX15_init_341 (fun H locs hP hD hS => ?_)
  have hP : va_P (dC, dI) clx [(h0, .inr (15, [.int 0, .ref q1, .ref q2, .ref q3, .ref q4, .ref q5, .ref q6, .ref q7, .ref q8, .ref q10, .ref q12, .ref q14, .int 0, .ref q16, .int 0, .ref q17, .ref q18, .ref q19, .ref q20, .ref q21, .ref q22, .ref q23, .int 0, .ref q24, .ref q25, .ref q26, .ref q27, .ref q28, .ref q29, .ref q30, .ref q31, .ref q32, .ref q33, .ref q34, .int 0, .ref q35, .ref q37, .ref q38, .ref q39, .ref q40, .null, .null, .int 0, .null, .null, .int 0, .int 0, .null, .null, .null, .null, .null, .null, .null, .null, .null, .null, .null, .null, .null, .null, .null, .null, .null, .null, .int 0, .int 0, .null, .long 0, .long 0, .long 0, .long 0, .int 0, .null])), (q8, .inl (cy9, 40, .inr (.inl (fun _ => 0)))), (q10, .inl (cy11, 40, .inr (.inl (fun _ => 0)))), (q12, .inl (cy13, 40, .inl (fun _ => 0))), (q14, .inl (cy15, 40, .inl (fun _ => 0))), (q35, .inl (cy36, 40, .inl (fun _ => 0)))] H := hP
  have hD : va_D A [(h0, .inr (15, [.int 0, .ref q1, .ref q2, .ref q3, .ref q4, .ref q5, .ref q6, .ref q7, .ref q8, .ref q10, .ref q12, .ref q14, .int 0, .ref q16, .int 0, .ref q17, .ref q18, .ref q19, .ref q20, .ref q21, .ref q22, .ref q23, .int 0, .ref q24, .ref q25, .ref q26, .ref q27, .ref q28, .ref q29, .ref q30, .ref q31, .ref q32, .ref q33, .ref q34, .int 0, .ref q35, .ref q37, .ref q38, .ref q39, .ref q40, .null, .null, .int 0, .null, .null, .int 0, .int 0, .null, .null, .null, .null, .null, .null, .null, .null, .null, .null, .null, .null, .null, .null, .null, .null, .null, .null, .int 0, .int 0, .null, .long 0, .long 0, .long 0, .long 0, .int 0, .null])), (q8, .inl (cy9, 40, .inr (.inl (fun _ => 0)))), (q10, .inl (cy11, 40, .inr (.inl (fun _ => 0)))), (q12, .inl (cy13, 40, .inl (fun _ => 0))), (q14, .inl (cy15, 40, .inl (fun _ => 0))), (q35, .inl (cy36, 40, .inl (fun _ => 0)))] := hD
  refine lv_aload_n hx hb dX15_init_344 rfl (lv_at hl 0 rfl) ?_
  refine lv_sipush (v := 16100) hx hb dX15_init_345 (by decide) ?_
  refine px_newaJ (atype := .int) hx hb (hu _ u3) hP hS 16100 (by decide) (by decide) (by decide) (Nat.le_of_ble_eq_true rfl) (Nat.le_of_ble_eq_true rfl) dX15_init_348 (fun q41 H hP hS => ?_)
  refine W.widen (k := 119) (n := 94100) (Nat.le_of_ble_eq_true rfl) (Nat.le_of_ble_eq_true rfl) ?_
  refine va_putF (D := (dC, dI)) (ci := 15) (v := .ref q41) (ty := .array .int) (C := RX15) (T := TX15) (N := 74) hx hb hu iX15 tyX15 tyX15_ok nmX15 hown hK hP hD hS 0 rfl rfl 40 (by decide) (hu _ u205) (fun _ h9 => h9) rfl hin rfl (by decide +kernel) rfl rfl (Nat.le_of_ble_eq_true rfl) dX15_init_350 (fun H locs hP hD hS => ?_)
  have hP : va_P (dC, dI) clx [(h0, .inr (15, [.int 0, .ref q1, .ref q2, .ref q3, .ref q4, .ref q5, .ref q6, .ref q7, .ref q8, .ref q10, .ref q12, .ref q14, .int 0, .ref q16, .int 0, .ref q17, .ref q18, .ref q19, .ref q20, .ref q21, .ref q22, .ref q23, .int 0, .ref q24, .ref q25, .ref q26, .ref q27, .ref q28, .ref q29, .ref q30, .ref q31, .ref q32, .ref q33, .ref q34, .int 0, .ref q35, .ref q37, .ref q38, .ref q39, .ref q40, .ref q41, .null, .int 0, .null, .null, .int 0, .int 0, .null, .null, .null, .null, .null, .null, .null, .null, .null, .null, .null, .null, .null, .null, .null, .null, .null, .null, .int 0, .int 0, .null, .long 0, .long 0, .long 0, .long 0, .int 0, .null])), (q8, .inl (cy9, 40, .inr (.inl (fun _ => 0)))), (q10, .inl (cy11, 40, .inr (.inl (fun _ => 0)))), (q12, .inl (cy13, 40, .inl (fun _ => 0))), (q14, .inl (cy15, 40, .inl (fun _ => 0))), (q35, .inl (cy36, 40, .inl (fun _ => 0)))] H := hP
  have hD : va_D A [(h0, .inr (15, [.int 0, .ref q1, .ref q2, .ref q3, .ref q4, .ref q5, .ref q6, .ref q7, .ref q8, .ref q10, .ref q12, .ref q14, .int 0, .ref q16, .int 0, .ref q17, .ref q18, .ref q19, .ref q20, .ref q21, .ref q22, .ref q23, .int 0, .ref q24, .ref q25, .ref q26, .ref q27, .ref q28, .ref q29, .ref q30, .ref q31, .ref q32, .ref q33, .ref q34, .int 0, .ref q35, .ref q37, .ref q38, .ref q39, .ref q40, .ref q41, .null, .int 0, .null, .null, .int 0, .int 0, .null, .null, .null, .null, .null, .null, .null, .null, .null, .null, .null, .null, .null, .null, .null, .null, .null, .null, .int 0, .int 0, .null, .long 0, .long 0, .long 0, .long 0, .int 0, .null])), (q8, .inl (cy9, 40, .inr (.inl (fun _ => 0)))), (q10, .inl (cy11, 40, .inr (.inl (fun _ => 0)))), (q12, .inl (cy13, 40, .inl (fun _ => 0))), (q14, .inl (cy15, 40, .inl (fun _ => 0))), (q35, .inl (cy36, 40, .inl (fun _ => 0)))] := hD
  refine lv_aload_n hx hb dX15_init_353 rfl (lv_at hl 0 rfl) ?_
  refine lv_sipush (v := 16100) hx hb dX15_init_354 (by decide) ?_
  refine px_newaJ (atype := .long) hx hb (hu _ u19) hP hS 16100 (by decide) (by decide) (by decide) (Nat.le_of_ble_eq_true rfl) (Nat.le_of_ble_eq_true rfl) dX15_init_357 (fun q42 H hP hS => ?_)
  refine W.widen (k := 120) (n := 110200) (Nat.le_of_ble_eq_true rfl) (Nat.le_of_ble_eq_true rfl) ?_
  refine va_putF (D := (dC, dI)) (ci := 15) (v := .ref q42) (ty := .array .long) (C := RX15) (T := TX15) (N := 74) hx hb hu iX15 tyX15 tyX15_ok nmX15 hown hK hP hD hS 0 rfl rfl 41 (by decide) (hu _ u206) (fun _ h9 => h9) rfl hin rfl (by decide +kernel) rfl rfl (Nat.le_of_ble_eq_true rfl) dX15_init_359 (fun H locs hP hD hS => ?_)
  have hP : va_P (dC, dI) clx [(h0, .inr (15, [.int 0, .ref q1, .ref q2, .ref q3, .ref q4, .ref q5, .ref q6, .ref q7, .ref q8, .ref q10, .ref q12, .ref q14, .int 0, .ref q16, .int 0, .ref q17, .ref q18, .ref q19, .ref q20, .ref q21, .ref q22, .ref q23, .int 0, .ref q24, .ref q25, .ref q26, .ref q27, .ref q28, .ref q29, .ref q30, .ref q31, .ref q32, .ref q33, .ref q34, .int 0, .ref q35, .ref q37, .ref q38, .ref q39, .ref q40, .ref q41, .ref q42, .int 0, .null, .null, .int 0, .int 0, .null, .null, .null, .null, .null, .null, .null, .null, .null, .null, .null, .null, .null, .null, .null, .null, .null, .null, .int 0, .int 0, .null, .long 0, .long 0, .long 0, .long 0, .int 0, .null])), (q8, .inl (cy9, 40, .inr (.inl (fun _ => 0)))), (q10, .inl (cy11, 40, .inr (.inl (fun _ => 0)))), (q12, .inl (cy13, 40, .inl (fun _ => 0))), (q14, .inl (cy15, 40, .inl (fun _ => 0))), (q35, .inl (cy36, 40, .inl (fun _ => 0)))] H := hP
  have hD : va_D A [(h0, .inr (15, [.int 0, .ref q1, .ref q2, .ref q3, .ref q4, .ref q5, .ref q6, .ref q7, .ref q8, .ref q10, .ref q12, .ref q14, .int 0, .ref q16, .int 0, .ref q17, .ref q18, .ref q19, .ref q20, .ref q21, .ref q22, .ref q23, .int 0, .ref q24, .ref q25, .ref q26, .ref q27, .ref q28, .ref q29, .ref q30, .ref q31, .ref q32, .ref q33, .ref q34, .int 0, .ref q35, .ref q37, .ref q38, .ref q39, .ref q40, .ref q41, .ref q42, .int 0, .null, .null, .int 0, .int 0, .null, .null, .null, .null, .null, .null, .null, .null, .null, .null, .null, .null, .null, .null, .null, .null, .null, .null, .int 0, .int 0, .null, .long 0, .long 0, .long 0, .long 0, .int 0, .null])), (q8, .inl (cy9, 40, .inr (.inl (fun _ => 0)))), (q10, .inl (cy11, 40, .inr (.inl (fun _ => 0)))), (q12, .inl (cy13, 40, .inl (fun _ => 0))), (q14, .inl (cy15, 40, .inl (fun _ => 0))), (q35, .inl (cy36, 40, .inl (fun _ => 0)))] := hD
  refine lv_aload_n hx hb dX15_init_362 rfl (lv_at hl 0 rfl) ?_
  refine lv_sipush (v := 2100) hx hb dX15_init_363 (by decide) ?_
  refine px_newaJ (atype := .int) hx hb (hu _ u3) hP hS 2100 (by decide) (by decide) (by decide) (Nat.le_of_ble_eq_true rfl) (Nat.le_of_ble_eq_true rfl) dX15_init_366 (fun q43 H hP hS => ?_)
  refine W.widen (k := 121) (n := 112300) (Nat.le_of_ble_eq_true rfl) (Nat.le_of_ble_eq_true rfl) ?_
  refine va_putF (D := (dC, dI)) (ci := 15) (v := .ref q43) (ty := .array .int) (C := RX15) (T := TX15) (N := 74) hx hb hu iX15 tyX15 tyX15_ok nmX15 hown hK hP hD hS 0 rfl rfl 43 (by decide) (hu _ u207) (fun _ h9 => h9) rfl hin rfl (by decide +kernel) rfl rfl (Nat.le_of_ble_eq_true rfl) dX15_init_368 (fun H locs hP hD hS => ?_)
  have hP : va_P (dC, dI) clx [(h0, .inr (15, [.int 0, .ref q1, .ref q2, .ref q3, .ref q4, .ref q5, .ref q6, .ref q7, .ref q8, .ref q10, .ref q12, .ref q14, .int 0, .ref q16, .int 0, .ref q17, .ref q18, .ref q19, .ref q20, .ref q21, .ref q22, .ref q23, .int 0, .ref q24, .ref q25, .ref q26, .ref q27, .ref q28, .ref q29, .ref q30, .ref q31, .ref q32, .ref q33, .ref q34, .int 0, .ref q35, .ref q37, .ref q38, .ref q39, .ref q40, .ref q41, .ref q42, .int 0, .ref q43, .null, .int 0, .int 0, .null, .null, .null, .null, .null, .null, .null, .null, .null, .null, .null, .null, .null, .null, .null, .null, .null, .null, .int 0, .int 0, .null, .long 0, .long 0, .long 0, .long 0, .int 0, .null])), (q8, .inl (cy9, 40, .inr (.inl (fun _ => 0)))), (q10, .inl (cy11, 40, .inr (.inl (fun _ => 0)))), (q12, .inl (cy13, 40, .inl (fun _ => 0))), (q14, .inl (cy15, 40, .inl (fun _ => 0))), (q35, .inl (cy36, 40, .inl (fun _ => 0)))] H := hP
  have hD : va_D A [(h0, .inr (15, [.int 0, .ref q1, .ref q2, .ref q3, .ref q4, .ref q5, .ref q6, .ref q7, .ref q8, .ref q10, .ref q12, .ref q14, .int 0, .ref q16, .int 0, .ref q17, .ref q18, .ref q19, .ref q20, .ref q21, .ref q22, .ref q23, .int 0, .ref q24, .ref q25, .ref q26, .ref q27, .ref q28, .ref q29, .ref q30, .ref q31, .ref q32, .ref q33, .ref q34, .int 0, .ref q35, .ref q37, .ref q38, .ref q39, .ref q40, .ref q41, .ref q42, .int 0, .ref q43, .null, .int 0, .int 0, .null, .null, .null, .null, .null, .null, .null, .null, .null, .null, .null, .null, .null, .null, .null, .null, .null, .null, .int 0, .int 0, .null, .long 0, .long 0, .long 0, .long 0, .int 0, .null])), (q8, .inl (cy9, 40, .inr (.inl (fun _ => 0)))), (q10, .inl (cy11, 40, .inr (.inl (fun _ => 0)))), (q12, .inl (cy13, 40, .inl (fun _ => 0))), (q14, .inl (cy15, 40, .inl (fun _ => 0))), (q35, .inl (cy36, 40, .inl (fun _ => 0)))] := hD
  refine lv_aload_n hx hb dX15_init_371 rfl (lv_at hl 0 rfl) ?_
  refine lv_sipush (v := 2100) hx hb dX15_init_372 (by decide) ?_
  refine px_newaJ (atype := .int) hx hb (hu _ u3) hP hS 2100 (by decide) (by decide) (by decide) (Nat.le_of_ble_eq_true rfl) (Nat.le_of_ble_eq_true rfl) dX15_init_375 (fun q44 H hP hS => ?_)
  refine W.widen (k := 122) (n := 114400) (Nat.le_of_ble_eq_true rfl) (Nat.le_of_ble_eq_true rfl) ?_
  refine va_putF (D := (dC, dI)) (ci := 15) (v := .ref q44) (ty := .array .int) (C := RX15) (T := TX15) (N := 74) hx hb hu iX15 tyX15 tyX15_ok nmX15 hown hK hP hD hS 0 rfl rfl 44 (by decide) (hu _ u208) (fun _ h9 => h9) rfl hin rfl (by decide +kernel) rfl rfl (Nat.le_of_ble_eq_true rfl) dX15_init_377 (fun H locs hP hD hS => ?_)
  have hP : va_P (dC, dI) clx [(h0, .inr (15, [.int 0, .ref q1, .ref q2, .ref q3, .ref q4, .ref q5, .ref q6, .ref q7, .ref q8, .ref q10, .ref q12, .ref q14, .int 0, .ref q16, .int 0, .ref q17, .ref q18, .ref q19, .ref q20, .ref q21, .ref q22, .ref q23, .int 0, .ref q24, .ref q25, .ref q26, .ref q27, .ref q28, .ref q29, .ref q30, .ref q31, .ref q32, .ref q33, .ref q34, .int 0, .ref q35, .ref q37, .ref q38, .ref q39, .ref q40, .ref q41, .ref q42, .int 0, .ref q43, .ref q44, .int 0, .int 0, .null, .null, .null, .null, .null, .null, .null, .null, .null, .null, .null, .null, .null, .null, .null, .null, .null, .null, .int 0, .int 0, .null, .long 0, .long 0, .long 0, .long 0, .int 0, .null])), (q8, .inl (cy9, 40, .inr (.inl (fun _ => 0)))), (q10, .inl (cy11, 40, .inr (.inl (fun _ => 0)))), (q12, .inl (cy13, 40, .inl (fun _ => 0))), (q14, .inl (cy15, 40, .inl (fun _ => 0))), (q35, .inl (cy36, 40, .inl (fun _ => 0)))] H := hP
  have hD : va_D A [(h0, .inr (15, [.int 0, .ref q1, .ref q2, .ref q3, .ref q4, .ref q5, .ref q6, .ref q7, .ref q8, .ref q10, .ref q12, .ref q14, .int 0, .ref q16, .int 0, .ref q17, .ref q18, .ref q19, .ref q20, .ref q21, .ref q22, .ref q23, .int 0, .ref q24, .ref q25, .ref q26, .ref q27, .ref q28, .ref q29, .ref q30, .ref q31, .ref q32, .ref q33, .ref q34, .int 0, .ref q35, .ref q37, .ref q38, .ref q39, .ref q40, .ref q41, .ref q42, .int 0, .ref q43, .ref q44, .int 0, .int 0, .null, .null, .null, .null, .null, .null, .null, .null, .null, .null, .null, .null, .null, .null, .null, .null, .null, .null, .int 0, .int 0, .null, .long 0, .long 0, .long 0, .long 0, .int 0, .null])), (q8, .inl (cy9, 40, .inr (.inl (fun _ => 0)))), (q10, .inl (cy11, 40, .inr (.inl (fun _ => 0)))), (q12, .inl (cy13, 40, .inl (fun _ => 0))), (q14, .inl (cy15, 40, .inl (fun _ => 0))), (q35, .inl (cy36, 40, .inl (fun _ => 0)))] := hD
  refine lv_aload_n hx hb dX15_init_380 rfl (lv_at hl 0 rfl) ?_
  refine lv_iconst (v := (-1)) hx hb dX15_init_381 (by decide) ?_
  refine va_put (D := (dC, dI)) (ci := 15) (v := .int (-1)) (ty := .int) (C := RX15) (T := TX15) (N := 74) hx hb hu iX15 tyX15 tyX15_ok nmX15 hown hK hP hD hS 0 rfl rfl 46 (by decide) (hu _ u209) (fun _ h9 => h9) rfl (by decide +kernel) rfl rfl (Nat.le_of_ble_eq_true rfl) dX15_init_382 (fun H locs hP hD hS => ?_)
  have hP : va_P (dC, dI) clx [(h0, .inr (15, [.int 0, .ref q1, .ref q2, .ref q3, .ref q4, .ref q5, .ref q6, .ref q7, .ref q8, .ref q10, .ref q12, .ref q14, .int 0, .ref q16, .int 0, .ref q17, .ref q18, .ref q19, .ref q20, .ref q21, .ref q22, .ref q23, .int 0, .ref q24, .ref q25, .ref q26, .ref q27, .ref q28, .ref q29, .ref q30, .ref q31, .ref q32, .ref q33, .ref q34, .int 0, .ref q35, .ref q37, .ref q38, .ref q39, .ref q40, .ref q41, .ref q42, .int 0, .ref q43, .ref q44, .int 0, .int (-1), .null, .null, .null, .null, .null, .null, .null, .null, .null, .null, .null, .null, .null, .null, .null, .null, .null, .null, .int 0, .int 0, .null, .long 0, .long 0, .long 0, .long 0, .int 0, .null])), (q8, .inl (cy9, 40, .inr (.inl (fun _ => 0)))), (q10, .inl (cy11, 40, .inr (.inl (fun _ => 0)))), (q12, .inl (cy13, 40, .inl (fun _ => 0))), (q14, .inl (cy15, 40, .inl (fun _ => 0))), (q35, .inl (cy36, 40, .inl (fun _ => 0)))] H := hP
  have hD : va_D A [(h0, .inr (15, [.int 0, .ref q1, .ref q2, .ref q3, .ref q4, .ref q5, .ref q6, .ref q7, .ref q8, .ref q10, .ref q12, .ref q14, .int 0, .ref q16, .int 0, .ref q17, .ref q18, .ref q19, .ref q20, .ref q21, .ref q22, .ref q23, .int 0, .ref q24, .ref q25, .ref q26, .ref q27, .ref q28, .ref q29, .ref q30, .ref q31, .ref q32, .ref q33, .ref q34, .int 0, .ref q35, .ref q37, .ref q38, .ref q39, .ref q40, .ref q41, .ref q42, .int 0, .ref q43, .ref q44, .int 0, .int (-1), .null, .null, .null, .null, .null, .null, .null, .null, .null, .null, .null, .null, .null, .null, .null, .null, .null, .null, .int 0, .int 0, .null, .long 0, .long 0, .long 0, .long 0, .int 0, .null])), (q8, .inl (cy9, 40, .inr (.inl (fun _ => 0)))), (q10, .inl (cy11, 40, .inr (.inl (fun _ => 0)))), (q12, .inl (cy13, 40, .inl (fun _ => 0))), (q14, .inl (cy15, 40, .inl (fun _ => 0))), (q35, .inl (cy36, 40, .inl (fun _ => 0)))] := hD
  refine lv_aload_n hx hb dX15_init_385 rfl (lv_at hl 0 rfl) ?_
  refine lv_bipush (v := 40) hx hb dX15_init_386 (by decide) ?_
  refine va_newa (atype := .boolean) (a0 := (40, .inl (fun _ => 0))) (ty := .boolean) (N' := 40) hx hb (hu _ u16) rfl hK hP hD hS hA (fun _ => rfl) (by decide) (by decide) (by decide) (Nat.le_of_ble_eq_true rfl) (Nat.le_of_ble_eq_true rfl) dX15_init_388 (fun q45 cy46 H hK hP hD hS => ?_)
  have hP : va_P (dC, dI) clx [(h0, .inr (15, [.int 0, .ref q1, .ref q2, .ref q3, .ref q4, .ref q5, .ref q6, .ref q7, .ref q8, .ref q10, .ref q12, .ref q14, .int 0, .ref q16, .int 0, .ref q17, .ref q18, .ref q19, .ref q20, .ref q21, .ref q22, .ref q23, .int 0, .ref q24, .ref q25, .ref q26, .ref q27, .ref q28, .ref q29, .ref q30, .ref q31, .ref q32, .ref q33, .ref q34, .int 0, .ref q35, .ref q37, .ref q38, .ref q39, .ref q40, .ref q41, .ref q42, .int 0, .ref q43, .ref q44, .int 0, .int (-1), .null, .null, .null, .null, .null, .null, .null, .null, .null, .null, .null, .null, .null, .null, .null, .null, .null, .null, .int 0, .int 0, .null, .long 0, .long 0, .long 0, .long 0, .int 0, .null])), (q8, .inl (cy9, 40, .inr (.inl (fun _ => 0)))), (q10, .inl (cy11, 40, .inr (.inl (fun _ => 0)))), (q12, .inl (cy13, 40, .inl (fun _ => 0))), (q14, .inl (cy15, 40, .inl (fun _ => 0))), (q35, .inl (cy36, 40, .inl (fun _ => 0))), (q45, .inl (cy46, 40, .inl (fun _ => 0)))] H := hP
  have hD : va_D A [(h0, .inr (15, [.int 0, .ref q1, .ref q2, .ref q3, .ref q4, .ref q5, .ref q6, .ref q7, .ref q8, .ref q10, .ref q12, .ref q14, .int 0, .ref q16, .int 0, .ref q17, .ref q18, .ref q19, .ref q20, .ref q21, .ref q22, .ref q23, .int 0, .ref q24, .ref q25, .ref q26, .ref q27, .ref q28, .ref q29, .ref q30, .ref q31, .ref q32, .ref q33, .ref q34, .int 0, .ref q35, .ref q37, .ref q38, .ref q39, .ref q40, .ref q41, .ref q42, .int 0, .ref q43, .ref q44, .int 0, .int (-1), .null, .null, .null, .null, .null, .null, .null, .null, .null, .null, .null, .null, .null, .null, .null, .null, .null, .null, .int 0, .int 0, .null, .long 0, .long 0, .long 0, .long 0, .int 0, .null])), (q8, .inl (cy9, 40, .inr (.inl (fun _ => 0)))), (q10, .inl (cy11, 40, .inr (.inl (fun _ => 0)))), (q12, .inl (cy13, 40, .inl (fun _ => 0))), (q14, .inl (cy15, 40, .inl (fun _ => 0))), (q35, .inl (cy36, 40, .inl (fun _ => 0))), (q45, .inl (cy46, 40, .inl (fun _ => 0)))] := hD
  have hK : va_K (dC, dI) clx [(cy9, .long), (cy11, .long), (cy13, .int), (cy15, .int), (cy36, .boolean), (cy46, .boolean)] s := hK
  refine W.widen (k := 123) (n := 114440) (Nat.le_of_ble_eq_true rfl) (Nat.le_of_ble_eq_true rfl) ?_
  refine va_putF (D := (dC, dI)) (ci := 15) (v := .ref q45) (ty := .array .boolean) (C := RX15) (T := TX15) (N := 74) hx hb hu iX15 tyX15 tyX15_ok nmX15 hown hK hP hD hS 0 rfl rfl 47 (by decide) (hu _ u210) (fun _ h9 => h9) rfl hin rfl (by decide +kernel) rfl rfl (Nat.le_of_ble_eq_true rfl) dX15_init_390 (fun H locs hP hD hS => ?_)
  have hP : va_P (dC, dI) clx [(h0, .inr (15, [.int 0, .ref q1, .ref q2, .ref q3, .ref q4, .ref q5, .ref q6, .ref q7, .ref q8, .ref q10, .ref q12, .ref q14, .int 0, .ref q16, .int 0, .ref q17, .ref q18, .ref q19, .ref q20, .ref q21, .ref q22, .ref q23, .int 0, .ref q24, .ref q25, .ref q26, .ref q27, .ref q28, .ref q29, .ref q30, .ref q31, .ref q32, .ref q33, .ref q34, .int 0, .ref q35, .ref q37, .ref q38, .ref q39, .ref q40, .ref q41, .ref q42, .int 0, .ref q43, .ref q44, .int 0, .int (-1), .ref q45, .null, .null, .null, .null, .null, .null, .null, .null, .null, .null, .null, .null, .null, .null, .null, .null, .null, .int 0, .int 0, .null, .long 0, .long 0, .long 0, .long 0, .int 0, .null])), (q8, .inl (cy9, 40, .inr (.inl (fun _ => 0)))), (q10, .inl (cy11, 40, .inr (.inl (fun _ => 0)))), (q12, .inl (cy13, 40, .inl (fun _ => 0))), (q14, .inl (cy15, 40, .inl (fun _ => 0))), (q35, .inl (cy36, 40, .inl (fun _ => 0))), (q45, .inl (cy46, 40, .inl (fun _ => 0)))] H := hP
  have hD : va_D A [(h0, .inr (15, [.int 0, .ref q1, .ref q2, .ref q3, .ref q4, .ref q5, .ref q6, .ref q7, .ref q8, .ref q10, .ref q12, .ref q14, .int 0, .ref q16, .int 0, .ref q17, .ref q18, .ref q19, .ref q20, .ref q21, .ref q22, .ref q23, .int 0, .ref q24, .ref q25, .ref q26, .ref q27, .ref q28, .ref q29, .ref q30, .ref q31, .ref q32, .ref q33, .ref q34, .int 0, .ref q35, .ref q37, .ref q38, .ref q39, .ref q40, .ref q41, .ref q42, .int 0, .ref q43, .ref q44, .int 0, .int (-1), .ref q45, .null, .null, .null, .null, .null, .null, .null, .null, .null, .null, .null, .null, .null, .null, .null, .null, .null, .int 0, .int 0, .null, .long 0, .long 0, .long 0, .long 0, .int 0, .null])), (q8, .inl (cy9, 40, .inr (.inl (fun _ => 0)))), (q10, .inl (cy11, 40, .inr (.inl (fun _ => 0)))), (q12, .inl (cy13, 40, .inl (fun _ => 0))), (q14, .inl (cy15, 40, .inl (fun _ => 0))), (q35, .inl (cy36, 40, .inl (fun _ => 0))), (q45, .inl (cy46, 40, .inl (fun _ => 0)))] := hD
  refine lv_aload_n hx hb dX15_init_393 rfl (lv_at hl 0 rfl) ?_
  refine lv_bipush (v := 40) hx hb dX15_init_394 (by decide) ?_
  refine px_newaJ (atype := .int) hx hb (hu _ u3) hP hS 40 (by decide) (by decide) (by decide) (Nat.le_of_ble_eq_true rfl) (Nat.le_of_ble_eq_true rfl) dX15_init_396 (fun q47 H hP hS => ?_)
  refine W.widen (k := 124) (n := 114480) (Nat.le_of_ble_eq_true rfl) (Nat.le_of_ble_eq_true rfl) ?_
  refine va_putF (D := (dC, dI)) (ci := 15) (v := .ref q47) (ty := .array .int) (C := RX15) (T := TX15) (N := 74) hx hb hu iX15 tyX15 tyX15_ok nmX15 hown hK hP hD hS 0 rfl rfl 48 (by decide) (hu _ u211) (fun _ h9 => h9) rfl hin rfl (by decide +kernel) rfl rfl (Nat.le_of_ble_eq_true rfl) dX15_init_398 (fun H locs hP hD hS => ?_)
  have hP : va_P (dC, dI) clx [(h0, .inr (15, [.int 0, .ref q1, .ref q2, .ref q3, .ref q4, .ref q5, .ref q6, .ref q7, .ref q8, .ref q10, .ref q12, .ref q14, .int 0, .ref q16, .int 0, .ref q17, .ref q18, .ref q19, .ref q20, .ref q21, .ref q22, .ref q23, .int 0, .ref q24, .ref q25, .ref q26, .ref q27, .ref q28, .ref q29, .ref q30, .ref q31, .ref q32, .ref q33, .ref q34, .int 0, .ref q35, .ref q37, .ref q38, .ref q39, .ref q40, .ref q41, .ref q42, .int 0, .ref q43, .ref q44, .int 0, .int (-1), .ref q45, .ref q47, .null, .null, .null, .null, .null, .null, .null, .null, .null, .null, .null, .null, .null, .null, .null, .null, .int 0, .int 0, .null, .long 0, .long 0, .long 0, .long 0, .int 0, .null])), (q8, .inl (cy9, 40, .inr (.inl (fun _ => 0)))), (q10, .inl (cy11, 40, .inr (.inl (fun _ => 0)))), (q12, .inl (cy13, 40, .inl (fun _ => 0))), (q14, .inl (cy15, 40, .inl (fun _ => 0))), (q35, .inl (cy36, 40, .inl (fun _ => 0))), (q45, .inl (cy46, 40, .inl (fun _ => 0)))] H := hP
  have hD : va_D A [(h0, .inr (15, [.int 0, .ref q1, .ref q2, .ref q3, .ref q4, .ref q5, .ref q6, .ref q7, .ref q8, .ref q10, .ref q12, .ref q14, .int 0, .ref q16, .int 0, .ref q17, .ref q18, .ref q19, .ref q20, .ref q21, .ref q22, .ref q23, .int 0, .ref q24, .ref q25, .ref q26, .ref q27, .ref q28, .ref q29, .ref q30, .ref q31, .ref q32, .ref q33, .ref q34, .int 0, .ref q35, .ref q37, .ref q38, .ref q39, .ref q40, .ref q41, .ref q42, .int 0, .ref q43, .ref q44, .int 0, .int (-1), .ref q45, .ref q47, .null, .null, .null, .null, .null, .null, .null, .null, .null, .null, .null, .null, .null, .null, .null, .null, .int 0, .int 0, .null, .long 0, .long 0, .long 0, .long 0, .int 0, .null])), (q8, .inl (cy9, 40, .inr (.inl (fun _ => 0)))), (q10, .inl (cy11, 40, .inr (.inl (fun _ => 0)))), (q12, .inl (cy13, 40, .inl (fun _ => 0))), (q14, .inl (cy15, 40, .inl (fun _ => 0))), (q35, .inl (cy36, 40, .inl (fun _ => 0))), (q45, .inl (cy46, 40, .inl (fun _ => 0)))] := hD
  refine lv_aload_n hx hb dX15_init_401 rfl (lv_at hl 0 rfl) ?_
  refine lv_bipush (v := 40) hx hb dX15_init_402 (by decide) ?_
  refine px_newaJ (atype := .int) hx hb (hu _ u3) hP hS 40 (by decide) (by decide) (by decide) (Nat.le_of_ble_eq_true rfl) (Nat.le_of_ble_eq_true rfl) dX15_init_404 (fun q48 H hP hS => ?_)
  refine W.widen (k := 125) (n := 114520) (Nat.le_of_ble_eq_true rfl) (Nat.le_of_ble_eq_true rfl) ?_
  refine va_putF (D := (dC, dI)) (ci := 15) (v := .ref q48) (ty := .array .int) (C := RX15) (T := TX15) (N := 74) hx hb hu iX15 tyX15 tyX15_ok nmX15 hown hK hP hD hS 0 rfl rfl 49 (by decide) (hu _ u212) (fun _ h9 => h9) rfl hin rfl (by decide +kernel) rfl rfl (Nat.le_of_ble_eq_true rfl) dX15_init_406 (fun H locs hP hD hS => ?_)
  have hP : va_P (dC, dI) clx [(h0, .inr (15, [.int 0, .ref q1, .ref q2, .ref q3, .ref q4, .ref q5, .ref q6, .ref q7, .ref q8, .ref q10, .ref q12, .ref q14, .int 0, .ref q16, .int 0, .ref q17, .ref q18, .ref q19, .ref q20, .ref q21, .ref q22, .ref q23, .int 0, .ref q24, .ref q25, .ref q26, .ref q27, .ref q28, .ref q29, .ref q30, .ref q31, .ref q32, .ref q33, .ref q34, .int 0, .ref q35, .ref q37, .ref q38, .ref q39, .ref q40, .ref q41, .ref q42, .int 0, .ref q43, .ref q44, .int 0, .int (-1), .ref q45, .ref q47, .ref q48, .null, .null, .null, .null, .null, .null, .null, .null, .null, .null, .null, .null, .null, .null, .null, .int 0, .int 0, .null, .long 0, .long 0, .long 0, .long 0, .int 0, .null])), (q8, .inl (cy9, 40, .inr (.inl (fun _ => 0)))), (q10, .inl (cy11, 40, .inr (.inl (fun _ => 0)))), (q12, .inl (cy13, 40, .inl (fun _ => 0))), (q14, .inl (cy15, 40, .inl (fun _ => 0))), (q35, .inl (cy36, 40, .inl (fun _ => 0))), (q45, .inl (cy46, 40, .inl (fun _ => 0)))] H := hP
  have hD : va_D A [(h0, .inr (15, [.int 0, .ref q1, .ref q2, .ref q3, .ref q4, .ref q5, .ref q6, .ref q7, .ref q8, .ref q10, .ref q12, .ref q14, .int 0, .ref q16, .int 0, .ref q17, .ref q18, .ref q19, .ref q20, .ref q21, .ref q22, .ref q23, .int 0, .ref q24, .ref q25, .ref q26, .ref q27, .ref q28, .ref q29, .ref q30, .ref q31, .ref q32, .ref q33, .ref q34, .int 0, .ref q35, .ref q37, .ref q38, .ref q39, .ref q40, .ref q41, .ref q42, .int 0, .ref q43, .ref q44, .int 0, .int (-1), .ref q45, .ref q47, .ref q48, .null, .null, .null, .null, .null, .null, .null, .null, .null, .null, .null, .null, .null, .null, .null, .int 0, .int 0, .null, .long 0, .long 0, .long 0, .long 0, .int 0, .null])), (q8, .inl (cy9, 40, .inr (.inl (fun _ => 0)))), (q10, .inl (cy11, 40, .inr (.inl (fun _ => 0)))), (q12, .inl (cy13, 40, .inl (fun _ => 0))), (q14, .inl (cy15, 40, .inl (fun _ => 0))), (q35, .inl (cy36, 40, .inl (fun _ => 0))), (q45, .inl (cy46, 40, .inl (fun _ => 0)))] := hD
  refine lv_aload_n hx hb dX15_init_409 rfl (lv_at hl 0 rfl) ?_
  refine lv_bipush (v := 40) hx hb dX15_init_410 (by decide) ?_
  refine px_newaJ (atype := .int) hx hb (hu _ u3) hP hS 40 (by decide) (by decide) (by decide) (Nat.le_of_ble_eq_true rfl) (Nat.le_of_ble_eq_true rfl) dX15_init_412 (fun q49 H hP hS => ?_)
  refine W.widen (k := 126) (n := 114560) (Nat.le_of_ble_eq_true rfl) (Nat.le_of_ble_eq_true rfl) ?_
  refine va_putF (D := (dC, dI)) (ci := 15) (v := .ref q49) (ty := .array .int) (C := RX15) (T := TX15) (N := 74) hx hb hu iX15 tyX15 tyX15_ok nmX15 hown hK hP hD hS 0 rfl rfl 50 (by decide) (hu _ u213) (fun _ h9 => h9) rfl hin rfl (by decide +kernel) rfl rfl (Nat.le_of_ble_eq_true rfl) dX15_init_414 (fun H locs hP hD hS => ?_)
  have hP : va_P (dC, dI) clx [(h0, .inr (15, [.int 0, .ref q1, .ref q2, .ref q3, .ref q4, .ref q5, .ref q6, .ref q7, .ref q8, .ref q10, .ref q12, .ref q14, .int 0, .ref q16, .int 0, .ref q17, .ref q18, .ref q19, .ref q20, .ref q21, .ref q22, .ref q23, .int 0, .ref q24, .ref q25, .ref q26, .ref q27, .ref q28, .ref q29, .ref q30, .ref q31, .ref q32, .ref q33, .ref q34, .int 0, .ref q35, .ref q37, .ref q38, .ref q39, .ref q40, .ref q41, .ref q42, .int 0, .ref q43, .ref q44, .int 0, .int (-1), .ref q45, .ref q47, .ref q48, .ref q49, .null, .null, .null, .null, .null, .null, .null, .null, .null, .null, .null, .null, .null, .null, .int 0, .int 0, .null, .long 0, .long 0, .long 0, .long 0, .int 0, .null])), (q8, .inl (cy9, 40, .inr (.inl (fun _ => 0)))), (q10, .inl (cy11, 40, .inr (.inl (fun _ => 0)))), (q12, .inl (cy13, 40, .inl (fun _ => 0))), (q14, .inl (cy15, 40, .inl (fun _ => 0))), (q35, .inl (cy36, 40, .inl (fun _ => 0))), (q45, .inl (cy46, 40, .inl (fun _ => 0)))] H := hP
  have hD : va_D A [(h0, .inr (15, [.int 0, .ref q1, .ref q2, .ref q3, .ref q4, .ref q5, .ref q6, .ref q7, .ref q8, .ref q10, .ref q12, .ref q14, .int 0, .ref q16, .int 0, .ref q17, .ref q18, .ref q19, .ref q20, .ref q21, .ref q22, .ref q23, .int 0, .ref q24, .ref q25, .ref q26, .ref q27, .ref q28, .ref q29, .ref q30, .ref q31, .ref q32, .ref q33, .ref q34, .int 0, .ref q35, .ref q37, .ref q38, .ref q39, .ref q40, .ref q41, .ref q42, .int 0, .ref q43, .ref q44, .int 0, .int (-1), .ref q45, .ref q47, .ref q48, .ref q49, .null, .null, .null, .null, .null, .null, .null, .null, .null, .null, .null, .null, .null, .null, .int 0, .int 0, .null, .long 0, .long 0, .long 0, .long 0, .int 0, .null])), (q8, .inl (cy9, 40, .inr (.inl (fun _ => 0)))), (q10, .inl (cy11, 40, .inr (.inl (fun _ => 0)))), (q12, .inl (cy13, 40, .inl (fun _ => 0))), (q14, .inl (cy15, 40, .inl (fun _ => 0))), (q35, .inl (cy36, 40, .inl (fun _ => 0))), (q45, .inl (cy46, 40, .inl (fun _ => 0)))] := hD
  refine lv_aload_n hx hb dX15_init_417 rfl (lv_at hl 0 rfl) ?_
  refine lv_sipush (v := 2100) hx hb dX15_init_418 (by decide) ?_
  refine px_newaJ (atype := .boolean) hx hb (hu _ u16) hP hS 2100 (by decide) (by decide) (by decide) (Nat.le_of_ble_eq_true rfl) (Nat.le_of_ble_eq_true rfl) dX15_init_421 (fun q50 H hP hS => ?_)
  refine W.widen (k := 127) (n := 116660) (Nat.le_of_ble_eq_true rfl) (Nat.le_of_ble_eq_true rfl) ?_
  refine va_putF (D := (dC, dI)) (ci := 15) (v := .ref q50) (ty := .array .boolean) (C := RX15) (T := TX15) (N := 74) hx hb hu iX15 tyX15 tyX15_ok nmX15 hown hK hP hD hS 0 rfl rfl 51 (by decide) (hu _ u214) (fun _ h9 => h9) rfl hin rfl (by decide +kernel) rfl rfl (Nat.le_of_ble_eq_true rfl) dX15_init_423 (fun H locs hP hD hS => ?_)
  have hP : va_P (dC, dI) clx [(h0, .inr (15, [.int 0, .ref q1, .ref q2, .ref q3, .ref q4, .ref q5, .ref q6, .ref q7, .ref q8, .ref q10, .ref q12, .ref q14, .int 0, .ref q16, .int 0, .ref q17, .ref q18, .ref q19, .ref q20, .ref q21, .ref q22, .ref q23, .int 0, .ref q24, .ref q25, .ref q26, .ref q27, .ref q28, .ref q29, .ref q30, .ref q31, .ref q32, .ref q33, .ref q34, .int 0, .ref q35, .ref q37, .ref q38, .ref q39, .ref q40, .ref q41, .ref q42, .int 0, .ref q43, .ref q44, .int 0, .int (-1), .ref q45, .ref q47, .ref q48, .ref q49, .ref q50, .null, .null, .null, .null, .null, .null, .null, .null, .null, .null, .null, .null, .null, .int 0, .int 0, .null, .long 0, .long 0, .long 0, .long 0, .int 0, .null])), (q8, .inl (cy9, 40, .inr (.inl (fun _ => 0)))), (q10, .inl (cy11, 40, .inr (.inl (fun _ => 0)))), (q12, .inl (cy13, 40, .inl (fun _ => 0))), (q14, .inl (cy15, 40, .inl (fun _ => 0))), (q35, .inl (cy36, 40, .inl (fun _ => 0))), (q45, .inl (cy46, 40, .inl (fun _ => 0)))] H := hP
  have hD : va_D A [(h0, .inr (15, [.int 0, .ref q1, .ref q2, .ref q3, .ref q4, .ref q5, .ref q6, .ref q7, .ref q8, .ref q10, .ref q12, .ref q14, .int 0, .ref q16, .int 0, .ref q17, .ref q18, .ref q19, .ref q20, .ref q21, .ref q22, .ref q23, .int 0, .ref q24, .ref q25, .ref q26, .ref q27, .ref q28, .ref q29, .ref q30, .ref q31, .ref q32, .ref q33, .ref q34, .int 0, .ref q35, .ref q37, .ref q38, .ref q39, .ref q40, .ref q41, .ref q42, .int 0, .ref q43, .ref q44, .int 0, .int (-1), .ref q45, .ref q47, .ref q48, .ref q49, .ref q50, .null, .null, .null, .null, .null, .null, .null, .null, .null, .null, .null, .null, .null, .int 0, .int 0, .null, .long 0, .long 0, .long 0, .long 0, .int 0, .null])), (q8, .inl (cy9, 40, .inr (.inl (fun _ => 0)))), (q10, .inl (cy11, 40, .inr (.inl (fun _ => 0)))), (q12, .inl (cy13, 40, .inl (fun _ => 0))), (q14, .inl (cy15, 40, .inl (fun _ => 0))), (q35, .inl (cy36, 40, .inl (fun _ => 0))), (q45, .inl (cy46, 40, .inl (fun _ => 0)))] := hD
  refine lv_aload_n hx hb dX15_init_426 rfl (lv_at hl 0 rfl) ?_
  refine px_new (ci := 14) (fs := dfX14) (C := RX14) (T := TX14) (N := 5) hx hb hu iX14 tyX14 tyX14_ok hown (hu _ u182) (hu _ u183) (hu _ u184) hK hP hS rfl dfX14_ok (Nat.le_of_ble_eq_true rfl) (Nat.le_of_ble_eq_true rfl) dX15_init_427 (fun q51 H hP hq hlt hq0 hS => ?_)
  refine W.widen (k := 128) (n := 116665) (Nat.le_of_ble_eq_true rfl) (Nat.le_of_ble_eq_true rfl) ?_
  refine lv_dup hx hb dX15_init_430 rfl ?_
  refine px_initN (As := []) (rest := [.ref q51, .ref h0]) (nL := 1) (j_X14_init l) ⟨hx, hb, hml, hown, hu⟩ ⟨va_cnB 0 hu (gC u186) rfl rfl rfl hev.1.2.1 (hu _ u184) (by decide +kernel) ⟨(Nat.le_of_ble_eq_true rfl), (Nat.le_of_ble_eq_true rfl)⟩, rfl, hu _ u185⟩ (hK.sub [] rfl) hev hP hq hlt hq0 hS hA rfl hl.1 (Nat.le_of_ble_eq_true rfl) dX15_init_431 ⟨(Nat.le_of_ble_eq_true rfl), (Nat.le_of_ble_eq_true rfl)⟩ (fun H locs hP hS => ?_)
  refine W.widen (k := 138) (n := 118521) (Nat.le_of_ble_eq_true rfl) (Nat.le_of_ble_eq_true rfl) ?_
  refine va_putF (D := (dC, dI)) (ci := 15) (v := .ref q51) (ty := .object "CubicBenchModel$Pt") (C := RX15) (T := TX15) (N := 74) hx hb hu iX15 tyX15 tyX15_ok nmX15 hown hK hP hD hS 0 rfl rfl 52 (by decide) (hu _ u215) (fun _ h9 => h9) rfl hin rfl (by decide +kernel) rfl rfl (Nat.le_of_ble_eq_true rfl) dX15_init_434 (fun H locs hP hD hS => ?_)
  have hP : va_P (dC, dI) clx [(h0, .inr (15, [.int 0, .ref q1, .ref q2, .ref q3, .ref q4, .ref q5, .ref q6, .ref q7, .ref q8, .ref q10, .ref q12, .ref q14, .int 0, .ref q16, .int 0, .ref q17, .ref q18, .ref q19, .ref q20, .ref q21, .ref q22, .ref q23, .int 0, .ref q24, .ref q25, .ref q26, .ref q27, .ref q28, .ref q29, .ref q30, .ref q31, .ref q32, .ref q33, .ref q34, .int 0, .ref q35, .ref q37, .ref q38, .ref q39, .ref q40, .ref q41, .ref q42, .int 0, .ref q43, .ref q44, .int 0, .int (-1), .ref q45, .ref q47, .ref q48, .ref q49, .ref q50, .ref q51, .null, .null, .null, .null, .null, .null, .null, .null, .null, .null, .null, .null, .int 0, .int 0, .null, .long 0, .long 0, .long 0, .long 0, .int 0, .null])), (q8, .inl (cy9, 40, .inr (.inl (fun _ => 0)))), (q10, .inl (cy11, 40, .inr (.inl (fun _ => 0)))), (q12, .inl (cy13, 40, .inl (fun _ => 0))), (q14, .inl (cy15, 40, .inl (fun _ => 0))), (q35, .inl (cy36, 40, .inl (fun _ => 0))), (q45, .inl (cy46, 40, .inl (fun _ => 0)))] H := hP
  have hD : va_D A [(h0, .inr (15, [.int 0, .ref q1, .ref q2, .ref q3, .ref q4, .ref q5, .ref q6, .ref q7, .ref q8, .ref q10, .ref q12, .ref q14, .int 0, .ref q16, .int 0, .ref q17, .ref q18, .ref q19, .ref q20, .ref q21, .ref q22, .ref q23, .int 0, .ref q24, .ref q25, .ref q26, .ref q27, .ref q28, .ref q29, .ref q30, .ref q31, .ref q32, .ref q33, .ref q34, .int 0, .ref q35, .ref q37, .ref q38, .ref q39, .ref q40, .ref q41, .ref q42, .int 0, .ref q43, .ref q44, .int 0, .int (-1), .ref q45, .ref q47, .ref q48, .ref q49, .ref q50, .ref q51, .null, .null, .null, .null, .null, .null, .null, .null, .null, .null, .null, .null, .int 0, .int 0, .null, .long 0, .long 0, .long 0, .long 0, .int 0, .null])), (q8, .inl (cy9, 40, .inr (.inl (fun _ => 0)))), (q10, .inl (cy11, 40, .inr (.inl (fun _ => 0)))), (q12, .inl (cy13, 40, .inl (fun _ => 0))), (q14, .inl (cy15, 40, .inl (fun _ => 0))), (q35, .inl (cy36, 40, .inl (fun _ => 0))), (q45, .inl (cy46, 40, .inl (fun _ => 0)))] := hD
  refine lv_aload_n hx hb dX15_init_437 rfl (lv_at hl 0 rfl) ?_
  refine px_new (ci := 14) (fs := dfX14) (C := RX14) (T := TX14) (N := 5) hx hb hu iX14 tyX14 tyX14_ok hown (hu _ u182) (hu _ u183) (hu _ u184) hK hP hS rfl dfX14_ok (Nat.le_of_ble_eq_true rfl) (Nat.le_of_ble_eq_true rfl) dX15_init_438 (fun q52 H hP hq hlt hq0 hS => ?_)
  refine W.widen (k := 139) (n := 118526) (Nat.le_of_ble_eq_true rfl) (Nat.le_of_ble_eq_true rfl) ?_
  refine lv_dup hx hb dX15_init_441 rfl ?_
  refine px_initN (As := []) (rest := [.ref q52, .ref h0]) (nL := 1) (j_X14_init l) ⟨hx, hb, hml, hown, hu⟩ ⟨va_cnB 0 hu (gC u186) rfl rfl rfl hev.1.2.1 (hu _ u184) (by decide +kernel) ⟨(Nat.le_of_ble_eq_true rfl), (Nat.le_of_ble_eq_true rfl)⟩, rfl, hu _ u185⟩ (hK.sub [] rfl) hev hP hq hlt hq0 hS hA rfl hl.1 (Nat.le_of_ble_eq_true rfl) dX15_init_442 ⟨(Nat.le_of_ble_eq_true rfl), (Nat.le_of_ble_eq_true rfl)⟩ (fun H locs hP hS => ?_)
  refine W.widen (k := 149) (n := 120382) (Nat.le_of_ble_eq_true rfl) (Nat.le_of_ble_eq_true rfl) ?_
  refine va_putF (D := (dC, dI)) (ci := 15) (v := .ref q52) (ty := .object "CubicBenchModel$Pt") (C := RX15) (T := TX15) (N := 74) hx hb hu iX15 tyX15 tyX15_ok nmX15 hown hK hP hD hS 0 rfl rfl 53 (by decide) (hu _ u216) (fun _ h9 => h9) rfl hin rfl (by decide +kernel) rfl rfl (Nat.le_of_ble_eq_true rfl) dX15_init_445 (fun H locs hP hD hS => ?_)
  have hP : va_P (dC, dI) clx [(h0, .inr (15, [.int 0, .ref q1, .ref q2, .ref q3, .ref q4, .ref q5, .ref q6, .ref q7, .ref q8, .ref q10, .ref q12, .ref q14, .int 0, .ref q16, .int 0, .ref q17, .ref q18, .ref q19, .ref q20, .ref q21, .ref q22, .ref q23, .int 0, .ref q24, .ref q25, .ref q26, .ref q27, .ref q28, .ref q29, .ref q30, .ref q31, .ref q32, .ref q33, .ref q34, .int 0, .ref q35, .ref q37, .ref q38, .ref q39, .ref q40, .ref q41, .ref q42, .int 0, .ref q43, .ref q44, .int 0, .int (-1), .ref q45, .ref q47, .ref q48, .ref q49, .ref q50, .ref q51, .ref q52, .null, .null, .null, .null, .null, .null, .null, .null, .null, .null, .null, .int 0, .int 0, .null, .long 0, .long 0, .long 0, .long 0, .int 0, .null])), (q8, .inl (cy9, 40, .inr (.inl (fun _ => 0)))), (q10, .inl (cy11, 40, .inr (.inl (fun _ => 0)))), (q12, .inl (cy13, 40, .inl (fun _ => 0))), (q14, .inl (cy15, 40, .inl (fun _ => 0))), (q35, .inl (cy36, 40, .inl (fun _ => 0))), (q45, .inl (cy46, 40, .inl (fun _ => 0)))] H := hP
  have hD : va_D A [(h0, .inr (15, [.int 0, .ref q1, .ref q2, .ref q3, .ref q4, .ref q5, .ref q6, .ref q7, .ref q8, .ref q10, .ref q12, .ref q14, .int 0, .ref q16, .int 0, .ref q17, .ref q18, .ref q19, .ref q20, .ref q21, .ref q22, .ref q23, .int 0, .ref q24, .ref q25, .ref q26, .ref q27, .ref q28, .ref q29, .ref q30, .ref q31, .ref q32, .ref q33, .ref q34, .int 0, .ref q35, .ref q37, .ref q38, .ref q39, .ref q40, .ref q41, .ref q42, .int 0, .ref q43, .ref q44, .int 0, .int (-1), .ref q45, .ref q47, .ref q48, .ref q49, .ref q50, .ref q51, .ref q52, .null, .null, .null, .null, .null, .null, .null, .null, .null, .null, .null, .int 0, .int 0, .null, .long 0, .long 0, .long 0, .long 0, .int 0, .null])), (q8, .inl (cy9, 40, .inr (.inl (fun _ => 0)))), (q10, .inl (cy11, 40, .inr (.inl (fun _ => 0)))), (q12, .inl (cy13, 40, .inl (fun _ => 0))), (q14, .inl (cy15, 40, .inl (fun _ => 0))), (q35, .inl (cy36, 40, .inl (fun _ => 0))), (q45, .inl (cy46, 40, .inl (fun _ => 0)))] := hD
  refine lv_aload_n hx hb dX15_init_448 rfl (lv_at hl 0 rfl) ?_
  refine px_new (ci := 14) (fs := dfX14) (C := RX14) (T := TX14) (N := 5) hx hb hu iX14 tyX14 tyX14_ok hown (hu _ u182) (hu _ u183) (hu _ u184) hK hP hS rfl dfX14_ok (Nat.le_of_ble_eq_true rfl) (Nat.le_of_ble_eq_true rfl) dX15_init_449 (fun q53 H hP hq hlt hq0 hS => ?_)
  refine W.widen (k := 150) (n := 120387) (Nat.le_of_ble_eq_true rfl) (Nat.le_of_ble_eq_true rfl) ?_
  refine lv_dup hx hb dX15_init_452 rfl ?_
  refine px_initN (As := []) (rest := [.ref q53, .ref h0]) (nL := 1) (j_X14_init l) ⟨hx, hb, hml, hown, hu⟩ ⟨va_cnB 0 hu (gC u186) rfl rfl rfl hev.1.2.1 (hu _ u184) (by decide +kernel) ⟨(Nat.le_of_ble_eq_true rfl), (Nat.le_of_ble_eq_true rfl)⟩, rfl, hu _ u185⟩ (hK.sub [] rfl) hev hP hq hlt hq0 hS hA rfl hl.1 (Nat.le_of_ble_eq_true rfl) dX15_init_453 ⟨(Nat.le_of_ble_eq_true rfl), (Nat.le_of_ble_eq_true rfl)⟩ (fun H locs hP hS => ?_)
  refine W.widen (k := 160) (n := 122243) (Nat.le_of_ble_eq_true rfl) (Nat.le_of_ble_eq_true rfl) ?_
  refine va_putF (D := (dC, dI)) (ci := 15) (v := .ref q53) (ty := .object "CubicBenchModel$Pt") (C := RX15) (T := TX15) (N := 74) hx hb hu iX15 tyX15 tyX15_ok nmX15 hown hK hP hD hS 0 rfl rfl 54 (by decide) (hu _ u217) (fun _ h9 => h9) rfl hin rfl (by decide +kernel) rfl rfl (Nat.le_of_ble_eq_true rfl) dX15_init_456 (fun H locs hP hD hS => ?_)
  have hP : va_P (dC, dI) clx [(h0, .inr (15, [.int 0, .ref q1, .ref q2, .ref q3, .ref q4, .ref q5, .ref q6, .ref q7, .ref q8, .ref q10, .ref q12, .ref q14, .int 0, .ref q16, .int 0, .ref q17, .ref q18, .ref q19, .ref q20, .ref q21, .ref q22, .ref q23, .int 0, .ref q24, .ref q25, .ref q26, .ref q27, .ref q28, .ref q29, .ref q30, .ref q31, .ref q32, .ref q33, .ref q34, .int 0, .ref q35, .ref q37, .ref q38, .ref q39, .ref q40, .ref q41, .ref q42, .int 0, .ref q43, .ref q44, .int 0, .int (-1), .ref q45, .ref q47, .ref q48, .ref q49, .ref q50, .ref q51, .ref q52, .ref q53, .null, .null, .null, .null, .null, .null, .null, .null, .null, .null, .int 0, .int 0, .null, .long 0, .long 0, .long 0, .long 0, .int 0, .null])), (q8, .inl (cy9, 40, .inr (.inl (fun _ => 0)))), (q10, .inl (cy11, 40, .inr (.inl (fun _ => 0)))), (q12, .inl (cy13, 40, .inl (fun _ => 0))), (q14, .inl (cy15, 40, .inl (fun _ => 0))), (q35, .inl (cy36, 40, .inl (fun _ => 0))), (q45, .inl (cy46, 40, .inl (fun _ => 0)))] H := hP
  have hD : va_D A [(h0, .inr (15, [.int 0, .ref q1, .ref q2, .ref q3, .ref q4, .ref q5, .ref q6, .ref q7, .ref q8, .ref q10, .ref q12, .ref q14, .int 0, .ref q16, .int 0, .ref q17, .ref q18, .ref q19, .ref q20, .ref q21, .ref q22, .ref q23, .int 0, .ref q24, .ref q25, .ref q26, .ref q27, .ref q28, .ref q29, .ref q30, .ref q31, .ref q32, .ref q33, .ref q34, .int 0, .ref q35, .ref q37, .ref q38, .ref q39, .ref q40, .ref q41, .ref q42, .int 0, .ref q43, .ref q44, .int 0, .int (-1), .ref q45, .ref q47, .ref q48, .ref q49, .ref q50, .ref q51, .ref q52, .ref q53, .null, .null, .null, .null, .null, .null, .null, .null, .null, .null, .int 0, .int 0, .null, .long 0, .long 0, .long 0, .long 0, .int 0, .null])), (q8, .inl (cy9, 40, .inr (.inl (fun _ => 0)))), (q10, .inl (cy11, 40, .inr (.inl (fun _ => 0)))), (q12, .inl (cy13, 40, .inl (fun _ => 0))), (q14, .inl (cy15, 40, .inl (fun _ => 0))), (q35, .inl (cy36, 40, .inl (fun _ => 0))), (q45, .inl (cy46, 40, .inl (fun _ => 0)))] := hD
  refine lv_aload_n hx hb dX15_init_459 rfl (lv_at hl 0 rfl) ?_
  refine px_new (ci := 14) (fs := dfX14) (C := RX14) (T := TX14) (N := 5) hx hb hu iX14 tyX14 tyX14_ok hown (hu _ u182) (hu _ u183) (hu _ u184) hK hP hS rfl dfX14_ok (Nat.le_of_ble_eq_true rfl) (Nat.le_of_ble_eq_true rfl) dX15_init_460 (fun q54 H hP hq hlt hq0 hS => ?_)
  refine W.widen (k := 161) (n := 122248) (Nat.le_of_ble_eq_true rfl) (Nat.le_of_ble_eq_true rfl) ?_
  refine lv_dup hx hb dX15_init_463 rfl ?_
  refine px_initN (As := []) (rest := [.ref q54, .ref h0]) (nL := 1) (j_X14_init l) ⟨hx, hb, hml, hown, hu⟩ ⟨va_cnB 0 hu (gC u186) rfl rfl rfl hev.1.2.1 (hu _ u184) (by decide +kernel) ⟨(Nat.le_of_ble_eq_true rfl), (Nat.le_of_ble_eq_true rfl)⟩, rfl, hu _ u185⟩ (hK.sub [] rfl) hev hP hq hlt hq0 hS hA rfl hl.1 (Nat.le_of_ble_eq_true rfl) dX15_init_464 ⟨(Nat.le_of_ble_eq_true rfl), (Nat.le_of_ble_eq_true rfl)⟩ (fun H locs hP hS => ?_)
  refine W.widen (k := 171) (n := 124104) (Nat.le_of_ble_eq_true rfl) (Nat.le_of_ble_eq_true rfl) ?_
  refine va_putF (D := (dC, dI)) (ci := 15) (v := .ref q54) (ty := .object "CubicBenchModel$Pt") (C := RX15) (T := TX15) (N := 74) hx hb hu iX15 tyX15 tyX15_ok nmX15 hown hK hP hD hS 0 rfl rfl 55 (by decide) (hu _ u218) (fun _ h9 => h9) rfl hin rfl (by decide +kernel) rfl rfl (Nat.le_of_ble_eq_true rfl) dX15_init_467 (fun H locs hP hD hS => ?_)
  have hP : va_P (dC, dI) clx [(h0, .inr (15, [.int 0, .ref q1, .ref q2, .ref q3, .ref q4, .ref q5, .ref q6, .ref q7, .ref q8, .ref q10, .ref q12, .ref q14, .int 0, .ref q16, .int 0, .ref q17, .ref q18, .ref q19, .ref q20, .ref q21, .ref q22, .ref q23, .int 0, .ref q24, .ref q25, .ref q26, .ref q27, .ref q28, .ref q29, .ref q30, .ref q31, .ref q32, .ref q33, .ref q34, .int 0, .ref q35, .ref q37, .ref q38, .ref q39, .ref q40, .ref q41, .ref q42, .int 0, .ref q43, .ref q44, .int 0, .int (-1), .ref q45, .ref q47, .ref q48, .ref q49, .ref q50, .ref q51, .ref q52, .ref q53, .ref q54, .null, .null, .null, .null, .null, .null, .null, .null, .null, .int 0, .int 0, .null, .long 0, .long 0, .long 0, .long 0, .int 0, .null])), (q8, .inl (cy9, 40, .inr (.inl (fun _ => 0)))), (q10, .inl (cy11, 40, .inr (.inl (fun _ => 0)))), (q12, .inl (cy13, 40, .inl (fun _ => 0))), (q14, .inl (cy15, 40, .inl (fun _ => 0))), (q35, .inl (cy36, 40, .inl (fun _ => 0))), (q45, .inl (cy46, 40, .inl (fun _ => 0)))] H := hP
  have hD : va_D A [(h0, .inr (15, [.int 0, .ref q1, .ref q2, .ref q3, .ref q4, .ref q5, .ref q6, .ref q7, .ref q8, .ref q10, .ref q12, .ref q14, .int 0, .ref q16, .int 0, .ref q17, .ref q18, .ref q19, .ref q20, .ref q21, .ref q22, .ref q23, .int 0, .ref q24, .ref q25, .ref q26, .ref q27, .ref q28, .ref q29, .ref q30, .ref q31, .ref q32, .ref q33, .ref q34, .int 0, .ref q35, .ref q37, .ref q38, .ref q39, .ref q40, .ref q41, .ref q42, .int 0, .ref q43, .ref q44, .int 0, .int (-1), .ref q45, .ref q47, .ref q48, .ref q49, .ref q50, .ref q51, .ref q52, .ref q53, .ref q54, .null, .null, .null, .null, .null, .null, .null, .null, .null, .int 0, .int 0, .null, .long 0, .long 0, .long 0, .long 0, .int 0, .null])), (q8, .inl (cy9, 40, .inr (.inl (fun _ => 0)))), (q10, .inl (cy11, 40, .inr (.inl (fun _ => 0)))), (q12, .inl (cy13, 40, .inl (fun _ => 0))), (q14, .inl (cy15, 40, .inl (fun _ => 0))), (q35, .inl (cy36, 40, .inl (fun _ => 0))), (q45, .inl (cy46, 40, .inl (fun _ => 0)))] := hD
  refine lv_aload_n hx hb dX15_init_470 rfl (lv_at hl 0 rfl) ?_
  refine px_new (ci := 14) (fs := dfX14) (C := RX14) (T := TX14) (N := 5) hx hb hu iX14 tyX14 tyX14_ok hown (hu _ u182) (hu _ u183) (hu _ u184) hK hP hS rfl dfX14_ok (Nat.le_of_ble_eq_true rfl) (Nat.le_of_ble_eq_true rfl) dX15_init_471 (fun q55 H hP hq hlt hq0 hS => ?_)
  refine W.widen (k := 172) (n := 124109) (Nat.le_of_ble_eq_true rfl) (Nat.le_of_ble_eq_true rfl) ?_
  refine lv_dup hx hb dX15_init_474 rfl ?_
  refine px_initN (As := []) (rest := [.ref q55, .ref h0]) (nL := 1) (j_X14_init l) ⟨hx, hb, hml, hown, hu⟩ ⟨va_cnB 0 hu (gC u186) rfl rfl rfl hev.1.2.1 (hu _ u184) (by decide +kernel) ⟨(Nat.le_of_ble_eq_true rfl), (Nat.le_of_ble_eq_true rfl)⟩, rfl, hu _ u185⟩ (hK.sub [] rfl) hev hP hq hlt hq0 hS hA rfl hl.1 (Nat.le_of_ble_eq_true rfl) dX15_init_475 ⟨(Nat.le_of_ble_eq_true rfl), (Nat.le_of_ble_eq_true rfl)⟩ (fun H locs hP hS => ?_)
  refine W.widen (k := 182) (n := 125965) (Nat.le_of_ble_eq_true rfl) (Nat.le_of_ble_eq_true rfl) ?_
  refine va_putF (D := (dC, dI)) (ci := 15) (v := .ref q55) (ty := .object "CubicBenchModel$Pt") (C := RX15) (T := TX15) (N := 74) hx hb hu iX15 tyX15 tyX15_ok nmX15 hown hK hP hD hS 0 rfl rfl 56 (by decide) (hu _ u219) (fun _ h9 => h9) rfl hin rfl (by decide +kernel) rfl rfl (Nat.le_of_ble_eq_true rfl) dX15_init_478 (fun H locs hP hD hS => ?_)
  have hP : va_P (dC, dI) clx [(h0, .inr (15, [.int 0, .ref q1, .ref q2, .ref q3, .ref q4, .ref q5, .ref q6, .ref q7, .ref q8, .ref q10, .ref q12, .ref q14, .int 0, .ref q16, .int 0, .ref q17, .ref q18, .ref q19, .ref q20, .ref q21, .ref q22, .ref q23, .int 0, .ref q24, .ref q25, .ref q26, .ref q27, .ref q28, .ref q29, .ref q30, .ref q31, .ref q32, .ref q33, .ref q34, .int 0, .ref q35, .ref q37, .ref q38, .ref q39, .ref q40, .ref q41, .ref q42, .int 0, .ref q43, .ref q44, .int 0, .int (-1), .ref q45, .ref q47, .ref q48, .ref q49, .ref q50, .ref q51, .ref q52, .ref q53, .ref q54, .ref q55, .null, .null, .null, .null, .null, .null, .null, .null, .int 0, .int 0, .null, .long 0, .long 0, .long 0, .long 0, .int 0, .null])), (q8, .inl (cy9, 40, .inr (.inl (fun _ => 0)))), (q10, .inl (cy11, 40, .inr (.inl (fun _ => 0)))), (q12, .inl (cy13, 40, .inl (fun _ => 0))), (q14, .inl (cy15, 40, .inl (fun _ => 0))), (q35, .inl (cy36, 40, .inl (fun _ => 0))), (q45, .inl (cy46, 40, .inl (fun _ => 0)))] H := hP
  have hD : va_D A [(h0, .inr (15, [.int 0, .ref q1, .ref q2, .ref q3, .ref q4, .ref q5, .ref q6, .ref q7, .ref q8, .ref q10, .ref q12, .ref q14, .int 0, .ref q16, .int 0, .ref q17, .ref q18, .ref q19, .ref q20, .ref q21, .ref q22, .ref q23, .int 0, .ref q24, .ref q25, .ref q26, .ref q27, .ref q28, .ref q29, .ref q30, .ref q31, .ref q32, .ref q33, .ref q34, .int 0, .ref q35, .ref q37, .ref q38, .ref q39, .ref q40, .ref q41, .ref q42, .int 0, .ref q43, .ref q44, .int 0, .int (-1), .ref q45, .ref q47, .ref q48, .ref q49, .ref q50, .ref q51, .ref q52, .ref q53, .ref q54, .ref q55, .null, .null, .null, .null, .null, .null, .null, .null, .int 0, .int 0, .null, .long 0, .long 0, .long 0, .long 0, .int 0, .null])), (q8, .inl (cy9, 40, .inr (.inl (fun _ => 0)))), (q10, .inl (cy11, 40, .inr (.inl (fun _ => 0)))), (q12, .inl (cy13, 40, .inl (fun _ => 0))), (q14, .inl (cy15, 40, .inl (fun _ => 0))), (q35, .inl (cy36, 40, .inl (fun _ => 0))), (q45, .inl (cy46, 40, .inl (fun _ => 0)))] := hD
  refine lv_aload_n hx hb dX15_init_481 rfl (lv_at hl 0 rfl) ?_
  refine px_new (ci := 14) (fs := dfX14) (C := RX14) (T := TX14) (N := 5) hx hb hu iX14 tyX14 tyX14_ok hown (hu _ u182) (hu _ u183) (hu _ u184) hK hP hS rfl dfX14_ok (Nat.le_of_ble_eq_true rfl) (Nat.le_of_ble_eq_true rfl) dX15_init_482 (fun q56 H hP hq hlt hq0 hS => ?_)
  refine W.widen (k := 183) (n := 125970) (Nat.le_of_ble_eq_true rfl) (Nat.le_of_ble_eq_true rfl) ?_
  refine lv_dup hx hb dX15_init_485 rfl ?_
  refine px_initN (As := []) (rest := [.ref q56, .ref h0]) (nL := 1) (j_X14_init l) ⟨hx, hb, hml, hown, hu⟩ ⟨va_cnB 0 hu (gC u186) rfl rfl rfl hev.1.2.1 (hu _ u184) (by decide +kernel) ⟨(Nat.le_of_ble_eq_true rfl), (Nat.le_of_ble_eq_true rfl)⟩, rfl, hu _ u185⟩ (hK.sub [] rfl) hev hP hq hlt hq0 hS hA rfl hl.1 (Nat.le_of_ble_eq_true rfl) dX15_init_486 ⟨(Nat.le_of_ble_eq_true rfl), (Nat.le_of_ble_eq_true rfl)⟩ (fun H locs hP hS => ?_)
  refine W.widen (k := 193) (n := 127826) (Nat.le_of_ble_eq_true rfl) (Nat.le_of_ble_eq_true rfl) ?_
  refine va_putF (D := (dC, dI)) (ci := 15) (v := .ref q56) (ty := .object "CubicBenchModel$Pt") (C := RX15) (T := TX15) (N := 74) hx hb hu iX15 tyX15 tyX15_ok nmX15 hown hK hP hD hS 0 rfl rfl 57 (by decide) (hu _ u220) (fun _ h9 => h9) rfl hin rfl (by decide +kernel) rfl rfl (Nat.le_of_ble_eq_true rfl) dX15_init_489 (fun H locs hP hD hS => ?_)
  have hP : va_P (dC, dI) clx [(h0, .inr (15, [.int 0, .ref q1, .ref q2, .ref q3, .ref q4, .ref q5, .ref q6, .ref q7, .ref q8, .ref q10, .ref q12, .ref q14, .int 0, .ref q16, .int 0, .ref q17, .ref q18, .ref q19, .ref q20, .ref q21, .ref q22, .ref q23, .int 0, .ref q24, .ref q25, .ref q26, .ref q27, .ref q28, .ref q29, .ref q30, .ref q31, .ref q32, .ref q33, .ref q34, .int 0, .ref q35, .ref q37, .ref q38, .ref q39, .ref q40, .ref q41, .ref q42, .int 0, .ref q43, .ref q44, .int 0, .int (-1), .ref q45, .ref q47, .ref q48, .ref q49, .ref q50, .ref q51, .ref q52, .ref q53, .ref q54, .ref q55, .ref q56, .null, .null, .null, .null, .null, .null, .null, .int 0, .int 0, .null, .long 0, .long 0, .long 0, .long 0, .int 0, .null])), (q8, .inl (cy9, 40, .inr (.inl (fun _ => 0)))), (q10, .inl (cy11, 40, .inr (.inl (fun _ => 0)))), (q12, .inl (cy13, 40, .inl (fun _ => 0))), (q14, .inl (cy15, 40, .inl (fun _ => 0))), (q35, .inl (cy36, 40, .inl (fun _ => 0))), (q45, .inl (cy46, 40, .inl (fun _ => 0)))] H := hP
  have hD : va_D A [(h0, .inr (15, [.int 0, .ref q1, .ref q2, .ref q3, .ref q4, .ref q5, .ref q6, .ref q7, .ref q8, .ref q10, .ref q12, .ref q14, .int 0, .ref q16, .int 0, .ref q17, .ref q18, .ref q19, .ref q20, .ref q21, .ref q22, .ref q23, .int 0, .ref q24, .ref q25, .ref q26, .ref q27, .ref q28, .ref q29, .ref q30, .ref q31, .ref q32, .ref q33, .ref q34, .int 0, .ref q35, .ref q37, .ref q38, .ref q39, .ref q40, .ref q41, .ref q42, .int 0, .ref q43, .ref q44, .int 0, .int (-1), .ref q45, .ref q47, .ref q48, .ref q49, .ref q50, .ref q51, .ref q52, .ref q53, .ref q54, .ref q55, .ref q56, .null, .null, .null, .null, .null, .null, .null, .int 0, .int 0, .null, .long 0, .long 0, .long 0, .long 0, .int 0, .null])), (q8, .inl (cy9, 40, .inr (.inl (fun _ => 0)))), (q10, .inl (cy11, 40, .inr (.inl (fun _ => 0)))), (q12, .inl (cy13, 40, .inl (fun _ => 0))), (q14, .inl (cy15, 40, .inl (fun _ => 0))), (q35, .inl (cy36, 40, .inl (fun _ => 0))), (q45, .inl (cy46, 40, .inl (fun _ => 0)))] := hD
  refine lv_aload_n hx hb dX15_init_492 rfl (lv_at hl 0 rfl) ?_
  refine px_new (ci := 14) (fs := dfX14) (C := RX14) (T := TX14) (N := 5) hx hb hu iX14 tyX14 tyX14_ok hown (hu _ u182) (hu _ u183) (hu _ u184) hK hP hS rfl dfX14_ok (Nat.le_of_ble_eq_true rfl) (Nat.le_of_ble_eq_true rfl) dX15_init_493 (fun q57 H hP hq hlt hq0 hS => ?_)
  refine W.widen (k := 194) (n := 127831) (Nat.le_of_ble_eq_true rfl) (Nat.le_of_ble_eq_true rfl) ?_
  refine lv_dup hx hb dX15_init_496 rfl ?_
  refine px_initN (As := []) (rest := [.ref q57, .ref h0]) (nL := 1) (j_X14_init l) ⟨hx, hb, hml, hown, hu⟩ ⟨va_cnB 0 hu (gC u186) rfl rfl rfl hev.1.2.1 (hu _ u184) (by decide +kernel) ⟨(Nat.le_of_ble_eq_true rfl), (Nat.le_of_ble_eq_true rfl)⟩, rfl, hu _ u185⟩ (hK.sub [] rfl) hev hP hq hlt hq0 hS hA rfl hl.1 (Nat.le_of_ble_eq_true rfl) dX15_init_497 ⟨(Nat.le_of_ble_eq_true rfl), (Nat.le_of_ble_eq_true rfl)⟩ (fun H locs hP hS => ?_)
  refine W.widen (k := 204) (n := 129687) (Nat.le_of_ble_eq_true rfl) (Nat.le_of_ble_eq_true rfl) ?_
  refine va_putF (D := (dC, dI)) (ci := 15) (v := .ref q57) (ty := .object "CubicBenchModel$Pt") (C := RX15) (T := TX15) (N := 74) hx hb hu iX15 tyX15 tyX15_ok nmX15 hown hK hP hD hS 0 rfl rfl 58 (by decide) (hu _ u221) (fun _ h9 => h9) rfl hin rfl (by decide +kernel) rfl rfl (Nat.le_of_ble_eq_true rfl) dX15_init_500 (fun H locs hP hD hS => ?_)
  have hP : va_P (dC, dI) clx [(h0, .inr (15, [.int 0, .ref q1, .ref q2, .ref q3, .ref q4, .ref q5, .ref q6, .ref q7, .ref q8, .ref q10, .ref q12, .ref q14, .int 0, .ref q16, .int 0, .ref q17, .ref q18, .ref q19, .ref q20, .ref q21, .ref q22, .ref q23, .int 0, .ref q24, .ref q25, .ref q26, .ref q27, .ref q28, .ref q29, .ref q30, .ref q31, .ref q32, .ref q33, .ref q34, .int 0, .ref q35, .ref q37, .ref q38, .ref q39, .ref q40, .ref q41, .ref q42, .int 0, .ref q43, .ref q44, .int 0, .int (-1), .ref q45, .ref q47, .ref q48, .ref q49, .ref q50, .ref q51, .ref q52, .ref q53, .ref q54, .ref q55, .ref q56, .ref q57, .null, .null, .null, .null, .null, .null, .int 0, .int 0, .null, .long 0, .long 0, .long 0, .long 0, .int 0, .null])), (q8, .inl (cy9, 40, .inr (.inl (fun _ => 0)))), (q10, .inl (cy11, 40, .inr (.inl (fun _ => 0)))), (q12, .inl (cy13, 40, .inl (fun _ => 0))), (q14, .inl (cy15, 40, .inl (fun _ => 0))), (q35, .inl (cy36, 40, .inl (fun _ => 0))), (q45, .inl (cy46, 40, .inl (fun _ => 0)))] H := hP
  have hD : va_D A [(h0, .inr (15, [.int 0, .ref q1, .ref q2, .ref q3, .ref q4, .ref q5, .ref q6, .ref q7, .ref q8, .ref q10, .ref q12, .ref q14, .int 0, .ref q16, .int 0, .ref q17, .ref q18, .ref q19, .ref q20, .ref q21, .ref q22, .ref q23, .int 0, .ref q24, .ref q25, .ref q26, .ref q27, .ref q28, .ref q29, .ref q30, .ref q31, .ref q32, .ref q33, .ref q34, .int 0, .ref q35, .ref q37, .ref q38, .ref q39, .ref q40, .ref q41, .ref q42, .int 0, .ref q43, .ref q44, .int 0, .int (-1), .ref q45, .ref q47, .ref q48, .ref q49, .ref q50, .ref q51, .ref q52, .ref q53, .ref q54, .ref q55, .ref q56, .ref q57, .null, .null, .null, .null, .null, .null, .int 0, .int 0, .null, .long 0, .long 0, .long 0, .long 0, .int 0, .null])), (q8, .inl (cy9, 40, .inr (.inl (fun _ => 0)))), (q10, .inl (cy11, 40, .inr (.inl (fun _ => 0)))), (q12, .inl (cy13, 40, .inl (fun _ => 0))), (q14, .inl (cy15, 40, .inl (fun _ => 0))), (q35, .inl (cy36, 40, .inl (fun _ => 0))), (q45, .inl (cy46, 40, .inl (fun _ => 0)))] := hD
  refine lv_aload_n hx hb dX15_init_503 rfl (lv_at hl 0 rfl) ?_
  refine px_new (ci := 14) (fs := dfX14) (C := RX14) (T := TX14) (N := 5) hx hb hu iX14 tyX14 tyX14_ok hown (hu _ u182) (hu _ u183) (hu _ u184) hK hP hS rfl dfX14_ok (Nat.le_of_ble_eq_true rfl) (Nat.le_of_ble_eq_true rfl) dX15_init_504 (fun q58 H hP hq hlt hq0 hS => ?_)
  refine W.widen (k := 205) (n := 129692) (Nat.le_of_ble_eq_true rfl) (Nat.le_of_ble_eq_true rfl) ?_
  refine lv_dup hx hb dX15_init_507 rfl ?_
  refine px_initN (As := []) (rest := [.ref q58, .ref h0]) (nL := 1) (j_X14_init l) ⟨hx, hb, hml, hown, hu⟩ ⟨va_cnB 0 hu (gC u186) rfl rfl rfl hev.1.2.1 (hu _ u184) (by decide +kernel) ⟨(Nat.le_of_ble_eq_true rfl), (Nat.le_of_ble_eq_true rfl)⟩, rfl, hu _ u185⟩ (hK.sub [] rfl) hev hP hq hlt hq0 hS hA rfl hl.1 (Nat.le_of_ble_eq_true rfl) dX15_init_508 ⟨(Nat.le_of_ble_eq_true rfl), (Nat.le_of_ble_eq_true rfl)⟩ (fun H locs hP hS => ?_)
  refine W.widen (k := 215) (n := 131548) (Nat.le_of_ble_eq_true rfl) (Nat.le_of_ble_eq_true rfl) ?_
  refine va_putF (D := (dC, dI)) (ci := 15) (v := .ref q58) (ty := .object "CubicBenchModel$Pt") (C := RX15) (T := TX15) (N := 74) hx hb hu iX15 tyX15 tyX15_ok nmX15 hown hK hP hD hS 0 rfl rfl 59 (by decide) (hu _ u222) (fun _ h9 => h9) rfl hin rfl (by decide +kernel) rfl rfl (Nat.le_of_ble_eq_true rfl) dX15_init_511 (fun H locs hP hD hS => ?_)
  have hP : va_P (dC, dI) clx [(h0, .inr (15, [.int 0, .ref q1, .ref q2, .ref q3, .ref q4, .ref q5, .ref q6, .ref q7, .ref q8, .ref q10, .ref q12, .ref q14, .int 0, .ref q16, .int 0, .ref q17, .ref q18, .ref q19, .ref q20, .ref q21, .ref q22, .ref q23, .int 0, .ref q24, .ref q25, .ref q26, .ref q27, .ref q28, .ref q29, .ref q30, .ref q31, .ref q32, .ref q33, .ref q34, .int 0, .ref q35, .ref q37, .ref q38, .ref q39, .ref q40, .ref q41, .ref q42, .int 0, .ref q43, .ref q44, .int 0, .int (-1), .ref q45, .ref q47, .ref q48, .ref q49, .ref q50, .ref q51, .ref q52, .ref q53, .ref q54, .ref q55, .ref q56, .ref q57, .ref q58, .null, .null, .null, .null, .null, .int 0, .int 0, .null, .long 0, .long 0, .long 0, .long 0, .int 0, .null])), (q8, .inl (cy9, 40, .inr (.inl (fun _ => 0)))), (q10, .inl (cy11, 40, .inr (.inl (fun _ => 0)))), (q12, .inl (cy13, 40, .inl (fun _ => 0))), (q14, .inl (cy15, 40, .inl (fun _ => 0))), (q35, .inl (cy36, 40, .inl (fun _ => 0))), (q45, .inl (cy46, 40, .inl (fun _ => 0)))] H := hP
  have hD : va_D A [(h0, .inr (15, [.int 0, .ref q1, .ref q2, .ref q3, .ref q4, .ref q5, .ref q6, .ref q7, .ref q8, .ref q10, .ref q12, .ref q14, .int 0, .ref q16, .int 0, .ref q17, .ref q18, .ref q19, .ref q20, .ref q21, .ref q22, .ref q23, .int 0, .ref q24, .ref q25, .ref q26, .ref q27, .ref q28, .ref q29, .ref q30, .ref q31, .ref q32, .ref q33, .ref q34, .int 0, .ref q35, .ref q37, .ref q38, .ref q39, .ref q40, .ref q41, .ref q42, .int 0, .ref q43, .ref q44, .int 0, .int (-1), .ref q45, .ref q47, .ref q48, .ref q49, .ref q50, .ref q51, .ref q52, .ref q53, .ref q54, .ref q55, .ref q56, .ref q57, .ref q58, .null, .null, .null, .null, .null, .int 0, .int 0, .null, .long 0, .long 0, .long 0, .long 0, .int 0, .null])), (q8, .inl (cy9, 40, .inr (.inl (fun _ => 0)))), (q10, .inl (cy11, 40, .inr (.inl (fun _ => 0)))), (q12, .inl (cy13, 40, .inl (fun _ => 0))), (q14, .inl (cy15, 40, .inl (fun _ => 0))), (q35, .inl (cy36, 40, .inl (fun _ => 0))), (q45, .inl (cy46, 40, .inl (fun _ => 0)))] := hD
  refine lv_aload_n hx hb dX15_init_514 rfl (lv_at hl 0 rfl) ?_
  refine lv_sipush (v := 1920) hx hb dX15_init_515 (by decide) ?_
  refine px_newaJ (atype := .long) hx hb (hu _ u19) hP hS 1920 (by decide) (by decide) (by decide) (Nat.le_of_ble_eq_true rfl) (Nat.le_of_ble_eq_true rfl) dX15_init_518 (fun q59 H hP hS => ?_)
  refine W.widen (k := 216) (n := 133468) (Nat.le_of_ble_eq_true rfl) (Nat.le_of_ble_eq_true rfl) ?_
  refine va_putF (D := (dC, dI)) (ci := 15) (v := .ref q59) (ty := .array .long) (C := RX15) (T := TX15) (N := 74) hx hb hu iX15 tyX15 tyX15_ok nmX15 hown hK hP hD hS 0 rfl rfl 60 (by decide) (hu _ u223) (fun _ h9 => h9) rfl hin rfl (by decide +kernel) rfl rfl (Nat.le_of_ble_eq_true rfl) dX15_init_520 (fun H locs hP hD hS => ?_)
  have hP : va_P (dC, dI) clx [(h0, .inr (15, [.int 0, .ref q1, .ref q2, .ref q3, .ref q4, .ref q5, .ref q6, .ref q7, .ref q8, .ref q10, .ref q12, .ref q14, .int 0, .ref q16, .int 0, .ref q17, .ref q18, .ref q19, .ref q20, .ref q21, .ref q22, .ref q23, .int 0, .ref q24, .ref q25, .ref q26, .ref q27, .ref q28, .ref q29, .ref q30, .ref q31, .ref q32, .ref q33, .ref q34, .int 0, .ref q35, .ref q37, .ref q38, .ref q39, .ref q40, .ref q41, .ref q42, .int 0, .ref q43, .ref q44, .int 0, .int (-1), .ref q45, .ref q47, .ref q48, .ref q49, .ref q50, .ref q51, .ref q52, .ref q53, .ref q54, .ref q55, .ref q56, .ref q57, .ref q58, .ref q59, .null, .null, .null, .null, .int 0, .int 0, .null, .long 0, .long 0, .long 0, .long 0, .int 0, .null])), (q8, .inl (cy9, 40, .inr (.inl (fun _ => 0)))), (q10, .inl (cy11, 40, .inr (.inl (fun _ => 0)))), (q12, .inl (cy13, 40, .inl (fun _ => 0))), (q14, .inl (cy15, 40, .inl (fun _ => 0))), (q35, .inl (cy36, 40, .inl (fun _ => 0))), (q45, .inl (cy46, 40, .inl (fun _ => 0)))] H := hP
  have hD : va_D A [(h0, .inr (15, [.int 0, .ref q1, .ref q2, .ref q3, .ref q4, .ref q5, .ref q6, .ref q7, .ref q8, .ref q10, .ref q12, .ref q14, .int 0, .ref q16, .int 0, .ref q17, .ref q18, .ref q19, .ref q20, .ref q21, .ref q22, .ref q23, .int 0, .ref q24, .ref q25, .ref q26, .ref q27, .ref q28, .ref q29, .ref q30, .ref q31, .ref q32, .ref q33, .ref q34, .int 0, .ref q35, .ref q37, .ref q38, .ref q39, .ref q40, .ref q41, .ref q42, .int 0, .ref q43, .ref q44, .int 0, .int (-1), .ref q45, .ref q47, .ref q48, .ref q49, .ref q50, .ref q51, .ref q52, .ref q53, .ref q54, .ref q55, .ref q56, .ref q57, .ref q58, .ref q59, .null, .null, .null, .null, .int 0, .int 0, .null, .long 0, .long 0, .long 0, .long 0, .int 0, .null])), (q8, .inl (cy9, 40, .inr (.inl (fun _ => 0)))), (q10, .inl (cy11, 40, .inr (.inl (fun _ => 0)))), (q12, .inl (cy13, 40, .inl (fun _ => 0))), (q14, .inl (cy15, 40, .inl (fun _ => 0))), (q35, .inl (cy36, 40, .inl (fun _ => 0))), (q45, .inl (cy46, 40, .inl (fun _ => 0)))] := hD
  refine lv_aload_n hx hb dX15_init_523 rfl (lv_at hl 0 rfl) ?_
  refine lv_sipush (v := 160) hx hb dX15_init_524 (by decide) ?_
  refine px_newaJ (atype := .long) hx hb (hu _ u19) hP hS 160 (by decide) (by decide) (by decide) (Nat.le_of_ble_eq_true rfl) (Nat.le_of_ble_eq_true rfl) dX15_init_527 (fun q60 H hP hS => ?_)
  refine W.widen (k := 217) (n := 133628) (Nat.le_of_ble_eq_true rfl) (Nat.le_of_ble_eq_true rfl) ?_
  refine va_putF (D := (dC, dI)) (ci := 15) (v := .ref q60) (ty := .array .long) (C := RX15) (T := TX15) (N := 74) hx hb hu iX15 tyX15 tyX15_ok nmX15 hown hK hP hD hS 0 rfl rfl 61 (by decide) (hu _ u224) (fun _ h9 => h9) rfl hin rfl (by decide +kernel) rfl rfl (Nat.le_of_ble_eq_true rfl) dX15_init_529 (fun H locs hP hD hS => ?_)
  have hP : va_P (dC, dI) clx [(h0, .inr (15, [.int 0, .ref q1, .ref q2, .ref q3, .ref q4, .ref q5, .ref q6, .ref q7, .ref q8, .ref q10, .ref q12, .ref q14, .int 0, .ref q16, .int 0, .ref q17, .ref q18, .ref q19, .ref q20, .ref q21, .ref q22, .ref q23, .int 0, .ref q24, .ref q25, .ref q26, .ref q27, .ref q28, .ref q29, .ref q30, .ref q31, .ref q32, .ref q33, .ref q34, .int 0, .ref q35, .ref q37, .ref q38, .ref q39, .ref q40, .ref q41, .ref q42, .int 0, .ref q43, .ref q44, .int 0, .int (-1), .ref q45, .ref q47, .ref q48, .ref q49, .ref q50, .ref q51, .ref q52, .ref q53, .ref q54, .ref q55, .ref q56, .ref q57, .ref q58, .ref q59, .ref q60, .null, .null, .null, .int 0, .int 0, .null, .long 0, .long 0, .long 0, .long 0, .int 0, .null])), (q8, .inl (cy9, 40, .inr (.inl (fun _ => 0)))), (q10, .inl (cy11, 40, .inr (.inl (fun _ => 0)))), (q12, .inl (cy13, 40, .inl (fun _ => 0))), (q14, .inl (cy15, 40, .inl (fun _ => 0))), (q35, .inl (cy36, 40, .inl (fun _ => 0))), (q45, .inl (cy46, 40, .inl (fun _ => 0)))] H := hP
  have hD : va_D A [(h0, .inr (15, [.int 0, .ref q1, .ref q2, .ref q3, .ref q4, .ref q5, .ref q6, .ref q7, .ref q8, .ref q10, .ref q12, .ref q14, .int 0, .ref q16, .int 0, .ref q17, .ref q18, .ref q19, .ref q20, .ref q21, .ref q22, .ref q23, .int 0, .ref q24, .ref q25, .ref q26, .ref q27, .ref q28, .ref q29, .ref q30, .ref q31, .ref q32, .ref q33, .ref q34, .int 0, .ref q35, .ref q37, .ref q38, .ref q39, .ref q40, .ref q41, .ref q42, .int 0, .ref q43, .ref q44, .int 0, .int (-1), .ref q45, .ref q47, .ref q48, .ref q49, .ref q50, .ref q51, .ref q52, .ref q53, .ref q54, .ref q55, .ref q56, .ref q57, .ref q58, .ref q59, .ref q60, .null, .null, .null, .int 0, .int 0, .null, .long 0, .long 0, .long 0, .long 0, .int 0, .null])), (q8, .inl (cy9, 40, .inr (.inl (fun _ => 0)))), (q10, .inl (cy11, 40, .inr (.inl (fun _ => 0)))), (q12, .inl (cy13, 40, .inl (fun _ => 0))), (q14, .inl (cy15, 40, .inl (fun _ => 0))), (q35, .inl (cy36, 40, .inl (fun _ => 0))), (q45, .inl (cy46, 40, .inl (fun _ => 0)))] := hD
  refine lv_aload_n hx hb dX15_init_532 rfl (lv_at hl 0 rfl) ?_
  refine lv_sipush (v := 160) hx hb dX15_init_533 (by decide) ?_
  refine px_newaJ (atype := .long) hx hb (hu _ u19) hP hS 160 (by decide) (by decide) (by decide) (Nat.le_of_ble_eq_true rfl) (Nat.le_of_ble_eq_true rfl) dX15_init_536 (fun q61 H hP hS => ?_)
  refine W.widen (k := 218) (n := 133788) (Nat.le_of_ble_eq_true rfl) (Nat.le_of_ble_eq_true rfl) ?_
  refine va_putF (D := (dC, dI)) (ci := 15) (v := .ref q61) (ty := .array .long) (C := RX15) (T := TX15) (N := 74) hx hb hu iX15 tyX15 tyX15_ok nmX15 hown hK hP hD hS 0 rfl rfl 62 (by decide) (hu _ u225) (fun _ h9 => h9) rfl hin rfl (by decide +kernel) rfl rfl (Nat.le_of_ble_eq_true rfl) dX15_init_538 (fun H locs hP hD hS => ?_)
  have hP : va_P (dC, dI) clx [(h0, .inr (15, [.int 0, .ref q1, .ref q2, .ref q3, .ref q4, .ref q5, .ref q6, .ref q7, .ref q8, .ref q10, .ref q12, .ref q14, .int 0, .ref q16, .int 0, .ref q17, .ref q18, .ref q19, .ref q20, .ref q21, .ref q22, .ref q23, .int 0, .ref q24, .ref q25, .ref q26, .ref q27, .ref q28, .ref q29, .ref q30, .ref q31, .ref q32, .ref q33, .ref q34, .int 0, .ref q35, .ref q37, .ref q38, .ref q39, .ref q40, .ref q41, .ref q42, .int 0, .ref q43, .ref q44, .int 0, .int (-1), .ref q45, .ref q47, .ref q48, .ref q49, .ref q50, .ref q51, .ref q52, .ref q53, .ref q54, .ref q55, .ref q56, .ref q57, .ref q58, .ref q59, .ref q60, .ref q61, .null, .null, .int 0, .int 0, .null, .long 0, .long 0, .long 0, .long 0, .int 0, .null])), (q8, .inl (cy9, 40, .inr (.inl (fun _ => 0)))), (q10, .inl (cy11, 40, .inr (.inl (fun _ => 0)))), (q12, .inl (cy13, 40, .inl (fun _ => 0))), (q14, .inl (cy15, 40, .inl (fun _ => 0))), (q35, .inl (cy36, 40, .inl (fun _ => 0))), (q45, .inl (cy46, 40, .inl (fun _ => 0)))] H := hP
  have hD : va_D A [(h0, .inr (15, [.int 0, .ref q1, .ref q2, .ref q3, .ref q4, .ref q5, .ref q6, .ref q7, .ref q8, .ref q10, .ref q12, .ref q14, .int 0, .ref q16, .int 0, .ref q17, .ref q18, .ref q19, .ref q20, .ref q21, .ref q22, .ref q23, .int 0, .ref q24, .ref q25, .ref q26, .ref q27, .ref q28, .ref q29, .ref q30, .ref q31, .ref q32, .ref q33, .ref q34, .int 0, .ref q35, .ref q37, .ref q38, .ref q39, .ref q40, .ref q41, .ref q42, .int 0, .ref q43, .ref q44, .int 0, .int (-1), .ref q45, .ref q47, .ref q48, .ref q49, .ref q50, .ref q51, .ref q52, .ref q53, .ref q54, .ref q55, .ref q56, .ref q57, .ref q58, .ref q59, .ref q60, .ref q61, .null, .null, .int 0, .int 0, .null, .long 0, .long 0, .long 0, .long 0, .int 0, .null])), (q8, .inl (cy9, 40, .inr (.inl (fun _ => 0)))), (q10, .inl (cy11, 40, .inr (.inl (fun _ => 0)))), (q12, .inl (cy13, 40, .inl (fun _ => 0))), (q14, .inl (cy15, 40, .inl (fun _ => 0))), (q35, .inl (cy36, 40, .inl (fun _ => 0))), (q45, .inl (cy46, 40, .inl (fun _ => 0)))] := hD
  refine lv_aload_n hx hb dX15_init_541 rfl (lv_at hl 0 rfl) ?_
  refine lv_sipush (v := 160) hx hb dX15_init_542 (by decide) ?_
  refine px_newaJ (atype := .long) hx hb (hu _ u19) hP hS 160 (by decide) (by decide) (by decide) (Nat.le_of_ble_eq_true rfl) (Nat.le_of_ble_eq_true rfl) dX15_init_545 (fun q62 H hP hS => ?_)
  refine W.widen (k := 219) (n := 133948) (Nat.le_of_ble_eq_true rfl) (Nat.le_of_ble_eq_true rfl) ?_
  refine va_putF (D := (dC, dI)) (ci := 15) (v := .ref q62) (ty := .array .long) (C := RX15) (T := TX15) (N := 74) hx hb hu iX15 tyX15 tyX15_ok nmX15 hown hK hP hD hS 0 rfl rfl 63 (by decide) (hu _ u226) (fun _ h9 => h9) rfl hin rfl (by decide +kernel) rfl rfl (Nat.le_of_ble_eq_true rfl) dX15_init_547 (fun H locs hP hD hS => ?_)
  have hP : va_P (dC, dI) clx [(h0, .inr (15, [.int 0, .ref q1, .ref q2, .ref q3, .ref q4, .ref q5, .ref q6, .ref q7, .ref q8, .ref q10, .ref q12, .ref q14, .int 0, .ref q16, .int 0, .ref q17, .ref q18, .ref q19, .ref q20, .ref q21, .ref q22, .ref q23, .int 0, .ref q24, .ref q25, .ref q26, .ref q27, .ref q28, .ref q29, .ref q30, .ref q31, .ref q32, .ref q33, .ref q34, .int 0, .ref q35, .ref q37, .ref q38, .ref q39, .ref q40, .ref q41, .ref q42, .int 0, .ref q43, .ref q44, .int 0, .int (-1), .ref q45, .ref q47, .ref q48, .ref q49, .ref q50, .ref q51, .ref q52, .ref q53, .ref q54, .ref q55, .ref q56, .ref q57, .ref q58, .ref q59, .ref q60, .ref q61, .ref q62, .null, .int 0, .int 0, .null, .long 0, .long 0, .long 0, .long 0, .int 0, .null])), (q8, .inl (cy9, 40, .inr (.inl (fun _ => 0)))), (q10, .inl (cy11, 40, .inr (.inl (fun _ => 0)))), (q12, .inl (cy13, 40, .inl (fun _ => 0))), (q14, .inl (cy15, 40, .inl (fun _ => 0))), (q35, .inl (cy36, 40, .inl (fun _ => 0))), (q45, .inl (cy46, 40, .inl (fun _ => 0)))] H := hP
  have hD : va_D A [(h0, .inr (15, [.int 0, .ref q1, .ref q2, .ref q3, .ref q4, .ref q5, .ref q6, .ref q7, .ref q8, .ref q10, .ref q12, .ref q14, .int 0, .ref q16, .int 0, .ref q17, .ref q18, .ref q19, .ref q20, .ref q21, .ref q22, .ref q23, .int 0, .ref q24, .ref q25, .ref q26, .ref q27, .ref q28, .ref q29, .ref q30, .ref q31, .ref q32, .ref q33, .ref q34, .int 0, .ref q35, .ref q37, .ref q38, .ref q39, .ref q40, .ref q41, .ref q42, .int 0, .ref q43, .ref q44, .int 0, .int (-1), .ref q45, .ref q47, .ref q48, .ref q49, .ref q50, .ref q51, .ref q52, .ref q53, .ref q54, .ref q55, .ref q56, .ref q57, .ref q58, .ref q59, .ref q60, .ref q61, .ref q62, .null, .int 0, .int 0, .null, .long 0, .long 0, .long 0, .long 0, .int 0, .null])), (q8, .inl (cy9, 40, .inr (.inl (fun _ => 0)))), (q10, .inl (cy11, 40, .inr (.inl (fun _ => 0)))), (q12, .inl (cy13, 40, .inl (fun _ => 0))), (q14, .inl (cy15, 40, .inl (fun _ => 0))), (q35, .inl (cy36, 40, .inl (fun _ => 0))), (q45, .inl (cy46, 40, .inl (fun _ => 0)))] := hD
  refine lv_aload_n hx hb dX15_init_550 rfl (lv_at hl 0 rfl) ?_
  refine lv_sipush (v := 160) hx hb dX15_init_551 (by decide) ?_
  refine px_newaJ (atype := .long) hx hb (hu _ u19) hP hS 160 (by decide) (by decide) (by decide) (Nat.le_of_ble_eq_true rfl) (Nat.le_of_ble_eq_true rfl) dX15_init_554 (fun q63 H hP hS => ?_)
  refine W.widen (k := 220) (n := 134108) (Nat.le_of_ble_eq_true rfl) (Nat.le_of_ble_eq_true rfl) ?_
  refine va_putF (D := (dC, dI)) (ci := 15) (v := .ref q63) (ty := .array .long) (C := RX15) (T := TX15) (N := 74) hx hb hu iX15 tyX15 tyX15_ok nmX15 hown hK hP hD hS 0 rfl rfl 64 (by decide) (hu _ u227) (fun _ h9 => h9) rfl hin rfl (by decide +kernel) rfl rfl (Nat.le_of_ble_eq_true rfl) dX15_init_556 (fun H locs hP hD hS => ?_)
  have hP : va_P (dC, dI) clx [(h0, .inr (15, [.int 0, .ref q1, .ref q2, .ref q3, .ref q4, .ref q5, .ref q6, .ref q7, .ref q8, .ref q10, .ref q12, .ref q14, .int 0, .ref q16, .int 0, .ref q17, .ref q18, .ref q19, .ref q20, .ref q21, .ref q22, .ref q23, .int 0, .ref q24, .ref q25, .ref q26, .ref q27, .ref q28, .ref q29, .ref q30, .ref q31, .ref q32, .ref q33, .ref q34, .int 0, .ref q35, .ref q37, .ref q38, .ref q39, .ref q40, .ref q41, .ref q42, .int 0, .ref q43, .ref q44, .int 0, .int (-1), .ref q45, .ref q47, .ref q48, .ref q49, .ref q50, .ref q51, .ref q52, .ref q53, .ref q54, .ref q55, .ref q56, .ref q57, .ref q58, .ref q59, .ref q60, .ref q61, .ref q62, .ref q63, .int 0, .int 0, .null, .long 0, .long 0, .long 0, .long 0, .int 0, .null])), (q8, .inl (cy9, 40, .inr (.inl (fun _ => 0)))), (q10, .inl (cy11, 40, .inr (.inl (fun _ => 0)))), (q12, .inl (cy13, 40, .inl (fun _ => 0))), (q14, .inl (cy15, 40, .inl (fun _ => 0))), (q35, .inl (cy36, 40, .inl (fun _ => 0))), (q45, .inl (cy46, 40, .inl (fun _ => 0)))] H := hP
  have hD : va_D A [(h0, .inr (15, [.int 0, .ref q1, .ref q2, .ref q3, .ref q4, .ref q5, .ref q6, .ref q7, .ref q8, .ref q10, .ref q12, .ref q14, .int 0, .ref q16, .int 0, .ref q17, .ref q18, .ref q19, .ref q20, .ref q21, .ref q22, .ref q23, .int 0, .ref q24, .ref q25, .ref q26, .ref q27, .ref q28, .ref q29, .ref q30, .ref q31, .ref q32, .ref q33, .ref q34, .int 0, .ref q35, .ref q37, .ref q38, .ref q39, .ref q40, .ref q41, .ref q42, .int 0, .ref q43, .ref q44, .int 0, .int (-1), .ref q45, .ref q47, .ref q48, .ref q49, .ref q50, .ref q51, .ref q52, .ref q53, .ref q54, .ref q55, .ref q56, .ref q57, .ref q58, .ref q59, .ref q60, .ref q61, .ref q62, .ref q63, .int 0, .int 0, .null, .long 0, .long 0, .long 0, .long 0, .int 0, .null])), (q8, .inl (cy9, 40, .inr (.inl (fun _ => 0)))), (q10, .inl (cy11, 40, .inr (.inl (fun _ => 0)))), (q12, .inl (cy13, 40, .inl (fun _ => 0))), (q14, .inl (cy15, 40, .inl (fun _ => 0))), (q35, .inl (cy36, 40, .inl (fun _ => 0))), (q45, .inl (cy46, 40, .inl (fun _ => 0)))] := hD
  refine lv_aload_n hx hb dX15_init_559 rfl (lv_at hl 0 rfl) ?_
  refine lv_sipush (v := 160) hx hb dX15_init_560 (by decide) ?_
  refine px_newaJ (atype := .long) hx hb (hu _ u19) hP hS 160 (by decide) (by decide) (by decide) (Nat.le_of_ble_eq_true rfl) (Nat.le_of_ble_eq_true rfl) dX15_init_563 (fun q64 H hP hS => ?_)
  refine W.widen (k := 221) (n := 134268) (Nat.le_of_ble_eq_true rfl) (Nat.le_of_ble_eq_true rfl) ?_
  refine va_putF (D := (dC, dI)) (ci := 15) (v := .ref q64) (ty := .array .long) (C := RX15) (T := TX15) (N := 74) hx hb hu iX15 tyX15 tyX15_ok nmX15 hown hK hP hD hS 0 rfl rfl 67 (by decide) (hu _ u228) (fun _ h9 => h9) rfl hin rfl (by decide +kernel) rfl rfl (Nat.le_of_ble_eq_true rfl) dX15_init_565 (fun H locs hP hD hS => ?_)
  have hP : va_P (dC, dI) clx [(h0, .inr (15, [.int 0, .ref q1, .ref q2, .ref q3, .ref q4, .ref q5, .ref q6, .ref q7, .ref q8, .ref q10, .ref q12, .ref q14, .int 0, .ref q16, .int 0, .ref q17, .ref q18, .ref q19, .ref q20, .ref q21, .ref q22, .ref q23, .int 0, .ref q24, .ref q25, .ref q26, .ref q27, .ref q28, .ref q29, .ref q30, .ref q31, .ref q32, .ref q33, .ref q34, .int 0, .ref q35, .ref q37, .ref q38, .ref q39, .ref q40, .ref q41, .ref q42, .int 0, .ref q43, .ref q44, .int 0, .int (-1), .ref q45, .ref q47, .ref q48, .ref q49, .ref q50, .ref q51, .ref q52, .ref q53, .ref q54, .ref q55, .ref q56, .ref q57, .ref q58, .ref q59, .ref q60, .ref q61, .ref q62, .ref q63, .int 0, .int 0, .ref q64, .long 0, .long 0, .long 0, .long 0, .int 0, .null])), (q8, .inl (cy9, 40, .inr (.inl (fun _ => 0)))), (q10, .inl (cy11, 40, .inr (.inl (fun _ => 0)))), (q12, .inl (cy13, 40, .inl (fun _ => 0))), (q14, .inl (cy15, 40, .inl (fun _ => 0))), (q35, .inl (cy36, 40, .inl (fun _ => 0))), (q45, .inl (cy46, 40, .inl (fun _ => 0)))] H := hP
  have hD : va_D A [(h0, .inr (15, [.int 0, .ref q1, .ref q2, .ref q3, .ref q4, .ref q5, .ref q6, .ref q7, .ref q8, .ref q10, .ref q12, .ref q14, .int 0, .ref q16, .int 0, .ref q17, .ref q18, .ref q19, .ref q20, .ref q21, .ref q22, .ref q23, .int 0, .ref q24, .ref q25, .ref q26, .ref q27, .ref q28, .ref q29, .ref q30, .ref q31, .ref q32, .ref q33, .ref q34, .int 0, .ref q35, .ref q37, .ref q38, .ref q39, .ref q40, .ref q41, .ref q42, .int 0, .ref q43, .ref q44, .int 0, .int (-1), .ref q45, .ref q47, .ref q48, .ref q49, .ref q50, .ref q51, .ref q52, .ref q53, .ref q54, .ref q55, .ref q56, .ref q57, .ref q58, .ref q59, .ref q60, .ref q61, .ref q62, .ref q63, .int 0, .int 0, .ref q64, .long 0, .long 0, .long 0, .long 0, .int 0, .null])), (q8, .inl (cy9, 40, .inr (.inl (fun _ => 0)))), (q10, .inl (cy11, 40, .inr (.inl (fun _ => 0)))), (q12, .inl (cy13, 40, .inl (fun _ => 0))), (q14, .inl (cy15, 40, .inl (fun _ => 0))), (q35, .inl (cy36, 40, .inl (fun _ => 0))), (q45, .inl (cy46, 40, .inl (fun _ => 0)))] := hD
  refine lv_aload_n hx hb dX15_init_568 rfl (lv_at hl 0 rfl) ?_
  refine px_new (ci := 14) (fs := dfX14) (C := RX14) (T := TX14) (N := 5) hx hb hu iX14 tyX14 tyX14_ok hown (hu _ u182) (hu _ u183) (hu _ u184) hK hP hS rfl dfX14_ok (Nat.le_of_ble_eq_true rfl) (Nat.le_of_ble_eq_true rfl) dX15_init_569 (fun q65 H hP hq hlt hq0 hS => ?_)
  refine W.widen (k := 222) (n := 134273) (Nat.le_of_ble_eq_true rfl) (Nat.le_of_ble_eq_true rfl) ?_
  refine lv_dup hx hb dX15_init_572 rfl ?_
  refine px_initN (As := []) (rest := [.ref q65, .ref h0]) (nL := 1) (j_X14_init l) ⟨hx, hb, hml, hown, hu⟩ ⟨va_cnB 0 hu (gC u186) rfl rfl rfl hev.1.2.1 (hu _ u184) (by decide +kernel) ⟨(Nat.le_of_ble_eq_true rfl), (Nat.le_of_ble_eq_true rfl)⟩, rfl, hu _ u185⟩ (hK.sub [] rfl) hev hP hq hlt hq0 hS hA rfl hl.1 (Nat.le_of_ble_eq_true rfl) dX15_init_573 ⟨(Nat.le_of_ble_eq_true rfl), (Nat.le_of_ble_eq_true rfl)⟩ (fun H locs hP hS => ?_)
  refine W.widen (k := 232) (n := 136129) (Nat.le_of_ble_eq_true rfl) (Nat.le_of_ble_eq_true rfl) ?_
  refine va_putF (D := (dC, dI)) (ci := 15) (v := .ref q65) (ty := .object "CubicBenchModel$Pt") (C := RX15) (T := TX15) (N := 74) hx hb hu iX15 tyX15 tyX15_ok nmX15 hown hK hP hD hS 0 rfl rfl 73 (by decide) (hu _ u229) (fun _ h9 => h9) rfl hin rfl (by decide +kernel) rfl rfl (Nat.le_of_ble_eq_true rfl) dX15_init_576 (fun H locs hP hD hS => ?_)
  have hP : va_P (dC, dI) clx [(h0, .inr (15, [.int 0, .ref q1, .ref q2, .ref q3, .ref q4, .ref q5, .ref q6, .ref q7, .ref q8, .ref q10, .ref q12, .ref q14, .int 0, .ref q16, .int 0, .ref q17, .ref q18, .ref q19, .ref q20, .ref q21, .ref q22, .ref q23, .int 0, .ref q24, .ref q25, .ref q26, .ref q27, .ref q28, .ref q29, .ref q30, .ref q31, .ref q32, .ref q33, .ref q34, .int 0, .ref q35, .ref q37, .ref q38, .ref q39, .ref q40, .ref q41, .ref q42, .int 0, .ref q43, .ref q44, .int 0, .int (-1), .ref q45, .ref q47, .ref q48, .ref q49, .ref q50, .ref q51, .ref q52, .ref q53, .ref q54, .ref q55, .ref q56, .ref q57, .ref q58, .ref q59, .ref q60, .ref q61, .ref q62, .ref q63, .int 0, .int 0, .ref q64, .long 0, .long 0, .long 0, .long 0, .int 0, .ref q65])), (q8, .inl (cy9, 40, .inr (.inl (fun _ => 0)))), (q10, .inl (cy11, 40, .inr (.inl (fun _ => 0)))), (q12, .inl (cy13, 40, .inl (fun _ => 0))), (q14, .inl (cy15, 40, .inl (fun _ => 0))), (q35, .inl (cy36, 40, .inl (fun _ => 0))), (q45, .inl (cy46, 40, .inl (fun _ => 0)))] H := hP
  have hD : va_D A [(h0, .inr (15, [.int 0, .ref q1, .ref q2, .ref q3, .ref q4, .ref q5, .ref q6, .ref q7, .ref q8, .ref q10, .ref q12, .ref q14, .int 0, .ref q16, .int 0, .ref q17, .ref q18, .ref q19, .ref q20, .ref q21, .ref q22, .ref q23, .int 0, .ref q24, .ref q25, .ref q26, .ref q27, .ref q28, .ref q29, .ref q30, .ref q31, .ref q32, .ref q33, .ref q34, .int 0, .ref q35, .ref q37, .ref q38, .ref q39, .ref q40, .ref q41, .ref q42, .int 0, .ref q43, .ref q44, .int 0, .int (-1), .ref q45, .ref q47, .ref q48, .ref q49, .ref q50, .ref q51, .ref q52, .ref q53, .ref q54, .ref q55, .ref q56, .ref q57, .ref q58, .ref q59, .ref q60, .ref q61, .ref q62, .ref q63, .int 0, .int 0, .ref q64, .long 0, .long 0, .long 0, .long 0, .int 0, .ref q65])), (q8, .inl (cy9, 40, .inr (.inl (fun _ => 0)))), (q10, .inl (cy11, 40, .inr (.inl (fun _ => 0)))), (q12, .inl (cy13, 40, .inl (fun _ => 0))), (q14, .inl (cy15, 40, .inl (fun _ => 0))), (q35, .inl (cy36, 40, .inl (fun _ => 0))), (q45, .inl (cy46, 40, .inl (fun _ => 0)))] := hD
  refine W.widen (k := 232) (n := 136129) (Nat.le_of_ble_eq_true rfl) (Nat.le_of_ble_eq_true rfl) ?_
  exact W.vret hx hb hr (fun t ht hW => ⟨⟨(), rfl, trivial, ⟨[.int 0, .ref q1, .ref q2, .ref q3, .ref q4, .ref q5, .ref q6, .ref q7, .ref q8, .ref q10, .ref q12, .ref q14, .int 0, .ref q16, .int 0, .ref q17, .ref q18, .ref q19, .ref q20, .ref q21, .ref q22, .ref q23, .int 0, .ref q24, .ref q25, .ref q26, .ref q27, .ref q28, .ref q29, .ref q30, .ref q31, .ref q32, .ref q33, .ref q34, .int 0, .ref q35, .ref q37, .ref q38, .ref q39, .ref q40, .ref q41, .ref q42, .int 0, .ref q43, .ref q44, .int 0, .int (-1), .ref q45, .ref q47, .ref q48, .ref q49, .ref q50, .ref q51, .ref q52, .ref q53, .ref q54, .ref q55, .ref q56, .ref q57, .ref q58, .ref q59, .ref q60, .ref q61, .ref q62, .ref q63, .int 0, .int 0, .ref q64, .long 0, .long 0, .long 0, .long 0, .int 0, .ref q65], q8, q10, q12, q14, q35, q45, cy9, cy11, cy13, cy15, cy36, cy46, ⟨rfl, rfl, rfl, rfl, rfl, rfl, rfl, rfl, rfl, rfl, rfl, rfl, rfl⟩, (by rw [ht]; exact hP), va_K.moved hW.alike hK, hD⟩⟩, hS.F ht⟩) hS.2.2 dX15_init_579
end
section
def mF (fs : List Value) : Prop := fs[12]? = some (.int 0) ∧ fs[22]? = some (.int 0) ∧ fs[34]? = some (.int 0) ∧ fs[42]? = some (.int 0) ∧ fs[65]? = some (.int 0) ∧ fs.length = 74
def cnt (w : Int32) : Int32 := if w = 0 ∨ w = 1 ∨ w = 2 then 0 else -1
theorem dX15_about_0 : decode cX15_about 0 = .ok (.aload_n 0, 1) := by decide +kernel
theorem dX15_about_1 : decode cX15_about 1 = .ok (.iload_n 1, 1) := by decide +kernel
theorem dX15_about_2 : decode cX15_about 2 = .ok (.invokevirtual 308, 3) := by decide +kernel
theorem dX15_about_5 : decode cX15_about 5 = .ok (.ifCond .eq 24, 3) := by decide +kernel
theorem dX15_about_29 : decode cX15_about 29 = .ok (.lconst 0, 1) := by decide +kernel
theorem dX15_about_30 : decode cX15_about 30 = .ok (.lreturn, 1) := by decide +kernel
theorem dX15_add_0 : decode cX15_add 0 = .ok (.aload_n 0, 1) := by decide +kernel
theorem dX15_add_1 : decode cX15_add 1 = .ok (.iload_n 1, 1) := by decide +kernel
theorem dX15_add_2 : decode cX15_add 2 = .ok (.invokevirtual 419, 3) := by decide +kernel
theorem dX15_add_5 : decode cX15_add 5 = .ok (.ifCond .eq 11, 3) := by decide +kernel
theorem dX15_add_16 : decode cX15_add 16 = .ok (.iconst 0, 1) := by decide +kernel
theorem dX15_add_17 : decode cX15_add 17 = .ok (.ireturn, 1) := by decide +kernel
theorem dX15_back_0 : decode cX15_back 0 = .ok (.aload_n 0, 1) := by decide +kernel
theorem dX15_back_1 : decode cX15_back 1 = .ok (.iload_n 1, 1) := by decide +kernel
theorem dX15_back_2 : decode cX15_back 2 = .ok (.invokevirtual 308, 3) := by decide +kernel
theorem dX15_back_5 : decode cX15_back 5 = .ok (.ifCond .eq 24, 3) := by decide +kernel
theorem dX15_back_29 : decode cX15_back 29 = .ok (.iconst 0, 1) := by decide +kernel
theorem dX15_back_30 : decode cX15_back 30 = .ok (.ireturn, 1) := by decide +kernel
theorem dX15_backAt_0 : decode cX15_backAt 0 = .ok (.aload_n 0, 1) := by decide +kernel
theorem dX15_backAt_1 : decode cX15_backAt 1 = .ok (.iload_n 1, 1) := by decide +kernel
theorem dX15_backAt_2 : decode cX15_backAt 2 = .ok (.invokevirtual 308, 3) := by decide +kernel
theorem dX15_backAt_5 : decode cX15_backAt 5 = .ok (.ifCond .eq 24, 3) := by decide +kernel
theorem dX15_backAt_29 : decode cX15_backAt 29 = .ok (.iconst 0, 1) := by decide +kernel
theorem dX15_backAt_30 : decode cX15_backAt 30 = .ok (.ireturn, 1) := by decide +kernel
theorem dX15_coefficient_0 : decode cX15_coefficient 0 = .ok (.aload_n 0, 1) := by decide +kernel
theorem dX15_coefficient_1 : decode cX15_coefficient 1 = .ok (.iconst 0, 1) := by decide +kernel
theorem dX15_coefficient_2 : decode cX15_coefficient 2 = .ok (.putfield 209, 3) := by decide +kernel
theorem dX15_coefficient_5 : decode cX15_coefficient 5 = .ok (.aload_n 0, 1) := by decide +kernel
theorem dX15_coefficient_6 : decode cX15_coefficient 6 = .ok (.getfield 548, 3) := by decide +kernel
theorem dX15_coefficient_9 : decode cX15_coefficient 9 = .ok (.ifCond .eq 14, 3) := by decide +kernel
theorem dX15_coefficient_23 : decode cX15_coefficient 23 = .ok (.iconst 0, 1) := by decide +kernel
theorem dX15_coefficient_24 : decode cX15_coefficient 24 = .ok (.goto 19, 3) := by decide +kernel
theorem dX15_coefficient_43 : decode cX15_coefficient 43 = .ok (.ireturn, 1) := by decide +kernel
theorem dX15_count_0 : decode cX15_count 0 = .ok (.aload_n 0, 1) := by decide +kernel
theorem dX15_count_1 : decode cX15_count 1 = .ok (.iload_n 1, 1) := by decide +kernel
theorem dX15_count_2 : decode cX15_count 2 = .ok (.ldc_w 307, 3) := by decide +kernel
theorem dX15_count_5 : decode cX15_count 5 = .ok (.iconst 0, 1) := by decide +kernel
theorem dX15_count_6 : decode cX15_count 6 = .ok (.invokevirtual 476, 3) := by decide +kernel
theorem dX15_count_9 : decode cX15_count 9 = .ok (.ifCond .eq 11, 3) := by decide +kernel
theorem dX15_count_20 : decode cX15_count 20 = .ok (.iconst 0, 1) := by decide +kernel
theorem dX15_count_21 : decode cX15_count 21 = .ok (.ireturn, 1) := by decide +kernel
theorem dX15_counted_0 : decode cX15_counted 0 = .ok (.aload_n 0, 1) := by decide +kernel
theorem dX15_counted_1 : decode cX15_counted 1 = .ok (.iconst 0, 1) := by decide +kernel
theorem dX15_counted_2 : decode cX15_counted 2 = .ok (.putfield 209, 3) := by decide +kernel
theorem dX15_counted_5 : decode cX15_counted 5 = .ok (.iload_n 1, 1) := by decide +kernel
theorem dX15_counted_6 : decode cX15_counted 6 = .ok (.ifCond .ne 10, 3) := by decide +kernel
theorem dX15_counted_9 : decode cX15_counted 9 = .ok (.aload_n 0, 1) := by decide +kernel
theorem dX15_counted_10 : decode cX15_counted 10 = .ok (.getfield 284, 3) := by decide +kernel
theorem dX15_counted_13 : decode cX15_counted 13 = .ok (.goto 28, 3) := by decide +kernel
theorem dX15_counted_16 : decode cX15_counted 16 = .ok (.iload_n 1, 1) := by decide +kernel
theorem dX15_counted_17 : decode cX15_counted 17 = .ok (.iconst 1, 1) := by decide +kernel
theorem dX15_counted_18 : decode cX15_counted 18 = .ok (.if_icmp .ne 10, 3) := by decide +kernel
theorem dX15_counted_21 : decode cX15_counted 21 = .ok (.aload_n 0, 1) := by decide +kernel
theorem dX15_counted_22 : decode cX15_counted 22 = .ok (.getfield 355, 3) := by decide +kernel
theorem dX15_counted_25 : decode cX15_counted 25 = .ok (.goto 16, 3) := by decide +kernel
theorem dX15_counted_28 : decode cX15_counted 28 = .ok (.iload_n 1, 1) := by decide +kernel
theorem dX15_counted_29 : decode cX15_counted 29 = .ok (.iconst 2, 1) := by decide +kernel
theorem dX15_counted_30 : decode cX15_counted 30 = .ok (.if_icmp .ne 10, 3) := by decide +kernel
theorem dX15_counted_33 : decode cX15_counted 33 = .ok (.aload_n 0, 1) := by decide +kernel
theorem dX15_counted_34 : decode cX15_counted 34 = .ok (.getfield 433, 3) := by decide +kernel
theorem dX15_counted_37 : decode cX15_counted 37 = .ok (.goto 4, 3) := by decide +kernel
theorem dX15_counted_40 : decode cX15_counted 40 = .ok (.iconst (-1), 1) := by decide +kernel
theorem dX15_counted_41 : decode cX15_counted 41 = .ok (.ireturn, 1) := by decide +kernel
theorem dX15_far_0 : decode cX15_far 0 = .ok (.aload_n 0, 1) := by decide +kernel
theorem dX15_far_1 : decode cX15_far 1 = .ok (.iload_n 1, 1) := by decide +kernel
theorem dX15_far_2 : decode cX15_far 2 = .ok (.invokevirtual 308, 3) := by decide +kernel
theorem dX15_far_5 : decode cX15_far 5 = .ok (.ifCond .ne 5, 3) := by decide +kernel
theorem dX15_far_8 : decode cX15_far 8 = .ok (.iconst 0, 1) := by decide +kernel
theorem dX15_far_9 : decode cX15_far 9 = .ok (.ireturn, 1) := by decide +kernel
theorem dX15_found_0 : decode cX15_found 0 = .ok (.aload_n 0, 1) := by decide +kernel
theorem dX15_found_1 : decode cX15_found 1 = .ok (.iload_n 1, 1) := by decide +kernel
theorem dX15_found_2 : decode cX15_found 2 = .ok (.ifCond .lt 11, 3) := by decide +kernel
theorem dX15_found_5 : decode cX15_found 5 = .ok (.iload_n 1, 1) := by decide +kernel
theorem dX15_found_6 : decode cX15_found 6 = .ok (.aload_n 0, 1) := by decide +kernel
theorem dX15_found_7 : decode cX15_found 7 = .ok (.getfield 466, 3) := by decide +kernel
theorem dX15_found_10 : decode cX15_found 10 = .ok (.if_icmp .lt 7, 3) := by decide +kernel
theorem dX15_found_13 : decode cX15_found 13 = .ok (.iconst 1, 1) := by decide +kernel
theorem dX15_found_14 : decode cX15_found 14 = .ok (.goto 17, 3) := by decide +kernel
theorem dX15_found_31 : decode cX15_found 31 = .ok (.putfield 209, 3) := by decide +kernel
theorem dX15_found_34 : decode cX15_found 34 = .ok (.aload_n 0, 1) := by decide +kernel
theorem dX15_found_35 : decode cX15_found 35 = .ok (.getfield 209, 3) := by decide +kernel
theorem dX15_found_38 : decode cX15_found 38 = .ok (.ifCond .le 5, 3) := by decide +kernel
theorem dX15_found_41 : decode cX15_found 41 = .ok (.lconst 0, 1) := by decide +kernel
theorem dX15_found_42 : decode cX15_found 42 = .ok (.lreturn, 1) := by decide +kernel
theorem dX15_group_0 : decode cX15_group 0 = .ok (.aload_n 0, 1) := by decide +kernel
theorem dX15_group_1 : decode cX15_group 1 = .ok (.iload_n 1, 1) := by decide +kernel
theorem dX15_group_2 : decode cX15_group 2 = .ok (.sipush 2000, 3) := by decide +kernel
theorem dX15_group_5 : decode cX15_group 5 = .ok (.iload_n 2, 1) := by decide +kernel
theorem dX15_group_6 : decode cX15_group 6 = .ok (.ifCond .lt 8, 3) := by decide +kernel
theorem dX15_group_9 : decode cX15_group 9 = .ok (.iload_n 2, 1) := by decide +kernel
theorem dX15_group_10 : decode cX15_group 10 = .ok (.iconst 3, 1) := by decide +kernel
theorem dX15_group_11 : decode cX15_group 11 = .ok (.if_icmp .le 7, 3) := by decide +kernel
theorem dX15_group_14 : decode cX15_group 14 = .ok (.iconst 1, 1) := by decide +kernel
theorem dX15_group_15 : decode cX15_group 15 = .ok (.goto 4, 3) := by decide +kernel
theorem dX15_group_18 : decode cX15_group 18 = .ok (.iconst 0, 1) := by decide +kernel
theorem dX15_group_19 : decode cX15_group 19 = .ok (.invokevirtual 476, 3) := by decide +kernel
theorem dX15_group_22 : decode cX15_group 22 = .ok (.ifCond .ne 5, 3) := by decide +kernel
theorem dX15_group_25 : decode cX15_group 25 = .ok (.iconst 0, 1) := by decide +kernel
theorem dX15_group_26 : decode cX15_group 26 = .ok (.ireturn, 1) := by decide +kernel
theorem dX15_isCubic_0 : decode cX15_isCubic 0 = .ok (.aload_n 0, 1) := by decide +kernel
theorem dX15_isCubic_1 : decode cX15_isCubic 1 = .ok (.iload_n 1, 1) := by decide +kernel
theorem dX15_isCubic_2 : decode cX15_isCubic 2 = .ok (.ifCond .lt 11, 3) := by decide +kernel
theorem dX15_isCubic_5 : decode cX15_isCubic 5 = .ok (.iload_n 1, 1) := by decide +kernel
theorem dX15_isCubic_6 : decode cX15_isCubic 6 = .ok (.aload_n 0, 1) := by decide +kernel
theorem dX15_isCubic_7 : decode cX15_isCubic 7 = .ok (.getfield 284, 3) := by decide +kernel
theorem dX15_isCubic_10 : decode cX15_isCubic 10 = .ok (.if_icmp .lt 7, 3) := by decide +kernel
theorem dX15_isCubic_13 : decode cX15_isCubic 13 = .ok (.iconst 1, 1) := by decide +kernel
theorem dX15_isCubic_14 : decode cX15_isCubic 14 = .ok (.goto 4, 3) := by decide +kernel
theorem dX15_isCubic_18 : decode cX15_isCubic 18 = .ok (.putfield 209, 3) := by decide +kernel
theorem dX15_isCubic_21 : decode cX15_isCubic 21 = .ok (.aload_n 0, 1) := by decide +kernel
theorem dX15_isCubic_22 : decode cX15_isCubic 22 = .ok (.getfield 209, 3) := by decide +kernel
theorem dX15_isCubic_25 : decode cX15_isCubic 25 = .ok (.ifCond .ne 7, 3) := by decide +kernel
theorem dX15_isCubic_32 : decode cX15_isCubic 32 = .ok (.iconst 0, 1) := by decide +kernel
theorem dX15_isCubic_33 : decode cX15_isCubic 33 = .ok (.ireturn, 1) := by decide +kernel
theorem dX15_isPoint_0 : decode cX15_isPoint 0 = .ok (.aload_n 0, 1) := by decide +kernel
theorem dX15_isPoint_1 : decode cX15_isPoint 1 = .ok (.iload_n 1, 1) := by decide +kernel
theorem dX15_isPoint_2 : decode cX15_isPoint 2 = .ok (.ifCond .lt 11, 3) := by decide +kernel
theorem dX15_isPoint_5 : decode cX15_isPoint 5 = .ok (.iload_n 1, 1) := by decide +kernel
theorem dX15_isPoint_6 : decode cX15_isPoint 6 = .ok (.aload_n 0, 1) := by decide +kernel
theorem dX15_isPoint_7 : decode cX15_isPoint 7 = .ok (.getfield 355, 3) := by decide +kernel
theorem dX15_isPoint_10 : decode cX15_isPoint 10 = .ok (.if_icmp .lt 7, 3) := by decide +kernel
theorem dX15_isPoint_13 : decode cX15_isPoint 13 = .ok (.iconst 1, 1) := by decide +kernel
theorem dX15_isPoint_14 : decode cX15_isPoint 14 = .ok (.goto 4, 3) := by decide +kernel
theorem dX15_isPoint_18 : decode cX15_isPoint 18 = .ok (.putfield 209, 3) := by decide +kernel
theorem dX15_isPoint_21 : decode cX15_isPoint 21 = .ok (.aload_n 0, 1) := by decide +kernel
theorem dX15_isPoint_22 : decode cX15_isPoint 22 = .ok (.getfield 209, 3) := by decide +kernel
theorem dX15_isPoint_25 : decode cX15_isPoint 25 = .ok (.ifCond .ne 7, 3) := by decide +kernel
theorem dX15_isPoint_32 : decode cX15_isPoint 32 = .ok (.iconst 0, 1) := by decide +kernel
theorem dX15_isPoint_33 : decode cX15_isPoint 33 = .ok (.ireturn, 1) := by decide +kernel
theorem dX15_isRest_0 : decode cX15_isRest 0 = .ok (.aload_n 0, 1) := by decide +kernel
theorem dX15_isRest_1 : decode cX15_isRest 1 = .ok (.iload_n 1, 1) := by decide +kernel
theorem dX15_isRest_2 : decode cX15_isRest 2 = .ok (.invokevirtual 308, 3) := by decide +kernel
theorem dX15_isRest_5 : decode cX15_isRest 5 = .ok (.ifCond .eq 42, 3) := by decide +kernel
theorem dX15_isRest_47 : decode cX15_isRest 47 = .ok (.iconst 0, 1) := by decide +kernel
theorem dX15_isRest_48 : decode cX15_isRest 48 = .ok (.ireturn, 1) := by decide +kernel
theorem dX15_led_0 : decode cX15_led 0 = .ok (.aload_n 0, 1) := by decide +kernel
theorem dX15_led_1 : decode cX15_led 1 = .ok (.iload_n 1, 1) := by decide +kernel
theorem dX15_led_2 : decode cX15_led 2 = .ok (.invokevirtual 419, 3) := by decide +kernel
theorem dX15_led_5 : decode cX15_led 5 = .ok (.ifCond .ne 5, 3) := by decide +kernel
theorem dX15_led_8 : decode cX15_led 8 = .ok (.iconst 0, 1) := by decide +kernel
theorem dX15_led_9 : decode cX15_led 9 = .ok (.ireturn, 1) := by decide +kernel
theorem dX15_list_0 : decode cX15_list 0 = .ok (.aload_n 0, 1) := by decide +kernel
theorem dX15_list_1 : decode cX15_list 1 = .ok (.iload_n 1, 1) := by decide +kernel
theorem dX15_list_2 : decode cX15_list 2 = .ok (.sipush 2000, 3) := by decide +kernel
theorem dX15_list_5 : decode cX15_list 5 = .ok (.iconst 0, 1) := by decide +kernel
theorem dX15_list_6 : decode cX15_list 6 = .ok (.invokevirtual 476, 3) := by decide +kernel
theorem dX15_list_9 : decode cX15_list 9 = .ok (.ifCond .ne 5, 3) := by decide +kernel
theorem dX15_list_12 : decode cX15_list 12 = .ok (.iconst 0, 1) := by decide +kernel
theorem dX15_list_13 : decode cX15_list 13 = .ok (.ireturn, 1) := by decide +kernel
theorem dX15_mirror_0 : decode cX15_mirror 0 = .ok (.aload_n 0, 1) := by decide +kernel
theorem dX15_mirror_1 : decode cX15_mirror 1 = .ok (.iload_n 1, 1) := by decide +kernel
theorem dX15_mirror_2 : decode cX15_mirror 2 = .ok (.invokevirtual 419, 3) := by decide +kernel
theorem dX15_mirror_5 : decode cX15_mirror 5 = .ok (.ifCond .ne 5, 3) := by decide +kernel
theorem dX15_mirror_8 : decode cX15_mirror 8 = .ok (.iconst 0, 1) := by decide +kernel
theorem dX15_mirror_9 : decode cX15_mirror 9 = .ok (.ireturn, 1) := by decide +kernel
theorem dX15_octet_0 : decode cX15_octet 0 = .ok (.aload_n 0, 1) := by decide +kernel
theorem dX15_octet_1 : decode cX15_octet 1 = .ok (.iconst 0, 1) := by decide +kernel
theorem dX15_octet_2 : decode cX15_octet 2 = .ok (.putfield 209, 3) := by decide +kernel
theorem dX15_octet_5 : decode cX15_octet 5 = .ok (.iload_n 1, 1) := by decide +kernel
theorem dX15_octet_6 : decode cX15_octet 6 = .ok (.ifCond .lt 20, 3) := by decide +kernel
theorem dX15_octet_9 : decode cX15_octet 9 = .ok (.iload_n 1, 1) := by decide +kernel
theorem dX15_octet_10 : decode cX15_octet 10 = .ok (.aload_n 0, 1) := by decide +kernel
theorem dX15_octet_11 : decode cX15_octet 11 = .ok (.getfield 433, 3) := by decide +kernel
theorem dX15_octet_14 : decode cX15_octet 14 = .ok (.if_icmp .ge 12, 3) := by decide +kernel
theorem dX15_octet_26 : decode cX15_octet 26 = .ok (.iconst (-1), 1) := by decide +kernel
theorem dX15_octet_27 : decode cX15_octet 27 = .ok (.ireturn, 1) := by decide +kernel
theorem dX15_order_0 : decode cX15_order 0 = .ok (.aload_n 0, 1) := by decide +kernel
theorem dX15_order_1 : decode cX15_order 1 = .ok (.iload_n 1, 1) := by decide +kernel
theorem dX15_order_2 : decode cX15_order 2 = .ok (.invokevirtual 419, 3) := by decide +kernel
theorem dX15_order_5 : decode cX15_order 5 = .ok (.ifCond .ne 5, 3) := by decide +kernel
theorem dX15_order_8 : decode cX15_order 8 = .ok (.iconst 0, 1) := by decide +kernel
theorem dX15_order_9 : decode cX15_order 9 = .ok (.ireturn, 1) := by decide +kernel
theorem dX15_over_0 : decode cX15_over 0 = .ok (.aload_n 0, 1) := by decide +kernel
theorem dX15_over_1 : decode cX15_over 1 = .ok (.iload_n 1, 1) := by decide +kernel
theorem dX15_over_2 : decode cX15_over 2 = .ok (.ldc_w 307, 3) := by decide +kernel
theorem dX15_over_5 : decode cX15_over 5 = .ok (.iload_n 2, 1) := by decide +kernel
theorem dX15_over_6 : decode cX15_over 6 = .ok (.iconst 1, 1) := by decide +kernel
theorem dX15_over_7 : decode cX15_over 7 = .ok (.if_icmp .lt 8, 3) := by decide +kernel
theorem dX15_over_10 : decode cX15_over 10 = .ok (.iload_n 2, 1) := by decide +kernel
theorem dX15_over_11 : decode cX15_over 11 = .ok (.iconst 3, 1) := by decide +kernel
theorem dX15_over_12 : decode cX15_over 12 = .ok (.if_icmp .le 7, 3) := by decide +kernel
theorem dX15_over_15 : decode cX15_over 15 = .ok (.iconst 1, 1) := by decide +kernel
theorem dX15_over_16 : decode cX15_over 16 = .ok (.goto 4, 3) := by decide +kernel
theorem dX15_over_19 : decode cX15_over 19 = .ok (.iconst 0, 1) := by decide +kernel
theorem dX15_over_20 : decode cX15_over 20 = .ok (.invokevirtual 476, 3) := by decide +kernel
theorem dX15_over_23 : decode cX15_over 23 = .ok (.ifCond .ne 5, 3) := by decide +kernel
theorem dX15_over_26 : decode cX15_over 26 = .ok (.lconst 0, 1) := by decide +kernel
theorem dX15_over_27 : decode cX15_over 27 = .ok (.lreturn, 1) := by decide +kernel
theorem dX15_pair_0 : decode cX15_pair 0 = .ok (.aload_n 0, 1) := by decide +kernel
theorem dX15_pair_1 : decode cX15_pair 1 = .ok (.iload_n 1, 1) := by decide +kernel
theorem dX15_pair_2 : decode cX15_pair 2 = .ok (.invokevirtual 419, 3) := by decide +kernel
theorem dX15_pair_5 : decode cX15_pair 5 = .ok (.ifCond .eq 11, 3) := by decide +kernel
theorem dX15_pair_16 : decode cX15_pair 16 = .ok (.iconst 0, 1) := by decide +kernel
theorem dX15_pair_17 : decode cX15_pair 17 = .ok (.ireturn, 1) := by decide +kernel
theorem dX15_point_0 : decode cX15_point 0 = .ok (.aload_n 0, 1) := by decide +kernel
theorem dX15_point_1 : decode cX15_point 1 = .ok (.iload_n 1, 1) := by decide +kernel
theorem dX15_point_2 : decode cX15_point 2 = .ok (.invokevirtual 308, 3) := by decide +kernel
theorem dX15_point_5 : decode cX15_point 5 = .ok (.ifCond .ne 5, 3) := by decide +kernel
theorem dX15_point_8 : decode cX15_point 8 = .ok (.iconst 0, 1) := by decide +kernel
theorem dX15_point_9 : decode cX15_point 9 = .ok (.ireturn, 1) := by decide +kernel
theorem dX15_polynomial_0 : decode cX15_polynomial 0 = .ok (.aload_n 0, 1) := by decide +kernel
theorem dX15_polynomial_1 : decode cX15_polynomial 1 = .ok (.iload_n 1, 1) := by decide +kernel
theorem dX15_polynomial_2 : decode cX15_polynomial 2 = .ok (.sipush 2000, 3) := by decide +kernel
theorem dX15_polynomial_5 : decode cX15_polynomial 5 = .ok (.iload_n 2, 1) := by decide +kernel
theorem dX15_polynomial_6 : decode cX15_polynomial 6 = .ok (.iconst 1, 1) := by decide +kernel
theorem dX15_polynomial_7 : decode cX15_polynomial 7 = .ok (.if_icmp .lt 9, 3) := by decide +kernel
theorem dX15_polynomial_10 : decode cX15_polynomial 10 = .ok (.iload_n 2, 1) := by decide +kernel
theorem dX15_polynomial_11 : decode cX15_polynomial 11 = .ok (.bipush 11, 2) := by decide +kernel
theorem dX15_polynomial_13 : decode cX15_polynomial 13 = .ok (.if_icmp .le 7, 3) := by decide +kernel
theorem dX15_polynomial_16 : decode cX15_polynomial 16 = .ok (.iconst 1, 1) := by decide +kernel
theorem dX15_polynomial_17 : decode cX15_polynomial 17 = .ok (.goto 4, 3) := by decide +kernel
theorem dX15_polynomial_20 : decode cX15_polynomial 20 = .ok (.iconst 0, 1) := by decide +kernel
theorem dX15_polynomial_21 : decode cX15_polynomial 21 = .ok (.invokevirtual 476, 3) := by decide +kernel
theorem dX15_polynomial_24 : decode cX15_polynomial 24 = .ok (.ifCond .ne 5, 3) := by decide +kernel
theorem dX15_polynomial_27 : decode cX15_polynomial 27 = .ok (.iconst 0, 1) := by decide +kernel
theorem dX15_polynomial_28 : decode cX15_polynomial 28 = .ok (.ireturn, 1) := by decide +kernel
theorem dX15_print_0 : decode cX15_print 0 = .ok (.aload_n 0, 1) := by decide +kernel
theorem dX15_print_1 : decode cX15_print 1 = .ok (.iload_n 1, 1) := by decide +kernel
theorem dX15_print_2 : decode cX15_print 2 = .ok (.invokevirtual 419, 3) := by decide +kernel
theorem dX15_print_5 : decode cX15_print 5 = .ok (.ifCond .eq 24, 3) := by decide +kernel
theorem dX15_print_29 : decode cX15_print 29 = .ok (.iconst 0, 1) := by decide +kernel
theorem dX15_print_30 : decode cX15_print 30 = .ok (.ireturn, 1) := by decide +kernel
theorem dX15_rest_0 : decode cX15_rest 0 = .ok (.aload_n 0, 1) := by decide +kernel
theorem dX15_rest_1 : decode cX15_rest 1 = .ok (.iload_n 1, 1) := by decide +kernel
theorem dX15_rest_2 : decode cX15_rest 2 = .ok (.invokevirtual 308, 3) := by decide +kernel
theorem dX15_rest_5 : decode cX15_rest 5 = .ok (.ifCond .eq 31, 3) := by decide +kernel
theorem dX15_rest_36 : decode cX15_rest 36 = .ok (.iconst 0, 1) := by decide +kernel
theorem dX15_rest_37 : decode cX15_rest 37 = .ok (.ireturn, 1) := by decide +kernel
theorem dX15_root_0 : decode cX15_root 0 = .ok (.aload_n 0, 1) := by decide +kernel
theorem dX15_root_1 : decode cX15_root 1 = .ok (.iconst 0, 1) := by decide +kernel
theorem dX15_root_2 : decode cX15_root 2 = .ok (.putfield 209, 3) := by decide +kernel
theorem dX15_root_5 : decode cX15_root 5 = .ok (.aload_n 0, 1) := by decide +kernel
theorem dX15_root_6 : decode cX15_root 6 = .ok (.getfield 548, 3) := by decide +kernel
theorem dX15_root_9 : decode cX15_root 9 = .ok (.ifCond .ne 7, 3) := by decide +kernel
theorem dX15_root_12 : decode cX15_root 12 = .ok (.iconst (-1), 1) := by decide +kernel
theorem dX15_root_13 : decode cX15_root 13 = .ok (.goto 7, 3) := by decide +kernel
theorem dX15_root_20 : decode cX15_root 20 = .ok (.istore_n 2, 1) := by decide +kernel
theorem dX15_root_21 : decode cX15_root 21 = .ok (.iload_n 2, 1) := by decide +kernel
theorem dX15_root_22 : decode cX15_root 22 = .ok (.ifCond .lt 7, 3) := by decide +kernel
theorem dX15_root_29 : decode cX15_root 29 = .ok (.iconst (-1), 1) := by decide +kernel
theorem dX15_root_30 : decode cX15_root 30 = .ok (.ireturn, 1) := by decide +kernel
theorem dX15_search_0 : decode cX15_search 0 = .ok (.aload_n 0, 1) := by decide +kernel
theorem dX15_search_1 : decode cX15_search 1 = .ok (.iload_n 1, 1) := by decide +kernel
theorem dX15_search_2 : decode cX15_search 2 = .ok (.invokevirtual 308, 3) := by decide +kernel
theorem dX15_search_5 : decode cX15_search 5 = .ok (.ifCond .eq 36, 3) := by decide +kernel
theorem dX15_search_41 : decode cX15_search 41 = .ok (.iconst 0, 1) := by decide +kernel
theorem dX15_search_42 : decode cX15_search 42 = .ok (.ireturn, 1) := by decide +kernel
theorem dX15_through_0 : decode cX15_through 0 = .ok (.aload_n 0, 1) := by decide +kernel
theorem dX15_through_1 : decode cX15_through 1 = .ok (.iload_n 1, 1) := by decide +kernel
theorem dX15_through_2 : decode cX15_through 2 = .ok (.invokevirtual 419, 3) := by decide +kernel
theorem dX15_through_5 : decode cX15_through 5 = .ok (.ifCond .eq 11, 3) := by decide +kernel
theorem dX15_through_16 : decode cX15_through 16 = .ok (.iconst 0, 1) := by decide +kernel
theorem dX15_through_17 : decode cX15_through 17 = .ok (.ireturn, 1) := by decide +kernel
theorem dX15_times_0 : decode cX15_times 0 = .ok (.aload_n 0, 1) := by decide +kernel
theorem dX15_times_1 : decode cX15_times 1 = .ok (.iload_n 1, 1) := by decide +kernel
theorem dX15_times_2 : decode cX15_times 2 = .ok (.invokevirtual 419, 3) := by decide +kernel
theorem dX15_times_5 : decode cX15_times 5 = .ok (.ifCond .eq 41, 3) := by decide +kernel
theorem dX15_times_46 : decode cX15_times 46 = .ok (.iconst 0, 1) := by decide +kernel
theorem dX15_times_47 : decode cX15_times 47 = .ok (.ireturn, 1) := by decide +kernel
theorem dX15_told_0 : decode cX15_told 0 = .ok (.aload_n 0, 1) := by decide +kernel
theorem dX15_told_1 : decode cX15_told 1 = .ok (.iload_n 1, 1) := by decide +kernel
theorem dX15_told_2 : decode cX15_told 2 = .ok (.invokevirtual 419, 3) := by decide +kernel
theorem dX15_told_5 : decode cX15_told 5 = .ok (.ifCond .eq 24, 3) := by decide +kernel
theorem dX15_told_29 : decode cX15_told 29 = .ok (.iconst 0, 1) := by decide +kernel
theorem dX15_told_30 : decode cX15_told 30 = .ok (.ireturn, 1) := by decide +kernel
theorem dX15_turned_0 : decode cX15_turned 0 = .ok (.aload_n 0, 1) := by decide +kernel
theorem dX15_turned_1 : decode cX15_turned 1 = .ok (.iload_n 1, 1) := by decide +kernel
theorem dX15_turned_2 : decode cX15_turned 2 = .ok (.invokevirtual 308, 3) := by decide +kernel
theorem dX15_turned_5 : decode cX15_turned 5 = .ok (.ifCond .eq 24, 3) := by decide +kernel
theorem dX15_turned_29 : decode cX15_turned 29 = .ok (.iconst 0, 1) := by decide +kernel
theorem dX15_turned_30 : decode cX15_turned 30 = .ok (.ireturn, 1) := by decide +kernel
def wk_X15_isCubic : List Cond := .code yX15_isCubic cX15_isCubic 2 (some .boolean) :: wU
set_option maxHeartbeats 4000000 in
set_option maxRecDepth 100000 in
theorem m_X15_isCubic (l : Launch) (dC : Nat → ClassId) (dI : Nat → Nat → Nat) (h0 sz : Nat) (fs : List Value) (c0 : Int32) (hf : mF fs) : Met l yX15_isCubic wk_X15_isCubic ({ frames := 2, cells := 0, slots := 0, locals := 60 } : Room) (mP dC dI [(h0, .inr (15, fs))] [] sz [.ref h0, .int c0]) (va_Qi (S := Unit) (fun r _ => r = 0) (fun _ t => va_P (dC, dI) clx [(h0, .inr (15, (fs.set 0 (.int 1))))] t.heap) (va_A [(h0, .inr (15, fs))] sz)) 0 0 (va_A [(h0, .inr (15, fs))] sz) := by
  refine Met.ofW (cc := cX15_isCubic) (maxL := 2) (ret := (some .boolean)) (by decide) rfl ?_
  intro p e s m args below meth c s₁ B hml hv
  obtain ⟨rfl, hsz, hP, hK, hD0⟩ := hv
  have hx := B.exec
  have hb := B.bytes
  have hr := B.returns
  have hts := atoms_spec (ws := wk_X15_isCubic) B.pre
  have hu : ∀ w ∈ wU, w.before ([.ref h0, .int c0] : List Value).toArray s = true := fun w h => hts w (List.mem_cons_of_mem _ h)
  have hown : s.vm.findClass RX15 = some m.cls := findClass_of_methodNamed B.named
  have hlocks := B.notSynchronized
  subst hsz
  have hD := va_D1 (sz := s.heap.size) h0 (.inr (15, fs))
  generalize hAe : va_A [(h0, .inr (15, fs))] s.heap.size = A at hD ⊢
  have hA : ∀ q : Nat, s.heap.size ≤ q → A q := fun q h => by rw [← hAe]; exact Or.inr h
  have hS : va_S A s.heap s.heap [] := va_S.rf
  have hl := lv_entry ([.ref h0, .int c0]) (n := 2) (Nat.le_of_ble_eq_true rfl)
  rw [lg_entry_eq]
  generalize (lg_sl ([.ref h0, .int c0]) ++ List.replicate (2 - (lg_sl ([.ref h0, .int c0])).length) Slot.unset).toArray = ls at hl ⊢
  have hl : lv_has ls 2 [(0, .ref h0), (1, .int c0)] := hl
  refine lv_aload_n hx hb dX15_isCubic_0 rfl (lv_at hl 0 rfl) ?_
  refine lv_iload_n hx hb dX15_isCubic_1 rfl (lv_at hl 1 rfl) ?_
  refine lv_if_lt (tgt := 13) hx hb dX15_isCubic_2 (by decide) (fun c1 => ?_) (fun c1 => ?_)
  · skip
    refine lv_iconst (v := 1) hx hb dX15_isCubic_13 (by decide) ?_
    refine lv_goto (tgt := 18) hx hb dX15_isCubic_14 (by decide) ?_
    refine va_put (D := (dC, dI)) (ci := 15) (v := .int 1) (ty := .int) (C := RX15) (T := TX15) (N := 74) hx hb hu iX15 tyX15 tyX15_ok nmX15 hown hK hP hD hS 0 rfl rfl 0 (by decide) (hu _ u230) (fun _ h9 => h9) rfl (by decide +kernel) rfl rfl (by rw [hf.2.2.2.2.2]; decide) dX15_isCubic_18 (fun H locs hP hD hS => ?_)
    have hP : va_P (dC, dI) clx [(h0, .inr (15, (fs.set 0 (.int 1))))] H := hP
    have hD : va_D A [(h0, .inr (15, (fs.set 0 (.int 1))))] := hD
    refine lv_aload_n hx hb dX15_isCubic_21 rfl (lv_at hl 0 rfl) ?_
    refine va_get (D := (dC, dI)) (ci := 15) (v := .int 1) (C := RX15) (T := TX15) (N := 74) hx hb hu iX15 hown hK hP 0 rfl rfl 0 (by decide) (hu _ u230) (fun _ h9 => h9) (List.getElem?_set_self (by rw [hf.2.2.2.2.2]; decide)) dX15_isCubic_22 ?_
    refine lv_if_ne (tgt := 32) hx hb dX15_isCubic_25 (by decide) (fun _ => ?_) (fun h9 => absurd h9 (by decide))
    refine lv_iconst (v := 0) hx hb dX15_isCubic_32 (by decide) ?_
    exact W.zret (v := 0) (ty := .boolean) hx hb hr rfl (fun t ht hW => ⟨⟨0, (), rfl, rfl, by show va_P _ _ _ t.heap; rw [ht]; exact hP⟩, hS.F ht⟩) hS.2.2 dX15_isCubic_33
  · skip
    refine lv_iload_n hx hb dX15_isCubic_5 rfl (lv_at hl 1 rfl) ?_
    refine lv_aload_n hx hb dX15_isCubic_6 rfl (lv_at hl 0 rfl) ?_
    refine va_get (D := (dC, dI)) (ci := 15) (v := .int 0) (C := RX15) (T := TX15) (N := 74) hx hb hu iX15 hown hK hP 0 rfl rfl 12 (by decide) (hu _ u231) (fun _ h9 => h9) hf.1 dX15_isCubic_7 ?_
    refine lv_icmp_lt (tgt := 17) hx hb dX15_isCubic_10 (by decide) (fun h9 => absurd h9 c1) (fun _ => ?_)
    refine lv_iconst (v := 1) hx hb dX15_isCubic_13 (by decide) ?_
    refine lv_goto (tgt := 18) hx hb dX15_isCubic_14 (by decide) ?_
    refine va_put (D := (dC, dI)) (ci := 15) (v := .int 1) (ty := .int) (C := RX15) (T := TX15) (N := 74) hx hb hu iX15 tyX15 tyX15_ok nmX15 hown hK hP hD hS 0 rfl rfl 0 (by decide) (hu _ u230) (fun _ h9 => h9) rfl (by decide +kernel) rfl rfl (by rw [hf.2.2.2.2.2]; decide) dX15_isCubic_18 (fun H locs hP hD hS => ?_)
    have hP : va_P (dC, dI) clx [(h0, .inr (15, (fs.set 0 (.int 1))))] H := hP
    have hD : va_D A [(h0, .inr (15, (fs.set 0 (.int 1))))] := hD
    refine lv_aload_n hx hb dX15_isCubic_21 rfl (lv_at hl 0 rfl) ?_
    refine va_get (D := (dC, dI)) (ci := 15) (v := .int 1) (C := RX15) (T := TX15) (N := 74) hx hb hu iX15 hown hK hP 0 rfl rfl 0 (by decide) (hu _ u230) (fun _ h9 => h9) (List.getElem?_set_self (by rw [hf.2.2.2.2.2]; decide)) dX15_isCubic_22 ?_
    refine lv_if_ne (tgt := 32) hx hb dX15_isCubic_25 (by decide) (fun _ => ?_) (fun h9 => absurd h9 (by decide))
    refine lv_iconst (v := 0) hx hb dX15_isCubic_32 (by decide) ?_
    exact W.zret (v := 0) (ty := .boolean) hx hb hr rfl (fun t ht hW => ⟨⟨0, (), rfl, rfl, by show va_P _ _ _ t.heap; rw [ht]; exact hP⟩, hS.F ht⟩) hS.2.2 dX15_isCubic_33
def wk_X15_isPoint : List Cond := .code yX15_isPoint cX15_isPoint 2 (some .boolean) :: wU
set_option maxHeartbeats 4000000 in
set_option maxRecDepth 100000 in
theorem m_X15_isPoint (l : Launch) (dC : Nat → ClassId) (dI : Nat → Nat → Nat) (h0 sz : Nat) (fs : List Value) (c0 : Int32) (hf : mF fs) : Met l yX15_isPoint wk_X15_isPoint ({ frames := 2, cells := 0, slots := 0, locals := 60 } : Room) (mP dC dI [(h0, .inr (15, fs))] [] sz [.ref h0, .int c0]) (va_Qi (S := Unit) (fun r _ => r = 0) (fun _ t => va_P (dC, dI) clx [(h0, .inr (15, (fs.set 0 (.int 1))))] t.heap) (va_A [(h0, .inr (15, fs))] sz)) 0 0 (va_A [(h0, .inr (15, fs))] sz) := by
  refine Met.ofW (cc := cX15_isPoint) (maxL := 2) (ret := (some .boolean)) (by decide) rfl ?_
  intro p e s m args below meth c s₁ B hml hv
  obtain ⟨rfl, hsz, hP, hK, hD0⟩ := hv
  have hx := B.exec
  have hb := B.bytes
  have hr := B.returns
  have hts := atoms_spec (ws := wk_X15_isPoint) B.pre
  have hu : ∀ w ∈ wU, w.before ([.ref h0, .int c0] : List Value).toArray s = true := fun w h => hts w (List.mem_cons_of_mem _ h)
  have hown : s.vm.findClass RX15 = some m.cls := findClass_of_methodNamed B.named
  have hlocks := B.notSynchronized
  subst hsz
  have hD := va_D1 (sz := s.heap.size) h0 (.inr (15, fs))
  generalize hAe : va_A [(h0, .inr (15, fs))] s.heap.size = A at hD ⊢
  have hA : ∀ q : Nat, s.heap.size ≤ q → A q := fun q h => by rw [← hAe]; exact Or.inr h
  have hS : va_S A s.heap s.heap [] := va_S.rf
  have hl := lv_entry ([.ref h0, .int c0]) (n := 2) (Nat.le_of_ble_eq_true rfl)
  rw [lg_entry_eq]
  generalize (lg_sl ([.ref h0, .int c0]) ++ List.replicate (2 - (lg_sl ([.ref h0, .int c0])).length) Slot.unset).toArray = ls at hl ⊢
  have hl : lv_has ls 2 [(0, .ref h0), (1, .int c0)] := hl
  refine lv_aload_n hx hb dX15_isPoint_0 rfl (lv_at hl 0 rfl) ?_
  refine lv_iload_n hx hb dX15_isPoint_1 rfl (lv_at hl 1 rfl) ?_
  refine lv_if_lt (tgt := 13) hx hb dX15_isPoint_2 (by decide) (fun c1 => ?_) (fun c1 => ?_)
  · skip
    refine lv_iconst (v := 1) hx hb dX15_isPoint_13 (by decide) ?_
    refine lv_goto (tgt := 18) hx hb dX15_isPoint_14 (by decide) ?_
    refine va_put (D := (dC, dI)) (ci := 15) (v := .int 1) (ty := .int) (C := RX15) (T := TX15) (N := 74) hx hb hu iX15 tyX15 tyX15_ok nmX15 hown hK hP hD hS 0 rfl rfl 0 (by decide) (hu _ u230) (fun _ h9 => h9) rfl (by decide +kernel) rfl rfl (by rw [hf.2.2.2.2.2]; decide) dX15_isPoint_18 (fun H locs hP hD hS => ?_)
    have hP : va_P (dC, dI) clx [(h0, .inr (15, (fs.set 0 (.int 1))))] H := hP
    have hD : va_D A [(h0, .inr (15, (fs.set 0 (.int 1))))] := hD
    refine lv_aload_n hx hb dX15_isPoint_21 rfl (lv_at hl 0 rfl) ?_
    refine va_get (D := (dC, dI)) (ci := 15) (v := .int 1) (C := RX15) (T := TX15) (N := 74) hx hb hu iX15 hown hK hP 0 rfl rfl 0 (by decide) (hu _ u230) (fun _ h9 => h9) (List.getElem?_set_self (by rw [hf.2.2.2.2.2]; decide)) dX15_isPoint_22 ?_
    refine lv_if_ne (tgt := 32) hx hb dX15_isPoint_25 (by decide) (fun _ => ?_) (fun h9 => absurd h9 (by decide))
    refine lv_iconst (v := 0) hx hb dX15_isPoint_32 (by decide) ?_
    exact W.zret (v := 0) (ty := .boolean) hx hb hr rfl (fun t ht hW => ⟨⟨0, (), rfl, rfl, by show va_P _ _ _ t.heap; rw [ht]; exact hP⟩, hS.F ht⟩) hS.2.2 dX15_isPoint_33
  · skip
    refine lv_iload_n hx hb dX15_isPoint_5 rfl (lv_at hl 1 rfl) ?_
    refine lv_aload_n hx hb dX15_isPoint_6 rfl (lv_at hl 0 rfl) ?_
    refine va_get (D := (dC, dI)) (ci := 15) (v := .int 0) (C := RX15) (T := TX15) (N := 74) hx hb hu iX15 hown hK hP 0 rfl rfl 22 (by decide) (hu _ u232) (fun _ h9 => h9) hf.2.1 dX15_isPoint_7 ?_
    refine lv_icmp_lt (tgt := 17) hx hb dX15_isPoint_10 (by decide) (fun h9 => absurd h9 c1) (fun _ => ?_)
    refine lv_iconst (v := 1) hx hb dX15_isPoint_13 (by decide) ?_
    refine lv_goto (tgt := 18) hx hb dX15_isPoint_14 (by decide) ?_
    refine va_put (D := (dC, dI)) (ci := 15) (v := .int 1) (ty := .int) (C := RX15) (T := TX15) (N := 74) hx hb hu iX15 tyX15 tyX15_ok nmX15 hown hK hP hD hS 0 rfl rfl 0 (by decide) (hu _ u230) (fun _ h9 => h9) rfl (by decide +kernel) rfl rfl (by rw [hf.2.2.2.2.2]; decide) dX15_isPoint_18 (fun H locs hP hD hS => ?_)
    have hP : va_P (dC, dI) clx [(h0, .inr (15, (fs.set 0 (.int 1))))] H := hP
    have hD : va_D A [(h0, .inr (15, (fs.set 0 (.int 1))))] := hD
    refine lv_aload_n hx hb dX15_isPoint_21 rfl (lv_at hl 0 rfl) ?_
    refine va_get (D := (dC, dI)) (ci := 15) (v := .int 1) (C := RX15) (T := TX15) (N := 74) hx hb hu iX15 hown hK hP 0 rfl rfl 0 (by decide) (hu _ u230) (fun _ h9 => h9) (List.getElem?_set_self (by rw [hf.2.2.2.2.2]; decide)) dX15_isPoint_22 ?_
    refine lv_if_ne (tgt := 32) hx hb dX15_isPoint_25 (by decide) (fun _ => ?_) (fun h9 => absurd h9 (by decide))
    refine lv_iconst (v := 0) hx hb dX15_isPoint_32 (by decide) ?_
    exact W.zret (v := 0) (ty := .boolean) hx hb hr rfl (fun t ht hW => ⟨⟨0, (), rfl, rfl, by show va_P _ _ _ t.heap; rw [ht]; exact hP⟩, hS.F ht⟩) hS.2.2 dX15_isPoint_33
def wk_X15_isRest : List Cond := .code yX15_isRest cX15_isRest 4 (some .boolean) :: wU
set_option maxHeartbeats 4000000 in
set_option maxRecDepth 100000 in
theorem m_X15_isRest (l : Launch) (dC : Nat → ClassId) (dI : Nat → Nat → Nat) (h0 sz : Nat) (fs : List Value) (c0 d0 e0 : Int32) (hf : mF fs) : Met l yX15_isRest wk_X15_isRest ({ frames := 3, cells := 0, slots := 0, locals := 81 } : Room) (mP dC dI [(h0, .inr (15, fs))] [] sz [.ref h0, .int c0, .int d0, .int e0]) (va_Qi (S := Unit) (fun r _ => r = 0) (fun _ t => va_P (dC, dI) clx [(h0, .inr (15, (fs.set 0 (.int 1))))] t.heap) (va_A [(h0, .inr (15, fs))] sz)) 0 0 (va_A [(h0, .inr (15, fs))] sz) := by
  refine Met.ofW (cc := cX15_isRest) (maxL := 4) (ret := (some .boolean)) (by decide) rfl ?_
  intro p e s m args below meth c s₁ B hml hv
  obtain ⟨rfl, hsz, hP, hK, hD0⟩ := hv
  have hx := B.exec
  have hb := B.bytes
  have hr := B.returns
  have hts := atoms_spec (ws := wk_X15_isRest) B.pre
  have hu : ∀ w ∈ wU, w.before ([.ref h0, .int c0, .int d0, .int e0] : List Value).toArray s = true := fun w h => hts w (List.mem_cons_of_mem _ h)
  have hown : s.vm.findClass RX15 = some m.cls := findClass_of_methodNamed B.named
  have hlocks := B.notSynchronized
  subst hsz
  have hD := va_D1 (sz := s.heap.size) h0 (.inr (15, fs))
  generalize hAe : va_A [(h0, .inr (15, fs))] s.heap.size = A at hD ⊢
  have hA : ∀ q : Nat, s.heap.size ≤ q → A q := fun q h => by rw [← hAe]; exact Or.inr h
  have hS : va_S A s.heap s.heap [] := va_S.rf
  have hl := lv_entry ([.ref h0, .int c0, .int d0, .int e0]) (n := 4) (Nat.le_of_ble_eq_true rfl)
  rw [lg_entry_eq]
  generalize (lg_sl ([.ref h0, .int c0, .int d0, .int e0]) ++ List.replicate (4 - (lg_sl ([.ref h0, .int c0, .int d0, .int e0])).length) Slot.unset).toArray = ls at hl ⊢
  have hl : lv_has ls 4 [(0, .ref h0), (1, .int c0), (2, .int d0), (3, .int e0)] := hl
  refine lv_aload_n hx hb dX15_isRest_0 rfl (lv_at hl 0 rfl) ?_
  refine lv_iload_n hx hb dX15_isRest_1 rfl (lv_at hl 1 rfl) ?_
  have hFc := va_free (wc := [(h0, .inr (15, fs))]) hD hS hA [0] rfl
  refine va_calli (va_runV (As := [.int c0]) (rest := []) ⟨hx, hb, hml, hown, hu⟩ (m_X15_isCubic l dC dI h0 _ fs (c0) hf) (cwV 1 hu (gV u233 u234 u235 u236 u237) rfl rfl rfl (by decide +kernel) ⟨(Nat.le_of_ble_eq_true rfl), (Nat.le_of_ble_eq_true rfl)⟩) ⟨mP_blind, va_recv hK hP (ci := 15) (q0 := 0) rfl rfl, mP_at hP hK hD⟩ rfl rfl hl.1 rfl (lv_room (Nat.le_of_ble_eq_true rfl)) dX15_isRest_2 ⟨Nat.zero_le _, Nat.zero_le _⟩) hS (fun q _ h => hFc q h) hFc (fun r1 u9 t H1 locs ht hvm hw hB hz1 hk1 hS => ?_)
  have hw : r1 = 0 := hw
  subst hw
  have hP : va_P (dC, dI) clx [(h0, .inr (15, (fs.set 0 (.int 1))))] t.heap := hB
  rw [ht] at hP
  refine lv_if_eq (tgt := 47) hx hb dX15_isRest_5 (by decide) (fun _ => ?_) (fun h9 => absurd (by decide) h9)
  refine lv_iconst (v := 0) hx hb dX15_isRest_47 (by decide) ?_
  exact W.zret (v := 0) (ty := .boolean) hx hb hr rfl (fun t ht hW => ⟨⟨0, (), rfl, rfl, by show va_P _ _ _ t.heap; rw [ht]; exact hP⟩, hS.F ht⟩) hS.2.2 dX15_isRest_48
def wk_X15_rest : List Cond := .code yX15_rest cX15_rest 7 (some .int) :: wU
set_option maxHeartbeats 4000000 in
set_option maxRecDepth 100000 in
theorem m_X15_rest (l : Launch) (dC : Nat → ClassId) (dI : Nat → Nat → Nat) (h0 sz : Nat) (fs : List Value) (c0 d0 : Int32) (hf : mF fs) : Met l yX15_rest wk_X15_rest ({ frames := 3, cells := 0, slots := 0, locals := 81 } : Room) (mP dC dI [(h0, .inr (15, fs))] [] sz [.ref h0, .int c0, .int d0]) (va_Qi (S := Unit) (fun r _ => r = 0) (fun _ t => va_P (dC, dI) clx [(h0, .inr (15, (fs.set 0 (.int 1))))] t.heap) (va_A [(h0, .inr (15, fs))] sz)) 0 0 (va_A [(h0, .inr (15, fs))] sz) := by
  refine Met.ofW (cc := cX15_rest) (maxL := 7) (ret := (some .int)) (by decide) rfl ?_
  intro p e s m args below meth c s₁ B hml hv
  obtain ⟨rfl, hsz, hP, hK, hD0⟩ := hv
  have hx := B.exec
  have hb := B.bytes
  have hr := B.returns
  have hts := atoms_spec (ws := wk_X15_rest) B.pre
  have hu : ∀ w ∈ wU, w.before ([.ref h0, .int c0, .int d0] : List Value).toArray s = true := fun w h => hts w (List.mem_cons_of_mem _ h)
  have hown : s.vm.findClass RX15 = some m.cls := findClass_of_methodNamed B.named
  have hlocks := B.notSynchronized
  subst hsz
  have hD := va_D1 (sz := s.heap.size) h0 (.inr (15, fs))
  generalize hAe : va_A [(h0, .inr (15, fs))] s.heap.size = A at hD ⊢
  have hA : ∀ q : Nat, s.heap.size ≤ q → A q := fun q h => by rw [← hAe]; exact Or.inr h
  have hS : va_S A s.heap s.heap [] := va_S.rf
  have hl := lv_entry ([.ref h0, .int c0, .int d0]) (n := 7) (Nat.le_of_ble_eq_true rfl)
  rw [lg_entry_eq]
  generalize (lg_sl ([.ref h0, .int c0, .int d0]) ++ List.replicate (7 - (lg_sl ([.ref h0, .int c0, .int d0])).length) Slot.unset).toArray = ls at hl ⊢
  have hl : lv_has ls 7 [(0, .ref h0), (1, .int c0), (2, .int d0)] := hl
  refine lv_aload_n hx hb dX15_rest_0 rfl (lv_at hl 0 rfl) ?_
  refine lv_iload_n hx hb dX15_rest_1 rfl (lv_at hl 1 rfl) ?_
  have hFc := va_free (wc := [(h0, .inr (15, fs))]) hD hS hA [0] rfl
  refine va_calli (va_runV (As := [.int c0]) (rest := []) ⟨hx, hb, hml, hown, hu⟩ (m_X15_isCubic l dC dI h0 _ fs (c0) hf) (cwV 1 hu (gV u233 u234 u235 u236 u237) rfl rfl rfl (by decide +kernel) ⟨(Nat.le_of_ble_eq_true rfl), (Nat.le_of_ble_eq_true rfl)⟩) ⟨mP_blind, va_recv hK hP (ci := 15) (q0 := 0) rfl rfl, mP_at hP hK hD⟩ rfl rfl hl.1 rfl (lv_room (Nat.le_of_ble_eq_true rfl)) dX15_rest_2 ⟨Nat.zero_le _, Nat.zero_le _⟩) hS (fun q _ h => hFc q h) hFc (fun r1 u9 t H1 locs ht hvm hw hB hz1 hk1 hS => ?_)
  have hw : r1 = 0 := hw
  subst hw
  have hP : va_P (dC, dI) clx [(h0, .inr (15, (fs.set 0 (.int 1))))] t.heap := hB
  rw [ht] at hP
  refine lv_if_eq (tgt := 36) hx hb dX15_rest_5 (by decide) (fun _ => ?_) (fun h9 => absurd (by decide) h9)
  refine lv_iconst (v := 0) hx hb dX15_rest_36 (by decide) ?_
  exact W.iret (v := 0) hx hb hr (fun t ht hW => ⟨⟨0, (), rfl, rfl, by show va_P _ _ _ t.heap; rw [ht]; exact hP⟩, hS.F ht⟩) hS.2.2 dX15_rest_37
def wk_X15_turned : List Cond := .code yX15_turned cX15_turned 5 (some .int) :: wU
set_option maxHeartbeats 4000000 in
set_option maxRecDepth 100000 in
theorem m_X15_turned (l : Launch) (dC : Nat → ClassId) (dI : Nat → Nat → Nat) (h0 sz : Nat) (fs : List Value) (c0 : Int32) (hf : mF fs) : Met l yX15_turned wk_X15_turned ({ frames := 3, cells := 0, slots := 0, locals := 81 } : Room) (mP dC dI [(h0, .inr (15, fs))] [] sz [.ref h0, .int c0]) (va_Qi (S := Unit) (fun r _ => r = 0) (fun _ t => va_P (dC, dI) clx [(h0, .inr (15, (fs.set 0 (.int 1))))] t.heap) (va_A [(h0, .inr (15, fs))] sz)) 0 0 (va_A [(h0, .inr (15, fs))] sz) := by
  refine Met.ofW (cc := cX15_turned) (maxL := 5) (ret := (some .int)) (by decide) rfl ?_
  intro p e s m args below meth c s₁ B hml hv
  obtain ⟨rfl, hsz, hP, hK, hD0⟩ := hv
  have hx := B.exec
  have hb := B.bytes
  have hr := B.returns
  have hts := atoms_spec (ws := wk_X15_turned) B.pre
  have hu : ∀ w ∈ wU, w.before ([.ref h0, .int c0] : List Value).toArray s = true := fun w h => hts w (List.mem_cons_of_mem _ h)
  have hown : s.vm.findClass RX15 = some m.cls := findClass_of_methodNamed B.named
  have hlocks := B.notSynchronized
  subst hsz
  have hD := va_D1 (sz := s.heap.size) h0 (.inr (15, fs))
  generalize hAe : va_A [(h0, .inr (15, fs))] s.heap.size = A at hD ⊢
  have hA : ∀ q : Nat, s.heap.size ≤ q → A q := fun q h => by rw [← hAe]; exact Or.inr h
  have hS : va_S A s.heap s.heap [] := va_S.rf
  have hl := lv_entry ([.ref h0, .int c0]) (n := 5) (Nat.le_of_ble_eq_true rfl)
  rw [lg_entry_eq]
  generalize (lg_sl ([.ref h0, .int c0]) ++ List.replicate (5 - (lg_sl ([.ref h0, .int c0])).length) Slot.unset).toArray = ls at hl ⊢
  have hl : lv_has ls 5 [(0, .ref h0), (1, .int c0)] := hl
  refine lv_aload_n hx hb dX15_turned_0 rfl (lv_at hl 0 rfl) ?_
  refine lv_iload_n hx hb dX15_turned_1 rfl (lv_at hl 1 rfl) ?_
  have hFc := va_free (wc := [(h0, .inr (15, fs))]) hD hS hA [0] rfl
  refine va_calli (va_runV (As := [.int c0]) (rest := []) ⟨hx, hb, hml, hown, hu⟩ (m_X15_isCubic l dC dI h0 _ fs (c0) hf) (cwV 1 hu (gV u233 u234 u235 u236 u237) rfl rfl rfl (by decide +kernel) ⟨(Nat.le_of_ble_eq_true rfl), (Nat.le_of_ble_eq_true rfl)⟩) ⟨mP_blind, va_recv hK hP (ci := 15) (q0 := 0) rfl rfl, mP_at hP hK hD⟩ rfl rfl hl.1 rfl (lv_room (Nat.le_of_ble_eq_true rfl)) dX15_turned_2 ⟨Nat.zero_le _, Nat.zero_le _⟩) hS (fun q _ h => hFc q h) hFc (fun r1 u9 t H1 locs ht hvm hw hB hz1 hk1 hS => ?_)
  have hw : r1 = 0 := hw
  subst hw
  have hP : va_P (dC, dI) clx [(h0, .inr (15, (fs.set 0 (.int 1))))] t.heap := hB
  rw [ht] at hP
  refine lv_if_eq (tgt := 29) hx hb dX15_turned_5 (by decide) (fun _ => ?_) (fun h9 => absurd (by decide) h9)
  refine lv_iconst (v := 0) hx hb dX15_turned_29 (by decide) ?_
  exact W.iret (v := 0) hx hb hr (fun t ht hW => ⟨⟨0, (), rfl, rfl, by show va_P _ _ _ t.heap; rw [ht]; exact hP⟩, hS.F ht⟩) hS.2.2 dX15_turned_30
def wk_X15_about : List Cond := .code yX15_about cX15_about 4 (some .long) :: wU
set_option maxHeartbeats 4000000 in
set_option maxRecDepth 100000 in
theorem m_X15_about (l : Launch) (dC : Nat → ClassId) (dI : Nat → Nat → Nat) (h0 sz : Nat) (fs : List Value) (c0 d0 : Int32) (hf : mF fs) : Met l yX15_about wk_X15_about ({ frames := 3, cells := 0, slots := 0, locals := 81 } : Room) (mP dC dI [(h0, .inr (15, fs))] [] sz [.ref h0, .int c0, .int d0]) (va_Ql (S := Unit) (fun r _ => r = 0) (fun _ t => va_P (dC, dI) clx [(h0, .inr (15, (fs.set 0 (.int 1))))] t.heap) (va_A [(h0, .inr (15, fs))] sz)) 0 0 (va_A [(h0, .inr (15, fs))] sz) := by
  refine Met.ofW (cc := cX15_about) (maxL := 4) (ret := (some .long)) (by decide) rfl ?_
  intro p e s m args below meth c s₁ B hml hv
  obtain ⟨rfl, hsz, hP, hK, hD0⟩ := hv
  have hx := B.exec
  have hb := B.bytes
  have hr := B.returns
  have hts := atoms_spec (ws := wk_X15_about) B.pre
  have hu : ∀ w ∈ wU, w.before ([.ref h0, .int c0, .int d0] : List Value).toArray s = true := fun w h => hts w (List.mem_cons_of_mem _ h)
  have hown : s.vm.findClass RX15 = some m.cls := findClass_of_methodNamed B.named
  have hlocks := B.notSynchronized
  subst hsz
  have hD := va_D1 (sz := s.heap.size) h0 (.inr (15, fs))
  generalize hAe : va_A [(h0, .inr (15, fs))] s.heap.size = A at hD ⊢
  have hA : ∀ q : Nat, s.heap.size ≤ q → A q := fun q h => by rw [← hAe]; exact Or.inr h
  have hS : va_S A s.heap s.heap [] := va_S.rf
  have hl := lv_entry ([.ref h0, .int c0, .int d0]) (n := 4) (Nat.le_of_ble_eq_true rfl)
  rw [lg_entry_eq]
  generalize (lg_sl ([.ref h0, .int c0, .int d0]) ++ List.replicate (4 - (lg_sl ([.ref h0, .int c0, .int d0])).length) Slot.unset).toArray = ls at hl ⊢
  have hl : lv_has ls 4 [(0, .ref h0), (1, .int c0), (2, .int d0)] := hl
  refine lv_aload_n hx hb dX15_about_0 rfl (lv_at hl 0 rfl) ?_
  refine lv_iload_n hx hb dX15_about_1 rfl (lv_at hl 1 rfl) ?_
  have hFc := va_free (wc := [(h0, .inr (15, fs))]) hD hS hA [0] rfl
  refine va_calli (va_runV (As := [.int c0]) (rest := []) ⟨hx, hb, hml, hown, hu⟩ (m_X15_isCubic l dC dI h0 _ fs (c0) hf) (cwV 1 hu (gV u233 u234 u235 u236 u237) rfl rfl rfl (by decide +kernel) ⟨(Nat.le_of_ble_eq_true rfl), (Nat.le_of_ble_eq_true rfl)⟩) ⟨mP_blind, va_recv hK hP (ci := 15) (q0 := 0) rfl rfl, mP_at hP hK hD⟩ rfl rfl hl.1 rfl (lv_room (Nat.le_of_ble_eq_true rfl)) dX15_about_2 ⟨Nat.zero_le _, Nat.zero_le _⟩) hS (fun q _ h => hFc q h) hFc (fun r1 u9 t H1 locs ht hvm hw hB hz1 hk1 hS => ?_)
  have hw : r1 = 0 := hw
  subst hw
  have hP : va_P (dC, dI) clx [(h0, .inr (15, (fs.set 0 (.int 1))))] t.heap := hB
  rw [ht] at hP
  refine lv_if_eq (tgt := 29) hx hb dX15_about_5 (by decide) (fun _ => ?_) (fun h9 => absurd (by decide) h9)
  refine lv_lconst (v := 0) hx hb dX15_about_29 (by decide) ?_
  exact W.lret (v := 0) hx hb hr (fun t ht hW => ⟨⟨0, (), rfl, rfl, by show va_P _ _ _ t.heap; rw [ht]; exact hP⟩, hS.F ht⟩) hS.2.2 dX15_about_30
def wk_X15_far : List Cond := .code yX15_far cX15_far 2 (some .int) :: wU
set_option maxHeartbeats 4000000 in
set_option maxRecDepth 100000 in
theorem m_X15_far (l : Launch) (dC : Nat → ClassId) (dI : Nat → Nat → Nat) (h0 sz : Nat) (fs : List Value) (c0 : Int32) (hf : mF fs) : Met l yX15_far wk_X15_far ({ frames := 3, cells := 0, slots := 0, locals := 81 } : Room) (mP dC dI [(h0, .inr (15, fs))] [] sz [.ref h0, .int c0]) (va_Qi (S := Unit) (fun r _ => r = 0) (fun _ t => va_P (dC, dI) clx [(h0, .inr (15, (fs.set 0 (.int 1))))] t.heap) (va_A [(h0, .inr (15, fs))] sz)) 0 0 (va_A [(h0, .inr (15, fs))] sz) := by
  refine Met.ofW (cc := cX15_far) (maxL := 2) (ret := (some .int)) (by decide) rfl ?_
  intro p e s m args below meth c s₁ B hml hv
  obtain ⟨rfl, hsz, hP, hK, hD0⟩ := hv
  have hx := B.exec
  have hb := B.bytes
  have hr := B.returns
  have hts := atoms_spec (ws := wk_X15_far) B.pre
  have hu : ∀ w ∈ wU, w.before ([.ref h0, .int c0] : List Value).toArray s = true := fun w h => hts w (List.mem_cons_of_mem _ h)
  have hown : s.vm.findClass RX15 = some m.cls := findClass_of_methodNamed B.named
  have hlocks := B.notSynchronized
  subst hsz
  have hD := va_D1 (sz := s.heap.size) h0 (.inr (15, fs))
  generalize hAe : va_A [(h0, .inr (15, fs))] s.heap.size = A at hD ⊢
  have hA : ∀ q : Nat, s.heap.size ≤ q → A q := fun q h => by rw [← hAe]; exact Or.inr h
  have hS : va_S A s.heap s.heap [] := va_S.rf
  have hl := lv_entry ([.ref h0, .int c0]) (n := 2) (Nat.le_of_ble_eq_true rfl)
  rw [lg_entry_eq]
  generalize (lg_sl ([.ref h0, .int c0]) ++ List.replicate (2 - (lg_sl ([.ref h0, .int c0])).length) Slot.unset).toArray = ls at hl ⊢
  have hl : lv_has ls 2 [(0, .ref h0), (1, .int c0)] := hl
  refine lv_aload_n hx hb dX15_far_0 rfl (lv_at hl 0 rfl) ?_
  refine lv_iload_n hx hb dX15_far_1 rfl (lv_at hl 1 rfl) ?_
  have hFc := va_free (wc := [(h0, .inr (15, fs))]) hD hS hA [0] rfl
  refine va_calli (va_runV (As := [.int c0]) (rest := []) ⟨hx, hb, hml, hown, hu⟩ (m_X15_isCubic l dC dI h0 _ fs (c0) hf) (cwV 1 hu (gV u233 u234 u235 u236 u237) rfl rfl rfl (by decide +kernel) ⟨(Nat.le_of_ble_eq_true rfl), (Nat.le_of_ble_eq_true rfl)⟩) ⟨mP_blind, va_recv hK hP (ci := 15) (q0 := 0) rfl rfl, mP_at hP hK hD⟩ rfl rfl hl.1 rfl (lv_room (Nat.le_of_ble_eq_true rfl)) dX15_far_2 ⟨Nat.zero_le _, Nat.zero_le _⟩) hS (fun q _ h => hFc q h) hFc (fun r1 u9 t H1 locs ht hvm hw hB hz1 hk1 hS => ?_)
  have hw : r1 = 0 := hw
  subst hw
  have hP : va_P (dC, dI) clx [(h0, .inr (15, (fs.set 0 (.int 1))))] t.heap := hB
  rw [ht] at hP
  refine lv_if_ne (tgt := 10) hx hb dX15_far_5 (by decide) (fun h9 => absurd (by decide) h9) (fun _ => ?_)
  refine lv_iconst (v := 0) hx hb dX15_far_8 (by decide) ?_
  exact W.iret (v := 0) hx hb hr (fun t ht hW => ⟨⟨0, (), rfl, rfl, by show va_P _ _ _ t.heap; rw [ht]; exact hP⟩, hS.F ht⟩) hS.2.2 dX15_far_9
def wk_X15_point : List Cond := .code yX15_point cX15_point 7 (some .int) :: wU
set_option maxHeartbeats 4000000 in
set_option maxRecDepth 100000 in
theorem m_X15_point (l : Launch) (dC : Nat → ClassId) (dI : Nat → Nat → Nat) (h0 sz : Nat) (fs : List Value) (c0 d0 e0 : Int32) (hf : mF fs) : Met l yX15_point wk_X15_point ({ frames := 3, cells := 0, slots := 0, locals := 81 } : Room) (mP dC dI [(h0, .inr (15, fs))] [] sz [.ref h0, .int c0, .int d0, .int e0]) (va_Qi (S := Unit) (fun r _ => r = 0) (fun _ t => va_P (dC, dI) clx [(h0, .inr (15, (fs.set 0 (.int 1))))] t.heap) (va_A [(h0, .inr (15, fs))] sz)) 0 0 (va_A [(h0, .inr (15, fs))] sz) := by
  refine Met.ofW (cc := cX15_point) (maxL := 7) (ret := (some .int)) (by decide) rfl ?_
  intro p e s m args below meth c s₁ B hml hv
  obtain ⟨rfl, hsz, hP, hK, hD0⟩ := hv
  have hx := B.exec
  have hb := B.bytes
  have hr := B.returns
  have hts := atoms_spec (ws := wk_X15_point) B.pre
  have hu : ∀ w ∈ wU, w.before ([.ref h0, .int c0, .int d0, .int e0] : List Value).toArray s = true := fun w h => hts w (List.mem_cons_of_mem _ h)
  have hown : s.vm.findClass RX15 = some m.cls := findClass_of_methodNamed B.named
  have hlocks := B.notSynchronized
  subst hsz
  have hD := va_D1 (sz := s.heap.size) h0 (.inr (15, fs))
  generalize hAe : va_A [(h0, .inr (15, fs))] s.heap.size = A at hD ⊢
  have hA : ∀ q : Nat, s.heap.size ≤ q → A q := fun q h => by rw [← hAe]; exact Or.inr h
  have hS : va_S A s.heap s.heap [] := va_S.rf
  have hl := lv_entry ([.ref h0, .int c0, .int d0, .int e0]) (n := 7) (Nat.le_of_ble_eq_true rfl)
  rw [lg_entry_eq]
  generalize (lg_sl ([.ref h0, .int c0, .int d0, .int e0]) ++ List.replicate (7 - (lg_sl ([.ref h0, .int c0, .int d0, .int e0])).length) Slot.unset).toArray = ls at hl ⊢
  have hl : lv_has ls 7 [(0, .ref h0), (1, .int c0), (2, .int d0), (3, .int e0)] := hl
  refine lv_aload_n hx hb dX15_point_0 rfl (lv_at hl 0 rfl) ?_
  refine lv_iload_n hx hb dX15_point_1 rfl (lv_at hl 1 rfl) ?_
  have hFc := va_free (wc := [(h0, .inr (15, fs))]) hD hS hA [0] rfl
  refine va_calli (va_runV (As := [.int c0]) (rest := []) ⟨hx, hb, hml, hown, hu⟩ (m_X15_isCubic l dC dI h0 _ fs (c0) hf) (cwV 1 hu (gV u233 u234 u235 u236 u237) rfl rfl rfl (by decide +kernel) ⟨(Nat.le_of_ble_eq_true rfl), (Nat.le_of_ble_eq_true rfl)⟩) ⟨mP_blind, va_recv hK hP (ci := 15) (q0 := 0) rfl rfl, mP_at hP hK hD⟩ rfl rfl hl.1 rfl (lv_room (Nat.le_of_ble_eq_true rfl)) dX15_point_2 ⟨Nat.zero_le _, Nat.zero_le _⟩) hS (fun q _ h => hFc q h) hFc (fun r1 u9 t H1 locs ht hvm hw hB hz1 hk1 hS => ?_)
  have hw : r1 = 0 := hw
  subst hw
  have hP : va_P (dC, dI) clx [(h0, .inr (15, (fs.set 0 (.int 1))))] t.heap := hB
  rw [ht] at hP
  refine lv_if_ne (tgt := 10) hx hb dX15_point_5 (by decide) (fun h9 => absurd (by decide) h9) (fun _ => ?_)
  refine lv_iconst (v := 0) hx hb dX15_point_8 (by decide) ?_
  exact W.iret (v := 0) hx hb hr (fun t ht hW => ⟨⟨0, (), rfl, rfl, by show va_P _ _ _ t.heap; rw [ht]; exact hP⟩, hS.F ht⟩) hS.2.2 dX15_point_9
def wk_X15_add : List Cond := .code yX15_add cX15_add 4 (some .int) :: wU
set_option maxHeartbeats 4000000 in
set_option maxRecDepth 100000 in
theorem m_X15_add (l : Launch) (dC : Nat → ClassId) (dI : Nat → Nat → Nat) (h0 sz : Nat) (fs : List Value) (c0 d0 : Int32) (hf : mF fs) : Met l yX15_add wk_X15_add ({ frames := 3, cells := 0, slots := 0, locals := 81 } : Room) (mP dC dI [(h0, .inr (15, fs))] [] sz [.ref h0, .int c0, .int d0]) (va_Qi (S := Unit) (fun r _ => r = 0) (fun _ t => va_P (dC, dI) clx [(h0, .inr (15, (fs.set 0 (.int 1))))] t.heap) (va_A [(h0, .inr (15, fs))] sz)) 0 0 (va_A [(h0, .inr (15, fs))] sz) := by
  refine Met.ofW (cc := cX15_add) (maxL := 4) (ret := (some .int)) (by decide) rfl ?_
  intro p e s m args below meth c s₁ B hml hv
  obtain ⟨rfl, hsz, hP, hK, hD0⟩ := hv
  have hx := B.exec
  have hb := B.bytes
  have hr := B.returns
  have hts := atoms_spec (ws := wk_X15_add) B.pre
  have hu : ∀ w ∈ wU, w.before ([.ref h0, .int c0, .int d0] : List Value).toArray s = true := fun w h => hts w (List.mem_cons_of_mem _ h)
  have hown : s.vm.findClass RX15 = some m.cls := findClass_of_methodNamed B.named
  have hlocks := B.notSynchronized
  subst hsz
  have hD := va_D1 (sz := s.heap.size) h0 (.inr (15, fs))
  generalize hAe : va_A [(h0, .inr (15, fs))] s.heap.size = A at hD ⊢
  have hA : ∀ q : Nat, s.heap.size ≤ q → A q := fun q h => by rw [← hAe]; exact Or.inr h
  have hS : va_S A s.heap s.heap [] := va_S.rf
  have hl := lv_entry ([.ref h0, .int c0, .int d0]) (n := 4) (Nat.le_of_ble_eq_true rfl)
  rw [lg_entry_eq]
  generalize (lg_sl ([.ref h0, .int c0, .int d0]) ++ List.replicate (4 - (lg_sl ([.ref h0, .int c0, .int d0])).length) Slot.unset).toArray = ls at hl ⊢
  have hl : lv_has ls 4 [(0, .ref h0), (1, .int c0), (2, .int d0)] := hl
  refine lv_aload_n hx hb dX15_add_0 rfl (lv_at hl 0 rfl) ?_
  refine lv_iload_n hx hb dX15_add_1 rfl (lv_at hl 1 rfl) ?_
  have hFc := va_free (wc := [(h0, .inr (15, fs))]) hD hS hA [0] rfl
  refine va_calli (va_runV (As := [.int c0]) (rest := []) ⟨hx, hb, hml, hown, hu⟩ (m_X15_isPoint l dC dI h0 _ fs (c0) hf) (cwV 1 hu (gV u238 u239 u240 u236 u241) rfl rfl rfl (by decide +kernel) ⟨(Nat.le_of_ble_eq_true rfl), (Nat.le_of_ble_eq_true rfl)⟩) ⟨mP_blind, va_recv hK hP (ci := 15) (q0 := 0) rfl rfl, mP_at hP hK hD⟩ rfl rfl hl.1 rfl (lv_room (Nat.le_of_ble_eq_true rfl)) dX15_add_2 ⟨Nat.zero_le _, Nat.zero_le _⟩) hS (fun q _ h => hFc q h) hFc (fun r1 u9 t H1 locs ht hvm hw hB hz1 hk1 hS => ?_)
  have hw : r1 = 0 := hw
  subst hw
  have hP : va_P (dC, dI) clx [(h0, .inr (15, (fs.set 0 (.int 1))))] t.heap := hB
  rw [ht] at hP
  refine lv_if_eq (tgt := 16) hx hb dX15_add_5 (by decide) (fun _ => ?_) (fun h9 => absurd (by decide) h9)
  refine lv_iconst (v := 0) hx hb dX15_add_16 (by decide) ?_
  exact W.iret (v := 0) hx hb hr (fun t ht hW => ⟨⟨0, (), rfl, rfl, by show va_P _ _ _ t.heap; rw [ht]; exact hP⟩, hS.F ht⟩) hS.2.2 dX15_add_17
def wk_X15_mirror : List Cond := .code yX15_mirror cX15_mirror 2 (some .int) :: wU
set_option maxHeartbeats 4000000 in
set_option maxRecDepth 100000 in
theorem m_X15_mirror (l : Launch) (dC : Nat → ClassId) (dI : Nat → Nat → Nat) (h0 sz : Nat) (fs : List Value) (c0 : Int32) (hf : mF fs) : Met l yX15_mirror wk_X15_mirror ({ frames := 3, cells := 0, slots := 0, locals := 81 } : Room) (mP dC dI [(h0, .inr (15, fs))] [] sz [.ref h0, .int c0]) (va_Qi (S := Unit) (fun r _ => r = 0) (fun _ t => va_P (dC, dI) clx [(h0, .inr (15, (fs.set 0 (.int 1))))] t.heap) (va_A [(h0, .inr (15, fs))] sz)) 0 0 (va_A [(h0, .inr (15, fs))] sz) := by
  refine Met.ofW (cc := cX15_mirror) (maxL := 2) (ret := (some .int)) (by decide) rfl ?_
  intro p e s m args below meth c s₁ B hml hv
  obtain ⟨rfl, hsz, hP, hK, hD0⟩ := hv
  have hx := B.exec
  have hb := B.bytes
  have hr := B.returns
  have hts := atoms_spec (ws := wk_X15_mirror) B.pre
  have hu : ∀ w ∈ wU, w.before ([.ref h0, .int c0] : List Value).toArray s = true := fun w h => hts w (List.mem_cons_of_mem _ h)
  have hown : s.vm.findClass RX15 = some m.cls := findClass_of_methodNamed B.named
  have hlocks := B.notSynchronized
  subst hsz
  have hD := va_D1 (sz := s.heap.size) h0 (.inr (15, fs))
  generalize hAe : va_A [(h0, .inr (15, fs))] s.heap.size = A at hD ⊢
  have hA : ∀ q : Nat, s.heap.size ≤ q → A q := fun q h => by rw [← hAe]; exact Or.inr h
  have hS : va_S A s.heap s.heap [] := va_S.rf
  have hl := lv_entry ([.ref h0, .int c0]) (n := 2) (Nat.le_of_ble_eq_true rfl)
  rw [lg_entry_eq]
  generalize (lg_sl ([.ref h0, .int c0]) ++ List.replicate (2 - (lg_sl ([.ref h0, .int c0])).length) Slot.unset).toArray = ls at hl ⊢
  have hl : lv_has ls 2 [(0, .ref h0), (1, .int c0)] := hl
  refine lv_aload_n hx hb dX15_mirror_0 rfl (lv_at hl 0 rfl) ?_
  refine lv_iload_n hx hb dX15_mirror_1 rfl (lv_at hl 1 rfl) ?_
  have hFc := va_free (wc := [(h0, .inr (15, fs))]) hD hS hA [0] rfl
  refine va_calli (va_runV (As := [.int c0]) (rest := []) ⟨hx, hb, hml, hown, hu⟩ (m_X15_isPoint l dC dI h0 _ fs (c0) hf) (cwV 1 hu (gV u238 u239 u240 u236 u241) rfl rfl rfl (by decide +kernel) ⟨(Nat.le_of_ble_eq_true rfl), (Nat.le_of_ble_eq_true rfl)⟩) ⟨mP_blind, va_recv hK hP (ci := 15) (q0 := 0) rfl rfl, mP_at hP hK hD⟩ rfl rfl hl.1 rfl (lv_room (Nat.le_of_ble_eq_true rfl)) dX15_mirror_2 ⟨Nat.zero_le _, Nat.zero_le _⟩) hS (fun q _ h => hFc q h) hFc (fun r1 u9 t H1 locs ht hvm hw hB hz1 hk1 hS => ?_)
  have hw : r1 = 0 := hw
  subst hw
  have hP : va_P (dC, dI) clx [(h0, .inr (15, (fs.set 0 (.int 1))))] t.heap := hB
  rw [ht] at hP
  refine lv_if_ne (tgt := 10) hx hb dX15_mirror_5 (by decide) (fun h9 => absurd (by decide) h9) (fun _ => ?_)
  refine lv_iconst (v := 0) hx hb dX15_mirror_8 (by decide) ?_
  exact W.iret (v := 0) hx hb hr (fun t ht hW => ⟨⟨0, (), rfl, rfl, by show va_P _ _ _ t.heap; rw [ht]; exact hP⟩, hS.F ht⟩) hS.2.2 dX15_mirror_9
def wk_X15_times : List Cond := .code yX15_times cX15_times 3 (some .int) :: wU
set_option maxHeartbeats 4000000 in
set_option maxRecDepth 100000 in
theorem m_X15_times (l : Launch) (dC : Nat → ClassId) (dI : Nat → Nat → Nat) (h0 sz : Nat) (fs : List Value) (c0 d0 : Int32) (hf : mF fs) : Met l yX15_times wk_X15_times ({ frames := 3, cells := 0, slots := 0, locals := 81 } : Room) (mP dC dI [(h0, .inr (15, fs))] [] sz [.ref h0, .int c0, .int d0]) (va_Qi (S := Unit) (fun r _ => r = 0) (fun _ t => va_P (dC, dI) clx [(h0, .inr (15, (fs.set 0 (.int 1))))] t.heap) (va_A [(h0, .inr (15, fs))] sz)) 0 0 (va_A [(h0, .inr (15, fs))] sz) := by
  refine Met.ofW (cc := cX15_times) (maxL := 3) (ret := (some .int)) (by decide) rfl ?_
  intro p e s m args below meth c s₁ B hml hv
  obtain ⟨rfl, hsz, hP, hK, hD0⟩ := hv
  have hx := B.exec
  have hb := B.bytes
  have hr := B.returns
  have hts := atoms_spec (ws := wk_X15_times) B.pre
  have hu : ∀ w ∈ wU, w.before ([.ref h0, .int c0, .int d0] : List Value).toArray s = true := fun w h => hts w (List.mem_cons_of_mem _ h)
  have hown : s.vm.findClass RX15 = some m.cls := findClass_of_methodNamed B.named
  have hlocks := B.notSynchronized
  subst hsz
  have hD := va_D1 (sz := s.heap.size) h0 (.inr (15, fs))
  generalize hAe : va_A [(h0, .inr (15, fs))] s.heap.size = A at hD ⊢
  have hA : ∀ q : Nat, s.heap.size ≤ q → A q := fun q h => by rw [← hAe]; exact Or.inr h
  have hS : va_S A s.heap s.heap [] := va_S.rf
  have hl := lv_entry ([.ref h0, .int c0, .int d0]) (n := 3) (Nat.le_of_ble_eq_true rfl)
  rw [lg_entry_eq]
  generalize (lg_sl ([.ref h0, .int c0, .int d0]) ++ List.replicate (3 - (lg_sl ([.ref h0, .int c0, .int d0])).length) Slot.unset).toArray = ls at hl ⊢
  have hl : lv_has ls 3 [(0, .ref h0), (1, .int c0), (2, .int d0)] := hl
  refine lv_aload_n hx hb dX15_times_0 rfl (lv_at hl 0 rfl) ?_
  refine lv_iload_n hx hb dX15_times_1 rfl (lv_at hl 1 rfl) ?_
  have hFc := va_free (wc := [(h0, .inr (15, fs))]) hD hS hA [0] rfl
  refine va_calli (va_runV (As := [.int c0]) (rest := []) ⟨hx, hb, hml, hown, hu⟩ (m_X15_isPoint l dC dI h0 _ fs (c0) hf) (cwV 1 hu (gV u238 u239 u240 u236 u241) rfl rfl rfl (by decide +kernel) ⟨(Nat.le_of_ble_eq_true rfl), (Nat.le_of_ble_eq_true rfl)⟩) ⟨mP_blind, va_recv hK hP (ci := 15) (q0 := 0) rfl rfl, mP_at hP hK hD⟩ rfl rfl hl.1 rfl (lv_room (Nat.le_of_ble_eq_true rfl)) dX15_times_2 ⟨Nat.zero_le _, Nat.zero_le _⟩) hS (fun q _ h => hFc q h) hFc (fun r1 u9 t H1 locs ht hvm hw hB hz1 hk1 hS => ?_)
  have hw : r1 = 0 := hw
  subst hw
  have hP : va_P (dC, dI) clx [(h0, .inr (15, (fs.set 0 (.int 1))))] t.heap := hB
  rw [ht] at hP
  refine lv_if_eq (tgt := 46) hx hb dX15_times_5 (by decide) (fun _ => ?_) (fun h9 => absurd (by decide) h9)
  refine lv_iconst (v := 0) hx hb dX15_times_46 (by decide) ?_
  exact W.iret (v := 0) hx hb hr (fun t ht hW => ⟨⟨0, (), rfl, rfl, by show va_P _ _ _ t.heap; rw [ht]; exact hP⟩, hS.F ht⟩) hS.2.2 dX15_times_47
def wk_X15_order : List Cond := .code yX15_order cX15_order 2 (some .int) :: wU
set_option maxHeartbeats 4000000 in
set_option maxRecDepth 100000 in
theorem m_X15_order (l : Launch) (dC : Nat → ClassId) (dI : Nat → Nat → Nat) (h0 sz : Nat) (fs : List Value) (c0 : Int32) (hf : mF fs) : Met l yX15_order wk_X15_order ({ frames := 3, cells := 0, slots := 0, locals := 81 } : Room) (mP dC dI [(h0, .inr (15, fs))] [] sz [.ref h0, .int c0]) (va_Qi (S := Unit) (fun r _ => r = 0) (fun _ t => va_P (dC, dI) clx [(h0, .inr (15, (fs.set 0 (.int 1))))] t.heap) (va_A [(h0, .inr (15, fs))] sz)) 0 0 (va_A [(h0, .inr (15, fs))] sz) := by
  refine Met.ofW (cc := cX15_order) (maxL := 2) (ret := (some .int)) (by decide) rfl ?_
  intro p e s m args below meth c s₁ B hml hv
  obtain ⟨rfl, hsz, hP, hK, hD0⟩ := hv
  have hx := B.exec
  have hb := B.bytes
  have hr := B.returns
  have hts := atoms_spec (ws := wk_X15_order) B.pre
  have hu : ∀ w ∈ wU, w.before ([.ref h0, .int c0] : List Value).toArray s = true := fun w h => hts w (List.mem_cons_of_mem _ h)
  have hown : s.vm.findClass RX15 = some m.cls := findClass_of_methodNamed B.named
  have hlocks := B.notSynchronized
  subst hsz
  have hD := va_D1 (sz := s.heap.size) h0 (.inr (15, fs))
  generalize hAe : va_A [(h0, .inr (15, fs))] s.heap.size = A at hD ⊢
  have hA : ∀ q : Nat, s.heap.size ≤ q → A q := fun q h => by rw [← hAe]; exact Or.inr h
  have hS : va_S A s.heap s.heap [] := va_S.rf
  have hl := lv_entry ([.ref h0, .int c0]) (n := 2) (Nat.le_of_ble_eq_true rfl)
  rw [lg_entry_eq]
  generalize (lg_sl ([.ref h0, .int c0]) ++ List.replicate (2 - (lg_sl ([.ref h0, .int c0])).length) Slot.unset).toArray = ls at hl ⊢
  have hl : lv_has ls 2 [(0, .ref h0), (1, .int c0)] := hl
  refine lv_aload_n hx hb dX15_order_0 rfl (lv_at hl 0 rfl) ?_
  refine lv_iload_n hx hb dX15_order_1 rfl (lv_at hl 1 rfl) ?_
  have hFc := va_free (wc := [(h0, .inr (15, fs))]) hD hS hA [0] rfl
  refine va_calli (va_runV (As := [.int c0]) (rest := []) ⟨hx, hb, hml, hown, hu⟩ (m_X15_isPoint l dC dI h0 _ fs (c0) hf) (cwV 1 hu (gV u238 u239 u240 u236 u241) rfl rfl rfl (by decide +kernel) ⟨(Nat.le_of_ble_eq_true rfl), (Nat.le_of_ble_eq_true rfl)⟩) ⟨mP_blind, va_recv hK hP (ci := 15) (q0 := 0) rfl rfl, mP_at hP hK hD⟩ rfl rfl hl.1 rfl (lv_room (Nat.le_of_ble_eq_true rfl)) dX15_order_2 ⟨Nat.zero_le _, Nat.zero_le _⟩) hS (fun q _ h => hFc q h) hFc (fun r1 u9 t H1 locs ht hvm hw hB hz1 hk1 hS => ?_)
  have hw : r1 = 0 := hw
  subst hw
  have hP : va_P (dC, dI) clx [(h0, .inr (15, (fs.set 0 (.int 1))))] t.heap := hB
  rw [ht] at hP
  refine lv_if_ne (tgt := 10) hx hb dX15_order_5 (by decide) (fun h9 => absurd (by decide) h9) (fun _ => ?_)
  refine lv_iconst (v := 0) hx hb dX15_order_8 (by decide) ?_
  exact W.iret (v := 0) hx hb hr (fun t ht hW => ⟨⟨0, (), rfl, rfl, by show va_P _ _ _ t.heap; rw [ht]; exact hP⟩, hS.F ht⟩) hS.2.2 dX15_order_9
def wk_X15_told : List Cond := .code yX15_told cX15_told 3 (some .int) :: wU
set_option maxHeartbeats 4000000 in
set_option maxRecDepth 100000 in
theorem m_X15_told (l : Launch) (dC : Nat → ClassId) (dI : Nat → Nat → Nat) (h0 sz : Nat) (fs : List Value) (c0 d0 : Int32) (hf : mF fs) : Met l yX15_told wk_X15_told ({ frames := 3, cells := 0, slots := 0, locals := 81 } : Room) (mP dC dI [(h0, .inr (15, fs))] [] sz [.ref h0, .int c0, .int d0]) (va_Qi (S := Unit) (fun r _ => r = 0) (fun _ t => va_P (dC, dI) clx [(h0, .inr (15, (fs.set 0 (.int 1))))] t.heap) (va_A [(h0, .inr (15, fs))] sz)) 0 0 (va_A [(h0, .inr (15, fs))] sz) := by
  refine Met.ofW (cc := cX15_told) (maxL := 3) (ret := (some .int)) (by decide) rfl ?_
  intro p e s m args below meth c s₁ B hml hv
  obtain ⟨rfl, hsz, hP, hK, hD0⟩ := hv
  have hx := B.exec
  have hb := B.bytes
  have hr := B.returns
  have hts := atoms_spec (ws := wk_X15_told) B.pre
  have hu : ∀ w ∈ wU, w.before ([.ref h0, .int c0, .int d0] : List Value).toArray s = true := fun w h => hts w (List.mem_cons_of_mem _ h)
  have hown : s.vm.findClass RX15 = some m.cls := findClass_of_methodNamed B.named
  have hlocks := B.notSynchronized
  subst hsz
  have hD := va_D1 (sz := s.heap.size) h0 (.inr (15, fs))
  generalize hAe : va_A [(h0, .inr (15, fs))] s.heap.size = A at hD ⊢
  have hA : ∀ q : Nat, s.heap.size ≤ q → A q := fun q h => by rw [← hAe]; exact Or.inr h
  have hS : va_S A s.heap s.heap [] := va_S.rf
  have hl := lv_entry ([.ref h0, .int c0, .int d0]) (n := 3) (Nat.le_of_ble_eq_true rfl)
  rw [lg_entry_eq]
  generalize (lg_sl ([.ref h0, .int c0, .int d0]) ++ List.replicate (3 - (lg_sl ([.ref h0, .int c0, .int d0])).length) Slot.unset).toArray = ls at hl ⊢
  have hl : lv_has ls 3 [(0, .ref h0), (1, .int c0), (2, .int d0)] := hl
  refine lv_aload_n hx hb dX15_told_0 rfl (lv_at hl 0 rfl) ?_
  refine lv_iload_n hx hb dX15_told_1 rfl (lv_at hl 1 rfl) ?_
  have hFc := va_free (wc := [(h0, .inr (15, fs))]) hD hS hA [0] rfl
  refine va_calli (va_runV (As := [.int c0]) (rest := []) ⟨hx, hb, hml, hown, hu⟩ (m_X15_isPoint l dC dI h0 _ fs (c0) hf) (cwV 1 hu (gV u238 u239 u240 u236 u241) rfl rfl rfl (by decide +kernel) ⟨(Nat.le_of_ble_eq_true rfl), (Nat.le_of_ble_eq_true rfl)⟩) ⟨mP_blind, va_recv hK hP (ci := 15) (q0 := 0) rfl rfl, mP_at hP hK hD⟩ rfl rfl hl.1 rfl (lv_room (Nat.le_of_ble_eq_true rfl)) dX15_told_2 ⟨Nat.zero_le _, Nat.zero_le _⟩) hS (fun q _ h => hFc q h) hFc (fun r1 u9 t H1 locs ht hvm hw hB hz1 hk1 hS => ?_)
  have hw : r1 = 0 := hw
  subst hw
  have hP : va_P (dC, dI) clx [(h0, .inr (15, (fs.set 0 (.int 1))))] t.heap := hB
  rw [ht] at hP
  refine lv_if_eq (tgt := 29) hx hb dX15_told_5 (by decide) (fun _ => ?_) (fun h9 => absurd (by decide) h9)
  refine lv_iconst (v := 0) hx hb dX15_told_29 (by decide) ?_
  exact W.iret (v := 0) hx hb hr (fun t ht hW => ⟨⟨0, (), rfl, rfl, by show va_P _ _ _ t.heap; rw [ht]; exact hP⟩, hS.F ht⟩) hS.2.2 dX15_told_30
def wk_X15_print : List Cond := .code yX15_print cX15_print 4 (some .int) :: wU
set_option maxHeartbeats 4000000 in
set_option maxRecDepth 100000 in
theorem m_X15_print (l : Launch) (dC : Nat → ClassId) (dI : Nat → Nat → Nat) (h0 sz : Nat) (fs : List Value) (c0 d0 : Int32) (hf : mF fs) : Met l yX15_print wk_X15_print ({ frames := 3, cells := 0, slots := 0, locals := 81 } : Room) (mP dC dI [(h0, .inr (15, fs))] [] sz [.ref h0, .int c0, .int d0]) (va_Qi (S := Unit) (fun r _ => r = 0) (fun _ t => va_P (dC, dI) clx [(h0, .inr (15, (fs.set 0 (.int 1))))] t.heap) (va_A [(h0, .inr (15, fs))] sz)) 0 0 (va_A [(h0, .inr (15, fs))] sz) := by
  refine Met.ofW (cc := cX15_print) (maxL := 4) (ret := (some .int)) (by decide) rfl ?_
  intro p e s m args below meth c s₁ B hml hv
  obtain ⟨rfl, hsz, hP, hK, hD0⟩ := hv
  have hx := B.exec
  have hb := B.bytes
  have hr := B.returns
  have hts := atoms_spec (ws := wk_X15_print) B.pre
  have hu : ∀ w ∈ wU, w.before ([.ref h0, .int c0, .int d0] : List Value).toArray s = true := fun w h => hts w (List.mem_cons_of_mem _ h)
  have hown : s.vm.findClass RX15 = some m.cls := findClass_of_methodNamed B.named
  have hlocks := B.notSynchronized
  subst hsz
  have hD := va_D1 (sz := s.heap.size) h0 (.inr (15, fs))
  generalize hAe : va_A [(h0, .inr (15, fs))] s.heap.size = A at hD ⊢
  have hA : ∀ q : Nat, s.heap.size ≤ q → A q := fun q h => by rw [← hAe]; exact Or.inr h
  have hS : va_S A s.heap s.heap [] := va_S.rf
  have hl := lv_entry ([.ref h0, .int c0, .int d0]) (n := 4) (Nat.le_of_ble_eq_true rfl)
  rw [lg_entry_eq]
  generalize (lg_sl ([.ref h0, .int c0, .int d0]) ++ List.replicate (4 - (lg_sl ([.ref h0, .int c0, .int d0])).length) Slot.unset).toArray = ls at hl ⊢
  have hl : lv_has ls 4 [(0, .ref h0), (1, .int c0), (2, .int d0)] := hl
  refine lv_aload_n hx hb dX15_print_0 rfl (lv_at hl 0 rfl) ?_
  refine lv_iload_n hx hb dX15_print_1 rfl (lv_at hl 1 rfl) ?_
  have hFc := va_free (wc := [(h0, .inr (15, fs))]) hD hS hA [0] rfl
  refine va_calli (va_runV (As := [.int c0]) (rest := []) ⟨hx, hb, hml, hown, hu⟩ (m_X15_isPoint l dC dI h0 _ fs (c0) hf) (cwV 1 hu (gV u238 u239 u240 u236 u241) rfl rfl rfl (by decide +kernel) ⟨(Nat.le_of_ble_eq_true rfl), (Nat.le_of_ble_eq_true rfl)⟩) ⟨mP_blind, va_recv hK hP (ci := 15) (q0 := 0) rfl rfl, mP_at hP hK hD⟩ rfl rfl hl.1 rfl (lv_room (Nat.le_of_ble_eq_true rfl)) dX15_print_2 ⟨Nat.zero_le _, Nat.zero_le _⟩) hS (fun q _ h => hFc q h) hFc (fun r1 u9 t H1 locs ht hvm hw hB hz1 hk1 hS => ?_)
  have hw : r1 = 0 := hw
  subst hw
  have hP : va_P (dC, dI) clx [(h0, .inr (15, (fs.set 0 (.int 1))))] t.heap := hB
  rw [ht] at hP
  refine lv_if_eq (tgt := 29) hx hb dX15_print_5 (by decide) (fun _ => ?_) (fun h9 => absurd (by decide) h9)
  refine lv_iconst (v := 0) hx hb dX15_print_29 (by decide) ?_
  exact W.iret (v := 0) hx hb hr (fun t ht hW => ⟨⟨0, (), rfl, rfl, by show va_P _ _ _ t.heap; rw [ht]; exact hP⟩, hS.F ht⟩) hS.2.2 dX15_print_30
def wk_X15_back : List Cond := .code yX15_back cX15_back 2 (some .int) :: wU
set_option maxHeartbeats 4000000 in
set_option maxRecDepth 100000 in
theorem m_X15_back (l : Launch) (dC : Nat → ClassId) (dI : Nat → Nat → Nat) (h0 sz : Nat) (fs : List Value) (c0 : Int32) (hf : mF fs) : Met l yX15_back wk_X15_back ({ frames := 3, cells := 0, slots := 0, locals := 81 } : Room) (mP dC dI [(h0, .inr (15, fs))] [] sz [.ref h0, .int c0]) (va_Qi (S := Unit) (fun r _ => r = 0) (fun _ t => va_P (dC, dI) clx [(h0, .inr (15, (fs.set 0 (.int 1))))] t.heap) (va_A [(h0, .inr (15, fs))] sz)) 0 0 (va_A [(h0, .inr (15, fs))] sz) := by
  refine Met.ofW (cc := cX15_back) (maxL := 2) (ret := (some .int)) (by decide) rfl ?_
  intro p e s m args below meth c s₁ B hml hv
  obtain ⟨rfl, hsz, hP, hK, hD0⟩ := hv
  have hx := B.exec
  have hb := B.bytes
  have hr := B.returns
  have hts := atoms_spec (ws := wk_X15_back) B.pre
  have hu : ∀ w ∈ wU, w.before ([.ref h0, .int c0] : List Value).toArray s = true := fun w h => hts w (List.mem_cons_of_mem _ h)
  have hown : s.vm.findClass RX15 = some m.cls := findClass_of_methodNamed B.named
  have hlocks := B.notSynchronized
  subst hsz
  have hD := va_D1 (sz := s.heap.size) h0 (.inr (15, fs))
  generalize hAe : va_A [(h0, .inr (15, fs))] s.heap.size = A at hD ⊢
  have hA : ∀ q : Nat, s.heap.size ≤ q → A q := fun q h => by rw [← hAe]; exact Or.inr h
  have hS : va_S A s.heap s.heap [] := va_S.rf
  have hl := lv_entry ([.ref h0, .int c0]) (n := 2) (Nat.le_of_ble_eq_true rfl)
  rw [lg_entry_eq]
  generalize (lg_sl ([.ref h0, .int c0]) ++ List.replicate (2 - (lg_sl ([.ref h0, .int c0])).length) Slot.unset).toArray = ls at hl ⊢
  have hl : lv_has ls 2 [(0, .ref h0), (1, .int c0)] := hl
  refine lv_aload_n hx hb dX15_back_0 rfl (lv_at hl 0 rfl) ?_
  refine lv_iload_n hx hb dX15_back_1 rfl (lv_at hl 1 rfl) ?_
  have hFc := va_free (wc := [(h0, .inr (15, fs))]) hD hS hA [0] rfl
  refine va_calli (va_runV (As := [.int c0]) (rest := []) ⟨hx, hb, hml, hown, hu⟩ (m_X15_isCubic l dC dI h0 _ fs (c0) hf) (cwV 1 hu (gV u233 u234 u235 u236 u237) rfl rfl rfl (by decide +kernel) ⟨(Nat.le_of_ble_eq_true rfl), (Nat.le_of_ble_eq_true rfl)⟩) ⟨mP_blind, va_recv hK hP (ci := 15) (q0 := 0) rfl rfl, mP_at hP hK hD⟩ rfl rfl hl.1 rfl (lv_room (Nat.le_of_ble_eq_true rfl)) dX15_back_2 ⟨Nat.zero_le _, Nat.zero_le _⟩) hS (fun q _ h => hFc q h) hFc (fun r1 u9 t H1 locs ht hvm hw hB hz1 hk1 hS => ?_)
  have hw : r1 = 0 := hw
  subst hw
  have hP : va_P (dC, dI) clx [(h0, .inr (15, (fs.set 0 (.int 1))))] t.heap := hB
  rw [ht] at hP
  refine lv_if_eq (tgt := 29) hx hb dX15_back_5 (by decide) (fun _ => ?_) (fun h9 => absurd (by decide) h9)
  refine lv_iconst (v := 0) hx hb dX15_back_29 (by decide) ?_
  exact W.iret (v := 0) hx hb hr (fun t ht hW => ⟨⟨0, (), rfl, rfl, by show va_P _ _ _ t.heap; rw [ht]; exact hP⟩, hS.F ht⟩) hS.2.2 dX15_back_30
def wk_X15_backAt : List Cond := .code yX15_backAt cX15_backAt 3 (some .int) :: wU
set_option maxHeartbeats 4000000 in
set_option maxRecDepth 100000 in
theorem m_X15_backAt (l : Launch) (dC : Nat → ClassId) (dI : Nat → Nat → Nat) (h0 sz : Nat) (fs : List Value) (c0 d0 : Int32) (hf : mF fs) : Met l yX15_backAt wk_X15_backAt ({ frames := 3, cells := 0, slots := 0, locals := 81 } : Room) (mP dC dI [(h0, .inr (15, fs))] [] sz [.ref h0, .int c0, .int d0]) (va_Qi (S := Unit) (fun r _ => r = 0) (fun _ t => va_P (dC, dI) clx [(h0, .inr (15, (fs.set 0 (.int 1))))] t.heap) (va_A [(h0, .inr (15, fs))] sz)) 0 0 (va_A [(h0, .inr (15, fs))] sz) := by
  refine Met.ofW (cc := cX15_backAt) (maxL := 3) (ret := (some .int)) (by decide) rfl ?_
  intro p e s m args below meth c s₁ B hml hv
  obtain ⟨rfl, hsz, hP, hK, hD0⟩ := hv
  have hx := B.exec
  have hb := B.bytes
  have hr := B.returns
  have hts := atoms_spec (ws := wk_X15_backAt) B.pre
  have hu : ∀ w ∈ wU, w.before ([.ref h0, .int c0, .int d0] : List Value).toArray s = true := fun w h => hts w (List.mem_cons_of_mem _ h)
  have hown : s.vm.findClass RX15 = some m.cls := findClass_of_methodNamed B.named
  have hlocks := B.notSynchronized
  subst hsz
  have hD := va_D1 (sz := s.heap.size) h0 (.inr (15, fs))
  generalize hAe : va_A [(h0, .inr (15, fs))] s.heap.size = A at hD ⊢
  have hA : ∀ q : Nat, s.heap.size ≤ q → A q := fun q h => by rw [← hAe]; exact Or.inr h
  have hS : va_S A s.heap s.heap [] := va_S.rf
  have hl := lv_entry ([.ref h0, .int c0, .int d0]) (n := 3) (Nat.le_of_ble_eq_true rfl)
  rw [lg_entry_eq]
  generalize (lg_sl ([.ref h0, .int c0, .int d0]) ++ List.replicate (3 - (lg_sl ([.ref h0, .int c0, .int d0])).length) Slot.unset).toArray = ls at hl ⊢
  have hl : lv_has ls 3 [(0, .ref h0), (1, .int c0), (2, .int d0)] := hl
  refine lv_aload_n hx hb dX15_backAt_0 rfl (lv_at hl 0 rfl) ?_
  refine lv_iload_n hx hb dX15_backAt_1 rfl (lv_at hl 1 rfl) ?_
  have hFc := va_free (wc := [(h0, .inr (15, fs))]) hD hS hA [0] rfl
  refine va_calli (va_runV (As := [.int c0]) (rest := []) ⟨hx, hb, hml, hown, hu⟩ (m_X15_isCubic l dC dI h0 _ fs (c0) hf) (cwV 1 hu (gV u233 u234 u235 u236 u237) rfl rfl rfl (by decide +kernel) ⟨(Nat.le_of_ble_eq_true rfl), (Nat.le_of_ble_eq_true rfl)⟩) ⟨mP_blind, va_recv hK hP (ci := 15) (q0 := 0) rfl rfl, mP_at hP hK hD⟩ rfl rfl hl.1 rfl (lv_room (Nat.le_of_ble_eq_true rfl)) dX15_backAt_2 ⟨Nat.zero_le _, Nat.zero_le _⟩) hS (fun q _ h => hFc q h) hFc (fun r1 u9 t H1 locs ht hvm hw hB hz1 hk1 hS => ?_)
  have hw : r1 = 0 := hw
  subst hw
  have hP : va_P (dC, dI) clx [(h0, .inr (15, (fs.set 0 (.int 1))))] t.heap := hB
  rw [ht] at hP
  refine lv_if_eq (tgt := 29) hx hb dX15_backAt_5 (by decide) (fun _ => ?_) (fun h9 => absurd (by decide) h9)
  refine lv_iconst (v := 0) hx hb dX15_backAt_29 (by decide) ?_
  exact W.iret (v := 0) hx hb hr (fun t ht hW => ⟨⟨0, (), rfl, rfl, by show va_P _ _ _ t.heap; rw [ht]; exact hP⟩, hS.F ht⟩) hS.2.2 dX15_backAt_30
def wk_X15_search : List Cond := .code yX15_search cX15_search 9 (some .int) :: wU
set_option maxHeartbeats 4000000 in
set_option maxRecDepth 100000 in
theorem m_X15_search (l : Launch) (dC : Nat → ClassId) (dI : Nat → Nat → Nat) (h0 sz : Nat) (fs : List Value) (c0 d0 : Int32) (hf : mF fs) : Met l yX15_search wk_X15_search ({ frames := 3, cells := 0, slots := 0, locals := 81 } : Room) (mP dC dI [(h0, .inr (15, fs))] [] sz [.ref h0, .int c0, .int d0]) (va_Qi (S := Unit) (fun r _ => r = 0) (fun _ t => va_P (dC, dI) clx [(h0, .inr (15, (fs.set 0 (.int 1))))] t.heap) (va_A [(h0, .inr (15, fs))] sz)) 0 0 (va_A [(h0, .inr (15, fs))] sz) := by
  refine Met.ofW (cc := cX15_search) (maxL := 9) (ret := (some .int)) (by decide) rfl ?_
  intro p e s m args below meth c s₁ B hml hv
  obtain ⟨rfl, hsz, hP, hK, hD0⟩ := hv
  have hx := B.exec
  have hb := B.bytes
  have hr := B.returns
  have hts := atoms_spec (ws := wk_X15_search) B.pre
  have hu : ∀ w ∈ wU, w.before ([.ref h0, .int c0, .int d0] : List Value).toArray s = true := fun w h => hts w (List.mem_cons_of_mem _ h)
  have hown : s.vm.findClass RX15 = some m.cls := findClass_of_methodNamed B.named
  have hlocks := B.notSynchronized
  subst hsz
  have hD := va_D1 (sz := s.heap.size) h0 (.inr (15, fs))
  generalize hAe : va_A [(h0, .inr (15, fs))] s.heap.size = A at hD ⊢
  have hA : ∀ q : Nat, s.heap.size ≤ q → A q := fun q h => by rw [← hAe]; exact Or.inr h
  have hS : va_S A s.heap s.heap [] := va_S.rf
  have hl := lv_entry ([.ref h0, .int c0, .int d0]) (n := 9) (Nat.le_of_ble_eq_true rfl)
  rw [lg_entry_eq]
  generalize (lg_sl ([.ref h0, .int c0, .int d0]) ++ List.replicate (9 - (lg_sl ([.ref h0, .int c0, .int d0])).length) Slot.unset).toArray = ls at hl ⊢
  have hl : lv_has ls 9 [(0, .ref h0), (1, .int c0), (2, .int d0)] := hl
  refine lv_aload_n hx hb dX15_search_0 rfl (lv_at hl 0 rfl) ?_
  refine lv_iload_n hx hb dX15_search_1 rfl (lv_at hl 1 rfl) ?_
  have hFc := va_free (wc := [(h0, .inr (15, fs))]) hD hS hA [0] rfl
  refine va_calli (va_runV (As := [.int c0]) (rest := []) ⟨hx, hb, hml, hown, hu⟩ (m_X15_isCubic l dC dI h0 _ fs (c0) hf) (cwV 1 hu (gV u233 u234 u235 u236 u237) rfl rfl rfl (by decide +kernel) ⟨(Nat.le_of_ble_eq_true rfl), (Nat.le_of_ble_eq_true rfl)⟩) ⟨mP_blind, va_recv hK hP (ci := 15) (q0 := 0) rfl rfl, mP_at hP hK hD⟩ rfl rfl hl.1 rfl (lv_room (Nat.le_of_ble_eq_true rfl)) dX15_search_2 ⟨Nat.zero_le _, Nat.zero_le _⟩) hS (fun q _ h => hFc q h) hFc (fun r1 u9 t H1 locs ht hvm hw hB hz1 hk1 hS => ?_)
  have hw : r1 = 0 := hw
  subst hw
  have hP : va_P (dC, dI) clx [(h0, .inr (15, (fs.set 0 (.int 1))))] t.heap := hB
  rw [ht] at hP
  refine lv_if_eq (tgt := 41) hx hb dX15_search_5 (by decide) (fun _ => ?_) (fun h9 => absurd (by decide) h9)
  refine lv_iconst (v := 0) hx hb dX15_search_41 (by decide) ?_
  exact W.iret (v := 0) hx hb hr (fun t ht hW => ⟨⟨0, (), rfl, rfl, by show va_P _ _ _ t.heap; rw [ht]; exact hP⟩, hS.F ht⟩) hS.2.2 dX15_search_42
def wk_X15_count : List Cond := .code yX15_count cX15_count 2 (some .int) :: wU
set_option maxHeartbeats 4000000 in
set_option maxRecDepth 100000 in
theorem m_X15_count (l : Launch) (dC : Nat → ClassId) (dI : Nat → Nat → Nat) (h0 sz : Nat) (fs : List Value) (c0 : Int32) (hf : mF fs) : Met l yX15_count wk_X15_count ({ frames := 4, cells := 0, slots := 0, locals := 104 } : Room) (mP dC dI [(h0, .inr (15, fs))] [] sz [.ref h0, .int c0]) (va_Qi (S := Unit) (fun r _ => r = 0) (fun _ t => va_P (dC, dI) clx [(h0, .inr (15, (fs.set 0 (.int 1))))] t.heap) (va_A [(h0, .inr (15, fs))] sz)) 0 0 (va_A [(h0, .inr (15, fs))] sz) := by
  refine Met.ofW (cc := cX15_count) (maxL := 2) (ret := (some .int)) (by decide) rfl ?_
  intro p e s m args below meth c s₁ B hml hv
  obtain ⟨rfl, hsz, hP, hK, hD0⟩ := hv
  have hx := B.exec
  have hb := B.bytes
  have hr := B.returns
  have hts := atoms_spec (ws := wk_X15_count) B.pre
  have hu : ∀ w ∈ wU, w.before ([.ref h0, .int c0] : List Value).toArray s = true := fun w h => hts w (List.mem_cons_of_mem _ h)
  have hown : s.vm.findClass RX15 = some m.cls := findClass_of_methodNamed B.named
  have hlocks := B.notSynchronized
  subst hsz
  have hD := va_D1 (sz := s.heap.size) h0 (.inr (15, fs))
  generalize hAe : va_A [(h0, .inr (15, fs))] s.heap.size = A at hD ⊢
  have hA : ∀ q : Nat, s.heap.size ≤ q → A q := fun q h => by rw [← hAe]; exact Or.inr h
  have hS : va_S A s.heap s.heap [] := va_S.rf
  have hl := lv_entry ([.ref h0, .int c0]) (n := 2) (Nat.le_of_ble_eq_true rfl)
  rw [lg_entry_eq]
  generalize (lg_sl ([.ref h0, .int c0]) ++ List.replicate (2 - (lg_sl ([.ref h0, .int c0])).length) Slot.unset).toArray = ls at hl ⊢
  have hl : lv_has ls 2 [(0, .ref h0), (1, .int c0)] := hl
  refine lv_aload_n hx hb dX15_count_0 rfl (lv_at hl 0 rfl) ?_
  refine lv_iload_n hx hb dX15_count_1 rfl (lv_at hl 1 rfl) ?_
  refine lv_ldcw (v := 1000003) hx hb hown (hu _ u242) dX15_count_2 ?_
  refine lv_iconst (v := 0) hx hb dX15_count_5 (by decide) ?_
  have hFc := va_free (wc := [(h0, .inr (15, fs))]) hD hS hA [0] rfl
  refine va_calli (va_runV (As := [.int c0, .int 1000003, .int 0]) (rest := []) ⟨hx, hb, hml, hown, hu⟩ (m_X15_isRest l dC dI h0 _ fs (c0) (1000003) (0) hf) (cwV 3 hu (gV u243 u244 u245 u236 u246) rfl rfl rfl (by decide +kernel) ⟨(Nat.le_of_ble_eq_true rfl), (Nat.le_of_ble_eq_true rfl)⟩) ⟨mP_blind, va_recv hK hP (ci := 15) (q0 := 0) rfl rfl, mP_at hP hK hD⟩ rfl rfl hl.1 rfl (lv_room (Nat.le_of_ble_eq_true rfl)) dX15_count_6 ⟨Nat.zero_le _, Nat.zero_le _⟩) hS (fun q _ h => hFc q h) hFc (fun r1 u9 t H1 locs ht hvm hw hB hz1 hk1 hS => ?_)
  have hw : r1 = 0 := hw
  subst hw
  have hP : va_P (dC, dI) clx [(h0, .inr (15, (fs.set 0 (.int 1))))] t.heap := hB
  rw [ht] at hP
  refine lv_if_eq (tgt := 20) hx hb dX15_count_9 (by decide) (fun _ => ?_) (fun h9 => absurd (by decide) h9)
  refine lv_iconst (v := 0) hx hb dX15_count_20 (by decide) ?_
  exact W.iret (v := 0) hx hb hr (fun t ht hW => ⟨⟨0, (), rfl, rfl, by show va_P _ _ _ t.heap; rw [ht]; exact hP⟩, hS.F ht⟩) hS.2.2 dX15_count_21
def wk_X15_over : List Cond := .code yX15_over cX15_over 16 (some .long) :: wU
set_option maxHeartbeats 4000000 in
set_option maxRecDepth 100000 in
theorem m_X15_over (l : Launch) (dC : Nat → ClassId) (dI : Nat → Nat → Nat) (h0 sz : Nat) (fs : List Value) (c0 d0 : Int32) (hf : mF fs) : Met l yX15_over wk_X15_over ({ frames := 4, cells := 0, slots := 0, locals := 104 } : Room) (mP dC dI [(h0, .inr (15, fs))] [] sz [.ref h0, .int c0, .int d0]) (va_Ql (S := Unit) (fun r _ => r = 0) (fun _ t => va_P (dC, dI) clx [(h0, .inr (15, (fs.set 0 (.int 1))))] t.heap) (va_A [(h0, .inr (15, fs))] sz)) 0 0 (va_A [(h0, .inr (15, fs))] sz) := by
  refine Met.ofW (cc := cX15_over) (maxL := 16) (ret := (some .long)) (by decide) rfl ?_
  intro p e s m args below meth c s₁ B hml hv
  obtain ⟨rfl, hsz, hP, hK, hD0⟩ := hv
  have hx := B.exec
  have hb := B.bytes
  have hr := B.returns
  have hts := atoms_spec (ws := wk_X15_over) B.pre
  have hu : ∀ w ∈ wU, w.before ([.ref h0, .int c0, .int d0] : List Value).toArray s = true := fun w h => hts w (List.mem_cons_of_mem _ h)
  have hown : s.vm.findClass RX15 = some m.cls := findClass_of_methodNamed B.named
  have hlocks := B.notSynchronized
  subst hsz
  have hD := va_D1 (sz := s.heap.size) h0 (.inr (15, fs))
  generalize hAe : va_A [(h0, .inr (15, fs))] s.heap.size = A at hD ⊢
  have hA : ∀ q : Nat, s.heap.size ≤ q → A q := fun q h => by rw [← hAe]; exact Or.inr h
  have hS : va_S A s.heap s.heap [] := va_S.rf
  have hl := lv_entry ([.ref h0, .int c0, .int d0]) (n := 16) (Nat.le_of_ble_eq_true rfl)
  rw [lg_entry_eq]
  generalize (lg_sl ([.ref h0, .int c0, .int d0]) ++ List.replicate (16 - (lg_sl ([.ref h0, .int c0, .int d0])).length) Slot.unset).toArray = ls at hl ⊢
  have hl : lv_has ls 16 [(0, .ref h0), (1, .int c0), (2, .int d0)] := hl
  refine lv_aload_n hx hb dX15_over_0 rfl (lv_at hl 0 rfl) ?_
  refine lv_iload_n hx hb dX15_over_1 rfl (lv_at hl 1 rfl) ?_
  refine lv_ldcw (v := 1000003) hx hb hown (hu _ u242) dX15_over_2 ?_
  refine lv_iload_n hx hb dX15_over_5 rfl (lv_at hl 2 rfl) ?_
  refine lv_iconst (v := 1) hx hb dX15_over_6 (by decide) ?_
  refine lv_icmp_lt (tgt := 15) hx hb dX15_over_7 (by decide) (fun c1 => ?_) (fun c1 => ?_)
  · skip
    refine lv_iconst (v := 1) hx hb dX15_over_15 (by decide) ?_
    refine lv_goto (tgt := 20) hx hb dX15_over_16 (by decide) ?_
    have hFc := va_free (wc := [(h0, .inr (15, fs))]) hD hS hA [0] rfl
    refine va_calli (va_runV (As := [.int c0, .int 1000003, .int 1]) (rest := []) ⟨hx, hb, hml, hown, hu⟩ (m_X15_isRest l dC dI h0 _ fs (c0) (1000003) (1) hf) (cwV 3 hu (gV u243 u244 u245 u236 u246) rfl rfl rfl (by decide +kernel) ⟨(Nat.le_of_ble_eq_true rfl), (Nat.le_of_ble_eq_true rfl)⟩) ⟨mP_blind, va_recv hK hP (ci := 15) (q0 := 0) rfl rfl, mP_at hP hK hD⟩ rfl rfl hl.1 rfl (lv_room (Nat.le_of_ble_eq_true rfl)) dX15_over_20 ⟨Nat.zero_le _, Nat.zero_le _⟩) hS (fun q _ h => hFc q h) hFc (fun r2 u9 t H1 locs ht hvm hw hB hz1 hk1 hS => ?_)
    have hw : r2 = 0 := hw
    subst hw
    have hP : va_P (dC, dI) clx [(h0, .inr (15, (fs.set 0 (.int 1))))] t.heap := hB
    rw [ht] at hP
    refine lv_if_ne (tgt := 28) hx hb dX15_over_23 (by decide) (fun h9 => absurd (by decide) h9) (fun _ => ?_)
    refine lv_lconst (v := 0) hx hb dX15_over_26 (by decide) ?_
    exact W.lret (v := 0) hx hb hr (fun t ht hW => ⟨⟨0, (), rfl, rfl, by show va_P _ _ _ t.heap; rw [ht]; exact hP⟩, hS.F ht⟩) hS.2.2 dX15_over_27
  · skip
    refine lv_iload_n hx hb dX15_over_10 rfl (lv_at hl 2 rfl) ?_
    refine lv_iconst (v := 3) hx hb dX15_over_11 (by decide) ?_
    refine lv_icmp_le (tgt := 19) hx hb dX15_over_12 (by decide) (fun c3 => ?_) (fun c3 => ?_)
    · skip
      refine lv_iconst (v := 0) hx hb dX15_over_19 (by decide) ?_
      have hFc := va_free (wc := [(h0, .inr (15, fs))]) hD hS hA [0] rfl
      refine va_calli (va_runV (As := [.int c0, .int 1000003, .int 0]) (rest := []) ⟨hx, hb, hml, hown, hu⟩ (m_X15_isRest l dC dI h0 _ fs (c0) (1000003) (0) hf) (cwV 3 hu (gV u243 u244 u245 u236 u246) rfl rfl rfl (by decide +kernel) ⟨(Nat.le_of_ble_eq_true rfl), (Nat.le_of_ble_eq_true rfl)⟩) ⟨mP_blind, va_recv hK hP (ci := 15) (q0 := 0) rfl rfl, mP_at hP hK hD⟩ rfl rfl hl.1 rfl (lv_room (Nat.le_of_ble_eq_true rfl)) dX15_over_20 ⟨Nat.zero_le _, Nat.zero_le _⟩) hS (fun q _ h => hFc q h) hFc (fun r4 u9 t H1 locs ht hvm hw hB hz1 hk1 hS => ?_)
      have hw : r4 = 0 := hw
      subst hw
      have hP : va_P (dC, dI) clx [(h0, .inr (15, (fs.set 0 (.int 1))))] t.heap := hB
      rw [ht] at hP
      refine lv_if_ne (tgt := 28) hx hb dX15_over_23 (by decide) (fun h9 => absurd (by decide) h9) (fun _ => ?_)
      refine lv_lconst (v := 0) hx hb dX15_over_26 (by decide) ?_
      exact W.lret (v := 0) hx hb hr (fun t ht hW => ⟨⟨0, (), rfl, rfl, by show va_P _ _ _ t.heap; rw [ht]; exact hP⟩, hS.F ht⟩) hS.2.2 dX15_over_27
    · skip
      refine lv_iconst (v := 1) hx hb dX15_over_15 (by decide) ?_
      refine lv_goto (tgt := 20) hx hb dX15_over_16 (by decide) ?_
      have hFc := va_free (wc := [(h0, .inr (15, fs))]) hD hS hA [0] rfl
      refine va_calli (va_runV (As := [.int c0, .int 1000003, .int 1]) (rest := []) ⟨hx, hb, hml, hown, hu⟩ (m_X15_isRest l dC dI h0 _ fs (c0) (1000003) (1) hf) (cwV 3 hu (gV u243 u244 u245 u236 u246) rfl rfl rfl (by decide +kernel) ⟨(Nat.le_of_ble_eq_true rfl), (Nat.le_of_ble_eq_true rfl)⟩) ⟨mP_blind, va_recv hK hP (ci := 15) (q0 := 0) rfl rfl, mP_at hP hK hD⟩ rfl rfl hl.1 rfl (lv_room (Nat.le_of_ble_eq_true rfl)) dX15_over_20 ⟨Nat.zero_le _, Nat.zero_le _⟩) hS (fun q _ h => hFc q h) hFc (fun r5 u9 t H1 locs ht hvm hw hB hz1 hk1 hS => ?_)
      have hw : r5 = 0 := hw
      subst hw
      have hP : va_P (dC, dI) clx [(h0, .inr (15, (fs.set 0 (.int 1))))] t.heap := hB
      rw [ht] at hP
      refine lv_if_ne (tgt := 28) hx hb dX15_over_23 (by decide) (fun h9 => absurd (by decide) h9) (fun _ => ?_)
      refine lv_lconst (v := 0) hx hb dX15_over_26 (by decide) ?_
      exact W.lret (v := 0) hx hb hr (fun t ht hW => ⟨⟨0, (), rfl, rfl, by show va_P _ _ _ t.heap; rw [ht]; exact hP⟩, hS.F ht⟩) hS.2.2 dX15_over_27
def wk_X15_list : List Cond := .code yX15_list cX15_list 3 (some .int) :: wU
set_option maxHeartbeats 4000000 in
set_option maxRecDepth 100000 in
theorem m_X15_list (l : Launch) (dC : Nat → ClassId) (dI : Nat → Nat → Nat) (h0 sz : Nat) (fs : List Value) (c0 d0 : Int32) (hf : mF fs) : Met l yX15_list wk_X15_list ({ frames := 4, cells := 0, slots := 0, locals := 104 } : Room) (mP dC dI [(h0, .inr (15, fs))] [] sz [.ref h0, .int c0, .int d0]) (va_Qi (S := Unit) (fun r _ => r = 0) (fun _ t => va_P (dC, dI) clx [(h0, .inr (15, (fs.set 0 (.int 1))))] t.heap) (va_A [(h0, .inr (15, fs))] sz)) 0 0 (va_A [(h0, .inr (15, fs))] sz) := by
  refine Met.ofW (cc := cX15_list) (maxL := 3) (ret := (some .int)) (by decide) rfl ?_
  intro p e s m args below meth c s₁ B hml hv
  obtain ⟨rfl, hsz, hP, hK, hD0⟩ := hv
  have hx := B.exec
  have hb := B.bytes
  have hr := B.returns
  have hts := atoms_spec (ws := wk_X15_list) B.pre
  have hu : ∀ w ∈ wU, w.before ([.ref h0, .int c0, .int d0] : List Value).toArray s = true := fun w h => hts w (List.mem_cons_of_mem _ h)
  have hown : s.vm.findClass RX15 = some m.cls := findClass_of_methodNamed B.named
  have hlocks := B.notSynchronized
  subst hsz
  have hD := va_D1 (sz := s.heap.size) h0 (.inr (15, fs))
  generalize hAe : va_A [(h0, .inr (15, fs))] s.heap.size = A at hD ⊢
  have hA : ∀ q : Nat, s.heap.size ≤ q → A q := fun q h => by rw [← hAe]; exact Or.inr h
  have hS : va_S A s.heap s.heap [] := va_S.rf
  have hl := lv_entry ([.ref h0, .int c0, .int d0]) (n := 3) (Nat.le_of_ble_eq_true rfl)
  rw [lg_entry_eq]
  generalize (lg_sl ([.ref h0, .int c0, .int d0]) ++ List.replicate (3 - (lg_sl ([.ref h0, .int c0, .int d0])).length) Slot.unset).toArray = ls at hl ⊢
  have hl : lv_has ls 3 [(0, .ref h0), (1, .int c0), (2, .int d0)] := hl
  refine lv_aload_n hx hb dX15_list_0 rfl (lv_at hl 0 rfl) ?_
  refine lv_iload_n hx hb dX15_list_1 rfl (lv_at hl 1 rfl) ?_
  refine lv_sipush (v := 2000) hx hb dX15_list_2 (by decide) ?_
  refine lv_iconst (v := 0) hx hb dX15_list_5 (by decide) ?_
  have hFc := va_free (wc := [(h0, .inr (15, fs))]) hD hS hA [0] rfl
  refine va_calli (va_runV (As := [.int c0, .int 2000, .int 0]) (rest := []) ⟨hx, hb, hml, hown, hu⟩ (m_X15_isRest l dC dI h0 _ fs (c0) (2000) (0) hf) (cwV 3 hu (gV u243 u244 u245 u236 u246) rfl rfl rfl (by decide +kernel) ⟨(Nat.le_of_ble_eq_true rfl), (Nat.le_of_ble_eq_true rfl)⟩) ⟨mP_blind, va_recv hK hP (ci := 15) (q0 := 0) rfl rfl, mP_at hP hK hD⟩ rfl rfl hl.1 rfl (lv_room (Nat.le_of_ble_eq_true rfl)) dX15_list_6 ⟨Nat.zero_le _, Nat.zero_le _⟩) hS (fun q _ h => hFc q h) hFc (fun r1 u9 t H1 locs ht hvm hw hB hz1 hk1 hS => ?_)
  have hw : r1 = 0 := hw
  subst hw
  have hP : va_P (dC, dI) clx [(h0, .inr (15, (fs.set 0 (.int 1))))] t.heap := hB
  rw [ht] at hP
  refine lv_if_ne (tgt := 14) hx hb dX15_list_9 (by decide) (fun h9 => absurd (by decide) h9) (fun _ => ?_)
  refine lv_iconst (v := 0) hx hb dX15_list_12 (by decide) ?_
  exact W.iret (v := 0) hx hb hr (fun t ht hW => ⟨⟨0, (), rfl, rfl, by show va_P _ _ _ t.heap; rw [ht]; exact hP⟩, hS.F ht⟩) hS.2.2 dX15_list_13
def wk_X15_group : List Cond := .code yX15_group cX15_group 3 (some .int) :: wU
set_option maxHeartbeats 4000000 in
set_option maxRecDepth 100000 in
theorem m_X15_group (l : Launch) (dC : Nat → ClassId) (dI : Nat → Nat → Nat) (h0 sz : Nat) (fs : List Value) (c0 d0 : Int32) (hf : mF fs) : Met l yX15_group wk_X15_group ({ frames := 4, cells := 0, slots := 0, locals := 104 } : Room) (mP dC dI [(h0, .inr (15, fs))] [] sz [.ref h0, .int c0, .int d0]) (va_Qi (S := Unit) (fun r _ => r = 0) (fun _ t => va_P (dC, dI) clx [(h0, .inr (15, (fs.set 0 (.int 1))))] t.heap) (va_A [(h0, .inr (15, fs))] sz)) 0 0 (va_A [(h0, .inr (15, fs))] sz) := by
  refine Met.ofW (cc := cX15_group) (maxL := 3) (ret := (some .int)) (by decide) rfl ?_
  intro p e s m args below meth c s₁ B hml hv
  obtain ⟨rfl, hsz, hP, hK, hD0⟩ := hv
  have hx := B.exec
  have hb := B.bytes
  have hr := B.returns
  have hts := atoms_spec (ws := wk_X15_group) B.pre
  have hu : ∀ w ∈ wU, w.before ([.ref h0, .int c0, .int d0] : List Value).toArray s = true := fun w h => hts w (List.mem_cons_of_mem _ h)
  have hown : s.vm.findClass RX15 = some m.cls := findClass_of_methodNamed B.named
  have hlocks := B.notSynchronized
  subst hsz
  have hD := va_D1 (sz := s.heap.size) h0 (.inr (15, fs))
  generalize hAe : va_A [(h0, .inr (15, fs))] s.heap.size = A at hD ⊢
  have hA : ∀ q : Nat, s.heap.size ≤ q → A q := fun q h => by rw [← hAe]; exact Or.inr h
  have hS : va_S A s.heap s.heap [] := va_S.rf
  have hl := lv_entry ([.ref h0, .int c0, .int d0]) (n := 3) (Nat.le_of_ble_eq_true rfl)
  rw [lg_entry_eq]
  generalize (lg_sl ([.ref h0, .int c0, .int d0]) ++ List.replicate (3 - (lg_sl ([.ref h0, .int c0, .int d0])).length) Slot.unset).toArray = ls at hl ⊢
  have hl : lv_has ls 3 [(0, .ref h0), (1, .int c0), (2, .int d0)] := hl
  refine lv_aload_n hx hb dX15_group_0 rfl (lv_at hl 0 rfl) ?_
  refine lv_iload_n hx hb dX15_group_1 rfl (lv_at hl 1 rfl) ?_
  refine lv_sipush (v := 2000) hx hb dX15_group_2 (by decide) ?_
  refine lv_iload_n hx hb dX15_group_5 rfl (lv_at hl 2 rfl) ?_
  refine lv_if_lt (tgt := 14) hx hb dX15_group_6 (by decide) (fun c1 => ?_) (fun c1 => ?_)
  · skip
    refine lv_iconst (v := 1) hx hb dX15_group_14 (by decide) ?_
    refine lv_goto (tgt := 19) hx hb dX15_group_15 (by decide) ?_
    have hFc := va_free (wc := [(h0, .inr (15, fs))]) hD hS hA [0] rfl
    refine va_calli (va_runV (As := [.int c0, .int 2000, .int 1]) (rest := []) ⟨hx, hb, hml, hown, hu⟩ (m_X15_isRest l dC dI h0 _ fs (c0) (2000) (1) hf) (cwV 3 hu (gV u243 u244 u245 u236 u246) rfl rfl rfl (by decide +kernel) ⟨(Nat.le_of_ble_eq_true rfl), (Nat.le_of_ble_eq_true rfl)⟩) ⟨mP_blind, va_recv hK hP (ci := 15) (q0 := 0) rfl rfl, mP_at hP hK hD⟩ rfl rfl hl.1 rfl (lv_room (Nat.le_of_ble_eq_true rfl)) dX15_group_19 ⟨Nat.zero_le _, Nat.zero_le _⟩) hS (fun q _ h => hFc q h) hFc (fun r2 u9 t H1 locs ht hvm hw hB hz1 hk1 hS => ?_)
    have hw : r2 = 0 := hw
    subst hw
    have hP : va_P (dC, dI) clx [(h0, .inr (15, (fs.set 0 (.int 1))))] t.heap := hB
    rw [ht] at hP
    refine lv_if_ne (tgt := 27) hx hb dX15_group_22 (by decide) (fun h9 => absurd (by decide) h9) (fun _ => ?_)
    refine lv_iconst (v := 0) hx hb dX15_group_25 (by decide) ?_
    exact W.iret (v := 0) hx hb hr (fun t ht hW => ⟨⟨0, (), rfl, rfl, by show va_P _ _ _ t.heap; rw [ht]; exact hP⟩, hS.F ht⟩) hS.2.2 dX15_group_26
  · skip
    refine lv_iload_n hx hb dX15_group_9 rfl (lv_at hl 2 rfl) ?_
    refine lv_iconst (v := 3) hx hb dX15_group_10 (by decide) ?_
    refine lv_icmp_le (tgt := 18) hx hb dX15_group_11 (by decide) (fun c3 => ?_) (fun c3 => ?_)
    · skip
      refine lv_iconst (v := 0) hx hb dX15_group_18 (by decide) ?_
      have hFc := va_free (wc := [(h0, .inr (15, fs))]) hD hS hA [0] rfl
      refine va_calli (va_runV (As := [.int c0, .int 2000, .int 0]) (rest := []) ⟨hx, hb, hml, hown, hu⟩ (m_X15_isRest l dC dI h0 _ fs (c0) (2000) (0) hf) (cwV 3 hu (gV u243 u244 u245 u236 u246) rfl rfl rfl (by decide +kernel) ⟨(Nat.le_of_ble_eq_true rfl), (Nat.le_of_ble_eq_true rfl)⟩) ⟨mP_blind, va_recv hK hP (ci := 15) (q0 := 0) rfl rfl, mP_at hP hK hD⟩ rfl rfl hl.1 rfl (lv_room (Nat.le_of_ble_eq_true rfl)) dX15_group_19 ⟨Nat.zero_le _, Nat.zero_le _⟩) hS (fun q _ h => hFc q h) hFc (fun r4 u9 t H1 locs ht hvm hw hB hz1 hk1 hS => ?_)
      have hw : r4 = 0 := hw
      subst hw
      have hP : va_P (dC, dI) clx [(h0, .inr (15, (fs.set 0 (.int 1))))] t.heap := hB
      rw [ht] at hP
      refine lv_if_ne (tgt := 27) hx hb dX15_group_22 (by decide) (fun h9 => absurd (by decide) h9) (fun _ => ?_)
      refine lv_iconst (v := 0) hx hb dX15_group_25 (by decide) ?_
      exact W.iret (v := 0) hx hb hr (fun t ht hW => ⟨⟨0, (), rfl, rfl, by show va_P _ _ _ t.heap; rw [ht]; exact hP⟩, hS.F ht⟩) hS.2.2 dX15_group_26
    · skip
      refine lv_iconst (v := 1) hx hb dX15_group_14 (by decide) ?_
      refine lv_goto (tgt := 19) hx hb dX15_group_15 (by decide) ?_
      have hFc := va_free (wc := [(h0, .inr (15, fs))]) hD hS hA [0] rfl
      refine va_calli (va_runV (As := [.int c0, .int 2000, .int 1]) (rest := []) ⟨hx, hb, hml, hown, hu⟩ (m_X15_isRest l dC dI h0 _ fs (c0) (2000) (1) hf) (cwV 3 hu (gV u243 u244 u245 u236 u246) rfl rfl rfl (by decide +kernel) ⟨(Nat.le_of_ble_eq_true rfl), (Nat.le_of_ble_eq_true rfl)⟩) ⟨mP_blind, va_recv hK hP (ci := 15) (q0 := 0) rfl rfl, mP_at hP hK hD⟩ rfl rfl hl.1 rfl (lv_room (Nat.le_of_ble_eq_true rfl)) dX15_group_19 ⟨Nat.zero_le _, Nat.zero_le _⟩) hS (fun q _ h => hFc q h) hFc (fun r5 u9 t H1 locs ht hvm hw hB hz1 hk1 hS => ?_)
      have hw : r5 = 0 := hw
      subst hw
      have hP : va_P (dC, dI) clx [(h0, .inr (15, (fs.set 0 (.int 1))))] t.heap := hB
      rw [ht] at hP
      refine lv_if_ne (tgt := 27) hx hb dX15_group_22 (by decide) (fun h9 => absurd (by decide) h9) (fun _ => ?_)
      refine lv_iconst (v := 0) hx hb dX15_group_25 (by decide) ?_
      exact W.iret (v := 0) hx hb hr (fun t ht hW => ⟨⟨0, (), rfl, rfl, by show va_P _ _ _ t.heap; rw [ht]; exact hP⟩, hS.F ht⟩) hS.2.2 dX15_group_26
def wk_X15_pair : List Cond := .code yX15_pair cX15_pair 9 (some .int) :: wU
set_option maxHeartbeats 4000000 in
set_option maxRecDepth 100000 in
theorem m_X15_pair (l : Launch) (dC : Nat → ClassId) (dI : Nat → Nat → Nat) (h0 sz : Nat) (fs : List Value) (c0 d0 e0 : Int32) (hf : mF fs) : Met l yX15_pair wk_X15_pair ({ frames := 3, cells := 0, slots := 0, locals := 81 } : Room) (mP dC dI [(h0, .inr (15, fs))] [] sz [.ref h0, .int c0, .int d0, .int e0]) (va_Qi (S := Unit) (fun r _ => r = 0) (fun _ t => va_P (dC, dI) clx [(h0, .inr (15, (fs.set 0 (.int 1))))] t.heap) (va_A [(h0, .inr (15, fs))] sz)) 0 0 (va_A [(h0, .inr (15, fs))] sz) := by
  refine Met.ofW (cc := cX15_pair) (maxL := 9) (ret := (some .int)) (by decide) rfl ?_
  intro p e s m args below meth c s₁ B hml hv
  obtain ⟨rfl, hsz, hP, hK, hD0⟩ := hv
  have hx := B.exec
  have hb := B.bytes
  have hr := B.returns
  have hts := atoms_spec (ws := wk_X15_pair) B.pre
  have hu : ∀ w ∈ wU, w.before ([.ref h0, .int c0, .int d0, .int e0] : List Value).toArray s = true := fun w h => hts w (List.mem_cons_of_mem _ h)
  have hown : s.vm.findClass RX15 = some m.cls := findClass_of_methodNamed B.named
  have hlocks := B.notSynchronized
  subst hsz
  have hD := va_D1 (sz := s.heap.size) h0 (.inr (15, fs))
  generalize hAe : va_A [(h0, .inr (15, fs))] s.heap.size = A at hD ⊢
  have hA : ∀ q : Nat, s.heap.size ≤ q → A q := fun q h => by rw [← hAe]; exact Or.inr h
  have hS : va_S A s.heap s.heap [] := va_S.rf
  have hl := lv_entry ([.ref h0, .int c0, .int d0, .int e0]) (n := 9) (Nat.le_of_ble_eq_true rfl)
  rw [lg_entry_eq]
  generalize (lg_sl ([.ref h0, .int c0, .int d0, .int e0]) ++ List.replicate (9 - (lg_sl ([.ref h0, .int c0, .int d0, .int e0])).length) Slot.unset).toArray = ls at hl ⊢
  have hl : lv_has ls 9 [(0, .ref h0), (1, .int c0), (2, .int d0), (3, .int e0)] := hl
  refine lv_aload_n hx hb dX15_pair_0 rfl (lv_at hl 0 rfl) ?_
  refine lv_iload_n hx hb dX15_pair_1 rfl (lv_at hl 1 rfl) ?_
  have hFc := va_free (wc := [(h0, .inr (15, fs))]) hD hS hA [0] rfl
  refine va_calli (va_runV (As := [.int c0]) (rest := []) ⟨hx, hb, hml, hown, hu⟩ (m_X15_isPoint l dC dI h0 _ fs (c0) hf) (cwV 1 hu (gV u238 u239 u240 u236 u241) rfl rfl rfl (by decide +kernel) ⟨(Nat.le_of_ble_eq_true rfl), (Nat.le_of_ble_eq_true rfl)⟩) ⟨mP_blind, va_recv hK hP (ci := 15) (q0 := 0) rfl rfl, mP_at hP hK hD⟩ rfl rfl hl.1 rfl (lv_room (Nat.le_of_ble_eq_true rfl)) dX15_pair_2 ⟨Nat.zero_le _, Nat.zero_le _⟩) hS (fun q _ h => hFc q h) hFc (fun r1 u9 t H1 locs ht hvm hw hB hz1 hk1 hS => ?_)
  have hw : r1 = 0 := hw
  subst hw
  have hP : va_P (dC, dI) clx [(h0, .inr (15, (fs.set 0 (.int 1))))] t.heap := hB
  rw [ht] at hP
  refine lv_if_eq (tgt := 16) hx hb dX15_pair_5 (by decide) (fun _ => ?_) (fun h9 => absurd (by decide) h9)
  refine lv_iconst (v := 0) hx hb dX15_pair_16 (by decide) ?_
  exact W.iret (v := 0) hx hb hr (fun t ht hW => ⟨⟨0, (), rfl, rfl, by show va_P _ _ _ t.heap; rw [ht]; exact hP⟩, hS.F ht⟩) hS.2.2 dX15_pair_17
def wk_X15_polynomial : List Cond := .code yX15_polynomial cX15_polynomial 10 (some .int) :: wU
set_option maxHeartbeats 4000000 in
set_option maxRecDepth 100000 in
theorem m_X15_polynomial (l : Launch) (dC : Nat → ClassId) (dI : Nat → Nat → Nat) (h0 sz : Nat) (fs : List Value) (c0 d0 : Int32) (hf : mF fs) : Met l yX15_polynomial wk_X15_polynomial ({ frames := 4, cells := 0, slots := 0, locals := 104 } : Room) (mP dC dI [(h0, .inr (15, fs))] [] sz [.ref h0, .int c0, .int d0]) (va_Qi (S := Unit) (fun r _ => r = 0) (fun _ t => va_P (dC, dI) clx [(h0, .inr (15, (fs.set 0 (.int 1))))] t.heap) (va_A [(h0, .inr (15, fs))] sz)) 0 0 (va_A [(h0, .inr (15, fs))] sz) := by
  refine Met.ofW (cc := cX15_polynomial) (maxL := 10) (ret := (some .int)) (by decide) rfl ?_
  intro p e s m args below meth c s₁ B hml hv
  obtain ⟨rfl, hsz, hP, hK, hD0⟩ := hv
  have hx := B.exec
  have hb := B.bytes
  have hr := B.returns
  have hts := atoms_spec (ws := wk_X15_polynomial) B.pre
  have hu : ∀ w ∈ wU, w.before ([.ref h0, .int c0, .int d0] : List Value).toArray s = true := fun w h => hts w (List.mem_cons_of_mem _ h)
  have hown : s.vm.findClass RX15 = some m.cls := findClass_of_methodNamed B.named
  have hlocks := B.notSynchronized
  subst hsz
  have hD := va_D1 (sz := s.heap.size) h0 (.inr (15, fs))
  generalize hAe : va_A [(h0, .inr (15, fs))] s.heap.size = A at hD ⊢
  have hA : ∀ q : Nat, s.heap.size ≤ q → A q := fun q h => by rw [← hAe]; exact Or.inr h
  have hS : va_S A s.heap s.heap [] := va_S.rf
  have hl := lv_entry ([.ref h0, .int c0, .int d0]) (n := 10) (Nat.le_of_ble_eq_true rfl)
  rw [lg_entry_eq]
  generalize (lg_sl ([.ref h0, .int c0, .int d0]) ++ List.replicate (10 - (lg_sl ([.ref h0, .int c0, .int d0])).length) Slot.unset).toArray = ls at hl ⊢
  have hl : lv_has ls 10 [(0, .ref h0), (1, .int c0), (2, .int d0)] := hl
  refine lv_aload_n hx hb dX15_polynomial_0 rfl (lv_at hl 0 rfl) ?_
  refine lv_iload_n hx hb dX15_polynomial_1 rfl (lv_at hl 1 rfl) ?_
  refine lv_sipush (v := 2000) hx hb dX15_polynomial_2 (by decide) ?_
  refine lv_iload_n hx hb dX15_polynomial_5 rfl (lv_at hl 2 rfl) ?_
  refine lv_iconst (v := 1) hx hb dX15_polynomial_6 (by decide) ?_
  refine lv_icmp_lt (tgt := 16) hx hb dX15_polynomial_7 (by decide) (fun c1 => ?_) (fun c1 => ?_)
  · skip
    refine lv_iconst (v := 1) hx hb dX15_polynomial_16 (by decide) ?_
    refine lv_goto (tgt := 21) hx hb dX15_polynomial_17 (by decide) ?_
    have hFc := va_free (wc := [(h0, .inr (15, fs))]) hD hS hA [0] rfl
    refine va_calli (va_runV (As := [.int c0, .int 2000, .int 1]) (rest := []) ⟨hx, hb, hml, hown, hu⟩ (m_X15_isRest l dC dI h0 _ fs (c0) (2000) (1) hf) (cwV 3 hu (gV u243 u244 u245 u236 u246) rfl rfl rfl (by decide +kernel) ⟨(Nat.le_of_ble_eq_true rfl), (Nat.le_of_ble_eq_true rfl)⟩) ⟨mP_blind, va_recv hK hP (ci := 15) (q0 := 0) rfl rfl, mP_at hP hK hD⟩ rfl rfl hl.1 rfl (lv_room (Nat.le_of_ble_eq_true rfl)) dX15_polynomial_21 ⟨Nat.zero_le _, Nat.zero_le _⟩) hS (fun q _ h => hFc q h) hFc (fun r2 u9 t H1 locs ht hvm hw hB hz1 hk1 hS => ?_)
    have hw : r2 = 0 := hw
    subst hw
    have hP : va_P (dC, dI) clx [(h0, .inr (15, (fs.set 0 (.int 1))))] t.heap := hB
    rw [ht] at hP
    refine lv_if_ne (tgt := 29) hx hb dX15_polynomial_24 (by decide) (fun h9 => absurd (by decide) h9) (fun _ => ?_)
    refine lv_iconst (v := 0) hx hb dX15_polynomial_27 (by decide) ?_
    exact W.iret (v := 0) hx hb hr (fun t ht hW => ⟨⟨0, (), rfl, rfl, by show va_P _ _ _ t.heap; rw [ht]; exact hP⟩, hS.F ht⟩) hS.2.2 dX15_polynomial_28
  · skip
    refine lv_iload_n hx hb dX15_polynomial_10 rfl (lv_at hl 2 rfl) ?_
    refine lv_bipush (v := 11) hx hb dX15_polynomial_11 (by decide) ?_
    refine lv_icmp_le (tgt := 20) hx hb dX15_polynomial_13 (by decide) (fun c3 => ?_) (fun c3 => ?_)
    · skip
      refine lv_iconst (v := 0) hx hb dX15_polynomial_20 (by decide) ?_
      have hFc := va_free (wc := [(h0, .inr (15, fs))]) hD hS hA [0] rfl
      refine va_calli (va_runV (As := [.int c0, .int 2000, .int 0]) (rest := []) ⟨hx, hb, hml, hown, hu⟩ (m_X15_isRest l dC dI h0 _ fs (c0) (2000) (0) hf) (cwV 3 hu (gV u243 u244 u245 u236 u246) rfl rfl rfl (by decide +kernel) ⟨(Nat.le_of_ble_eq_true rfl), (Nat.le_of_ble_eq_true rfl)⟩) ⟨mP_blind, va_recv hK hP (ci := 15) (q0 := 0) rfl rfl, mP_at hP hK hD⟩ rfl rfl hl.1 rfl (lv_room (Nat.le_of_ble_eq_true rfl)) dX15_polynomial_21 ⟨Nat.zero_le _, Nat.zero_le _⟩) hS (fun q _ h => hFc q h) hFc (fun r4 u9 t H1 locs ht hvm hw hB hz1 hk1 hS => ?_)
      have hw : r4 = 0 := hw
      subst hw
      have hP : va_P (dC, dI) clx [(h0, .inr (15, (fs.set 0 (.int 1))))] t.heap := hB
      rw [ht] at hP
      refine lv_if_ne (tgt := 29) hx hb dX15_polynomial_24 (by decide) (fun h9 => absurd (by decide) h9) (fun _ => ?_)
      refine lv_iconst (v := 0) hx hb dX15_polynomial_27 (by decide) ?_
      exact W.iret (v := 0) hx hb hr (fun t ht hW => ⟨⟨0, (), rfl, rfl, by show va_P _ _ _ t.heap; rw [ht]; exact hP⟩, hS.F ht⟩) hS.2.2 dX15_polynomial_28
    · skip
      refine lv_iconst (v := 1) hx hb dX15_polynomial_16 (by decide) ?_
      refine lv_goto (tgt := 21) hx hb dX15_polynomial_17 (by decide) ?_
      have hFc := va_free (wc := [(h0, .inr (15, fs))]) hD hS hA [0] rfl
      refine va_calli (va_runV (As := [.int c0, .int 2000, .int 1]) (rest := []) ⟨hx, hb, hml, hown, hu⟩ (m_X15_isRest l dC dI h0 _ fs (c0) (2000) (1) hf) (cwV 3 hu (gV u243 u244 u245 u236 u246) rfl rfl rfl (by decide +kernel) ⟨(Nat.le_of_ble_eq_true rfl), (Nat.le_of_ble_eq_true rfl)⟩) ⟨mP_blind, va_recv hK hP (ci := 15) (q0 := 0) rfl rfl, mP_at hP hK hD⟩ rfl rfl hl.1 rfl (lv_room (Nat.le_of_ble_eq_true rfl)) dX15_polynomial_21 ⟨Nat.zero_le _, Nat.zero_le _⟩) hS (fun q _ h => hFc q h) hFc (fun r5 u9 t H1 locs ht hvm hw hB hz1 hk1 hS => ?_)
      have hw : r5 = 0 := hw
      subst hw
      have hP : va_P (dC, dI) clx [(h0, .inr (15, (fs.set 0 (.int 1))))] t.heap := hB
      rw [ht] at hP
      refine lv_if_ne (tgt := 29) hx hb dX15_polynomial_24 (by decide) (fun h9 => absurd (by decide) h9) (fun _ => ?_)
      refine lv_iconst (v := 0) hx hb dX15_polynomial_27 (by decide) ?_
      exact W.iret (v := 0) hx hb hr (fun t ht hW => ⟨⟨0, (), rfl, rfl, by show va_P _ _ _ t.heap; rw [ht]; exact hP⟩, hS.F ht⟩) hS.2.2 dX15_polynomial_28
def wk_X15_led : List Cond := .code yX15_led cX15_led 3 (some .int) :: wU
set_option maxHeartbeats 4000000 in
set_option maxRecDepth 100000 in
theorem m_X15_led (l : Launch) (dC : Nat → ClassId) (dI : Nat → Nat → Nat) (h0 sz : Nat) (fs : List Value) (c0 : Int32) (hf : mF fs) : Met l yX15_led wk_X15_led ({ frames := 3, cells := 0, slots := 0, locals := 81 } : Room) (mP dC dI [(h0, .inr (15, fs))] [] sz [.ref h0, .int c0]) (va_Qi (S := Unit) (fun r _ => r = 0) (fun _ t => va_P (dC, dI) clx [(h0, .inr (15, (fs.set 0 (.int 1))))] t.heap) (va_A [(h0, .inr (15, fs))] sz)) 0 0 (va_A [(h0, .inr (15, fs))] sz) := by
  refine Met.ofW (cc := cX15_led) (maxL := 3) (ret := (some .int)) (by decide) rfl ?_
  intro p e s m args below meth c s₁ B hml hv
  obtain ⟨rfl, hsz, hP, hK, hD0⟩ := hv
  have hx := B.exec
  have hb := B.bytes
  have hr := B.returns
  have hts := atoms_spec (ws := wk_X15_led) B.pre
  have hu : ∀ w ∈ wU, w.before ([.ref h0, .int c0] : List Value).toArray s = true := fun w h => hts w (List.mem_cons_of_mem _ h)
  have hown : s.vm.findClass RX15 = some m.cls := findClass_of_methodNamed B.named
  have hlocks := B.notSynchronized
  subst hsz
  have hD := va_D1 (sz := s.heap.size) h0 (.inr (15, fs))
  generalize hAe : va_A [(h0, .inr (15, fs))] s.heap.size = A at hD ⊢
  have hA : ∀ q : Nat, s.heap.size ≤ q → A q := fun q h => by rw [← hAe]; exact Or.inr h
  have hS : va_S A s.heap s.heap [] := va_S.rf
  have hl := lv_entry ([.ref h0, .int c0]) (n := 3) (Nat.le_of_ble_eq_true rfl)
  rw [lg_entry_eq]
  generalize (lg_sl ([.ref h0, .int c0]) ++ List.replicate (3 - (lg_sl ([.ref h0, .int c0])).length) Slot.unset).toArray = ls at hl ⊢
  have hl : lv_has ls 3 [(0, .ref h0), (1, .int c0)] := hl
  refine lv_aload_n hx hb dX15_led_0 rfl (lv_at hl 0 rfl) ?_
  refine lv_iload_n hx hb dX15_led_1 rfl (lv_at hl 1 rfl) ?_
  have hFc := va_free (wc := [(h0, .inr (15, fs))]) hD hS hA [0] rfl
  refine va_calli (va_runV (As := [.int c0]) (rest := []) ⟨hx, hb, hml, hown, hu⟩ (m_X15_isPoint l dC dI h0 _ fs (c0) hf) (cwV 1 hu (gV u238 u239 u240 u236 u241) rfl rfl rfl (by decide +kernel) ⟨(Nat.le_of_ble_eq_true rfl), (Nat.le_of_ble_eq_true rfl)⟩) ⟨mP_blind, va_recv hK hP (ci := 15) (q0 := 0) rfl rfl, mP_at hP hK hD⟩ rfl rfl hl.1 rfl (lv_room (Nat.le_of_ble_eq_true rfl)) dX15_led_2 ⟨Nat.zero_le _, Nat.zero_le _⟩) hS (fun q _ h => hFc q h) hFc (fun r1 u9 t H1 locs ht hvm hw hB hz1 hk1 hS => ?_)
  have hw : r1 = 0 := hw
  subst hw
  have hP : va_P (dC, dI) clx [(h0, .inr (15, (fs.set 0 (.int 1))))] t.heap := hB
  rw [ht] at hP
  refine lv_if_ne (tgt := 10) hx hb dX15_led_5 (by decide) (fun h9 => absurd (by decide) h9) (fun _ => ?_)
  refine lv_iconst (v := 0) hx hb dX15_led_8 (by decide) ?_
  exact W.iret (v := 0) hx hb hr (fun t ht hW => ⟨⟨0, (), rfl, rfl, by show va_P _ _ _ t.heap; rw [ht]; exact hP⟩, hS.F ht⟩) hS.2.2 dX15_led_9
def wk_X15_through : List Cond := .code yX15_through cX15_through 7 (some .int) :: wU
set_option maxHeartbeats 4000000 in
set_option maxRecDepth 100000 in
theorem m_X15_through (l : Launch) (dC : Nat → ClassId) (dI : Nat → Nat → Nat) (h0 sz : Nat) (fs : List Value) (c0 d0 : Int32) (hf : mF fs) : Met l yX15_through wk_X15_through ({ frames := 3, cells := 0, slots := 0, locals := 81 } : Room) (mP dC dI [(h0, .inr (15, fs))] [] sz [.ref h0, .int c0, .int d0]) (va_Qi (S := Unit) (fun r _ => r = 0) (fun _ t => va_P (dC, dI) clx [(h0, .inr (15, (fs.set 0 (.int 1))))] t.heap) (va_A [(h0, .inr (15, fs))] sz)) 0 0 (va_A [(h0, .inr (15, fs))] sz) := by
  refine Met.ofW (cc := cX15_through) (maxL := 7) (ret := (some .int)) (by decide) rfl ?_
  intro p e s m args below meth c s₁ B hml hv
  obtain ⟨rfl, hsz, hP, hK, hD0⟩ := hv
  have hx := B.exec
  have hb := B.bytes
  have hr := B.returns
  have hts := atoms_spec (ws := wk_X15_through) B.pre
  have hu : ∀ w ∈ wU, w.before ([.ref h0, .int c0, .int d0] : List Value).toArray s = true := fun w h => hts w (List.mem_cons_of_mem _ h)
  have hown : s.vm.findClass RX15 = some m.cls := findClass_of_methodNamed B.named
  have hlocks := B.notSynchronized
  subst hsz
  have hD := va_D1 (sz := s.heap.size) h0 (.inr (15, fs))
  generalize hAe : va_A [(h0, .inr (15, fs))] s.heap.size = A at hD ⊢
  have hA : ∀ q : Nat, s.heap.size ≤ q → A q := fun q h => by rw [← hAe]; exact Or.inr h
  have hS : va_S A s.heap s.heap [] := va_S.rf
  have hl := lv_entry ([.ref h0, .int c0, .int d0]) (n := 7) (Nat.le_of_ble_eq_true rfl)
  rw [lg_entry_eq]
  generalize (lg_sl ([.ref h0, .int c0, .int d0]) ++ List.replicate (7 - (lg_sl ([.ref h0, .int c0, .int d0])).length) Slot.unset).toArray = ls at hl ⊢
  have hl : lv_has ls 7 [(0, .ref h0), (1, .int c0), (2, .int d0)] := hl
  refine lv_aload_n hx hb dX15_through_0 rfl (lv_at hl 0 rfl) ?_
  refine lv_iload_n hx hb dX15_through_1 rfl (lv_at hl 1 rfl) ?_
  have hFc := va_free (wc := [(h0, .inr (15, fs))]) hD hS hA [0] rfl
  refine va_calli (va_runV (As := [.int c0]) (rest := []) ⟨hx, hb, hml, hown, hu⟩ (m_X15_isPoint l dC dI h0 _ fs (c0) hf) (cwV 1 hu (gV u238 u239 u240 u236 u241) rfl rfl rfl (by decide +kernel) ⟨(Nat.le_of_ble_eq_true rfl), (Nat.le_of_ble_eq_true rfl)⟩) ⟨mP_blind, va_recv hK hP (ci := 15) (q0 := 0) rfl rfl, mP_at hP hK hD⟩ rfl rfl hl.1 rfl (lv_room (Nat.le_of_ble_eq_true rfl)) dX15_through_2 ⟨Nat.zero_le _, Nat.zero_le _⟩) hS (fun q _ h => hFc q h) hFc (fun r1 u9 t H1 locs ht hvm hw hB hz1 hk1 hS => ?_)
  have hw : r1 = 0 := hw
  subst hw
  have hP : va_P (dC, dI) clx [(h0, .inr (15, (fs.set 0 (.int 1))))] t.heap := hB
  rw [ht] at hP
  refine lv_if_eq (tgt := 16) hx hb dX15_through_5 (by decide) (fun _ => ?_) (fun h9 => absurd (by decide) h9)
  refine lv_iconst (v := 0) hx hb dX15_through_16 (by decide) ?_
  exact W.iret (v := 0) hx hb hr (fun t ht hW => ⟨⟨0, (), rfl, rfl, by show va_P _ _ _ t.heap; rw [ht]; exact hP⟩, hS.F ht⟩) hS.2.2 dX15_through_17
def wk_X15_found : List Cond := .code yX15_found cX15_found 3 (some .long) :: wU
set_option maxHeartbeats 4000000 in
set_option maxRecDepth 100000 in
theorem m_X15_found (l : Launch) (dC : Nat → ClassId) (dI : Nat → Nat → Nat) (h0 sz : Nat) (fs : List Value) (c0 d0 : Int32) (hf : mF fs) : Met l yX15_found wk_X15_found ({ frames := 2, cells := 0, slots := 0, locals := 60 } : Room) (mP dC dI [(h0, .inr (15, fs))] [] sz [.ref h0, .int c0, .int d0]) (va_Ql (S := Unit) (fun r _ => r = 0) (fun _ t => va_P (dC, dI) clx [(h0, .inr (15, (fs.set 0 (.int 1))))] t.heap) (va_A [(h0, .inr (15, fs))] sz)) 0 0 (va_A [(h0, .inr (15, fs))] sz) := by
  refine Met.ofW (cc := cX15_found) (maxL := 3) (ret := (some .long)) (by decide) rfl ?_
  intro p e s m args below meth c s₁ B hml hv
  obtain ⟨rfl, hsz, hP, hK, hD0⟩ := hv
  have hx := B.exec
  have hb := B.bytes
  have hr := B.returns
  have hts := atoms_spec (ws := wk_X15_found) B.pre
  have hu : ∀ w ∈ wU, w.before ([.ref h0, .int c0, .int d0] : List Value).toArray s = true := fun w h => hts w (List.mem_cons_of_mem _ h)
  have hown : s.vm.findClass RX15 = some m.cls := findClass_of_methodNamed B.named
  have hlocks := B.notSynchronized
  subst hsz
  have hD := va_D1 (sz := s.heap.size) h0 (.inr (15, fs))
  generalize hAe : va_A [(h0, .inr (15, fs))] s.heap.size = A at hD ⊢
  have hA : ∀ q : Nat, s.heap.size ≤ q → A q := fun q h => by rw [← hAe]; exact Or.inr h
  have hS : va_S A s.heap s.heap [] := va_S.rf
  have hl := lv_entry ([.ref h0, .int c0, .int d0]) (n := 3) (Nat.le_of_ble_eq_true rfl)
  rw [lg_entry_eq]
  generalize (lg_sl ([.ref h0, .int c0, .int d0]) ++ List.replicate (3 - (lg_sl ([.ref h0, .int c0, .int d0])).length) Slot.unset).toArray = ls at hl ⊢
  have hl : lv_has ls 3 [(0, .ref h0), (1, .int c0), (2, .int d0)] := hl
  refine lv_aload_n hx hb dX15_found_0 rfl (lv_at hl 0 rfl) ?_
  refine lv_iload_n hx hb dX15_found_1 rfl (lv_at hl 1 rfl) ?_
  refine lv_if_lt (tgt := 13) hx hb dX15_found_2 (by decide) (fun c1 => ?_) (fun c1 => ?_)
  · skip
    refine lv_iconst (v := 1) hx hb dX15_found_13 (by decide) ?_
    refine lv_goto (tgt := 31) hx hb dX15_found_14 (by decide) ?_
    refine va_put (D := (dC, dI)) (ci := 15) (v := .int 1) (ty := .int) (C := RX15) (T := TX15) (N := 74) hx hb hu iX15 tyX15 tyX15_ok nmX15 hown hK hP hD hS 0 rfl rfl 0 (by decide) (hu _ u230) (fun _ h9 => h9) rfl (by decide +kernel) rfl rfl (by rw [hf.2.2.2.2.2]; decide) dX15_found_31 (fun H locs hP hD hS => ?_)
    have hP : va_P (dC, dI) clx [(h0, .inr (15, (fs.set 0 (.int 1))))] H := hP
    have hD : va_D A [(h0, .inr (15, (fs.set 0 (.int 1))))] := hD
    refine lv_aload_n hx hb dX15_found_34 rfl (lv_at hl 0 rfl) ?_
    refine va_get (D := (dC, dI)) (ci := 15) (v := .int 1) (C := RX15) (T := TX15) (N := 74) hx hb hu iX15 hown hK hP 0 rfl rfl 0 (by decide) (hu _ u230) (fun _ h9 => h9) (List.getElem?_set_self (by rw [hf.2.2.2.2.2]; decide)) dX15_found_35 ?_
    refine lv_if_le (tgt := 43) hx hb dX15_found_38 (by decide) (fun h9 => absurd h9 (by decide)) (fun _ => ?_)
    refine lv_lconst (v := 0) hx hb dX15_found_41 (by decide) ?_
    exact W.lret (v := 0) hx hb hr (fun t ht hW => ⟨⟨0, (), rfl, rfl, by show va_P _ _ _ t.heap; rw [ht]; exact hP⟩, hS.F ht⟩) hS.2.2 dX15_found_42
  · skip
    refine lv_iload_n hx hb dX15_found_5 rfl (lv_at hl 1 rfl) ?_
    refine lv_aload_n hx hb dX15_found_6 rfl (lv_at hl 0 rfl) ?_
    refine va_get (D := (dC, dI)) (ci := 15) (v := .int 0) (C := RX15) (T := TX15) (N := 74) hx hb hu iX15 hown hK hP 0 rfl rfl 42 (by decide) (hu _ u247) (fun _ h9 => h9) hf.2.2.2.1 dX15_found_7 ?_
    refine lv_icmp_lt (tgt := 17) hx hb dX15_found_10 (by decide) (fun h9 => absurd h9 c1) (fun _ => ?_)
    refine lv_iconst (v := 1) hx hb dX15_found_13 (by decide) ?_
    refine lv_goto (tgt := 31) hx hb dX15_found_14 (by decide) ?_
    refine va_put (D := (dC, dI)) (ci := 15) (v := .int 1) (ty := .int) (C := RX15) (T := TX15) (N := 74) hx hb hu iX15 tyX15 tyX15_ok nmX15 hown hK hP hD hS 0 rfl rfl 0 (by decide) (hu _ u230) (fun _ h9 => h9) rfl (by decide +kernel) rfl rfl (by rw [hf.2.2.2.2.2]; decide) dX15_found_31 (fun H locs hP hD hS => ?_)
    have hP : va_P (dC, dI) clx [(h0, .inr (15, (fs.set 0 (.int 1))))] H := hP
    have hD : va_D A [(h0, .inr (15, (fs.set 0 (.int 1))))] := hD
    refine lv_aload_n hx hb dX15_found_34 rfl (lv_at hl 0 rfl) ?_
    refine va_get (D := (dC, dI)) (ci := 15) (v := .int 1) (C := RX15) (T := TX15) (N := 74) hx hb hu iX15 hown hK hP 0 rfl rfl 0 (by decide) (hu _ u230) (fun _ h9 => h9) (List.getElem?_set_self (by rw [hf.2.2.2.2.2]; decide)) dX15_found_35 ?_
    refine lv_if_le (tgt := 43) hx hb dX15_found_38 (by decide) (fun h9 => absurd h9 (by decide)) (fun _ => ?_)
    refine lv_lconst (v := 0) hx hb dX15_found_41 (by decide) ?_
    exact W.lret (v := 0) hx hb hr (fun t ht hW => ⟨⟨0, (), rfl, rfl, by show va_P _ _ _ t.heap; rw [ht]; exact hP⟩, hS.F ht⟩) hS.2.2 dX15_found_42
def wk_X15_coefficient : List Cond := .code yX15_coefficient cX15_coefficient 2 (some .int) :: wU
set_option maxHeartbeats 4000000 in
set_option maxRecDepth 100000 in
theorem m_X15_coefficient (l : Launch) (dC : Nat → ClassId) (dI : Nat → Nat → Nat) (h0 sz : Nat) (fs : List Value) (c0 : Int32) (hf : mF fs) : Met l yX15_coefficient wk_X15_coefficient ({ frames := 2, cells := 0, slots := 0, locals := 60 } : Room) (mP dC dI [(h0, .inr (15, fs))] [] sz [.ref h0, .int c0]) (va_Qi (S := Unit) (fun r _ => r = 0) (fun _ t => va_P (dC, dI) clx [(h0, .inr (15, (fs.set 0 (.int 0))))] t.heap) (va_A [(h0, .inr (15, fs))] sz)) 0 0 (va_A [(h0, .inr (15, fs))] sz) := by
  refine Met.ofW (cc := cX15_coefficient) (maxL := 2) (ret := (some .int)) (by decide) rfl ?_
  intro p e s m args below meth c s₁ B hml hv
  obtain ⟨rfl, hsz, hP, hK, hD0⟩ := hv
  have hx := B.exec
  have hb := B.bytes
  have hr := B.returns
  have hts := atoms_spec (ws := wk_X15_coefficient) B.pre
  have hu : ∀ w ∈ wU, w.before ([.ref h0, .int c0] : List Value).toArray s = true := fun w h => hts w (List.mem_cons_of_mem _ h)
  have hown : s.vm.findClass RX15 = some m.cls := findClass_of_methodNamed B.named
  have hlocks := B.notSynchronized
  subst hsz
  have hD := va_D1 (sz := s.heap.size) h0 (.inr (15, fs))
  generalize hAe : va_A [(h0, .inr (15, fs))] s.heap.size = A at hD ⊢
  have hA : ∀ q : Nat, s.heap.size ≤ q → A q := fun q h => by rw [← hAe]; exact Or.inr h
  have hS : va_S A s.heap s.heap [] := va_S.rf
  have hl := lv_entry ([.ref h0, .int c0]) (n := 2) (Nat.le_of_ble_eq_true rfl)
  rw [lg_entry_eq]
  generalize (lg_sl ([.ref h0, .int c0]) ++ List.replicate (2 - (lg_sl ([.ref h0, .int c0])).length) Slot.unset).toArray = ls at hl ⊢
  have hl : lv_has ls 2 [(0, .ref h0), (1, .int c0)] := hl
  refine lv_aload_n hx hb dX15_coefficient_0 rfl (lv_at hl 0 rfl) ?_
  refine lv_iconst (v := 0) hx hb dX15_coefficient_1 (by decide) ?_
  refine va_put (D := (dC, dI)) (ci := 15) (v := .int 0) (ty := .int) (C := RX15) (T := TX15) (N := 74) hx hb hu iX15 tyX15 tyX15_ok nmX15 hown hK hP hD hS 0 rfl rfl 0 (by decide) (hu _ u230) (fun _ h9 => h9) rfl (by decide +kernel) rfl rfl (by rw [hf.2.2.2.2.2]; decide) dX15_coefficient_2 (fun H locs hP hD hS => ?_)
  have hP : va_P (dC, dI) clx [(h0, .inr (15, (fs.set 0 (.int 0))))] H := hP
  have hD : va_D A [(h0, .inr (15, (fs.set 0 (.int 0))))] := hD
  refine lv_aload_n hx hb dX15_coefficient_5 rfl (lv_at hl 0 rfl) ?_
  refine va_get (D := (dC, dI)) (ci := 15) (v := .int 0) (C := RX15) (T := TX15) (N := 74) hx hb hu iX15 hown hK hP 0 rfl rfl 65 (by decide) (hu _ u248) (fun _ h9 => h9) (by rw [List.getElem?_set_ne (by decide)]; exact hf.2.2.2.2.1) dX15_coefficient_6 ?_
  refine lv_if_eq (tgt := 23) hx hb dX15_coefficient_9 (by decide) (fun _ => ?_) (fun h9 => absurd (by decide) h9)
  refine lv_iconst (v := 0) hx hb dX15_coefficient_23 (by decide) ?_
  refine lv_goto (tgt := 43) hx hb dX15_coefficient_24 (by decide) ?_
  exact W.iret (v := 0) hx hb hr (fun t ht hW => ⟨⟨0, (), rfl, rfl, by show va_P _ _ _ t.heap; rw [ht]; exact hP⟩, hS.F ht⟩) hS.2.2 dX15_coefficient_43
def wk_X15_root : List Cond := .code yX15_root cX15_root 8 (some .int) :: wU
set_option maxHeartbeats 4000000 in
set_option maxRecDepth 100000 in
theorem m_X15_root (l : Launch) (dC : Nat → ClassId) (dI : Nat → Nat → Nat) (h0 sz : Nat) (fs : List Value) (c0 : Int32) (hf : mF fs) : Met l yX15_root wk_X15_root ({ frames := 2, cells := 0, slots := 0, locals := 60 } : Room) (mP dC dI [(h0, .inr (15, fs))] [] sz [.ref h0, .int c0]) (va_Qi (S := Unit) (fun r _ => r = -1) (fun _ t => va_P (dC, dI) clx [(h0, .inr (15, (fs.set 0 (.int 0))))] t.heap) (va_A [(h0, .inr (15, fs))] sz)) 0 0 (va_A [(h0, .inr (15, fs))] sz) := by
  refine Met.ofW (cc := cX15_root) (maxL := 8) (ret := (some .int)) (by decide) rfl ?_
  intro p e s m args below meth c s₁ B hml hv
  obtain ⟨rfl, hsz, hP, hK, hD0⟩ := hv
  have hx := B.exec
  have hb := B.bytes
  have hr := B.returns
  have hts := atoms_spec (ws := wk_X15_root) B.pre
  have hu : ∀ w ∈ wU, w.before ([.ref h0, .int c0] : List Value).toArray s = true := fun w h => hts w (List.mem_cons_of_mem _ h)
  have hown : s.vm.findClass RX15 = some m.cls := findClass_of_methodNamed B.named
  have hlocks := B.notSynchronized
  subst hsz
  have hD := va_D1 (sz := s.heap.size) h0 (.inr (15, fs))
  generalize hAe : va_A [(h0, .inr (15, fs))] s.heap.size = A at hD ⊢
  have hA : ∀ q : Nat, s.heap.size ≤ q → A q := fun q h => by rw [← hAe]; exact Or.inr h
  have hS : va_S A s.heap s.heap [] := va_S.rf
  have hl := lv_entry ([.ref h0, .int c0]) (n := 8) (Nat.le_of_ble_eq_true rfl)
  rw [lg_entry_eq]
  generalize (lg_sl ([.ref h0, .int c0]) ++ List.replicate (8 - (lg_sl ([.ref h0, .int c0])).length) Slot.unset).toArray = ls at hl ⊢
  have hl : lv_has ls 8 [(0, .ref h0), (1, .int c0)] := hl
  refine lv_aload_n hx hb dX15_root_0 rfl (lv_at hl 0 rfl) ?_
  refine lv_iconst (v := 0) hx hb dX15_root_1 (by decide) ?_
  refine va_put (D := (dC, dI)) (ci := 15) (v := .int 0) (ty := .int) (C := RX15) (T := TX15) (N := 74) hx hb hu iX15 tyX15 tyX15_ok nmX15 hown hK hP hD hS 0 rfl rfl 0 (by decide) (hu _ u230) (fun _ h9 => h9) rfl (by decide +kernel) rfl rfl (by rw [hf.2.2.2.2.2]; decide) dX15_root_2 (fun H locs hP hD hS => ?_)
  have hP : va_P (dC, dI) clx [(h0, .inr (15, (fs.set 0 (.int 0))))] H := hP
  have hD : va_D A [(h0, .inr (15, (fs.set 0 (.int 0))))] := hD
  refine lv_aload_n hx hb dX15_root_5 rfl (lv_at hl 0 rfl) ?_
  refine va_get (D := (dC, dI)) (ci := 15) (v := .int 0) (C := RX15) (T := TX15) (N := 74) hx hb hu iX15 hown hK hP 0 rfl rfl 65 (by decide) (hu _ u248) (fun _ h9 => h9) (by rw [List.getElem?_set_ne (by decide)]; exact hf.2.2.2.2.1) dX15_root_6 ?_
  refine lv_if_ne (tgt := 16) hx hb dX15_root_9 (by decide) (fun h9 => absurd (by decide) h9) (fun _ => ?_)
  refine lv_iconst (v := (-1)) hx hb dX15_root_12 (by decide) ?_
  refine lv_goto (tgt := 20) hx hb dX15_root_13 (by decide) ?_
  refine lv_istore_n (lv' := [(2, .int (-1)), (0, .ref h0), (1, .int c0)]) hx hb dX15_root_20 rfl hl (by decide) rfl (fun ls hl => ?_)
  refine lv_iload_n hx hb dX15_root_21 rfl (lv_at hl 0 rfl) ?_
  refine lv_if_lt (tgt := 29) hx hb dX15_root_22 (by decide) (fun _ => ?_) (fun h9 => absurd (by decide) h9)
  refine lv_iconst (v := (-1)) hx hb dX15_root_29 (by decide) ?_
  exact W.iret (v := (-1)) hx hb hr (fun t ht hW => ⟨⟨(-1), (), rfl, rfl, by show va_P _ _ _ t.heap; rw [ht]; exact hP⟩, hS.F ht⟩) hS.2.2 dX15_root_30
def wk_X15_octet : List Cond := .code yX15_octet cX15_octet 2 (some .int) :: wU
set_option maxHeartbeats 4000000 in
set_option maxRecDepth 100000 in
theorem m_X15_octet (l : Launch) (dC : Nat → ClassId) (dI : Nat → Nat → Nat) (h0 sz : Nat) (fs : List Value) (c0 : Int32) (hf : mF fs) : Met l yX15_octet wk_X15_octet ({ frames := 2, cells := 0, slots := 0, locals := 60 } : Room) (mP dC dI [(h0, .inr (15, fs))] [] sz [.ref h0, .int c0]) (va_Qi (S := Unit) (fun r _ => r = -1) (fun _ t => va_P (dC, dI) clx [(h0, .inr (15, (fs.set 0 (.int 0))))] t.heap) (va_A [(h0, .inr (15, fs))] sz)) 0 0 (va_A [(h0, .inr (15, fs))] sz) := by
  refine Met.ofW (cc := cX15_octet) (maxL := 2) (ret := (some .int)) (by decide) rfl ?_
  intro p e s m args below meth c s₁ B hml hv
  obtain ⟨rfl, hsz, hP, hK, hD0⟩ := hv
  have hx := B.exec
  have hb := B.bytes
  have hr := B.returns
  have hts := atoms_spec (ws := wk_X15_octet) B.pre
  have hu : ∀ w ∈ wU, w.before ([.ref h0, .int c0] : List Value).toArray s = true := fun w h => hts w (List.mem_cons_of_mem _ h)
  have hown : s.vm.findClass RX15 = some m.cls := findClass_of_methodNamed B.named
  have hlocks := B.notSynchronized
  subst hsz
  have hD := va_D1 (sz := s.heap.size) h0 (.inr (15, fs))
  generalize hAe : va_A [(h0, .inr (15, fs))] s.heap.size = A at hD ⊢
  have hA : ∀ q : Nat, s.heap.size ≤ q → A q := fun q h => by rw [← hAe]; exact Or.inr h
  have hS : va_S A s.heap s.heap [] := va_S.rf
  have hl := lv_entry ([.ref h0, .int c0]) (n := 2) (Nat.le_of_ble_eq_true rfl)
  rw [lg_entry_eq]
  generalize (lg_sl ([.ref h0, .int c0]) ++ List.replicate (2 - (lg_sl ([.ref h0, .int c0])).length) Slot.unset).toArray = ls at hl ⊢
  have hl : lv_has ls 2 [(0, .ref h0), (1, .int c0)] := hl
  refine lv_aload_n hx hb dX15_octet_0 rfl (lv_at hl 0 rfl) ?_
  refine lv_iconst (v := 0) hx hb dX15_octet_1 (by decide) ?_
  refine va_put (D := (dC, dI)) (ci := 15) (v := .int 0) (ty := .int) (C := RX15) (T := TX15) (N := 74) hx hb hu iX15 tyX15 tyX15_ok nmX15 hown hK hP hD hS 0 rfl rfl 0 (by decide) (hu _ u230) (fun _ h9 => h9) rfl (by decide +kernel) rfl rfl (by rw [hf.2.2.2.2.2]; decide) dX15_octet_2 (fun H locs hP hD hS => ?_)
  have hP : va_P (dC, dI) clx [(h0, .inr (15, (fs.set 0 (.int 0))))] H := hP
  have hD : va_D A [(h0, .inr (15, (fs.set 0 (.int 0))))] := hD
  refine lv_iload_n hx hb dX15_octet_5 rfl (lv_at hl 1 rfl) ?_
  refine lv_if_lt (tgt := 26) hx hb dX15_octet_6 (by decide) (fun c1 => ?_) (fun c1 => ?_)
  · skip
    refine lv_iconst (v := (-1)) hx hb dX15_octet_26 (by decide) ?_
    exact W.iret (v := (-1)) hx hb hr (fun t ht hW => ⟨⟨(-1), (), rfl, rfl, by show va_P _ _ _ t.heap; rw [ht]; exact hP⟩, hS.F ht⟩) hS.2.2 dX15_octet_27
  · skip
    refine lv_iload_n hx hb dX15_octet_9 rfl (lv_at hl 1 rfl) ?_
    refine lv_aload_n hx hb dX15_octet_10 rfl (lv_at hl 0 rfl) ?_
    refine va_get (D := (dC, dI)) (ci := 15) (v := .int 0) (C := RX15) (T := TX15) (N := 74) hx hb hu iX15 hown hK hP 0 rfl rfl 34 (by decide) (hu _ u249) (fun _ h9 => h9) (by rw [List.getElem?_set_ne (by decide)]; exact hf.2.2.1) dX15_octet_11 ?_
    refine lv_icmp_ge (tgt := 26) hx hb dX15_octet_14 (by decide) (fun _ => ?_) (fun h9 => absurd (Int32.not_lt.mp c1) h9)
    refine lv_iconst (v := (-1)) hx hb dX15_octet_26 (by decide) ?_
    exact W.iret (v := (-1)) hx hb hr (fun t ht hW => ⟨⟨(-1), (), rfl, rfl, by show va_P _ _ _ t.heap; rw [ht]; exact hP⟩, hS.F ht⟩) hS.2.2 dX15_octet_27
def wk_X15_counted : List Cond := .code yX15_counted cX15_counted 2 (some .int) :: wU
set_option maxHeartbeats 4000000 in
set_option maxRecDepth 100000 in
theorem m_X15_counted (l : Launch) (dC : Nat → ClassId) (dI : Nat → Nat → Nat) (h0 sz : Nat) (fs : List Value) (c0 : Int32) (hf : mF fs) : Met l yX15_counted wk_X15_counted ({ frames := 2, cells := 0, slots := 0, locals := 60 } : Room) (mP dC dI [(h0, .inr (15, fs))] [] sz [.ref h0, .int c0]) (va_Qi (S := Unit) (fun r _ => r = cnt c0) (fun _ t => va_P (dC, dI) clx [(h0, .inr (15, (fs.set 0 (.int 0))))] t.heap) (va_A [(h0, .inr (15, fs))] sz)) 0 0 (va_A [(h0, .inr (15, fs))] sz) := by
  refine Met.ofW (cc := cX15_counted) (maxL := 2) (ret := (some .int)) (by decide) rfl ?_
  intro p e s m args below meth c s₁ B hml hv
  obtain ⟨rfl, hsz, hP, hK, hD0⟩ := hv
  have hx := B.exec
  have hb := B.bytes
  have hr := B.returns
  have hts := atoms_spec (ws := wk_X15_counted) B.pre
  have hu : ∀ w ∈ wU, w.before ([.ref h0, .int c0] : List Value).toArray s = true := fun w h => hts w (List.mem_cons_of_mem _ h)
  have hown : s.vm.findClass RX15 = some m.cls := findClass_of_methodNamed B.named
  have hlocks := B.notSynchronized
  subst hsz
  have hD := va_D1 (sz := s.heap.size) h0 (.inr (15, fs))
  generalize hAe : va_A [(h0, .inr (15, fs))] s.heap.size = A at hD ⊢
  have hA : ∀ q : Nat, s.heap.size ≤ q → A q := fun q h => by rw [← hAe]; exact Or.inr h
  have hS : va_S A s.heap s.heap [] := va_S.rf
  have hl := lv_entry ([.ref h0, .int c0]) (n := 2) (Nat.le_of_ble_eq_true rfl)
  rw [lg_entry_eq]
  generalize (lg_sl ([.ref h0, .int c0]) ++ List.replicate (2 - (lg_sl ([.ref h0, .int c0])).length) Slot.unset).toArray = ls at hl ⊢
  have hl : lv_has ls 2 [(0, .ref h0), (1, .int c0)] := hl
  refine lv_aload_n hx hb dX15_counted_0 rfl (lv_at hl 0 rfl) ?_
  refine lv_iconst (v := 0) hx hb dX15_counted_1 (by decide) ?_
  refine va_put (D := (dC, dI)) (ci := 15) (v := .int 0) (ty := .int) (C := RX15) (T := TX15) (N := 74) hx hb hu iX15 tyX15 tyX15_ok nmX15 hown hK hP hD hS 0 rfl rfl 0 (by decide) (hu _ u230) (fun _ h9 => h9) rfl (by decide +kernel) rfl rfl (by rw [hf.2.2.2.2.2]; decide) dX15_counted_2 (fun H locs hP hD hS => ?_)
  have hP : va_P (dC, dI) clx [(h0, .inr (15, (fs.set 0 (.int 0))))] H := hP
  have hD : va_D A [(h0, .inr (15, (fs.set 0 (.int 0))))] := hD
  refine lv_iload_n hx hb dX15_counted_5 rfl (lv_at hl 1 rfl) ?_
  refine lv_if_ne (tgt := 16) hx hb dX15_counted_6 (by decide) (fun c1 => ?_) (fun c1 => ?_)
  · skip
    refine lv_iload_n hx hb dX15_counted_16 rfl (lv_at hl 1 rfl) ?_
    refine lv_iconst (v := 1) hx hb dX15_counted_17 (by decide) ?_
    refine lv_icmp_ne (tgt := 28) hx hb dX15_counted_18 (by decide) (fun c2 => ?_) (fun c2 => ?_)
    · skip
      refine lv_iload_n hx hb dX15_counted_28 rfl (lv_at hl 1 rfl) ?_
      refine lv_iconst (v := 2) hx hb dX15_counted_29 (by decide) ?_
      refine lv_icmp_ne (tgt := 40) hx hb dX15_counted_30 (by decide) (fun c3 => ?_) (fun c3 => ?_)
      · skip
        refine lv_iconst (v := (-1)) hx hb dX15_counted_40 (by decide) ?_
        exact W.iret (v := (-1)) hx hb hr (fun t ht hW => ⟨⟨(-1), (), rfl, by unfold cnt; rw [if_neg (fun h => by rcases h with h | h | h; exact c1 h; exact c2 h; exact c3 h)], by show va_P _ _ _ t.heap; rw [ht]; exact hP⟩, hS.F ht⟩) hS.2.2 dX15_counted_41
      · skip
        refine lv_aload_n hx hb dX15_counted_33 rfl (lv_at hl 0 rfl) ?_
        refine va_get (D := (dC, dI)) (ci := 15) (v := .int 0) (C := RX15) (T := TX15) (N := 74) hx hb hu iX15 hown hK hP 0 rfl rfl 34 (by decide) (hu _ u249) (fun _ h9 => h9) (by rw [List.getElem?_set_ne (by decide)]; exact hf.2.2.1) dX15_counted_34 ?_
        refine lv_goto (tgt := 41) hx hb dX15_counted_37 (by decide) ?_
        exact W.iret (v := 0) hx hb hr (fun t ht hW => ⟨⟨0, (), rfl, by unfold cnt; rw [if_pos (by first | exact Or.inl c3 | exact Or.inr (Or.inl c3) | exact Or.inr (Or.inr c3))], by show va_P _ _ _ t.heap; rw [ht]; exact hP⟩, hS.F ht⟩) hS.2.2 dX15_counted_41
    · skip
      refine lv_aload_n hx hb dX15_counted_21 rfl (lv_at hl 0 rfl) ?_
      refine va_get (D := (dC, dI)) (ci := 15) (v := .int 0) (C := RX15) (T := TX15) (N := 74) hx hb hu iX15 hown hK hP 0 rfl rfl 22 (by decide) (hu _ u232) (fun _ h9 => h9) (by rw [List.getElem?_set_ne (by decide)]; exact hf.2.1) dX15_counted_22 ?_
      refine lv_goto (tgt := 41) hx hb dX15_counted_25 (by decide) ?_
      exact W.iret (v := 0) hx hb hr (fun t ht hW => ⟨⟨0, (), rfl, by unfold cnt; rw [if_pos (by first | exact Or.inl c2 | exact Or.inr (Or.inl c2) | exact Or.inr (Or.inr c2))], by show va_P _ _ _ t.heap; rw [ht]; exact hP⟩, hS.F ht⟩) hS.2.2 dX15_counted_41
  · skip
    refine lv_aload_n hx hb dX15_counted_9 rfl (lv_at hl 0 rfl) ?_
    refine va_get (D := (dC, dI)) (ci := 15) (v := .int 0) (C := RX15) (T := TX15) (N := 74) hx hb hu iX15 hown hK hP 0 rfl rfl 12 (by decide) (hu _ u231) (fun _ h9 => h9) (by rw [List.getElem?_set_ne (by decide)]; exact hf.1) dX15_counted_10 ?_
    refine lv_goto (tgt := 41) hx hb dX15_counted_13 (by decide) ?_
    exact W.iret (v := 0) hx hb hr (fun t ht hW => ⟨⟨0, (), rfl, by unfold cnt; rw [if_pos (by first | exact Or.inl c1 | exact Or.inr (Or.inl c1) | exact Or.inr (Or.inr c1))], by show va_P _ _ _ t.heap; rw [ht]; exact hP⟩, hS.F ht⟩) hS.2.2 dX15_counted_41
end
section
abbrev cX11_curveAt : ByteArray := prog_1_method_30_code
def yX11_curveAt : MethodName := ⟨RX11, "curveAt", "(I)LCubicBench$Curve;"⟩
abbrev cX11_spotAt : ByteArray := prog_1_method_34_code
def yX11_spotAt : MethodName := ⟨RX11, "spotAt", "(I)LCubicBench$Spot;"⟩
abbrev cX11_found : ByteArray := prog_1_method_17_code
def yX11_found : MethodName := ⟨RX11, "found", "(II)J"⟩
abbrev cX11_wholeCurve : ByteArray := prog_1_method_31_code
def yX11_wholeCurve : MethodName := ⟨RX11, "wholeCurve", "(I)LCubicBench$Curve;"⟩
abbrev cX11_restCurve : ByteArray := prog_1_method_32_code
def yX11_restCurve : MethodName := ⟨RX11, "restCurve", "(I)LCubicBench$Curve;"⟩
abbrev cX11_listedCurve : ByteArray := prog_1_method_33_code
def yX11_listedCurve : MethodName := ⟨RX11, "listedCurve", "(I)LCubicBench$Curve;"⟩
abbrev cX11_rest : ByteArray := prog_1_method_3_code
def yX11_rest : MethodName := ⟨RX11, "rest", "(II)I"⟩
abbrev cX11_turned : ByteArray := prog_1_method_4_code
def yX11_turned : MethodName := ⟨RX11, "turned", "(I)I"⟩
abbrev cX11_about : ByteArray := prog_1_method_5_code
def yX11_about : MethodName := ⟨RX11, "about", "(II)J"⟩
abbrev cX11_far : ByteArray := prog_1_method_6_code
def yX11_far : MethodName := ⟨RX11, "far", "(I)I"⟩
abbrev cX11_point : ByteArray := prog_1_method_7_code
def yX11_point : MethodName := ⟨RX11, "point", "(III)I"⟩
abbrev cX11_add : ByteArray := prog_1_method_8_code
def yX11_add : MethodName := ⟨RX11, "add", "(II)I"⟩
abbrev cX11_mirror : ByteArray := prog_1_method_9_code
def yX11_mirror : MethodName := ⟨RX11, "mirror", "(I)I"⟩
abbrev cX11_times : ByteArray := prog_1_method_10_code
def yX11_times : MethodName := ⟨RX11, "times", "(II)I"⟩
abbrev cX11_order : ByteArray := prog_1_method_11_code
def yX11_order : MethodName := ⟨RX11, "order", "(I)I"⟩
abbrev cX11_told : ByteArray := prog_1_method_12_code
def yX11_told : MethodName := ⟨RX11, "told", "(II)I"⟩
abbrev cX11_print : ByteArray := prog_1_method_13_code
def yX11_print : MethodName := ⟨RX11, "print", "(II)I"⟩
abbrev cX11_back : ByteArray := prog_1_method_14_code
def yX11_back : MethodName := ⟨RX11, "back", "(I)I"⟩
abbrev cX11_backAt : ByteArray := prog_1_method_15_code
def yX11_backAt : MethodName := ⟨RX11, "backAt", "(II)I"⟩
abbrev cX11_search : ByteArray := prog_1_method_16_code
def yX11_search : MethodName := ⟨RX11, "search", "(II)I"⟩
abbrev cX11_count : ByteArray := prog_1_method_18_code
def yX11_count : MethodName := ⟨RX11, "count", "(I)I"⟩
abbrev cX11_over : ByteArray := prog_1_method_19_code
def yX11_over : MethodName := ⟨RX11, "over", "(II)J"⟩
abbrev cX11_list : ByteArray := prog_1_method_20_code
def yX11_list : MethodName := ⟨RX11, "list", "(II)I"⟩
abbrev cX11_group : ByteArray := prog_1_method_21_code
def yX11_group : MethodName := ⟨RX11, "group", "(II)I"⟩
abbrev cX11_pair : ByteArray := prog_1_method_22_code
def yX11_pair : MethodName := ⟨RX11, "pair", "(III)I"⟩
abbrev cX11_polynomial : ByteArray := prog_1_method_23_code
def yX11_polynomial : MethodName := ⟨RX11, "polynomial", "(II)I"⟩
abbrev cX11_led : ByteArray := prog_1_method_26_code
def yX11_led : MethodName := ⟨RX11, "led", "(I)I"⟩
abbrev cX11_through : ByteArray := prog_1_method_27_code
def yX11_through : MethodName := ⟨RX11, "through", "(II)I"⟩
abbrev cL_rest : ByteArray := method_4_code
def yL_rest : MethodName := ⟨RL, "rest", "(LCubicBench;II[J)I"⟩
abbrev cL_turned : ByteArray := method_5_code
def yL_turned : MethodName := ⟨RL, "turned", "(LCubicBench;I[J)I"⟩
abbrev cL_about : ByteArray := method_6_code
def yL_about : MethodName := ⟨RL, "about", "(LCubicBench;II[J)I"⟩
abbrev cL_far : ByteArray := method_7_code
def yL_far : MethodName := ⟨RL, "far", "(LCubicBench;I[J)I"⟩
abbrev cL_point : ByteArray := method_8_code
def yL_point : MethodName := ⟨RL, "point", "(LCubicBench;III[J)I"⟩
abbrev cL_add : ByteArray := method_9_code
def yL_add : MethodName := ⟨RL, "add", "(LCubicBench;II[J)I"⟩
abbrev cL_mirror : ByteArray := method_10_code
def yL_mirror : MethodName := ⟨RL, "mirror", "(LCubicBench;I[J)I"⟩
abbrev cL_times : ByteArray := method_11_code
def yL_times : MethodName := ⟨RL, "times", "(LCubicBench;II[J)I"⟩
abbrev cL_order : ByteArray := method_12_code
def yL_order : MethodName := ⟨RL, "order", "(LCubicBench;I[J)I"⟩
abbrev cL_told : ByteArray := method_13_code
def yL_told : MethodName := ⟨RL, "told", "(LCubicBench;II[J)I"⟩
abbrev cL_print : ByteArray := method_14_code
def yL_print : MethodName := ⟨RL, "print", "(LCubicBench;II[J)I"⟩
abbrev cL_back : ByteArray := method_15_code
def yL_back : MethodName := ⟨RL, "back", "(LCubicBench;I[J)I"⟩
abbrev cL_backAt : ByteArray := method_16_code
def yL_backAt : MethodName := ⟨RL, "backAt", "(LCubicBench;II[J)I"⟩
abbrev cL_search : ByteArray := method_17_code
def yL_search : MethodName := ⟨RL, "search", "(LCubicBench;II[J)I"⟩
abbrev cL_count : ByteArray := method_19_code
def yL_count : MethodName := ⟨RL, "count", "(LCubicBench;I[J)I"⟩
abbrev cL_over : ByteArray := method_20_code
def yL_over : MethodName := ⟨RL, "over", "(LCubicBench;II[J)I"⟩
abbrev cL_list : ByteArray := method_21_code
def yL_list : MethodName := ⟨RL, "list", "(LCubicBench;II[J)I"⟩
abbrev cL_group : ByteArray := method_22_code
def yL_group : MethodName := ⟨RL, "group", "(LCubicBench;II[J)I"⟩
abbrev cL_pair : ByteArray := method_23_code
def yL_pair : MethodName := ⟨RL, "pair", "(LCubicBench;III[J)I"⟩
abbrev cL_polynomial : ByteArray := method_24_code
def yL_polynomial : MethodName := ⟨RL, "polynomial", "(LCubicBench;II[J)I"⟩
abbrev cL_led : ByteArray := method_25_code
def yL_led : MethodName := ⟨RL, "led", "(LCubicBench;I[J)I"⟩
abbrev cL_through : ByteArray := method_26_code
def yL_through : MethodName := ⟨RL, "through", "(LCubicBench;II[J)I"⟩
abbrev cL_found : ByteArray := method_18_code
def yL_found : MethodName := ⟨RL, "found", "(LCubicBench;II[J)I"⟩
theorem u424 : (Cond.classLink RX11 272 "java/lang/IndexOutOfBoundsException") ∈ wU := wU_3 130 rfl rfl
theorem u425 : (Cond.initialized "java/lang/IndexOutOfBoundsException") ∈ wU := wU_1 22 rfl rfl
theorem u426 : (Cond.fieldLink RX11 363 "CubicBench" "curvesHeld" "I") ∈ wU := wU_2 132 rfl rfl
theorem u427 : (Cond.fieldLink RX11 366 "CubicBench" "spotsHeld" "I") ∈ wU := wU_2 134 rfl rfl
theorem u428 : (Cond.fieldLink RX11 271 "CubicBench$Searching" "held" "I") ∈ wU := wU_1 213 rfl rfl
theorem u429 : (Cond.methodLink RX11 141 yX11_curveAt) ∈ wU := wU_3 126 rfl rfl
theorem u430 : (Cond.instanceMethod yX11_curveAt) ∈ wU := wU_3 128 rfl rfl
theorem u431 : (Cond.selects RX11 yX11_curveAt yX11_curveAt) ∈ wU := wU_0 5 rfl rfl
theorem u432 : (Cond.initialized RX11) ∈ wU := wU_1 1 rfl rfl
theorem u433 : (Cond.code yX11_curveAt cX11_curveAt 3 (some (.object "CubicBench$Curve"))) ∈ wU := wU_3 129 rfl rfl
theorem u434 : (Cond.methodLink RX11 131 yX11_restCurve) ∈ wU := wU_3 166 rfl rfl
theorem u435 : (Cond.instanceMethod yX11_restCurve) ∈ wU := wU_3 168 rfl rfl
theorem u436 : (Cond.selects RX11 yX11_restCurve yX11_restCurve) ∈ wU := wU_0 6 rfl rfl
theorem u437 : (Cond.code yX11_restCurve cX11_restCurve 3 (some (.object "CubicBench$Curve"))) ∈ wU := wU_3 169 rfl rfl
theorem u438 : (Cond.methodLink RX11 108 yX11_wholeCurve) ∈ wU := wU_3 122 rfl rfl
theorem u439 : (Cond.instanceMethod yX11_wholeCurve) ∈ wU := wU_3 124 rfl rfl
theorem u440 : (Cond.selects RX11 yX11_wholeCurve yX11_wholeCurve) ∈ wU := wU_0 4 rfl rfl
theorem u441 : (Cond.code yX11_wholeCurve cX11_wholeCurve 3 (some (.object "CubicBench$Curve"))) ∈ wU := wU_3 125 rfl rfl
theorem u442 : (Cond.methodLink RX11 182 yX11_spotAt) ∈ wU := wU_4 60 rfl rfl
theorem u443 : (Cond.instanceMethod yX11_spotAt) ∈ wU := wU_4 62 rfl rfl
theorem u444 : (Cond.selects RX11 yX11_spotAt yX11_spotAt) ∈ wU := wU_0 8 rfl rfl
theorem u445 : (Cond.code yX11_spotAt cX11_spotAt 3 (some (.object "CubicBench$Spot"))) ∈ wU := wU_4 63 rfl rfl
theorem u446 : (Cond.methodLink RX11 291 yX11_listedCurve) ∈ wU := wU_7 32 rfl rfl
theorem u447 : (Cond.instanceMethod yX11_listedCurve) ∈ wU := wU_7 34 rfl rfl
theorem u448 : (Cond.selects RX11 yX11_listedCurve yX11_listedCurve) ∈ wU := wU_0 36 rfl rfl
theorem u449 : (Cond.code yX11_listedCurve cX11_listedCurve 3 (some (.object "CubicBench$Curve"))) ∈ wU := wU_7 35 rfl rfl
theorem u450 : (Cond.methodLink RL 17 yX11_rest) ∈ wU := wU_3 118 rfl rfl
theorem u451 : (Cond.instanceMethod yX11_rest) ∈ wU := wU_3 119 rfl rfl
theorem u452 : (Cond.selects RX11 yX11_rest yX11_rest) ∈ wU := wU_3 120 rfl rfl
theorem u453 : (Cond.code yX11_rest cX11_rest 6 (some .int)) ∈ wU := wU_3 121 rfl rfl
theorem u454 : (Cond.classLink RL 20 "java/lang/IndexOutOfBoundsException") ∈ wU := wU_3 117 rfl rfl
theorem u455 : (Cond.methodLink RL 22 yX11_turned) ∈ wU := wU_3 162 rfl rfl
theorem u456 : (Cond.instanceMethod yX11_turned) ∈ wU := wU_3 163 rfl rfl
theorem u457 : (Cond.selects RX11 yX11_turned yX11_turned) ∈ wU := wU_3 164 rfl rfl
theorem u458 : (Cond.code yX11_turned cX11_turned 13 (some .int)) ∈ wU := wU_3 165 rfl rfl
theorem u459 : (Cond.methodLink RL 26 yX11_about) ∈ wU := wU_3 181 rfl rfl
theorem u460 : (Cond.instanceMethod yX11_about) ∈ wU := wU_3 182 rfl rfl
theorem u461 : (Cond.selects RX11 yX11_about yX11_about) ∈ wU := wU_3 183 rfl rfl
theorem u462 : (Cond.code yX11_about cX11_about 4 (some .long)) ∈ wU := wU_3 184 rfl rfl
theorem u463 : (Cond.methodLink RL 30 yX11_far) ∈ wU := wU_3 201 rfl rfl
theorem u464 : (Cond.instanceMethod yX11_far) ∈ wU := wU_3 202 rfl rfl
theorem u465 : (Cond.selects RX11 yX11_far yX11_far) ∈ wU := wU_3 203 rfl rfl
theorem u466 : (Cond.code yX11_far cX11_far 3 (some .int)) ∈ wU := wU_3 204 rfl rfl
theorem u467 : (Cond.methodLink RL 33 yX11_point) ∈ wU := wU_4 21 rfl rfl
theorem u468 : (Cond.instanceMethod yX11_point) ∈ wU := wU_4 22 rfl rfl
theorem u469 : (Cond.selects RX11 yX11_point yX11_point) ∈ wU := wU_4 23 rfl rfl
theorem u470 : (Cond.code yX11_point cX11_point 7 (some .int)) ∈ wU := wU_4 24 rfl rfl
theorem u471 : (Cond.methodLink RL 37 yX11_add) ∈ wU := wU_4 56 rfl rfl
theorem u472 : (Cond.instanceMethod yX11_add) ∈ wU := wU_4 57 rfl rfl
theorem u473 : (Cond.selects RX11 yX11_add yX11_add) ∈ wU := wU_4 58 rfl rfl
theorem u474 : (Cond.code yX11_add cX11_add 6 (some .int)) ∈ wU := wU_4 59 rfl rfl
theorem u475 : (Cond.methodLink RL 40 yX11_mirror) ∈ wU := wU_6 1 rfl rfl
theorem u476 : (Cond.instanceMethod yX11_mirror) ∈ wU := wU_6 2 rfl rfl
theorem u477 : (Cond.selects RX11 yX11_mirror yX11_mirror) ∈ wU := wU_6 3 rfl rfl
theorem u478 : (Cond.code yX11_mirror cX11_mirror 4 (some .int)) ∈ wU := wU_6 4 rfl rfl
theorem u479 : (Cond.methodLink RL 43 yX11_times) ∈ wU := wU_6 16 rfl rfl
theorem u480 : (Cond.instanceMethod yX11_times) ∈ wU := wU_6 17 rfl rfl
theorem u481 : (Cond.selects RX11 yX11_times yX11_times) ∈ wU := wU_6 18 rfl rfl
theorem u482 : (Cond.code yX11_times cX11_times 7 (some .int)) ∈ wU := wU_6 19 rfl rfl
theorem u483 : (Cond.methodLink RL 46 yX11_order) ∈ wU := wU_6 41 rfl rfl
theorem u484 : (Cond.instanceMethod yX11_order) ∈ wU := wU_6 42 rfl rfl
theorem u485 : (Cond.selects RX11 yX11_order yX11_order) ∈ wU := wU_6 43 rfl rfl
theorem u486 : (Cond.code yX11_order cX11_order 3 (some .int)) ∈ wU := wU_6 44 rfl rfl
theorem u487 : (Cond.methodLink RL 49 yX11_told) ∈ wU := wU_6 100 rfl rfl
theorem u488 : (Cond.instanceMethod yX11_told) ∈ wU := wU_6 101 rfl rfl
theorem u489 : (Cond.selects RX11 yX11_told yX11_told) ∈ wU := wU_6 102 rfl rfl
theorem u490 : (Cond.code yX11_told cX11_told 4 (some .int)) ∈ wU := wU_6 103 rfl rfl
theorem u491 : (Cond.methodLink RL 52 yX11_print) ∈ wU := wU_6 108 rfl rfl
theorem u492 : (Cond.instanceMethod yX11_print) ∈ wU := wU_6 109 rfl rfl
theorem u493 : (Cond.selects RX11 yX11_print yX11_print) ∈ wU := wU_6 110 rfl rfl
theorem u494 : (Cond.code yX11_print cX11_print 4 (some .int)) ∈ wU := wU_6 111 rfl rfl
theorem u495 : (Cond.methodLink RL 55 yX11_back) ∈ wU := wU_6 132 rfl rfl
theorem u496 : (Cond.instanceMethod yX11_back) ∈ wU := wU_6 133 rfl rfl
theorem u497 : (Cond.selects RX11 yX11_back yX11_back) ∈ wU := wU_6 134 rfl rfl
theorem u498 : (Cond.code yX11_back cX11_back 2 (some .int)) ∈ wU := wU_6 135 rfl rfl
theorem u499 : (Cond.methodLink RL 58 yX11_backAt) ∈ wU := wU_6 157 rfl rfl
theorem u500 : (Cond.instanceMethod yX11_backAt) ∈ wU := wU_6 158 rfl rfl
theorem u501 : (Cond.selects RX11 yX11_backAt yX11_backAt) ∈ wU := wU_6 159 rfl rfl
theorem u502 : (Cond.code yX11_backAt cX11_backAt 4 (some .int)) ∈ wU := wU_6 160 rfl rfl
theorem u503 : (Cond.methodLink RL 61 yX11_search) ∈ wU := wU_6 172 rfl rfl
theorem u504 : (Cond.instanceMethod yX11_search) ∈ wU := wU_6 173 rfl rfl
theorem u505 : (Cond.selects RX11 yX11_search yX11_search) ∈ wU := wU_6 174 rfl rfl
theorem u506 : (Cond.code yX11_search cX11_search 4 (some .int)) ∈ wU := wU_6 175 rfl rfl
theorem u507 : (Cond.methodLink RL 67 yX11_count) ∈ wU := wU_6 224 rfl rfl
theorem u508 : (Cond.instanceMethod yX11_count) ∈ wU := wU_6 225 rfl rfl
theorem u509 : (Cond.selects RX11 yX11_count yX11_count) ∈ wU := wU_6 226 rfl rfl
theorem u510 : (Cond.code yX11_count cX11_count 2 (some .int)) ∈ wU := wU_6 227 rfl rfl
theorem u511 : (Cond.methodLink RL 70 yX11_over) ∈ wU := wU_7 19 rfl rfl
theorem u512 : (Cond.instanceMethod yX11_over) ∈ wU := wU_7 20 rfl rfl
theorem u513 : (Cond.selects RX11 yX11_over yX11_over) ∈ wU := wU_7 21 rfl rfl
theorem u514 : (Cond.code yX11_over cX11_over 17 (some .long)) ∈ wU := wU_7 22 rfl rfl
theorem u515 : (Cond.methodLink RL 73 yX11_list) ∈ wU := wU_7 28 rfl rfl
theorem u516 : (Cond.instanceMethod yX11_list) ∈ wU := wU_7 29 rfl rfl
theorem u517 : (Cond.selects RX11 yX11_list yX11_list) ∈ wU := wU_7 30 rfl rfl
theorem u518 : (Cond.code yX11_list cX11_list 4 (some .int)) ∈ wU := wU_7 31 rfl rfl
theorem u519 : (Cond.methodLink RL 76 yX11_group) ∈ wU := wU_7 44 rfl rfl
theorem u520 : (Cond.instanceMethod yX11_group) ∈ wU := wU_7 45 rfl rfl
theorem u521 : (Cond.selects RX11 yX11_group yX11_group) ∈ wU := wU_7 46 rfl rfl
theorem u522 : (Cond.code yX11_group cX11_group 4 (some .int)) ∈ wU := wU_7 47 rfl rfl
theorem u523 : (Cond.methodLink RL 79 yX11_pair) ∈ wU := wU_7 82 rfl rfl
theorem u524 : (Cond.instanceMethod yX11_pair) ∈ wU := wU_7 83 rfl rfl
theorem u525 : (Cond.selects RX11 yX11_pair yX11_pair) ∈ wU := wU_7 84 rfl rfl
theorem u526 : (Cond.code yX11_pair cX11_pair 7 (some .int)) ∈ wU := wU_7 85 rfl rfl
theorem u527 : (Cond.methodLink RL 82 yX11_polynomial) ∈ wU := wU_7 133 rfl rfl
theorem u528 : (Cond.instanceMethod yX11_polynomial) ∈ wU := wU_7 134 rfl rfl
theorem u529 : (Cond.selects RX11 yX11_polynomial yX11_polynomial) ∈ wU := wU_7 135 rfl rfl
theorem u530 : (Cond.code yX11_polynomial cX11_polynomial 4 (some .int)) ∈ wU := wU_7 136 rfl rfl
theorem u531 : (Cond.methodLink RL 85 yX11_led) ∈ wU := wU_7 186 rfl rfl
theorem u532 : (Cond.instanceMethod yX11_led) ∈ wU := wU_7 187 rfl rfl
theorem u533 : (Cond.selects RX11 yX11_led yX11_led) ∈ wU := wU_7 188 rfl rfl
theorem u534 : (Cond.code yX11_led cX11_led 5 (some .int)) ∈ wU := wU_7 189 rfl rfl
theorem u535 : (Cond.methodLink RL 88 yX11_through) ∈ wU := wU_7 213 rfl rfl
theorem u536 : (Cond.instanceMethod yX11_through) ∈ wU := wU_7 214 rfl rfl
theorem u537 : (Cond.selects RX11 yX11_through yX11_through) ∈ wU := wU_7 215 rfl rfl
theorem u538 : (Cond.code yX11_through cX11_through 9 (some .int)) ∈ wU := wU_7 216 rfl rfl
theorem u539 : (Cond.methodLink RL 64 yX11_found) ∈ wU := wU_6 211 rfl rfl
theorem u540 : (Cond.instanceMethod yX11_found) ∈ wU := wU_6 212 rfl rfl
theorem u541 : (Cond.selects RX11 yX11_found yX11_found) ∈ wU := wU_6 213 rfl rfl
theorem u542 : (Cond.code yX11_found cX11_found 3 (some .long)) ∈ wU := wU_6 214 rfl rfl
theorem u543 : (Cond.initialized "java/lang/Throwable") ∈ wU := wU_1 16 rfl rfl
theorem u544 : (Cond.superclass "java/lang/Throwable" "java/lang/Object") ∈ wU := wU_2 239 rfl rfl
theorem u545 : (Cond.instanceMethod ⟨"java/lang/Throwable", "fillInStackTrace", "()Ljava/lang/Throwable;"⟩) ∈ wU := wU_3 8 rfl rfl
theorem u546 : (Cond.codeSync ⟨"java/lang/Throwable", "fillInStackTrace", "()Ljava/lang/Throwable;"⟩ prog_34_method_18_code 1 (Option.some (Jvm.ClassFile.FieldType.object "java/lang/Throwable"))) ∈ wU := wU_3 13 rfl rfl
theorem u547 : (Cond.instanceMethod ⟨"java/lang/Throwable", "fillInStackTrace", "(I)Ljava/lang/Throwable;"⟩) ∈ wU := wU_3 16 rfl rfl
theorem u548 : (Cond.native ⟨"java/lang/Throwable", "fillInStackTrace", "(I)Ljava/lang/Throwable;"⟩) ∈ wU := wU_3 18 rfl rfl
theorem u549 : (Cond.instanceMethod ⟨"java/lang/Throwable", "<init>", "()V"⟩) ∈ wU := wU_3 0 rfl rfl
theorem u550 : (Cond.code ⟨"java/lang/Throwable", "<init>", "()V"⟩ prog_34_method_1_code 1 none) ∈ wU := wU_3 1 rfl rfl
theorem u551 : (Cond.methodLink "java/lang/Throwable" 1 objectInit) ∈ wU := wU_3 2 rfl rfl
theorem u552 : (Cond.methodLink "java/lang/Throwable" 27 ⟨"java/lang/Throwable", "fillInStackTrace", "()Ljava/lang/Throwable;"⟩) ∈ wU := wU_3 7 rfl rfl
theorem u553 : (Cond.methodLink "java/lang/Throwable" 202 ⟨"java/lang/Throwable", "fillInStackTrace", "(I)Ljava/lang/Throwable;"⟩) ∈ wU := wU_3 14 rfl rfl
theorem u554 : (Cond.fieldLink "java/lang/Throwable" 7 "java/lang/Throwable" "cause" "Ljava/lang/Throwable;") ∈ wU := wU_3 34 rfl rfl
theorem u555 : (Cond.lays "java/lang/Throwable" "java/lang/Throwable" "cause" "Ljava/lang/Throwable;") ∈ wU := wU_2 229 rfl rfl
theorem u556 : (Cond.fieldLink "java/lang/Throwable" 17 "java/lang/Throwable" "stackTrace" "[Ljava/lang/StackTraceElement;") ∈ wU := wU_3 35 rfl rfl
theorem u557 : (Cond.lays "java/lang/Throwable" "java/lang/Throwable" "stackTrace" "[Ljava/lang/StackTraceElement;") ∈ wU := wU_2 231 rfl rfl
theorem u558 : (Cond.fieldLink "java/lang/Throwable" 24 "java/lang/Throwable" "suppressedExceptions" "Ljava/util/List;") ∈ wU := wU_3 36 rfl rfl
theorem u559 : (Cond.lays "java/lang/Throwable" "java/lang/Throwable" "suppressedExceptions" "Ljava/util/List;") ∈ wU := wU_2 233 rfl rfl
theorem u560 : (Cond.fieldLink "java/lang/Throwable" 13 "java/lang/Throwable" "UNASSIGNED_STACK" "[Ljava/lang/StackTraceElement;") ∈ wU := wU_3 3 rfl rfl
theorem u561 : (Cond.fieldLink "java/lang/Throwable" 20 "java/lang/Throwable" "SUPPRESSED_SENTINEL" "Ljava/util/List;") ∈ wU := wU_3 5 rfl rfl
theorem u562 : (Cond.lays "java/lang/Throwable" "java/lang/Throwable" "detailMessage" "Ljava/lang/String;") ∈ wU := wU_2 235 rfl rfl
theorem u563 : (Cond.instanceMethod ⟨"java/lang/Throwable", "<init>", "(Ljava/lang/String;)V"⟩) ∈ wU := wU_3 30 rfl rfl
theorem u564 : (Cond.code ⟨"java/lang/Throwable", "<init>", "(Ljava/lang/String;)V"⟩ prog_34_method_2_code 2 none) ∈ wU := wU_3 31 rfl rfl
theorem u565 : (Cond.fieldLink "java/lang/Throwable" 31 "java/lang/Throwable" "detailMessage" "Ljava/lang/String;") ∈ wU := wU_3 33 rfl rfl
theorem u566 : (Cond.instanceMethod ⟨"java/lang/IndexOutOfBoundsException", "<init>", "(Ljava/lang/String;)V"⟩) ∈ wU := wU_3 141 rfl rfl
theorem u567 : (Cond.code ⟨"java/lang/IndexOutOfBoundsException", "<init>", "(Ljava/lang/String;)V"⟩ prog_24_method_2_code 2 none) ∈ wU := wU_3 142 rfl rfl
theorem u568 : (Cond.methodLink "java/lang/IndexOutOfBoundsException" 7 ⟨"java/lang/RuntimeException", "<init>", "(Ljava/lang/String;)V"⟩) ∈ wU := wU_3 143 rfl rfl
theorem u569 : (Cond.instanceMethod ⟨"java/lang/RuntimeException", "<init>", "(Ljava/lang/String;)V"⟩) ∈ wU := wU_3 24 rfl rfl
theorem u570 : (Cond.code ⟨"java/lang/RuntimeException", "<init>", "(Ljava/lang/String;)V"⟩ prog_28_method_2_code 2 none) ∈ wU := wU_3 25 rfl rfl
theorem u571 : (Cond.methodLink "java/lang/RuntimeException" 7 ⟨"java/lang/Exception", "<init>", "(Ljava/lang/String;)V"⟩) ∈ wU := wU_3 26 rfl rfl
theorem u572 : (Cond.instanceMethod ⟨"java/lang/Exception", "<init>", "(Ljava/lang/String;)V"⟩) ∈ wU := wU_3 27 rfl rfl
theorem u573 : (Cond.code ⟨"java/lang/Exception", "<init>", "(Ljava/lang/String;)V"⟩ prog_21_method_2_code 2 none) ∈ wU := wU_3 28 rfl rfl
theorem u574 : (Cond.methodLink "java/lang/Exception" 7 ⟨"java/lang/Throwable", "<init>", "(Ljava/lang/String;)V"⟩) ∈ wU := wU_3 29 rfl rfl
theorem u575 : (Cond.methodLink RX11 276 ⟨"java/lang/IndexOutOfBoundsException", "<init>", "(Ljava/lang/String;)V"⟩) ∈ wU := wU_3 140 rfl rfl
theorem u576 : (Cond.instantiable "java/lang/IndexOutOfBoundsException" 6) ∈ wU := wU_3 131 rfl rfl
theorem u577 : (Cond.selects "java/lang/IndexOutOfBoundsException" ⟨"java/lang/Throwable", "fillInStackTrace", "(I)Ljava/lang/Throwable;"⟩ ⟨"java/lang/Throwable", "fillInStackTrace", "(I)Ljava/lang/Throwable;"⟩) ∈ wU := wU_3 133 rfl rfl
theorem u578 : (Cond.selects "java/lang/IndexOutOfBoundsException" ⟨"java/lang/Throwable", "fillInStackTrace", "()Ljava/lang/Throwable;"⟩ ⟨"java/lang/Throwable", "fillInStackTrace", "()Ljava/lang/Throwable;"⟩) ∈ wU := wU_3 12 rfl rfl
theorem u579 : (Cond.lays "java/lang/IndexOutOfBoundsException" "java/lang/Throwable" "cause" "Ljava/lang/Throwable;") ∈ wU := wU_3 134 rfl rfl
theorem u580 : (Cond.lays "java/lang/IndexOutOfBoundsException" "java/lang/Throwable" "stackTrace" "[Ljava/lang/StackTraceElement;") ∈ wU := wU_3 135 rfl rfl
theorem u581 : (Cond.lays "java/lang/IndexOutOfBoundsException" "java/lang/Throwable" "suppressedExceptions" "Ljava/util/List;") ∈ wU := wU_3 136 rfl rfl
theorem u582 : (Cond.lays "java/lang/IndexOutOfBoundsException" "java/lang/Throwable" "detailMessage" "Ljava/lang/String;") ∈ wU := wU_3 137 rfl rfl
theorem u583 : (Cond.fieldLink "java/lang/Throwable" 198 "java/lang/Throwable" "backtrace" "Ljava/lang/Object;") ∈ wU := wU_2 238 rfl rfl
theorem u584 : (Cond.lays "java/lang/Throwable" "java/lang/Throwable" "backtrace" "Ljava/lang/Object;") ∈ wU := wU_2 237 rfl rfl
theorem u585 : (Cond.lays "java/lang/IndexOutOfBoundsException" "java/lang/Throwable" "backtrace" "Ljava/lang/Object;") ∈ wU := wU_3 138 rfl rfl
end
section
/-- the constructors up the line of an exception's classes -/
def dv (U : State) : Prop := va_Nw (.declares ⟨"java/lang/RuntimeException", "<init>", "(Ljava/lang/String;)V"⟩) U ∧ va_Nw (.declares ⟨"java/lang/Exception", "<init>", "(Ljava/lang/String;)V"⟩) U ∧ va_Nw (.declares ⟨"java/lang/Throwable", "<init>", "(Ljava/lang/String;)V"⟩) U
theorem dv.warm {s U : State} (hW : s.WarmedH U.vm) (h : dv s) : dv U := ⟨va_Nw.warmD hW h.1, va_Nw.warmD hW h.2.1, va_Nw.warmD hW h.2.2⟩
/-- a method on the bench's object x that reads, or throws -/
def tQ (dC : Nat → ClassId) (dI : Nat → Nat → Nat) (ws : va_W) (sz : Nat) (av : List Value) : Array Value → State → Prop := va_Pc av (fun U => U.heap.size = sz ∧ va_P (dC, dI) clx ws U.heap ∧ va_K (dC, dI) clx [] U ∧ ev U ∧ dv U ∧ zz sz U U.heap)
theorem tQ_blind {dC : Nat → ClassId} {dI : Nat → Nat → Nat} {ws : va_W} {sz : Nat} {av : List Value} : FrameBlind (tQ dC dI ws sz av) := fun a U g mk q => by
  obtain ⟨q0, q1, qP, qK, qE, qV, qZ⟩ := q
  exact ⟨q0, q1, qP, va_K.moved (u := U) (U := U.calling g mk a) (Vm.Alike.refl U.vm) qK, qE.calling g mk a, dv.warm (U := U.calling g mk a) (State.WarmedH.refl U) qV, zz.moved (u := U) (U := U.calling g mk a) (Vm.Alike.refl U.vm) qZ⟩
theorem tQ_at {dC : Nat → ClassId} {dI : Nat → Nat → Nat} {ws : va_W} {H : Heap} {av : List Value} {s : State} (hP : va_P (dC, dI) clx ws H) (hK : va_K (dC, dI) clx [] s) (hE : ev s) (hV : dv s) (hZ : zz H.size s H) : ∀ U : State, U.heap = H → s.WarmedH U.vm → tQ dC dI ws H.size av av.toArray U :=
  fun U hU hW => ⟨rfl, by rw [hU], by rw [hU]; exact hP, va_K.moved hW.alike hK, hE.warm hW, hV.warm hW, by rw [hU]; exact hZ.moved hW.alike⟩
def xF (fs : List Value) : Prop := fs[1]? = some (.int 0) ∧ fs[3]? = some (.int 0) ∧ fs[5]? = some (.int 0) ∧ fs.length = 16 ∧ ∃ qt, fs[9]? = some (.ref qt)
theorem px_ofWH {l : Launch} {y : MethodName} {ws ws' : List Cond} {rm : Room} {Pc : Array Value → State → Prop} {Qc : Array Value → State → Outcome → State → Prop} {mc ms : Nat} {free : Addr → Prop} {cc : ByteArray} {maxL : Nat} {ret : Option FieldType} {hh : List (Nat × Nat × Nat × Nat)}
    (hy : plainName y.cls = true) (hw : ws = Cond.codeWith y cc maxL ret hh :: ws')
    (body : ∀ p e s m args below meth c s₁, BodyLoose p l y (headSpec ws rm) cc maxL ret e s m args below meth c s₁ → c.maxLocals = maxL → Pc args s →
      W p l e (headSpec ws rm).room s m args below meth c s.heap [] 0 0 (MQ below Qc args s mc ms free) (entryFrame m args maxL)) : Met l y ws rm Pc Qc mc ms free := by
  refine MetFree.of_bodyS (code := cc) (maxLocals := maxL) (ret := ret) hy ?_ ?_
  · intro args s m h hn
    obtain ⟨m9, meth, c, hn9, h1, h2, h3, h4, -, h5, h6, -⟩ := Cond.codeWith_spec (atoms_spec (ws := ws) h _ (by rw [hw]; exact List.mem_cons_self))
    cases hn.symm.trans hn9
    exact ⟨meth, c, h1, h2, h3, h4, h5, h6⟩
  · intro p e s m args below meth c s₁ B hml hP _
    have hh0 : s₁.heap = s.heap := by rw [B.state]; rfl
    obtain ⟨t, a1, o, b1, b2, b3⟩ := body p e s m args below meth c s₁ B hml hP s₁ hh0 (Stand.of_body B)
    exact ⟨t, o, a1, b1, b2, ⟨b3.1, b3.2⟩⟩
set_option maxRecDepth 100000 in
theorem at_IOO {args : Array Value} {s : State} (hu : ∀ w ∈ wU, w.before args s = true) (hev : ev s) (hdv : dv s) : ∀ w ∈ vx_atS RX11 276 "java/lang/IndexOutOfBoundsException" ["java/lang/RuntimeException", "java/lang/Exception"], w.before args s = true := by
  have key : ∀ w ∈ Bundle.ownAtoms RX11 276 "java/lang/IndexOutOfBoundsException" ["java/lang/RuntimeException", "java/lang/Exception"], vx_no w = true → w.before args s = true := by
    simp only [Bundle.ownAtoms, Bundle.throwableAtoms, Bundle.throwableSAtoms, Bundle.chainSAtoms, Bundle.passSAtoms, List.cons_append, List.nil_append, List.append_assoc, List.forall_mem_cons]
    exact ⟨fun _ => hu _ u543, fun _ => hu _ u544, fun _ => hu _ u545, fun _ => hu _ u546, fun _ => hu _ u547, fun _ => hu _ u548, fun _ => hu _ u549, fun _ => hu _ u550, fun _ => hu _ u1, fun _ => hu _ u2, fun _ => hu _ u551, fun _ => hu _ u552, fun _ => hu _ u553, fun _ => hu _ u554, fun _ => hu _ u555, fun _ => hu _ u556, fun _ => hu _ u557, fun _ => hu _ u558, fun _ => hu _ u559, fun _ => hu _ u560, fun h9 => absurd h9 (by decide +kernel), fun _ => hu _ u561, fun h9 => absurd h9 (by decide +kernel), fun _ => hu _ u562, fun _ => hu _ u563, fun _ => hu _ u564, fun _ => hu _ u565, fun _ => hu _ u562, fun _ => hu _ u566, fun _ => hu _ u567, fun _ => hu _ u568, fun _ => hu _ u569, fun _ => va_Nw.use rfl hdv.1, fun _ => hu _ u569, fun _ => hu _ u570, fun _ => hu _ u571, fun _ => hu _ u572, fun _ => va_Nw.use rfl hdv.2.1, fun _ => hu _ u572, fun _ => hu _ u573, fun _ => hu _ u574, fun _ => hu _ u563, fun _ => va_Nw.use rfl hdv.2.2, fun _ => hu _ u575, fun _ => hu _ u576, fun _ => va_Nw.use rfl hev.2.2.2.1.1, fun _ => hu _ u577, fun _ => hu _ u578, fun _ => hu _ u579, fun _ => hu _ u580, fun _ => hu _ u581, fun _ => hu _ u582, fun h9 => absurd h9 (by decide +kernel), fun h9 => absurd h9 (by decide +kernel), fun _ => hu _ u583, fun _ => hu _ u584, fun _ => hu _ u585, fun _ h => absurd h List.not_mem_nil⟩
  exact fun w hw => key w (List.mem_filter.mp hw).1 (List.mem_filter.mp hw).2
set_option maxRecDepth 100000 in
theorem ot_IOO (ik : Nat) : ∀ w ∈ Cond.classLink RX11 ik "java/lang/IndexOutOfBoundsException" :: Cond.initialized "java/lang/IndexOutOfBoundsException" :: vx_atS RX11 276 "java/lang/IndexOutOfBoundsException" ["java/lang/RuntimeException", "java/lang/Exception"], vx_ot w = true := by
  have key : ∀ w ∈ Bundle.ownAtoms RX11 276 "java/lang/IndexOutOfBoundsException" ["java/lang/RuntimeException", "java/lang/Exception"], vx_no w = true → vx_ot w = true := by
    simp only [Bundle.ownAtoms, Bundle.throwableAtoms, Bundle.throwableSAtoms, Bundle.chainSAtoms, Bundle.passSAtoms, List.cons_append, List.nil_append, List.append_assoc, List.forall_mem_cons]
    exact ⟨fun _ => rfl, fun _ => rfl, fun _ => rfl, fun _ => rfl, fun _ => rfl, fun _ => rfl, fun _ => rfl, fun _ => rfl, fun _ => rfl, fun _ => rfl, fun _ => rfl, fun _ => rfl, fun _ => rfl, fun _ => rfl, fun _ => rfl, fun _ => rfl, fun _ => rfl, fun _ => rfl, fun _ => rfl, fun _ => rfl, fun h9 => absurd h9 (by decide +kernel), fun _ => rfl, fun h9 => absurd h9 (by decide +kernel), fun _ => rfl, fun _ => rfl, fun _ => rfl, fun _ => rfl, fun _ => rfl, fun _ => rfl, fun _ => rfl, fun _ => rfl, fun _ => rfl, fun _ => rfl, fun _ => rfl, fun _ => rfl, fun _ => rfl, fun _ => rfl, fun _ => rfl, fun _ => rfl, fun _ => rfl, fun _ => rfl, fun _ => rfl, fun _ => rfl, fun _ => rfl, fun _ => rfl, fun _ => rfl, fun _ => rfl, fun _ => rfl, fun _ => rfl, fun _ => rfl, fun _ => rfl, fun _ => rfl, fun h9 => absurd h9 (by decide +kernel), fun h9 => absurd h9 (by decide +kernel), fun _ => rfl, fun _ => rfl, fun _ => rfl, fun _ h => absurd h List.not_mem_nil⟩
  exact List.forall_mem_cons.mpr ⟨rfl, List.forall_mem_cons.mpr ⟨rfl, fun w hw => key w (List.mem_filter.mp hw).1 (List.mem_filter.mp hw).2⟩⟩
theorem dX11_about_0 : decode cX11_about 0 = .ok (.aload_n 0, 1) := by decide +kernel
theorem dX11_about_1 : decode cX11_about 1 = .ok (.iload_n 1, 1) := by decide +kernel
theorem dX11_about_2 : decode cX11_about 2 = .ok (.invokevirtual 141, 3) := by decide +kernel
theorem dX11_add_0 : decode cX11_add 0 = .ok (.aload_n 0, 1) := by decide +kernel
theorem dX11_add_1 : decode cX11_add 1 = .ok (.iload_n 1, 1) := by decide +kernel
theorem dX11_add_2 : decode cX11_add 2 = .ok (.invokevirtual 182, 3) := by decide +kernel
theorem dX11_back_0 : decode cX11_back 0 = .ok (.aload_n 0, 1) := by decide +kernel
theorem dX11_back_1 : decode cX11_back 1 = .ok (.getfield 51, 3) := by decide +kernel
theorem dX11_back_4 : decode cX11_back 4 = .ok (.aload_n 0, 1) := by decide +kernel
theorem dX11_back_5 : decode cX11_back 5 = .ok (.iload_n 1, 1) := by decide +kernel
theorem dX11_back_6 : decode cX11_back 6 = .ok (.invokevirtual 108, 3) := by decide +kernel
theorem dX11_backAt_0 : decode cX11_backAt 0 = .ok (.aload_n 0, 1) := by decide +kernel
theorem dX11_backAt_1 : decode cX11_backAt 1 = .ok (.iload_n 1, 1) := by decide +kernel
theorem dX11_backAt_2 : decode cX11_backAt 2 = .ok (.invokevirtual 108, 3) := by decide +kernel
theorem dX11_count_0 : decode cX11_count 0 = .ok (.aload_n 0, 1) := by decide +kernel
theorem dX11_count_1 : decode cX11_count 1 = .ok (.aload_n 0, 1) := by decide +kernel
theorem dX11_count_2 : decode cX11_count 2 = .ok (.iload_n 1, 1) := by decide +kernel
theorem dX11_count_3 : decode cX11_count 3 = .ok (.invokevirtual 131, 3) := by decide +kernel
theorem dX11_curveAt_0 : decode cX11_curveAt 0 = .ok (.iload_n 1, 1) := by decide +kernel
theorem dX11_curveAt_1 : decode cX11_curveAt 1 = .ok (.ifCond .lt 20, 3) := by decide +kernel
theorem dX11_curveAt_4 : decode cX11_curveAt 4 = .ok (.iload_n 1, 1) := by decide +kernel
theorem dX11_curveAt_5 : decode cX11_curveAt 5 = .ok (.aload_n 0, 1) := by decide +kernel
theorem dX11_curveAt_6 : decode cX11_curveAt 6 = .ok (.getfield 363, 3) := by decide +kernel
theorem dX11_curveAt_9 : decode cX11_curveAt 9 = .ok (.if_icmp .ge 12, 3) := by decide +kernel
theorem dX11_curveAt_21 : decode cX11_curveAt 21 = .ok (.aconst_null, 1) := by decide +kernel
theorem dX11_curveAt_22 : decode cX11_curveAt 22 = .ok (.goto 9, 3) := by decide +kernel
theorem dX11_curveAt_31 : decode cX11_curveAt 31 = .ok (.astore_n 2, 1) := by decide +kernel
theorem dX11_curveAt_32 : decode cX11_curveAt 32 = .ok (.aload_n 2, 1) := by decide +kernel
theorem dX11_curveAt_33 : decode cX11_curveAt 33 = .ok (.ifnonnull 14, 3) := by decide +kernel
theorem dX11_curveAt_36 : decode cX11_curveAt 36 = .ok (.new 272, 3) := by decide +kernel
theorem dX11_curveAt_39 : decode cX11_curveAt 39 = .ok (.dup, 1) := by decide +kernel
theorem dX11_curveAt_40 : decode cX11_curveAt 40 = .ok (.ldc_w 369, 3) := by decide +kernel
theorem dX11_curveAt_43 : decode cX11_curveAt 43 = .ok (.invokespecial 276, 3) := by decide +kernel
theorem dX11_curveAt_46 : decode cX11_curveAt 46 = .ok (.athrow, 1) := by decide +kernel
theorem dX11_far_0 : decode cX11_far 0 = .ok (.aload_n 0, 1) := by decide +kernel
theorem dX11_far_1 : decode cX11_far 1 = .ok (.iload_n 1, 1) := by decide +kernel
theorem dX11_far_2 : decode cX11_far 2 = .ok (.invokevirtual 141, 3) := by decide +kernel
theorem dX11_found_0 : decode cX11_found 0 = .ok (.iload_n 1, 1) := by decide +kernel
theorem dX11_found_1 : decode cX11_found 1 = .ok (.ifCond .lt 14, 3) := by decide +kernel
theorem dX11_found_4 : decode cX11_found 4 = .ok (.iload_n 1, 1) := by decide +kernel
theorem dX11_found_5 : decode cX11_found 5 = .ok (.aload_n 0, 1) := by decide +kernel
theorem dX11_found_6 : decode cX11_found 6 = .ok (.getfield 58, 3) := by decide +kernel
theorem dX11_found_9 : decode cX11_found 9 = .ok (.getfield 271, 3) := by decide +kernel
theorem dX11_found_12 : decode cX11_found 12 = .ok (.if_icmp .lt 14, 3) := by decide +kernel
theorem dX11_found_15 : decode cX11_found 15 = .ok (.new 272, 3) := by decide +kernel
theorem dX11_found_18 : decode cX11_found 18 = .ok (.dup, 1) := by decide +kernel
theorem dX11_found_19 : decode cX11_found 19 = .ok (.ldc_w 274, 3) := by decide +kernel
theorem dX11_found_22 : decode cX11_found 22 = .ok (.invokespecial 276, 3) := by decide +kernel
theorem dX11_found_25 : decode cX11_found 25 = .ok (.athrow, 1) := by decide +kernel
theorem dX11_group_0 : decode cX11_group 0 = .ok (.aload_n 0, 1) := by decide +kernel
theorem dX11_group_1 : decode cX11_group 1 = .ok (.iload_n 1, 1) := by decide +kernel
theorem dX11_group_2 : decode cX11_group 2 = .ok (.invokevirtual 291, 3) := by decide +kernel
theorem dX11_led_0 : decode cX11_led 0 = .ok (.aload_n 0, 1) := by decide +kernel
theorem dX11_led_1 : decode cX11_led 1 = .ok (.iload_n 1, 1) := by decide +kernel
theorem dX11_led_2 : decode cX11_led 2 = .ok (.invokevirtual 182, 3) := by decide +kernel
theorem dX11_list_0 : decode cX11_list 0 = .ok (.aload_n 0, 1) := by decide +kernel
theorem dX11_list_1 : decode cX11_list 1 = .ok (.iload_n 1, 1) := by decide +kernel
theorem dX11_list_2 : decode cX11_list 2 = .ok (.invokevirtual 291, 3) := by decide +kernel
theorem dX11_listedCurve_0 : decode cX11_listedCurve 0 = .ok (.aload_n 0, 1) := by decide +kernel
theorem dX11_listedCurve_1 : decode cX11_listedCurve 1 = .ok (.iload_n 1, 1) := by decide +kernel
theorem dX11_listedCurve_2 : decode cX11_listedCurve 2 = .ok (.invokevirtual 131, 3) := by decide +kernel
theorem dX11_mirror_0 : decode cX11_mirror 0 = .ok (.aload_n 0, 1) := by decide +kernel
theorem dX11_mirror_1 : decode cX11_mirror 1 = .ok (.iload_n 1, 1) := by decide +kernel
theorem dX11_mirror_2 : decode cX11_mirror 2 = .ok (.invokevirtual 182, 3) := by decide +kernel
theorem dX11_order_0 : decode cX11_order 0 = .ok (.aload_n 0, 1) := by decide +kernel
theorem dX11_order_1 : decode cX11_order 1 = .ok (.iload_n 1, 1) := by decide +kernel
theorem dX11_order_2 : decode cX11_order 2 = .ok (.invokevirtual 182, 3) := by decide +kernel
theorem dX11_over_0 : decode cX11_over 0 = .ok (.aload_n 0, 1) := by decide +kernel
theorem dX11_over_1 : decode cX11_over 1 = .ok (.iload_n 1, 1) := by decide +kernel
theorem dX11_over_2 : decode cX11_over 2 = .ok (.invokevirtual 131, 3) := by decide +kernel
theorem dX11_pair_0 : decode cX11_pair 0 = .ok (.aload_n 0, 1) := by decide +kernel
theorem dX11_pair_1 : decode cX11_pair 1 = .ok (.iload_n 1, 1) := by decide +kernel
theorem dX11_pair_2 : decode cX11_pair 2 = .ok (.invokevirtual 182, 3) := by decide +kernel
theorem dX11_point_0 : decode cX11_point 0 = .ok (.aload_n 0, 1) := by decide +kernel
theorem dX11_point_1 : decode cX11_point 1 = .ok (.iload_n 1, 1) := by decide +kernel
theorem dX11_point_2 : decode cX11_point 2 = .ok (.invokevirtual 141, 3) := by decide +kernel
theorem dX11_polynomial_0 : decode cX11_polynomial 0 = .ok (.aload_n 0, 1) := by decide +kernel
theorem dX11_polynomial_1 : decode cX11_polynomial 1 = .ok (.iload_n 1, 1) := by decide +kernel
theorem dX11_polynomial_2 : decode cX11_polynomial 2 = .ok (.invokevirtual 291, 3) := by decide +kernel
theorem dX11_print_0 : decode cX11_print 0 = .ok (.aload_n 0, 1) := by decide +kernel
theorem dX11_print_1 : decode cX11_print 1 = .ok (.iload_n 1, 1) := by decide +kernel
theorem dX11_print_2 : decode cX11_print 2 = .ok (.invokevirtual 182, 3) := by decide +kernel
theorem dX11_rest_0 : decode cX11_rest 0 = .ok (.aload_n 0, 1) := by decide +kernel
theorem dX11_rest_1 : decode cX11_rest 1 = .ok (.iload_n 1, 1) := by decide +kernel
theorem dX11_rest_2 : decode cX11_rest 2 = .ok (.invokevirtual 108, 3) := by decide +kernel
theorem dX11_restCurve_0 : decode cX11_restCurve 0 = .ok (.aload_n 0, 1) := by decide +kernel
theorem dX11_restCurve_1 : decode cX11_restCurve 1 = .ok (.iload_n 1, 1) := by decide +kernel
theorem dX11_restCurve_2 : decode cX11_restCurve 2 = .ok (.invokevirtual 141, 3) := by decide +kernel
theorem dX11_search_0 : decode cX11_search 0 = .ok (.aload_n 0, 1) := by decide +kernel
theorem dX11_search_1 : decode cX11_search 1 = .ok (.iload_n 1, 1) := by decide +kernel
theorem dX11_search_2 : decode cX11_search 2 = .ok (.invokevirtual 108, 3) := by decide +kernel
theorem dX11_spotAt_0 : decode cX11_spotAt 0 = .ok (.iload_n 1, 1) := by decide +kernel
theorem dX11_spotAt_1 : decode cX11_spotAt 1 = .ok (.ifCond .lt 20, 3) := by decide +kernel
theorem dX11_spotAt_4 : decode cX11_spotAt 4 = .ok (.iload_n 1, 1) := by decide +kernel
theorem dX11_spotAt_5 : decode cX11_spotAt 5 = .ok (.aload_n 0, 1) := by decide +kernel
theorem dX11_spotAt_6 : decode cX11_spotAt 6 = .ok (.getfield 366, 3) := by decide +kernel
theorem dX11_spotAt_9 : decode cX11_spotAt 9 = .ok (.if_icmp .ge 12, 3) := by decide +kernel
theorem dX11_spotAt_21 : decode cX11_spotAt 21 = .ok (.aconst_null, 1) := by decide +kernel
theorem dX11_spotAt_22 : decode cX11_spotAt 22 = .ok (.goto 9, 3) := by decide +kernel
theorem dX11_spotAt_31 : decode cX11_spotAt 31 = .ok (.astore_n 2, 1) := by decide +kernel
theorem dX11_spotAt_32 : decode cX11_spotAt 32 = .ok (.aload_n 2, 1) := by decide +kernel
theorem dX11_spotAt_33 : decode cX11_spotAt 33 = .ok (.ifnonnull 14, 3) := by decide +kernel
theorem dX11_spotAt_36 : decode cX11_spotAt 36 = .ok (.new 272, 3) := by decide +kernel
theorem dX11_spotAt_39 : decode cX11_spotAt 39 = .ok (.dup, 1) := by decide +kernel
theorem dX11_spotAt_40 : decode cX11_spotAt 40 = .ok (.ldc_w 377, 3) := by decide +kernel
theorem dX11_spotAt_43 : decode cX11_spotAt 43 = .ok (.invokespecial 276, 3) := by decide +kernel
theorem dX11_spotAt_46 : decode cX11_spotAt 46 = .ok (.athrow, 1) := by decide +kernel
theorem dX11_through_0 : decode cX11_through 0 = .ok (.aload_n 0, 1) := by decide +kernel
theorem dX11_through_1 : decode cX11_through 1 = .ok (.iload_n 1, 1) := by decide +kernel
theorem dX11_through_2 : decode cX11_through 2 = .ok (.invokevirtual 182, 3) := by decide +kernel
theorem dX11_times_0 : decode cX11_times 0 = .ok (.aload_n 0, 1) := by decide +kernel
theorem dX11_times_1 : decode cX11_times 1 = .ok (.iload_n 1, 1) := by decide +kernel
theorem dX11_times_2 : decode cX11_times 2 = .ok (.invokevirtual 182, 3) := by decide +kernel
theorem dX11_told_0 : decode cX11_told 0 = .ok (.aload_n 0, 1) := by decide +kernel
theorem dX11_told_1 : decode cX11_told 1 = .ok (.iload_n 1, 1) := by decide +kernel
theorem dX11_told_2 : decode cX11_told 2 = .ok (.invokevirtual 182, 3) := by decide +kernel
theorem dX11_turned_0 : decode cX11_turned 0 = .ok (.aload_n 0, 1) := by decide +kernel
theorem dX11_turned_1 : decode cX11_turned 1 = .ok (.iload_n 1, 1) := by decide +kernel
theorem dX11_turned_2 : decode cX11_turned 2 = .ok (.invokevirtual 131, 3) := by decide +kernel
theorem dX11_wholeCurve_0 : decode cX11_wholeCurve 0 = .ok (.aload_n 0, 1) := by decide +kernel
theorem dX11_wholeCurve_1 : decode cX11_wholeCurve 1 = .ok (.iload_n 1, 1) := by decide +kernel
theorem dX11_wholeCurve_2 : decode cX11_wholeCurve 2 = .ok (.invokevirtual 141, 3) := by decide +kernel
def wk_X11_curveAt : List Cond := .code yX11_curveAt cX11_curveAt 3 (some (.object "CubicBench$Curve")) :: wU
set_option maxHeartbeats 4000000 in
set_option maxRecDepth 100000 in
theorem t_X11_curveAt (l : Launch) (hst : l.stackTraces = false) (dC : Nat → ClassId) (dI : Nat → Nat → Nat) (h0 sz : Nat) (fs : List Value) (c0 : Int32) (hf : xF fs) : vx_Met l yX11_curveAt wk_X11_curveAt ({ frames := 7, cells := 1, slots := 6, locals := 130 } : Room) (tQ dC dI [(h0, .inr (11, fs))] sz [.ref h0, .int c0]) (fun _ _ _ _ => False) (px_X nIOO sz) 1 6 (nw sz) := by
  refine vx_ofW (cc := cX11_curveAt) (maxL := 3) (ret := (some (.object "CubicBench$Curve"))) (by decide) rfl ?_
  intro p e s m args below meth c s₁ B hml htb hv
  obtain ⟨rfl, hsz, hP, hK, hev, hdv, hZ⟩ := hv
  have hx := B.exec
  have hb := B.bytes
  have hr := B.returns
  have hts := atoms_spec (ws := wk_X11_curveAt) B.pre
  have hu : ∀ w ∈ wU, w.before ([.ref h0, .int c0] : List Value).toArray s = true := fun w h => hts w (List.mem_cons_of_mem _ h)
  have hown : s.vm.findClass RX11 = some m.cls := findClass_of_methodNamed B.named
  have hlocks := B.notSynchronized
  subst hsz
  have hA : ∀ q : Nat, s.heap.size ≤ q → nw s.heap.size q := fun _ h => h
  have hS : va_S (nw s.heap.size) s.heap s.heap [] := va_S.rf
  have hl := lv_entry ([.ref h0, .int c0]) (n := 3) (Nat.le_of_ble_eq_true rfl)
  rw [lg_entry_eq]
  generalize (lg_sl ([.ref h0, .int c0]) ++ List.replicate (3 - (lg_sl ([.ref h0, .int c0])).length) Slot.unset).toArray = ls at hl ⊢
  have hl : lv_has ls 3 [(0, .ref h0), (1, .int c0)] := hl
  refine lv_iload_n hx hb dX11_curveAt_0 rfl (lv_at hl 1 rfl) ?_
  refine lv_if_lt (tgt := 21) hx hb dX11_curveAt_1 (by decide) (fun c1 => ?_) (fun c1 => ?_)
  · skip
    refine lv_null hx hb dX11_curveAt_21 ?_
    refine lv_goto (tgt := 31) hx hb dX11_curveAt_22 (by decide) ?_
    refine lv_astore_nN (lv' := [(2, .null), (0, .ref h0), (1, .int c0)]) hx hb dX11_curveAt_31 rfl hl (by decide) rfl (fun ls hl => ?_)
    refine lv_aload_nN hx hb dX11_curveAt_32 rfl (lv_at hl 0 rfl) ?_
    refine lv_ifnonnullN hx hb dX11_curveAt_33 ?_
    obtain ⟨sa, hsa⟩ := hev.2.2.2.2.1
    exact vx_throwSW (A := nw s.heap.size) (names := ["java/lang/RuntimeException", "java/lang/Exception"]) (cls := nIOO) hx hb hst hown (by decide) (by decide) (hu _ u424) (hu _ u425) hsa (at_IOO hu hev hdv) (ot_IOO _) hZ.1 hZ.2 hS (hl.1.trans hml.symm) dX11_curveAt_36 dX11_curveAt_39 dX11_curveAt_40 dX11_curveAt_43 dX11_curveAt_46 (fun x h => (htb x h).elim) (by decide) (Nat.le_of_ble_eq_true rfl) (Nat.le_of_ble_eq_true rfl) (Nat.le_of_ble_eq_true rfl) hlocks (fun t hvm hz hk => ⟨rfl, hz, fun q h1 _ => hk q h1⟩) hS.2.2 (Nat.le_of_ble_eq_true rfl) (Nat.le_of_ble_eq_true rfl)
  · skip
    refine lv_iload_n hx hb dX11_curveAt_4 rfl (lv_at hl 1 rfl) ?_
    refine lv_aload_n hx hb dX11_curveAt_5 rfl (lv_at hl 0 rfl) ?_
    refine va_get (D := (dC, dI)) (ci := 11) (v := .int 0) (C := RX11) (T := TX11) (N := 16) hx hb hu iX11 hown hK hP 0 rfl rfl 1 (by decide) (hu _ u426) (fun _ h9 => h9) hf.1 dX11_curveAt_6 ?_
    refine lv_icmp_ge (tgt := 21) hx hb dX11_curveAt_9 (by decide) (fun _ => ?_) (fun h9 => absurd (Int32.not_lt.mp c1) h9)
    refine lv_null hx hb dX11_curveAt_21 ?_
    refine lv_goto (tgt := 31) hx hb dX11_curveAt_22 (by decide) ?_
    refine lv_astore_nN (lv' := [(2, .null), (0, .ref h0), (1, .int c0)]) hx hb dX11_curveAt_31 rfl hl (by decide) rfl (fun ls hl => ?_)
    refine lv_aload_nN hx hb dX11_curveAt_32 rfl (lv_at hl 0 rfl) ?_
    refine lv_ifnonnullN hx hb dX11_curveAt_33 ?_
    obtain ⟨sa, hsa⟩ := hev.2.2.2.2.1
    exact vx_throwSW (A := nw s.heap.size) (names := ["java/lang/RuntimeException", "java/lang/Exception"]) (cls := nIOO) hx hb hst hown (by decide) (by decide) (hu _ u424) (hu _ u425) hsa (at_IOO hu hev hdv) (ot_IOO _) hZ.1 hZ.2 hS (hl.1.trans hml.symm) dX11_curveAt_36 dX11_curveAt_39 dX11_curveAt_40 dX11_curveAt_43 dX11_curveAt_46 (fun x h => (htb x h).elim) (by decide) (Nat.le_of_ble_eq_true rfl) (Nat.le_of_ble_eq_true rfl) (Nat.le_of_ble_eq_true rfl) hlocks (fun t hvm hz hk => ⟨rfl, hz, fun q h1 _ => hk q h1⟩) hS.2.2 (Nat.le_of_ble_eq_true rfl) (Nat.le_of_ble_eq_true rfl)
def wk_X11_spotAt : List Cond := .code yX11_spotAt cX11_spotAt 3 (some (.object "CubicBench$Spot")) :: wU
set_option maxHeartbeats 4000000 in
set_option maxRecDepth 100000 in
theorem t_X11_spotAt (l : Launch) (hst : l.stackTraces = false) (dC : Nat → ClassId) (dI : Nat → Nat → Nat) (h0 sz : Nat) (fs : List Value) (c0 : Int32) (hf : xF fs) : vx_Met l yX11_spotAt wk_X11_spotAt ({ frames := 7, cells := 1, slots := 6, locals := 130 } : Room) (tQ dC dI [(h0, .inr (11, fs))] sz [.ref h0, .int c0]) (fun _ _ _ _ => False) (px_X nIOO sz) 1 6 (nw sz) := by
  refine vx_ofW (cc := cX11_spotAt) (maxL := 3) (ret := (some (.object "CubicBench$Spot"))) (by decide) rfl ?_
  intro p e s m args below meth c s₁ B hml htb hv
  obtain ⟨rfl, hsz, hP, hK, hev, hdv, hZ⟩ := hv
  have hx := B.exec
  have hb := B.bytes
  have hr := B.returns
  have hts := atoms_spec (ws := wk_X11_spotAt) B.pre
  have hu : ∀ w ∈ wU, w.before ([.ref h0, .int c0] : List Value).toArray s = true := fun w h => hts w (List.mem_cons_of_mem _ h)
  have hown : s.vm.findClass RX11 = some m.cls := findClass_of_methodNamed B.named
  have hlocks := B.notSynchronized
  subst hsz
  have hA : ∀ q : Nat, s.heap.size ≤ q → nw s.heap.size q := fun _ h => h
  have hS : va_S (nw s.heap.size) s.heap s.heap [] := va_S.rf
  have hl := lv_entry ([.ref h0, .int c0]) (n := 3) (Nat.le_of_ble_eq_true rfl)
  rw [lg_entry_eq]
  generalize (lg_sl ([.ref h0, .int c0]) ++ List.replicate (3 - (lg_sl ([.ref h0, .int c0])).length) Slot.unset).toArray = ls at hl ⊢
  have hl : lv_has ls 3 [(0, .ref h0), (1, .int c0)] := hl
  refine lv_iload_n hx hb dX11_spotAt_0 rfl (lv_at hl 1 rfl) ?_
  refine lv_if_lt (tgt := 21) hx hb dX11_spotAt_1 (by decide) (fun c1 => ?_) (fun c1 => ?_)
  · skip
    refine lv_null hx hb dX11_spotAt_21 ?_
    refine lv_goto (tgt := 31) hx hb dX11_spotAt_22 (by decide) ?_
    refine lv_astore_nN (lv' := [(2, .null), (0, .ref h0), (1, .int c0)]) hx hb dX11_spotAt_31 rfl hl (by decide) rfl (fun ls hl => ?_)
    refine lv_aload_nN hx hb dX11_spotAt_32 rfl (lv_at hl 0 rfl) ?_
    refine lv_ifnonnullN hx hb dX11_spotAt_33 ?_
    obtain ⟨sa, hsa⟩ := hev.2.2.2.2.2.1
    exact vx_throwSW (A := nw s.heap.size) (names := ["java/lang/RuntimeException", "java/lang/Exception"]) (cls := nIOO) hx hb hst hown (by decide) (by decide) (hu _ u424) (hu _ u425) hsa (at_IOO hu hev hdv) (ot_IOO _) hZ.1 hZ.2 hS (hl.1.trans hml.symm) dX11_spotAt_36 dX11_spotAt_39 dX11_spotAt_40 dX11_spotAt_43 dX11_spotAt_46 (fun x h => (htb x h).elim) (by decide) (Nat.le_of_ble_eq_true rfl) (Nat.le_of_ble_eq_true rfl) (Nat.le_of_ble_eq_true rfl) hlocks (fun t hvm hz hk => ⟨rfl, hz, fun q h1 _ => hk q h1⟩) hS.2.2 (Nat.le_of_ble_eq_true rfl) (Nat.le_of_ble_eq_true rfl)
  · skip
    refine lv_iload_n hx hb dX11_spotAt_4 rfl (lv_at hl 1 rfl) ?_
    refine lv_aload_n hx hb dX11_spotAt_5 rfl (lv_at hl 0 rfl) ?_
    refine va_get (D := (dC, dI)) (ci := 11) (v := .int 0) (C := RX11) (T := TX11) (N := 16) hx hb hu iX11 hown hK hP 0 rfl rfl 3 (by decide) (hu _ u427) (fun _ h9 => h9) hf.2.1 dX11_spotAt_6 ?_
    refine lv_icmp_ge (tgt := 21) hx hb dX11_spotAt_9 (by decide) (fun _ => ?_) (fun h9 => absurd (Int32.not_lt.mp c1) h9)
    refine lv_null hx hb dX11_spotAt_21 ?_
    refine lv_goto (tgt := 31) hx hb dX11_spotAt_22 (by decide) ?_
    refine lv_astore_nN (lv' := [(2, .null), (0, .ref h0), (1, .int c0)]) hx hb dX11_spotAt_31 rfl hl (by decide) rfl (fun ls hl => ?_)
    refine lv_aload_nN hx hb dX11_spotAt_32 rfl (lv_at hl 0 rfl) ?_
    refine lv_ifnonnullN hx hb dX11_spotAt_33 ?_
    obtain ⟨sa, hsa⟩ := hev.2.2.2.2.2.1
    exact vx_throwSW (A := nw s.heap.size) (names := ["java/lang/RuntimeException", "java/lang/Exception"]) (cls := nIOO) hx hb hst hown (by decide) (by decide) (hu _ u424) (hu _ u425) hsa (at_IOO hu hev hdv) (ot_IOO _) hZ.1 hZ.2 hS (hl.1.trans hml.symm) dX11_spotAt_36 dX11_spotAt_39 dX11_spotAt_40 dX11_spotAt_43 dX11_spotAt_46 (fun x h => (htb x h).elim) (by decide) (Nat.le_of_ble_eq_true rfl) (Nat.le_of_ble_eq_true rfl) (Nat.le_of_ble_eq_true rfl) hlocks (fun t hvm hz hk => ⟨rfl, hz, fun q h1 _ => hk q h1⟩) hS.2.2 (Nat.le_of_ble_eq_true rfl) (Nat.le_of_ble_eq_true rfl)
def wk_X11_found : List Cond := .code yX11_found cX11_found 3 (some .long) :: wU
set_option maxHeartbeats 4000000 in
set_option maxRecDepth 100000 in
theorem t_X11_found (l : Launch) (hst : l.stackTraces = false) (dC : Nat → ClassId) (dI : Nat → Nat → Nat) (h0 sz : Nat) (fs : List Value) (f8 : List Value) (q8 : Nat) (c0 d0 : Int32) (hf : xF fs) (hq8 : fs[10]? = some (.ref q8)) (hf8 : f8[3]? = some (.int 0)) : vx_Met l yX11_found wk_X11_found ({ frames := 7, cells := 1, slots := 6, locals := 130 } : Room) (tQ dC dI [(h0, .inr (11, fs)), (q8, .inr (8, f8))] sz [.ref h0, .int c0, .int d0]) (fun _ _ _ _ => False) (px_X nIOO sz) 1 6 (nw sz) := by
  refine vx_ofW (cc := cX11_found) (maxL := 3) (ret := (some .long)) (by decide) rfl ?_
  intro p e s m args below meth c s₁ B hml htb hv
  obtain ⟨rfl, hsz, hP, hK, hev, hdv, hZ⟩ := hv
  have hx := B.exec
  have hb := B.bytes
  have hr := B.returns
  have hts := atoms_spec (ws := wk_X11_found) B.pre
  have hu : ∀ w ∈ wU, w.before ([.ref h0, .int c0, .int d0] : List Value).toArray s = true := fun w h => hts w (List.mem_cons_of_mem _ h)
  have hown : s.vm.findClass RX11 = some m.cls := findClass_of_methodNamed B.named
  have hlocks := B.notSynchronized
  subst hsz
  have hA : ∀ q : Nat, s.heap.size ≤ q → nw s.heap.size q := fun _ h => h
  have hS : va_S (nw s.heap.size) s.heap s.heap [] := va_S.rf
  have hl := lv_entry ([.ref h0, .int c0, .int d0]) (n := 3) (Nat.le_of_ble_eq_true rfl)
  rw [lg_entry_eq]
  generalize (lg_sl ([.ref h0, .int c0, .int d0]) ++ List.replicate (3 - (lg_sl ([.ref h0, .int c0, .int d0])).length) Slot.unset).toArray = ls at hl ⊢
  have hl : lv_has ls 3 [(0, .ref h0), (1, .int c0), (2, .int d0)] := hl
  refine lv_iload_n hx hb dX11_found_0 rfl (lv_at hl 1 rfl) ?_
  refine lv_if_lt (tgt := 15) hx hb dX11_found_1 (by decide) (fun c1 => ?_) (fun c1 => ?_)
  · skip
    obtain ⟨sa, hsa⟩ := hev.2.2.2.2.2.2.1
    exact vx_throwSW (A := nw s.heap.size) (names := ["java/lang/RuntimeException", "java/lang/Exception"]) (cls := nIOO) hx hb hst hown (by decide) (by decide) (hu _ u424) (hu _ u425) hsa (at_IOO hu hev hdv) (ot_IOO _) hZ.1 hZ.2 hS (hl.1.trans hml.symm) dX11_found_15 dX11_found_18 dX11_found_19 dX11_found_22 dX11_found_25 (fun x h => (htb x h).elim) (by decide) (Nat.le_of_ble_eq_true rfl) (Nat.le_of_ble_eq_true rfl) (Nat.le_of_ble_eq_true rfl) hlocks (fun t hvm hz hk => ⟨rfl, hz, fun q h1 _ => hk q h1⟩) hS.2.2 (Nat.le_of_ble_eq_true rfl) (Nat.le_of_ble_eq_true rfl)
  · skip
    refine lv_iload_n hx hb dX11_found_4 rfl (lv_at hl 1 rfl) ?_
    refine lv_aload_n hx hb dX11_found_5 rfl (lv_at hl 0 rfl) ?_
    refine va_get (D := (dC, dI)) (ci := 11) (v := .ref q8) (C := RX11) (T := TX11) (N := 16) hx hb hu iX11 hown hK hP 0 rfl rfl 10 (by decide) (hu _ u130) (fun _ h9 => h9) hq8 dX11_found_6 ?_
    refine va_get (D := (dC, dI)) (ci := 8) (v := .int 0) (C := RX8) (T := TX8) (N := 4) hx hb hu iX8 hown hK hP 1 rfl rfl 3 (by decide) (hu _ u428) (fun _ h9 => h9) hf8 dX11_found_9 ?_
    refine lv_icmp_lt (tgt := 26) hx hb dX11_found_12 (by decide) (fun h9 => absurd h9 c1) (fun _ => ?_)
    obtain ⟨sa, hsa⟩ := hev.2.2.2.2.2.2.1
    exact vx_throwSW (A := nw s.heap.size) (names := ["java/lang/RuntimeException", "java/lang/Exception"]) (cls := nIOO) hx hb hst hown (by decide) (by decide) (hu _ u424) (hu _ u425) hsa (at_IOO hu hev hdv) (ot_IOO _) hZ.1 hZ.2 hS (hl.1.trans hml.symm) dX11_found_15 dX11_found_18 dX11_found_19 dX11_found_22 dX11_found_25 (fun x h => (htb x h).elim) (by decide) (Nat.le_of_ble_eq_true rfl) (Nat.le_of_ble_eq_true rfl) (Nat.le_of_ble_eq_true rfl) hlocks (fun t hvm hz hk => ⟨rfl, hz, fun q h1 _ => hk q h1⟩) hS.2.2 (Nat.le_of_ble_eq_true rfl) (Nat.le_of_ble_eq_true rfl)
def wk_X11_wholeCurve : List Cond := .code yX11_wholeCurve cX11_wholeCurve 3 (some (.object "CubicBench$Curve")) :: wU
set_option maxHeartbeats 4000000 in
set_option maxRecDepth 100000 in
theorem t_X11_wholeCurve (l : Launch) (hst : l.stackTraces = false) (dC : Nat → ClassId) (dI : Nat → Nat → Nat) (h0 sz : Nat) (fs : List Value) (c0 : Int32) (hf : xF fs) : vx_Met l yX11_wholeCurve wk_X11_wholeCurve ({ frames := 8, cells := 1, slots := 6, locals := 152 } : Room) (tQ dC dI [(h0, .inr (11, fs))] sz [.ref h0, .int c0]) (fun _ _ _ _ => False) (px_X nIOO sz) 1 6 (nw sz) := by
  refine vx_ofW (cc := cX11_wholeCurve) (maxL := 3) (ret := (some (.object "CubicBench$Curve"))) (by decide) rfl ?_
  intro p e s m args below meth c s₁ B hml htb hv
  obtain ⟨rfl, hsz, hP, hK, hev, hdv, hZ⟩ := hv
  have hx := B.exec
  have hb := B.bytes
  have hr := B.returns
  have hts := atoms_spec (ws := wk_X11_wholeCurve) B.pre
  have hu : ∀ w ∈ wU, w.before ([.ref h0, .int c0] : List Value).toArray s = true := fun w h => hts w (List.mem_cons_of_mem _ h)
  have hown : s.vm.findClass RX11 = some m.cls := findClass_of_methodNamed B.named
  have hlocks := B.notSynchronized
  subst hsz
  have hA : ∀ q : Nat, s.heap.size ≤ q → nw s.heap.size q := fun _ h => h
  have hS : va_S (nw s.heap.size) s.heap s.heap [] := va_S.rf
  have hl := lv_entry ([.ref h0, .int c0]) (n := 3) (Nat.le_of_ble_eq_true rfl)
  rw [lg_entry_eq]
  generalize (lg_sl ([.ref h0, .int c0]) ++ List.replicate (3 - (lg_sl ([.ref h0, .int c0])).length) Slot.unset).toArray = ls at hl ⊢
  have hl : lv_has ls 3 [(0, .ref h0), (1, .int c0)] := hl
  refine lv_aload_n hx hb dX11_wholeCurve_0 rfl (lv_at hl 0 rfl) ?_
  refine lv_iload_n hx hb dX11_wholeCurve_1 rfl (lv_at hl 1 rfl) ?_
  refine px_call (vx_runV (As := [.int c0]) (rest := []) ⟨hx, hb, hml, hown, hu⟩ (t_X11_curveAt l hst dC dI h0 _ fs (c0) hf) (cwV 1 hu (gV u429 u430 u431 u432 u433) rfl rfl rfl (by decide +kernel) ⟨(Nat.le_of_ble_eq_true rfl), (Nat.le_of_ble_eq_true rfl)⟩) ⟨tQ_blind, va_recv hK hP (ci := 11) (q0 := 0) rfl rfl, tQ_at hP hK hev hdv hZ⟩ rfl rfl hl.1 rfl (lv_room (Nat.le_of_ble_eq_true rfl)) dX11_wholeCurve_2 ⟨(Nat.le_of_ble_eq_true rfl), (Nat.le_of_ble_eq_true rfl)⟩) rfl hS hA (fun ce q9 H1 locs1 hz1 hk1 hS hce hcv hcl => ?_)
  exact vx_out (fun x h => (htb x h).elim) hlocks hce hcv hcl (fun t ht hvm => ⟨rfl, by rw [ht]; exact hz1, fun q h1 _ => by rw [ht]; exact hk1 q h1⟩) hS.2.2 (Nat.le_of_ble_eq_true rfl) (Nat.le_of_ble_eq_true rfl)
def wk_X11_restCurve : List Cond := .code yX11_restCurve cX11_restCurve 3 (some (.object "CubicBench$Curve")) :: wU
set_option maxHeartbeats 4000000 in
set_option maxRecDepth 100000 in
theorem t_X11_restCurve (l : Launch) (hst : l.stackTraces = false) (dC : Nat → ClassId) (dI : Nat → Nat → Nat) (h0 sz : Nat) (fs : List Value) (c0 : Int32) (hf : xF fs) : vx_Met l yX11_restCurve wk_X11_restCurve ({ frames := 8, cells := 1, slots := 6, locals := 152 } : Room) (tQ dC dI [(h0, .inr (11, fs))] sz [.ref h0, .int c0]) (fun _ _ _ _ => False) (px_X nIOO sz) 1 6 (nw sz) := by
  refine vx_ofW (cc := cX11_restCurve) (maxL := 3) (ret := (some (.object "CubicBench$Curve"))) (by decide) rfl ?_
  intro p e s m args below meth c s₁ B hml htb hv
  obtain ⟨rfl, hsz, hP, hK, hev, hdv, hZ⟩ := hv
  have hx := B.exec
  have hb := B.bytes
  have hr := B.returns
  have hts := atoms_spec (ws := wk_X11_restCurve) B.pre
  have hu : ∀ w ∈ wU, w.before ([.ref h0, .int c0] : List Value).toArray s = true := fun w h => hts w (List.mem_cons_of_mem _ h)
  have hown : s.vm.findClass RX11 = some m.cls := findClass_of_methodNamed B.named
  have hlocks := B.notSynchronized
  subst hsz
  have hA : ∀ q : Nat, s.heap.size ≤ q → nw s.heap.size q := fun _ h => h
  have hS : va_S (nw s.heap.size) s.heap s.heap [] := va_S.rf
  have hl := lv_entry ([.ref h0, .int c0]) (n := 3) (Nat.le_of_ble_eq_true rfl)
  rw [lg_entry_eq]
  generalize (lg_sl ([.ref h0, .int c0]) ++ List.replicate (3 - (lg_sl ([.ref h0, .int c0])).length) Slot.unset).toArray = ls at hl ⊢
  have hl : lv_has ls 3 [(0, .ref h0), (1, .int c0)] := hl
  refine lv_aload_n hx hb dX11_restCurve_0 rfl (lv_at hl 0 rfl) ?_
  refine lv_iload_n hx hb dX11_restCurve_1 rfl (lv_at hl 1 rfl) ?_
  refine px_call (vx_runV (As := [.int c0]) (rest := []) ⟨hx, hb, hml, hown, hu⟩ (t_X11_curveAt l hst dC dI h0 _ fs (c0) hf) (cwV 1 hu (gV u429 u430 u431 u432 u433) rfl rfl rfl (by decide +kernel) ⟨(Nat.le_of_ble_eq_true rfl), (Nat.le_of_ble_eq_true rfl)⟩) ⟨tQ_blind, va_recv hK hP (ci := 11) (q0 := 0) rfl rfl, tQ_at hP hK hev hdv hZ⟩ rfl rfl hl.1 rfl (lv_room (Nat.le_of_ble_eq_true rfl)) dX11_restCurve_2 ⟨(Nat.le_of_ble_eq_true rfl), (Nat.le_of_ble_eq_true rfl)⟩) rfl hS hA (fun ce q9 H1 locs1 hz1 hk1 hS hce hcv hcl => ?_)
  exact vx_out (fun x h => (htb x h).elim) hlocks hce hcv hcl (fun t ht hvm => ⟨rfl, by rw [ht]; exact hz1, fun q h1 _ => by rw [ht]; exact hk1 q h1⟩) hS.2.2 (Nat.le_of_ble_eq_true rfl) (Nat.le_of_ble_eq_true rfl)
def wk_X11_listedCurve : List Cond := .code yX11_listedCurve cX11_listedCurve 3 (some (.object "CubicBench$Curve")) :: wU
set_option maxHeartbeats 4000000 in
set_option maxRecDepth 100000 in
theorem t_X11_listedCurve (l : Launch) (hst : l.stackTraces = false) (dC : Nat → ClassId) (dI : Nat → Nat → Nat) (h0 sz : Nat) (fs : List Value) (c0 : Int32) (hf : xF fs) : vx_Met l yX11_listedCurve wk_X11_listedCurve ({ frames := 9, cells := 1, slots := 6, locals := 174 } : Room) (tQ dC dI [(h0, .inr (11, fs))] sz [.ref h0, .int c0]) (fun _ _ _ _ => False) (px_X nIOO sz) 1 6 (nw sz) := by
  refine vx_ofW (cc := cX11_listedCurve) (maxL := 3) (ret := (some (.object "CubicBench$Curve"))) (by decide) rfl ?_
  intro p e s m args below meth c s₁ B hml htb hv
  obtain ⟨rfl, hsz, hP, hK, hev, hdv, hZ⟩ := hv
  have hx := B.exec
  have hb := B.bytes
  have hr := B.returns
  have hts := atoms_spec (ws := wk_X11_listedCurve) B.pre
  have hu : ∀ w ∈ wU, w.before ([.ref h0, .int c0] : List Value).toArray s = true := fun w h => hts w (List.mem_cons_of_mem _ h)
  have hown : s.vm.findClass RX11 = some m.cls := findClass_of_methodNamed B.named
  have hlocks := B.notSynchronized
  subst hsz
  have hA : ∀ q : Nat, s.heap.size ≤ q → nw s.heap.size q := fun _ h => h
  have hS : va_S (nw s.heap.size) s.heap s.heap [] := va_S.rf
  have hl := lv_entry ([.ref h0, .int c0]) (n := 3) (Nat.le_of_ble_eq_true rfl)
  rw [lg_entry_eq]
  generalize (lg_sl ([.ref h0, .int c0]) ++ List.replicate (3 - (lg_sl ([.ref h0, .int c0])).length) Slot.unset).toArray = ls at hl ⊢
  have hl : lv_has ls 3 [(0, .ref h0), (1, .int c0)] := hl
  refine lv_aload_n hx hb dX11_listedCurve_0 rfl (lv_at hl 0 rfl) ?_
  refine lv_iload_n hx hb dX11_listedCurve_1 rfl (lv_at hl 1 rfl) ?_
  refine px_call (vx_runV (As := [.int c0]) (rest := []) ⟨hx, hb, hml, hown, hu⟩ (t_X11_restCurve l hst dC dI h0 _ fs (c0) hf) (cwV 1 hu (gV u434 u435 u436 u432 u437) rfl rfl rfl (by decide +kernel) ⟨(Nat.le_of_ble_eq_true rfl), (Nat.le_of_ble_eq_true rfl)⟩) ⟨tQ_blind, va_recv hK hP (ci := 11) (q0 := 0) rfl rfl, tQ_at hP hK hev hdv hZ⟩ rfl rfl hl.1 rfl (lv_room (Nat.le_of_ble_eq_true rfl)) dX11_listedCurve_2 ⟨(Nat.le_of_ble_eq_true rfl), (Nat.le_of_ble_eq_true rfl)⟩) rfl hS hA (fun ce q9 H1 locs1 hz1 hk1 hS hce hcv hcl => ?_)
  exact vx_out (fun x h => (htb x h).elim) hlocks hce hcv hcl (fun t ht hvm => ⟨rfl, by rw [ht]; exact hz1, fun q h1 _ => by rw [ht]; exact hk1 q h1⟩) hS.2.2 (Nat.le_of_ble_eq_true rfl) (Nat.le_of_ble_eq_true rfl)
def wk_X11_rest : List Cond := .code yX11_rest cX11_rest 6 (some .int) :: wU
set_option maxHeartbeats 4000000 in
set_option maxRecDepth 100000 in
theorem t_X11_rest (l : Launch) (hst : l.stackTraces = false) (dC : Nat → ClassId) (dI : Nat → Nat → Nat) (h0 sz : Nat) (fs : List Value) (c0 d0 : Int32) (hf : xF fs) : vx_Met l yX11_rest wk_X11_rest ({ frames := 9, cells := 1, slots := 6, locals := 174 } : Room) (tQ dC dI [(h0, .inr (11, fs))] sz [.ref h0, .int c0, .int d0]) (fun _ _ _ _ => False) (px_X nIOO sz) 1 6 (nw sz) := by
  refine vx_ofW (cc := cX11_rest) (maxL := 6) (ret := (some .int)) (by decide) rfl ?_
  intro p e s m args below meth c s₁ B hml htb hv
  obtain ⟨rfl, hsz, hP, hK, hev, hdv, hZ⟩ := hv
  have hx := B.exec
  have hb := B.bytes
  have hr := B.returns
  have hts := atoms_spec (ws := wk_X11_rest) B.pre
  have hu : ∀ w ∈ wU, w.before ([.ref h0, .int c0, .int d0] : List Value).toArray s = true := fun w h => hts w (List.mem_cons_of_mem _ h)
  have hown : s.vm.findClass RX11 = some m.cls := findClass_of_methodNamed B.named
  have hlocks := B.notSynchronized
  subst hsz
  have hA : ∀ q : Nat, s.heap.size ≤ q → nw s.heap.size q := fun _ h => h
  have hS : va_S (nw s.heap.size) s.heap s.heap [] := va_S.rf
  have hl := lv_entry ([.ref h0, .int c0, .int d0]) (n := 6) (Nat.le_of_ble_eq_true rfl)
  rw [lg_entry_eq]
  generalize (lg_sl ([.ref h0, .int c0, .int d0]) ++ List.replicate (6 - (lg_sl ([.ref h0, .int c0, .int d0])).length) Slot.unset).toArray = ls at hl ⊢
  have hl : lv_has ls 6 [(0, .ref h0), (1, .int c0), (2, .int d0)] := hl
  refine lv_aload_n hx hb dX11_rest_0 rfl (lv_at hl 0 rfl) ?_
  refine lv_iload_n hx hb dX11_rest_1 rfl (lv_at hl 1 rfl) ?_
  refine px_call (vx_runV (As := [.int c0]) (rest := []) ⟨hx, hb, hml, hown, hu⟩ (t_X11_wholeCurve l hst dC dI h0 _ fs (c0) hf) (cwV 1 hu (gV u438 u439 u440 u432 u441) rfl rfl rfl (by decide +kernel) ⟨(Nat.le_of_ble_eq_true rfl), (Nat.le_of_ble_eq_true rfl)⟩) ⟨tQ_blind, va_recv hK hP (ci := 11) (q0 := 0) rfl rfl, tQ_at hP hK hev hdv hZ⟩ rfl rfl hl.1 rfl (lv_room (Nat.le_of_ble_eq_true rfl)) dX11_rest_2 ⟨(Nat.le_of_ble_eq_true rfl), (Nat.le_of_ble_eq_true rfl)⟩) rfl hS hA (fun ce q9 H1 locs1 hz1 hk1 hS hce hcv hcl => ?_)
  exact vx_out (fun x h => (htb x h).elim) hlocks hce hcv hcl (fun t ht hvm => ⟨rfl, by rw [ht]; exact hz1, fun q h1 _ => by rw [ht]; exact hk1 q h1⟩) hS.2.2 (Nat.le_of_ble_eq_true rfl) (Nat.le_of_ble_eq_true rfl)
def wk_X11_turned : List Cond := .code yX11_turned cX11_turned 13 (some .int) :: wU
set_option maxHeartbeats 4000000 in
set_option maxRecDepth 100000 in
theorem t_X11_turned (l : Launch) (hst : l.stackTraces = false) (dC : Nat → ClassId) (dI : Nat → Nat → Nat) (h0 sz : Nat) (fs : List Value) (c0 : Int32) (hf : xF fs) : vx_Met l yX11_turned wk_X11_turned ({ frames := 9, cells := 1, slots := 6, locals := 174 } : Room) (tQ dC dI [(h0, .inr (11, fs))] sz [.ref h0, .int c0]) (fun _ _ _ _ => False) (px_X nIOO sz) 1 6 (nw sz) := by
  refine vx_ofW (cc := cX11_turned) (maxL := 13) (ret := (some .int)) (by decide) rfl ?_
  intro p e s m args below meth c s₁ B hml htb hv
  obtain ⟨rfl, hsz, hP, hK, hev, hdv, hZ⟩ := hv
  have hx := B.exec
  have hb := B.bytes
  have hr := B.returns
  have hts := atoms_spec (ws := wk_X11_turned) B.pre
  have hu : ∀ w ∈ wU, w.before ([.ref h0, .int c0] : List Value).toArray s = true := fun w h => hts w (List.mem_cons_of_mem _ h)
  have hown : s.vm.findClass RX11 = some m.cls := findClass_of_methodNamed B.named
  have hlocks := B.notSynchronized
  subst hsz
  have hA : ∀ q : Nat, s.heap.size ≤ q → nw s.heap.size q := fun _ h => h
  have hS : va_S (nw s.heap.size) s.heap s.heap [] := va_S.rf
  have hl := lv_entry ([.ref h0, .int c0]) (n := 13) (Nat.le_of_ble_eq_true rfl)
  rw [lg_entry_eq]
  generalize (lg_sl ([.ref h0, .int c0]) ++ List.replicate (13 - (lg_sl ([.ref h0, .int c0])).length) Slot.unset).toArray = ls at hl ⊢
  have hl : lv_has ls 13 [(0, .ref h0), (1, .int c0)] := hl
  refine lv_aload_n hx hb dX11_turned_0 rfl (lv_at hl 0 rfl) ?_
  refine lv_iload_n hx hb dX11_turned_1 rfl (lv_at hl 1 rfl) ?_
  refine px_call (vx_runV (As := [.int c0]) (rest := []) ⟨hx, hb, hml, hown, hu⟩ (t_X11_restCurve l hst dC dI h0 _ fs (c0) hf) (cwV 1 hu (gV u434 u435 u436 u432 u437) rfl rfl rfl (by decide +kernel) ⟨(Nat.le_of_ble_eq_true rfl), (Nat.le_of_ble_eq_true rfl)⟩) ⟨tQ_blind, va_recv hK hP (ci := 11) (q0 := 0) rfl rfl, tQ_at hP hK hev hdv hZ⟩ rfl rfl hl.1 rfl (lv_room (Nat.le_of_ble_eq_true rfl)) dX11_turned_2 ⟨(Nat.le_of_ble_eq_true rfl), (Nat.le_of_ble_eq_true rfl)⟩) rfl hS hA (fun ce q9 H1 locs1 hz1 hk1 hS hce hcv hcl => ?_)
  exact vx_out (fun x h => (htb x h).elim) hlocks hce hcv hcl (fun t ht hvm => ⟨rfl, by rw [ht]; exact hz1, fun q h1 _ => by rw [ht]; exact hk1 q h1⟩) hS.2.2 (Nat.le_of_ble_eq_true rfl) (Nat.le_of_ble_eq_true rfl)
def wk_X11_about : List Cond := .code yX11_about cX11_about 4 (some .long) :: wU
set_option maxHeartbeats 4000000 in
set_option maxRecDepth 100000 in
theorem t_X11_about (l : Launch) (hst : l.stackTraces = false) (dC : Nat → ClassId) (dI : Nat → Nat → Nat) (h0 sz : Nat) (fs : List Value) (c0 d0 : Int32) (hf : xF fs) : vx_Met l yX11_about wk_X11_about ({ frames := 8, cells := 1, slots := 6, locals := 152 } : Room) (tQ dC dI [(h0, .inr (11, fs))] sz [.ref h0, .int c0, .int d0]) (fun _ _ _ _ => False) (px_X nIOO sz) 1 6 (nw sz) := by
  refine vx_ofW (cc := cX11_about) (maxL := 4) (ret := (some .long)) (by decide) rfl ?_
  intro p e s m args below meth c s₁ B hml htb hv
  obtain ⟨rfl, hsz, hP, hK, hev, hdv, hZ⟩ := hv
  have hx := B.exec
  have hb := B.bytes
  have hr := B.returns
  have hts := atoms_spec (ws := wk_X11_about) B.pre
  have hu : ∀ w ∈ wU, w.before ([.ref h0, .int c0, .int d0] : List Value).toArray s = true := fun w h => hts w (List.mem_cons_of_mem _ h)
  have hown : s.vm.findClass RX11 = some m.cls := findClass_of_methodNamed B.named
  have hlocks := B.notSynchronized
  subst hsz
  have hA : ∀ q : Nat, s.heap.size ≤ q → nw s.heap.size q := fun _ h => h
  have hS : va_S (nw s.heap.size) s.heap s.heap [] := va_S.rf
  have hl := lv_entry ([.ref h0, .int c0, .int d0]) (n := 4) (Nat.le_of_ble_eq_true rfl)
  rw [lg_entry_eq]
  generalize (lg_sl ([.ref h0, .int c0, .int d0]) ++ List.replicate (4 - (lg_sl ([.ref h0, .int c0, .int d0])).length) Slot.unset).toArray = ls at hl ⊢
  have hl : lv_has ls 4 [(0, .ref h0), (1, .int c0), (2, .int d0)] := hl
  refine lv_aload_n hx hb dX11_about_0 rfl (lv_at hl 0 rfl) ?_
  refine lv_iload_n hx hb dX11_about_1 rfl (lv_at hl 1 rfl) ?_
  refine px_call (vx_runV (As := [.int c0]) (rest := []) ⟨hx, hb, hml, hown, hu⟩ (t_X11_curveAt l hst dC dI h0 _ fs (c0) hf) (cwV 1 hu (gV u429 u430 u431 u432 u433) rfl rfl rfl (by decide +kernel) ⟨(Nat.le_of_ble_eq_true rfl), (Nat.le_of_ble_eq_true rfl)⟩) ⟨tQ_blind, va_recv hK hP (ci := 11) (q0 := 0) rfl rfl, tQ_at hP hK hev hdv hZ⟩ rfl rfl hl.1 rfl (lv_room (Nat.le_of_ble_eq_true rfl)) dX11_about_2 ⟨(Nat.le_of_ble_eq_true rfl), (Nat.le_of_ble_eq_true rfl)⟩) rfl hS hA (fun ce q9 H1 locs1 hz1 hk1 hS hce hcv hcl => ?_)
  exact vx_out (fun x h => (htb x h).elim) hlocks hce hcv hcl (fun t ht hvm => ⟨rfl, by rw [ht]; exact hz1, fun q h1 _ => by rw [ht]; exact hk1 q h1⟩) hS.2.2 (Nat.le_of_ble_eq_true rfl) (Nat.le_of_ble_eq_true rfl)
def wk_X11_far : List Cond := .code yX11_far cX11_far 3 (some .int) :: wU
set_option maxHeartbeats 4000000 in
set_option maxRecDepth 100000 in
theorem t_X11_far (l : Launch) (hst : l.stackTraces = false) (dC : Nat → ClassId) (dI : Nat → Nat → Nat) (h0 sz : Nat) (fs : List Value) (c0 : Int32) (hf : xF fs) : vx_Met l yX11_far wk_X11_far ({ frames := 8, cells := 1, slots := 6, locals := 152 } : Room) (tQ dC dI [(h0, .inr (11, fs))] sz [.ref h0, .int c0]) (fun _ _ _ _ => False) (px_X nIOO sz) 1 6 (nw sz) := by
  refine vx_ofW (cc := cX11_far) (maxL := 3) (ret := (some .int)) (by decide) rfl ?_
  intro p e s m args below meth c s₁ B hml htb hv
  obtain ⟨rfl, hsz, hP, hK, hev, hdv, hZ⟩ := hv
  have hx := B.exec
  have hb := B.bytes
  have hr := B.returns
  have hts := atoms_spec (ws := wk_X11_far) B.pre
  have hu : ∀ w ∈ wU, w.before ([.ref h0, .int c0] : List Value).toArray s = true := fun w h => hts w (List.mem_cons_of_mem _ h)
  have hown : s.vm.findClass RX11 = some m.cls := findClass_of_methodNamed B.named
  have hlocks := B.notSynchronized
  subst hsz
  have hA : ∀ q : Nat, s.heap.size ≤ q → nw s.heap.size q := fun _ h => h
  have hS : va_S (nw s.heap.size) s.heap s.heap [] := va_S.rf
  have hl := lv_entry ([.ref h0, .int c0]) (n := 3) (Nat.le_of_ble_eq_true rfl)
  rw [lg_entry_eq]
  generalize (lg_sl ([.ref h0, .int c0]) ++ List.replicate (3 - (lg_sl ([.ref h0, .int c0])).length) Slot.unset).toArray = ls at hl ⊢
  have hl : lv_has ls 3 [(0, .ref h0), (1, .int c0)] := hl
  refine lv_aload_n hx hb dX11_far_0 rfl (lv_at hl 0 rfl) ?_
  refine lv_iload_n hx hb dX11_far_1 rfl (lv_at hl 1 rfl) ?_
  refine px_call (vx_runV (As := [.int c0]) (rest := []) ⟨hx, hb, hml, hown, hu⟩ (t_X11_curveAt l hst dC dI h0 _ fs (c0) hf) (cwV 1 hu (gV u429 u430 u431 u432 u433) rfl rfl rfl (by decide +kernel) ⟨(Nat.le_of_ble_eq_true rfl), (Nat.le_of_ble_eq_true rfl)⟩) ⟨tQ_blind, va_recv hK hP (ci := 11) (q0 := 0) rfl rfl, tQ_at hP hK hev hdv hZ⟩ rfl rfl hl.1 rfl (lv_room (Nat.le_of_ble_eq_true rfl)) dX11_far_2 ⟨(Nat.le_of_ble_eq_true rfl), (Nat.le_of_ble_eq_true rfl)⟩) rfl hS hA (fun ce q9 H1 locs1 hz1 hk1 hS hce hcv hcl => ?_)
  exact vx_out (fun x h => (htb x h).elim) hlocks hce hcv hcl (fun t ht hvm => ⟨rfl, by rw [ht]; exact hz1, fun q h1 _ => by rw [ht]; exact hk1 q h1⟩) hS.2.2 (Nat.le_of_ble_eq_true rfl) (Nat.le_of_ble_eq_true rfl)
def wk_X11_point : List Cond := .code yX11_point cX11_point 7 (some .int) :: wU
set_option maxHeartbeats 4000000 in
set_option maxRecDepth 100000 in
theorem t_X11_point (l : Launch) (hst : l.stackTraces = false) (dC : Nat → ClassId) (dI : Nat → Nat → Nat) (h0 sz : Nat) (fs : List Value) (c0 d0 e0 : Int32) (hf : xF fs) : vx_Met l yX11_point wk_X11_point ({ frames := 8, cells := 1, slots := 6, locals := 152 } : Room) (tQ dC dI [(h0, .inr (11, fs))] sz [.ref h0, .int c0, .int d0, .int e0]) (fun _ _ _ _ => False) (px_X nIOO sz) 1 6 (nw sz) := by
  refine vx_ofW (cc := cX11_point) (maxL := 7) (ret := (some .int)) (by decide) rfl ?_
  intro p e s m args below meth c s₁ B hml htb hv
  obtain ⟨rfl, hsz, hP, hK, hev, hdv, hZ⟩ := hv
  have hx := B.exec
  have hb := B.bytes
  have hr := B.returns
  have hts := atoms_spec (ws := wk_X11_point) B.pre
  have hu : ∀ w ∈ wU, w.before ([.ref h0, .int c0, .int d0, .int e0] : List Value).toArray s = true := fun w h => hts w (List.mem_cons_of_mem _ h)
  have hown : s.vm.findClass RX11 = some m.cls := findClass_of_methodNamed B.named
  have hlocks := B.notSynchronized
  subst hsz
  have hA : ∀ q : Nat, s.heap.size ≤ q → nw s.heap.size q := fun _ h => h
  have hS : va_S (nw s.heap.size) s.heap s.heap [] := va_S.rf
  have hl := lv_entry ([.ref h0, .int c0, .int d0, .int e0]) (n := 7) (Nat.le_of_ble_eq_true rfl)
  rw [lg_entry_eq]
  generalize (lg_sl ([.ref h0, .int c0, .int d0, .int e0]) ++ List.replicate (7 - (lg_sl ([.ref h0, .int c0, .int d0, .int e0])).length) Slot.unset).toArray = ls at hl ⊢
  have hl : lv_has ls 7 [(0, .ref h0), (1, .int c0), (2, .int d0), (3, .int e0)] := hl
  refine lv_aload_n hx hb dX11_point_0 rfl (lv_at hl 0 rfl) ?_
  refine lv_iload_n hx hb dX11_point_1 rfl (lv_at hl 1 rfl) ?_
  refine px_call (vx_runV (As := [.int c0]) (rest := []) ⟨hx, hb, hml, hown, hu⟩ (t_X11_curveAt l hst dC dI h0 _ fs (c0) hf) (cwV 1 hu (gV u429 u430 u431 u432 u433) rfl rfl rfl (by decide +kernel) ⟨(Nat.le_of_ble_eq_true rfl), (Nat.le_of_ble_eq_true rfl)⟩) ⟨tQ_blind, va_recv hK hP (ci := 11) (q0 := 0) rfl rfl, tQ_at hP hK hev hdv hZ⟩ rfl rfl hl.1 rfl (lv_room (Nat.le_of_ble_eq_true rfl)) dX11_point_2 ⟨(Nat.le_of_ble_eq_true rfl), (Nat.le_of_ble_eq_true rfl)⟩) rfl hS hA (fun ce q9 H1 locs1 hz1 hk1 hS hce hcv hcl => ?_)
  exact vx_out (fun x h => (htb x h).elim) hlocks hce hcv hcl (fun t ht hvm => ⟨rfl, by rw [ht]; exact hz1, fun q h1 _ => by rw [ht]; exact hk1 q h1⟩) hS.2.2 (Nat.le_of_ble_eq_true rfl) (Nat.le_of_ble_eq_true rfl)
def wk_X11_add : List Cond := .code yX11_add cX11_add 6 (some .int) :: wU
set_option maxHeartbeats 4000000 in
set_option maxRecDepth 100000 in
theorem t_X11_add (l : Launch) (hst : l.stackTraces = false) (dC : Nat → ClassId) (dI : Nat → Nat → Nat) (h0 sz : Nat) (fs : List Value) (c0 d0 : Int32) (hf : xF fs) : vx_Met l yX11_add wk_X11_add ({ frames := 8, cells := 1, slots := 6, locals := 152 } : Room) (tQ dC dI [(h0, .inr (11, fs))] sz [.ref h0, .int c0, .int d0]) (fun _ _ _ _ => False) (px_X nIOO sz) 1 6 (nw sz) := by
  refine vx_ofW (cc := cX11_add) (maxL := 6) (ret := (some .int)) (by decide) rfl ?_
  intro p e s m args below meth c s₁ B hml htb hv
  obtain ⟨rfl, hsz, hP, hK, hev, hdv, hZ⟩ := hv
  have hx := B.exec
  have hb := B.bytes
  have hr := B.returns
  have hts := atoms_spec (ws := wk_X11_add) B.pre
  have hu : ∀ w ∈ wU, w.before ([.ref h0, .int c0, .int d0] : List Value).toArray s = true := fun w h => hts w (List.mem_cons_of_mem _ h)
  have hown : s.vm.findClass RX11 = some m.cls := findClass_of_methodNamed B.named
  have hlocks := B.notSynchronized
  subst hsz
  have hA : ∀ q : Nat, s.heap.size ≤ q → nw s.heap.size q := fun _ h => h
  have hS : va_S (nw s.heap.size) s.heap s.heap [] := va_S.rf
  have hl := lv_entry ([.ref h0, .int c0, .int d0]) (n := 6) (Nat.le_of_ble_eq_true rfl)
  rw [lg_entry_eq]
  generalize (lg_sl ([.ref h0, .int c0, .int d0]) ++ List.replicate (6 - (lg_sl ([.ref h0, .int c0, .int d0])).length) Slot.unset).toArray = ls at hl ⊢
  have hl : lv_has ls 6 [(0, .ref h0), (1, .int c0), (2, .int d0)] := hl
  refine lv_aload_n hx hb dX11_add_0 rfl (lv_at hl 0 rfl) ?_
  refine lv_iload_n hx hb dX11_add_1 rfl (lv_at hl 1 rfl) ?_
  refine px_call (vx_runV (As := [.int c0]) (rest := []) ⟨hx, hb, hml, hown, hu⟩ (t_X11_spotAt l hst dC dI h0 _ fs (c0) hf) (cwV 1 hu (gV u442 u443 u444 u432 u445) rfl rfl rfl (by decide +kernel) ⟨(Nat.le_of_ble_eq_true rfl), (Nat.le_of_ble_eq_true rfl)⟩) ⟨tQ_blind, va_recv hK hP (ci := 11) (q0 := 0) rfl rfl, tQ_at hP hK hev hdv hZ⟩ rfl rfl hl.1 rfl (lv_room (Nat.le_of_ble_eq_true rfl)) dX11_add_2 ⟨(Nat.le_of_ble_eq_true rfl), (Nat.le_of_ble_eq_true rfl)⟩) rfl hS hA (fun ce q9 H1 locs1 hz1 hk1 hS hce hcv hcl => ?_)
  exact vx_out (fun x h => (htb x h).elim) hlocks hce hcv hcl (fun t ht hvm => ⟨rfl, by rw [ht]; exact hz1, fun q h1 _ => by rw [ht]; exact hk1 q h1⟩) hS.2.2 (Nat.le_of_ble_eq_true rfl) (Nat.le_of_ble_eq_true rfl)
def wk_X11_mirror : List Cond := .code yX11_mirror cX11_mirror 4 (some .int) :: wU
set_option maxHeartbeats 4000000 in
set_option maxRecDepth 100000 in
theorem t_X11_mirror (l : Launch) (hst : l.stackTraces = false) (dC : Nat → ClassId) (dI : Nat → Nat → Nat) (h0 sz : Nat) (fs : List Value) (c0 : Int32) (hf : xF fs) : vx_Met l yX11_mirror wk_X11_mirror ({ frames := 8, cells := 1, slots := 6, locals := 152 } : Room) (tQ dC dI [(h0, .inr (11, fs))] sz [.ref h0, .int c0]) (fun _ _ _ _ => False) (px_X nIOO sz) 1 6 (nw sz) := by
  refine vx_ofW (cc := cX11_mirror) (maxL := 4) (ret := (some .int)) (by decide) rfl ?_
  intro p e s m args below meth c s₁ B hml htb hv
  obtain ⟨rfl, hsz, hP, hK, hev, hdv, hZ⟩ := hv
  have hx := B.exec
  have hb := B.bytes
  have hr := B.returns
  have hts := atoms_spec (ws := wk_X11_mirror) B.pre
  have hu : ∀ w ∈ wU, w.before ([.ref h0, .int c0] : List Value).toArray s = true := fun w h => hts w (List.mem_cons_of_mem _ h)
  have hown : s.vm.findClass RX11 = some m.cls := findClass_of_methodNamed B.named
  have hlocks := B.notSynchronized
  subst hsz
  have hA : ∀ q : Nat, s.heap.size ≤ q → nw s.heap.size q := fun _ h => h
  have hS : va_S (nw s.heap.size) s.heap s.heap [] := va_S.rf
  have hl := lv_entry ([.ref h0, .int c0]) (n := 4) (Nat.le_of_ble_eq_true rfl)
  rw [lg_entry_eq]
  generalize (lg_sl ([.ref h0, .int c0]) ++ List.replicate (4 - (lg_sl ([.ref h0, .int c0])).length) Slot.unset).toArray = ls at hl ⊢
  have hl : lv_has ls 4 [(0, .ref h0), (1, .int c0)] := hl
  refine lv_aload_n hx hb dX11_mirror_0 rfl (lv_at hl 0 rfl) ?_
  refine lv_iload_n hx hb dX11_mirror_1 rfl (lv_at hl 1 rfl) ?_
  refine px_call (vx_runV (As := [.int c0]) (rest := []) ⟨hx, hb, hml, hown, hu⟩ (t_X11_spotAt l hst dC dI h0 _ fs (c0) hf) (cwV 1 hu (gV u442 u443 u444 u432 u445) rfl rfl rfl (by decide +kernel) ⟨(Nat.le_of_ble_eq_true rfl), (Nat.le_of_ble_eq_true rfl)⟩) ⟨tQ_blind, va_recv hK hP (ci := 11) (q0 := 0) rfl rfl, tQ_at hP hK hev hdv hZ⟩ rfl rfl hl.1 rfl (lv_room (Nat.le_of_ble_eq_true rfl)) dX11_mirror_2 ⟨(Nat.le_of_ble_eq_true rfl), (Nat.le_of_ble_eq_true rfl)⟩) rfl hS hA (fun ce q9 H1 locs1 hz1 hk1 hS hce hcv hcl => ?_)
  exact vx_out (fun x h => (htb x h).elim) hlocks hce hcv hcl (fun t ht hvm => ⟨rfl, by rw [ht]; exact hz1, fun q h1 _ => by rw [ht]; exact hk1 q h1⟩) hS.2.2 (Nat.le_of_ble_eq_true rfl) (Nat.le_of_ble_eq_true rfl)
def wk_X11_times : List Cond := .code yX11_times cX11_times 7 (some .int) :: wU
set_option maxHeartbeats 4000000 in
set_option maxRecDepth 100000 in
theorem t_X11_times (l : Launch) (hst : l.stackTraces = false) (dC : Nat → ClassId) (dI : Nat → Nat → Nat) (h0 sz : Nat) (fs : List Value) (c0 d0 : Int32) (hf : xF fs) : vx_Met l yX11_times wk_X11_times ({ frames := 8, cells := 1, slots := 6, locals := 152 } : Room) (tQ dC dI [(h0, .inr (11, fs))] sz [.ref h0, .int c0, .int d0]) (fun _ _ _ _ => False) (px_X nIOO sz) 1 6 (nw sz) := by
  refine vx_ofW (cc := cX11_times) (maxL := 7) (ret := (some .int)) (by decide) rfl ?_
  intro p e s m args below meth c s₁ B hml htb hv
  obtain ⟨rfl, hsz, hP, hK, hev, hdv, hZ⟩ := hv
  have hx := B.exec
  have hb := B.bytes
  have hr := B.returns
  have hts := atoms_spec (ws := wk_X11_times) B.pre
  have hu : ∀ w ∈ wU, w.before ([.ref h0, .int c0, .int d0] : List Value).toArray s = true := fun w h => hts w (List.mem_cons_of_mem _ h)
  have hown : s.vm.findClass RX11 = some m.cls := findClass_of_methodNamed B.named
  have hlocks := B.notSynchronized
  subst hsz
  have hA : ∀ q : Nat, s.heap.size ≤ q → nw s.heap.size q := fun _ h => h
  have hS : va_S (nw s.heap.size) s.heap s.heap [] := va_S.rf
  have hl := lv_entry ([.ref h0, .int c0, .int d0]) (n := 7) (Nat.le_of_ble_eq_true rfl)
  rw [lg_entry_eq]
  generalize (lg_sl ([.ref h0, .int c0, .int d0]) ++ List.replicate (7 - (lg_sl ([.ref h0, .int c0, .int d0])).length) Slot.unset).toArray = ls at hl ⊢
  have hl : lv_has ls 7 [(0, .ref h0), (1, .int c0), (2, .int d0)] := hl
  refine lv_aload_n hx hb dX11_times_0 rfl (lv_at hl 0 rfl) ?_
  refine lv_iload_n hx hb dX11_times_1 rfl (lv_at hl 1 rfl) ?_
  refine px_call (vx_runV (As := [.int c0]) (rest := []) ⟨hx, hb, hml, hown, hu⟩ (t_X11_spotAt l hst dC dI h0 _ fs (c0) hf) (cwV 1 hu (gV u442 u443 u444 u432 u445) rfl rfl rfl (by decide +kernel) ⟨(Nat.le_of_ble_eq_true rfl), (Nat.le_of_ble_eq_true rfl)⟩) ⟨tQ_blind, va_recv hK hP (ci := 11) (q0 := 0) rfl rfl, tQ_at hP hK hev hdv hZ⟩ rfl rfl hl.1 rfl (lv_room (Nat.le_of_ble_eq_true rfl)) dX11_times_2 ⟨(Nat.le_of_ble_eq_true rfl), (Nat.le_of_ble_eq_true rfl)⟩) rfl hS hA (fun ce q9 H1 locs1 hz1 hk1 hS hce hcv hcl => ?_)
  exact vx_out (fun x h => (htb x h).elim) hlocks hce hcv hcl (fun t ht hvm => ⟨rfl, by rw [ht]; exact hz1, fun q h1 _ => by rw [ht]; exact hk1 q h1⟩) hS.2.2 (Nat.le_of_ble_eq_true rfl) (Nat.le_of_ble_eq_true rfl)
def wk_X11_order : List Cond := .code yX11_order cX11_order 3 (some .int) :: wU
set_option maxHeartbeats 4000000 in
set_option maxRecDepth 100000 in
theorem t_X11_order (l : Launch) (hst : l.stackTraces = false) (dC : Nat → ClassId) (dI : Nat → Nat → Nat) (h0 sz : Nat) (fs : List Value) (c0 : Int32) (hf : xF fs) : vx_Met l yX11_order wk_X11_order ({ frames := 8, cells := 1, slots := 6, locals := 152 } : Room) (tQ dC dI [(h0, .inr (11, fs))] sz [.ref h0, .int c0]) (fun _ _ _ _ => False) (px_X nIOO sz) 1 6 (nw sz) := by
  refine vx_ofW (cc := cX11_order) (maxL := 3) (ret := (some .int)) (by decide) rfl ?_
  intro p e s m args below meth c s₁ B hml htb hv
  obtain ⟨rfl, hsz, hP, hK, hev, hdv, hZ⟩ := hv
  have hx := B.exec
  have hb := B.bytes
  have hr := B.returns
  have hts := atoms_spec (ws := wk_X11_order) B.pre
  have hu : ∀ w ∈ wU, w.before ([.ref h0, .int c0] : List Value).toArray s = true := fun w h => hts w (List.mem_cons_of_mem _ h)
  have hown : s.vm.findClass RX11 = some m.cls := findClass_of_methodNamed B.named
  have hlocks := B.notSynchronized
  subst hsz
  have hA : ∀ q : Nat, s.heap.size ≤ q → nw s.heap.size q := fun _ h => h
  have hS : va_S (nw s.heap.size) s.heap s.heap [] := va_S.rf
  have hl := lv_entry ([.ref h0, .int c0]) (n := 3) (Nat.le_of_ble_eq_true rfl)
  rw [lg_entry_eq]
  generalize (lg_sl ([.ref h0, .int c0]) ++ List.replicate (3 - (lg_sl ([.ref h0, .int c0])).length) Slot.unset).toArray = ls at hl ⊢
  have hl : lv_has ls 3 [(0, .ref h0), (1, .int c0)] := hl
  refine lv_aload_n hx hb dX11_order_0 rfl (lv_at hl 0 rfl) ?_
  refine lv_iload_n hx hb dX11_order_1 rfl (lv_at hl 1 rfl) ?_
  refine px_call (vx_runV (As := [.int c0]) (rest := []) ⟨hx, hb, hml, hown, hu⟩ (t_X11_spotAt l hst dC dI h0 _ fs (c0) hf) (cwV 1 hu (gV u442 u443 u444 u432 u445) rfl rfl rfl (by decide +kernel) ⟨(Nat.le_of_ble_eq_true rfl), (Nat.le_of_ble_eq_true rfl)⟩) ⟨tQ_blind, va_recv hK hP (ci := 11) (q0 := 0) rfl rfl, tQ_at hP hK hev hdv hZ⟩ rfl rfl hl.1 rfl (lv_room (Nat.le_of_ble_eq_true rfl)) dX11_order_2 ⟨(Nat.le_of_ble_eq_true rfl), (Nat.le_of_ble_eq_true rfl)⟩) rfl hS hA (fun ce q9 H1 locs1 hz1 hk1 hS hce hcv hcl => ?_)
  exact vx_out (fun x h => (htb x h).elim) hlocks hce hcv hcl (fun t ht hvm => ⟨rfl, by rw [ht]; exact hz1, fun q h1 _ => by rw [ht]; exact hk1 q h1⟩) hS.2.2 (Nat.le_of_ble_eq_true rfl) (Nat.le_of_ble_eq_true rfl)
def wk_X11_told : List Cond := .code yX11_told cX11_told 4 (some .int) :: wU
set_option maxHeartbeats 4000000 in
set_option maxRecDepth 100000 in
theorem t_X11_told (l : Launch) (hst : l.stackTraces = false) (dC : Nat → ClassId) (dI : Nat → Nat → Nat) (h0 sz : Nat) (fs : List Value) (c0 d0 : Int32) (hf : xF fs) : vx_Met l yX11_told wk_X11_told ({ frames := 8, cells := 1, slots := 6, locals := 152 } : Room) (tQ dC dI [(h0, .inr (11, fs))] sz [.ref h0, .int c0, .int d0]) (fun _ _ _ _ => False) (px_X nIOO sz) 1 6 (nw sz) := by
  refine vx_ofW (cc := cX11_told) (maxL := 4) (ret := (some .int)) (by decide) rfl ?_
  intro p e s m args below meth c s₁ B hml htb hv
  obtain ⟨rfl, hsz, hP, hK, hev, hdv, hZ⟩ := hv
  have hx := B.exec
  have hb := B.bytes
  have hr := B.returns
  have hts := atoms_spec (ws := wk_X11_told) B.pre
  have hu : ∀ w ∈ wU, w.before ([.ref h0, .int c0, .int d0] : List Value).toArray s = true := fun w h => hts w (List.mem_cons_of_mem _ h)
  have hown : s.vm.findClass RX11 = some m.cls := findClass_of_methodNamed B.named
  have hlocks := B.notSynchronized
  subst hsz
  have hA : ∀ q : Nat, s.heap.size ≤ q → nw s.heap.size q := fun _ h => h
  have hS : va_S (nw s.heap.size) s.heap s.heap [] := va_S.rf
  have hl := lv_entry ([.ref h0, .int c0, .int d0]) (n := 4) (Nat.le_of_ble_eq_true rfl)
  rw [lg_entry_eq]
  generalize (lg_sl ([.ref h0, .int c0, .int d0]) ++ List.replicate (4 - (lg_sl ([.ref h0, .int c0, .int d0])).length) Slot.unset).toArray = ls at hl ⊢
  have hl : lv_has ls 4 [(0, .ref h0), (1, .int c0), (2, .int d0)] := hl
  refine lv_aload_n hx hb dX11_told_0 rfl (lv_at hl 0 rfl) ?_
  refine lv_iload_n hx hb dX11_told_1 rfl (lv_at hl 1 rfl) ?_
  refine px_call (vx_runV (As := [.int c0]) (rest := []) ⟨hx, hb, hml, hown, hu⟩ (t_X11_spotAt l hst dC dI h0 _ fs (c0) hf) (cwV 1 hu (gV u442 u443 u444 u432 u445) rfl rfl rfl (by decide +kernel) ⟨(Nat.le_of_ble_eq_true rfl), (Nat.le_of_ble_eq_true rfl)⟩) ⟨tQ_blind, va_recv hK hP (ci := 11) (q0 := 0) rfl rfl, tQ_at hP hK hev hdv hZ⟩ rfl rfl hl.1 rfl (lv_room (Nat.le_of_ble_eq_true rfl)) dX11_told_2 ⟨(Nat.le_of_ble_eq_true rfl), (Nat.le_of_ble_eq_true rfl)⟩) rfl hS hA (fun ce q9 H1 locs1 hz1 hk1 hS hce hcv hcl => ?_)
  exact vx_out (fun x h => (htb x h).elim) hlocks hce hcv hcl (fun t ht hvm => ⟨rfl, by rw [ht]; exact hz1, fun q h1 _ => by rw [ht]; exact hk1 q h1⟩) hS.2.2 (Nat.le_of_ble_eq_true rfl) (Nat.le_of_ble_eq_true rfl)
def wk_X11_print : List Cond := .code yX11_print cX11_print 4 (some .int) :: wU
set_option maxHeartbeats 4000000 in
set_option maxRecDepth 100000 in
theorem t_X11_print (l : Launch) (hst : l.stackTraces = false) (dC : Nat → ClassId) (dI : Nat → Nat → Nat) (h0 sz : Nat) (fs : List Value) (c0 d0 : Int32) (hf : xF fs) : vx_Met l yX11_print wk_X11_print ({ frames := 8, cells := 1, slots := 6, locals := 152 } : Room) (tQ dC dI [(h0, .inr (11, fs))] sz [.ref h0, .int c0, .int d0]) (fun _ _ _ _ => False) (px_X nIOO sz) 1 6 (nw sz) := by
  refine vx_ofW (cc := cX11_print) (maxL := 4) (ret := (some .int)) (by decide) rfl ?_
  intro p e s m args below meth c s₁ B hml htb hv
  obtain ⟨rfl, hsz, hP, hK, hev, hdv, hZ⟩ := hv
  have hx := B.exec
  have hb := B.bytes
  have hr := B.returns
  have hts := atoms_spec (ws := wk_X11_print) B.pre
  have hu : ∀ w ∈ wU, w.before ([.ref h0, .int c0, .int d0] : List Value).toArray s = true := fun w h => hts w (List.mem_cons_of_mem _ h)
  have hown : s.vm.findClass RX11 = some m.cls := findClass_of_methodNamed B.named
  have hlocks := B.notSynchronized
  subst hsz
  have hA : ∀ q : Nat, s.heap.size ≤ q → nw s.heap.size q := fun _ h => h
  have hS : va_S (nw s.heap.size) s.heap s.heap [] := va_S.rf
  have hl := lv_entry ([.ref h0, .int c0, .int d0]) (n := 4) (Nat.le_of_ble_eq_true rfl)
  rw [lg_entry_eq]
  generalize (lg_sl ([.ref h0, .int c0, .int d0]) ++ List.replicate (4 - (lg_sl ([.ref h0, .int c0, .int d0])).length) Slot.unset).toArray = ls at hl ⊢
  have hl : lv_has ls 4 [(0, .ref h0), (1, .int c0), (2, .int d0)] := hl
  refine lv_aload_n hx hb dX11_print_0 rfl (lv_at hl 0 rfl) ?_
  refine lv_iload_n hx hb dX11_print_1 rfl (lv_at hl 1 rfl) ?_
  refine px_call (vx_runV (As := [.int c0]) (rest := []) ⟨hx, hb, hml, hown, hu⟩ (t_X11_spotAt l hst dC dI h0 _ fs (c0) hf) (cwV 1 hu (gV u442 u443 u444 u432 u445) rfl rfl rfl (by decide +kernel) ⟨(Nat.le_of_ble_eq_true rfl), (Nat.le_of_ble_eq_true rfl)⟩) ⟨tQ_blind, va_recv hK hP (ci := 11) (q0 := 0) rfl rfl, tQ_at hP hK hev hdv hZ⟩ rfl rfl hl.1 rfl (lv_room (Nat.le_of_ble_eq_true rfl)) dX11_print_2 ⟨(Nat.le_of_ble_eq_true rfl), (Nat.le_of_ble_eq_true rfl)⟩) rfl hS hA (fun ce q9 H1 locs1 hz1 hk1 hS hce hcv hcl => ?_)
  exact vx_out (fun x h => (htb x h).elim) hlocks hce hcv hcl (fun t ht hvm => ⟨rfl, by rw [ht]; exact hz1, fun q h1 _ => by rw [ht]; exact hk1 q h1⟩) hS.2.2 (Nat.le_of_ble_eq_true rfl) (Nat.le_of_ble_eq_true rfl)
def wk_X11_back : List Cond := .code yX11_back cX11_back 2 (some .int) :: wU
set_option maxHeartbeats 4000000 in
set_option maxRecDepth 100000 in
theorem t_X11_back (l : Launch) (hst : l.stackTraces = false) (dC : Nat → ClassId) (dI : Nat → Nat → Nat) (h0 sz : Nat) (fs : List Value) (c0 : Int32) (hf : xF fs) : vx_Met l yX11_back wk_X11_back ({ frames := 9, cells := 1, slots := 6, locals := 174 } : Room) (tQ dC dI [(h0, .inr (11, fs))] sz [.ref h0, .int c0]) (fun _ _ _ _ => False) (px_X nIOO sz) 1 6 (nw sz) := by
  refine vx_ofW (cc := cX11_back) (maxL := 2) (ret := (some .int)) (by decide) rfl ?_
  intro p e s m args below meth c s₁ B hml htb hv
  obtain ⟨rfl, hsz, hP, hK, hev, hdv, hZ⟩ := hv
  have hx := B.exec
  have hb := B.bytes
  have hr := B.returns
  have hts := atoms_spec (ws := wk_X11_back) B.pre
  have hu : ∀ w ∈ wU, w.before ([.ref h0, .int c0] : List Value).toArray s = true := fun w h => hts w (List.mem_cons_of_mem _ h)
  have hown : s.vm.findClass RX11 = some m.cls := findClass_of_methodNamed B.named
  have hlocks := B.notSynchronized
  subst hsz
  have hA : ∀ q : Nat, s.heap.size ≤ q → nw s.heap.size q := fun _ h => h
  have hS : va_S (nw s.heap.size) s.heap s.heap [] := va_S.rf
  have hl := lv_entry ([.ref h0, .int c0]) (n := 2) (Nat.le_of_ble_eq_true rfl)
  rw [lg_entry_eq]
  generalize (lg_sl ([.ref h0, .int c0]) ++ List.replicate (2 - (lg_sl ([.ref h0, .int c0])).length) Slot.unset).toArray = ls at hl ⊢
  have hl : lv_has ls 2 [(0, .ref h0), (1, .int c0)] := hl
  obtain ⟨qt, hqt⟩ := hf.2.2.2.2
  refine lv_aload_n hx hb dX11_back_0 rfl (lv_at hl 0 rfl) ?_
  refine va_get (D := (dC, dI)) (ci := 11) (v := .ref qt) (C := RX11) (T := TX11) (N := 16) hx hb hu iX11 hown hK hP 0 rfl rfl 9 (by decide) (hu _ u123) (fun _ h9 => h9) hqt dX11_back_1 ?_
  refine lv_aload_n hx hb dX11_back_4 rfl (lv_at hl 0 rfl) ?_
  refine lv_iload_n hx hb dX11_back_5 rfl (lv_at hl 1 rfl) ?_
  refine px_call (vx_runV (As := [.int c0]) (rest := [.ref qt]) ⟨hx, hb, hml, hown, hu⟩ (t_X11_wholeCurve l hst dC dI h0 _ fs (c0) hf) (cwV 1 hu (gV u438 u439 u440 u432 u441) rfl rfl rfl (by decide +kernel) ⟨(Nat.le_of_ble_eq_true rfl), (Nat.le_of_ble_eq_true rfl)⟩) ⟨tQ_blind, va_recv hK hP (ci := 11) (q0 := 0) rfl rfl, tQ_at hP hK hev hdv hZ⟩ rfl rfl hl.1 rfl (lv_room (Nat.le_of_ble_eq_true rfl)) dX11_back_6 ⟨(Nat.le_of_ble_eq_true rfl), (Nat.le_of_ble_eq_true rfl)⟩) rfl hS hA (fun ce q9 H1 locs1 hz1 hk1 hS hce hcv hcl => ?_)
  exact vx_out (fun x h => (htb x h).elim) hlocks hce hcv hcl (fun t ht hvm => ⟨rfl, by rw [ht]; exact hz1, fun q h1 _ => by rw [ht]; exact hk1 q h1⟩) hS.2.2 (Nat.le_of_ble_eq_true rfl) (Nat.le_of_ble_eq_true rfl)
def wk_X11_backAt : List Cond := .code yX11_backAt cX11_backAt 4 (some .int) :: wU
set_option maxHeartbeats 4000000 in
set_option maxRecDepth 100000 in
theorem t_X11_backAt (l : Launch) (hst : l.stackTraces = false) (dC : Nat → ClassId) (dI : Nat → Nat → Nat) (h0 sz : Nat) (fs : List Value) (c0 d0 : Int32) (hf : xF fs) : vx_Met l yX11_backAt wk_X11_backAt ({ frames := 9, cells := 1, slots := 6, locals := 174 } : Room) (tQ dC dI [(h0, .inr (11, fs))] sz [.ref h0, .int c0, .int d0]) (fun _ _ _ _ => False) (px_X nIOO sz) 1 6 (nw sz) := by
  refine vx_ofW (cc := cX11_backAt) (maxL := 4) (ret := (some .int)) (by decide) rfl ?_
  intro p e s m args below meth c s₁ B hml htb hv
  obtain ⟨rfl, hsz, hP, hK, hev, hdv, hZ⟩ := hv
  have hx := B.exec
  have hb := B.bytes
  have hr := B.returns
  have hts := atoms_spec (ws := wk_X11_backAt) B.pre
  have hu : ∀ w ∈ wU, w.before ([.ref h0, .int c0, .int d0] : List Value).toArray s = true := fun w h => hts w (List.mem_cons_of_mem _ h)
  have hown : s.vm.findClass RX11 = some m.cls := findClass_of_methodNamed B.named
  have hlocks := B.notSynchronized
  subst hsz
  have hA : ∀ q : Nat, s.heap.size ≤ q → nw s.heap.size q := fun _ h => h
  have hS : va_S (nw s.heap.size) s.heap s.heap [] := va_S.rf
  have hl := lv_entry ([.ref h0, .int c0, .int d0]) (n := 4) (Nat.le_of_ble_eq_true rfl)
  rw [lg_entry_eq]
  generalize (lg_sl ([.ref h0, .int c0, .int d0]) ++ List.replicate (4 - (lg_sl ([.ref h0, .int c0, .int d0])).length) Slot.unset).toArray = ls at hl ⊢
  have hl : lv_has ls 4 [(0, .ref h0), (1, .int c0), (2, .int d0)] := hl
  refine lv_aload_n hx hb dX11_backAt_0 rfl (lv_at hl 0 rfl) ?_
  refine lv_iload_n hx hb dX11_backAt_1 rfl (lv_at hl 1 rfl) ?_
  refine px_call (vx_runV (As := [.int c0]) (rest := []) ⟨hx, hb, hml, hown, hu⟩ (t_X11_wholeCurve l hst dC dI h0 _ fs (c0) hf) (cwV 1 hu (gV u438 u439 u440 u432 u441) rfl rfl rfl (by decide +kernel) ⟨(Nat.le_of_ble_eq_true rfl), (Nat.le_of_ble_eq_true rfl)⟩) ⟨tQ_blind, va_recv hK hP (ci := 11) (q0 := 0) rfl rfl, tQ_at hP hK hev hdv hZ⟩ rfl rfl hl.1 rfl (lv_room (Nat.le_of_ble_eq_true rfl)) dX11_backAt_2 ⟨(Nat.le_of_ble_eq_true rfl), (Nat.le_of_ble_eq_true rfl)⟩) rfl hS hA (fun ce q9 H1 locs1 hz1 hk1 hS hce hcv hcl => ?_)
  exact vx_out (fun x h => (htb x h).elim) hlocks hce hcv hcl (fun t ht hvm => ⟨rfl, by rw [ht]; exact hz1, fun q h1 _ => by rw [ht]; exact hk1 q h1⟩) hS.2.2 (Nat.le_of_ble_eq_true rfl) (Nat.le_of_ble_eq_true rfl)
def wk_X11_search : List Cond := .code yX11_search cX11_search 4 (some .int) :: wU
set_option maxHeartbeats 4000000 in
set_option maxRecDepth 100000 in
theorem t_X11_search (l : Launch) (hst : l.stackTraces = false) (dC : Nat → ClassId) (dI : Nat → Nat → Nat) (h0 sz : Nat) (fs : List Value) (c0 d0 : Int32) (hf : xF fs) : vx_Met l yX11_search wk_X11_search ({ frames := 9, cells := 1, slots := 6, locals := 174 } : Room) (tQ dC dI [(h0, .inr (11, fs))] sz [.ref h0, .int c0, .int d0]) (fun _ _ _ _ => False) (px_X nIOO sz) 1 6 (nw sz) := by
  refine vx_ofW (cc := cX11_search) (maxL := 4) (ret := (some .int)) (by decide) rfl ?_
  intro p e s m args below meth c s₁ B hml htb hv
  obtain ⟨rfl, hsz, hP, hK, hev, hdv, hZ⟩ := hv
  have hx := B.exec
  have hb := B.bytes
  have hr := B.returns
  have hts := atoms_spec (ws := wk_X11_search) B.pre
  have hu : ∀ w ∈ wU, w.before ([.ref h0, .int c0, .int d0] : List Value).toArray s = true := fun w h => hts w (List.mem_cons_of_mem _ h)
  have hown : s.vm.findClass RX11 = some m.cls := findClass_of_methodNamed B.named
  have hlocks := B.notSynchronized
  subst hsz
  have hA : ∀ q : Nat, s.heap.size ≤ q → nw s.heap.size q := fun _ h => h
  have hS : va_S (nw s.heap.size) s.heap s.heap [] := va_S.rf
  have hl := lv_entry ([.ref h0, .int c0, .int d0]) (n := 4) (Nat.le_of_ble_eq_true rfl)
  rw [lg_entry_eq]
  generalize (lg_sl ([.ref h0, .int c0, .int d0]) ++ List.replicate (4 - (lg_sl ([.ref h0, .int c0, .int d0])).length) Slot.unset).toArray = ls at hl ⊢
  have hl : lv_has ls 4 [(0, .ref h0), (1, .int c0), (2, .int d0)] := hl
  refine lv_aload_n hx hb dX11_search_0 rfl (lv_at hl 0 rfl) ?_
  refine lv_iload_n hx hb dX11_search_1 rfl (lv_at hl 1 rfl) ?_
  refine px_call (vx_runV (As := [.int c0]) (rest := []) ⟨hx, hb, hml, hown, hu⟩ (t_X11_wholeCurve l hst dC dI h0 _ fs (c0) hf) (cwV 1 hu (gV u438 u439 u440 u432 u441) rfl rfl rfl (by decide +kernel) ⟨(Nat.le_of_ble_eq_true rfl), (Nat.le_of_ble_eq_true rfl)⟩) ⟨tQ_blind, va_recv hK hP (ci := 11) (q0 := 0) rfl rfl, tQ_at hP hK hev hdv hZ⟩ rfl rfl hl.1 rfl (lv_room (Nat.le_of_ble_eq_true rfl)) dX11_search_2 ⟨(Nat.le_of_ble_eq_true rfl), (Nat.le_of_ble_eq_true rfl)⟩) rfl hS hA (fun ce q9 H1 locs1 hz1 hk1 hS hce hcv hcl => ?_)
  exact vx_out (fun x h => (htb x h).elim) hlocks hce hcv hcl (fun t ht hvm => ⟨rfl, by rw [ht]; exact hz1, fun q h1 _ => by rw [ht]; exact hk1 q h1⟩) hS.2.2 (Nat.le_of_ble_eq_true rfl) (Nat.le_of_ble_eq_true rfl)
def wk_X11_count : List Cond := .code yX11_count cX11_count 2 (some .int) :: wU
set_option maxHeartbeats 4000000 in
set_option maxRecDepth 100000 in
theorem t_X11_count (l : Launch) (hst : l.stackTraces = false) (dC : Nat → ClassId) (dI : Nat → Nat → Nat) (h0 sz : Nat) (fs : List Value) (c0 : Int32) (hf : xF fs) : vx_Met l yX11_count wk_X11_count ({ frames := 9, cells := 1, slots := 6, locals := 174 } : Room) (tQ dC dI [(h0, .inr (11, fs))] sz [.ref h0, .int c0]) (fun _ _ _ _ => False) (px_X nIOO sz) 1 6 (nw sz) := by
  refine vx_ofW (cc := cX11_count) (maxL := 2) (ret := (some .int)) (by decide) rfl ?_
  intro p e s m args below meth c s₁ B hml htb hv
  obtain ⟨rfl, hsz, hP, hK, hev, hdv, hZ⟩ := hv
  have hx := B.exec
  have hb := B.bytes
  have hr := B.returns
  have hts := atoms_spec (ws := wk_X11_count) B.pre
  have hu : ∀ w ∈ wU, w.before ([.ref h0, .int c0] : List Value).toArray s = true := fun w h => hts w (List.mem_cons_of_mem _ h)
  have hown : s.vm.findClass RX11 = some m.cls := findClass_of_methodNamed B.named
  have hlocks := B.notSynchronized
  subst hsz
  have hA : ∀ q : Nat, s.heap.size ≤ q → nw s.heap.size q := fun _ h => h
  have hS : va_S (nw s.heap.size) s.heap s.heap [] := va_S.rf
  have hl := lv_entry ([.ref h0, .int c0]) (n := 2) (Nat.le_of_ble_eq_true rfl)
  rw [lg_entry_eq]
  generalize (lg_sl ([.ref h0, .int c0]) ++ List.replicate (2 - (lg_sl ([.ref h0, .int c0])).length) Slot.unset).toArray = ls at hl ⊢
  have hl : lv_has ls 2 [(0, .ref h0), (1, .int c0)] := hl
  refine lv_aload_n hx hb dX11_count_0 rfl (lv_at hl 0 rfl) ?_
  refine lv_aload_n hx hb dX11_count_1 rfl (lv_at hl 0 rfl) ?_
  refine lv_iload_n hx hb dX11_count_2 rfl (lv_at hl 1 rfl) ?_
  refine px_call (vx_runV (As := [.int c0]) (rest := [.ref h0]) ⟨hx, hb, hml, hown, hu⟩ (t_X11_restCurve l hst dC dI h0 _ fs (c0) hf) (cwV 1 hu (gV u434 u435 u436 u432 u437) rfl rfl rfl (by decide +kernel) ⟨(Nat.le_of_ble_eq_true rfl), (Nat.le_of_ble_eq_true rfl)⟩) ⟨tQ_blind, va_recv hK hP (ci := 11) (q0 := 0) rfl rfl, tQ_at hP hK hev hdv hZ⟩ rfl rfl hl.1 rfl (lv_room (Nat.le_of_ble_eq_true rfl)) dX11_count_3 ⟨(Nat.le_of_ble_eq_true rfl), (Nat.le_of_ble_eq_true rfl)⟩) rfl hS hA (fun ce q9 H1 locs1 hz1 hk1 hS hce hcv hcl => ?_)
  exact vx_out (fun x h => (htb x h).elim) hlocks hce hcv hcl (fun t ht hvm => ⟨rfl, by rw [ht]; exact hz1, fun q h1 _ => by rw [ht]; exact hk1 q h1⟩) hS.2.2 (Nat.le_of_ble_eq_true rfl) (Nat.le_of_ble_eq_true rfl)
def wk_X11_over : List Cond := .code yX11_over cX11_over 17 (some .long) :: wU
set_option maxHeartbeats 4000000 in
set_option maxRecDepth 100000 in
theorem t_X11_over (l : Launch) (hst : l.stackTraces = false) (dC : Nat → ClassId) (dI : Nat → Nat → Nat) (h0 sz : Nat) (fs : List Value) (c0 d0 : Int32) (hf : xF fs) : vx_Met l yX11_over wk_X11_over ({ frames := 9, cells := 1, slots := 6, locals := 174 } : Room) (tQ dC dI [(h0, .inr (11, fs))] sz [.ref h0, .int c0, .int d0]) (fun _ _ _ _ => False) (px_X nIOO sz) 1 6 (nw sz) := by
  refine vx_ofW (cc := cX11_over) (maxL := 17) (ret := (some .long)) (by decide) rfl ?_
  intro p e s m args below meth c s₁ B hml htb hv
  obtain ⟨rfl, hsz, hP, hK, hev, hdv, hZ⟩ := hv
  have hx := B.exec
  have hb := B.bytes
  have hr := B.returns
  have hts := atoms_spec (ws := wk_X11_over) B.pre
  have hu : ∀ w ∈ wU, w.before ([.ref h0, .int c0, .int d0] : List Value).toArray s = true := fun w h => hts w (List.mem_cons_of_mem _ h)
  have hown : s.vm.findClass RX11 = some m.cls := findClass_of_methodNamed B.named
  have hlocks := B.notSynchronized
  subst hsz
  have hA : ∀ q : Nat, s.heap.size ≤ q → nw s.heap.size q := fun _ h => h
  have hS : va_S (nw s.heap.size) s.heap s.heap [] := va_S.rf
  have hl := lv_entry ([.ref h0, .int c0, .int d0]) (n := 17) (Nat.le_of_ble_eq_true rfl)
  rw [lg_entry_eq]
  generalize (lg_sl ([.ref h0, .int c0, .int d0]) ++ List.replicate (17 - (lg_sl ([.ref h0, .int c0, .int d0])).length) Slot.unset).toArray = ls at hl ⊢
  have hl : lv_has ls 17 [(0, .ref h0), (1, .int c0), (2, .int d0)] := hl
  refine lv_aload_n hx hb dX11_over_0 rfl (lv_at hl 0 rfl) ?_
  refine lv_iload_n hx hb dX11_over_1 rfl (lv_at hl 1 rfl) ?_
  refine px_call (vx_runV (As := [.int c0]) (rest := []) ⟨hx, hb, hml, hown, hu⟩ (t_X11_restCurve l hst dC dI h0 _ fs (c0) hf) (cwV 1 hu (gV u434 u435 u436 u432 u437) rfl rfl rfl (by decide +kernel) ⟨(Nat.le_of_ble_eq_true rfl), (Nat.le_of_ble_eq_true rfl)⟩) ⟨tQ_blind, va_recv hK hP (ci := 11) (q0 := 0) rfl rfl, tQ_at hP hK hev hdv hZ⟩ rfl rfl hl.1 rfl (lv_room (Nat.le_of_ble_eq_true rfl)) dX11_over_2 ⟨(Nat.le_of_ble_eq_true rfl), (Nat.le_of_ble_eq_true rfl)⟩) rfl hS hA (fun ce q9 H1 locs1 hz1 hk1 hS hce hcv hcl => ?_)
  exact vx_out (fun x h => (htb x h).elim) hlocks hce hcv hcl (fun t ht hvm => ⟨rfl, by rw [ht]; exact hz1, fun q h1 _ => by rw [ht]; exact hk1 q h1⟩) hS.2.2 (Nat.le_of_ble_eq_true rfl) (Nat.le_of_ble_eq_true rfl)
def wk_X11_list : List Cond := .code yX11_list cX11_list 4 (some .int) :: wU
set_option maxHeartbeats 4000000 in
set_option maxRecDepth 100000 in
theorem t_X11_list (l : Launch) (hst : l.stackTraces = false) (dC : Nat → ClassId) (dI : Nat → Nat → Nat) (h0 sz : Nat) (fs : List Value) (c0 d0 : Int32) (hf : xF fs) : vx_Met l yX11_list wk_X11_list ({ frames := 10, cells := 1, slots := 6, locals := 196 } : Room) (tQ dC dI [(h0, .inr (11, fs))] sz [.ref h0, .int c0, .int d0]) (fun _ _ _ _ => False) (px_X nIOO sz) 1 6 (nw sz) := by
  refine vx_ofW (cc := cX11_list) (maxL := 4) (ret := (some .int)) (by decide) rfl ?_
  intro p e s m args below meth c s₁ B hml htb hv
  obtain ⟨rfl, hsz, hP, hK, hev, hdv, hZ⟩ := hv
  have hx := B.exec
  have hb := B.bytes
  have hr := B.returns
  have hts := atoms_spec (ws := wk_X11_list) B.pre
  have hu : ∀ w ∈ wU, w.before ([.ref h0, .int c0, .int d0] : List Value).toArray s = true := fun w h => hts w (List.mem_cons_of_mem _ h)
  have hown : s.vm.findClass RX11 = some m.cls := findClass_of_methodNamed B.named
  have hlocks := B.notSynchronized
  subst hsz
  have hA : ∀ q : Nat, s.heap.size ≤ q → nw s.heap.size q := fun _ h => h
  have hS : va_S (nw s.heap.size) s.heap s.heap [] := va_S.rf
  have hl := lv_entry ([.ref h0, .int c0, .int d0]) (n := 4) (Nat.le_of_ble_eq_true rfl)
  rw [lg_entry_eq]
  generalize (lg_sl ([.ref h0, .int c0, .int d0]) ++ List.replicate (4 - (lg_sl ([.ref h0, .int c0, .int d0])).length) Slot.unset).toArray = ls at hl ⊢
  have hl : lv_has ls 4 [(0, .ref h0), (1, .int c0), (2, .int d0)] := hl
  refine lv_aload_n hx hb dX11_list_0 rfl (lv_at hl 0 rfl) ?_
  refine lv_iload_n hx hb dX11_list_1 rfl (lv_at hl 1 rfl) ?_
  refine px_call (vx_runV (As := [.int c0]) (rest := []) ⟨hx, hb, hml, hown, hu⟩ (t_X11_listedCurve l hst dC dI h0 _ fs (c0) hf) (cwV 1 hu (gV u446 u447 u448 u432 u449) rfl rfl rfl (by decide +kernel) ⟨(Nat.le_of_ble_eq_true rfl), (Nat.le_of_ble_eq_true rfl)⟩) ⟨tQ_blind, va_recv hK hP (ci := 11) (q0 := 0) rfl rfl, tQ_at hP hK hev hdv hZ⟩ rfl rfl hl.1 rfl (lv_room (Nat.le_of_ble_eq_true rfl)) dX11_list_2 ⟨(Nat.le_of_ble_eq_true rfl), (Nat.le_of_ble_eq_true rfl)⟩) rfl hS hA (fun ce q9 H1 locs1 hz1 hk1 hS hce hcv hcl => ?_)
  exact vx_out (fun x h => (htb x h).elim) hlocks hce hcv hcl (fun t ht hvm => ⟨rfl, by rw [ht]; exact hz1, fun q h1 _ => by rw [ht]; exact hk1 q h1⟩) hS.2.2 (Nat.le_of_ble_eq_true rfl) (Nat.le_of_ble_eq_true rfl)
def wk_X11_group : List Cond := .code yX11_group cX11_group 4 (some .int) :: wU
set_option maxHeartbeats 4000000 in
set_option maxRecDepth 100000 in
theorem t_X11_group (l : Launch) (hst : l.stackTraces = false) (dC : Nat → ClassId) (dI : Nat → Nat → Nat) (h0 sz : Nat) (fs : List Value) (c0 d0 : Int32) (hf : xF fs) : vx_Met l yX11_group wk_X11_group ({ frames := 10, cells := 1, slots := 6, locals := 196 } : Room) (tQ dC dI [(h0, .inr (11, fs))] sz [.ref h0, .int c0, .int d0]) (fun _ _ _ _ => False) (px_X nIOO sz) 1 6 (nw sz) := by
  refine vx_ofW (cc := cX11_group) (maxL := 4) (ret := (some .int)) (by decide) rfl ?_
  intro p e s m args below meth c s₁ B hml htb hv
  obtain ⟨rfl, hsz, hP, hK, hev, hdv, hZ⟩ := hv
  have hx := B.exec
  have hb := B.bytes
  have hr := B.returns
  have hts := atoms_spec (ws := wk_X11_group) B.pre
  have hu : ∀ w ∈ wU, w.before ([.ref h0, .int c0, .int d0] : List Value).toArray s = true := fun w h => hts w (List.mem_cons_of_mem _ h)
  have hown : s.vm.findClass RX11 = some m.cls := findClass_of_methodNamed B.named
  have hlocks := B.notSynchronized
  subst hsz
  have hA : ∀ q : Nat, s.heap.size ≤ q → nw s.heap.size q := fun _ h => h
  have hS : va_S (nw s.heap.size) s.heap s.heap [] := va_S.rf
  have hl := lv_entry ([.ref h0, .int c0, .int d0]) (n := 4) (Nat.le_of_ble_eq_true rfl)
  rw [lg_entry_eq]
  generalize (lg_sl ([.ref h0, .int c0, .int d0]) ++ List.replicate (4 - (lg_sl ([.ref h0, .int c0, .int d0])).length) Slot.unset).toArray = ls at hl ⊢
  have hl : lv_has ls 4 [(0, .ref h0), (1, .int c0), (2, .int d0)] := hl
  refine lv_aload_n hx hb dX11_group_0 rfl (lv_at hl 0 rfl) ?_
  refine lv_iload_n hx hb dX11_group_1 rfl (lv_at hl 1 rfl) ?_
  refine px_call (vx_runV (As := [.int c0]) (rest := []) ⟨hx, hb, hml, hown, hu⟩ (t_X11_listedCurve l hst dC dI h0 _ fs (c0) hf) (cwV 1 hu (gV u446 u447 u448 u432 u449) rfl rfl rfl (by decide +kernel) ⟨(Nat.le_of_ble_eq_true rfl), (Nat.le_of_ble_eq_true rfl)⟩) ⟨tQ_blind, va_recv hK hP (ci := 11) (q0 := 0) rfl rfl, tQ_at hP hK hev hdv hZ⟩ rfl rfl hl.1 rfl (lv_room (Nat.le_of_ble_eq_true rfl)) dX11_group_2 ⟨(Nat.le_of_ble_eq_true rfl), (Nat.le_of_ble_eq_true rfl)⟩) rfl hS hA (fun ce q9 H1 locs1 hz1 hk1 hS hce hcv hcl => ?_)
  exact vx_out (fun x h => (htb x h).elim) hlocks hce hcv hcl (fun t ht hvm => ⟨rfl, by rw [ht]; exact hz1, fun q h1 _ => by rw [ht]; exact hk1 q h1⟩) hS.2.2 (Nat.le_of_ble_eq_true rfl) (Nat.le_of_ble_eq_true rfl)
def wk_X11_pair : List Cond := .code yX11_pair cX11_pair 7 (some .int) :: wU
set_option maxHeartbeats 4000000 in
set_option maxRecDepth 100000 in
theorem t_X11_pair (l : Launch) (hst : l.stackTraces = false) (dC : Nat → ClassId) (dI : Nat → Nat → Nat) (h0 sz : Nat) (fs : List Value) (c0 d0 e0 : Int32) (hf : xF fs) : vx_Met l yX11_pair wk_X11_pair ({ frames := 8, cells := 1, slots := 6, locals := 152 } : Room) (tQ dC dI [(h0, .inr (11, fs))] sz [.ref h0, .int c0, .int d0, .int e0]) (fun _ _ _ _ => False) (px_X nIOO sz) 1 6 (nw sz) := by
  refine vx_ofW (cc := cX11_pair) (maxL := 7) (ret := (some .int)) (by decide) rfl ?_
  intro p e s m args below meth c s₁ B hml htb hv
  obtain ⟨rfl, hsz, hP, hK, hev, hdv, hZ⟩ := hv
  have hx := B.exec
  have hb := B.bytes
  have hr := B.returns
  have hts := atoms_spec (ws := wk_X11_pair) B.pre
  have hu : ∀ w ∈ wU, w.before ([.ref h0, .int c0, .int d0, .int e0] : List Value).toArray s = true := fun w h => hts w (List.mem_cons_of_mem _ h)
  have hown : s.vm.findClass RX11 = some m.cls := findClass_of_methodNamed B.named
  have hlocks := B.notSynchronized
  subst hsz
  have hA : ∀ q : Nat, s.heap.size ≤ q → nw s.heap.size q := fun _ h => h
  have hS : va_S (nw s.heap.size) s.heap s.heap [] := va_S.rf
  have hl := lv_entry ([.ref h0, .int c0, .int d0, .int e0]) (n := 7) (Nat.le_of_ble_eq_true rfl)
  rw [lg_entry_eq]
  generalize (lg_sl ([.ref h0, .int c0, .int d0, .int e0]) ++ List.replicate (7 - (lg_sl ([.ref h0, .int c0, .int d0, .int e0])).length) Slot.unset).toArray = ls at hl ⊢
  have hl : lv_has ls 7 [(0, .ref h0), (1, .int c0), (2, .int d0), (3, .int e0)] := hl
  refine lv_aload_n hx hb dX11_pair_0 rfl (lv_at hl 0 rfl) ?_
  refine lv_iload_n hx hb dX11_pair_1 rfl (lv_at hl 1 rfl) ?_
  refine px_call (vx_runV (As := [.int c0]) (rest := []) ⟨hx, hb, hml, hown, hu⟩ (t_X11_spotAt l hst dC dI h0 _ fs (c0) hf) (cwV 1 hu (gV u442 u443 u444 u432 u445) rfl rfl rfl (by decide +kernel) ⟨(Nat.le_of_ble_eq_true rfl), (Nat.le_of_ble_eq_true rfl)⟩) ⟨tQ_blind, va_recv hK hP (ci := 11) (q0 := 0) rfl rfl, tQ_at hP hK hev hdv hZ⟩ rfl rfl hl.1 rfl (lv_room (Nat.le_of_ble_eq_true rfl)) dX11_pair_2 ⟨(Nat.le_of_ble_eq_true rfl), (Nat.le_of_ble_eq_true rfl)⟩) rfl hS hA (fun ce q9 H1 locs1 hz1 hk1 hS hce hcv hcl => ?_)
  exact vx_out (fun x h => (htb x h).elim) hlocks hce hcv hcl (fun t ht hvm => ⟨rfl, by rw [ht]; exact hz1, fun q h1 _ => by rw [ht]; exact hk1 q h1⟩) hS.2.2 (Nat.le_of_ble_eq_true rfl) (Nat.le_of_ble_eq_true rfl)
def wk_X11_polynomial : List Cond := .code yX11_polynomial cX11_polynomial 4 (some .int) :: wU
set_option maxHeartbeats 4000000 in
set_option maxRecDepth 100000 in
theorem t_X11_polynomial (l : Launch) (hst : l.stackTraces = false) (dC : Nat → ClassId) (dI : Nat → Nat → Nat) (h0 sz : Nat) (fs : List Value) (c0 d0 : Int32) (hf : xF fs) : vx_Met l yX11_polynomial wk_X11_polynomial ({ frames := 10, cells := 1, slots := 6, locals := 196 } : Room) (tQ dC dI [(h0, .inr (11, fs))] sz [.ref h0, .int c0, .int d0]) (fun _ _ _ _ => False) (px_X nIOO sz) 1 6 (nw sz) := by
  refine vx_ofW (cc := cX11_polynomial) (maxL := 4) (ret := (some .int)) (by decide) rfl ?_
  intro p e s m args below meth c s₁ B hml htb hv
  obtain ⟨rfl, hsz, hP, hK, hev, hdv, hZ⟩ := hv
  have hx := B.exec
  have hb := B.bytes
  have hr := B.returns
  have hts := atoms_spec (ws := wk_X11_polynomial) B.pre
  have hu : ∀ w ∈ wU, w.before ([.ref h0, .int c0, .int d0] : List Value).toArray s = true := fun w h => hts w (List.mem_cons_of_mem _ h)
  have hown : s.vm.findClass RX11 = some m.cls := findClass_of_methodNamed B.named
  have hlocks := B.notSynchronized
  subst hsz
  have hA : ∀ q : Nat, s.heap.size ≤ q → nw s.heap.size q := fun _ h => h
  have hS : va_S (nw s.heap.size) s.heap s.heap [] := va_S.rf
  have hl := lv_entry ([.ref h0, .int c0, .int d0]) (n := 4) (Nat.le_of_ble_eq_true rfl)
  rw [lg_entry_eq]
  generalize (lg_sl ([.ref h0, .int c0, .int d0]) ++ List.replicate (4 - (lg_sl ([.ref h0, .int c0, .int d0])).length) Slot.unset).toArray = ls at hl ⊢
  have hl : lv_has ls 4 [(0, .ref h0), (1, .int c0), (2, .int d0)] := hl
  refine lv_aload_n hx hb dX11_polynomial_0 rfl (lv_at hl 0 rfl) ?_
  refine lv_iload_n hx hb dX11_polynomial_1 rfl (lv_at hl 1 rfl) ?_
  refine px_call (vx_runV (As := [.int c0]) (rest := []) ⟨hx, hb, hml, hown, hu⟩ (t_X11_listedCurve l hst dC dI h0 _ fs (c0) hf) (cwV 1 hu (gV u446 u447 u448 u432 u449) rfl rfl rfl (by decide +kernel) ⟨(Nat.le_of_ble_eq_true rfl), (Nat.le_of_ble_eq_true rfl)⟩) ⟨tQ_blind, va_recv hK hP (ci := 11) (q0 := 0) rfl rfl, tQ_at hP hK hev hdv hZ⟩ rfl rfl hl.1 rfl (lv_room (Nat.le_of_ble_eq_true rfl)) dX11_polynomial_2 ⟨(Nat.le_of_ble_eq_true rfl), (Nat.le_of_ble_eq_true rfl)⟩) rfl hS hA (fun ce q9 H1 locs1 hz1 hk1 hS hce hcv hcl => ?_)
  exact vx_out (fun x h => (htb x h).elim) hlocks hce hcv hcl (fun t ht hvm => ⟨rfl, by rw [ht]; exact hz1, fun q h1 _ => by rw [ht]; exact hk1 q h1⟩) hS.2.2 (Nat.le_of_ble_eq_true rfl) (Nat.le_of_ble_eq_true rfl)
def wk_X11_led : List Cond := .code yX11_led cX11_led 5 (some .int) :: wU
set_option maxHeartbeats 4000000 in
set_option maxRecDepth 100000 in
theorem t_X11_led (l : Launch) (hst : l.stackTraces = false) (dC : Nat → ClassId) (dI : Nat → Nat → Nat) (h0 sz : Nat) (fs : List Value) (c0 : Int32) (hf : xF fs) : vx_Met l yX11_led wk_X11_led ({ frames := 8, cells := 1, slots := 6, locals := 152 } : Room) (tQ dC dI [(h0, .inr (11, fs))] sz [.ref h0, .int c0]) (fun _ _ _ _ => False) (px_X nIOO sz) 1 6 (nw sz) := by
  refine vx_ofW (cc := cX11_led) (maxL := 5) (ret := (some .int)) (by decide) rfl ?_
  intro p e s m args below meth c s₁ B hml htb hv
  obtain ⟨rfl, hsz, hP, hK, hev, hdv, hZ⟩ := hv
  have hx := B.exec
  have hb := B.bytes
  have hr := B.returns
  have hts := atoms_spec (ws := wk_X11_led) B.pre
  have hu : ∀ w ∈ wU, w.before ([.ref h0, .int c0] : List Value).toArray s = true := fun w h => hts w (List.mem_cons_of_mem _ h)
  have hown : s.vm.findClass RX11 = some m.cls := findClass_of_methodNamed B.named
  have hlocks := B.notSynchronized
  subst hsz
  have hA : ∀ q : Nat, s.heap.size ≤ q → nw s.heap.size q := fun _ h => h
  have hS : va_S (nw s.heap.size) s.heap s.heap [] := va_S.rf
  have hl := lv_entry ([.ref h0, .int c0]) (n := 5) (Nat.le_of_ble_eq_true rfl)
  rw [lg_entry_eq]
  generalize (lg_sl ([.ref h0, .int c0]) ++ List.replicate (5 - (lg_sl ([.ref h0, .int c0])).length) Slot.unset).toArray = ls at hl ⊢
  have hl : lv_has ls 5 [(0, .ref h0), (1, .int c0)] := hl
  refine lv_aload_n hx hb dX11_led_0 rfl (lv_at hl 0 rfl) ?_
  refine lv_iload_n hx hb dX11_led_1 rfl (lv_at hl 1 rfl) ?_
  refine px_call (vx_runV (As := [.int c0]) (rest := []) ⟨hx, hb, hml, hown, hu⟩ (t_X11_spotAt l hst dC dI h0 _ fs (c0) hf) (cwV 1 hu (gV u442 u443 u444 u432 u445) rfl rfl rfl (by decide +kernel) ⟨(Nat.le_of_ble_eq_true rfl), (Nat.le_of_ble_eq_true rfl)⟩) ⟨tQ_blind, va_recv hK hP (ci := 11) (q0 := 0) rfl rfl, tQ_at hP hK hev hdv hZ⟩ rfl rfl hl.1 rfl (lv_room (Nat.le_of_ble_eq_true rfl)) dX11_led_2 ⟨(Nat.le_of_ble_eq_true rfl), (Nat.le_of_ble_eq_true rfl)⟩) rfl hS hA (fun ce q9 H1 locs1 hz1 hk1 hS hce hcv hcl => ?_)
  exact vx_out (fun x h => (htb x h).elim) hlocks hce hcv hcl (fun t ht hvm => ⟨rfl, by rw [ht]; exact hz1, fun q h1 _ => by rw [ht]; exact hk1 q h1⟩) hS.2.2 (Nat.le_of_ble_eq_true rfl) (Nat.le_of_ble_eq_true rfl)
def wk_X11_through : List Cond := .code yX11_through cX11_through 9 (some .int) :: wU
set_option maxHeartbeats 4000000 in
set_option maxRecDepth 100000 in
theorem t_X11_through (l : Launch) (hst : l.stackTraces = false) (dC : Nat → ClassId) (dI : Nat → Nat → Nat) (h0 sz : Nat) (fs : List Value) (c0 d0 : Int32) (hf : xF fs) : vx_Met l yX11_through wk_X11_through ({ frames := 8, cells := 1, slots := 6, locals := 152 } : Room) (tQ dC dI [(h0, .inr (11, fs))] sz [.ref h0, .int c0, .int d0]) (fun _ _ _ _ => False) (px_X nIOO sz) 1 6 (nw sz) := by
  refine vx_ofW (cc := cX11_through) (maxL := 9) (ret := (some .int)) (by decide) rfl ?_
  intro p e s m args below meth c s₁ B hml htb hv
  obtain ⟨rfl, hsz, hP, hK, hev, hdv, hZ⟩ := hv
  have hx := B.exec
  have hb := B.bytes
  have hr := B.returns
  have hts := atoms_spec (ws := wk_X11_through) B.pre
  have hu : ∀ w ∈ wU, w.before ([.ref h0, .int c0, .int d0] : List Value).toArray s = true := fun w h => hts w (List.mem_cons_of_mem _ h)
  have hown : s.vm.findClass RX11 = some m.cls := findClass_of_methodNamed B.named
  have hlocks := B.notSynchronized
  subst hsz
  have hA : ∀ q : Nat, s.heap.size ≤ q → nw s.heap.size q := fun _ h => h
  have hS : va_S (nw s.heap.size) s.heap s.heap [] := va_S.rf
  have hl := lv_entry ([.ref h0, .int c0, .int d0]) (n := 9) (Nat.le_of_ble_eq_true rfl)
  rw [lg_entry_eq]
  generalize (lg_sl ([.ref h0, .int c0, .int d0]) ++ List.replicate (9 - (lg_sl ([.ref h0, .int c0, .int d0])).length) Slot.unset).toArray = ls at hl ⊢
  have hl : lv_has ls 9 [(0, .ref h0), (1, .int c0), (2, .int d0)] := hl
  refine lv_aload_n hx hb dX11_through_0 rfl (lv_at hl 0 rfl) ?_
  refine lv_iload_n hx hb dX11_through_1 rfl (lv_at hl 1 rfl) ?_
  refine px_call (vx_runV (As := [.int c0]) (rest := []) ⟨hx, hb, hml, hown, hu⟩ (t_X11_spotAt l hst dC dI h0 _ fs (c0) hf) (cwV 1 hu (gV u442 u443 u444 u432 u445) rfl rfl rfl (by decide +kernel) ⟨(Nat.le_of_ble_eq_true rfl), (Nat.le_of_ble_eq_true rfl)⟩) ⟨tQ_blind, va_recv hK hP (ci := 11) (q0 := 0) rfl rfl, tQ_at hP hK hev hdv hZ⟩ rfl rfl hl.1 rfl (lv_room (Nat.le_of_ble_eq_true rfl)) dX11_through_2 ⟨(Nat.le_of_ble_eq_true rfl), (Nat.le_of_ble_eq_true rfl)⟩) rfl hS hA (fun ce q9 H1 locs1 hz1 hk1 hS hce hcv hcl => ?_)
  exact vx_out (fun x h => (htb x h).elim) hlocks hce hcv hcl (fun t ht hvm => ⟨rfl, by rw [ht]; exact hz1, fun q h1 _ => by rw [ht]; exact hk1 q h1⟩) hS.2.2 (Nat.le_of_ble_eq_true rfl) (Nat.le_of_ble_eq_true rfl)
end
section
theorem dL_about_0 : decode cL_about 0 = .ok (.aload_n 3, 1) := by decide +kernel
theorem dL_about_1 : decode cL_about 1 = .ok (.iconst 0, 1) := by decide +kernel
theorem dL_about_2 : decode cL_about 2 = .ok (.aload_n 0, 1) := by decide +kernel
theorem dL_about_3 : decode cL_about 3 = .ok (.iload_n 1, 1) := by decide +kernel
theorem dL_about_4 : decode cL_about 4 = .ok (.iload_n 2, 1) := by decide +kernel
theorem dL_about_5 : decode cL_about 5 = .ok (.invokevirtual 26, 3) := by decide +kernel
theorem dL_about_12 : decode cL_about 12 = .ok (.astore 4, 2) := by decide +kernel
theorem dL_about_14 : decode cL_about 14 = .ok (.iconst 1, 1) := by decide +kernel
theorem dL_about_15 : decode cL_about 15 = .ok (.ireturn, 1) := by decide +kernel
theorem dL_add_0 : decode cL_add 0 = .ok (.aload_n 3, 1) := by decide +kernel
theorem dL_add_1 : decode cL_add 1 = .ok (.iconst 0, 1) := by decide +kernel
theorem dL_add_2 : decode cL_add 2 = .ok (.aload_n 0, 1) := by decide +kernel
theorem dL_add_3 : decode cL_add 3 = .ok (.iload_n 1, 1) := by decide +kernel
theorem dL_add_4 : decode cL_add 4 = .ok (.iload_n 2, 1) := by decide +kernel
theorem dL_add_5 : decode cL_add 5 = .ok (.invokevirtual 37, 3) := by decide +kernel
theorem dL_add_13 : decode cL_add 13 = .ok (.astore 4, 2) := by decide +kernel
theorem dL_add_15 : decode cL_add 15 = .ok (.iconst 1, 1) := by decide +kernel
theorem dL_add_16 : decode cL_add 16 = .ok (.ireturn, 1) := by decide +kernel
theorem dL_back_0 : decode cL_back 0 = .ok (.aload_n 2, 1) := by decide +kernel
theorem dL_back_1 : decode cL_back 1 = .ok (.iconst 0, 1) := by decide +kernel
theorem dL_back_2 : decode cL_back 2 = .ok (.aload_n 0, 1) := by decide +kernel
theorem dL_back_3 : decode cL_back 3 = .ok (.iload_n 1, 1) := by decide +kernel
theorem dL_back_4 : decode cL_back 4 = .ok (.invokevirtual 55, 3) := by decide +kernel
theorem dL_back_12 : decode cL_back 12 = .ok (.astore_n 3, 1) := by decide +kernel
theorem dL_back_13 : decode cL_back 13 = .ok (.iconst 1, 1) := by decide +kernel
theorem dL_back_14 : decode cL_back 14 = .ok (.ireturn, 1) := by decide +kernel
theorem dL_backAt_0 : decode cL_backAt 0 = .ok (.aload_n 3, 1) := by decide +kernel
theorem dL_backAt_1 : decode cL_backAt 1 = .ok (.iconst 0, 1) := by decide +kernel
theorem dL_backAt_2 : decode cL_backAt 2 = .ok (.aload_n 0, 1) := by decide +kernel
theorem dL_backAt_3 : decode cL_backAt 3 = .ok (.iload_n 1, 1) := by decide +kernel
theorem dL_backAt_4 : decode cL_backAt 4 = .ok (.iload_n 2, 1) := by decide +kernel
theorem dL_backAt_5 : decode cL_backAt 5 = .ok (.invokevirtual 58, 3) := by decide +kernel
theorem dL_backAt_13 : decode cL_backAt 13 = .ok (.astore 4, 2) := by decide +kernel
theorem dL_backAt_15 : decode cL_backAt 15 = .ok (.iconst 1, 1) := by decide +kernel
theorem dL_backAt_16 : decode cL_backAt 16 = .ok (.ireturn, 1) := by decide +kernel
theorem dL_count_0 : decode cL_count 0 = .ok (.aload_n 2, 1) := by decide +kernel
theorem dL_count_1 : decode cL_count 1 = .ok (.iconst 0, 1) := by decide +kernel
theorem dL_count_2 : decode cL_count 2 = .ok (.aload_n 0, 1) := by decide +kernel
theorem dL_count_3 : decode cL_count 3 = .ok (.iload_n 1, 1) := by decide +kernel
theorem dL_count_4 : decode cL_count 4 = .ok (.invokevirtual 67, 3) := by decide +kernel
theorem dL_count_12 : decode cL_count 12 = .ok (.astore_n 3, 1) := by decide +kernel
theorem dL_count_13 : decode cL_count 13 = .ok (.iconst 1, 1) := by decide +kernel
theorem dL_count_14 : decode cL_count 14 = .ok (.ireturn, 1) := by decide +kernel
theorem dL_far_0 : decode cL_far 0 = .ok (.aload_n 2, 1) := by decide +kernel
theorem dL_far_1 : decode cL_far 1 = .ok (.iconst 0, 1) := by decide +kernel
theorem dL_far_2 : decode cL_far 2 = .ok (.aload_n 0, 1) := by decide +kernel
theorem dL_far_3 : decode cL_far 3 = .ok (.iload_n 1, 1) := by decide +kernel
theorem dL_far_4 : decode cL_far 4 = .ok (.invokevirtual 30, 3) := by decide +kernel
theorem dL_far_12 : decode cL_far 12 = .ok (.astore_n 3, 1) := by decide +kernel
theorem dL_far_13 : decode cL_far 13 = .ok (.iconst 1, 1) := by decide +kernel
theorem dL_far_14 : decode cL_far 14 = .ok (.ireturn, 1) := by decide +kernel
theorem dL_found_0 : decode cL_found 0 = .ok (.aload_n 3, 1) := by decide +kernel
theorem dL_found_1 : decode cL_found 1 = .ok (.iconst 0, 1) := by decide +kernel
theorem dL_found_2 : decode cL_found 2 = .ok (.aload_n 0, 1) := by decide +kernel
theorem dL_found_3 : decode cL_found 3 = .ok (.iload_n 1, 1) := by decide +kernel
theorem dL_found_4 : decode cL_found 4 = .ok (.iload_n 2, 1) := by decide +kernel
theorem dL_found_5 : decode cL_found 5 = .ok (.invokevirtual 64, 3) := by decide +kernel
theorem dL_found_12 : decode cL_found 12 = .ok (.astore 4, 2) := by decide +kernel
theorem dL_found_14 : decode cL_found 14 = .ok (.iconst 1, 1) := by decide +kernel
theorem dL_found_15 : decode cL_found 15 = .ok (.ireturn, 1) := by decide +kernel
theorem dL_group_0 : decode cL_group 0 = .ok (.aload_n 3, 1) := by decide +kernel
theorem dL_group_1 : decode cL_group 1 = .ok (.iconst 0, 1) := by decide +kernel
theorem dL_group_2 : decode cL_group 2 = .ok (.aload_n 0, 1) := by decide +kernel
theorem dL_group_3 : decode cL_group 3 = .ok (.iload_n 1, 1) := by decide +kernel
theorem dL_group_4 : decode cL_group 4 = .ok (.iload_n 2, 1) := by decide +kernel
theorem dL_group_5 : decode cL_group 5 = .ok (.invokevirtual 76, 3) := by decide +kernel
theorem dL_group_13 : decode cL_group 13 = .ok (.astore 4, 2) := by decide +kernel
theorem dL_group_15 : decode cL_group 15 = .ok (.iconst 1, 1) := by decide +kernel
theorem dL_group_16 : decode cL_group 16 = .ok (.ireturn, 1) := by decide +kernel
theorem dL_led_0 : decode cL_led 0 = .ok (.aload_n 2, 1) := by decide +kernel
theorem dL_led_1 : decode cL_led 1 = .ok (.iconst 0, 1) := by decide +kernel
theorem dL_led_2 : decode cL_led 2 = .ok (.aload_n 0, 1) := by decide +kernel
theorem dL_led_3 : decode cL_led 3 = .ok (.iload_n 1, 1) := by decide +kernel
theorem dL_led_4 : decode cL_led 4 = .ok (.invokevirtual 85, 3) := by decide +kernel
theorem dL_led_12 : decode cL_led 12 = .ok (.astore_n 3, 1) := by decide +kernel
theorem dL_led_13 : decode cL_led 13 = .ok (.iconst 1, 1) := by decide +kernel
theorem dL_led_14 : decode cL_led 14 = .ok (.ireturn, 1) := by decide +kernel
theorem dL_list_0 : decode cL_list 0 = .ok (.aload_n 3, 1) := by decide +kernel
theorem dL_list_1 : decode cL_list 1 = .ok (.iconst 0, 1) := by decide +kernel
theorem dL_list_2 : decode cL_list 2 = .ok (.aload_n 0, 1) := by decide +kernel
theorem dL_list_3 : decode cL_list 3 = .ok (.iload_n 1, 1) := by decide +kernel
theorem dL_list_4 : decode cL_list 4 = .ok (.iload_n 2, 1) := by decide +kernel
theorem dL_list_5 : decode cL_list 5 = .ok (.invokevirtual 73, 3) := by decide +kernel
theorem dL_list_13 : decode cL_list 13 = .ok (.astore 4, 2) := by decide +kernel
theorem dL_list_15 : decode cL_list 15 = .ok (.iconst 1, 1) := by decide +kernel
theorem dL_list_16 : decode cL_list 16 = .ok (.ireturn, 1) := by decide +kernel
theorem dL_mirror_0 : decode cL_mirror 0 = .ok (.aload_n 2, 1) := by decide +kernel
theorem dL_mirror_1 : decode cL_mirror 1 = .ok (.iconst 0, 1) := by decide +kernel
theorem dL_mirror_2 : decode cL_mirror 2 = .ok (.aload_n 0, 1) := by decide +kernel
theorem dL_mirror_3 : decode cL_mirror 3 = .ok (.iload_n 1, 1) := by decide +kernel
theorem dL_mirror_4 : decode cL_mirror 4 = .ok (.invokevirtual 40, 3) := by decide +kernel
theorem dL_mirror_12 : decode cL_mirror 12 = .ok (.astore_n 3, 1) := by decide +kernel
theorem dL_mirror_13 : decode cL_mirror 13 = .ok (.iconst 1, 1) := by decide +kernel
theorem dL_mirror_14 : decode cL_mirror 14 = .ok (.ireturn, 1) := by decide +kernel
theorem dL_order_0 : decode cL_order 0 = .ok (.aload_n 2, 1) := by decide +kernel
theorem dL_order_1 : decode cL_order 1 = .ok (.iconst 0, 1) := by decide +kernel
theorem dL_order_2 : decode cL_order 2 = .ok (.aload_n 0, 1) := by decide +kernel
theorem dL_order_3 : decode cL_order 3 = .ok (.iload_n 1, 1) := by decide +kernel
theorem dL_order_4 : decode cL_order 4 = .ok (.invokevirtual 46, 3) := by decide +kernel
theorem dL_order_12 : decode cL_order 12 = .ok (.astore_n 3, 1) := by decide +kernel
theorem dL_order_13 : decode cL_order 13 = .ok (.iconst 1, 1) := by decide +kernel
theorem dL_order_14 : decode cL_order 14 = .ok (.ireturn, 1) := by decide +kernel
theorem dL_over_0 : decode cL_over 0 = .ok (.aload_n 3, 1) := by decide +kernel
theorem dL_over_1 : decode cL_over 1 = .ok (.iconst 0, 1) := by decide +kernel
theorem dL_over_2 : decode cL_over 2 = .ok (.aload_n 0, 1) := by decide +kernel
theorem dL_over_3 : decode cL_over 3 = .ok (.iload_n 1, 1) := by decide +kernel
theorem dL_over_4 : decode cL_over 4 = .ok (.iload_n 2, 1) := by decide +kernel
theorem dL_over_5 : decode cL_over 5 = .ok (.invokevirtual 70, 3) := by decide +kernel
theorem dL_over_12 : decode cL_over 12 = .ok (.astore 4, 2) := by decide +kernel
theorem dL_over_14 : decode cL_over 14 = .ok (.iconst 1, 1) := by decide +kernel
theorem dL_over_15 : decode cL_over 15 = .ok (.ireturn, 1) := by decide +kernel
theorem dL_pair_0 : decode cL_pair 0 = .ok (.aload 4, 2) := by decide +kernel
theorem dL_pair_2 : decode cL_pair 2 = .ok (.iconst 0, 1) := by decide +kernel
theorem dL_pair_3 : decode cL_pair 3 = .ok (.aload_n 0, 1) := by decide +kernel
theorem dL_pair_4 : decode cL_pair 4 = .ok (.iload_n 1, 1) := by decide +kernel
theorem dL_pair_5 : decode cL_pair 5 = .ok (.iload_n 2, 1) := by decide +kernel
theorem dL_pair_6 : decode cL_pair 6 = .ok (.iload_n 3, 1) := by decide +kernel
theorem dL_pair_7 : decode cL_pair 7 = .ok (.invokevirtual 79, 3) := by decide +kernel
theorem dL_pair_15 : decode cL_pair 15 = .ok (.astore 5, 2) := by decide +kernel
theorem dL_pair_17 : decode cL_pair 17 = .ok (.iconst 1, 1) := by decide +kernel
theorem dL_pair_18 : decode cL_pair 18 = .ok (.ireturn, 1) := by decide +kernel
theorem dL_point_0 : decode cL_point 0 = .ok (.aload 4, 2) := by decide +kernel
theorem dL_point_2 : decode cL_point 2 = .ok (.iconst 0, 1) := by decide +kernel
theorem dL_point_3 : decode cL_point 3 = .ok (.aload_n 0, 1) := by decide +kernel
theorem dL_point_4 : decode cL_point 4 = .ok (.iload_n 1, 1) := by decide +kernel
theorem dL_point_5 : decode cL_point 5 = .ok (.iload_n 2, 1) := by decide +kernel
theorem dL_point_6 : decode cL_point 6 = .ok (.iload_n 3, 1) := by decide +kernel
theorem dL_point_7 : decode cL_point 7 = .ok (.invokevirtual 33, 3) := by decide +kernel
theorem dL_point_15 : decode cL_point 15 = .ok (.astore 5, 2) := by decide +kernel
theorem dL_point_17 : decode cL_point 17 = .ok (.iconst 1, 1) := by decide +kernel
theorem dL_point_18 : decode cL_point 18 = .ok (.ireturn, 1) := by decide +kernel
theorem dL_polynomial_0 : decode cL_polynomial 0 = .ok (.aload_n 3, 1) := by decide +kernel
theorem dL_polynomial_1 : decode cL_polynomial 1 = .ok (.iconst 0, 1) := by decide +kernel
theorem dL_polynomial_2 : decode cL_polynomial 2 = .ok (.aload_n 0, 1) := by decide +kernel
theorem dL_polynomial_3 : decode cL_polynomial 3 = .ok (.iload_n 1, 1) := by decide +kernel
theorem dL_polynomial_4 : decode cL_polynomial 4 = .ok (.iload_n 2, 1) := by decide +kernel
theorem dL_polynomial_5 : decode cL_polynomial 5 = .ok (.invokevirtual 82, 3) := by decide +kernel
theorem dL_polynomial_13 : decode cL_polynomial 13 = .ok (.astore 4, 2) := by decide +kernel
theorem dL_polynomial_15 : decode cL_polynomial 15 = .ok (.iconst 1, 1) := by decide +kernel
theorem dL_polynomial_16 : decode cL_polynomial 16 = .ok (.ireturn, 1) := by decide +kernel
theorem dL_print_0 : decode cL_print 0 = .ok (.aload_n 3, 1) := by decide +kernel
theorem dL_print_1 : decode cL_print 1 = .ok (.iconst 0, 1) := by decide +kernel
theorem dL_print_2 : decode cL_print 2 = .ok (.aload_n 0, 1) := by decide +kernel
theorem dL_print_3 : decode cL_print 3 = .ok (.iload_n 1, 1) := by decide +kernel
theorem dL_print_4 : decode cL_print 4 = .ok (.iload_n 2, 1) := by decide +kernel
theorem dL_print_5 : decode cL_print 5 = .ok (.invokevirtual 52, 3) := by decide +kernel
theorem dL_print_13 : decode cL_print 13 = .ok (.astore 4, 2) := by decide +kernel
theorem dL_print_15 : decode cL_print 15 = .ok (.iconst 1, 1) := by decide +kernel
theorem dL_print_16 : decode cL_print 16 = .ok (.ireturn, 1) := by decide +kernel
theorem dL_rest_0 : decode cL_rest 0 = .ok (.aload_n 3, 1) := by decide +kernel
theorem dL_rest_1 : decode cL_rest 1 = .ok (.iconst 0, 1) := by decide +kernel
theorem dL_rest_2 : decode cL_rest 2 = .ok (.aload_n 0, 1) := by decide +kernel
theorem dL_rest_3 : decode cL_rest 3 = .ok (.iload_n 1, 1) := by decide +kernel
theorem dL_rest_4 : decode cL_rest 4 = .ok (.iload_n 2, 1) := by decide +kernel
theorem dL_rest_5 : decode cL_rest 5 = .ok (.invokevirtual 17, 3) := by decide +kernel
theorem dL_rest_13 : decode cL_rest 13 = .ok (.astore 4, 2) := by decide +kernel
theorem dL_rest_15 : decode cL_rest 15 = .ok (.iconst 1, 1) := by decide +kernel
theorem dL_rest_16 : decode cL_rest 16 = .ok (.ireturn, 1) := by decide +kernel
theorem dL_search_0 : decode cL_search 0 = .ok (.aload_n 3, 1) := by decide +kernel
theorem dL_search_1 : decode cL_search 1 = .ok (.iconst 0, 1) := by decide +kernel
theorem dL_search_2 : decode cL_search 2 = .ok (.aload_n 0, 1) := by decide +kernel
theorem dL_search_3 : decode cL_search 3 = .ok (.iload_n 1, 1) := by decide +kernel
theorem dL_search_4 : decode cL_search 4 = .ok (.iload_n 2, 1) := by decide +kernel
theorem dL_search_5 : decode cL_search 5 = .ok (.invokevirtual 61, 3) := by decide +kernel
theorem dL_search_13 : decode cL_search 13 = .ok (.astore 4, 2) := by decide +kernel
theorem dL_search_15 : decode cL_search 15 = .ok (.iconst 1, 1) := by decide +kernel
theorem dL_search_16 : decode cL_search 16 = .ok (.ireturn, 1) := by decide +kernel
theorem dL_through_0 : decode cL_through 0 = .ok (.aload_n 3, 1) := by decide +kernel
theorem dL_through_1 : decode cL_through 1 = .ok (.iconst 0, 1) := by decide +kernel
theorem dL_through_2 : decode cL_through 2 = .ok (.aload_n 0, 1) := by decide +kernel
theorem dL_through_3 : decode cL_through 3 = .ok (.iload_n 1, 1) := by decide +kernel
theorem dL_through_4 : decode cL_through 4 = .ok (.iload_n 2, 1) := by decide +kernel
theorem dL_through_5 : decode cL_through 5 = .ok (.invokevirtual 88, 3) := by decide +kernel
theorem dL_through_13 : decode cL_through 13 = .ok (.astore 4, 2) := by decide +kernel
theorem dL_through_15 : decode cL_through 15 = .ok (.iconst 1, 1) := by decide +kernel
theorem dL_through_16 : decode cL_through 16 = .ok (.ireturn, 1) := by decide +kernel
theorem dL_times_0 : decode cL_times 0 = .ok (.aload_n 3, 1) := by decide +kernel
theorem dL_times_1 : decode cL_times 1 = .ok (.iconst 0, 1) := by decide +kernel
theorem dL_times_2 : decode cL_times 2 = .ok (.aload_n 0, 1) := by decide +kernel
theorem dL_times_3 : decode cL_times 3 = .ok (.iload_n 1, 1) := by decide +kernel
theorem dL_times_4 : decode cL_times 4 = .ok (.iload_n 2, 1) := by decide +kernel
theorem dL_times_5 : decode cL_times 5 = .ok (.invokevirtual 43, 3) := by decide +kernel
theorem dL_times_13 : decode cL_times 13 = .ok (.astore 4, 2) := by decide +kernel
theorem dL_times_15 : decode cL_times 15 = .ok (.iconst 1, 1) := by decide +kernel
theorem dL_times_16 : decode cL_times 16 = .ok (.ireturn, 1) := by decide +kernel
theorem dL_told_0 : decode cL_told 0 = .ok (.aload_n 3, 1) := by decide +kernel
theorem dL_told_1 : decode cL_told 1 = .ok (.iconst 0, 1) := by decide +kernel
theorem dL_told_2 : decode cL_told 2 = .ok (.aload_n 0, 1) := by decide +kernel
theorem dL_told_3 : decode cL_told 3 = .ok (.iload_n 1, 1) := by decide +kernel
theorem dL_told_4 : decode cL_told 4 = .ok (.iload_n 2, 1) := by decide +kernel
theorem dL_told_5 : decode cL_told 5 = .ok (.invokevirtual 49, 3) := by decide +kernel
theorem dL_told_13 : decode cL_told 13 = .ok (.astore 4, 2) := by decide +kernel
theorem dL_told_15 : decode cL_told 15 = .ok (.iconst 1, 1) := by decide +kernel
theorem dL_told_16 : decode cL_told 16 = .ok (.ireturn, 1) := by decide +kernel
theorem dL_turned_0 : decode cL_turned 0 = .ok (.aload_n 2, 1) := by decide +kernel
theorem dL_turned_1 : decode cL_turned 1 = .ok (.iconst 0, 1) := by decide +kernel
theorem dL_turned_2 : decode cL_turned 2 = .ok (.aload_n 0, 1) := by decide +kernel
theorem dL_turned_3 : decode cL_turned 3 = .ok (.iload_n 1, 1) := by decide +kernel
theorem dL_turned_4 : decode cL_turned 4 = .ok (.invokevirtual 22, 3) := by decide +kernel
theorem dL_turned_12 : decode cL_turned 12 = .ok (.astore_n 3, 1) := by decide +kernel
theorem dL_turned_13 : decode cL_turned 13 = .ok (.iconst 1, 1) := by decide +kernel
theorem dL_turned_14 : decode cL_turned 14 = .ok (.ireturn, 1) := by decide +kernel
def wk_L_rest : List Cond := .codeWith yL_rest cL_rest 5 (some .int) [(0, 10, 13, 20), (0, 10, 17, 13), (0, 10, 21, 15)] :: wU
set_option maxHeartbeats 4000000 in
set_option maxRecDepth 100000 in
theorem w_L_rest (l : Launch) (hst : l.stackTraces = false) (dC : Nat → ClassId) (dI : Nat → Nat → Nat) (h0 sz qo : Nat) (fs : List Value) (c0 d0 : Int32) (hf : xF fs) : Met l yL_rest wk_L_rest ({ frames := 10, cells := 1, slots := 6, locals := 199 } : Room) (tQ dC dI [(h0, .inr (11, fs))] sz [.ref h0, .int c0, .int d0, .ref qo]) (va_Qi (S := Unit) (fun r _ => r = 1) (fun _ _ => True) (nw sz)) 1 6 (nw sz) := by
  refine px_ofWH (cc := cL_rest) (maxL := 5) (ret := (some .int)) (hh := [(0, 10, 13, 20), (0, 10, 17, 13), (0, 10, 21, 15)]) (by decide) rfl ?_
  intro p e s m args below meth c s₁ B hml hv
  obtain ⟨rfl, hsz, hP, hK, hev, hdv, hZ⟩ := hv
  have hx := B.exec
  have hb := B.bytes
  have hr := B.returns
  have hts := atoms_spec (ws := wk_L_rest) B.pre
  have hu : ∀ w ∈ wU, w.before ([.ref h0, .int c0, .int d0, .ref qo] : List Value).toArray s = true := fun w h => hts w (List.mem_cons_of_mem _ h)
  have hown : s.vm.findClass RL = some m.cls := findClass_of_methodNamed B.named
  have hlocks := B.notSynchronized
  subst hsz
  have hA : ∀ q : Nat, s.heap.size ≤ q → nw s.heap.size q := fun _ h => h
  have hS : va_S (nw s.heap.size) s.heap s.heap [] := va_S.rf
  have hl := lv_entry ([.ref h0, .int c0, .int d0, .ref qo]) (n := 5) (Nat.le_of_ble_eq_true rfl)
  rw [lg_entry_eq]
  generalize (lg_sl ([.ref h0, .int c0, .int d0, .ref qo]) ++ List.replicate (5 - (lg_sl ([.ref h0, .int c0, .int d0, .ref qo])).length) Slot.unset).toArray = ls at hl ⊢
  have hl : lv_has ls 5 [(0, .ref h0), (1, .int c0), (2, .int d0), (3, .ref qo)] := hl
  have htb := vx_table (x := yL_rest) B (hts (.codeWith yL_rest cL_rest 5 (some .int) [(0, 10, 13, 20), (0, 10, 17, 13), (0, 10, 21, 15)]) List.mem_cons_self)
  refine lv_aload_n hx hb dL_rest_0 rfl (lv_at hl 3 rfl) ?_
  refine lv_iconst (v := 0) hx hb dL_rest_1 (by decide) ?_
  refine lv_aload_n hx hb dL_rest_2 rfl (lv_at hl 0 rfl) ?_
  refine lv_iload_n hx hb dL_rest_3 rfl (lv_at hl 1 rfl) ?_
  refine lv_iload_n hx hb dL_rest_4 rfl (lv_at hl 2 rfl) ?_
  refine px_call (vx_runV (As := [.int c0, .int d0]) (rest := [.int 0, .ref qo]) ⟨hx, hb, hml, hown, hu⟩ (t_X11_rest l hst dC dI h0 _ fs c0 d0 hf) (cwV 2 hu (gV u450 u451 u452 u432 u453) rfl rfl rfl (by decide +kernel) ⟨(Nat.le_of_ble_eq_true rfl), (Nat.le_of_ble_eq_true rfl)⟩) ⟨tQ_blind, va_recv hK hP (ci := 11) (q0 := 0) rfl rfl, tQ_at hP hK hev hdv hZ⟩ rfl rfl hl.1 rfl (lv_room (Nat.le_of_ble_eq_true rfl)) dL_rest_5 ⟨(Nat.le_of_ble_eq_true rfl), (Nat.le_of_ble_eq_true rfl)⟩) rfl hS hA (fun ce q9 H locs hz1 hk1 hS hce hcv hcl => ?_)
  refine px_catch (name := nIOO) (E := nIOO) hown ⟨0, 10, 13, 20⟩ [⟨0, 10, 17, 13⟩, ⟨0, 10, 21, 15⟩] htb rfl (by decide) (hu _ u454) (va_Nw.use rfl hev.2.2.2.1.1) hce hcv hcl ?_
  refine W.widen (k := 1) (n := 6) (Nat.le_of_ble_eq_true rfl) (Nat.le_of_ble_eq_true rfl) ?_
  refine lv_astore (lv' := [(4, .ref q9), (0, .ref h0), (1, .int c0), (2, .int d0), (3, .ref qo)]) hx hb dL_rest_13 hl (by decide) rfl (fun ls hl => ?_)
  refine lv_iconst (v := 1) hx hb dL_rest_15 (by decide) ?_
  exact W.iret (v := 1) hx hb hr (fun t ht hW => ⟨⟨1, (), rfl, rfl, trivial⟩, hS.F ht⟩) hS.2.2 dL_rest_16
def wk_L_turned : List Cond := .codeWith yL_turned cL_turned 4 (some .int) [(0, 9, 12, 20), (0, 9, 15, 13), (0, 9, 18, 15)] :: wU
set_option maxHeartbeats 4000000 in
set_option maxRecDepth 100000 in
theorem w_L_turned (l : Launch) (hst : l.stackTraces = false) (dC : Nat → ClassId) (dI : Nat → Nat → Nat) (h0 sz qo : Nat) (fs : List Value) (c0 : Int32) (hf : xF fs) : Met l yL_turned wk_L_turned ({ frames := 10, cells := 1, slots := 6, locals := 206 } : Room) (tQ dC dI [(h0, .inr (11, fs))] sz [.ref h0, .int c0, .ref qo]) (va_Qi (S := Unit) (fun r _ => r = 1) (fun _ _ => True) (nw sz)) 1 6 (nw sz) := by
  refine px_ofWH (cc := cL_turned) (maxL := 4) (ret := (some .int)) (hh := [(0, 9, 12, 20), (0, 9, 15, 13), (0, 9, 18, 15)]) (by decide) rfl ?_
  intro p e s m args below meth c s₁ B hml hv
  obtain ⟨rfl, hsz, hP, hK, hev, hdv, hZ⟩ := hv
  have hx := B.exec
  have hb := B.bytes
  have hr := B.returns
  have hts := atoms_spec (ws := wk_L_turned) B.pre
  have hu : ∀ w ∈ wU, w.before ([.ref h0, .int c0, .ref qo] : List Value).toArray s = true := fun w h => hts w (List.mem_cons_of_mem _ h)
  have hown : s.vm.findClass RL = some m.cls := findClass_of_methodNamed B.named
  have hlocks := B.notSynchronized
  subst hsz
  have hA : ∀ q : Nat, s.heap.size ≤ q → nw s.heap.size q := fun _ h => h
  have hS : va_S (nw s.heap.size) s.heap s.heap [] := va_S.rf
  have hl := lv_entry ([.ref h0, .int c0, .ref qo]) (n := 4) (Nat.le_of_ble_eq_true rfl)
  rw [lg_entry_eq]
  generalize (lg_sl ([.ref h0, .int c0, .ref qo]) ++ List.replicate (4 - (lg_sl ([.ref h0, .int c0, .ref qo])).length) Slot.unset).toArray = ls at hl ⊢
  have hl : lv_has ls 4 [(0, .ref h0), (1, .int c0), (2, .ref qo)] := hl
  have htb := vx_table (x := yL_turned) B (hts (.codeWith yL_turned cL_turned 4 (some .int) [(0, 9, 12, 20), (0, 9, 15, 13), (0, 9, 18, 15)]) List.mem_cons_self)
  refine lv_aload_n hx hb dL_turned_0 rfl (lv_at hl 2 rfl) ?_
  refine lv_iconst (v := 0) hx hb dL_turned_1 (by decide) ?_
  refine lv_aload_n hx hb dL_turned_2 rfl (lv_at hl 0 rfl) ?_
  refine lv_iload_n hx hb dL_turned_3 rfl (lv_at hl 1 rfl) ?_
  refine px_call (vx_runV (As := [.int c0]) (rest := [.int 0, .ref qo]) ⟨hx, hb, hml, hown, hu⟩ (t_X11_turned l hst dC dI h0 _ fs c0 hf) (cwV 1 hu (gV u455 u456 u457 u432 u458) rfl rfl rfl (by decide +kernel) ⟨(Nat.le_of_ble_eq_true rfl), (Nat.le_of_ble_eq_true rfl)⟩) ⟨tQ_blind, va_recv hK hP (ci := 11) (q0 := 0) rfl rfl, tQ_at hP hK hev hdv hZ⟩ rfl rfl hl.1 rfl (lv_room (Nat.le_of_ble_eq_true rfl)) dL_turned_4 ⟨(Nat.le_of_ble_eq_true rfl), (Nat.le_of_ble_eq_true rfl)⟩) rfl hS hA (fun ce q9 H locs hz1 hk1 hS hce hcv hcl => ?_)
  refine px_catch (name := nIOO) (E := nIOO) hown ⟨0, 9, 12, 20⟩ [⟨0, 9, 15, 13⟩, ⟨0, 9, 18, 15⟩] htb rfl (by decide) (hu _ u454) (va_Nw.use rfl hev.2.2.2.1.1) hce hcv hcl ?_
  refine W.widen (k := 1) (n := 6) (Nat.le_of_ble_eq_true rfl) (Nat.le_of_ble_eq_true rfl) ?_
  refine lv_astore_n (lv' := [(3, .ref q9), (0, .ref h0), (1, .int c0), (2, .ref qo)]) hx hb dL_turned_12 rfl hl (by decide) rfl (fun ls hl => ?_)
  refine lv_iconst (v := 1) hx hb dL_turned_13 (by decide) ?_
  exact W.iret (v := 1) hx hb hr (fun t ht hW => ⟨⟨1, (), rfl, rfl, trivial⟩, hS.F ht⟩) hS.2.2 dL_turned_14
def wk_L_about : List Cond := .codeWith yL_about cL_about 5 (some .int) [(0, 9, 12, 20), (0, 9, 16, 13)] :: wU
set_option maxHeartbeats 4000000 in
set_option maxRecDepth 100000 in
theorem w_L_about (l : Launch) (hst : l.stackTraces = false) (dC : Nat → ClassId) (dI : Nat → Nat → Nat) (h0 sz qo : Nat) (fs : List Value) (c0 d0 : Int32) (hf : xF fs) : Met l yL_about wk_L_about ({ frames := 9, cells := 1, slots := 6, locals := 175 } : Room) (tQ dC dI [(h0, .inr (11, fs))] sz [.ref h0, .int c0, .int d0, .ref qo]) (va_Qi (S := Unit) (fun r _ => r = 1) (fun _ _ => True) (nw sz)) 1 6 (nw sz) := by
  refine px_ofWH (cc := cL_about) (maxL := 5) (ret := (some .int)) (hh := [(0, 9, 12, 20), (0, 9, 16, 13)]) (by decide) rfl ?_
  intro p e s m args below meth c s₁ B hml hv
  obtain ⟨rfl, hsz, hP, hK, hev, hdv, hZ⟩ := hv
  have hx := B.exec
  have hb := B.bytes
  have hr := B.returns
  have hts := atoms_spec (ws := wk_L_about) B.pre
  have hu : ∀ w ∈ wU, w.before ([.ref h0, .int c0, .int d0, .ref qo] : List Value).toArray s = true := fun w h => hts w (List.mem_cons_of_mem _ h)
  have hown : s.vm.findClass RL = some m.cls := findClass_of_methodNamed B.named
  have hlocks := B.notSynchronized
  subst hsz
  have hA : ∀ q : Nat, s.heap.size ≤ q → nw s.heap.size q := fun _ h => h
  have hS : va_S (nw s.heap.size) s.heap s.heap [] := va_S.rf
  have hl := lv_entry ([.ref h0, .int c0, .int d0, .ref qo]) (n := 5) (Nat.le_of_ble_eq_true rfl)
  rw [lg_entry_eq]
  generalize (lg_sl ([.ref h0, .int c0, .int d0, .ref qo]) ++ List.replicate (5 - (lg_sl ([.ref h0, .int c0, .int d0, .ref qo])).length) Slot.unset).toArray = ls at hl ⊢
  have hl : lv_has ls 5 [(0, .ref h0), (1, .int c0), (2, .int d0), (3, .ref qo)] := hl
  have htb := vx_table (x := yL_about) B (hts (.codeWith yL_about cL_about 5 (some .int) [(0, 9, 12, 20), (0, 9, 16, 13)]) List.mem_cons_self)
  refine lv_aload_n hx hb dL_about_0 rfl (lv_at hl 3 rfl) ?_
  refine lv_iconst (v := 0) hx hb dL_about_1 (by decide) ?_
  refine lv_aload_n hx hb dL_about_2 rfl (lv_at hl 0 rfl) ?_
  refine lv_iload_n hx hb dL_about_3 rfl (lv_at hl 1 rfl) ?_
  refine lv_iload_n hx hb dL_about_4 rfl (lv_at hl 2 rfl) ?_
  refine px_call (vx_runV (As := [.int c0, .int d0]) (rest := [.int 0, .ref qo]) ⟨hx, hb, hml, hown, hu⟩ (t_X11_about l hst dC dI h0 _ fs c0 d0 hf) (cwV 2 hu (gV u459 u460 u461 u432 u462) rfl rfl rfl (by decide +kernel) ⟨(Nat.le_of_ble_eq_true rfl), (Nat.le_of_ble_eq_true rfl)⟩) ⟨tQ_blind, va_recv hK hP (ci := 11) (q0 := 0) rfl rfl, tQ_at hP hK hev hdv hZ⟩ rfl rfl hl.1 rfl (lv_room (Nat.le_of_ble_eq_true rfl)) dL_about_5 ⟨(Nat.le_of_ble_eq_true rfl), (Nat.le_of_ble_eq_true rfl)⟩) rfl hS hA (fun ce q9 H locs hz1 hk1 hS hce hcv hcl => ?_)
  refine px_catch (name := nIOO) (E := nIOO) hown ⟨0, 9, 12, 20⟩ [⟨0, 9, 16, 13⟩] htb rfl (by decide) (hu _ u454) (va_Nw.use rfl hev.2.2.2.1.1) hce hcv hcl ?_
  refine W.widen (k := 1) (n := 6) (Nat.le_of_ble_eq_true rfl) (Nat.le_of_ble_eq_true rfl) ?_
  refine lv_astore (lv' := [(4, .ref q9), (0, .ref h0), (1, .int c0), (2, .int d0), (3, .ref qo)]) hx hb dL_about_12 hl (by decide) rfl (fun ls hl => ?_)
  refine lv_iconst (v := 1) hx hb dL_about_14 (by decide) ?_
  exact W.iret (v := 1) hx hb hr (fun t ht hW => ⟨⟨1, (), rfl, rfl, trivial⟩, hS.F ht⟩) hS.2.2 dL_about_15
def wk_L_far : List Cond := .codeWith yL_far cL_far 4 (some .int) [(0, 9, 12, 20), (0, 9, 15, 15)] :: wU
set_option maxHeartbeats 4000000 in
set_option maxRecDepth 100000 in
theorem w_L_far (l : Launch) (hst : l.stackTraces = false) (dC : Nat → ClassId) (dI : Nat → Nat → Nat) (h0 sz qo : Nat) (fs : List Value) (c0 : Int32) (hf : xF fs) : Met l yL_far wk_L_far ({ frames := 9, cells := 1, slots := 6, locals := 174 } : Room) (tQ dC dI [(h0, .inr (11, fs))] sz [.ref h0, .int c0, .ref qo]) (va_Qi (S := Unit) (fun r _ => r = 1) (fun _ _ => True) (nw sz)) 1 6 (nw sz) := by
  refine px_ofWH (cc := cL_far) (maxL := 4) (ret := (some .int)) (hh := [(0, 9, 12, 20), (0, 9, 15, 15)]) (by decide) rfl ?_
  intro p e s m args below meth c s₁ B hml hv
  obtain ⟨rfl, hsz, hP, hK, hev, hdv, hZ⟩ := hv
  have hx := B.exec
  have hb := B.bytes
  have hr := B.returns
  have hts := atoms_spec (ws := wk_L_far) B.pre
  have hu : ∀ w ∈ wU, w.before ([.ref h0, .int c0, .ref qo] : List Value).toArray s = true := fun w h => hts w (List.mem_cons_of_mem _ h)
  have hown : s.vm.findClass RL = some m.cls := findClass_of_methodNamed B.named
  have hlocks := B.notSynchronized
  subst hsz
  have hA : ∀ q : Nat, s.heap.size ≤ q → nw s.heap.size q := fun _ h => h
  have hS : va_S (nw s.heap.size) s.heap s.heap [] := va_S.rf
  have hl := lv_entry ([.ref h0, .int c0, .ref qo]) (n := 4) (Nat.le_of_ble_eq_true rfl)
  rw [lg_entry_eq]
  generalize (lg_sl ([.ref h0, .int c0, .ref qo]) ++ List.replicate (4 - (lg_sl ([.ref h0, .int c0, .ref qo])).length) Slot.unset).toArray = ls at hl ⊢
  have hl : lv_has ls 4 [(0, .ref h0), (1, .int c0), (2, .ref qo)] := hl
  have htb := vx_table (x := yL_far) B (hts (.codeWith yL_far cL_far 4 (some .int) [(0, 9, 12, 20), (0, 9, 15, 15)]) List.mem_cons_self)
  refine lv_aload_n hx hb dL_far_0 rfl (lv_at hl 2 rfl) ?_
  refine lv_iconst (v := 0) hx hb dL_far_1 (by decide) ?_
  refine lv_aload_n hx hb dL_far_2 rfl (lv_at hl 0 rfl) ?_
  refine lv_iload_n hx hb dL_far_3 rfl (lv_at hl 1 rfl) ?_
  refine px_call (vx_runV (As := [.int c0]) (rest := [.int 0, .ref qo]) ⟨hx, hb, hml, hown, hu⟩ (t_X11_far l hst dC dI h0 _ fs c0 hf) (cwV 1 hu (gV u463 u464 u465 u432 u466) rfl rfl rfl (by decide +kernel) ⟨(Nat.le_of_ble_eq_true rfl), (Nat.le_of_ble_eq_true rfl)⟩) ⟨tQ_blind, va_recv hK hP (ci := 11) (q0 := 0) rfl rfl, tQ_at hP hK hev hdv hZ⟩ rfl rfl hl.1 rfl (lv_room (Nat.le_of_ble_eq_true rfl)) dL_far_4 ⟨(Nat.le_of_ble_eq_true rfl), (Nat.le_of_ble_eq_true rfl)⟩) rfl hS hA (fun ce q9 H locs hz1 hk1 hS hce hcv hcl => ?_)
  refine px_catch (name := nIOO) (E := nIOO) hown ⟨0, 9, 12, 20⟩ [⟨0, 9, 15, 15⟩] htb rfl (by decide) (hu _ u454) (va_Nw.use rfl hev.2.2.2.1.1) hce hcv hcl ?_
  refine W.widen (k := 1) (n := 6) (Nat.le_of_ble_eq_true rfl) (Nat.le_of_ble_eq_true rfl) ?_
  refine lv_astore_n (lv' := [(3, .ref q9), (0, .ref h0), (1, .int c0), (2, .ref qo)]) hx hb dL_far_12 rfl hl (by decide) rfl (fun ls hl => ?_)
  refine lv_iconst (v := 1) hx hb dL_far_13 (by decide) ?_
  exact W.iret (v := 1) hx hb hr (fun t ht hW => ⟨⟨1, (), rfl, rfl, trivial⟩, hS.F ht⟩) hS.2.2 dL_far_14
def wk_L_point : List Cond := .codeWith yL_point cL_point 6 (some .int) [(0, 12, 15, 20), (0, 12, 19, 13), (0, 12, 23, 15)] :: wU
set_option maxHeartbeats 4000000 in
set_option maxRecDepth 100000 in
theorem w_L_point (l : Launch) (hst : l.stackTraces = false) (dC : Nat → ClassId) (dI : Nat → Nat → Nat) (h0 sz qo : Nat) (fs : List Value) (c0 d0 e0 : Int32) (hf : xF fs) : Met l yL_point wk_L_point ({ frames := 9, cells := 1, slots := 6, locals := 178 } : Room) (tQ dC dI [(h0, .inr (11, fs))] sz [.ref h0, .int c0, .int d0, .int e0, .ref qo]) (va_Qi (S := Unit) (fun r _ => r = 1) (fun _ _ => True) (nw sz)) 1 6 (nw sz) := by
  refine px_ofWH (cc := cL_point) (maxL := 6) (ret := (some .int)) (hh := [(0, 12, 15, 20), (0, 12, 19, 13), (0, 12, 23, 15)]) (by decide) rfl ?_
  intro p e s m args below meth c s₁ B hml hv
  obtain ⟨rfl, hsz, hP, hK, hev, hdv, hZ⟩ := hv
  have hx := B.exec
  have hb := B.bytes
  have hr := B.returns
  have hts := atoms_spec (ws := wk_L_point) B.pre
  have hu : ∀ w ∈ wU, w.before ([.ref h0, .int c0, .int d0, .int e0, .ref qo] : List Value).toArray s = true := fun w h => hts w (List.mem_cons_of_mem _ h)
  have hown : s.vm.findClass RL = some m.cls := findClass_of_methodNamed B.named
  have hlocks := B.notSynchronized
  subst hsz
  have hA : ∀ q : Nat, s.heap.size ≤ q → nw s.heap.size q := fun _ h => h
  have hS : va_S (nw s.heap.size) s.heap s.heap [] := va_S.rf
  have hl := lv_entry ([.ref h0, .int c0, .int d0, .int e0, .ref qo]) (n := 6) (Nat.le_of_ble_eq_true rfl)
  rw [lg_entry_eq]
  generalize (lg_sl ([.ref h0, .int c0, .int d0, .int e0, .ref qo]) ++ List.replicate (6 - (lg_sl ([.ref h0, .int c0, .int d0, .int e0, .ref qo])).length) Slot.unset).toArray = ls at hl ⊢
  have hl : lv_has ls 6 [(0, .ref h0), (1, .int c0), (2, .int d0), (3, .int e0), (4, .ref qo)] := hl
  have htb := vx_table (x := yL_point) B (hts (.codeWith yL_point cL_point 6 (some .int) [(0, 12, 15, 20), (0, 12, 19, 13), (0, 12, 23, 15)]) List.mem_cons_self)
  refine lv_aload hx hb dL_point_0 (lv_at hl 4 rfl) ?_
  refine lv_iconst (v := 0) hx hb dL_point_2 (by decide) ?_
  refine lv_aload_n hx hb dL_point_3 rfl (lv_at hl 0 rfl) ?_
  refine lv_iload_n hx hb dL_point_4 rfl (lv_at hl 1 rfl) ?_
  refine lv_iload_n hx hb dL_point_5 rfl (lv_at hl 2 rfl) ?_
  refine lv_iload_n hx hb dL_point_6 rfl (lv_at hl 3 rfl) ?_
  refine px_call (vx_runV (As := [.int c0, .int d0, .int e0]) (rest := [.int 0, .ref qo]) ⟨hx, hb, hml, hown, hu⟩ (t_X11_point l hst dC dI h0 _ fs c0 d0 e0 hf) (cwV 3 hu (gV u467 u468 u469 u432 u470) rfl rfl rfl (by decide +kernel) ⟨(Nat.le_of_ble_eq_true rfl), (Nat.le_of_ble_eq_true rfl)⟩) ⟨tQ_blind, va_recv hK hP (ci := 11) (q0 := 0) rfl rfl, tQ_at hP hK hev hdv hZ⟩ rfl rfl hl.1 rfl (lv_room (Nat.le_of_ble_eq_true rfl)) dL_point_7 ⟨(Nat.le_of_ble_eq_true rfl), (Nat.le_of_ble_eq_true rfl)⟩) rfl hS hA (fun ce q9 H locs hz1 hk1 hS hce hcv hcl => ?_)
  refine px_catch (name := nIOO) (E := nIOO) hown ⟨0, 12, 15, 20⟩ [⟨0, 12, 19, 13⟩, ⟨0, 12, 23, 15⟩] htb rfl (by decide) (hu _ u454) (va_Nw.use rfl hev.2.2.2.1.1) hce hcv hcl ?_
  refine W.widen (k := 1) (n := 6) (Nat.le_of_ble_eq_true rfl) (Nat.le_of_ble_eq_true rfl) ?_
  refine lv_astore (lv' := [(5, .ref q9), (0, .ref h0), (1, .int c0), (2, .int d0), (3, .int e0), (4, .ref qo)]) hx hb dL_point_15 hl (by decide) rfl (fun ls hl => ?_)
  refine lv_iconst (v := 1) hx hb dL_point_17 (by decide) ?_
  exact W.iret (v := 1) hx hb hr (fun t ht hW => ⟨⟨1, (), rfl, rfl, trivial⟩, hS.F ht⟩) hS.2.2 dL_point_18
def wk_L_add : List Cond := .codeWith yL_add cL_add 5 (some .int) [(0, 10, 13, 20), (0, 10, 17, 15)] :: wU
set_option maxHeartbeats 4000000 in
set_option maxRecDepth 100000 in
theorem w_L_add (l : Launch) (hst : l.stackTraces = false) (dC : Nat → ClassId) (dI : Nat → Nat → Nat) (h0 sz qo : Nat) (fs : List Value) (c0 d0 : Int32) (hf : xF fs) : Met l yL_add wk_L_add ({ frames := 9, cells := 1, slots := 6, locals := 177 } : Room) (tQ dC dI [(h0, .inr (11, fs))] sz [.ref h0, .int c0, .int d0, .ref qo]) (va_Qi (S := Unit) (fun r _ => r = 1) (fun _ _ => True) (nw sz)) 1 6 (nw sz) := by
  refine px_ofWH (cc := cL_add) (maxL := 5) (ret := (some .int)) (hh := [(0, 10, 13, 20), (0, 10, 17, 15)]) (by decide) rfl ?_
  intro p e s m args below meth c s₁ B hml hv
  obtain ⟨rfl, hsz, hP, hK, hev, hdv, hZ⟩ := hv
  have hx := B.exec
  have hb := B.bytes
  have hr := B.returns
  have hts := atoms_spec (ws := wk_L_add) B.pre
  have hu : ∀ w ∈ wU, w.before ([.ref h0, .int c0, .int d0, .ref qo] : List Value).toArray s = true := fun w h => hts w (List.mem_cons_of_mem _ h)
  have hown : s.vm.findClass RL = some m.cls := findClass_of_methodNamed B.named
  have hlocks := B.notSynchronized
  subst hsz
  have hA : ∀ q : Nat, s.heap.size ≤ q → nw s.heap.size q := fun _ h => h
  have hS : va_S (nw s.heap.size) s.heap s.heap [] := va_S.rf
  have hl := lv_entry ([.ref h0, .int c0, .int d0, .ref qo]) (n := 5) (Nat.le_of_ble_eq_true rfl)
  rw [lg_entry_eq]
  generalize (lg_sl ([.ref h0, .int c0, .int d0, .ref qo]) ++ List.replicate (5 - (lg_sl ([.ref h0, .int c0, .int d0, .ref qo])).length) Slot.unset).toArray = ls at hl ⊢
  have hl : lv_has ls 5 [(0, .ref h0), (1, .int c0), (2, .int d0), (3, .ref qo)] := hl
  have htb := vx_table (x := yL_add) B (hts (.codeWith yL_add cL_add 5 (some .int) [(0, 10, 13, 20), (0, 10, 17, 15)]) List.mem_cons_self)
  refine lv_aload_n hx hb dL_add_0 rfl (lv_at hl 3 rfl) ?_
  refine lv_iconst (v := 0) hx hb dL_add_1 (by decide) ?_
  refine lv_aload_n hx hb dL_add_2 rfl (lv_at hl 0 rfl) ?_
  refine lv_iload_n hx hb dL_add_3 rfl (lv_at hl 1 rfl) ?_
  refine lv_iload_n hx hb dL_add_4 rfl (lv_at hl 2 rfl) ?_
  refine px_call (vx_runV (As := [.int c0, .int d0]) (rest := [.int 0, .ref qo]) ⟨hx, hb, hml, hown, hu⟩ (t_X11_add l hst dC dI h0 _ fs c0 d0 hf) (cwV 2 hu (gV u471 u472 u473 u432 u474) rfl rfl rfl (by decide +kernel) ⟨(Nat.le_of_ble_eq_true rfl), (Nat.le_of_ble_eq_true rfl)⟩) ⟨tQ_blind, va_recv hK hP (ci := 11) (q0 := 0) rfl rfl, tQ_at hP hK hev hdv hZ⟩ rfl rfl hl.1 rfl (lv_room (Nat.le_of_ble_eq_true rfl)) dL_add_5 ⟨(Nat.le_of_ble_eq_true rfl), (Nat.le_of_ble_eq_true rfl)⟩) rfl hS hA (fun ce q9 H locs hz1 hk1 hS hce hcv hcl => ?_)
  refine px_catch (name := nIOO) (E := nIOO) hown ⟨0, 10, 13, 20⟩ [⟨0, 10, 17, 15⟩] htb rfl (by decide) (hu _ u454) (va_Nw.use rfl hev.2.2.2.1.1) hce hcv hcl ?_
  refine W.widen (k := 1) (n := 6) (Nat.le_of_ble_eq_true rfl) (Nat.le_of_ble_eq_true rfl) ?_
  refine lv_astore (lv' := [(4, .ref q9), (0, .ref h0), (1, .int c0), (2, .int d0), (3, .ref qo)]) hx hb dL_add_13 hl (by decide) rfl (fun ls hl => ?_)
  refine lv_iconst (v := 1) hx hb dL_add_15 (by decide) ?_
  exact W.iret (v := 1) hx hb hr (fun t ht hW => ⟨⟨1, (), rfl, rfl, trivial⟩, hS.F ht⟩) hS.2.2 dL_add_16
def wk_L_mirror : List Cond := .codeWith yL_mirror cL_mirror 4 (some .int) [(0, 9, 12, 20), (0, 9, 15, 15)] :: wU
set_option maxHeartbeats 4000000 in
set_option maxRecDepth 100000 in
theorem w_L_mirror (l : Launch) (hst : l.stackTraces = false) (dC : Nat → ClassId) (dI : Nat → Nat → Nat) (h0 sz qo : Nat) (fs : List Value) (c0 : Int32) (hf : xF fs) : Met l yL_mirror wk_L_mirror ({ frames := 9, cells := 1, slots := 6, locals := 175 } : Room) (tQ dC dI [(h0, .inr (11, fs))] sz [.ref h0, .int c0, .ref qo]) (va_Qi (S := Unit) (fun r _ => r = 1) (fun _ _ => True) (nw sz)) 1 6 (nw sz) := by
  refine px_ofWH (cc := cL_mirror) (maxL := 4) (ret := (some .int)) (hh := [(0, 9, 12, 20), (0, 9, 15, 15)]) (by decide) rfl ?_
  intro p e s m args below meth c s₁ B hml hv
  obtain ⟨rfl, hsz, hP, hK, hev, hdv, hZ⟩ := hv
  have hx := B.exec
  have hb := B.bytes
  have hr := B.returns
  have hts := atoms_spec (ws := wk_L_mirror) B.pre
  have hu : ∀ w ∈ wU, w.before ([.ref h0, .int c0, .ref qo] : List Value).toArray s = true := fun w h => hts w (List.mem_cons_of_mem _ h)
  have hown : s.vm.findClass RL = some m.cls := findClass_of_methodNamed B.named
  have hlocks := B.notSynchronized
  subst hsz
  have hA : ∀ q : Nat, s.heap.size ≤ q → nw s.heap.size q := fun _ h => h
  have hS : va_S (nw s.heap.size) s.heap s.heap [] := va_S.rf
  have hl := lv_entry ([.ref h0, .int c0, .ref qo]) (n := 4) (Nat.le_of_ble_eq_true rfl)
  rw [lg_entry_eq]
  generalize (lg_sl ([.ref h0, .int c0, .ref qo]) ++ List.replicate (4 - (lg_sl ([.ref h0, .int c0, .ref qo])).length) Slot.unset).toArray = ls at hl ⊢
  have hl : lv_has ls 4 [(0, .ref h0), (1, .int c0), (2, .ref qo)] := hl
  have htb := vx_table (x := yL_mirror) B (hts (.codeWith yL_mirror cL_mirror 4 (some .int) [(0, 9, 12, 20), (0, 9, 15, 15)]) List.mem_cons_self)
  refine lv_aload_n hx hb dL_mirror_0 rfl (lv_at hl 2 rfl) ?_
  refine lv_iconst (v := 0) hx hb dL_mirror_1 (by decide) ?_
  refine lv_aload_n hx hb dL_mirror_2 rfl (lv_at hl 0 rfl) ?_
  refine lv_iload_n hx hb dL_mirror_3 rfl (lv_at hl 1 rfl) ?_
  refine px_call (vx_runV (As := [.int c0]) (rest := [.int 0, .ref qo]) ⟨hx, hb, hml, hown, hu⟩ (t_X11_mirror l hst dC dI h0 _ fs c0 hf) (cwV 1 hu (gV u475 u476 u477 u432 u478) rfl rfl rfl (by decide +kernel) ⟨(Nat.le_of_ble_eq_true rfl), (Nat.le_of_ble_eq_true rfl)⟩) ⟨tQ_blind, va_recv hK hP (ci := 11) (q0 := 0) rfl rfl, tQ_at hP hK hev hdv hZ⟩ rfl rfl hl.1 rfl (lv_room (Nat.le_of_ble_eq_true rfl)) dL_mirror_4 ⟨(Nat.le_of_ble_eq_true rfl), (Nat.le_of_ble_eq_true rfl)⟩) rfl hS hA (fun ce q9 H locs hz1 hk1 hS hce hcv hcl => ?_)
  refine px_catch (name := nIOO) (E := nIOO) hown ⟨0, 9, 12, 20⟩ [⟨0, 9, 15, 15⟩] htb rfl (by decide) (hu _ u454) (va_Nw.use rfl hev.2.2.2.1.1) hce hcv hcl ?_
  refine W.widen (k := 1) (n := 6) (Nat.le_of_ble_eq_true rfl) (Nat.le_of_ble_eq_true rfl) ?_
  refine lv_astore_n (lv' := [(3, .ref q9), (0, .ref h0), (1, .int c0), (2, .ref qo)]) hx hb dL_mirror_12 rfl hl (by decide) rfl (fun ls hl => ?_)
  refine lv_iconst (v := 1) hx hb dL_mirror_13 (by decide) ?_
  exact W.iret (v := 1) hx hb hr (fun t ht hW => ⟨⟨1, (), rfl, rfl, trivial⟩, hS.F ht⟩) hS.2.2 dL_mirror_14
def wk_L_times : List Cond := .codeWith yL_times cL_times 5 (some .int) [(0, 10, 13, 20), (0, 10, 17, 13), (0, 10, 21, 15)] :: wU
set_option maxHeartbeats 4000000 in
set_option maxRecDepth 100000 in
theorem w_L_times (l : Launch) (hst : l.stackTraces = false) (dC : Nat → ClassId) (dI : Nat → Nat → Nat) (h0 sz qo : Nat) (fs : List Value) (c0 d0 : Int32) (hf : xF fs) : Met l yL_times wk_L_times ({ frames := 9, cells := 1, slots := 6, locals := 178 } : Room) (tQ dC dI [(h0, .inr (11, fs))] sz [.ref h0, .int c0, .int d0, .ref qo]) (va_Qi (S := Unit) (fun r _ => r = 1) (fun _ _ => True) (nw sz)) 1 6 (nw sz) := by
  refine px_ofWH (cc := cL_times) (maxL := 5) (ret := (some .int)) (hh := [(0, 10, 13, 20), (0, 10, 17, 13), (0, 10, 21, 15)]) (by decide) rfl ?_
  intro p e s m args below meth c s₁ B hml hv
  obtain ⟨rfl, hsz, hP, hK, hev, hdv, hZ⟩ := hv
  have hx := B.exec
  have hb := B.bytes
  have hr := B.returns
  have hts := atoms_spec (ws := wk_L_times) B.pre
  have hu : ∀ w ∈ wU, w.before ([.ref h0, .int c0, .int d0, .ref qo] : List Value).toArray s = true := fun w h => hts w (List.mem_cons_of_mem _ h)
  have hown : s.vm.findClass RL = some m.cls := findClass_of_methodNamed B.named
  have hlocks := B.notSynchronized
  subst hsz
  have hA : ∀ q : Nat, s.heap.size ≤ q → nw s.heap.size q := fun _ h => h
  have hS : va_S (nw s.heap.size) s.heap s.heap [] := va_S.rf
  have hl := lv_entry ([.ref h0, .int c0, .int d0, .ref qo]) (n := 5) (Nat.le_of_ble_eq_true rfl)
  rw [lg_entry_eq]
  generalize (lg_sl ([.ref h0, .int c0, .int d0, .ref qo]) ++ List.replicate (5 - (lg_sl ([.ref h0, .int c0, .int d0, .ref qo])).length) Slot.unset).toArray = ls at hl ⊢
  have hl : lv_has ls 5 [(0, .ref h0), (1, .int c0), (2, .int d0), (3, .ref qo)] := hl
  have htb := vx_table (x := yL_times) B (hts (.codeWith yL_times cL_times 5 (some .int) [(0, 10, 13, 20), (0, 10, 17, 13), (0, 10, 21, 15)]) List.mem_cons_self)
  refine lv_aload_n hx hb dL_times_0 rfl (lv_at hl 3 rfl) ?_
  refine lv_iconst (v := 0) hx hb dL_times_1 (by decide) ?_
  refine lv_aload_n hx hb dL_times_2 rfl (lv_at hl 0 rfl) ?_
  refine lv_iload_n hx hb dL_times_3 rfl (lv_at hl 1 rfl) ?_
  refine lv_iload_n hx hb dL_times_4 rfl (lv_at hl 2 rfl) ?_
  refine px_call (vx_runV (As := [.int c0, .int d0]) (rest := [.int 0, .ref qo]) ⟨hx, hb, hml, hown, hu⟩ (t_X11_times l hst dC dI h0 _ fs c0 d0 hf) (cwV 2 hu (gV u479 u480 u481 u432 u482) rfl rfl rfl (by decide +kernel) ⟨(Nat.le_of_ble_eq_true rfl), (Nat.le_of_ble_eq_true rfl)⟩) ⟨tQ_blind, va_recv hK hP (ci := 11) (q0 := 0) rfl rfl, tQ_at hP hK hev hdv hZ⟩ rfl rfl hl.1 rfl (lv_room (Nat.le_of_ble_eq_true rfl)) dL_times_5 ⟨(Nat.le_of_ble_eq_true rfl), (Nat.le_of_ble_eq_true rfl)⟩) rfl hS hA (fun ce q9 H locs hz1 hk1 hS hce hcv hcl => ?_)
  refine px_catch (name := nIOO) (E := nIOO) hown ⟨0, 10, 13, 20⟩ [⟨0, 10, 17, 13⟩, ⟨0, 10, 21, 15⟩] htb rfl (by decide) (hu _ u454) (va_Nw.use rfl hev.2.2.2.1.1) hce hcv hcl ?_
  refine W.widen (k := 1) (n := 6) (Nat.le_of_ble_eq_true rfl) (Nat.le_of_ble_eq_true rfl) ?_
  refine lv_astore (lv' := [(4, .ref q9), (0, .ref h0), (1, .int c0), (2, .int d0), (3, .ref qo)]) hx hb dL_times_13 hl (by decide) rfl (fun ls hl => ?_)
  refine lv_iconst (v := 1) hx hb dL_times_15 (by decide) ?_
  exact W.iret (v := 1) hx hb hr (fun t ht hW => ⟨⟨1, (), rfl, rfl, trivial⟩, hS.F ht⟩) hS.2.2 dL_times_16
def wk_L_order : List Cond := .codeWith yL_order cL_order 4 (some .int) [(0, 9, 12, 20)] :: wU
set_option maxHeartbeats 4000000 in
set_option maxRecDepth 100000 in
theorem w_L_order (l : Launch) (hst : l.stackTraces = false) (dC : Nat → ClassId) (dI : Nat → Nat → Nat) (h0 sz qo : Nat) (fs : List Value) (c0 : Int32) (hf : xF fs) : Met l yL_order wk_L_order ({ frames := 9, cells := 1, slots := 6, locals := 174 } : Room) (tQ dC dI [(h0, .inr (11, fs))] sz [.ref h0, .int c0, .ref qo]) (va_Qi (S := Unit) (fun r _ => r = 1) (fun _ _ => True) (nw sz)) 1 6 (nw sz) := by
  refine px_ofWH (cc := cL_order) (maxL := 4) (ret := (some .int)) (hh := [(0, 9, 12, 20)]) (by decide) rfl ?_
  intro p e s m args below meth c s₁ B hml hv
  obtain ⟨rfl, hsz, hP, hK, hev, hdv, hZ⟩ := hv
  have hx := B.exec
  have hb := B.bytes
  have hr := B.returns
  have hts := atoms_spec (ws := wk_L_order) B.pre
  have hu : ∀ w ∈ wU, w.before ([.ref h0, .int c0, .ref qo] : List Value).toArray s = true := fun w h => hts w (List.mem_cons_of_mem _ h)
  have hown : s.vm.findClass RL = some m.cls := findClass_of_methodNamed B.named
  have hlocks := B.notSynchronized
  subst hsz
  have hA : ∀ q : Nat, s.heap.size ≤ q → nw s.heap.size q := fun _ h => h
  have hS : va_S (nw s.heap.size) s.heap s.heap [] := va_S.rf
  have hl := lv_entry ([.ref h0, .int c0, .ref qo]) (n := 4) (Nat.le_of_ble_eq_true rfl)
  rw [lg_entry_eq]
  generalize (lg_sl ([.ref h0, .int c0, .ref qo]) ++ List.replicate (4 - (lg_sl ([.ref h0, .int c0, .ref qo])).length) Slot.unset).toArray = ls at hl ⊢
  have hl : lv_has ls 4 [(0, .ref h0), (1, .int c0), (2, .ref qo)] := hl
  have htb := vx_table (x := yL_order) B (hts (.codeWith yL_order cL_order 4 (some .int) [(0, 9, 12, 20)]) List.mem_cons_self)
  refine lv_aload_n hx hb dL_order_0 rfl (lv_at hl 2 rfl) ?_
  refine lv_iconst (v := 0) hx hb dL_order_1 (by decide) ?_
  refine lv_aload_n hx hb dL_order_2 rfl (lv_at hl 0 rfl) ?_
  refine lv_iload_n hx hb dL_order_3 rfl (lv_at hl 1 rfl) ?_
  refine px_call (vx_runV (As := [.int c0]) (rest := [.int 0, .ref qo]) ⟨hx, hb, hml, hown, hu⟩ (t_X11_order l hst dC dI h0 _ fs c0 hf) (cwV 1 hu (gV u483 u484 u485 u432 u486) rfl rfl rfl (by decide +kernel) ⟨(Nat.le_of_ble_eq_true rfl), (Nat.le_of_ble_eq_true rfl)⟩) ⟨tQ_blind, va_recv hK hP (ci := 11) (q0 := 0) rfl rfl, tQ_at hP hK hev hdv hZ⟩ rfl rfl hl.1 rfl (lv_room (Nat.le_of_ble_eq_true rfl)) dL_order_4 ⟨(Nat.le_of_ble_eq_true rfl), (Nat.le_of_ble_eq_true rfl)⟩) rfl hS hA (fun ce q9 H locs hz1 hk1 hS hce hcv hcl => ?_)
  refine px_catch (name := nIOO) (E := nIOO) hown ⟨0, 9, 12, 20⟩ [] htb rfl (by decide) (hu _ u454) (va_Nw.use rfl hev.2.2.2.1.1) hce hcv hcl ?_
  refine W.widen (k := 1) (n := 6) (Nat.le_of_ble_eq_true rfl) (Nat.le_of_ble_eq_true rfl) ?_
  refine lv_astore_n (lv' := [(3, .ref q9), (0, .ref h0), (1, .int c0), (2, .ref qo)]) hx hb dL_order_12 rfl hl (by decide) rfl (fun ls hl => ?_)
  refine lv_iconst (v := 1) hx hb dL_order_13 (by decide) ?_
  exact W.iret (v := 1) hx hb hr (fun t ht hW => ⟨⟨1, (), rfl, rfl, trivial⟩, hS.F ht⟩) hS.2.2 dL_order_14
def wk_L_told : List Cond := .codeWith yL_told cL_told 5 (some .int) [(0, 10, 13, 20), (0, 10, 17, 13)] :: wU
set_option maxHeartbeats 4000000 in
set_option maxRecDepth 100000 in
theorem w_L_told (l : Launch) (hst : l.stackTraces = false) (dC : Nat → ClassId) (dI : Nat → Nat → Nat) (h0 sz qo : Nat) (fs : List Value) (c0 d0 : Int32) (hf : xF fs) : Met l yL_told wk_L_told ({ frames := 9, cells := 1, slots := 6, locals := 175 } : Room) (tQ dC dI [(h0, .inr (11, fs))] sz [.ref h0, .int c0, .int d0, .ref qo]) (va_Qi (S := Unit) (fun r _ => r = 1) (fun _ _ => True) (nw sz)) 1 6 (nw sz) := by
  refine px_ofWH (cc := cL_told) (maxL := 5) (ret := (some .int)) (hh := [(0, 10, 13, 20), (0, 10, 17, 13)]) (by decide) rfl ?_
  intro p e s m args below meth c s₁ B hml hv
  obtain ⟨rfl, hsz, hP, hK, hev, hdv, hZ⟩ := hv
  have hx := B.exec
  have hb := B.bytes
  have hr := B.returns
  have hts := atoms_spec (ws := wk_L_told) B.pre
  have hu : ∀ w ∈ wU, w.before ([.ref h0, .int c0, .int d0, .ref qo] : List Value).toArray s = true := fun w h => hts w (List.mem_cons_of_mem _ h)
  have hown : s.vm.findClass RL = some m.cls := findClass_of_methodNamed B.named
  have hlocks := B.notSynchronized
  subst hsz
  have hA : ∀ q : Nat, s.heap.size ≤ q → nw s.heap.size q := fun _ h => h
  have hS : va_S (nw s.heap.size) s.heap s.heap [] := va_S.rf
  have hl := lv_entry ([.ref h0, .int c0, .int d0, .ref qo]) (n := 5) (Nat.le_of_ble_eq_true rfl)
  rw [lg_entry_eq]
  generalize (lg_sl ([.ref h0, .int c0, .int d0, .ref qo]) ++ List.replicate (5 - (lg_sl ([.ref h0, .int c0, .int d0, .ref qo])).length) Slot.unset).toArray = ls at hl ⊢
  have hl : lv_has ls 5 [(0, .ref h0), (1, .int c0), (2, .int d0), (3, .ref qo)] := hl
  have htb := vx_table (x := yL_told) B (hts (.codeWith yL_told cL_told 5 (some .int) [(0, 10, 13, 20), (0, 10, 17, 13)]) List.mem_cons_self)
  refine lv_aload_n hx hb dL_told_0 rfl (lv_at hl 3 rfl) ?_
  refine lv_iconst (v := 0) hx hb dL_told_1 (by decide) ?_
  refine lv_aload_n hx hb dL_told_2 rfl (lv_at hl 0 rfl) ?_
  refine lv_iload_n hx hb dL_told_3 rfl (lv_at hl 1 rfl) ?_
  refine lv_iload_n hx hb dL_told_4 rfl (lv_at hl 2 rfl) ?_
  refine px_call (vx_runV (As := [.int c0, .int d0]) (rest := [.int 0, .ref qo]) ⟨hx, hb, hml, hown, hu⟩ (t_X11_told l hst dC dI h0 _ fs c0 d0 hf) (cwV 2 hu (gV u487 u488 u489 u432 u490) rfl rfl rfl (by decide +kernel) ⟨(Nat.le_of_ble_eq_true rfl), (Nat.le_of_ble_eq_true rfl)⟩) ⟨tQ_blind, va_recv hK hP (ci := 11) (q0 := 0) rfl rfl, tQ_at hP hK hev hdv hZ⟩ rfl rfl hl.1 rfl (lv_room (Nat.le_of_ble_eq_true rfl)) dL_told_5 ⟨(Nat.le_of_ble_eq_true rfl), (Nat.le_of_ble_eq_true rfl)⟩) rfl hS hA (fun ce q9 H locs hz1 hk1 hS hce hcv hcl => ?_)
  refine px_catch (name := nIOO) (E := nIOO) hown ⟨0, 10, 13, 20⟩ [⟨0, 10, 17, 13⟩] htb rfl (by decide) (hu _ u454) (va_Nw.use rfl hev.2.2.2.1.1) hce hcv hcl ?_
  refine W.widen (k := 1) (n := 6) (Nat.le_of_ble_eq_true rfl) (Nat.le_of_ble_eq_true rfl) ?_
  refine lv_astore (lv' := [(4, .ref q9), (0, .ref h0), (1, .int c0), (2, .int d0), (3, .ref qo)]) hx hb dL_told_13 hl (by decide) rfl (fun ls hl => ?_)
  refine lv_iconst (v := 1) hx hb dL_told_15 (by decide) ?_
  exact W.iret (v := 1) hx hb hr (fun t ht hW => ⟨⟨1, (), rfl, rfl, trivial⟩, hS.F ht⟩) hS.2.2 dL_told_16
def wk_L_print : List Cond := .codeWith yL_print cL_print 5 (some .int) [(0, 10, 13, 20), (0, 10, 17, 13)] :: wU
set_option maxHeartbeats 4000000 in
set_option maxRecDepth 100000 in
theorem w_L_print (l : Launch) (hst : l.stackTraces = false) (dC : Nat → ClassId) (dI : Nat → Nat → Nat) (h0 sz qo : Nat) (fs : List Value) (c0 d0 : Int32) (hf : xF fs) : Met l yL_print wk_L_print ({ frames := 9, cells := 1, slots := 6, locals := 175 } : Room) (tQ dC dI [(h0, .inr (11, fs))] sz [.ref h0, .int c0, .int d0, .ref qo]) (va_Qi (S := Unit) (fun r _ => r = 1) (fun _ _ => True) (nw sz)) 1 6 (nw sz) := by
  refine px_ofWH (cc := cL_print) (maxL := 5) (ret := (some .int)) (hh := [(0, 10, 13, 20), (0, 10, 17, 13)]) (by decide) rfl ?_
  intro p e s m args below meth c s₁ B hml hv
  obtain ⟨rfl, hsz, hP, hK, hev, hdv, hZ⟩ := hv
  have hx := B.exec
  have hb := B.bytes
  have hr := B.returns
  have hts := atoms_spec (ws := wk_L_print) B.pre
  have hu : ∀ w ∈ wU, w.before ([.ref h0, .int c0, .int d0, .ref qo] : List Value).toArray s = true := fun w h => hts w (List.mem_cons_of_mem _ h)
  have hown : s.vm.findClass RL = some m.cls := findClass_of_methodNamed B.named
  have hlocks := B.notSynchronized
  subst hsz
  have hA : ∀ q : Nat, s.heap.size ≤ q → nw s.heap.size q := fun _ h => h
  have hS : va_S (nw s.heap.size) s.heap s.heap [] := va_S.rf
  have hl := lv_entry ([.ref h0, .int c0, .int d0, .ref qo]) (n := 5) (Nat.le_of_ble_eq_true rfl)
  rw [lg_entry_eq]
  generalize (lg_sl ([.ref h0, .int c0, .int d0, .ref qo]) ++ List.replicate (5 - (lg_sl ([.ref h0, .int c0, .int d0, .ref qo])).length) Slot.unset).toArray = ls at hl ⊢
  have hl : lv_has ls 5 [(0, .ref h0), (1, .int c0), (2, .int d0), (3, .ref qo)] := hl
  have htb := vx_table (x := yL_print) B (hts (.codeWith yL_print cL_print 5 (some .int) [(0, 10, 13, 20), (0, 10, 17, 13)]) List.mem_cons_self)
  refine lv_aload_n hx hb dL_print_0 rfl (lv_at hl 3 rfl) ?_
  refine lv_iconst (v := 0) hx hb dL_print_1 (by decide) ?_
  refine lv_aload_n hx hb dL_print_2 rfl (lv_at hl 0 rfl) ?_
  refine lv_iload_n hx hb dL_print_3 rfl (lv_at hl 1 rfl) ?_
  refine lv_iload_n hx hb dL_print_4 rfl (lv_at hl 2 rfl) ?_
  refine px_call (vx_runV (As := [.int c0, .int d0]) (rest := [.int 0, .ref qo]) ⟨hx, hb, hml, hown, hu⟩ (t_X11_print l hst dC dI h0 _ fs c0 d0 hf) (cwV 2 hu (gV u491 u492 u493 u432 u494) rfl rfl rfl (by decide +kernel) ⟨(Nat.le_of_ble_eq_true rfl), (Nat.le_of_ble_eq_true rfl)⟩) ⟨tQ_blind, va_recv hK hP (ci := 11) (q0 := 0) rfl rfl, tQ_at hP hK hev hdv hZ⟩ rfl rfl hl.1 rfl (lv_room (Nat.le_of_ble_eq_true rfl)) dL_print_5 ⟨(Nat.le_of_ble_eq_true rfl), (Nat.le_of_ble_eq_true rfl)⟩) rfl hS hA (fun ce q9 H locs hz1 hk1 hS hce hcv hcl => ?_)
  refine px_catch (name := nIOO) (E := nIOO) hown ⟨0, 10, 13, 20⟩ [⟨0, 10, 17, 13⟩] htb rfl (by decide) (hu _ u454) (va_Nw.use rfl hev.2.2.2.1.1) hce hcv hcl ?_
  refine W.widen (k := 1) (n := 6) (Nat.le_of_ble_eq_true rfl) (Nat.le_of_ble_eq_true rfl) ?_
  refine lv_astore (lv' := [(4, .ref q9), (0, .ref h0), (1, .int c0), (2, .int d0), (3, .ref qo)]) hx hb dL_print_13 hl (by decide) rfl (fun ls hl => ?_)
  refine lv_iconst (v := 1) hx hb dL_print_15 (by decide) ?_
  exact W.iret (v := 1) hx hb hr (fun t ht hW => ⟨⟨1, (), rfl, rfl, trivial⟩, hS.F ht⟩) hS.2.2 dL_print_16
def wk_L_back : List Cond := .codeWith yL_back cL_back 4 (some .int) [(0, 9, 12, 20), (0, 9, 15, 13)] :: wU
set_option maxHeartbeats 4000000 in
set_option maxRecDepth 100000 in
theorem w_L_back (l : Launch) (hst : l.stackTraces = false) (dC : Nat → ClassId) (dI : Nat → Nat → Nat) (h0 sz qo : Nat) (fs : List Value) (c0 : Int32) (hf : xF fs) : Met l yL_back wk_L_back ({ frames := 10, cells := 1, slots := 6, locals := 195 } : Room) (tQ dC dI [(h0, .inr (11, fs))] sz [.ref h0, .int c0, .ref qo]) (va_Qi (S := Unit) (fun r _ => r = 1) (fun _ _ => True) (nw sz)) 1 6 (nw sz) := by
  refine px_ofWH (cc := cL_back) (maxL := 4) (ret := (some .int)) (hh := [(0, 9, 12, 20), (0, 9, 15, 13)]) (by decide) rfl ?_
  intro p e s m args below meth c s₁ B hml hv
  obtain ⟨rfl, hsz, hP, hK, hev, hdv, hZ⟩ := hv
  have hx := B.exec
  have hb := B.bytes
  have hr := B.returns
  have hts := atoms_spec (ws := wk_L_back) B.pre
  have hu : ∀ w ∈ wU, w.before ([.ref h0, .int c0, .ref qo] : List Value).toArray s = true := fun w h => hts w (List.mem_cons_of_mem _ h)
  have hown : s.vm.findClass RL = some m.cls := findClass_of_methodNamed B.named
  have hlocks := B.notSynchronized
  subst hsz
  have hA : ∀ q : Nat, s.heap.size ≤ q → nw s.heap.size q := fun _ h => h
  have hS : va_S (nw s.heap.size) s.heap s.heap [] := va_S.rf
  have hl := lv_entry ([.ref h0, .int c0, .ref qo]) (n := 4) (Nat.le_of_ble_eq_true rfl)
  rw [lg_entry_eq]
  generalize (lg_sl ([.ref h0, .int c0, .ref qo]) ++ List.replicate (4 - (lg_sl ([.ref h0, .int c0, .ref qo])).length) Slot.unset).toArray = ls at hl ⊢
  have hl : lv_has ls 4 [(0, .ref h0), (1, .int c0), (2, .ref qo)] := hl
  have htb := vx_table (x := yL_back) B (hts (.codeWith yL_back cL_back 4 (some .int) [(0, 9, 12, 20), (0, 9, 15, 13)]) List.mem_cons_self)
  refine lv_aload_n hx hb dL_back_0 rfl (lv_at hl 2 rfl) ?_
  refine lv_iconst (v := 0) hx hb dL_back_1 (by decide) ?_
  refine lv_aload_n hx hb dL_back_2 rfl (lv_at hl 0 rfl) ?_
  refine lv_iload_n hx hb dL_back_3 rfl (lv_at hl 1 rfl) ?_
  refine px_call (vx_runV (As := [.int c0]) (rest := [.int 0, .ref qo]) ⟨hx, hb, hml, hown, hu⟩ (t_X11_back l hst dC dI h0 _ fs c0 hf) (cwV 1 hu (gV u495 u496 u497 u432 u498) rfl rfl rfl (by decide +kernel) ⟨(Nat.le_of_ble_eq_true rfl), (Nat.le_of_ble_eq_true rfl)⟩) ⟨tQ_blind, va_recv hK hP (ci := 11) (q0 := 0) rfl rfl, tQ_at hP hK hev hdv hZ⟩ rfl rfl hl.1 rfl (lv_room (Nat.le_of_ble_eq_true rfl)) dL_back_4 ⟨(Nat.le_of_ble_eq_true rfl), (Nat.le_of_ble_eq_true rfl)⟩) rfl hS hA (fun ce q9 H locs hz1 hk1 hS hce hcv hcl => ?_)
  refine px_catch (name := nIOO) (E := nIOO) hown ⟨0, 9, 12, 20⟩ [⟨0, 9, 15, 13⟩] htb rfl (by decide) (hu _ u454) (va_Nw.use rfl hev.2.2.2.1.1) hce hcv hcl ?_
  refine W.widen (k := 1) (n := 6) (Nat.le_of_ble_eq_true rfl) (Nat.le_of_ble_eq_true rfl) ?_
  refine lv_astore_n (lv' := [(3, .ref q9), (0, .ref h0), (1, .int c0), (2, .ref qo)]) hx hb dL_back_12 rfl hl (by decide) rfl (fun ls hl => ?_)
  refine lv_iconst (v := 1) hx hb dL_back_13 (by decide) ?_
  exact W.iret (v := 1) hx hb hr (fun t ht hW => ⟨⟨1, (), rfl, rfl, trivial⟩, hS.F ht⟩) hS.2.2 dL_back_14
def wk_L_backAt : List Cond := .codeWith yL_backAt cL_backAt 5 (some .int) [(0, 10, 13, 20), (0, 10, 17, 13), (0, 10, 21, 15)] :: wU
set_option maxHeartbeats 4000000 in
set_option maxRecDepth 100000 in
theorem w_L_backAt (l : Launch) (hst : l.stackTraces = false) (dC : Nat → ClassId) (dI : Nat → Nat → Nat) (h0 sz qo : Nat) (fs : List Value) (c0 d0 : Int32) (hf : xF fs) : Met l yL_backAt wk_L_backAt ({ frames := 10, cells := 1, slots := 6, locals := 197 } : Room) (tQ dC dI [(h0, .inr (11, fs))] sz [.ref h0, .int c0, .int d0, .ref qo]) (va_Qi (S := Unit) (fun r _ => r = 1) (fun _ _ => True) (nw sz)) 1 6 (nw sz) := by
  refine px_ofWH (cc := cL_backAt) (maxL := 5) (ret := (some .int)) (hh := [(0, 10, 13, 20), (0, 10, 17, 13), (0, 10, 21, 15)]) (by decide) rfl ?_
  intro p e s m args below meth c s₁ B hml hv
  obtain ⟨rfl, hsz, hP, hK, hev, hdv, hZ⟩ := hv
  have hx := B.exec
  have hb := B.bytes
  have hr := B.returns
  have hts := atoms_spec (ws := wk_L_backAt) B.pre
  have hu : ∀ w ∈ wU, w.before ([.ref h0, .int c0, .int d0, .ref qo] : List Value).toArray s = true := fun w h => hts w (List.mem_cons_of_mem _ h)
  have hown : s.vm.findClass RL = some m.cls := findClass_of_methodNamed B.named
  have hlocks := B.notSynchronized
  subst hsz
  have hA : ∀ q : Nat, s.heap.size ≤ q → nw s.heap.size q := fun _ h => h
  have hS : va_S (nw s.heap.size) s.heap s.heap [] := va_S.rf
  have hl := lv_entry ([.ref h0, .int c0, .int d0, .ref qo]) (n := 5) (Nat.le_of_ble_eq_true rfl)
  rw [lg_entry_eq]
  generalize (lg_sl ([.ref h0, .int c0, .int d0, .ref qo]) ++ List.replicate (5 - (lg_sl ([.ref h0, .int c0, .int d0, .ref qo])).length) Slot.unset).toArray = ls at hl ⊢
  have hl : lv_has ls 5 [(0, .ref h0), (1, .int c0), (2, .int d0), (3, .ref qo)] := hl
  have htb := vx_table (x := yL_backAt) B (hts (.codeWith yL_backAt cL_backAt 5 (some .int) [(0, 10, 13, 20), (0, 10, 17, 13), (0, 10, 21, 15)]) List.mem_cons_self)
  refine lv_aload_n hx hb dL_backAt_0 rfl (lv_at hl 3 rfl) ?_
  refine lv_iconst (v := 0) hx hb dL_backAt_1 (by decide) ?_
  refine lv_aload_n hx hb dL_backAt_2 rfl (lv_at hl 0 rfl) ?_
  refine lv_iload_n hx hb dL_backAt_3 rfl (lv_at hl 1 rfl) ?_
  refine lv_iload_n hx hb dL_backAt_4 rfl (lv_at hl 2 rfl) ?_
  refine px_call (vx_runV (As := [.int c0, .int d0]) (rest := [.int 0, .ref qo]) ⟨hx, hb, hml, hown, hu⟩ (t_X11_backAt l hst dC dI h0 _ fs c0 d0 hf) (cwV 2 hu (gV u499 u500 u501 u432 u502) rfl rfl rfl (by decide +kernel) ⟨(Nat.le_of_ble_eq_true rfl), (Nat.le_of_ble_eq_true rfl)⟩) ⟨tQ_blind, va_recv hK hP (ci := 11) (q0 := 0) rfl rfl, tQ_at hP hK hev hdv hZ⟩ rfl rfl hl.1 rfl (lv_room (Nat.le_of_ble_eq_true rfl)) dL_backAt_5 ⟨(Nat.le_of_ble_eq_true rfl), (Nat.le_of_ble_eq_true rfl)⟩) rfl hS hA (fun ce q9 H locs hz1 hk1 hS hce hcv hcl => ?_)
  refine px_catch (name := nIOO) (E := nIOO) hown ⟨0, 10, 13, 20⟩ [⟨0, 10, 17, 13⟩, ⟨0, 10, 21, 15⟩] htb rfl (by decide) (hu _ u454) (va_Nw.use rfl hev.2.2.2.1.1) hce hcv hcl ?_
  refine W.widen (k := 1) (n := 6) (Nat.le_of_ble_eq_true rfl) (Nat.le_of_ble_eq_true rfl) ?_
  refine lv_astore (lv' := [(4, .ref q9), (0, .ref h0), (1, .int c0), (2, .int d0), (3, .ref qo)]) hx hb dL_backAt_13 hl (by decide) rfl (fun ls hl => ?_)
  refine lv_iconst (v := 1) hx hb dL_backAt_15 (by decide) ?_
  exact W.iret (v := 1) hx hb hr (fun t ht hW => ⟨⟨1, (), rfl, rfl, trivial⟩, hS.F ht⟩) hS.2.2 dL_backAt_16
def wk_L_search : List Cond := .codeWith yL_search cL_search 5 (some .int) [(0, 10, 13, 20), (0, 10, 17, 13)] :: wU
set_option maxHeartbeats 4000000 in
set_option maxRecDepth 100000 in
theorem w_L_search (l : Launch) (hst : l.stackTraces = false) (dC : Nat → ClassId) (dI : Nat → Nat → Nat) (h0 sz qo : Nat) (fs : List Value) (c0 d0 : Int32) (hf : xF fs) : Met l yL_search wk_L_search ({ frames := 10, cells := 1, slots := 6, locals := 197 } : Room) (tQ dC dI [(h0, .inr (11, fs))] sz [.ref h0, .int c0, .int d0, .ref qo]) (va_Qi (S := Unit) (fun r _ => r = 1) (fun _ _ => True) (nw sz)) 1 6 (nw sz) := by
  refine px_ofWH (cc := cL_search) (maxL := 5) (ret := (some .int)) (hh := [(0, 10, 13, 20), (0, 10, 17, 13)]) (by decide) rfl ?_
  intro p e s m args below meth c s₁ B hml hv
  obtain ⟨rfl, hsz, hP, hK, hev, hdv, hZ⟩ := hv
  have hx := B.exec
  have hb := B.bytes
  have hr := B.returns
  have hts := atoms_spec (ws := wk_L_search) B.pre
  have hu : ∀ w ∈ wU, w.before ([.ref h0, .int c0, .int d0, .ref qo] : List Value).toArray s = true := fun w h => hts w (List.mem_cons_of_mem _ h)
  have hown : s.vm.findClass RL = some m.cls := findClass_of_methodNamed B.named
  have hlocks := B.notSynchronized
  subst hsz
  have hA : ∀ q : Nat, s.heap.size ≤ q → nw s.heap.size q := fun _ h => h
  have hS : va_S (nw s.heap.size) s.heap s.heap [] := va_S.rf
  have hl := lv_entry ([.ref h0, .int c0, .int d0, .ref qo]) (n := 5) (Nat.le_of_ble_eq_true rfl)
  rw [lg_entry_eq]
  generalize (lg_sl ([.ref h0, .int c0, .int d0, .ref qo]) ++ List.replicate (5 - (lg_sl ([.ref h0, .int c0, .int d0, .ref qo])).length) Slot.unset).toArray = ls at hl ⊢
  have hl : lv_has ls 5 [(0, .ref h0), (1, .int c0), (2, .int d0), (3, .ref qo)] := hl
  have htb := vx_table (x := yL_search) B (hts (.codeWith yL_search cL_search 5 (some .int) [(0, 10, 13, 20), (0, 10, 17, 13)]) List.mem_cons_self)
  refine lv_aload_n hx hb dL_search_0 rfl (lv_at hl 3 rfl) ?_
  refine lv_iconst (v := 0) hx hb dL_search_1 (by decide) ?_
  refine lv_aload_n hx hb dL_search_2 rfl (lv_at hl 0 rfl) ?_
  refine lv_iload_n hx hb dL_search_3 rfl (lv_at hl 1 rfl) ?_
  refine lv_iload_n hx hb dL_search_4 rfl (lv_at hl 2 rfl) ?_
  refine px_call (vx_runV (As := [.int c0, .int d0]) (rest := [.int 0, .ref qo]) ⟨hx, hb, hml, hown, hu⟩ (t_X11_search l hst dC dI h0 _ fs c0 d0 hf) (cwV 2 hu (gV u503 u504 u505 u432 u506) rfl rfl rfl (by decide +kernel) ⟨(Nat.le_of_ble_eq_true rfl), (Nat.le_of_ble_eq_true rfl)⟩) ⟨tQ_blind, va_recv hK hP (ci := 11) (q0 := 0) rfl rfl, tQ_at hP hK hev hdv hZ⟩ rfl rfl hl.1 rfl (lv_room (Nat.le_of_ble_eq_true rfl)) dL_search_5 ⟨(Nat.le_of_ble_eq_true rfl), (Nat.le_of_ble_eq_true rfl)⟩) rfl hS hA (fun ce q9 H locs hz1 hk1 hS hce hcv hcl => ?_)
  refine px_catch (name := nIOO) (E := nIOO) hown ⟨0, 10, 13, 20⟩ [⟨0, 10, 17, 13⟩] htb rfl (by decide) (hu _ u454) (va_Nw.use rfl hev.2.2.2.1.1) hce hcv hcl ?_
  refine W.widen (k := 1) (n := 6) (Nat.le_of_ble_eq_true rfl) (Nat.le_of_ble_eq_true rfl) ?_
  refine lv_astore (lv' := [(4, .ref q9), (0, .ref h0), (1, .int c0), (2, .int d0), (3, .ref qo)]) hx hb dL_search_13 hl (by decide) rfl (fun ls hl => ?_)
  refine lv_iconst (v := 1) hx hb dL_search_15 (by decide) ?_
  exact W.iret (v := 1) hx hb hr (fun t ht hW => ⟨⟨1, (), rfl, rfl, trivial⟩, hS.F ht⟩) hS.2.2 dL_search_16
def wk_L_count : List Cond := .codeWith yL_count cL_count 4 (some .int) [(0, 9, 12, 20), (0, 9, 15, 13)] :: wU
set_option maxHeartbeats 4000000 in
set_option maxRecDepth 100000 in
theorem w_L_count (l : Launch) (hst : l.stackTraces = false) (dC : Nat → ClassId) (dI : Nat → Nat → Nat) (h0 sz qo : Nat) (fs : List Value) (c0 : Int32) (hf : xF fs) : Met l yL_count wk_L_count ({ frames := 10, cells := 1, slots := 6, locals := 195 } : Room) (tQ dC dI [(h0, .inr (11, fs))] sz [.ref h0, .int c0, .ref qo]) (va_Qi (S := Unit) (fun r _ => r = 1) (fun _ _ => True) (nw sz)) 1 6 (nw sz) := by
  refine px_ofWH (cc := cL_count) (maxL := 4) (ret := (some .int)) (hh := [(0, 9, 12, 20), (0, 9, 15, 13)]) (by decide) rfl ?_
  intro p e s m args below meth c s₁ B hml hv
  obtain ⟨rfl, hsz, hP, hK, hev, hdv, hZ⟩ := hv
  have hx := B.exec
  have hb := B.bytes
  have hr := B.returns
  have hts := atoms_spec (ws := wk_L_count) B.pre
  have hu : ∀ w ∈ wU, w.before ([.ref h0, .int c0, .ref qo] : List Value).toArray s = true := fun w h => hts w (List.mem_cons_of_mem _ h)
  have hown : s.vm.findClass RL = some m.cls := findClass_of_methodNamed B.named
  have hlocks := B.notSynchronized
  subst hsz
  have hA : ∀ q : Nat, s.heap.size ≤ q → nw s.heap.size q := fun _ h => h
  have hS : va_S (nw s.heap.size) s.heap s.heap [] := va_S.rf
  have hl := lv_entry ([.ref h0, .int c0, .ref qo]) (n := 4) (Nat.le_of_ble_eq_true rfl)
  rw [lg_entry_eq]
  generalize (lg_sl ([.ref h0, .int c0, .ref qo]) ++ List.replicate (4 - (lg_sl ([.ref h0, .int c0, .ref qo])).length) Slot.unset).toArray = ls at hl ⊢
  have hl : lv_has ls 4 [(0, .ref h0), (1, .int c0), (2, .ref qo)] := hl
  have htb := vx_table (x := yL_count) B (hts (.codeWith yL_count cL_count 4 (some .int) [(0, 9, 12, 20), (0, 9, 15, 13)]) List.mem_cons_self)
  refine lv_aload_n hx hb dL_count_0 rfl (lv_at hl 2 rfl) ?_
  refine lv_iconst (v := 0) hx hb dL_count_1 (by decide) ?_
  refine lv_aload_n hx hb dL_count_2 rfl (lv_at hl 0 rfl) ?_
  refine lv_iload_n hx hb dL_count_3 rfl (lv_at hl 1 rfl) ?_
  refine px_call (vx_runV (As := [.int c0]) (rest := [.int 0, .ref qo]) ⟨hx, hb, hml, hown, hu⟩ (t_X11_count l hst dC dI h0 _ fs c0 hf) (cwV 1 hu (gV u507 u508 u509 u432 u510) rfl rfl rfl (by decide +kernel) ⟨(Nat.le_of_ble_eq_true rfl), (Nat.le_of_ble_eq_true rfl)⟩) ⟨tQ_blind, va_recv hK hP (ci := 11) (q0 := 0) rfl rfl, tQ_at hP hK hev hdv hZ⟩ rfl rfl hl.1 rfl (lv_room (Nat.le_of_ble_eq_true rfl)) dL_count_4 ⟨(Nat.le_of_ble_eq_true rfl), (Nat.le_of_ble_eq_true rfl)⟩) rfl hS hA (fun ce q9 H locs hz1 hk1 hS hce hcv hcl => ?_)
  refine px_catch (name := nIOO) (E := nIOO) hown ⟨0, 9, 12, 20⟩ [⟨0, 9, 15, 13⟩] htb rfl (by decide) (hu _ u454) (va_Nw.use rfl hev.2.2.2.1.1) hce hcv hcl ?_
  refine W.widen (k := 1) (n := 6) (Nat.le_of_ble_eq_true rfl) (Nat.le_of_ble_eq_true rfl) ?_
  refine lv_astore_n (lv' := [(3, .ref q9), (0, .ref h0), (1, .int c0), (2, .ref qo)]) hx hb dL_count_12 rfl hl (by decide) rfl (fun ls hl => ?_)
  refine lv_iconst (v := 1) hx hb dL_count_13 (by decide) ?_
  exact W.iret (v := 1) hx hb hr (fun t ht hW => ⟨⟨1, (), rfl, rfl, trivial⟩, hS.F ht⟩) hS.2.2 dL_count_14
def wk_L_over : List Cond := .codeWith yL_over cL_over 5 (some .int) [(0, 9, 12, 20), (0, 9, 16, 13)] :: wU
set_option maxHeartbeats 4000000 in
set_option maxRecDepth 100000 in
theorem w_L_over (l : Launch) (hst : l.stackTraces = false) (dC : Nat → ClassId) (dI : Nat → Nat → Nat) (h0 sz qo : Nat) (fs : List Value) (c0 d0 : Int32) (hf : xF fs) : Met l yL_over wk_L_over ({ frames := 10, cells := 1, slots := 6, locals := 210 } : Room) (tQ dC dI [(h0, .inr (11, fs))] sz [.ref h0, .int c0, .int d0, .ref qo]) (va_Qi (S := Unit) (fun r _ => r = 1) (fun _ _ => True) (nw sz)) 1 6 (nw sz) := by
  refine px_ofWH (cc := cL_over) (maxL := 5) (ret := (some .int)) (hh := [(0, 9, 12, 20), (0, 9, 16, 13)]) (by decide) rfl ?_
  intro p e s m args below meth c s₁ B hml hv
  obtain ⟨rfl, hsz, hP, hK, hev, hdv, hZ⟩ := hv
  have hx := B.exec
  have hb := B.bytes
  have hr := B.returns
  have hts := atoms_spec (ws := wk_L_over) B.pre
  have hu : ∀ w ∈ wU, w.before ([.ref h0, .int c0, .int d0, .ref qo] : List Value).toArray s = true := fun w h => hts w (List.mem_cons_of_mem _ h)
  have hown : s.vm.findClass RL = some m.cls := findClass_of_methodNamed B.named
  have hlocks := B.notSynchronized
  subst hsz
  have hA : ∀ q : Nat, s.heap.size ≤ q → nw s.heap.size q := fun _ h => h
  have hS : va_S (nw s.heap.size) s.heap s.heap [] := va_S.rf
  have hl := lv_entry ([.ref h0, .int c0, .int d0, .ref qo]) (n := 5) (Nat.le_of_ble_eq_true rfl)
  rw [lg_entry_eq]
  generalize (lg_sl ([.ref h0, .int c0, .int d0, .ref qo]) ++ List.replicate (5 - (lg_sl ([.ref h0, .int c0, .int d0, .ref qo])).length) Slot.unset).toArray = ls at hl ⊢
  have hl : lv_has ls 5 [(0, .ref h0), (1, .int c0), (2, .int d0), (3, .ref qo)] := hl
  have htb := vx_table (x := yL_over) B (hts (.codeWith yL_over cL_over 5 (some .int) [(0, 9, 12, 20), (0, 9, 16, 13)]) List.mem_cons_self)
  refine lv_aload_n hx hb dL_over_0 rfl (lv_at hl 3 rfl) ?_
  refine lv_iconst (v := 0) hx hb dL_over_1 (by decide) ?_
  refine lv_aload_n hx hb dL_over_2 rfl (lv_at hl 0 rfl) ?_
  refine lv_iload_n hx hb dL_over_3 rfl (lv_at hl 1 rfl) ?_
  refine lv_iload_n hx hb dL_over_4 rfl (lv_at hl 2 rfl) ?_
  refine px_call (vx_runV (As := [.int c0, .int d0]) (rest := [.int 0, .ref qo]) ⟨hx, hb, hml, hown, hu⟩ (t_X11_over l hst dC dI h0 _ fs c0 d0 hf) (cwV 2 hu (gV u511 u512 u513 u432 u514) rfl rfl rfl (by decide +kernel) ⟨(Nat.le_of_ble_eq_true rfl), (Nat.le_of_ble_eq_true rfl)⟩) ⟨tQ_blind, va_recv hK hP (ci := 11) (q0 := 0) rfl rfl, tQ_at hP hK hev hdv hZ⟩ rfl rfl hl.1 rfl (lv_room (Nat.le_of_ble_eq_true rfl)) dL_over_5 ⟨(Nat.le_of_ble_eq_true rfl), (Nat.le_of_ble_eq_true rfl)⟩) rfl hS hA (fun ce q9 H locs hz1 hk1 hS hce hcv hcl => ?_)
  refine px_catch (name := nIOO) (E := nIOO) hown ⟨0, 9, 12, 20⟩ [⟨0, 9, 16, 13⟩] htb rfl (by decide) (hu _ u454) (va_Nw.use rfl hev.2.2.2.1.1) hce hcv hcl ?_
  refine W.widen (k := 1) (n := 6) (Nat.le_of_ble_eq_true rfl) (Nat.le_of_ble_eq_true rfl) ?_
  refine lv_astore (lv' := [(4, .ref q9), (0, .ref h0), (1, .int c0), (2, .int d0), (3, .ref qo)]) hx hb dL_over_12 hl (by decide) rfl (fun ls hl => ?_)
  refine lv_iconst (v := 1) hx hb dL_over_14 (by decide) ?_
  exact W.iret (v := 1) hx hb hr (fun t ht hW => ⟨⟨1, (), rfl, rfl, trivial⟩, hS.F ht⟩) hS.2.2 dL_over_15
def wk_L_list : List Cond := .codeWith yL_list cL_list 5 (some .int) [(0, 10, 13, 20), (0, 10, 17, 13), (0, 10, 21, 15)] :: wU
set_option maxHeartbeats 4000000 in
set_option maxRecDepth 100000 in
theorem w_L_list (l : Launch) (hst : l.stackTraces = false) (dC : Nat → ClassId) (dI : Nat → Nat → Nat) (h0 sz qo : Nat) (fs : List Value) (c0 d0 : Int32) (hf : xF fs) : Met l yL_list wk_L_list ({ frames := 11, cells := 1, slots := 6, locals := 219 } : Room) (tQ dC dI [(h0, .inr (11, fs))] sz [.ref h0, .int c0, .int d0, .ref qo]) (va_Qi (S := Unit) (fun r _ => r = 1) (fun _ _ => True) (nw sz)) 1 6 (nw sz) := by
  refine px_ofWH (cc := cL_list) (maxL := 5) (ret := (some .int)) (hh := [(0, 10, 13, 20), (0, 10, 17, 13), (0, 10, 21, 15)]) (by decide) rfl ?_
  intro p e s m args below meth c s₁ B hml hv
  obtain ⟨rfl, hsz, hP, hK, hev, hdv, hZ⟩ := hv
  have hx := B.exec
  have hb := B.bytes
  have hr := B.returns
  have hts := atoms_spec (ws := wk_L_list) B.pre
  have hu : ∀ w ∈ wU, w.before ([.ref h0, .int c0, .int d0, .ref qo] : List Value).toArray s = true := fun w h => hts w (List.mem_cons_of_mem _ h)
  have hown : s.vm.findClass RL = some m.cls := findClass_of_methodNamed B.named
  have hlocks := B.notSynchronized
  subst hsz
  have hA : ∀ q : Nat, s.heap.size ≤ q → nw s.heap.size q := fun _ h => h
  have hS : va_S (nw s.heap.size) s.heap s.heap [] := va_S.rf
  have hl := lv_entry ([.ref h0, .int c0, .int d0, .ref qo]) (n := 5) (Nat.le_of_ble_eq_true rfl)
  rw [lg_entry_eq]
  generalize (lg_sl ([.ref h0, .int c0, .int d0, .ref qo]) ++ List.replicate (5 - (lg_sl ([.ref h0, .int c0, .int d0, .ref qo])).length) Slot.unset).toArray = ls at hl ⊢
  have hl : lv_has ls 5 [(0, .ref h0), (1, .int c0), (2, .int d0), (3, .ref qo)] := hl
  have htb := vx_table (x := yL_list) B (hts (.codeWith yL_list cL_list 5 (some .int) [(0, 10, 13, 20), (0, 10, 17, 13), (0, 10, 21, 15)]) List.mem_cons_self)
  refine lv_aload_n hx hb dL_list_0 rfl (lv_at hl 3 rfl) ?_
  refine lv_iconst (v := 0) hx hb dL_list_1 (by decide) ?_
  refine lv_aload_n hx hb dL_list_2 rfl (lv_at hl 0 rfl) ?_
  refine lv_iload_n hx hb dL_list_3 rfl (lv_at hl 1 rfl) ?_
  refine lv_iload_n hx hb dL_list_4 rfl (lv_at hl 2 rfl) ?_
  refine px_call (vx_runV (As := [.int c0, .int d0]) (rest := [.int 0, .ref qo]) ⟨hx, hb, hml, hown, hu⟩ (t_X11_list l hst dC dI h0 _ fs c0 d0 hf) (cwV 2 hu (gV u515 u516 u517 u432 u518) rfl rfl rfl (by decide +kernel) ⟨(Nat.le_of_ble_eq_true rfl), (Nat.le_of_ble_eq_true rfl)⟩) ⟨tQ_blind, va_recv hK hP (ci := 11) (q0 := 0) rfl rfl, tQ_at hP hK hev hdv hZ⟩ rfl rfl hl.1 rfl (lv_room (Nat.le_of_ble_eq_true rfl)) dL_list_5 ⟨(Nat.le_of_ble_eq_true rfl), (Nat.le_of_ble_eq_true rfl)⟩) rfl hS hA (fun ce q9 H locs hz1 hk1 hS hce hcv hcl => ?_)
  refine px_catch (name := nIOO) (E := nIOO) hown ⟨0, 10, 13, 20⟩ [⟨0, 10, 17, 13⟩, ⟨0, 10, 21, 15⟩] htb rfl (by decide) (hu _ u454) (va_Nw.use rfl hev.2.2.2.1.1) hce hcv hcl ?_
  refine W.widen (k := 1) (n := 6) (Nat.le_of_ble_eq_true rfl) (Nat.le_of_ble_eq_true rfl) ?_
  refine lv_astore (lv' := [(4, .ref q9), (0, .ref h0), (1, .int c0), (2, .int d0), (3, .ref qo)]) hx hb dL_list_13 hl (by decide) rfl (fun ls hl => ?_)
  refine lv_iconst (v := 1) hx hb dL_list_15 (by decide) ?_
  exact W.iret (v := 1) hx hb hr (fun t ht hW => ⟨⟨1, (), rfl, rfl, trivial⟩, hS.F ht⟩) hS.2.2 dL_list_16
def wk_L_group : List Cond := .codeWith yL_group cL_group 5 (some .int) [(0, 10, 13, 20), (0, 10, 17, 13), (0, 10, 21, 15)] :: wU
set_option maxHeartbeats 4000000 in
set_option maxRecDepth 100000 in
theorem w_L_group (l : Launch) (hst : l.stackTraces = false) (dC : Nat → ClassId) (dI : Nat → Nat → Nat) (h0 sz qo : Nat) (fs : List Value) (c0 d0 : Int32) (hf : xF fs) : Met l yL_group wk_L_group ({ frames := 11, cells := 1, slots := 6, locals := 219 } : Room) (tQ dC dI [(h0, .inr (11, fs))] sz [.ref h0, .int c0, .int d0, .ref qo]) (va_Qi (S := Unit) (fun r _ => r = 1) (fun _ _ => True) (nw sz)) 1 6 (nw sz) := by
  refine px_ofWH (cc := cL_group) (maxL := 5) (ret := (some .int)) (hh := [(0, 10, 13, 20), (0, 10, 17, 13), (0, 10, 21, 15)]) (by decide) rfl ?_
  intro p e s m args below meth c s₁ B hml hv
  obtain ⟨rfl, hsz, hP, hK, hev, hdv, hZ⟩ := hv
  have hx := B.exec
  have hb := B.bytes
  have hr := B.returns
  have hts := atoms_spec (ws := wk_L_group) B.pre
  have hu : ∀ w ∈ wU, w.before ([.ref h0, .int c0, .int d0, .ref qo] : List Value).toArray s = true := fun w h => hts w (List.mem_cons_of_mem _ h)
  have hown : s.vm.findClass RL = some m.cls := findClass_of_methodNamed B.named
  have hlocks := B.notSynchronized
  subst hsz
  have hA : ∀ q : Nat, s.heap.size ≤ q → nw s.heap.size q := fun _ h => h
  have hS : va_S (nw s.heap.size) s.heap s.heap [] := va_S.rf
  have hl := lv_entry ([.ref h0, .int c0, .int d0, .ref qo]) (n := 5) (Nat.le_of_ble_eq_true rfl)
  rw [lg_entry_eq]
  generalize (lg_sl ([.ref h0, .int c0, .int d0, .ref qo]) ++ List.replicate (5 - (lg_sl ([.ref h0, .int c0, .int d0, .ref qo])).length) Slot.unset).toArray = ls at hl ⊢
  have hl : lv_has ls 5 [(0, .ref h0), (1, .int c0), (2, .int d0), (3, .ref qo)] := hl
  have htb := vx_table (x := yL_group) B (hts (.codeWith yL_group cL_group 5 (some .int) [(0, 10, 13, 20), (0, 10, 17, 13), (0, 10, 21, 15)]) List.mem_cons_self)
  refine lv_aload_n hx hb dL_group_0 rfl (lv_at hl 3 rfl) ?_
  refine lv_iconst (v := 0) hx hb dL_group_1 (by decide) ?_
  refine lv_aload_n hx hb dL_group_2 rfl (lv_at hl 0 rfl) ?_
  refine lv_iload_n hx hb dL_group_3 rfl (lv_at hl 1 rfl) ?_
  refine lv_iload_n hx hb dL_group_4 rfl (lv_at hl 2 rfl) ?_
  refine px_call (vx_runV (As := [.int c0, .int d0]) (rest := [.int 0, .ref qo]) ⟨hx, hb, hml, hown, hu⟩ (t_X11_group l hst dC dI h0 _ fs c0 d0 hf) (cwV 2 hu (gV u519 u520 u521 u432 u522) rfl rfl rfl (by decide +kernel) ⟨(Nat.le_of_ble_eq_true rfl), (Nat.le_of_ble_eq_true rfl)⟩) ⟨tQ_blind, va_recv hK hP (ci := 11) (q0 := 0) rfl rfl, tQ_at hP hK hev hdv hZ⟩ rfl rfl hl.1 rfl (lv_room (Nat.le_of_ble_eq_true rfl)) dL_group_5 ⟨(Nat.le_of_ble_eq_true rfl), (Nat.le_of_ble_eq_true rfl)⟩) rfl hS hA (fun ce q9 H locs hz1 hk1 hS hce hcv hcl => ?_)
  refine px_catch (name := nIOO) (E := nIOO) hown ⟨0, 10, 13, 20⟩ [⟨0, 10, 17, 13⟩, ⟨0, 10, 21, 15⟩] htb rfl (by decide) (hu _ u454) (va_Nw.use rfl hev.2.2.2.1.1) hce hcv hcl ?_
  refine W.widen (k := 1) (n := 6) (Nat.le_of_ble_eq_true rfl) (Nat.le_of_ble_eq_true rfl) ?_
  refine lv_astore (lv' := [(4, .ref q9), (0, .ref h0), (1, .int c0), (2, .int d0), (3, .ref qo)]) hx hb dL_group_13 hl (by decide) rfl (fun ls hl => ?_)
  refine lv_iconst (v := 1) hx hb dL_group_15 (by decide) ?_
  exact W.iret (v := 1) hx hb hr (fun t ht hW => ⟨⟨1, (), rfl, rfl, trivial⟩, hS.F ht⟩) hS.2.2 dL_group_16
def wk_L_pair : List Cond := .codeWith yL_pair cL_pair 6 (some .int) [(0, 12, 15, 20), (0, 12, 19, 13)] :: wU
set_option maxHeartbeats 4000000 in
set_option maxRecDepth 100000 in
theorem w_L_pair (l : Launch) (hst : l.stackTraces = false) (dC : Nat → ClassId) (dI : Nat → Nat → Nat) (h0 sz qo : Nat) (fs : List Value) (c0 d0 e0 : Int32) (hf : xF fs) : Met l yL_pair wk_L_pair ({ frames := 9, cells := 1, slots := 6, locals := 178 } : Room) (tQ dC dI [(h0, .inr (11, fs))] sz [.ref h0, .int c0, .int d0, .int e0, .ref qo]) (va_Qi (S := Unit) (fun r _ => r = 1) (fun _ _ => True) (nw sz)) 1 6 (nw sz) := by
  refine px_ofWH (cc := cL_pair) (maxL := 6) (ret := (some .int)) (hh := [(0, 12, 15, 20), (0, 12, 19, 13)]) (by decide) rfl ?_
  intro p e s m args below meth c s₁ B hml hv
  obtain ⟨rfl, hsz, hP, hK, hev, hdv, hZ⟩ := hv
  have hx := B.exec
  have hb := B.bytes
  have hr := B.returns
  have hts := atoms_spec (ws := wk_L_pair) B.pre
  have hu : ∀ w ∈ wU, w.before ([.ref h0, .int c0, .int d0, .int e0, .ref qo] : List Value).toArray s = true := fun w h => hts w (List.mem_cons_of_mem _ h)
  have hown : s.vm.findClass RL = some m.cls := findClass_of_methodNamed B.named
  have hlocks := B.notSynchronized
  subst hsz
  have hA : ∀ q : Nat, s.heap.size ≤ q → nw s.heap.size q := fun _ h => h
  have hS : va_S (nw s.heap.size) s.heap s.heap [] := va_S.rf
  have hl := lv_entry ([.ref h0, .int c0, .int d0, .int e0, .ref qo]) (n := 6) (Nat.le_of_ble_eq_true rfl)
  rw [lg_entry_eq]
  generalize (lg_sl ([.ref h0, .int c0, .int d0, .int e0, .ref qo]) ++ List.replicate (6 - (lg_sl ([.ref h0, .int c0, .int d0, .int e0, .ref qo])).length) Slot.unset).toArray = ls at hl ⊢
  have hl : lv_has ls 6 [(0, .ref h0), (1, .int c0), (2, .int d0), (3, .int e0), (4, .ref qo)] := hl
  have htb := vx_table (x := yL_pair) B (hts (.codeWith yL_pair cL_pair 6 (some .int) [(0, 12, 15, 20), (0, 12, 19, 13)]) List.mem_cons_self)
  refine lv_aload hx hb dL_pair_0 (lv_at hl 4 rfl) ?_
  refine lv_iconst (v := 0) hx hb dL_pair_2 (by decide) ?_
  refine lv_aload_n hx hb dL_pair_3 rfl (lv_at hl 0 rfl) ?_
  refine lv_iload_n hx hb dL_pair_4 rfl (lv_at hl 1 rfl) ?_
  refine lv_iload_n hx hb dL_pair_5 rfl (lv_at hl 2 rfl) ?_
  refine lv_iload_n hx hb dL_pair_6 rfl (lv_at hl 3 rfl) ?_
  refine px_call (vx_runV (As := [.int c0, .int d0, .int e0]) (rest := [.int 0, .ref qo]) ⟨hx, hb, hml, hown, hu⟩ (t_X11_pair l hst dC dI h0 _ fs c0 d0 e0 hf) (cwV 3 hu (gV u523 u524 u525 u432 u526) rfl rfl rfl (by decide +kernel) ⟨(Nat.le_of_ble_eq_true rfl), (Nat.le_of_ble_eq_true rfl)⟩) ⟨tQ_blind, va_recv hK hP (ci := 11) (q0 := 0) rfl rfl, tQ_at hP hK hev hdv hZ⟩ rfl rfl hl.1 rfl (lv_room (Nat.le_of_ble_eq_true rfl)) dL_pair_7 ⟨(Nat.le_of_ble_eq_true rfl), (Nat.le_of_ble_eq_true rfl)⟩) rfl hS hA (fun ce q9 H locs hz1 hk1 hS hce hcv hcl => ?_)
  refine px_catch (name := nIOO) (E := nIOO) hown ⟨0, 12, 15, 20⟩ [⟨0, 12, 19, 13⟩] htb rfl (by decide) (hu _ u454) (va_Nw.use rfl hev.2.2.2.1.1) hce hcv hcl ?_
  refine W.widen (k := 1) (n := 6) (Nat.le_of_ble_eq_true rfl) (Nat.le_of_ble_eq_true rfl) ?_
  refine lv_astore (lv' := [(5, .ref q9), (0, .ref h0), (1, .int c0), (2, .int d0), (3, .int e0), (4, .ref qo)]) hx hb dL_pair_15 hl (by decide) rfl (fun ls hl => ?_)
  refine lv_iconst (v := 1) hx hb dL_pair_17 (by decide) ?_
  exact W.iret (v := 1) hx hb hr (fun t ht hW => ⟨⟨1, (), rfl, rfl, trivial⟩, hS.F ht⟩) hS.2.2 dL_pair_18
def wk_L_polynomial : List Cond := .codeWith yL_polynomial cL_polynomial 5 (some .int) [(0, 10, 13, 20), (0, 10, 17, 13)] :: wU
set_option maxHeartbeats 4000000 in
set_option maxRecDepth 100000 in
theorem w_L_polynomial (l : Launch) (hst : l.stackTraces = false) (dC : Nat → ClassId) (dI : Nat → Nat → Nat) (h0 sz qo : Nat) (fs : List Value) (c0 d0 : Int32) (hf : xF fs) : Met l yL_polynomial wk_L_polynomial ({ frames := 11, cells := 1, slots := 6, locals := 219 } : Room) (tQ dC dI [(h0, .inr (11, fs))] sz [.ref h0, .int c0, .int d0, .ref qo]) (va_Qi (S := Unit) (fun r _ => r = 1) (fun _ _ => True) (nw sz)) 1 6 (nw sz) := by
  refine px_ofWH (cc := cL_polynomial) (maxL := 5) (ret := (some .int)) (hh := [(0, 10, 13, 20), (0, 10, 17, 13)]) (by decide) rfl ?_
  intro p e s m args below meth c s₁ B hml hv
  obtain ⟨rfl, hsz, hP, hK, hev, hdv, hZ⟩ := hv
  have hx := B.exec
  have hb := B.bytes
  have hr := B.returns
  have hts := atoms_spec (ws := wk_L_polynomial) B.pre
  have hu : ∀ w ∈ wU, w.before ([.ref h0, .int c0, .int d0, .ref qo] : List Value).toArray s = true := fun w h => hts w (List.mem_cons_of_mem _ h)
  have hown : s.vm.findClass RL = some m.cls := findClass_of_methodNamed B.named
  have hlocks := B.notSynchronized
  subst hsz
  have hA : ∀ q : Nat, s.heap.size ≤ q → nw s.heap.size q := fun _ h => h
  have hS : va_S (nw s.heap.size) s.heap s.heap [] := va_S.rf
  have hl := lv_entry ([.ref h0, .int c0, .int d0, .ref qo]) (n := 5) (Nat.le_of_ble_eq_true rfl)
  rw [lg_entry_eq]
  generalize (lg_sl ([.ref h0, .int c0, .int d0, .ref qo]) ++ List.replicate (5 - (lg_sl ([.ref h0, .int c0, .int d0, .ref qo])).length) Slot.unset).toArray = ls at hl ⊢
  have hl : lv_has ls 5 [(0, .ref h0), (1, .int c0), (2, .int d0), (3, .ref qo)] := hl
  have htb := vx_table (x := yL_polynomial) B (hts (.codeWith yL_polynomial cL_polynomial 5 (some .int) [(0, 10, 13, 20), (0, 10, 17, 13)]) List.mem_cons_self)
  refine lv_aload_n hx hb dL_polynomial_0 rfl (lv_at hl 3 rfl) ?_
  refine lv_iconst (v := 0) hx hb dL_polynomial_1 (by decide) ?_
  refine lv_aload_n hx hb dL_polynomial_2 rfl (lv_at hl 0 rfl) ?_
  refine lv_iload_n hx hb dL_polynomial_3 rfl (lv_at hl 1 rfl) ?_
  refine lv_iload_n hx hb dL_polynomial_4 rfl (lv_at hl 2 rfl) ?_
  refine px_call (vx_runV (As := [.int c0, .int d0]) (rest := [.int 0, .ref qo]) ⟨hx, hb, hml, hown, hu⟩ (t_X11_polynomial l hst dC dI h0 _ fs c0 d0 hf) (cwV 2 hu (gV u527 u528 u529 u432 u530) rfl rfl rfl (by decide +kernel) ⟨(Nat.le_of_ble_eq_true rfl), (Nat.le_of_ble_eq_true rfl)⟩) ⟨tQ_blind, va_recv hK hP (ci := 11) (q0 := 0) rfl rfl, tQ_at hP hK hev hdv hZ⟩ rfl rfl hl.1 rfl (lv_room (Nat.le_of_ble_eq_true rfl)) dL_polynomial_5 ⟨(Nat.le_of_ble_eq_true rfl), (Nat.le_of_ble_eq_true rfl)⟩) rfl hS hA (fun ce q9 H locs hz1 hk1 hS hce hcv hcl => ?_)
  refine px_catch (name := nIOO) (E := nIOO) hown ⟨0, 10, 13, 20⟩ [⟨0, 10, 17, 13⟩] htb rfl (by decide) (hu _ u454) (va_Nw.use rfl hev.2.2.2.1.1) hce hcv hcl ?_
  refine W.widen (k := 1) (n := 6) (Nat.le_of_ble_eq_true rfl) (Nat.le_of_ble_eq_true rfl) ?_
  refine lv_astore (lv' := [(4, .ref q9), (0, .ref h0), (1, .int c0), (2, .int d0), (3, .ref qo)]) hx hb dL_polynomial_13 hl (by decide) rfl (fun ls hl => ?_)
  refine lv_iconst (v := 1) hx hb dL_polynomial_15 (by decide) ?_
  exact W.iret (v := 1) hx hb hr (fun t ht hW => ⟨⟨1, (), rfl, rfl, trivial⟩, hS.F ht⟩) hS.2.2 dL_polynomial_16
def wk_L_led : List Cond := .codeWith yL_led cL_led 4 (some .int) [(0, 9, 12, 20), (0, 9, 15, 15)] :: wU
set_option maxHeartbeats 4000000 in
set_option maxRecDepth 100000 in
theorem w_L_led (l : Launch) (hst : l.stackTraces = false) (dC : Nat → ClassId) (dI : Nat → Nat → Nat) (h0 sz qo : Nat) (fs : List Value) (c0 : Int32) (hf : xF fs) : Met l yL_led wk_L_led ({ frames := 9, cells := 1, slots := 6, locals := 176 } : Room) (tQ dC dI [(h0, .inr (11, fs))] sz [.ref h0, .int c0, .ref qo]) (va_Qi (S := Unit) (fun r _ => r = 1) (fun _ _ => True) (nw sz)) 1 6 (nw sz) := by
  refine px_ofWH (cc := cL_led) (maxL := 4) (ret := (some .int)) (hh := [(0, 9, 12, 20), (0, 9, 15, 15)]) (by decide) rfl ?_
  intro p e s m args below meth c s₁ B hml hv
  obtain ⟨rfl, hsz, hP, hK, hev, hdv, hZ⟩ := hv
  have hx := B.exec
  have hb := B.bytes
  have hr := B.returns
  have hts := atoms_spec (ws := wk_L_led) B.pre
  have hu : ∀ w ∈ wU, w.before ([.ref h0, .int c0, .ref qo] : List Value).toArray s = true := fun w h => hts w (List.mem_cons_of_mem _ h)
  have hown : s.vm.findClass RL = some m.cls := findClass_of_methodNamed B.named
  have hlocks := B.notSynchronized
  subst hsz
  have hA : ∀ q : Nat, s.heap.size ≤ q → nw s.heap.size q := fun _ h => h
  have hS : va_S (nw s.heap.size) s.heap s.heap [] := va_S.rf
  have hl := lv_entry ([.ref h0, .int c0, .ref qo]) (n := 4) (Nat.le_of_ble_eq_true rfl)
  rw [lg_entry_eq]
  generalize (lg_sl ([.ref h0, .int c0, .ref qo]) ++ List.replicate (4 - (lg_sl ([.ref h0, .int c0, .ref qo])).length) Slot.unset).toArray = ls at hl ⊢
  have hl : lv_has ls 4 [(0, .ref h0), (1, .int c0), (2, .ref qo)] := hl
  have htb := vx_table (x := yL_led) B (hts (.codeWith yL_led cL_led 4 (some .int) [(0, 9, 12, 20), (0, 9, 15, 15)]) List.mem_cons_self)
  refine lv_aload_n hx hb dL_led_0 rfl (lv_at hl 2 rfl) ?_
  refine lv_iconst (v := 0) hx hb dL_led_1 (by decide) ?_
  refine lv_aload_n hx hb dL_led_2 rfl (lv_at hl 0 rfl) ?_
  refine lv_iload_n hx hb dL_led_3 rfl (lv_at hl 1 rfl) ?_
  refine px_call (vx_runV (As := [.int c0]) (rest := [.int 0, .ref qo]) ⟨hx, hb, hml, hown, hu⟩ (t_X11_led l hst dC dI h0 _ fs c0 hf) (cwV 1 hu (gV u531 u532 u533 u432 u534) rfl rfl rfl (by decide +kernel) ⟨(Nat.le_of_ble_eq_true rfl), (Nat.le_of_ble_eq_true rfl)⟩) ⟨tQ_blind, va_recv hK hP (ci := 11) (q0 := 0) rfl rfl, tQ_at hP hK hev hdv hZ⟩ rfl rfl hl.1 rfl (lv_room (Nat.le_of_ble_eq_true rfl)) dL_led_4 ⟨(Nat.le_of_ble_eq_true rfl), (Nat.le_of_ble_eq_true rfl)⟩) rfl hS hA (fun ce q9 H locs hz1 hk1 hS hce hcv hcl => ?_)
  refine px_catch (name := nIOO) (E := nIOO) hown ⟨0, 9, 12, 20⟩ [⟨0, 9, 15, 15⟩] htb rfl (by decide) (hu _ u454) (va_Nw.use rfl hev.2.2.2.1.1) hce hcv hcl ?_
  refine W.widen (k := 1) (n := 6) (Nat.le_of_ble_eq_true rfl) (Nat.le_of_ble_eq_true rfl) ?_
  refine lv_astore_n (lv' := [(3, .ref q9), (0, .ref h0), (1, .int c0), (2, .ref qo)]) hx hb dL_led_12 rfl hl (by decide) rfl (fun ls hl => ?_)
  refine lv_iconst (v := 1) hx hb dL_led_13 (by decide) ?_
  exact W.iret (v := 1) hx hb hr (fun t ht hW => ⟨⟨1, (), rfl, rfl, trivial⟩, hS.F ht⟩) hS.2.2 dL_led_14
def wk_L_through : List Cond := .codeWith yL_through cL_through 5 (some .int) [(0, 10, 13, 20), (0, 10, 17, 15)] :: wU
set_option maxHeartbeats 4000000 in
set_option maxRecDepth 100000 in
theorem w_L_through (l : Launch) (hst : l.stackTraces = false) (dC : Nat → ClassId) (dI : Nat → Nat → Nat) (h0 sz qo : Nat) (fs : List Value) (c0 d0 : Int32) (hf : xF fs) : Met l yL_through wk_L_through ({ frames := 9, cells := 1, slots := 6, locals := 180 } : Room) (tQ dC dI [(h0, .inr (11, fs))] sz [.ref h0, .int c0, .int d0, .ref qo]) (va_Qi (S := Unit) (fun r _ => r = 1) (fun _ _ => True) (nw sz)) 1 6 (nw sz) := by
  refine px_ofWH (cc := cL_through) (maxL := 5) (ret := (some .int)) (hh := [(0, 10, 13, 20), (0, 10, 17, 15)]) (by decide) rfl ?_
  intro p e s m args below meth c s₁ B hml hv
  obtain ⟨rfl, hsz, hP, hK, hev, hdv, hZ⟩ := hv
  have hx := B.exec
  have hb := B.bytes
  have hr := B.returns
  have hts := atoms_spec (ws := wk_L_through) B.pre
  have hu : ∀ w ∈ wU, w.before ([.ref h0, .int c0, .int d0, .ref qo] : List Value).toArray s = true := fun w h => hts w (List.mem_cons_of_mem _ h)
  have hown : s.vm.findClass RL = some m.cls := findClass_of_methodNamed B.named
  have hlocks := B.notSynchronized
  subst hsz
  have hA : ∀ q : Nat, s.heap.size ≤ q → nw s.heap.size q := fun _ h => h
  have hS : va_S (nw s.heap.size) s.heap s.heap [] := va_S.rf
  have hl := lv_entry ([.ref h0, .int c0, .int d0, .ref qo]) (n := 5) (Nat.le_of_ble_eq_true rfl)
  rw [lg_entry_eq]
  generalize (lg_sl ([.ref h0, .int c0, .int d0, .ref qo]) ++ List.replicate (5 - (lg_sl ([.ref h0, .int c0, .int d0, .ref qo])).length) Slot.unset).toArray = ls at hl ⊢
  have hl : lv_has ls 5 [(0, .ref h0), (1, .int c0), (2, .int d0), (3, .ref qo)] := hl
  have htb := vx_table (x := yL_through) B (hts (.codeWith yL_through cL_through 5 (some .int) [(0, 10, 13, 20), (0, 10, 17, 15)]) List.mem_cons_self)
  refine lv_aload_n hx hb dL_through_0 rfl (lv_at hl 3 rfl) ?_
  refine lv_iconst (v := 0) hx hb dL_through_1 (by decide) ?_
  refine lv_aload_n hx hb dL_through_2 rfl (lv_at hl 0 rfl) ?_
  refine lv_iload_n hx hb dL_through_3 rfl (lv_at hl 1 rfl) ?_
  refine lv_iload_n hx hb dL_through_4 rfl (lv_at hl 2 rfl) ?_
  refine px_call (vx_runV (As := [.int c0, .int d0]) (rest := [.int 0, .ref qo]) ⟨hx, hb, hml, hown, hu⟩ (t_X11_through l hst dC dI h0 _ fs c0 d0 hf) (cwV 2 hu (gV u535 u536 u537 u432 u538) rfl rfl rfl (by decide +kernel) ⟨(Nat.le_of_ble_eq_true rfl), (Nat.le_of_ble_eq_true rfl)⟩) ⟨tQ_blind, va_recv hK hP (ci := 11) (q0 := 0) rfl rfl, tQ_at hP hK hev hdv hZ⟩ rfl rfl hl.1 rfl (lv_room (Nat.le_of_ble_eq_true rfl)) dL_through_5 ⟨(Nat.le_of_ble_eq_true rfl), (Nat.le_of_ble_eq_true rfl)⟩) rfl hS hA (fun ce q9 H locs hz1 hk1 hS hce hcv hcl => ?_)
  refine px_catch (name := nIOO) (E := nIOO) hown ⟨0, 10, 13, 20⟩ [⟨0, 10, 17, 15⟩] htb rfl (by decide) (hu _ u454) (va_Nw.use rfl hev.2.2.2.1.1) hce hcv hcl ?_
  refine W.widen (k := 1) (n := 6) (Nat.le_of_ble_eq_true rfl) (Nat.le_of_ble_eq_true rfl) ?_
  refine lv_astore (lv' := [(4, .ref q9), (0, .ref h0), (1, .int c0), (2, .int d0), (3, .ref qo)]) hx hb dL_through_13 hl (by decide) rfl (fun ls hl => ?_)
  refine lv_iconst (v := 1) hx hb dL_through_15 (by decide) ?_
  exact W.iret (v := 1) hx hb hr (fun t ht hW => ⟨⟨1, (), rfl, rfl, trivial⟩, hS.F ht⟩) hS.2.2 dL_through_16
def wk_L_found : List Cond := .codeWith yL_found cL_found 5 (some .int) [(0, 9, 12, 20), (0, 9, 16, 13)] :: wU
set_option maxHeartbeats 4000000 in
set_option maxRecDepth 100000 in
theorem w_L_found (l : Launch) (hst : l.stackTraces = false) (dC : Nat → ClassId) (dI : Nat → Nat → Nat) (h0 sz qo : Nat) (fs : List Value) (f8 : List Value) (q8 : Nat) (c0 d0 : Int32) (hf : xF fs) (hq8 : fs[10]? = some (.ref q8)) (hf8 : f8[3]? = some (.int 0)) : Met l yL_found wk_L_found ({ frames := 8, cells := 1, slots := 6, locals := 152 } : Room) (tQ dC dI [(h0, .inr (11, fs)), (q8, .inr (8, f8))] sz [.ref h0, .int c0, .int d0, .ref qo]) (va_Qi (S := Unit) (fun r _ => r = 1) (fun _ _ => True) (nw sz)) 1 6 (nw sz) := by
  refine px_ofWH (cc := cL_found) (maxL := 5) (ret := (some .int)) (hh := [(0, 9, 12, 20), (0, 9, 16, 13)]) (by decide) rfl ?_
  intro p e s m args below meth c s₁ B hml hv
  obtain ⟨rfl, hsz, hP, hK, hev, hdv, hZ⟩ := hv
  have hx := B.exec
  have hb := B.bytes
  have hr := B.returns
  have hts := atoms_spec (ws := wk_L_found) B.pre
  have hu : ∀ w ∈ wU, w.before ([.ref h0, .int c0, .int d0, .ref qo] : List Value).toArray s = true := fun w h => hts w (List.mem_cons_of_mem _ h)
  have hown : s.vm.findClass RL = some m.cls := findClass_of_methodNamed B.named
  have hlocks := B.notSynchronized
  subst hsz
  have hA : ∀ q : Nat, s.heap.size ≤ q → nw s.heap.size q := fun _ h => h
  have hS : va_S (nw s.heap.size) s.heap s.heap [] := va_S.rf
  have hl := lv_entry ([.ref h0, .int c0, .int d0, .ref qo]) (n := 5) (Nat.le_of_ble_eq_true rfl)
  rw [lg_entry_eq]
  generalize (lg_sl ([.ref h0, .int c0, .int d0, .ref qo]) ++ List.replicate (5 - (lg_sl ([.ref h0, .int c0, .int d0, .ref qo])).length) Slot.unset).toArray = ls at hl ⊢
  have hl : lv_has ls 5 [(0, .ref h0), (1, .int c0), (2, .int d0), (3, .ref qo)] := hl
  have htb := vx_table (x := yL_found) B (hts (.codeWith yL_found cL_found 5 (some .int) [(0, 9, 12, 20), (0, 9, 16, 13)]) List.mem_cons_self)
  refine lv_aload_n hx hb dL_found_0 rfl (lv_at hl 3 rfl) ?_
  refine lv_iconst (v := 0) hx hb dL_found_1 (by decide) ?_
  refine lv_aload_n hx hb dL_found_2 rfl (lv_at hl 0 rfl) ?_
  refine lv_iload_n hx hb dL_found_3 rfl (lv_at hl 1 rfl) ?_
  refine lv_iload_n hx hb dL_found_4 rfl (lv_at hl 2 rfl) ?_
  refine px_call (vx_runV (As := [.int c0, .int d0]) (rest := [.int 0, .ref qo]) ⟨hx, hb, hml, hown, hu⟩ (t_X11_found l hst dC dI h0 _ fs f8 q8 c0 d0 hf hq8 hf8) (cwV 2 hu (gV u539 u540 u541 u432 u542) rfl rfl rfl (by decide +kernel) ⟨(Nat.le_of_ble_eq_true rfl), (Nat.le_of_ble_eq_true rfl)⟩) ⟨tQ_blind, va_recv hK hP (ci := 11) (q0 := 0) rfl rfl, tQ_at hP hK hev hdv hZ⟩ rfl rfl hl.1 rfl (lv_room (Nat.le_of_ble_eq_true rfl)) dL_found_5 ⟨(Nat.le_of_ble_eq_true rfl), (Nat.le_of_ble_eq_true rfl)⟩) rfl hS hA (fun ce q9 H locs hz1 hk1 hS hce hcv hcl => ?_)
  refine px_catch (name := nIOO) (E := nIOO) hown ⟨0, 9, 12, 20⟩ [⟨0, 9, 16, 13⟩] htb rfl (by decide) (hu _ u454) (va_Nw.use rfl hev.2.2.2.1.1) hce hcv hcl ?_
  refine W.widen (k := 1) (n := 6) (Nat.le_of_ble_eq_true rfl) (Nat.le_of_ble_eq_true rfl) ?_
  refine lv_astore (lv' := [(4, .ref q9), (0, .ref h0), (1, .int c0), (2, .int d0), (3, .ref qo)]) hx hb dL_found_12 hl (by decide) rfl (fun ls hl => ?_)
  refine lv_iconst (v := 1) hx hb dL_found_14 (by decide) ?_
  exact W.iret (v := 1) hx hb hr (fun t ht hW => ⟨⟨1, (), rfl, rfl, trivial⟩, hS.F ht⟩) hS.2.2 dL_found_15
end
