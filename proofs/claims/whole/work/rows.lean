section
-- ===== PART A: goes FIRST, ahead of the names: the tables' words, and 'selects' of the private methods out of them =====
/-- a private method of a class that the tables say can be made, by its rows of tables_1 -/
def lw_okq (q : MethodName × Nat) : Prop := (q.1.cls ≠ "java/lang/invoke/MethodHandle" ∧ q.1.cls ≠ "java/lang/invoke/VarHandle") ∧ Cond.instantiable q.1.cls q.2 ∈ tables_1 ∧ Cond.privateMethod q.1 ∈ tables_1 ∧ Cond.instanceMethod q.1 ∈ tables_1
theorem lw_p0 : lw_okq (⟨"LampLeaseOffice$Forecast", "clearTable", "()V"⟩, 1) := ⟨⟨by decide +kernel, by decide +kernel⟩, List.mem_of_getElem? (i := 199) (by decide +kernel), List.mem_of_getElem? (i := 404) (by decide +kernel), List.mem_of_getElem? (i := 405) (by decide +kernel)⟩
theorem lw_p1 : lw_okq (⟨"LampLeaseOffice$Forecast", "enterInTable", "(I)V"⟩, 1) := ⟨⟨by decide +kernel, by decide +kernel⟩, List.mem_of_getElem? (i := 199) (by decide +kernel), List.mem_of_getElem? (i := 408) (by decide +kernel), List.mem_of_getElem? (i := 409) (by decide +kernel)⟩
theorem lw_p2 : lw_okq (⟨"LampLeaseOffice", "coinsAddUp", "()Z"⟩, 12) := ⟨⟨by decide +kernel, by decide +kernel⟩, List.mem_of_getElem? (i := 39) (by decide +kernel), List.mem_of_getElem? (i := 431) (by decide +kernel), List.mem_of_getElem? (i := 432) (by decide +kernel)⟩
theorem lw_p3 : lw_okq (⟨"LampLeaseOffice", "sharesAgree", "()Z"⟩, 12) := ⟨⟨by decide +kernel, by decide +kernel⟩, List.mem_of_getElem? (i := 39) (by decide +kernel), List.mem_of_getElem? (i := 439) (by decide +kernel), List.mem_of_getElem? (i := 440) (by decide +kernel)⟩
theorem lw_p4 : lw_okq (⟨"LampLeaseOffice$Division", "divideRoundedDown", "(LLampLeaseOffice$State;)V"⟩, 4) := ⟨⟨by decide +kernel, by decide +kernel⟩, List.mem_of_getElem? (i := 209) (by decide +kernel), List.mem_of_getElem? (i := 451) (by decide +kernel), List.mem_of_getElem? (i := 452) (by decide +kernel)⟩
theorem lw_p5 : lw_okq (⟨"LampLeaseOffice$Division", "giveOneUnit", "(I)V"⟩, 4) := ⟨⟨by decide +kernel, by decide +kernel⟩, List.mem_of_getElem? (i := 209) (by decide +kernel), List.mem_of_getElem? (i := 464) (by decide +kernel), List.mem_of_getElem? (i := 465) (by decide +kernel)⟩
theorem lw_p6 : lw_okq (⟨"LampLeaseOffice$Division", "rankOf", "(II)I"⟩, 4) := ⟨⟨by decide +kernel, by decide +kernel⟩, List.mem_of_getElem? (i := 209) (by decide +kernel), List.mem_of_getElem? (i := 472) (by decide +kernel), List.mem_of_getElem? (i := 473) (by decide +kernel)⟩
theorem lw_p7 : lw_okq (⟨"LampLeaseOffice", "sharesAddUp", "()Z"⟩, 12) := ⟨⟨by decide +kernel, by decide +kernel⟩, List.mem_of_getElem? (i := 39) (by decide +kernel), List.mem_of_getElem? (i := 476) (by decide +kernel), List.mem_of_getElem? (i := 477) (by decide +kernel)⟩
theorem lw_p8 : lw_okq (⟨"LampLeaseOffice", "brightnessAgrees", "()Z"⟩, 12) := ⟨⟨by decide +kernel, by decide +kernel⟩, List.mem_of_getElem? (i := 39) (by decide +kernel), List.mem_of_getElem? (i := 480) (by decide +kernel), List.mem_of_getElem? (i := 481) (by decide +kernel)⟩
theorem lw_p9 : lw_okq (⟨"LampLeaseOffice", "requestsAreForLeasedLamps", "()Z"⟩, 12) := ⟨⟨by decide +kernel, by decide +kernel⟩, List.mem_of_getElem? (i := 39) (by decide +kernel), List.mem_of_getElem? (i := 484) (by decide +kernel), List.mem_of_getElem? (i := 485) (by decide +kernel)⟩
theorem lw_p10 : lw_okq (⟨"java/lang/Throwable", "fillInStackTrace", "(I)Ljava/lang/Throwable;"⟩, 6) := ⟨⟨by decide +kernel, by decide +kernel⟩, List.mem_of_getElem? (i := 730) (by decide +kernel), List.mem_of_getElem? (i := 728) (by decide +kernel), List.mem_of_getElem? (i := 729) (by decide +kernel)⟩
theorem lw_p11 : lw_okq (⟨"LampLeaseOffice", "describe", "(I)V"⟩, 12) := ⟨⟨by decide +kernel, by decide +kernel⟩, List.mem_of_getElem? (i := 39) (by decide +kernel), List.mem_of_getElem? (i := 860) (by decide +kernel), List.mem_of_getElem? (i := 861) (by decide +kernel)⟩
theorem lw_p12 : lw_okq (⟨"LampLeaseOffice$State", "price", "(II)I"⟩, 7) := ⟨⟨by decide +kernel, by decide +kernel⟩, List.mem_of_getElem? (i := 47) (by decide +kernel), List.mem_of_getElem? (i := 1037) (by decide +kernel), List.mem_of_getElem? (i := 1038) (by decide +kernel)⟩
theorem lw_p13 : lw_okq (⟨"LampLeaseOffice$State", "payOffice", "(II)V"⟩, 7) := ⟨⟨by decide +kernel, by decide +kernel⟩, List.mem_of_getElem? (i := 47) (by decide +kernel), List.mem_of_getElem? (i := 1049) (by decide +kernel), List.mem_of_getElem? (i := 1050) (by decide +kernel)⟩
theorem lw_p14 : lw_okq (⟨"LampLeaseOffice$State", "passOneHour", "()I"⟩, 7) := ⟨⟨by decide +kernel, by decide +kernel⟩, List.mem_of_getElem? (i := 47) (by decide +kernel), List.mem_of_getElem? (i := 1104) (by decide +kernel), List.mem_of_getElem? (i := 1105) (by decide +kernel)⟩
theorem lw_p15 : lw_okq (⟨"LampLeaseOffice$State", "processRequests", "()V"⟩, 7) := ⟨⟨by decide +kernel, by decide +kernel⟩, List.mem_of_getElem? (i := 47) (by decide +kernel), List.mem_of_getElem? (i := 1108) (by decide +kernel), List.mem_of_getElem? (i := 1109) (by decide +kernel)⟩
def lw_privs_1 : List (MethodName × Nat) := [(⟨"LampLeaseOffice$Forecast", "clearTable", "()V"⟩, 1), (⟨"LampLeaseOffice$Forecast", "enterInTable", "(I)V"⟩, 1), (⟨"LampLeaseOffice", "coinsAddUp", "()Z"⟩, 12), (⟨"LampLeaseOffice", "sharesAgree", "()Z"⟩, 12), (⟨"LampLeaseOffice$Division", "divideRoundedDown", "(LLampLeaseOffice$State;)V"⟩, 4), (⟨"LampLeaseOffice$Division", "giveOneUnit", "(I)V"⟩, 4), (⟨"LampLeaseOffice$Division", "rankOf", "(II)I"⟩, 4), (⟨"LampLeaseOffice", "sharesAddUp", "()Z"⟩, 12), (⟨"LampLeaseOffice", "brightnessAgrees", "()Z"⟩, 12), (⟨"LampLeaseOffice", "requestsAreForLeasedLamps", "()Z"⟩, 12), (⟨"java/lang/Throwable", "fillInStackTrace", "(I)Ljava/lang/Throwable;"⟩, 6), (⟨"LampLeaseOffice", "describe", "(I)V"⟩, 12), (⟨"LampLeaseOffice$State", "price", "(II)I"⟩, 7), (⟨"LampLeaseOffice$State", "payOffice", "(II)V"⟩, 7), (⟨"LampLeaseOffice$State", "passOneHour", "()I"⟩, 7), (⟨"LampLeaseOffice$State", "processRequests", "()V"⟩, 7)]
theorem lw_r1 : ∀ q ∈ lw_privs_1, lw_okq q := List.forall_mem_cons.mpr ⟨lw_p0, List.forall_mem_cons.mpr ⟨lw_p1, List.forall_mem_cons.mpr ⟨lw_p2, List.forall_mem_cons.mpr ⟨lw_p3, List.forall_mem_cons.mpr ⟨lw_p4, List.forall_mem_cons.mpr ⟨lw_p5, List.forall_mem_cons.mpr ⟨lw_p6, List.forall_mem_cons.mpr ⟨lw_p7, List.forall_mem_cons.mpr ⟨lw_p8, List.forall_mem_cons.mpr ⟨lw_p9, List.forall_mem_cons.mpr ⟨lw_p10, List.forall_mem_cons.mpr ⟨lw_p11, List.forall_mem_cons.mpr ⟨lw_p12, List.forall_mem_cons.mpr ⟨lw_p13, List.forall_mem_cons.mpr ⟨lw_p14, List.forall_mem_cons.mpr ⟨lw_p15, fun _ h => absurd h List.not_mem_nil⟩⟩⟩⟩⟩⟩⟩⟩⟩⟩⟩⟩⟩⟩⟩⟩
theorem lw_p16 : lw_okq (⟨"LampLeaseOffice$State", "renewOrRefuse", "(II)V"⟩, 7) := ⟨⟨by decide +kernel, by decide +kernel⟩, List.mem_of_getElem? (i := 47) (by decide +kernel), List.mem_of_getElem? (i := 1112) (by decide +kernel), List.mem_of_getElem? (i := 1113) (by decide +kernel)⟩
theorem lw_p17 : lw_okq (⟨"LampLeaseOffice$State", "burn", "()V"⟩, 7) := ⟨⟨by decide +kernel, by decide +kernel⟩, List.mem_of_getElem? (i := 47) (by decide +kernel), List.mem_of_getElem? (i := 1120) (by decide +kernel), List.mem_of_getElem? (i := 1121) (by decide +kernel)⟩
theorem lw_p18 : lw_okq (⟨"LampLeaseOffice$State", "fineDarkShips", "()V"⟩, 7) := ⟨⟨by decide +kernel, by decide +kernel⟩, List.mem_of_getElem? (i := 47) (by decide +kernel), List.mem_of_getElem? (i := 1124) (by decide +kernel), List.mem_of_getElem? (i := 1125) (by decide +kernel)⟩
theorem lw_p19 : lw_okq (⟨"LampLeaseOffice$State", "endLeases", "()I"⟩, 7) := ⟨⟨by decide +kernel, by decide +kernel⟩, List.mem_of_getElem? (i := 47) (by decide +kernel), List.mem_of_getElem? (i := 1137) (by decide +kernel), List.mem_of_getElem? (i := 1138) (by decide +kernel)⟩
theorem lw_p20 : lw_okq (⟨"LampLeaseOffice", "throwUnlessShip", "(I)V"⟩, 12) := ⟨⟨by decide +kernel, by decide +kernel⟩, List.mem_of_getElem? (i := 39) (by decide +kernel), List.mem_of_getElem? (i := 1149) (by decide +kernel), List.mem_of_getElem? (i := 1150) (by decide +kernel)⟩
theorem lw_p21 : lw_okq (⟨"LampLeaseOffice", "throwUnlessLamp", "(I)V"⟩, 12) := ⟨⟨by decide +kernel, by decide +kernel⟩, List.mem_of_getElem? (i := 39) (by decide +kernel), List.mem_of_getElem? (i := 1192) (by decide +kernel), List.mem_of_getElem? (i := 1193) (by decide +kernel)⟩
theorem lw_p22 : lw_okq (⟨"LampLeaseOffice", "throwUnlessPosition", "(I)V"⟩, 12) := ⟨⟨by decide +kernel, by decide +kernel⟩, List.mem_of_getElem? (i := 39) (by decide +kernel), List.mem_of_getElem? (i := 1288) (by decide +kernel), List.mem_of_getElem? (i := 1289) (by decide +kernel)⟩
theorem lw_p23 : lw_okq (⟨"LampLeaseOffice$Ships", "rankOf", "(I)I"⟩, 4) := ⟨⟨by decide +kernel, by decide +kernel⟩, List.mem_of_getElem? (i := 53) (by decide +kernel), List.mem_of_getElem? (i := 1311) (by decide +kernel), List.mem_of_getElem? (i := 1312) (by decide +kernel)⟩
theorem lw_p24 : lw_okq (⟨"LampLeaseOffice$Ships", "isBefore", "(II)Z"⟩, 4) := ⟨⟨by decide +kernel, by decide +kernel⟩, List.mem_of_getElem? (i := 53) (by decide +kernel), List.mem_of_getElem? (i := 1315) (by decide +kernel), List.mem_of_getElem? (i := 1316) (by decide +kernel)⟩
theorem lw_p25 : lw_okq (⟨"LampLeaseOffice$Lamps", "rankOf", "(I)I"⟩, 6) := ⟨⟨by decide +kernel, by decide +kernel⟩, List.mem_of_getElem? (i := 82) (by decide +kernel), List.mem_of_getElem? (i := 1330) (by decide +kernel), List.mem_of_getElem? (i := 1331) (by decide +kernel)⟩
theorem lw_p26 : lw_okq (⟨"LampLeaseOffice$Lamps", "isBefore", "(II)Z"⟩, 6) := ⟨⟨by decide +kernel, by decide +kernel⟩, List.mem_of_getElem? (i := 82) (by decide +kernel), List.mem_of_getElem? (i := 1334) (by decide +kernel), List.mem_of_getElem? (i := 1335) (by decide +kernel)⟩
theorem lw_p27 : lw_okq (⟨"LampLeaseOffice$CommandText", "readCommand", "(LLampLeaseOffice$Command;)Z"⟩, 5) := ⟨⟨by decide +kernel, by decide +kernel⟩, List.mem_of_getElem? (i := 228) (by decide +kernel), List.mem_of_getElem? (i := 1393) (by decide +kernel), List.mem_of_getElem? (i := 1394) (by decide +kernel)⟩
theorem lw_p28 : lw_okq (⟨"LampLeaseOffice$CommandText", "readKeyword", "()LLampLeaseOffice$Keyword;"⟩, 5) := ⟨⟨by decide +kernel, by decide +kernel⟩, List.mem_of_getElem? (i := 228) (by decide +kernel), List.mem_of_getElem? (i := 1397) (by decide +kernel), List.mem_of_getElem? (i := 1398) (by decide +kernel)⟩
theorem lw_p29 : lw_okq (⟨"LampLeaseOffice$CommandText", "commonLetters", "(Ljava/lang/String;)I"⟩, 5) := ⟨⟨by decide +kernel, by decide +kernel⟩, List.mem_of_getElem? (i := 228) (by decide +kernel), List.mem_of_getElem? (i := 1403) (by decide +kernel), List.mem_of_getElem? (i := 1404) (by decide +kernel)⟩
theorem lw_p30 : lw_okq (⟨"LampLeaseOffice$CommandText", "isAt", "(C)Z"⟩, 5) := ⟨⟨by decide +kernel, by decide +kernel⟩, List.mem_of_getElem? (i := 228) (by decide +kernel), List.mem_of_getElem? (i := 1424) (by decide +kernel), List.mem_of_getElem? (i := 1425) (by decide +kernel)⟩
theorem lw_p31 : lw_okq (⟨"LampLeaseOffice$CommandText", "readBlankAndNumber", "(I)I"⟩, 5) := ⟨⟨by decide +kernel, by decide +kernel⟩, List.mem_of_getElem? (i := 228) (by decide +kernel), List.mem_of_getElem? (i := 1432) (by decide +kernel), List.mem_of_getElem? (i := 1433) (by decide +kernel)⟩
def lw_privs_2 : List (MethodName × Nat) := [(⟨"LampLeaseOffice$State", "renewOrRefuse", "(II)V"⟩, 7), (⟨"LampLeaseOffice$State", "burn", "()V"⟩, 7), (⟨"LampLeaseOffice$State", "fineDarkShips", "()V"⟩, 7), (⟨"LampLeaseOffice$State", "endLeases", "()I"⟩, 7), (⟨"LampLeaseOffice", "throwUnlessShip", "(I)V"⟩, 12), (⟨"LampLeaseOffice", "throwUnlessLamp", "(I)V"⟩, 12), (⟨"LampLeaseOffice", "throwUnlessPosition", "(I)V"⟩, 12), (⟨"LampLeaseOffice$Ships", "rankOf", "(I)I"⟩, 4), (⟨"LampLeaseOffice$Ships", "isBefore", "(II)Z"⟩, 4), (⟨"LampLeaseOffice$Lamps", "rankOf", "(I)I"⟩, 6), (⟨"LampLeaseOffice$Lamps", "isBefore", "(II)Z"⟩, 6), (⟨"LampLeaseOffice$CommandText", "readCommand", "(LLampLeaseOffice$Command;)Z"⟩, 5), (⟨"LampLeaseOffice$CommandText", "readKeyword", "()LLampLeaseOffice$Keyword;"⟩, 5), (⟨"LampLeaseOffice$CommandText", "commonLetters", "(Ljava/lang/String;)I"⟩, 5), (⟨"LampLeaseOffice$CommandText", "isAt", "(C)Z"⟩, 5), (⟨"LampLeaseOffice$CommandText", "readBlankAndNumber", "(I)I"⟩, 5)]
theorem lw_r2 : ∀ q ∈ lw_privs_2, lw_okq q := List.forall_mem_cons.mpr ⟨lw_p16, List.forall_mem_cons.mpr ⟨lw_p17, List.forall_mem_cons.mpr ⟨lw_p18, List.forall_mem_cons.mpr ⟨lw_p19, List.forall_mem_cons.mpr ⟨lw_p20, List.forall_mem_cons.mpr ⟨lw_p21, List.forall_mem_cons.mpr ⟨lw_p22, List.forall_mem_cons.mpr ⟨lw_p23, List.forall_mem_cons.mpr ⟨lw_p24, List.forall_mem_cons.mpr ⟨lw_p25, List.forall_mem_cons.mpr ⟨lw_p26, List.forall_mem_cons.mpr ⟨lw_p27, List.forall_mem_cons.mpr ⟨lw_p28, List.forall_mem_cons.mpr ⟨lw_p29, List.forall_mem_cons.mpr ⟨lw_p30, List.forall_mem_cons.mpr ⟨lw_p31, fun _ h => absurd h List.not_mem_nil⟩⟩⟩⟩⟩⟩⟩⟩⟩⟩⟩⟩⟩⟩⟩⟩
theorem lw_p32 : lw_okq (⟨"LampLeaseOffice$CommandText", "isAtDigit", "()Z"⟩, 5) := ⟨⟨by decide +kernel, by decide +kernel⟩, List.mem_of_getElem? (i := 228) (by decide +kernel), List.mem_of_getElem? (i := 1436) (by decide +kernel), List.mem_of_getElem? (i := 1437) (by decide +kernel)⟩
theorem lw_p33 : lw_okq (⟨"LampLeaseOffice", "faultOf", "(LLampLeaseOffice$Command;)C"⟩, 12) := ⟨⟨by decide +kernel, by decide +kernel⟩, List.mem_of_getElem? (i := 39) (by decide +kernel), List.mem_of_getElem? (i := 1445) (by decide +kernel), List.mem_of_getElem? (i := 1446) (by decide +kernel)⟩
theorem lw_p34 : lw_okq (⟨"LampLeaseOffice", "carryOut", "(LLampLeaseOffice$Command;)V"⟩, 12) := ⟨⟨by decide +kernel, by decide +kernel⟩, List.mem_of_getElem? (i := 39) (by decide +kernel), List.mem_of_getElem? (i := 1470) (by decide +kernel), List.mem_of_getElem? (i := 1471) (by decide +kernel)⟩
theorem lw_p35 : lw_okq (⟨"LampLeaseOfficeModel", "keep", "()V"⟩, 19) := ⟨⟨by decide +kernel, by decide +kernel⟩, List.mem_of_getElem? (i := 1537) (by decide +kernel), List.mem_of_getElem? (i := 1609) (by decide +kernel), List.mem_of_getElem? (i := 1610) (by decide +kernel)⟩
theorem lw_p36 : lw_okq (⟨"LampLeaseOfficeModel", "doAddShip", "()I"⟩, 19) := ⟨⟨by decide +kernel, by decide +kernel⟩, List.mem_of_getElem? (i := 1537) (by decide +kernel), List.mem_of_getElem? (i := 1614) (by decide +kernel), List.mem_of_getElem? (i := 1615) (by decide +kernel)⟩
theorem lw_p37 : lw_okq (⟨"LampLeaseOfficeModel", "fails", "(I)I"⟩, 19) := ⟨⟨by decide +kernel, by decide +kernel⟩, List.mem_of_getElem? (i := 1537) (by decide +kernel), List.mem_of_getElem? (i := 1618) (by decide +kernel), List.mem_of_getElem? (i := 1619) (by decide +kernel)⟩
theorem lw_p38 : lw_okq (⟨"LampLeaseOfficeModel", "ends", "(I)I"⟩, 19) := ⟨⟨by decide +kernel, by decide +kernel⟩, List.mem_of_getElem? (i := 1537) (by decide +kernel), List.mem_of_getElem? (i := 1622) (by decide +kernel), List.mem_of_getElem? (i := 1623) (by decide +kernel)⟩
theorem lw_p39 : lw_okq (⟨"LampLeaseOfficeModel", "doAddLamp", "(I)I"⟩, 19) := ⟨⟨by decide +kernel, by decide +kernel⟩, List.mem_of_getElem? (i := 1537) (by decide +kernel), List.mem_of_getElem? (i := 1630) (by decide +kernel), List.mem_of_getElem? (i := 1631) (by decide +kernel)⟩
theorem lw_p40 : lw_okq (⟨"LampLeaseOfficeModel", "sets", "(III)V"⟩, 19) := ⟨⟨by decide +kernel, by decide +kernel⟩, List.mem_of_getElem? (i := 1537) (by decide +kernel), List.mem_of_getElem? (i := 1637) (by decide +kernel), List.mem_of_getElem? (i := 1638) (by decide +kernel)⟩
theorem lw_p41 : lw_okq (⟨"LampLeaseOfficeModel", "doAddOil", "(I)I"⟩, 19) := ⟨⟨by decide +kernel, by decide +kernel⟩, List.mem_of_getElem? (i := 1537) (by decide +kernel), List.mem_of_getElem? (i := 1645) (by decide +kernel), List.mem_of_getElem? (i := 1646) (by decide +kernel)⟩
theorem lw_p42 : lw_okq (⟨"LampLeaseOfficeModel", "doLease", "(III)I"⟩, 19) := ⟨⟨by decide +kernel, by decide +kernel⟩, List.mem_of_getElem? (i := 1537) (by decide +kernel), List.mem_of_getElem? (i := 1653) (by decide +kernel), List.mem_of_getElem? (i := 1654) (by decide +kernel)⟩
theorem lw_p43 : lw_okq (⟨"LampLeaseOfficeModel", "isShip", "(I)Z"⟩, 19) := ⟨⟨by decide +kernel, by decide +kernel⟩, List.mem_of_getElem? (i := 1537) (by decide +kernel), List.mem_of_getElem? (i := 1657) (by decide +kernel), List.mem_of_getElem? (i := 1658) (by decide +kernel)⟩
theorem lw_p44 : lw_okq (⟨"LampLeaseOfficeModel", "isLamp", "(I)Z"⟩, 19) := ⟨⟨by decide +kernel, by decide +kernel⟩, List.mem_of_getElem? (i := 1537) (by decide +kernel), List.mem_of_getElem? (i := 1661) (by decide +kernel), List.mem_of_getElem? (i := 1662) (by decide +kernel)⟩
theorem lw_p45 : lw_okq (⟨"LampLeaseOfficeModel", "isOut", "(I)Z"⟩, 19) := ⟨⟨by decide +kernel, by decide +kernel⟩, List.mem_of_getElem? (i := 1537) (by decide +kernel), List.mem_of_getElem? (i := 1665) (by decide +kernel), List.mem_of_getElem? (i := 1666) (by decide +kernel)⟩
theorem lw_p46 : lw_okq (⟨"LampLeaseOfficeModel", "of", "(II)I"⟩, 19) := ⟨⟨by decide +kernel, by decide +kernel⟩, List.mem_of_getElem? (i := 1537) (by decide +kernel), List.mem_of_getElem? (i := 1669) (by decide +kernel), List.mem_of_getElem? (i := 1670) (by decide +kernel)⟩
theorem lw_p47 : lw_okq (⟨"LampLeaseOfficeModel", "ofShip", "(II)I"⟩, 19) := ⟨⟨by decide +kernel, by decide +kernel⟩, List.mem_of_getElem? (i := 1537) (by decide +kernel), List.mem_of_getElem? (i := 1673) (by decide +kernel), List.mem_of_getElem? (i := 1674) (by decide +kernel)⟩
def lw_privs_3 : List (MethodName × Nat) := [(⟨"LampLeaseOffice$CommandText", "isAtDigit", "()Z"⟩, 5), (⟨"LampLeaseOffice", "faultOf", "(LLampLeaseOffice$Command;)C"⟩, 12), (⟨"LampLeaseOffice", "carryOut", "(LLampLeaseOffice$Command;)V"⟩, 12), (⟨"LampLeaseOfficeModel", "keep", "()V"⟩, 19), (⟨"LampLeaseOfficeModel", "doAddShip", "()I"⟩, 19), (⟨"LampLeaseOfficeModel", "fails", "(I)I"⟩, 19), (⟨"LampLeaseOfficeModel", "ends", "(I)I"⟩, 19), (⟨"LampLeaseOfficeModel", "doAddLamp", "(I)I"⟩, 19), (⟨"LampLeaseOfficeModel", "sets", "(III)V"⟩, 19), (⟨"LampLeaseOfficeModel", "doAddOil", "(I)I"⟩, 19), (⟨"LampLeaseOfficeModel", "doLease", "(III)I"⟩, 19), (⟨"LampLeaseOfficeModel", "isShip", "(I)Z"⟩, 19), (⟨"LampLeaseOfficeModel", "isLamp", "(I)Z"⟩, 19), (⟨"LampLeaseOfficeModel", "isOut", "(I)Z"⟩, 19), (⟨"LampLeaseOfficeModel", "of", "(II)I"⟩, 19), (⟨"LampLeaseOfficeModel", "ofShip", "(II)I"⟩, 19)]
theorem lw_r3 : ∀ q ∈ lw_privs_3, lw_okq q := List.forall_mem_cons.mpr ⟨lw_p32, List.forall_mem_cons.mpr ⟨lw_p33, List.forall_mem_cons.mpr ⟨lw_p34, List.forall_mem_cons.mpr ⟨lw_p35, List.forall_mem_cons.mpr ⟨lw_p36, List.forall_mem_cons.mpr ⟨lw_p37, List.forall_mem_cons.mpr ⟨lw_p38, List.forall_mem_cons.mpr ⟨lw_p39, List.forall_mem_cons.mpr ⟨lw_p40, List.forall_mem_cons.mpr ⟨lw_p41, List.forall_mem_cons.mpr ⟨lw_p42, List.forall_mem_cons.mpr ⟨lw_p43, List.forall_mem_cons.mpr ⟨lw_p44, List.forall_mem_cons.mpr ⟨lw_p45, List.forall_mem_cons.mpr ⟨lw_p46, List.forall_mem_cons.mpr ⟨lw_p47, fun _ h => absurd h List.not_mem_nil⟩⟩⟩⟩⟩⟩⟩⟩⟩⟩⟩⟩⟩⟩⟩⟩
theorem lw_p48 : lw_okq (⟨"LampLeaseOfficeModel", "pays", "(II)V"⟩, 19) := ⟨⟨by decide +kernel, by decide +kernel⟩, List.mem_of_getElem? (i := 1537) (by decide +kernel), List.mem_of_getElem? (i := 1677) (by decide +kernel), List.mem_of_getElem? (i := 1678) (by decide +kernel)⟩
theorem lw_p49 : lw_okq (⟨"LampLeaseOfficeModel", "doRequestRenewal", "(II)I"⟩, 19) := ⟨⟨by decide +kernel, by decide +kernel⟩, List.mem_of_getElem? (i := 1537) (by decide +kernel), List.mem_of_getElem? (i := 1685) (by decide +kernel), List.mem_of_getElem? (i := 1686) (by decide +kernel)⟩
theorem lw_p50 : lw_okq (⟨"LampLeaseOfficeModel", "requestFor", "(I)I"⟩, 19) := ⟨⟨by decide +kernel, by decide +kernel⟩, List.mem_of_getElem? (i := 1537) (by decide +kernel), List.mem_of_getElem? (i := 1689) (by decide +kernel), List.mem_of_getElem? (i := 1690) (by decide +kernel)⟩
theorem lw_p51 : lw_okq (⟨"LampLeaseOfficeModel", "doGiveUp", "(I)I"⟩, 19) := ⟨⟨by decide +kernel, by decide +kernel⟩, List.mem_of_getElem? (i := 1537) (by decide +kernel), List.mem_of_getElem? (i := 1697) (by decide +kernel), List.mem_of_getElem? (i := 1698) (by decide +kernel)⟩
theorem lw_p52 : lw_okq (⟨"LampLeaseOfficeModel", "frees", "(I)V"⟩, 19) := ⟨⟨by decide +kernel, by decide +kernel⟩, List.mem_of_getElem? (i := 1537) (by decide +kernel), List.mem_of_getElem? (i := 1701) (by decide +kernel), List.mem_of_getElem? (i := 1702) (by decide +kernel)⟩
theorem lw_p53 : lw_okq (⟨"LampLeaseOfficeModel", "doPassHours", "(I)I"⟩, 19) := ⟨⟨by decide +kernel, by decide +kernel⟩, List.mem_of_getElem? (i := 1537) (by decide +kernel), List.mem_of_getElem? (i := 1709) (by decide +kernel), List.mem_of_getElem? (i := 1710) (by decide +kernel)⟩
theorem lw_p54 : lw_okq (⟨"LampLeaseOfficeModel", "renews", "()V"⟩, 19) := ⟨⟨by decide +kernel, by decide +kernel⟩, List.mem_of_getElem? (i := 1537) (by decide +kernel), List.mem_of_getElem? (i := 1713) (by decide +kernel), List.mem_of_getElem? (i := 1714) (by decide +kernel)⟩
theorem lw_p55 : lw_okq (⟨"LampLeaseOfficeModel", "burns", "()I"⟩, 19) := ⟨⟨by decide +kernel, by decide +kernel⟩, List.mem_of_getElem? (i := 1537) (by decide +kernel), List.mem_of_getElem? (i := 1717) (by decide +kernel), List.mem_of_getElem? (i := 1718) (by decide +kernel)⟩
theorem lw_p56 : lw_okq (⟨"LampLeaseOfficeModel", "fines", "()V"⟩, 19) := ⟨⟨by decide +kernel, by decide +kernel⟩, List.mem_of_getElem? (i := 1537) (by decide +kernel), List.mem_of_getElem? (i := 1721) (by decide +kernel), List.mem_of_getElem? (i := 1722) (by decide +kernel)⟩
theorem lw_p57 : lw_okq (⟨"LampLeaseOfficeModel", "lampsOf", "(IZ)I"⟩, 19) := ⟨⟨by decide +kernel, by decide +kernel⟩, List.mem_of_getElem? (i := 1537) (by decide +kernel), List.mem_of_getElem? (i := 1725) (by decide +kernel), List.mem_of_getElem? (i := 1726) (by decide +kernel)⟩
theorem lw_p58 : lw_okq (⟨"LampLeaseOfficeModel", "endsLeases", "()I"⟩, 19) := ⟨⟨by decide +kernel, by decide +kernel⟩, List.mem_of_getElem? (i := 1537) (by decide +kernel), List.mem_of_getElem? (i := 1730) (by decide +kernel), List.mem_of_getElem? (i := 1731) (by decide +kernel)⟩
theorem lw_p59 : lw_okq (⟨"LampLeaseOfficeModel", "isThere", "(Z)Z"⟩, 19) := ⟨⟨by decide +kernel, by decide +kernel⟩, List.mem_of_getElem? (i := 1537) (by decide +kernel), List.mem_of_getElem? (i := 1746) (by decide +kernel), List.mem_of_getElem? (i := 1747) (by decide +kernel)⟩
theorem lw_p60 : lw_okq (⟨"LampLeaseOfficeModel", "wants", "(I)I"⟩, 19) := ⟨⟨by decide +kernel, by decide +kernel⟩, List.mem_of_getElem? (i := 1537) (by decide +kernel), List.mem_of_getElem? (i := 1762) (by decide +kernel), List.mem_of_getElem? (i := 1763) (by decide +kernel)⟩
theorem lw_p61 : lw_okq (⟨"LampLeaseOfficeModel", "leased", "()I"⟩, 19) := ⟨⟨by decide +kernel, by decide +kernel⟩, List.mem_of_getElem? (i := 1537) (by decide +kernel), List.mem_of_getElem? (i := 1802) (by decide +kernel), List.mem_of_getElem? (i := 1803) (by decide +kernel)⟩
theorem lw_p62 : lw_okq (⟨"LampLeaseOfficeModel", "needed", "()I"⟩, 19) := ⟨⟨by decide +kernel, by decide +kernel⟩, List.mem_of_getElem? (i := 1537) (by decide +kernel), List.mem_of_getElem? (i := 1814) (by decide +kernel), List.mem_of_getElem? (i := 1815) (by decide +kernel)⟩
theorem lw_p63 : lw_okq (⟨"LampLeaseOfficeModel", "partOf", "(I)I"⟩, 19) := ⟨⟨by decide +kernel, by decide +kernel⟩, List.mem_of_getElem? (i := 1537) (by decide +kernel), List.mem_of_getElem? (i := 1844) (by decide +kernel), List.mem_of_getElem? (i := 1845) (by decide +kernel)⟩
def lw_privs_4 : List (MethodName × Nat) := [(⟨"LampLeaseOfficeModel", "pays", "(II)V"⟩, 19), (⟨"LampLeaseOfficeModel", "doRequestRenewal", "(II)I"⟩, 19), (⟨"LampLeaseOfficeModel", "requestFor", "(I)I"⟩, 19), (⟨"LampLeaseOfficeModel", "doGiveUp", "(I)I"⟩, 19), (⟨"LampLeaseOfficeModel", "frees", "(I)V"⟩, 19), (⟨"LampLeaseOfficeModel", "doPassHours", "(I)I"⟩, 19), (⟨"LampLeaseOfficeModel", "renews", "()V"⟩, 19), (⟨"LampLeaseOfficeModel", "burns", "()I"⟩, 19), (⟨"LampLeaseOfficeModel", "fines", "()V"⟩, 19), (⟨"LampLeaseOfficeModel", "lampsOf", "(IZ)I"⟩, 19), (⟨"LampLeaseOfficeModel", "endsLeases", "()I"⟩, 19), (⟨"LampLeaseOfficeModel", "isThere", "(Z)Z"⟩, 19), (⟨"LampLeaseOfficeModel", "wants", "(I)I"⟩, 19), (⟨"LampLeaseOfficeModel", "leased", "()I"⟩, 19), (⟨"LampLeaseOfficeModel", "needed", "()I"⟩, 19), (⟨"LampLeaseOfficeModel", "partOf", "(I)I"⟩, 19)]
theorem lw_r4 : ∀ q ∈ lw_privs_4, lw_okq q := List.forall_mem_cons.mpr ⟨lw_p48, List.forall_mem_cons.mpr ⟨lw_p49, List.forall_mem_cons.mpr ⟨lw_p50, List.forall_mem_cons.mpr ⟨lw_p51, List.forall_mem_cons.mpr ⟨lw_p52, List.forall_mem_cons.mpr ⟨lw_p53, List.forall_mem_cons.mpr ⟨lw_p54, List.forall_mem_cons.mpr ⟨lw_p55, List.forall_mem_cons.mpr ⟨lw_p56, List.forall_mem_cons.mpr ⟨lw_p57, List.forall_mem_cons.mpr ⟨lw_p58, List.forall_mem_cons.mpr ⟨lw_p59, List.forall_mem_cons.mpr ⟨lw_p60, List.forall_mem_cons.mpr ⟨lw_p61, List.forall_mem_cons.mpr ⟨lw_p62, List.forall_mem_cons.mpr ⟨lw_p63, fun _ h => absurd h List.not_mem_nil⟩⟩⟩⟩⟩⟩⟩⟩⟩⟩⟩⟩⟩⟩⟩⟩
theorem lw_p64 : lw_okq (⟨"LampLeaseOfficeModel", "isRequest", "(I)Z"⟩, 19) := ⟨⟨by decide +kernel, by decide +kernel⟩, List.mem_of_getElem? (i := 1537) (by decide +kernel), List.mem_of_getElem? (i := 1861) (by decide +kernel), List.mem_of_getElem? (i := 1862) (by decide +kernel)⟩
theorem lw_p65 : lw_okq (⟨"LampLeaseOfficeModel", "says", "(C)V"⟩, 19) := ⟨⟨by decide +kernel, by decide +kernel⟩, List.mem_of_getElem? (i := 1537) (by decide +kernel), List.mem_of_getElem? (i := 1901) (by decide +kernel), List.mem_of_getElem? (i := 1902) (by decide +kernel)⟩
theorem lw_p66 : lw_okq (⟨"LampLeaseOfficeModel", "saysNumber", "(I)V"⟩, 19) := ⟨⟨by decide +kernel, by decide +kernel⟩, List.mem_of_getElem? (i := 1537) (by decide +kernel), List.mem_of_getElem? (i := 1905) (by decide +kernel), List.mem_of_getElem? (i := 1906) (by decide +kernel)⟩
theorem lw_p67 : lw_okq (⟨"LampLeaseOfficeModel", "readCommand", "()V"⟩, 19) := ⟨⟨by decide +kernel, by decide +kernel⟩, List.mem_of_getElem? (i := 1537) (by decide +kernel), List.mem_of_getElem? (i := 1921) (by decide +kernel), List.mem_of_getElem? (i := 1922) (by decide +kernel)⟩
theorem lw_p68 : lw_okq (⟨"LampLeaseOfficeModel", "behind", "(I)I"⟩, 19) := ⟨⟨by decide +kernel, by decide +kernel⟩, List.mem_of_getElem? (i := 1537) (by decide +kernel), List.mem_of_getElem? (i := 1925) (by decide +kernel), List.mem_of_getElem? (i := 1926) (by decide +kernel)⟩
theorem lw_p69 : lw_okq (⟨"LampLeaseOfficeModel", "skip", "(Ljava/lang/String;)V"⟩, 19) := ⟨⟨by decide +kernel, by decide +kernel⟩, List.mem_of_getElem? (i := 1537) (by decide +kernel), List.mem_of_getElem? (i := 1931) (by decide +kernel), List.mem_of_getElem? (i := 1932) (by decide +kernel)⟩
theorem lw_p70 : lw_okq (⟨"LampLeaseOfficeModel", "readNumber", "(I)I"⟩, 19) := ⟨⟨by decide +kernel, by decide +kernel⟩, List.mem_of_getElem? (i := 1537) (by decide +kernel), List.mem_of_getElem? (i := 1937) (by decide +kernel), List.mem_of_getElem? (i := 1938) (by decide +kernel)⟩
theorem lw_p71 : lw_okq (⟨"LampLeaseOfficeModel", "isDigit", "()Z"⟩, 19) := ⟨⟨by decide +kernel, by decide +kernel⟩, List.mem_of_getElem? (i := 1537) (by decide +kernel), List.mem_of_getElem? (i := 1942) (by decide +kernel), List.mem_of_getElem? (i := 1943) (by decide +kernel)⟩
theorem lw_p72 : lw_okq (⟨"LampLeaseOfficeModel", "does", "(I)Ljava/lang/String;"⟩, 19) := ⟨⟨by decide +kernel, by decide +kernel⟩, List.mem_of_getElem? (i := 1537) (by decide +kernel), List.mem_of_getElem? (i := 1951) (by decide +kernel), List.mem_of_getElem? (i := 1952) (by decide +kernel)⟩
def lw_privs_5 : List (MethodName × Nat) := [(⟨"LampLeaseOfficeModel", "isRequest", "(I)Z"⟩, 19), (⟨"LampLeaseOfficeModel", "says", "(C)V"⟩, 19), (⟨"LampLeaseOfficeModel", "saysNumber", "(I)V"⟩, 19), (⟨"LampLeaseOfficeModel", "readCommand", "()V"⟩, 19), (⟨"LampLeaseOfficeModel", "behind", "(I)I"⟩, 19), (⟨"LampLeaseOfficeModel", "skip", "(Ljava/lang/String;)V"⟩, 19), (⟨"LampLeaseOfficeModel", "readNumber", "(I)I"⟩, 19), (⟨"LampLeaseOfficeModel", "isDigit", "()Z"⟩, 19), (⟨"LampLeaseOfficeModel", "does", "(I)Ljava/lang/String;"⟩, 19)]
theorem lw_r5 : ∀ q ∈ lw_privs_5, lw_okq q := List.forall_mem_cons.mpr ⟨lw_p64, List.forall_mem_cons.mpr ⟨lw_p65, List.forall_mem_cons.mpr ⟨lw_p66, List.forall_mem_cons.mpr ⟨lw_p67, List.forall_mem_cons.mpr ⟨lw_p68, List.forall_mem_cons.mpr ⟨lw_p69, List.forall_mem_cons.mpr ⟨lw_p70, List.forall_mem_cons.mpr ⟨lw_p71, List.forall_mem_cons.mpr ⟨lw_p72, fun _ h => absurd h List.not_mem_nil⟩⟩⟩⟩⟩⟩⟩⟩⟩
def lw_privs : List (MethodName × Nat) := lw_privs_1 ++ (lw_privs_2 ++ (lw_privs_3 ++ (lw_privs_4 ++ (lw_privs_5))))
def lw_tbl : List Cond := k2_sels lw_privs ++ tables_1
theorem lw_privs_ok : ∀ q ∈ lw_privs, lw_okq q := by
  show ∀ q ∈ lw_privs_1 ++ (lw_privs_2 ++ (lw_privs_3 ++ (lw_privs_4 ++ (lw_privs_5)))), lw_okq q
  exact List.forall_mem_append.mpr ⟨lw_r1, List.forall_mem_append.mpr ⟨lw_r2, List.forall_mem_append.mpr ⟨lw_r3, List.forall_mem_append.mpr ⟨lw_r4, lw_r5⟩⟩⟩⟩
/-- the streams that the claim lets the run draw from -/
abbrev lw_cs : List Choice := [Jvm.Choice.named "NaN.bits"]
theorem lw_bits : nanBits ∈ lw_cs := by first | decide | exact List.mem_cons_self | simp [lw_cs, nanBits]
-- ===== end of PART A; then your names; then what follows =====
/-! ===== BEGIN words of one list among another's, by their places ===== -/
theorem goodIn_r {big : List Cond} (ws : List Cond) (ps : List Nat) (hp : ws = ps.filterMap (fun i => big[i]?)) (h : ws.all goodWord = true) : GoodIn big ws := by
  intro w hw
  have h1 := List.all_eq_true.mp h w hw
  rw [hp] at hw
  obtain ⟨i, -, hi⟩ := List.mem_filterMap.mp hw
  have hm : w ∈ big := by first | exact List.mem_of_getElem? hi | exact List.getElem?_mem hi
  exact ⟨hm, good_of_word h1⟩
theorem goodIn_app {big a b : List Cond} (ha : GoodIn big a) (hb : GoodIn big b) : GoodIn big (a ++ b) := fun w h => (List.mem_append.mp h).elim (ha w) (hb w)
theorem goodIn_ca {big a b : List Cond} {c : Cond} (ha : GoodIn big (c :: a)) (hb : GoodIn big b) : GoodIn big (c :: (a ++ b)) := fun w h => (List.mem_cons.mp h).elim (fun e => ha w (List.mem_cons.mpr (Or.inl e))) (fun h => (List.mem_append.mp h).elim (fun h => ha w (List.mem_cons.mpr (Or.inr h))) (hb w))
theorem goodIn_sub {big ws : List Cond} (hm : ∀ w ∈ ws, w ∈ big) (h : ws.all goodWord = true) : GoodIn big ws := fun w hw => ⟨hm w hw, good_of_word (List.all_eq_true.mp h w hw)⟩
/-! ===== END ===== -/
/-! ===== BEGIN exceptions that leave a method, and their catching by the caller (launches without stack traces) ===== -/
section VXA
/-! The laws vx_back, vx_callV, vx_callS, vx_callSW, vx_throw0, vx_throwS follow proofs of the library, with one case more: JvmDerived/Free/Laws.lean (Back.of_free), Shelf42/LK1.lean (callV, callS), Shelf/KitTraced.lean (throwNew0V, throwNewS). -/
/-- where a method has thrown q: the class by its name, the cell, what was written, the world -/
def vx_T (XC : String → State → State → Prop) (st : State) (q : Addr) (t : State) (mc ms : Nat) (free : Addr → Prop) : Prop :=
  ∃ (E : String) (ce : Cell) (L : List Loc), XC E st t ∧ t.heap[q]? = some ce ∧ ce.vm = .none ∧ st.vm.findClass E = some ce.cls ∧ st.WarmedH t.vm ∧ st.sameButNew ({ t with vm := st.vm } : State) L mc ms ∧ ∀ z ∈ L, free z.base
def vx_Q (Qc : Array Value → State → Outcome → State → Prop) (XC : String → State → State → Prop) (mc ms : Nat) (free : Addr → Prop) : Array Value → State → Outcome → State → Prop := fun a st o t =>
  (Qc a st o t ∧ ∃ L, FrameEnd st o t L mc ms ∧ ∀ q ∈ L, free q.base) ∨ ∃ q, o = .threw q ∧ vx_T XC st q t mc ms free
/-- a callee that returns or throws -/
def vx_Met (l : Launch) (y : MethodName) (ws : List Cond) (rm : Room) (Pc : Array Value → State → Prop) (Qc : Array Value → State → Outcome → State → Prop) (XC : String → State → State → Prop) (mc ms : Nat) (free : Addr → Prop) : Prop :=
  MetFree l y (headSpec ws rm) Pc (fun _ _ _ _ _ => True) (vx_Q Qc XC mc ms free)
def vx_Post (XC : String → State → State → Prop) (mc ms : Nat) (free : Addr → Prop) : Pt → Array Value → Addr → Pt → Prop := fun A a q B =>
  ∃ (g : JFrame) (mk : MethodId) (t : State) (L : List Loc) (E : String) (ce : Cell), B.U.heap = t.heap ∧ B.U.vm = t.vm ∧ XC E (A.U.calling g mk a) t ∧ t.heap[q]? = some ce ∧ ce.vm = .none ∧ A.U.vm.findClass E = some ce.cls ∧ B.locs = A.locs ++ L ∧ (∀ z ∈ L, free z.base) ∧ B.cells = A.cells + mc ∧ B.slots = A.slots + ms
def vx_Back (l : Launch) (R : Room) (p : Program) (e : Env) (below : List Frame) (s : State) (sargs : Array Value) (y : MethodName) (len W9 : Nat)
    (Pre : Pt → Array Value → Prop) (Post : Pt → Array Value → Option Value → Pt → Prop) (PostX : Pt → Array Value → Addr → Pt → Prop) : Prop :=
  ∀ (m : MethodId) (meth : Method) (c : Code) (A : Pt) (g : JFrame) (ig : Instr) (mk : MethodId) (a : Array Value),
    Stand p l e R s m sargs below meth c A.U A.locs A.cells A.slots → g.method = m → g.locals.size = c.maxLocals → decode c.code g.pc = .ok (ig, len) →
    2 * g.monitorRoom + (g.stack.map fun v => v.category).sum ≤ W9 → A.U.methodNamed? y = some mk → Pre A a →
    (∃ (v : Option Value) (B : Pt), Stand p l e R s m sargs below meth c B.U B.locs B.cells B.slots ∧ Post A a v B ∧
      Steps p.tables e below (doInvoke e (A.U.setTop g) [] mk a).1 (B.U.setTop { g with pc := g.pc + len, stack := v.toList ++ g.stack })) ∨
    (∃ (q : Addr) (B : Pt), Stand p l e R s m sargs below meth c B.U B.locs B.cells B.slots ∧ PostX A a q B ∧
      Steps p.tables e below (doInvoke e (A.U.setTop g) [] mk a).1 ((B.U.setTop g).pushFrame (.throwing q)))
section Payer
variable {l : Launch} {R : Room} {p : Program} {e : Env} {below : List Frame} {s : State} {sargs : Array Value} {y : MethodName} {len W9 : Nat}
theorem vx_back {ws : List Cond} {rm : Room} {Pc : Array Value → State → Prop} {Qc : Array Value → State → Outcome → State → Prop} {XC : String → State → State → Prop} {mc ms : Nat} {free : Addr → Prop} {bytes : ByteArray} {maxL : Nat} {ret : Option FieldType}
    (hM : vx_Met l y ws rm Pc Qc XC mc ms free) (hblind : FrameBlind Pc) (hrc : rm.cells = mc) (hrs : rm.slots = ms)
    (hframes : rm.frames + 1 ≤ R.frames) (hlocals : W9 + (maxL + 11) + rm.locals ≤ R.locals)
    (hws : ∀ w ∈ ws, ∀ a' U, s.WarmedH U.vm → w.before a' U = true) (hcode : Cond.code y bytes maxL ret ∈ ws) (hinit : ∀ a' U, s.WarmedH U.vm → (Cond.initialized y.cls).before a' U = true) :
    vx_Back l R p e below s sargs y len W9 (PreOf R mc ms Pc) (PostOf Qc mc ms free) (vx_Post XC mc ms free) := by
  intro m meth c A g ig mk a X hg hsize hdg hW hn hp
  have h1 : (headSpec ws rm).pre.before a A.U = true := atoms_intro fun w hw => hws w hw _ _ X.warmed
  have h2 : (Cond.code y bytes maxL ret).before a A.U = true := hws _ hcode _ _ X.warmed
  have h3 : (Cond.initialized y.cls).before a A.U = true := hinit _ _ X.warmed
  have h4 : A.cells + (headSpec ws rm).room.cells ≤ R.cells := by rw [show (headSpec ws rm).room.cells = mc from hrc]; exact hp.1
  have h5 : A.slots + (headSpec ws rm).room.slots ≤ R.slots := by rw [show (headSpec ws rm).room.slots = ms from hrs]; exact hp.2.1
  have hPc : Pc a (A.U.calling g mk a) := hblind _ _ _ _ hp.2.2
  obtain ⟨U, Ls, c0, s0⟩ := A
  dsimp only [Pt.U, Pt.locs, Pt.cells, Pt.slots] at h1 h2 h3 h4 h5 X hn hPc ⊢
  obtain ⟨methY, cY, hmY, hcY, -, hlY, -, -, -, -⟩ := Cond.code_spec hn h2
  obtain ⟨kY, hkY, -⟩ := className_of_methodNamed hn
  have hinitY : kY.init = .initialized := Cond.initialized_spec (findClass_of_methodNamed hn) hkY h3
  have h : At U g.method c below := by rw [hg]; exact X.here
  have hlocals9 : W9 + (maxL + 11) + (headSpec ws rm).room.locals ≤ R.locals := hlocals
  have happ : (headSpec ws rm).appliesLoose y e.platform (U.calling g mk a) = true :=
    Spec.appliesLoose_calling (g := g) h hdg hn hkY hinitY
      (X.room_calling (g := g) (R' := (headSpec ws rm).room) hsize hmY hcY hframes (by rw [hlY]; omega) h4 h5) h1
  obtain ⟨mid, hmid⟩ := h.above
  have hfr : (U.setTop g).frames = (.java g :: mid) ++ below := by rw [State.frames_setTop' g h.top, hmid]; rfl
  obtain ⟨o, s₂, hsteps, -, hend, hq⟩ := Steps.callFree hM p X.admits X.cas X.clock (acts := []) hfr happ hPc trivial
  have hq' : vx_Q Qc XC mc ms free a (U.calling g mk a) o s₂ := hq
  rw [State.frames_setTop' g h.top] at hend
  obtain ⟨g₀, hg0⟩ := Option.isSome_iff_exists.mp h.top
  obtain ⟨r, hr⟩ := State.topJava?_eq_some.mp hg0
  have hr' : (({ U with heap := s₂.heap, slotsUsed := s₂.slotsUsed } : State).setVm s₂.vm).frames = .java g₀ :: r := hr
  rcases hq' with ⟨hqc, L, hfe, hL⟩ | ⟨q, rfl, E, ce, L, hx, hce, hcv, hcl, hW₂, hsm, hL⟩
  · obtain ⟨⟨v, rfl⟩, hW₂, e2, q2, q3, q4, q5, q6⟩ := id hfe
    have e3 : s₂ = ({ (U.calling g mk a).setFrames s₂.frames with heap := s₂.heap, slotsUsed := s₂.slotsUsed } : State).setVm s₂.vm := by
      have : s₂ = ({ s₂ with vm := (U.calling g mk a).vm } : State).setVm s₂.vm := rfl
      rw [e2] at this
      exact this
    obtain ⟨c₂, i₂, len₂, hc₂, hd₂, hf₂⟩ := hend
    have hW' : U.WarmedH s₂.vm := hW₂
    have hcc : c₂ = c := by
      have h1 : s₂.code? g.method = U.code? g.method := by
        rw [State.code?_eq, State.code?_eq, hW'.alike.method?]
      exact Option.some.inj (hc₂.symm.trans (h1.trans h.code))
    subst hcc
    have hlen : len₂ = len := by rw [hdg] at hd₂; cases hd₂; rfl
    subst hlen
    have hs₂ : s₂ = (({ U with heap := s₂.heap, slotsUsed := s₂.slotsUsed } : State).setVm s₂.vm).setTop { g with pc := g.pc + len₂, stack := v.toList ++ g.stack } := by
      refine e3.trans ?_
      rw [hf₂, State.calling_eq h.top, State.setFrames_setFrames, State.setTop_of_frames _ hr', hr]
      rfl
    have hsame : U.sameButNew ({ U with heap := s₂.heap, slotsUsed := s₂.slotsUsed } : State) L mc ms := by
      refine ⟨?_, q2, q3, q4, q5, q6⟩
      obtain ⟨t, ht, -⟩ := State.frames_cons hr
      show ({ U with heap := s₂.heap, slotsUsed := s₂.slotsUsed } : State) = { U.setFrames U.frames with heap := s₂.heap, slotsUsed := s₂.slotsUsed }
      rw [State.setFrames_self ht]
    subst hg
    refine Or.inl ⟨v, ⟨(({ U with heap := s₂.heap, slotsUsed := s₂.slotsUsed } : State).setVm s₂.vm), Ls ++ L, c0 + mc, s0 + ms⟩,
      ⟨X.admits, X.cas, X.clock, X.frames, X.room, X.hears, X.method, X.code, (X.here.setHeapUsed s₂.heap s₂.slotsUsed).setVm hW'.alike, X.tail, State.WarmedH.trans X.warmed hW', X.limits, X.bytes, X.same.trans (hsame.setVm s.vm)⟩,
      ⟨g, mk, s₂, L, rfl, rfl, hqc, rfl, hL, rfl, rfl⟩, ?_⟩
    show Steps p.tables e below _ ((({ U with heap := s₂.heap, slotsUsed := s₂.slotsUsed } : State).setVm s₂.vm).setTop { g with pc := g.pc + len₂, stack := v.toList ++ g.stack })
    rw [← hs₂]
    exact hsteps
  · obtain ⟨e2, q2, q3, q4, q5, q6⟩ := id hsm
    have e3 : s₂ = ({ (U.calling g mk a).setFrames s₂.frames with heap := s₂.heap, slotsUsed := s₂.slotsUsed } : State).setVm s₂.vm := by
      have : s₂ = ({ s₂ with vm := (U.calling g mk a).vm } : State).setVm s₂.vm := rfl
      rw [e2] at this
      exact this
    have hf₂ : s₂.frames = .throwing q :: .java g :: U.frames.tail := hend
    have hW' : U.WarmedH s₂.vm := hW₂
    have hs₂ : s₂ = ((({ U with heap := s₂.heap, slotsUsed := s₂.slotsUsed } : State).setVm s₂.vm).setTop g).pushFrame (.throwing q) := by
      refine e3.trans ?_
      rw [hf₂, State.calling_eq h.top, State.setFrames_setFrames, State.pushFrame, State.frames_setTop _ hr', State.setTop_of_frames _ hr', State.setFrames_setFrames, hr]
      rfl
    have hsame : U.sameButNew ({ U with heap := s₂.heap, slotsUsed := s₂.slotsUsed } : State) L mc ms := by
      refine ⟨?_, q2, q3, q4, q5, q6⟩
      obtain ⟨t, ht, -⟩ := State.frames_cons hr
      show ({ U with heap := s₂.heap, slotsUsed := s₂.slotsUsed } : State) = { U.setFrames U.frames with heap := s₂.heap, slotsUsed := s₂.slotsUsed }
      rw [State.setFrames_self ht]
    subst hg
    refine Or.inr ⟨q, ⟨(({ U with heap := s₂.heap, slotsUsed := s₂.slotsUsed } : State).setVm s₂.vm), Ls ++ L, c0 + mc, s0 + ms⟩,
      ⟨X.admits, X.cas, X.clock, X.frames, X.room, X.hears, X.method, X.code, (X.here.setHeapUsed s₂.heap s₂.slotsUsed).setVm hW'.alike, X.tail, State.WarmedH.trans X.warmed hW', X.limits, X.bytes, X.same.trans (hsame.setVm s.vm)⟩,
      ⟨g, mk, s₂, L, E, ce, rfl, rfl, hx, hce, hcv, hcl, rfl, hL, rfl, rfl⟩, ?_⟩
    show Steps p.tables e below _ (((({ U with heap := s₂.heap, slotsUsed := s₂.slotsUsed } : State).setVm s₂.vm).setTop g).pushFrame (.throwing q))
    rw [← hs₂]
    exact hsteps
end Payer
section Calls
variable {p : Program} {l : Launch} {e : Env} {R : Room} {s : State} {m : MethodId} {args : Array Value} {below : List Frame} {meth : Method} {c : Code} {T : State} {locs : List Loc} {cells slots : Nat}
theorem vx_callV (X : Stand p l e R s m args below meth c T locs cells slots) (hexec : p.tables.exec = Jvm.exec) {own C : String} {index : Nat} {y : MethodName} {bytes : ByteArray} {maxL : Nat} {ret : Option FieldType}
    (hown : s.vm.findClass own = some m.cls) (hlink : (Cond.methodLink own index y).before args s = true) (hinst : (Cond.instanceMethod y).before args s = true) (hsel : (Cond.selects C y y).before args s = true)
    (hcode : (Cond.code y bytes maxL ret).before args s = true) (hy : y.cls ≠ "java/lang/invoke/MethodHandle" ∧ y.cls ≠ "java/lang/invoke/VarHandle")
    {W9 : Nat} {Pre : Pt → Array Value → Prop} {Post : Pt → Array Value → Option Value → Pt → Prop} {PostX : Pt → Array Value → Addr → Pt → Prop} (hK : vx_Back l R p e below s args y 3 W9 Pre Post PostX)
    {b : Addr} {cellB : Cell} (hcell : T.heap[b]? = some cellB) (hobj : cellB.vm.isStatics = false) (hcls : s.vm.findClass C = some cellB.cls)
    {g : JFrame} (hg : g.method = m) (hsize : g.locals.size = c.maxLocals) {argsL rest : List Value} (hlen : ∀ sig, parseMethodDescriptor y.desc = some sig → argsL.length = sig.parameters.length)
    (hstack : g.stack = argsL.reverse ++ .ref b :: rest) (hW : 2 * g.monitorRoom + (rest.map fun v => v.category).sum ≤ W9) (hdg : decode c.code g.pc = .ok (.invokevirtual index, 3))
    (hpre : ∀ vm₁, s.WarmedH vm₁ → Pre ⟨T.setVm vm₁, locs, cells, slots⟩ (Value.ref b :: argsL).toArray) :
    (∃ (v : Option Value) (vm₁ : Vm) (B : Pt), s.WarmedH vm₁ ∧ Stand p l e R s m args below meth c B.U B.locs B.cells B.slots ∧ Post ⟨T.setVm vm₁, locs, cells, slots⟩ (Value.ref b :: argsL).toArray v B ∧
      ∀ target, Steps p.tables e below (B.U.setTop { g with pc := g.pc + 3, stack := v.toList ++ rest }) target → Steps p.tables e below (T.setTop g) target) ∨
    (∃ (q : Addr) (vm₁ : Vm) (B : Pt), s.WarmedH vm₁ ∧ Stand p l e R s m args below meth c B.U B.locs B.cells B.slots ∧ PostX ⟨T.setVm vm₁, locs, cells, slots⟩ (Value.ref b :: argsL).toArray q B ∧
      Steps p.tables e below (T.setTop g) ((B.U.setTop { g with stack := rest }).pushFrame (.throwing q))) := by
  obtain ⟨mk, methM, hnamed, hmethM, hstM, habM⟩ := Cond.instanceMethod_spec hinst
  obtain ⟨methM', cM, hmethM', -, -, -, -, -, -, hsigM⟩ := Cond.code_spec hnamed hcode
  cases hmethM.symm.trans hmethM'
  obtain ⟨c2, r2, m2, q1, q2, q3, q4, kP, hkP, hkPi⟩ := Cond.selects_spec hsel
  cases hcls.symm.trans q1
  cases (State.methodFound?_of_named hnamed hy).symm.trans q2
  cases hnamed.symm.trans q3
  have hselP : selectMethod e.platform s.vm cellB.cls mk = .method mk := by rw [Launch.admits_selectMethod X.admits]; exact q4
  obtain ⟨vm₁, X₁, hstep₁⟩ := X.invokevirtual hexec hown hlink hnamed hmethM hstM hkP hkPi hy (a := b) (cell := cellB) hcell
    (fun z h => by rw [h] at hobj; cases hobj) hselP hmethM habM hkP hkPi (g := g) hg (argsL := argsL) (rest := rest) (hlen _ hsigM) hstack hdg
  rcases hK m meth c ⟨T.setVm vm₁, locs, cells, slots⟩ { g with stack := rest } (.invokevirtual index) mk (Value.ref b :: argsL).toArray X₁ hg hsize hdg hW (X₁.named hnamed) (hpre vm₁ X₁.warmed) with ⟨v, B, X', hpost, hsteps⟩ | ⟨q, B, X', hpost, hsteps⟩
  · exact Or.inl ⟨v, vm₁, B, X₁.warmed, X', hpost, fun target h => hstep₁ _ fun acts => by rw [doInvoke_state]; exact hsteps.trans h⟩
  · exact Or.inr ⟨q, vm₁, B, X₁.warmed, X', hpost, hstep₁ _ fun acts => by rw [doInvoke_state]; exact hsteps⟩
theorem vx_callS (X : Stand p l e R s m args below meth c T locs cells slots) (hexec : p.tables.exec = Jvm.exec) {own : String} {index : Nat} {y : MethodName} {bytes : ByteArray} {maxL : Nat} {ret : Option FieldType}
    (hown : s.vm.findClass own = some m.cls) (hlink : (Cond.methodLink own index y).before args s = true) (hstat : (Cond.static y).before args s = true) (hinit : (Cond.initialized y.cls).before args s = true)
    (hcode : (Cond.code y bytes maxL ret).before args s = true) (hy : y.cls ≠ "java/lang/invoke/MethodHandle" ∧ y.cls ≠ "java/lang/invoke/VarHandle")
    {W9 : Nat} {Pre : Pt → Array Value → Prop} {Post : Pt → Array Value → Option Value → Pt → Prop} {PostX : Pt → Array Value → Addr → Pt → Prop} (hK : vx_Back l R p e below s args y 3 W9 Pre Post PostX)
    {g : JFrame} (hg : g.method = m) (hsize : g.locals.size = c.maxLocals) {argsL rest : List Value} (hlen : ∀ sig, parseMethodDescriptor y.desc = some sig → argsL.length = sig.parameters.length)
    (hstack : g.stack = argsL.reverse ++ rest) (hW : 2 * g.monitorRoom + (rest.map fun v => v.category).sum ≤ W9) (hdg : decode c.code g.pc = .ok (.invokestatic index, 3))
    (hpre : ∀ vm₁, s.WarmedH vm₁ → Pre ⟨T.setVm vm₁, locs, cells, slots⟩ argsL.toArray) :
    (∃ (v : Option Value) (vm₁ : Vm) (B : Pt), s.WarmedH vm₁ ∧ Stand p l e R s m args below meth c B.U B.locs B.cells B.slots ∧ Post ⟨T.setVm vm₁, locs, cells, slots⟩ argsL.toArray v B ∧
      ∀ target, Steps p.tables e below (B.U.setTop { g with pc := g.pc + 3, stack := v.toList ++ rest }) target → Steps p.tables e below (T.setTop g) target) ∨
    (∃ (q : Addr) (vm₁ : Vm) (B : Pt), s.WarmedH vm₁ ∧ Stand p l e R s m args below meth c B.U B.locs B.cells B.slots ∧ PostX ⟨T.setVm vm₁, locs, cells, slots⟩ argsL.toArray q B ∧
      Steps p.tables e below (T.setTop g) ((B.U.setTop { g with stack := rest }).pushFrame (.throwing q))) := by
  obtain ⟨mk, hnamed⟩ := Cond.code_named hcode
  obtain ⟨methM, cM, hmethM, -, -, -, -, -, -, hsigM⟩ := Cond.code_spec hnamed hcode
  have hstatic : methM.isStatic = true := Cond.static_spec hnamed hmethM hstat
  obtain ⟨kP, hkP, -⟩ := className_of_methodNamed hnamed
  have hinitP : kP.init = .initialized := Cond.initialized_spec (findClass_of_methodNamed hnamed) hkP hinit
  obtain ⟨vm₁, X₁, hstep₁⟩ := X.invokestatic hexec hown hlink hnamed hmethM hstatic hkP hinitP hy (g := g) hg (argsL := argsL) (rest := rest) (hlen _ hsigM) hstack hdg
  rcases hK m meth c ⟨T.setVm vm₁, locs, cells, slots⟩ { g with stack := rest } (.invokestatic index) mk argsL.toArray X₁ hg hsize hdg hW (X₁.named hnamed) (hpre vm₁ X₁.warmed) with ⟨v, B, X', hpost, hsteps⟩ | ⟨q, B, X', hpost, hsteps⟩
  · exact Or.inl ⟨v, vm₁, B, X₁.warmed, X', hpost, fun target h => hstep₁ _ fun acts => by rw [doInvoke_state]; exact hsteps.trans h⟩
  · exact Or.inr ⟨q, vm₁, B, X₁.warmed, X', hpost, hstep₁ _ fun acts => by rw [doInvoke_state]; exact hsteps⟩
end Calls
theorem vx_cls {s : State} {T : State} {vm₁ : Vm} {E : String} {k : ClassId} (hW : s.WarmedH vm₁) (h : (T.setVm vm₁).vm.findClass E = some k) : s.vm.findClass E = some k := by
  have h1 : vm₁.findClass E = some k := h
  rw [hW.alike.findClass] at h1
  exact h1
/-- the method's frame g, with q thrown over it -/
def vx_W (p : Program) (l : Launch) (e : Env) (R : Room) (s : State) (m : MethodId) (args : Array Value) (below : List Frame) (meth : Method) (c : Code) (H : Heap) (locs : List Loc) (cells slots : Nat) (Q : State → Prop) (g : JFrame) (q : Addr) : Prop :=
  ∀ T : State, T.heap = H → Stand p l e R s m args below meth c T locs cells slots → ∃ t, Steps p.tables e below ((T.setTop g).pushFrame (.throwing q)) t ∧ Q t
def vx_Run (p : Program) (l : Launch) (e : Env) (R : Room) (s : State) (m : MethodId) (args : Array Value) (below : List Frame) (meth : Method) (c : Code) (H : Heap) (locs : List Loc) (cells slots mc ms : Nat) (g : JFrame) (rest : List Value) (Qa : State → Outcome → State → Prop) (XC : String → State → State → Prop) (free : Addr → Prop) : Prop :=
  ∀ T : State, T.heap = H → Stand p l e R s m args below meth c T locs cells slots →
    (∃ (v : Option Value) (st₀ t T' : State) (L : List Loc), st₀.heap = H ∧ Stand p l e R s m args below meth c T' (locs ++ L) (cells + mc) (slots + ms) ∧ (∀ q ∈ L, free q.base) ∧ T'.heap = t.heap ∧ T'.vm = t.vm ∧ Qa st₀ (.returned v) t ∧
      Goes p e below T g T' { g with pc := g.pc + 3, stack := v.toList ++ rest }) ∨
    (∃ (q : Addr) (st₀ t T' : State) (L : List Loc) (E : String) (ce : Cell), st₀.heap = H ∧ Stand p l e R s m args below meth c T' (locs ++ L) (cells + mc) (slots + ms) ∧ (∀ z ∈ L, free z.base) ∧ T'.heap = t.heap ∧ T'.vm = t.vm ∧ XC E st₀ t ∧ t.heap[q]? = some ce ∧ ce.vm = .none ∧ s.vm.findClass E = some ce.cls ∧
      Steps p.tables e below (T.setTop g) ((T'.setTop { g with stack := rest }).pushFrame (.throwing q)))
def vx_X {S : Type} (px : S → Prop) (B : String → S → State → Prop) (A : Nat → Prop) : String → State → State → Prop := fun E st t => ∃ u : S, px u ∧ B E u t ∧ va_F A st t
section Runs
variable {p : Program} {l : Launch} {e : Env} {R : Room} {s : State} {m : MethodId} {args : Array Value} {below : List Frame} {meth : Method} {c : Code} {H : Heap} {locs : List Loc} {cells slots : Nat}
variable {y : MethodName} {bytes cc : ByteArray} {maxL nL mc ms n index : Nat} {ret : Option FieldType} {ws : List Cond} {rm : Room} {Pc : Array Value → State → Prop} {Qc : Array Value → State → Outcome → State → Prop} {XC : String → State → State → Prop} {free : Addr → Prop} {Ts : List Cond} {own C : String} {b : Addr} {As rest : List Value} {g : JFrame}
theorem vx_callBack (cb : CallB R s args own index y bytes maxL ret ws rm mc ms n) (hM : vx_Met l y ws rm Pc Qc XC mc ms free) (hbl : FrameBlind Pc) : vx_Back l R p e below s args y 3 8 (PreOf R mc ms Pc) (PostOf Qc mc ms free) (vx_Post XC mc ms free) := by
  obtain ⟨hrc, hrs, hfr, hlo, hws, hcw, -, hini, -⟩ := cb
  exact vx_back (bytes := bytes) (maxL := maxL) (ret := ret) hM hbl hrc hrs hfr hlo hws hcw (fun a' U hW => word_at hW (Or.inl (by first | rfl | simp [Cond.onTables, Cond.keeps, Cond.steady])) hini)
theorem vx_runV (S : CallFix p m c cc nL s args Ts own) (hM : vx_Met l y ws rm Pc Qc XC mc ms free) (cw : CallW R s args own C index y bytes maxL ret ws rm mc ms n) (hp : PreV s H C b Pc As)
    (hg : g.method = m) (hn : As.length = n) (hsize : g.locals.size = nL) (hstack : g.stack = As.reverse ++ .ref b :: rest) (hW : 2 * g.monitorRoom + (rest.map fun v => v.category).sum ≤ 8) (hdg : decode cc g.pc = .ok (.invokevirtual index, 3)) (hf : cells + mc ≤ R.cells ∧ slots + ms ≤ R.slots) :
    vx_Run p l e R s m args below meth c H locs cells slots mc ms g rest (Qc (Value.ref b :: As).toArray) XC free := by
  have hK : vx_Back l R p e below s args y 3 8 (PreOf R mc ms Pc) (PostOf Qc mc ms free) (vx_Post XC mc ms free) := vx_callBack cw.1 hM hp.1
  obtain ⟨⟨-, -, -, -, -, -, hcode, -, hy, hlen, hl⟩, hin, hse⟩ := cw
  obtain ⟨hx, hb, hml, ho, -⟩ := S
  obtain ⟨-, ⟨cellB, hcB, hoB, hclB⟩, hPc⟩ := hp
  intro T hT X
  rcases vx_callV X hx (C := C) (bytes := bytes) (maxL := maxL) (ret := ret) ho hl hin hse hcode hy hK (by rw [hT]; exact hcB) hoB hclB hg (hsize.trans hml.symm) (argsL := As) (rest := rest) (fun sig h => hn.trans (hlen sig h)) hstack hW (by rw [hb]; exact hdg)
    (fun vm₁ hW₁ => ⟨hf.1, hf.2, hPc (T.setVm vm₁) hT hW₁⟩) with ⟨v, vm₁, ⟨U', l2, c2, s2⟩, hW₁, X', ⟨g', mk, t, L, e1, e2, hq, h1, hL, h2, h3⟩, st⟩ | ⟨q, vm₁, ⟨U', l2, c2, s2⟩, hW₁, X', ⟨g', mk, t, L, E, ce, e1, e2, hq, hce, hcv, hcl, h1, hL, h2, h3⟩, st⟩
  · dsimp only [Pt.U, Pt.locs, Pt.cells, Pt.slots] at X' e1 e2 h1 h2 h3 st
    subst h1; subst h2; subst h3
    exact Or.inl ⟨v, (T.setVm vm₁).calling g' mk (Value.ref b :: As).toArray, t, U', L, hT, X', hL, e1, e2, hq, st⟩
  · dsimp only [Pt.U, Pt.locs, Pt.cells, Pt.slots] at X' e1 e2 h1 h2 h3 st hcl
    subst h1; subst h2; subst h3
    exact Or.inr ⟨q, (T.setVm vm₁).calling g' mk (Value.ref b :: As).toArray, t, U', L, E, ce, hT, X', hL, e1, e2, hq, hce, hcv, vx_cls hW₁ hcl, st⟩
theorem vx_runS (S : CallFix p m c cc nL s args Ts own) (hM : vx_Met l y ws rm Pc Qc XC mc ms free) (cw : CallB R s args own index y bytes maxL ret ws rm mc ms n ∧ (Cond.static y).before args s = true) (hp : PreS s H Pc As)
    (hg : g.method = m) (hn : As.length = n) (hsize : g.locals.size = nL) (hstack : g.stack = As.reverse ++ rest) (hW : 2 * g.monitorRoom + (rest.map fun v => v.category).sum ≤ 8) (hdg : decode cc g.pc = .ok (.invokestatic index, 3)) (hf : cells + mc ≤ R.cells ∧ slots + ms ≤ R.slots) :
    vx_Run p l e R s m args below meth c H locs cells slots mc ms g rest (Qc As.toArray) XC free := by
  have hK : vx_Back l R p e below s args y 3 8 (PreOf R mc ms Pc) (PostOf Qc mc ms free) (vx_Post XC mc ms free) := vx_callBack cw.1 hM hp.1
  obtain ⟨⟨-, -, -, -, -, -, hcode, hini, hy, hlen, hl⟩, hstt⟩ := cw
  obtain ⟨hx, hb, hml, ho, -⟩ := S
  intro T hT X
  rcases vx_callS X hx (bytes := bytes) (maxL := maxL) (ret := ret) ho hl hstt hini hcode hy hK hg (hsize.trans hml.symm) (argsL := As) (rest := rest) (fun sig h => hn.trans (hlen sig h)) hstack hW (by rw [hb]; exact hdg)
    (fun vm₁ hW₁ => ⟨hf.1, hf.2, hp.2 (T.setVm vm₁) hT hW₁⟩) with ⟨v, vm₁, ⟨U', l2, c2, s2⟩, hW₁, X', ⟨g', mk, t, L, e1, e2, hq, h1, hL, h2, h3⟩, st⟩ | ⟨q, vm₁, ⟨U', l2, c2, s2⟩, hW₁, X', ⟨g', mk, t, L, E, ce, e1, e2, hq, hce, hcv, hcl, h1, hL, h2, h3⟩, st⟩
  · dsimp only [Pt.U, Pt.locs, Pt.cells, Pt.slots] at X' e1 e2 h1 h2 h3 st
    subst h1; subst h2; subst h3
    exact Or.inl ⟨v, (T.setVm vm₁).calling g' mk As.toArray, t, U', L, hT, X', hL, e1, e2, hq, st⟩
  · dsimp only [Pt.U, Pt.locs, Pt.cells, Pt.slots] at X' e1 e2 h1 h2 h3 st hcl
    subst h1; subst h2; subst h3
    exact Or.inr ⟨q, (T.setVm vm₁).calling g' mk As.toArray, t, U', L, E, ce, hT, X', hL, e1, e2, hq, hce, hcv, vx_cls hW₁ hcl, st⟩
end Runs
section Rows
variable {p : Program} {l : Launch} {e : Env} {R : Room} {s : State} {m : MethodId} {args : Array Value} {below : List Frame} {meth : Method} {c : Code} {H : Heap} {locs : List Loc} {cells slots : Nat} {Q : State → Prop}
variable {mc ms : Nat} {free : Addr → Prop} {A0 A1 : Nat → Prop} {H0 : Heap} {a : Array Value} {pc : Nat} {ls : Array Slot} {st0 rest : List Value}
theorem vx_keep {st₀ t T' : State} {L : List Loc} (h0 : st₀.heap = H) (e1 : T'.heap = t.heap) (hS : va_S A0 H0 H locs) (hA : ∀ q, q < H.size → A1 q → A0 q) (hf : ∀ q, free q → A0 q) (hL : ∀ q ∈ L, free q.base) (hF : va_F A1 st₀ t) :
    H.size ≤ T'.heap.size ∧ (∀ q : Nat, q < H.size → ¬ A1 q → T'.heap[q]? = H[q]?) ∧ va_S A0 H0 T'.heap (locs ++ L) := by
  obtain ⟨hz, hk⟩ := hF
  rw [h0] at hz hk
  exact ⟨by rw [e1]; exact hz, fun q h1 h2 => by rw [e1]; exact hk q h1 h2,
    ⟨Nat.le_trans hS.1 (by rw [e1]; exact hz), fun q h1 h2 => by rw [e1, hk q (Nat.lt_of_lt_of_le h1 hS.1) (fun z => h2 (hA q (Nat.lt_of_lt_of_le h1 hS.1) z))]; exact hS.2.1 q h1 h2, fun q hq => by
      rcases List.mem_append.mp hq with h | h
      · exact hS.2.2 q h
      · exact hf _ (hL q h)⟩⟩
theorem vx_calli {S SX : Type} {post : Int32 → S → Prop} {px : SX → Prop} {B : S → State → Prop} {BX : String → SX → State → Prop} {AX : Nat → Prop} (hr : vx_Run p l e R s m args below meth c H locs cells slots mc ms (F0 m pc ls st0) rest (va_Qi post B A1 a) (vx_X px BX AX) free) (hS : va_S A0 H0 H locs) (hA : ∀ q, q < H.size → A1 q → A0 q) (hf : ∀ q, free q → A0 q) (hAX : ∀ q, q < H.size → AX q → A0 q)
    (kx : ∀ (E : String) (ce : Cell) (q9 : Addr) (u : SX) (t : State) (H1 : Heap) (locs1 : List Loc), t.heap = H1 → s.vm.Alike t.vm → px u → BX E u t → H.size ≤ H1.size → (∀ q : Nat, q < H.size → ¬ AX q → H1[q]? = H[q]?) → va_S A0 H0 H1 locs1 → H1[q9]? = some ce → ce.vm = .none → s.vm.findClass E = some ce.cls → vx_W p l e R s m args below meth c H1 locs1 (cells + mc) (slots + ms) Q (F0 m pc ls rest) q9)
    (kk : ∀ (r : Int32) (u : S) (t : State) (H1 : Heap) (locs1 : List Loc), t.heap = H1 → s.vm.Alike t.vm → post r u → B u t → H.size ≤ H1.size → (∀ q : Nat, q < H.size → ¬ A1 q → H1[q]? = H[q]?) → va_S A0 H0 H1 locs1 → W p l e R s m args below meth c H1 locs1 (cells + mc) (slots + ms) Q (F0 m (pc + 3) ls (.int r :: rest))) : W p l e R s m args below meth c H locs cells slots Q (F0 m pc ls st0) := by
  intro T hT X
  rcases hr T hT X with ⟨v, st₀, t, T', L, h0, X', hL, e1, e2, ⟨⟨r, u, hv, hp, hb⟩, hF⟩, st⟩ | ⟨q, st₀, t, T', L, E, ce, h0, X', hL, e1, e2, ⟨u, hp, hb, hF⟩, hce, hcv, hcl, st⟩
  · cases hv
    obtain ⟨k1, k2, k3⟩ := vx_keep h0 e1 hS hA hf hL hF
    obtain ⟨t2, a1, b1⟩ := kk r u t T'.heap (locs ++ L) e1.symm (by rw [← e2]; exact X'.warmed.alike) hp hb k1 k2 k3 T' rfl X'
    exact ⟨t2, st t2 a1, b1⟩
  · obtain ⟨k1, k2, k3⟩ := vx_keep h0 e1 hS hAX hf hL hF
    obtain ⟨t2, a1, b1⟩ := kx E ce q u t T'.heap (locs ++ L) e1.symm (by rw [← e2]; exact X'.warmed.alike) hp hb k1 k2 k3 (by rw [e1]; exact hce) hcv hcl T' rfl X'
    exact ⟨t2, st.trans a1, b1⟩
theorem vx_calll {S SX : Type} {post : Int64 → S → Prop} {px : SX → Prop} {B : S → State → Prop} {BX : String → SX → State → Prop} {AX : Nat → Prop} (hr : vx_Run p l e R s m args below meth c H locs cells slots mc ms (F0 m pc ls st0) rest (va_Ql post B A1 a) (vx_X px BX AX) free) (hS : va_S A0 H0 H locs) (hA : ∀ q, q < H.size → A1 q → A0 q) (hf : ∀ q, free q → A0 q) (hAX : ∀ q, q < H.size → AX q → A0 q)
    (kx : ∀ (E : String) (ce : Cell) (q9 : Addr) (u : SX) (t : State) (H1 : Heap) (locs1 : List Loc), t.heap = H1 → s.vm.Alike t.vm → px u → BX E u t → H.size ≤ H1.size → (∀ q : Nat, q < H.size → ¬ AX q → H1[q]? = H[q]?) → va_S A0 H0 H1 locs1 → H1[q9]? = some ce → ce.vm = .none → s.vm.findClass E = some ce.cls → vx_W p l e R s m args below meth c H1 locs1 (cells + mc) (slots + ms) Q (F0 m pc ls rest) q9)
    (kk : ∀ (r : Int64) (u : S) (t : State) (H1 : Heap) (locs1 : List Loc), t.heap = H1 → s.vm.Alike t.vm → post r u → B u t → H.size ≤ H1.size → (∀ q : Nat, q < H.size → ¬ A1 q → H1[q]? = H[q]?) → va_S A0 H0 H1 locs1 → W p l e R s m args below meth c H1 locs1 (cells + mc) (slots + ms) Q (F0 m (pc + 3) ls (.long r :: rest))) : W p l e R s m args below meth c H locs cells slots Q (F0 m pc ls st0) := by
  intro T hT X
  rcases hr T hT X with ⟨v, st₀, t, T', L, h0, X', hL, e1, e2, ⟨⟨r, u, hv, hp, hb⟩, hF⟩, st⟩ | ⟨q, st₀, t, T', L, E, ce, h0, X', hL, e1, e2, ⟨u, hp, hb, hF⟩, hce, hcv, hcl, st⟩
  · cases hv
    obtain ⟨k1, k2, k3⟩ := vx_keep h0 e1 hS hA hf hL hF
    obtain ⟨t2, a1, b1⟩ := kk r u t T'.heap (locs ++ L) e1.symm (by rw [← e2]; exact X'.warmed.alike) hp hb k1 k2 k3 T' rfl X'
    exact ⟨t2, st t2 a1, b1⟩
  · obtain ⟨k1, k2, k3⟩ := vx_keep h0 e1 hS hAX hf hL hF
    obtain ⟨t2, a1, b1⟩ := kx E ce q u t T'.heap (locs ++ L) e1.symm (by rw [← e2]; exact X'.warmed.alike) hp hb k1 k2 k3 (by rw [e1]; exact hce) hcv hcl T' rfl X'
    exact ⟨t2, st.trans a1, b1⟩
theorem vx_callf {S SX : Type} {post : UInt32 → S → Prop} {px : SX → Prop} {B : S → State → Prop} {BX : String → SX → State → Prop} {AX : Nat → Prop} (hr : vx_Run p l e R s m args below meth c H locs cells slots mc ms (F0 m pc ls st0) rest (va_Qf post B A1 a) (vx_X px BX AX) free) (hS : va_S A0 H0 H locs) (hA : ∀ q, q < H.size → A1 q → A0 q) (hf : ∀ q, free q → A0 q) (hAX : ∀ q, q < H.size → AX q → A0 q)
    (kx : ∀ (E : String) (ce : Cell) (q9 : Addr) (u : SX) (t : State) (H1 : Heap) (locs1 : List Loc), t.heap = H1 → s.vm.Alike t.vm → px u → BX E u t → H.size ≤ H1.size → (∀ q : Nat, q < H.size → ¬ AX q → H1[q]? = H[q]?) → va_S A0 H0 H1 locs1 → H1[q9]? = some ce → ce.vm = .none → s.vm.findClass E = some ce.cls → vx_W p l e R s m args below meth c H1 locs1 (cells + mc) (slots + ms) Q (F0 m pc ls rest) q9)
    (kk : ∀ (r : UInt32) (u : S) (t : State) (H1 : Heap) (locs1 : List Loc), t.heap = H1 → s.vm.Alike t.vm → post r u → B u t → H.size ≤ H1.size → (∀ q : Nat, q < H.size → ¬ A1 q → H1[q]? = H[q]?) → va_S A0 H0 H1 locs1 → W p l e R s m args below meth c H1 locs1 (cells + mc) (slots + ms) Q (F0 m (pc + 3) ls (.float r :: rest))) : W p l e R s m args below meth c H locs cells slots Q (F0 m pc ls st0) := by
  intro T hT X
  rcases hr T hT X with ⟨v, st₀, t, T', L, h0, X', hL, e1, e2, ⟨⟨r, u, hv, hp, hb⟩, hF⟩, st⟩ | ⟨q, st₀, t, T', L, E, ce, h0, X', hL, e1, e2, ⟨u, hp, hb, hF⟩, hce, hcv, hcl, st⟩
  · cases hv
    obtain ⟨k1, k2, k3⟩ := vx_keep h0 e1 hS hA hf hL hF
    obtain ⟨t2, a1, b1⟩ := kk r u t T'.heap (locs ++ L) e1.symm (by rw [← e2]; exact X'.warmed.alike) hp hb k1 k2 k3 T' rfl X'
    exact ⟨t2, st t2 a1, b1⟩
  · obtain ⟨k1, k2, k3⟩ := vx_keep h0 e1 hS hAX hf hL hF
    obtain ⟨t2, a1, b1⟩ := kx E ce q u t T'.heap (locs ++ L) e1.symm (by rw [← e2]; exact X'.warmed.alike) hp hb k1 k2 k3 (by rw [e1]; exact hce) hcv hcl T' rfl X'
    exact ⟨t2, st.trans a1, b1⟩
theorem vx_calld {S SX : Type} {post : UInt64 → S → Prop} {px : SX → Prop} {B : S → State → Prop} {BX : String → SX → State → Prop} {AX : Nat → Prop} (hr : vx_Run p l e R s m args below meth c H locs cells slots mc ms (F0 m pc ls st0) rest (va_Qd post B A1 a) (vx_X px BX AX) free) (hS : va_S A0 H0 H locs) (hA : ∀ q, q < H.size → A1 q → A0 q) (hf : ∀ q, free q → A0 q) (hAX : ∀ q, q < H.size → AX q → A0 q)
    (kx : ∀ (E : String) (ce : Cell) (q9 : Addr) (u : SX) (t : State) (H1 : Heap) (locs1 : List Loc), t.heap = H1 → s.vm.Alike t.vm → px u → BX E u t → H.size ≤ H1.size → (∀ q : Nat, q < H.size → ¬ AX q → H1[q]? = H[q]?) → va_S A0 H0 H1 locs1 → H1[q9]? = some ce → ce.vm = .none → s.vm.findClass E = some ce.cls → vx_W p l e R s m args below meth c H1 locs1 (cells + mc) (slots + ms) Q (F0 m pc ls rest) q9)
    (kk : ∀ (r : UInt64) (u : S) (t : State) (H1 : Heap) (locs1 : List Loc), t.heap = H1 → s.vm.Alike t.vm → post r u → B u t → H.size ≤ H1.size → (∀ q : Nat, q < H.size → ¬ A1 q → H1[q]? = H[q]?) → va_S A0 H0 H1 locs1 → W p l e R s m args below meth c H1 locs1 (cells + mc) (slots + ms) Q (F0 m (pc + 3) ls (.double r :: rest))) : W p l e R s m args below meth c H locs cells slots Q (F0 m pc ls st0) := by
  intro T hT X
  rcases hr T hT X with ⟨v, st₀, t, T', L, h0, X', hL, e1, e2, ⟨⟨r, u, hv, hp, hb⟩, hF⟩, st⟩ | ⟨q, st₀, t, T', L, E, ce, h0, X', hL, e1, e2, ⟨u, hp, hb, hF⟩, hce, hcv, hcl, st⟩
  · cases hv
    obtain ⟨k1, k2, k3⟩ := vx_keep h0 e1 hS hA hf hL hF
    obtain ⟨t2, a1, b1⟩ := kk r u t T'.heap (locs ++ L) e1.symm (by rw [← e2]; exact X'.warmed.alike) hp hb k1 k2 k3 T' rfl X'
    exact ⟨t2, st t2 a1, b1⟩
  · obtain ⟨k1, k2, k3⟩ := vx_keep h0 e1 hS hAX hf hL hF
    obtain ⟨t2, a1, b1⟩ := kx E ce q u t T'.heap (locs ++ L) e1.symm (by rw [← e2]; exact X'.warmed.alike) hp hb k1 k2 k3 (by rw [e1]; exact hce) hcv hcl T' rfl X'
    exact ⟨t2, st.trans a1, b1⟩
theorem vx_callv {S SX : Type} {post : S → Prop} {px : SX → Prop} {B : S → State → Prop} {BX : String → SX → State → Prop} {AX : Nat → Prop} (hr : vx_Run p l e R s m args below meth c H locs cells slots mc ms (F0 m pc ls st0) rest (va_Qv post B A1 a) (vx_X px BX AX) free) (hS : va_S A0 H0 H locs) (hA : ∀ q, q < H.size → A1 q → A0 q) (hf : ∀ q, free q → A0 q) (hAX : ∀ q, q < H.size → AX q → A0 q)
    (kx : ∀ (E : String) (ce : Cell) (q9 : Addr) (u : SX) (t : State) (H1 : Heap) (locs1 : List Loc), t.heap = H1 → s.vm.Alike t.vm → px u → BX E u t → H.size ≤ H1.size → (∀ q : Nat, q < H.size → ¬ AX q → H1[q]? = H[q]?) → va_S A0 H0 H1 locs1 → H1[q9]? = some ce → ce.vm = .none → s.vm.findClass E = some ce.cls → vx_W p l e R s m args below meth c H1 locs1 (cells + mc) (slots + ms) Q (F0 m pc ls rest) q9)
    (kk : ∀ (u : S) (t : State) (H1 : Heap) (locs1 : List Loc), t.heap = H1 → s.vm.Alike t.vm → post u → B u t → H.size ≤ H1.size → (∀ q : Nat, q < H.size → ¬ A1 q → H1[q]? = H[q]?) → va_S A0 H0 H1 locs1 → W p l e R s m args below meth c H1 locs1 (cells + mc) (slots + ms) Q (F0 m (pc + 3) ls (rest))) : W p l e R s m args below meth c H locs cells slots Q (F0 m pc ls st0) := by
  intro T hT X
  rcases hr T hT X with ⟨v, st₀, t, T', L, h0, X', hL, e1, e2, ⟨⟨u, hv, hp, hb⟩, hF⟩, st⟩ | ⟨q, st₀, t, T', L, E, ce, h0, X', hL, e1, e2, ⟨u, hp, hb, hF⟩, hce, hcv, hcl, st⟩
  · cases hv
    obtain ⟨k1, k2, k3⟩ := vx_keep h0 e1 hS hA hf hL hF
    obtain ⟨t2, a1, b1⟩ := kk u t T'.heap (locs ++ L) e1.symm (by rw [← e2]; exact X'.warmed.alike) hp hb k1 k2 k3 T' rfl X'
    exact ⟨t2, st t2 a1, b1⟩
  · obtain ⟨k1, k2, k3⟩ := vx_keep h0 e1 hS hAX hf hL hF
    obtain ⟨t2, a1, b1⟩ := kx E ce q u t T'.heap (locs ++ L) e1.symm (by rw [← e2]; exact X'.warmed.alike) hp hb k1 k2 k3 (by rw [e1]; exact hce) hcv hcl T' rfl X'
    exact ⟨t2, st.trans a1, b1⟩
/-- caught by the row x of this method's table; the rows ahead don't take it -/
theorem vx_catch {own name : String} {E : String} {ce : Cell} {q : Addr} (hown : s.vm.findClass own = some m.cls) (pre : List ExceptionTableEntry) (x : ExceptionTableEntry) (suf : List ExceptionTableEntry) (hsplit : c.exceptionTable.toList = pre ++ x :: suf)
    (hpass : ∀ z ∈ pre, covers z pc = false ∨ (z.catchType ≠ 0 ∧ ∃ nm : String, (Cond.classLink own z.catchType nm).before args s = true ∧ va_Nc E nm s)) (hx : covers x pc = true) (h0 : x.catchType ≠ 0)
    (hlink : (Cond.classLink own x.catchType name).before args s = true) (hcast : (Cond.castable E name).before args s = true) (hcell : H[q]? = some ce) (hv : ce.vm = .none) (hcl : s.vm.findClass E = some ce.cls)
    (kk : W p l e R s m args below meth c H locs cells slots Q (F0 m x.handlerPc ls [.ref q])) : vx_W p l e R s m args below meth c H locs cells slots Q (F0 m pc ls rest) q := by
  intro T hT X
  have hpl : e.platform.magicAccessors = ({} : Platform).magicAccessors := by rw [X.admits.platform]
  obtain ⟨c3, c4, hc3, hc4, hasg⟩ := Cond.castable_spec hcast
  cases Option.some.inj (hc3.symm.trans hcl)
  obtain ⟨c5, hc5, hcl5⟩ := Cond.classLink_spec hown hlink e.platform hpl
  cases Option.some.inj (hc4.symm.trans hc5)
  obtain ⟨vm', X', st⟩ := X.thenCaughtThrough q (g := F0 m pc ls rest) rfl (Steps.refl _) (by rw [hT]; exact hcell) (by rw [hv]; rfl) (by obtain ⟨k9, h9, -⟩ := Vm.findClass_spec hcl; exact ⟨k9, h9⟩) pre x suf hsplit
    (fun z hz => by
      rcases hpass z hz with h | ⟨hz0, nm, hl1, hn1⟩
      · exact Or.inl h
      · obtain ⟨c6, hc6, hcl6⟩ := Cond.classLink_spec hown hl1 e.platform hpl
        obtain ⟨a8, b8, h1, h2, h3⟩ := hn1
        cases Option.some.inj (h1.symm.trans hcl)
        cases Option.some.inj (h2.symm.trans hc6)
        exact Or.inr ⟨hz0, _, hcl6, h3⟩) hx (Or.inr ⟨h0, c4, hcl5, hasg⟩)
  obtain ⟨t, a1, b1⟩ := kk (T.setVm vm') hT X'
  exact ⟨t, st.trans a1, b1⟩
end Rows
section Ends
variable {p : Program} {l : Launch} {e : Env} {R : Room} {s : State} {m : MethodId} {args : Array Value} {below : List Frame} {meth : Method} {c : Code} {H : Heap} {locs : List Loc} {cells slots : Nat} {Q : State → Prop}
variable {mc ms : Nat} {free : Addr → Prop} {A0 A1 : Nat → Prop} {H0 : Heap} {a : Array Value} {ls : Array Slot} {st0 rest : List Value}
variable {Qc : Array Value → State → Outcome → State → Prop} {XC : String → State → State → Prop}
/-- what a body that may throw owes at its end -/
def vx_MQ (below : List Frame) (Qc : Array Value → State → Outcome → State → Prop) (XC : String → State → State → Prop) (a : Array Value) (s : State) (mc ms : Nat) (free : Addr → Prop) : State → Prop := fun t =>
  ∃ o, t.status = .running ∧ Ended t below o ∧ vx_Q Qc XC mc ms free a s o t
theorem vx_ret {g : JFrame} {mc ms : Nat} (k : W p l e R s m args below meth c H locs cells slots (MQ below Qc args s mc ms free) g) : W p l e R s m args below meth c H locs cells slots (vx_MQ below Qc XC args s mc ms free) g := by
  intro T hT X
  obtain ⟨t, a1, o, b1, b2, b3, b4⟩ := k T hT X
  exact ⟨t, a1, o, b1, b2, Or.inl ⟨b3, b4⟩⟩
/-- not caught here: it goes on to the caller -/
theorem vx_widen {g : JFrame} {q : Addr} {k n : Nat} (h1 : cells ≤ k) (h2 : slots ≤ n) (kk : vx_W p l e R s m args below meth c H locs k n Q g q) : vx_W p l e R s m args below meth c H locs cells slots Q g q := fun T hT X => kk T hT (stand_widen X h1 h2)
theorem vx_out {pc : Nat} {E : String} {ce : Cell} {q : Addr} {mc ms : Nat} (hout : ∀ x ∈ c.exceptionTable.toList, covers x pc = false) (hlocks : meth.locks = false) (hcell : H[q]? = some ce) (hv : ce.vm = .none) (hcl : s.vm.findClass E = some ce.cls)
    (hx : ∀ t : State, t.heap = H → s.vm.Alike t.vm → XC E s t) (hf : ∀ z ∈ locs, free z.base) (hc : cells ≤ mc) (hs : slots ≤ ms) :
    vx_W p l e R s m args below meth c H locs cells slots (vx_MQ below Qc XC args s mc ms free) (F0 m pc ls rest) q := by
  intro T hT X
  obtain ⟨st1, hrun, hend, hW, hsm⟩ := X.leaveThrown q (g := F0 m pc ls rest) rfl rfl rfl hout hlocks
  have hcell9 : (T.setFrames (.throwing q :: below)).heap[q]? = some ce := by
    show T.heap[q]? = some ce
    rw [hT]; exact hcell
  exact ⟨_, st1, .threw q, hrun, hend, Or.inr ⟨q, rfl, E, ce, locs, hx _ hT hW.alike, hcell9, hv, hcl, hW, hsm.mono hc hs, hf⟩⟩
theorem vx_frame {U : State} {k n : Nat} (h : s.sameButNew ({ U with vm := s.vm } : State) locs k n) : s.heap.size ≤ U.heap.size ∧ ∀ q : Nat, q < s.heap.size → (∀ z ∈ locs, z.base ≠ q) → U.heap[q]? = s.heap[q]? := by
  obtain ⟨-, h2, -, -, -, h6⟩ := h
  refine ⟨h2, fun q hq hz => ?_⟩
  obtain ⟨c9, e1, e2, e3, e4⟩ := h6 q _ (Array.getElem?_eq_getElem hq)
  have hs : c9.slots = (s.heap[q]).slots := Array.ext_getElem? fun i => e4 i fun hm => hz _ hm rfl
  have h9 : c9 = s.heap[q] := by
    rw [hs] at e2
    exact e2
  have e5 : U.heap[q]? = some c9 := e1
  rw [e5, h9, Array.getElem?_eq_getElem hq]
/-- the words of a throw but the four that speak of the heap -/
def vx_no (w : Cond) : Bool := decide (w ≠ .isRef (.static Bundle.tN "UNASSIGNED_STACK" Bundle.steD)) && decide (w ≠ .isRef (.static Bundle.tN "SUPPRESSED_SENTINEL" Bundle.listD)) && decide (w ≠ .laysStatic Bundle.tN "UNASSIGNED_STACK" Bundle.steD) && decide (w ≠ .laysStatic Bundle.tN "SUPPRESSED_SENTINEL" Bundle.listD)
def vx_at0 (own : String) (ic : Nat) (X : String) (names : List String) : List Cond := (Bundle.ownAtoms0 own ic X names).filter vx_no
def vx_atS (own : String) (ic : Nat) (X : String) (names : List String) : List Cond := (Bundle.ownAtoms own ic X names).filter vx_no
/-- a word that the tables alone decide, or a good one -/
def vx_ot (w : Cond) : Bool := w.onTables || goodWord w
theorem vx_ot_at {args a' : Array Value} {s U : State} {w : Cond} (hW : s.WarmedH U.vm) (hvm : s.vm = U.vm) (hg : vx_ot w = true) (h : w.before args s = true) : w.before a' U = true := by
  simp only [vx_ot, Bool.or_eq_true] at hg
  rcases hg with hg | hg
  · exact va_tabs hg hvm h
  · exact word_at hW (good_of_word hg) h
/-- a list's words: the good ones out of the method's own list, the others by premises of their own -/
theorem vx_hat {args : Array Value} {s : State} {L B : List Cond} (h1 : ∀ w ∈ L.filter goodWord, w.before args s = true) (h2 : ∀ w ∈ L.filter (fun w => !goodWord w), w ∈ B) (h3 : ∀ w ∈ B, w.before args s = true) : ∀ w ∈ L, w.before args s = true := by
  intro w hw
  by_cases g : goodWord w = true
  · exact h1 w (List.mem_filter.mpr ⟨hw, g⟩)
  · refine h3 w (h2 w (List.mem_filter.mpr ⟨hw, ?_⟩))
    show (!goodWord w) = true
    cases hgw : goodWord w
    · rfl
    · exact absurd hgw g
theorem vx_c {args : Array Value} {s : State} {w : Cond} {B : List Cond} (h : w.before args s = true) (t : ∀ w ∈ B, w.before args s = true) : ∀ w' ∈ w :: B, w'.before args s = true := fun w' h' => (List.mem_cons.mp h').elim (fun e => by rw [e]; exact h) (t w')
theorem vx_n {args : Array Value} {s : State} : ∀ w ∈ ([] : List Cond), w.before args s = true := fun _ h => nomatch h
theorem vx_own {args : Array Value} {s : State} {L : List Cond} (h1 : ∀ w ∈ L.filter vx_no, w.before args s = true)
    (hU : (Cond.isRef (.static Bundle.tN "UNASSIGNED_STACK" Bundle.steD)).before args s = true) (hN : (Cond.isRef (.static Bundle.tN "SUPPRESSED_SENTINEL" Bundle.listD)).before args s = true)
    (lU : (Cond.laysStatic Bundle.tN "UNASSIGNED_STACK" Bundle.steD).before args s = true) (lN : (Cond.laysStatic Bundle.tN "SUPPRESSED_SENTINEL" Bundle.listD).before args s = true) : ∀ w ∈ L, w.before args s = true := by
  intro w hw
  by_cases e1 : w = .isRef (.static Bundle.tN "UNASSIGNED_STACK" Bundle.steD)
  · rw [e1]; exact hU
  · by_cases e2 : w = .isRef (.static Bundle.tN "SUPPRESSED_SENTINEL" Bundle.listD)
    · rw [e2]; exact hN
    · by_cases e3 : w = .laysStatic Bundle.tN "UNASSIGNED_STACK" Bundle.steD
      · rw [e3]; exact lU
      · by_cases e4 : w = .laysStatic Bundle.tN "SUPPRESSED_SENTINEL" Bundle.listD
        · rw [e4]; exact lN
        · exact h1 w (List.mem_filter.mpr ⟨hw, by unfold vx_no; rw [decide_eq_true e1, decide_eq_true e2, decide_eq_true e3, decide_eq_true e4]; rfl⟩)
/-- where a static field lies, its class's statics cell in H -/
def vx_L (C n d : String) (A : Nat → Prop) (U : State) (H : Heap) : Prop := ∃ (c : ClassId) (k : Class) (i : Nat) (f : Field) (a : Nat) (cell : Cell), U.vm.findClass C = some c ∧ U.fieldFound? C n d = some (c, k, i, f) ∧ f.isStatic = true ∧ k.statics = some a ∧ H[a]? = some cell ∧ cell.vm.isStatics = true ∧ cell.cls = c ∧ f.slot < cell.slots.size ∧ k.staticTypes[f.slot]? = some f.type ∧ ¬ A a
theorem vx_L.moved {C n d : String} {A : Nat → Prop} {u U : State} {H : Heap} (hvm : u.vm.Alike U.vm) (h : vx_L C n d A u H) : vx_L C n d A U H := by
  obtain ⟨c, k, i, f, a, cell, h1, h2, h3, h4, h5, h6, h7, h8, h9, h10⟩ := h
  obtain ⟨k', hi', he⟩ := State.fieldFound?_setVm hvm h2
  exact ⟨c, k', i, f, a, cell, by rw [hvm.findClass]; exact h1, hi', h3, by rw [he]; exact h4, h5, h6, h7, h8, by rw [he]; exact h9, h10⟩
theorem vx_L.kept {C n d : String} {A : Nat → Prop} {U : State} {H H1 : Heap} (h : vx_L C n d A U H) (hq : ∀ a : Nat, a < H.size → ¬ A a → H1[a]? = H[a]?) : vx_L C n d A U H1 := by
  obtain ⟨c, k, i, f, a, cell, h1, h2, h3, h4, h5, h6, h7, h8, h9, h10⟩ := h
  exact ⟨c, k, i, f, a, cell, h1, h2, h3, h4, by rw [hq a (Array.getElem?_eq_some_iff.mp h5).1 h10]; exact h5, h6, h7, h8, h9, h10⟩
theorem vx_L.narrow {C n d : String} {A B : Nat → Prop} {U : State} {H : Heap} (h : vx_L C n d A U H) (hAB : ∀ q, B q → A q) : vx_L C n d B U H := by
  obtain ⟨c, k, i, f, a, cell, h1, h2, h3, h4, h5, h6, h7, h8, h9, h10⟩ := h
  exact ⟨c, k, i, f, a, cell, h1, h2, h3, h4, h5, h6, h7, h8, h9, fun z => h10 (hAB _ z)⟩
theorem vx_L.word {C n d : String} {A : Nat → Prop} {s : State} {args : Array Value} (h : vx_L C n d A s s.heap) : (Cond.laysStatic C n d).before args s = true := by
  obtain ⟨c, k, i, f, a, cell, h1, h2, h3, h4, h5, h6, h7, h8, h9, -⟩ := h
  show (Cond.laysStatic C n d).holds args s none s [] = true
  exact Cond.laysStatic_of h1 h2 h3 h4 h5 h6 h7 h8 h9
/-- .. and what it holds: null or some reference -/
def vx_Zq (C n d : String) (A : Nat → Prop) (U : State) (H : Heap) : Prop := va_Zq C n d A U H ∧ vx_L C n d A U H
theorem vx_Zq.moved {C n d : String} {A : Nat → Prop} {u U : State} {H : Heap} (hvm : u.vm.Alike U.vm) (h : vx_Zq C n d A u H) : vx_Zq C n d A U H := ⟨va_Zq.moved hvm h.1, vx_L.moved hvm h.2⟩
theorem vx_Zq.kept {C n d : String} {A : Nat → Prop} {U : State} {H H1 : Heap} (h : vx_Zq C n d A U H) (hq : ∀ a : Nat, a < H.size → ¬ A a → H1[a]? = H[a]?) : vx_Zq C n d A U H1 := ⟨va_Zq.kept h.1 hq, vx_L.kept h.2 hq⟩
theorem vx_Zq.narrow {C n d : String} {A B : Nat → Prop} {U : State} {H : Heap} (h : vx_Zq C n d A U H) (hAB : ∀ q, B q → A q) : vx_Zq C n d B U H := ⟨va_Zq.narrow h.1 hAB, vx_L.narrow h.2 hAB⟩
theorem vx_Zqof {args : Array Value} {s : State} {C n d : String} {A : Nat → Prop} (hl : (Cond.laysStatic C n d).before args s = true) (hini : (Cond.initialized C).before args s = true) (h : (Cond.isRef (.static C n d)).before args s = true) (hA : ∀ a : Nat, a < s.heap.size → ¬ A a) : vx_Zq C n d A s s.heap := by
  refine ⟨va_Zqof hl hini h hA, ?_⟩
  obtain ⟨c, k, i, f, a, cell, h1, h2, h3, h4, h5, h6, h7, h8, h9⟩ := Cond.laysStatic_spec hl
  exact ⟨c, k, i, f, a, cell, h1, h2, h3, h4, h5, h6, h7, h8, h9, hA a (Array.getElem?_eq_some_iff.mp h5).1⟩
theorem vx_isRef {C n d : String} {v : Value} {A : Nat → Prop} {s : State} {args : Array Value} (h : va_Z C n d v A s s.heap) (hv : v.isRef = true) : (Cond.isRef (.static C n d)).before args s = true := by
  obtain ⟨cf, kf, fi, f, a, cell, h1, h2, h3, h4, h5, h6, h7, -⟩ := h
  have he : (Term.static C n d).eval args s none [] s = some v := by
    simp [Term.eval, State.fieldNamed?, h1, h2, h4, h5, h6, h7]
  simp only [Cond.before, Cond.holds, Cond.value, he]
  cases v <;> simp_all [Value.isRef]
theorem vx_isRefq {C n d : String} {A : Nat → Prop} {s : State} {args : Array Value} (h : va_Zq C n d A s s.heap) : (Cond.isRef (.static C n d)).before args s = true := by
  rcases h with h | ⟨t, h⟩
  · exact vx_isRef h rfl
  · exact vx_isRef h rfl
/-- the same frame, seen from here: as if the method were called anew in this heap -/
theorem vx_rebase {T : State} (X : Stand p l e R s m args below meth c T locs cells slots) {R' : Room} (hf : R'.frames ≤ R.frames) (hl : R'.locals ≤ R.locals) (hc : cells + R'.cells ≤ R.cells) (hs : slots + R'.slots ≤ R.slots) :
    Stand p l e R' ((T.setVm s.vm).setFrames (.invoking m args :: below)) m args below meth c T [] 0 0 := by
  have htop : (T.setVm s.vm).topJava?.isSome := X.here.top
  have hF : ((T.setVm s.vm).setFrames (.invoking m args :: below)).frames = .invoking m args :: below := State.frames_setFrames _ (State.cur_lt_of_top htop)
  obtain ⟨g₀, hg0⟩ := Option.isSome_iff_exists.mp htop
  obtain ⟨r, hr⟩ := State.topJava?_eq_some.mp hg0
  have hl9 : e.platform.stackLimits (T.setVm s.vm).me = e.platform.stackLimits s.me := X.limits
  have hb9 : (T.setVm s.vm).me.stackBytes = s.me.stackBytes := X.bytes
  refine ⟨X.admits, X.cas, X.clock, hF, ?_, X.hears, X.method, X.code, X.here, X.tail, X.warmed, ?_, ?_, ?_⟩
  · have h := X.room
    have hU : ((T.setVm s.vm).setFrames (.invoking m args :: below)).localsInUse = s.localsInUse := by
      rw [State.localsInUse_invoking hF (meth := meth) (c := c) X.method X.code, State.localsInUse_invoking X.frames X.method X.code]
    simp only [State.hasRoom, Bool.and_eq_true, decide_eq_true_eq] at h ⊢
    obtain ⟨⟨⟨⟨h1, h2, h3, h4, h5, h6⟩, h7⟩, h8⟩, h9⟩ := h
    rw [X.frames, List.length_cons] at h2 h3
    have q1 := X.heapSize
    have q2 := X.used
    simp only [hF, hU, List.length_cons, State.stackLimits_setFrames, State.stackBytes_setFrames, hl9, hb9]
    refine ⟨⟨⟨⟨by omega, by omega, by omega, by omega, by omega, h6⟩, ?_⟩, ?_⟩, X.book⟩
    · show T.heap.size + R'.cells ≤ e.platform.maxCells
      omega
    · show T.slotsUsed + R'.slots ≤ e.platform.maxSlots
      omega
  · rw [State.stackLimits_setFrames]; rfl
  · rw [State.stackBytes_setFrames]; rfl
  · refine ⟨?_, Nat.le_refl _, Nat.le_refl _, ?_, ?_, fun a c9 h9 => ⟨c9, h9, rfl, rfl, fun _ _ => rfl⟩⟩
    · obtain ⟨t, ht, -⟩ := State.frames_cons hr
      show T.setVm s.vm = { ((T.setVm s.vm).setFrames (.invoking m args :: below)).setFrames (T.setVm s.vm).frames with heap := T.heap, slotsUsed := T.slotsUsed }
      rw [State.setFrames_setFrames, State.setFrames_self ht]
      rfl
    · show T.slotsUsed = T.slotsUsed + ((T.heap.toList.drop T.heap.size).map (·.slots.size)).sum
      rw [List.drop_eq_nil_of_le (Nat.le_of_eq Array.length_toList)]
      rfl
    · show ((T.heap.toList.drop T.heap.size).map (·.slots.size)).sum ≤ 0
      rw [List.drop_eq_nil_of_le (Nat.le_of_eq Array.length_toList)]
      exact Nat.le_refl _
/-- 'throw new E()': new; dup; invokespecial; athrow -/
theorem vx_throw0 {cc : ByteArray} {pc : Nat} (hexec : p.tables.exec = Jvm.exec) (hb : c.code = cc) (hl : l.stackTraces = false) {own cls : String} {names : List String} {ik ic mc ms : Nat} {A : Nat → Prop}
    (hown : s.vm.findClass own = some m.cls) (hcls : Bundle.fit cls = true) (hnames : ∀ n ∈ names, Bundle.fit n = true)
    (hk : (Cond.classLink own ik cls).before args s = true) (hini : (Cond.initialized cls).before args s = true) (hat : ∀ w ∈ vx_at0 own ic cls names, w.before args s = true)
    (hgood : ∀ w ∈ Cond.classLink own ik cls :: Cond.initialized cls :: vx_at0 own ic cls names, vx_ot w = true)
    (hU : vx_Zq Bundle.tN "UNASSIGNED_STACK" Bundle.steD A s s.heap) (hN : vx_Zq Bundle.tN "SUPPRESSED_SENTINEL" Bundle.listD A s s.heap) (hS : va_S A s.heap H locs) (hsize : ls.size = c.maxLocals)
    (d0 : decode cc pc = .ok (.new ik, 3)) (d3 : decode cc (pc + 3) = .ok (.dup, 1)) (d4 : decode cc (pc + 4) = .ok (.invokespecial ic, 3)) (d7 : decode cc (pc + 7) = .ok (.athrow, 1))
    (hout : ∀ x ∈ c.exceptionTable.toList, covers x (pc + 7) = false)
    (hRframes : names.length + 3 < R.frames) (hRlocals : (rest.map fun v => v.category).sum + (13 * (names.length + 1) + 42) ≤ R.locals) (hRcells : cells + 1 ≤ R.cells) (hRslots : slots + 6 ≤ R.slots) (hlocks : meth.locks = false)
    (hx : ∀ t : State, s.vm.Alike t.vm → H.size ≤ t.heap.size → (∀ q : Nat, q < H.size → t.heap[q]? = H[q]?) → XC cls s t)
    (hf : ∀ z ∈ locs, free z.base) (hc : cells + 1 ≤ mc) (hs : slots + 6 ≤ ms) :
    W p l e R s m args below meth c H locs cells slots (vx_MQ below Qc XC args s mc ms free) (F0 m pc ls rest) := by
  intro T hT X
  have htr : e.platform.stackTraces = false := (show e.platform.stackTraces = l.stackTraces by rw [X.admits.platform]).trans hl
  have Y := vx_rebase X (R' := { frames := R.frames, locals := R.locals, cells := 1, slots := 6 }) (Nat.le_refl _) (Nat.le_refl _) hRcells hRslots
  obtain ⟨s', hA⟩ : ∃ z, z = (T.setVm s.vm).setFrames (.invoking m args :: below) := ⟨_, rfl⟩
  rw [← hA] at Y
  have hvm : s'.vm = s.vm := by rw [hA]; rfl
  have hhp : s'.heap = H := by rw [hA]; exact hT
  have hW0 : s.WarmedH s'.vm := by rw [hvm]; exact State.WarmedH.refl s
  have hat' : ∀ w ∈ vx_at0 own ic cls names, w.before args s' = true := fun w hw => vx_ot_at hW0 hvm.symm (hgood w (List.mem_cons_of_mem _ (List.mem_cons_of_mem _ hw))) (hat w hw)
  have hk' : (Cond.classLink own ik cls).before args s' = true := vx_ot_at hW0 hvm.symm (hgood _ List.mem_cons_self) hk
  have hini' : (Cond.initialized cls).before args s' = true := vx_ot_at hW0 hvm.symm (hgood _ (List.mem_cons_of_mem _ List.mem_cons_self)) hini
  have hU' : vx_Zq Bundle.tN "UNASSIGNED_STACK" Bundle.steD A s' s'.heap := by rw [hhp]; exact vx_Zq.moved hW0.alike (hU.kept hS.2.1)
  have hN' : vx_Zq Bundle.tN "SUPPRESSED_SENTINEL" Bundle.listD A s' s'.heap := by rw [hhp]; exact vx_Zq.moved hW0.alike (hN.kept hS.2.1)
  have h : ∀ w ∈ Bundle.ownAtoms0 own ic cls names, w.before args s' = true := vx_own hat' (vx_isRefq hU'.1) (vx_isRefq hN'.1) hU'.2.word hN'.2.word
  have hown' : s'.vm.findClass own = some m.cls := by rw [hvm]; exact hown
  have hins : (Cond.instantiable cls 6).before args s' = true := h _ (by simp [Bundle.ownAtoms0])
  obtain ⟨vm₁, cX, kX, hfX, hkX, -, -, X₁, st1⟩ := Y.newCold hexec (own := own) (C := cls) (index := ik) (n := 6) hown' hk' hins hini'
    (g := F0 m pc ls rest) rfl (by rw [hb]; exact d0) (Nat.le_refl _) (Nat.le_refl _)
  generalize hT1 : (T.setVm vm₁).pushCell { cls := cX, slots := kX.instanceTypes.map defaultValue, vm := .none } = T1 at X₁ st1
  have hcat : (Value.ref T.heap.size).category = 1 := rfl
  have hcellA : T1.heap[T.heap.size]? = some (freshCell cX kX) := by rw [← hT1]; exact State.heap_pushCell_size _ _
  have d3' : decode c.code (pc + 3) = .ok (.dup, 1) := by rw [hb]; exact d3
  obtain ⟨U, hsteps, hrun, hend, hW, hsame, ce, hce, hO⟩ := X₁.ctorThrow0 hexec htr (own := own) (cls := cls) (names := names) (ic := ic) hown' hcls hnames h (fun x hx => nomatch hx) hfX hkX hcellA (by rw [hhp, hT]; exact Nat.le_refl _)
    (g := { method := m, pc := pc + 4, locals := ls, stack := .ref T.heap.size :: .ref T.heap.size :: rest, locked := none }) rfl hsize rfl rfl (rest := rest) rfl
    (by rw [hb]; exact d4) (by rw [hb]; exact d7) hout hRframes (by simp only [List.map_cons, List.sum_cons, hcat]; omega) hlocks
  obtain ⟨f1, f2⟩ := vx_frame hsame
  rw [hhp] at f1 f2
  have hWs : s.WarmedH U.vm := State.WarmedH.trans hW0 hW
  have hcl : s.vm.findClass cls = some ce.cls := by
    have h9 := hO.cls
    rw [hvm] at h9
    exact h9
  have hall : s.sameButNew ({ U with vm := s.vm } : State) locs mc ms := by
    subst hA
    obtain ⟨e1, e2⟩ := hsame
    rw [State.setFrames_setFrames] at e1
    have h2 : (T.setVm s.vm).sameButNew ({ U with vm := s.vm } : State) [] (0 + 1) (0 + 6) := ⟨e1, e2⟩
    have h3 := X.same.trans h2
    rw [List.append_nil] at h3
    exact h3.mono hc hs
  refine ⟨U, ?_, .threw T.heap.size, hrun, hend, Or.inr ⟨T.heap.size, rfl, cls, ce, locs, hx U hWs.alike f1 (fun q hq => f2 q hq (fun z hz => nomatch hz)), hce, hO.vm, hcl, hWs, hall, hf⟩⟩
  refine st1 _ ?_
  show Steps p.tables e below (T1.setTop { method := m, pc := pc + 3, locals := ls, stack := .ref T.heap.size :: rest, locked := none }) _
  jvm_step X₁.here [X₁.here.top, hexec, d3', Value.category]
  exact hsteps
/-- 'throw new E("text")': new; dup; ldc; invokespecial; athrow -/
theorem vx_throwS {cc : ByteArray} {pc : Nat} (hexec : p.tables.exec = Jvm.exec) (hb : c.code = cc) (hl : l.stackTraces = false) {own cls text : String} {names : List String} {ik is ic mc ms sa : Nat} {A : Nat → Prop}
    (hown : s.vm.findClass own = some m.cls) (hcls : Bundle.fit cls = true) (hnames : ∀ n ∈ names, Bundle.fit n = true)
    (hk : (Cond.classLink own ik cls).before args s = true) (hini : (Cond.initialized cls).before args s = true) (hstr : vk_R own is text sa s) (hat : ∀ w ∈ vx_atS own ic cls names, w.before args s = true)
    (hgood : ∀ w ∈ Cond.classLink own ik cls :: Cond.initialized cls :: vx_atS own ic cls names, vx_ot w = true)
    (hU : vx_Zq Bundle.tN "UNASSIGNED_STACK" Bundle.steD A s s.heap) (hN : vx_Zq Bundle.tN "SUPPRESSED_SENTINEL" Bundle.listD A s s.heap) (hS : va_S A s.heap H locs) (hsize : ls.size = c.maxLocals)
    (d0 : decode cc pc = .ok (.new ik, 3)) (d3 : decode cc (pc + 3) = .ok (.dup, 1)) (d4 : decode cc (pc + 4) = .ok (.ldc is, 2)) (d6 : decode cc (pc + 6) = .ok (.invokespecial ic, 3)) (d9 : decode cc (pc + 9) = .ok (.athrow, 1))
    (hout : ∀ x ∈ c.exceptionTable.toList, covers x (pc + 9) = false)
    (hRframes : names.length + 3 < R.frames) (hRlocals : (rest.map fun v => v.category).sum + (13 * (names.length + 1) + 43) ≤ R.locals) (hRcells : cells + 1 ≤ R.cells) (hRslots : slots + 6 ≤ R.slots) (hlocks : meth.locks = false)
    (hx : ∀ t : State, s.vm.Alike t.vm → H.size ≤ t.heap.size → (∀ q : Nat, q < H.size → t.heap[q]? = H[q]?) → XC cls s t)
    (hf : ∀ z ∈ locs, free z.base) (hc : cells + 1 ≤ mc) (hs : slots + 6 ≤ ms) :
    W p l e R s m args below meth c H locs cells slots (vx_MQ below Qc XC args s mc ms free) (F0 m pc ls rest) := by
  intro T hT X
  have htr : e.platform.stackTraces = false := (show e.platform.stackTraces = l.stackTraces by rw [X.admits.platform]).trans hl
  have Y := vx_rebase X (R' := { frames := R.frames, locals := R.locals, cells := 1, slots := 6 }) (Nat.le_refl _) (Nat.le_refl _) hRcells hRslots
  obtain ⟨s', hA⟩ : ∃ z, z = (T.setVm s.vm).setFrames (.invoking m args :: below) := ⟨_, rfl⟩
  rw [← hA] at Y
  have hvm : s'.vm = s.vm := by rw [hA]; rfl
  have hhp : s'.heap = H := by rw [hA]; exact hT
  have hW0 : s.WarmedH s'.vm := by rw [hvm]; exact State.WarmedH.refl s
  have hat' : ∀ w ∈ vx_atS own ic cls names, w.before args s' = true := fun w hw => vx_ot_at hW0 hvm.symm (hgood w (List.mem_cons_of_mem _ (List.mem_cons_of_mem _ hw))) (hat w hw)
  have hk' : (Cond.classLink own ik cls).before args s' = true := vx_ot_at hW0 hvm.symm (hgood _ List.mem_cons_self) hk
  have hini' : (Cond.initialized cls).before args s' = true := vx_ot_at hW0 hvm.symm (hgood _ (List.mem_cons_of_mem _ List.mem_cons_self)) hini
  have hU' : vx_Zq Bundle.tN "UNASSIGNED_STACK" Bundle.steD A s' s'.heap := by rw [hhp]; exact vx_Zq.moved hW0.alike (hU.kept hS.2.1)
  have hN' : vx_Zq Bundle.tN "SUPPRESSED_SENTINEL" Bundle.listD A s' s'.heap := by rw [hhp]; exact vx_Zq.moved hW0.alike (hN.kept hS.2.1)
  have h : ∀ w ∈ Bundle.ownAtoms own ic cls names, w.before args s' = true := vx_own hat' (vx_isRefq hU'.1) (vx_isRefq hN'.1) hU'.2.word hN'.2.word
  have hown' : s'.vm.findClass own = some m.cls := by rw [hvm]; exact hown
  have hins : (Cond.instantiable cls 6).before args s' = true := h _ (by simp [Bundle.ownAtoms])
  obtain ⟨vm₁, cX, kX, hfX, hkX, -, -, X₁, st1⟩ := Y.newCold hexec (own := own) (C := cls) (index := ik) (n := 6) hown' hk' hins hini'
    (g := F0 m pc ls rest) rfl (by rw [hb]; exact d0) (Nat.le_refl _) (Nat.le_refl _)
  generalize hT1 : (T.setVm vm₁).pushCell { cls := cX, slots := kX.instanceTypes.map defaultValue, vm := .none } = T1 at X₁ st1
  have hcat : (Value.ref T.heap.size).category = 1 := rfl
  have hcellA : T1.heap[T.heap.size]? = some (freshCell cX kX) := by rw [← hT1]; exact State.heap_pushCell_size _ _
  have d3' : decode c.code (pc + 3) = .ok (.dup, 1) := by rw [hb]; exact d3
  have d4' : decode c.code (pc + 4) = .ok (.ldc is, 2) := by rw [hb]; exact d4
  have hstr' : vk_R own is text sa s' := vk_R.warm hW0 hstr
  obtain ⟨U, hsteps, hrun, hend, hW, hsame, ce, hce, hO⟩ := X₁.ctorThrowS hexec htr (own := own) (cls := cls) (names := names) (ic := ic) hown' hcls hnames h (fun x hx => nomatch hx) hfX hkX hcellA (by rw [hhp, hT]; exact Nat.le_refl _) (msg := .ref sa) rfl
    (g := { method := m, pc := pc + 6, locals := ls, stack := .ref sa :: .ref T.heap.size :: .ref T.heap.size :: rest, locked := none }) rfl hsize rfl rfl (rest := rest) rfl
    (by rw [hb]; exact d6) (by rw [hb]; exact d9) hout hRframes (by simp only [List.map_cons, List.sum_cons, hcat]; omega) hlocks
  obtain ⟨f1, f2⟩ := vx_frame hsame
  rw [hhp] at f1 f2
  have hWs : s.WarmedH U.vm := State.WarmedH.trans hW0 hW
  have hcl : s.vm.findClass cls = some ce.cls := by
    have h9 := hO.cls
    rw [hvm] at h9
    exact h9
  have hall : s.sameButNew ({ U with vm := s.vm } : State) locs mc ms := by
    subst hA
    obtain ⟨e1, e2⟩ := hsame
    rw [State.setFrames_setFrames] at e1
    have h2 : (T.setVm s.vm).sameButNew ({ U with vm := s.vm } : State) [] (0 + 1) (0 + 6) := ⟨e1, e2⟩
    have h3 := X.same.trans h2
    rw [List.append_nil] at h3
    exact h3.mono hc hs
  refine ⟨U, ?_, .threw T.heap.size, hrun, hend, Or.inr ⟨T.heap.size, rfl, cls, ce, locs, hx U hWs.alike f1 (fun q hq => f2 q hq (fun z hz => nomatch hz)), hce, hO.vm, hcl, hWs, hall, hf⟩⟩
  refine st1 _ ?_
  show Steps p.tables e below (T1.setTop { method := m, pc := pc + 3, locals := ls, stack := .ref T.heap.size :: rest, locked := none }) _
  jvm_step X₁.here [X₁.here.top, hexec, d3', Value.category]
  exact X₁.ldcString hexec (own := own) (text := text) (index := is) (a := sa) hown' hstr'.1 hstr'.2
    (g := { method := m, pc := pc + 4, locals := ls, stack := .ref T.heap.size :: .ref T.heap.size :: rest, locked := none }) rfl d4' _ hsteps
/-- 'throw new E("text")', the text by a wide index -/
theorem vx_throwSW {cc : ByteArray} {pc : Nat} (hexec : p.tables.exec = Jvm.exec) (hb : c.code = cc) (hl : l.stackTraces = false) {own cls text : String} {names : List String} {ik is ic mc ms sa : Nat} {A : Nat → Prop}
    (hown : s.vm.findClass own = some m.cls) (hcls : Bundle.fit cls = true) (hnames : ∀ n ∈ names, Bundle.fit n = true)
    (hk : (Cond.classLink own ik cls).before args s = true) (hini : (Cond.initialized cls).before args s = true) (hstr : vk_R own is text sa s) (hat : ∀ w ∈ vx_atS own ic cls names, w.before args s = true)
    (hgood : ∀ w ∈ Cond.classLink own ik cls :: Cond.initialized cls :: vx_atS own ic cls names, vx_ot w = true)
    (hU : vx_Zq Bundle.tN "UNASSIGNED_STACK" Bundle.steD A s s.heap) (hN : vx_Zq Bundle.tN "SUPPRESSED_SENTINEL" Bundle.listD A s s.heap) (hS : va_S A s.heap H locs) (hsize : ls.size = c.maxLocals)
    (d0 : decode cc pc = .ok (.new ik, 3)) (d3 : decode cc (pc + 3) = .ok (.dup, 1)) (d4 : decode cc (pc + 4) = .ok (.ldc_w is, 3)) (d7 : decode cc (pc + 7) = .ok (.invokespecial ic, 3)) (d10 : decode cc (pc + 10) = .ok (.athrow, 1))
    (hout : ∀ x ∈ c.exceptionTable.toList, covers x (pc + 10) = false)
    (hRframes : names.length + 3 < R.frames) (hRlocals : (rest.map fun v => v.category).sum + (13 * (names.length + 1) + 43) ≤ R.locals) (hRcells : cells + 1 ≤ R.cells) (hRslots : slots + 6 ≤ R.slots) (hlocks : meth.locks = false)
    (hx : ∀ t : State, s.vm.Alike t.vm → H.size ≤ t.heap.size → (∀ q : Nat, q < H.size → t.heap[q]? = H[q]?) → XC cls s t)
    (hf : ∀ z ∈ locs, free z.base) (hc : cells + 1 ≤ mc) (hs : slots + 6 ≤ ms) :
    W p l e R s m args below meth c H locs cells slots (vx_MQ below Qc XC args s mc ms free) (F0 m pc ls rest) := by
  intro T hT X
  have htr : e.platform.stackTraces = false := (show e.platform.stackTraces = l.stackTraces by rw [X.admits.platform]).trans hl
  have Y := vx_rebase X (R' := { frames := R.frames, locals := R.locals, cells := 1, slots := 6 }) (Nat.le_refl _) (Nat.le_refl _) hRcells hRslots
  obtain ⟨s', hA⟩ : ∃ z, z = (T.setVm s.vm).setFrames (.invoking m args :: below) := ⟨_, rfl⟩
  rw [← hA] at Y
  have hvm : s'.vm = s.vm := by rw [hA]; rfl
  have hhp : s'.heap = H := by rw [hA]; exact hT
  have hW0 : s.WarmedH s'.vm := by rw [hvm]; exact State.WarmedH.refl s
  have hat' : ∀ w ∈ vx_atS own ic cls names, w.before args s' = true := fun w hw => vx_ot_at hW0 hvm.symm (hgood w (List.mem_cons_of_mem _ (List.mem_cons_of_mem _ hw))) (hat w hw)
  have hk' : (Cond.classLink own ik cls).before args s' = true := vx_ot_at hW0 hvm.symm (hgood _ List.mem_cons_self) hk
  have hini' : (Cond.initialized cls).before args s' = true := vx_ot_at hW0 hvm.symm (hgood _ (List.mem_cons_of_mem _ List.mem_cons_self)) hini
  have hU' : vx_Zq Bundle.tN "UNASSIGNED_STACK" Bundle.steD A s' s'.heap := by rw [hhp]; exact vx_Zq.moved hW0.alike (hU.kept hS.2.1)
  have hN' : vx_Zq Bundle.tN "SUPPRESSED_SENTINEL" Bundle.listD A s' s'.heap := by rw [hhp]; exact vx_Zq.moved hW0.alike (hN.kept hS.2.1)
  have h : ∀ w ∈ Bundle.ownAtoms own ic cls names, w.before args s' = true := vx_own hat' (vx_isRefq hU'.1) (vx_isRefq hN'.1) hU'.2.word hN'.2.word
  have hown' : s'.vm.findClass own = some m.cls := by rw [hvm]; exact hown
  have hins : (Cond.instantiable cls 6).before args s' = true := h _ (by simp [Bundle.ownAtoms])
  obtain ⟨vm₁, cX, kX, hfX, hkX, -, -, X₁, st1⟩ := Y.newCold hexec (own := own) (C := cls) (index := ik) (n := 6) hown' hk' hins hini'
    (g := F0 m pc ls rest) rfl (by rw [hb]; exact d0) (Nat.le_refl _) (Nat.le_refl _)
  generalize hT1 : (T.setVm vm₁).pushCell { cls := cX, slots := kX.instanceTypes.map defaultValue, vm := .none } = T1 at X₁ st1
  have hcat : (Value.ref T.heap.size).category = 1 := rfl
  have hcellA : T1.heap[T.heap.size]? = some (freshCell cX kX) := by rw [← hT1]; exact State.heap_pushCell_size _ _
  have d3' : decode c.code (pc + 3) = .ok (.dup, 1) := by rw [hb]; exact d3
  have d4' : decode c.code (pc + 4) = .ok (.ldc_w is, 3) := by rw [hb]; exact d4
  have hstr' : vk_R own is text sa s' := vk_R.warm hW0 hstr
  obtain ⟨U, hsteps, hrun, hend, hW, hsame, ce, hce, hO⟩ := X₁.ctorThrowS hexec htr (own := own) (cls := cls) (names := names) (ic := ic) hown' hcls hnames h (fun x hx => nomatch hx) hfX hkX hcellA (by rw [hhp, hT]; exact Nat.le_refl _) (msg := .ref sa) rfl
    (g := { method := m, pc := pc + 7, locals := ls, stack := .ref sa :: .ref T.heap.size :: .ref T.heap.size :: rest, locked := none }) rfl hsize rfl rfl (rest := rest) rfl
    (by rw [hb]; exact d7) (by rw [hb]; exact d10) hout hRframes (by simp only [List.map_cons, List.sum_cons, hcat]; omega) hlocks
  obtain ⟨f1, f2⟩ := vx_frame hsame
  rw [hhp] at f1 f2
  have hWs : s.WarmedH U.vm := State.WarmedH.trans hW0 hW
  have hcl : s.vm.findClass cls = some ce.cls := by
    have h9 := hO.cls
    rw [hvm] at h9
    exact h9
  have hall : s.sameButNew ({ U with vm := s.vm } : State) locs mc ms := by
    subst hA
    obtain ⟨e1, e2⟩ := hsame
    rw [State.setFrames_setFrames] at e1
    have h2 : (T.setVm s.vm).sameButNew ({ U with vm := s.vm } : State) [] (0 + 1) (0 + 6) := ⟨e1, e2⟩
    have h3 := X.same.trans h2
    rw [List.append_nil] at h3
    exact h3.mono hc hs
  refine ⟨U, ?_, .threw T.heap.size, hrun, hend, Or.inr ⟨T.heap.size, rfl, cls, ce, locs, hx U hWs.alike f1 (fun q hq => f2 q hq (fun z hz => nomatch hz)), hce, hO.vm, hcl, hWs, hall, hf⟩⟩
  refine st1 _ ?_
  show Steps p.tables e below (T1.setTop { method := m, pc := pc + 3, locals := ls, stack := .ref T.heap.size :: rest, locked := none }) _
  jvm_step X₁.here [X₁.here.top, hexec, d3', Value.category]
  exact X₁.ldcStringW hexec (own := own) (text := text) (index := is) (a := sa) hown' hstr'.1 hstr'.2
    (g := { method := m, pc := pc + 4, locals := ls, stack := .ref T.heap.size :: .ref T.heap.size :: rest, locked := none }) rfl d4' _ hsteps
end Ends
section Bodies
variable {l : Launch}
theorem vx_ofW {y : MethodName} {ws ws' : List Cond} {rm : Room} {Pc : Array Value → State → Prop} {Qc : Array Value → State → Outcome → State → Prop} {XC : String → State → State → Prop} {mc ms : Nat} {free : Addr → Prop} {cc : ByteArray} {maxL : Nat} {ret : Option FieldType}
    (hy : plainName y.cls = true) (hw : ws = Cond.code y cc maxL ret :: ws')
    (body : ∀ p e s m args below meth c s₁, BodyLoose p l y (headSpec ws rm) cc maxL ret e s m args below meth c s₁ → c.maxLocals = maxL → (∀ x ∈ c.exceptionTable.toList, False) → Pc args s →
      W p l e (headSpec ws rm).room s m args below meth c s.heap [] 0 0 (vx_MQ below Qc XC args s mc ms free) (entryFrame m args maxL)) : vx_Met l y ws rm Pc Qc XC mc ms free := by
  refine MetFree.of_bodyS (code := cc) (maxLocals := maxL) (ret := ret) hy ?_ ?_
  · intro args s m h hn
    obtain ⟨meth, c, h1, h2, h3, h4, h5, h6, -, -⟩ := Cond.code_spec hn (atoms_spec (ws := ws) h _ (by rw [hw]; exact List.mem_cons_self))
    exact ⟨meth, c, h1, h2, h3, h4, h5, h6⟩
  · intro p e s m args below meth c s₁ B hml hP _
    have hh0 : s₁.heap = s.heap := by rw [B.state]; rfl
    have ht : ∀ x ∈ c.exceptionTable.toList, False := by
      obtain ⟨meth9, c9, h1, h2, -, -, -, -, h7, -⟩ := Cond.code_spec B.named (atoms_spec (ws := ws) B.pre _ (by rw [hw]; exact List.mem_cons_self))
      cases Option.some.inj (h1.symm.trans B.method)
      cases Option.some.inj (h2.symm.trans (Stand.of_body B).code)
      intro x hx
      rw [Array.isEmpty_iff.mp h7] at hx
      cases hx
    obtain ⟨t, a1, o, b1, b2, b3⟩ := body p e s m args below meth c s₁ B hml ht hP s₁ hh0 (Stand.of_body B)
    exact ⟨t, o, a1, b1, b2, b3⟩
/-- the table of a body with handlers -/
theorem vx_table {p : Program} {x y : MethodName} {S : Spec} {cc bytes : ByteArray} {maxL maxL' : Nat} {ret ret' : Option FieldType} {e : Env} {s s₁ : State} {m : MethodId} {args : Array Value} {below : List Frame} {meth : Method} {c : Code} {hh : List (Nat × Nat × Nat × Nat)}
    (B : BodyLoose p l y S cc maxL ret e s m args below meth c s₁) (h : (Cond.codeWith y bytes maxL' ret' hh).before args s = true) : c.exceptionTable.toList = tableOf hh := by
  obtain ⟨m9, meth9, c9, hn9, h1, h2, -, -, h6, -⟩ := Cond.codeWith_spec h
  cases Option.some.inj (hn9.symm.trans B.named)
  cases Option.some.inj (h1.symm.trans B.method)
  cases Option.some.inj (h2.symm.trans (Stand.of_body B).code)
  rw [← h6, table_eq]
end Bodies
end VXA
/-! ===== END ===== -/
/-! ===== BEGIN a static call of a method with an exception table ===== -/
section VXS
variable {p : Program} {l : Launch} {e : Env} {R : Room} {s : State} {m : MethodId} {args : Array Value} {below : List Frame} {meth : Method} {c : Code} {T : State} {H : Heap} {locs : List Loc} {cells slots : Nat}
abbrev vx_CSW (R : Room) (s : State) (args : Array Value) (own : String) (index : Nat) (y : MethodName) (bytes : ByteArray) (maxL : Nat) (ret : Option FieldType) (hh : List (Nat × Nat × Nat × Nat)) (ws : List Cond) (rm : Room) (mc ms n : Nat) : Prop :=
  (rm.cells = mc ∧ rm.slots = ms ∧ rm.frames + 1 ≤ R.frames ∧ 8 + (maxL + 11) + rm.locals ≤ R.locals ∧ (∀ w ∈ ws, ∀ (a' : Array Value) (U : State), s.WarmedH U.vm → w.before a' U = true) ∧ Cond.codeWith y bytes maxL ret hh ∈ ws) ∧
  (Cond.codeWith y bytes maxL ret hh).before args s = true ∧ (Cond.initialized y.cls).before args s = true ∧ (y.cls ≠ "java/lang/invoke/MethodHandle" ∧ y.cls ≠ "java/lang/invoke/VarHandle") ∧
  (∀ sig, parseMethodDescriptor y.desc = some sig → n = sig.parameters.length) ∧ (Cond.methodLink own index y).before args s = true ∧ (Cond.static y).before args s = true
theorem vx_cwSW {own : String} {index maxL mc ms : Nat} {y : MethodName} {bytes : ByteArray} {ret : Option FieldType} {hh : List (Nat × Nat × Nat × Nat)} {Ts ws ws' : List Cond} {rm : Room} (n : Nat) (ht : ∀ w ∈ Ts, w.before args s = true) (hT : GoodIn Ts (va_wsS own index y ws)) (hw : ws = Cond.codeWith y bytes maxL ret hh :: ws') (hrc : rm.cells = mc) (hrs : rm.slots = ms)
    (hd : y.cls ≠ "java/lang/invoke/MethodHandle" ∧ y.cls ≠ "java/lang/invoke/VarHandle" ∧ (parseMethodDescriptor y.desc).map (fun d => d.parameters.length) = some n) (hR : rm.frames + 1 ≤ R.frames ∧ 8 + (maxL + 11) + rm.locals ≤ R.locals) :
    vx_CSW R s args own index y bytes maxL ret hh ws rm mc ms n := by
  have ok : ∀ w ∈ va_wsS own index y ws, w.before args s = true := fun w h => ht w (hT w h).1
  have hG : GoodIn Ts ws := fun w h => hT w (by unfold va_wsS; exact List.mem_append_right _ h)
  have hc : Cond.codeWith y bytes maxL ret hh ∈ ws := by rw [hw]; exact List.mem_cons_self
  refine ⟨⟨hrc, hrs, hR.1, hR.2, pay_in ht hG, hc⟩, ht _ (hG _ hc).1, ok _ (by simp [va_wsS]), ⟨hd.1, hd.2.1⟩, fun sig h => ?_, ok _ (by simp [va_wsS]), ok _ (by simp [va_wsS])⟩
  have h2 := hd.2.2
  rw [h] at h2
  exact (Option.some.inj h2).symm
theorem vx_callSW (X : Stand p l e R s m args below meth c T locs cells slots) (hexec : p.tables.exec = Jvm.exec) {own : String} {index : Nat} {y : MethodName} {bytes : ByteArray} {maxL : Nat} {ret : Option FieldType} {hh : List (Nat × Nat × Nat × Nat)}
    (hown : s.vm.findClass own = some m.cls) (hlink : (Cond.methodLink own index y).before args s = true) (hstat : (Cond.static y).before args s = true) (hinit : (Cond.initialized y.cls).before args s = true)
    (hcode : (Cond.codeWith y bytes maxL ret hh).before args s = true) (hy : y.cls ≠ "java/lang/invoke/MethodHandle" ∧ y.cls ≠ "java/lang/invoke/VarHandle")
    {W9 : Nat} {Pre : Pt → Array Value → Prop} {Post : Pt → Array Value → Option Value → Pt → Prop} (hK : Back l R p e below s args y 3 W9 Pre Post)
    {g : JFrame} (hg : g.method = m) (hsize : g.locals.size = c.maxLocals) {argsL rest : List Value} (hlen : ∀ sig, parseMethodDescriptor y.desc = some sig → argsL.length = sig.parameters.length)
    (hstack : g.stack = argsL.reverse ++ rest) (hW : 2 * g.monitorRoom + (rest.map fun v => v.category).sum ≤ W9) (hdg : decode c.code g.pc = .ok (.invokestatic index, 3))
    (hpre : ∀ vm₁, s.WarmedH vm₁ → Pre ⟨T.setVm vm₁, locs, cells, slots⟩ argsL.toArray) :
    ∃ (v : Option Value) (vm₁ : Vm) (B : Pt), s.WarmedH vm₁ ∧ Stand p l e R s m args below meth c B.U B.locs B.cells B.slots ∧ Post ⟨T.setVm vm₁, locs, cells, slots⟩ argsL.toArray v B ∧
      ∀ target, Steps p.tables e below (B.U.setTop { g with pc := g.pc + 3, stack := v.toList ++ rest }) target → Steps p.tables e below (T.setTop g) target := by
  obtain ⟨mk, methM, cM, hnamed, hmethM, -, -, -, -, -, -, hsigM⟩ := Cond.codeWith_spec hcode
  have hstatic : methM.isStatic = true := Cond.static_spec hnamed hmethM hstat
  obtain ⟨kP, hkP, -⟩ := className_of_methodNamed hnamed
  have hinitP : kP.init = .initialized := Cond.initialized_spec (findClass_of_methodNamed hnamed) hkP hinit
  obtain ⟨vm₁, X₁, hstep₁⟩ := X.invokestatic hexec hown hlink hnamed hmethM hstatic hkP hinitP hy (g := g) hg (argsL := argsL) (rest := rest) (hlen _ hsigM) hstack hdg
  obtain ⟨v, B, X', hpost, hsteps⟩ := hK m meth c ⟨T.setVm vm₁, locs, cells, slots⟩ { g with stack := rest } (.invokestatic index) mk argsL.toArray X₁ hg hsize hdg hW (X₁.named hnamed) (hpre vm₁ X₁.warmed)
  exact ⟨v, vm₁, B, X₁.warmed, X', hpost, fun target h => hstep₁ _ fun acts => by rw [doInvoke_state]; exact hsteps.trans h⟩
theorem vx_runSW {y : MethodName} {bytes cc : ByteArray} {maxL nL mc ms n index : Nat} {ret : Option FieldType} {hh : List (Nat × Nat × Nat × Nat)} {ws : List Cond} {rm : Room} {Pc : Array Value → State → Prop} {Qc : Array Value → State → Outcome → State → Prop} {free : Addr → Prop} {Ts : List Cond} {own : String} {As rest : List Value} {g : JFrame}
    (S : CallFix p m c cc nL s args Ts own) (hM : Met l y ws rm Pc Qc mc ms free) (cw : vx_CSW R s args own index y bytes maxL ret hh ws rm mc ms n) (hp : PreS s H Pc As)
    (hg : g.method = m) (hn : As.length = n) (hsize : g.locals.size = nL) (hstack : g.stack = As.reverse ++ rest) (hW : 2 * g.monitorRoom + (rest.map fun v => v.category).sum ≤ 8) (hdg : decode cc g.pc = .ok (.invokestatic index, 3)) (hf : cells + mc ≤ R.cells ∧ slots + ms ≤ R.slots) :
    va_Run p l e R s m args below meth c H locs cells slots mc ms g rest (Qc As.toArray) (free) := by
  obtain ⟨⟨hrc, hrs, hfr, hlo, hws, hcw⟩, hcode, hini, hy, hlen, hl, hstt⟩ := cw
  have hK : Back l R p e below s args y 3 8 (PreOf R mc ms Pc) (PostOf Qc mc ms free) := va_backW (hh := hh) (bytes := bytes) (maxL := maxL) (ret := ret) hM hp.1 hrc hrs hfr hlo hws hcw (fun a' U hW => word_at hW (Or.inl (by first | rfl | simp [Cond.onTables, Cond.keeps, Cond.steady])) hini)
  obtain ⟨hx, hb, hml, ho, -⟩ := S
  intro T hT X
  obtain ⟨v, vm₁, ⟨U', l2, c2, s2⟩, hW₁, X', ⟨g', mk, t, L, e1, e2, hq, h1, hL, h2, h3⟩, st⟩ := vx_callSW X hx (hh := hh) (bytes := bytes) (maxL := maxL) (ret := ret) ho hl hstt hini hcode hy hK hg (hsize.trans hml.symm) (argsL := As) (rest := rest) (fun sig h => hn.trans (hlen sig h)) hstack hW (by rw [hb]; exact hdg)
    (fun vm₁ hW₁ => ⟨hf.1, hf.2, hp.2 (T.setVm vm₁) hT hW₁⟩)
  dsimp only [Pt.U, Pt.locs, Pt.cells, Pt.slots] at X' e1 e2 h1 h2 h3 st
  subst h1; subst h2; subst h3
  exact ⟨v, (T.setVm vm₁).calling g' mk As.toArray, t, U', L, hT, X', hL, e1, e2, hq, st⟩
/-- not caught here, past rows that name other classes: it goes on to the caller -/
theorem vx_outP {p : Program} {l : Launch} {e : Env} {R : Room} {s : State} {m : MethodId} {args : Array Value} {below : List Frame} {meth : Method} {c : Code} {H : Heap} {locs : List Loc} {cells slots : Nat} {free : Addr → Prop} {ls : Array Slot} {rest : List Value} {Qc : Array Value → State → Outcome → State → Prop} {XC : String → State → State → Prop}
    {pc : Nat} {own E : String} {ce : Cell} {q : Addr} {mc ms : Nat} (hown : s.vm.findClass own = some m.cls) (hlocks : meth.locks = false)
    (hpass : ∀ z ∈ c.exceptionTable.toList, covers z pc = false ∨ (z.catchType ≠ 0 ∧ ∃ nm : String, (Cond.classLink own z.catchType nm).before args s = true ∧ va_Nc E nm s)) (hcell : H[q]? = some ce) (hv : ce.vm = .none) (hcl : s.vm.findClass E = some ce.cls)
    (hx : ∀ t : State, t.heap = H → s.vm.Alike t.vm → XC E s t) (hf : ∀ z ∈ locs, free z.base) (hc : cells ≤ mc) (hs : slots ≤ ms) :
    vx_W p l e R s m args below meth c H locs cells slots (vx_MQ below Qc XC args s mc ms free) (F0 m pc ls rest) q := by
  intro T hT X
  have hpl : e.platform.magicAccessors = ({} : Platform).magicAccessors := by rw [X.admits.platform]
  obtain ⟨vm', hW', X', st⟩ := X.outThrough hlocks q (g := F0 m pc ls rest) rfl rfl rfl (cell := ce) (by rw [hT]; exact hcell) (by rw [hv]; rfl)
    (by obtain ⟨k9, h9, -⟩ := Vm.findClass_spec hcl; exact ⟨k9, h9⟩) (fun z hz => by
      rcases hpass z hz with h | ⟨hz0, nm, hl1, hn1⟩
      · exact Or.inl h
      · obtain ⟨c6, hc6, hcl6⟩ := Cond.classLink_spec hown hl1 e.platform hpl
        obtain ⟨a8, b8, h1, h2, h3⟩ := hn1
        cases Option.some.inj (h1.symm.trans hcl)
        cases Option.some.inj (h2.symm.trans hc6)
        exact Or.inr ⟨hz0, _, hcl6, h3⟩)
  obtain ⟨g₀, hfr⟩ := X'.frames_eq
  have hcell9 : ((T.setVm vm').setFrames (.throwing q :: below)).heap[q]? = some ce := by
    show T.heap[q]? = some ce
    rw [hT]; exact hcell
  have hend : Ended ((T.setVm vm').setFrames (.throwing q :: below)) below (.threw q) := State.frames_setFrames _ (State.cur_lt_of_frames hfr)
  refine ⟨(T.setVm vm').setFrames (.throwing q :: below), ?_, .threw q, X'.here.running, hend, Or.inr ⟨q, rfl, E, ce, locs, hx _ hT (X'.ends _).1.alike, hcell9, hv, hcl, (X'.ends _).1, (X'.ends _).2.mono hc hs, hf⟩⟩
  rw [X.pushThrowing_eq]
  exact st
/-- a thing of a world lies in the heap -/
theorem vx_lt {D : va_G} {cl : List vw_C} {ws : va_W} {H1 : Heap} (h : va_P D cl ws H1) {k : Nat} {q : Nat × va_E} (hk : ws[k]? = some q) : q.1 < H1.size := (h k q hk).lt
end VXS
/-! ===== END ===== -/
/-! ===== BEGIN methods with a table of their own: called by a name, returning or throwing ===== -/
section VXH
/-! vx_backW, vx_callVX, vx_callSX, vx_callVW, vx_runVW, vx_runVX, vx_runSX, vx_ofWH follow the same proofs as their sisters above (Free/Laws.lean, Shelf42/LK1.lean); vx_outP calls Shelf42/NT130.lean (outThrough). -/
section
variable {l : Launch} {R : Room} {p : Program} {e : Env} {below : List Frame} {s : State} {sargs : Array Value} {y : MethodName} {len W9 : Nat}
theorem vx_backW {ws : List Cond} {rm : Room} {Pc : Array Value → State → Prop} {Qc : Array Value → State → Outcome → State → Prop} {XC : String → State → State → Prop} {mc ms : Nat} {free : Addr → Prop} {bytes : ByteArray} {maxL : Nat} {ret : Option FieldType} {hh : List (Nat × Nat × Nat × Nat)}
    (hM : vx_Met l y ws rm Pc Qc XC mc ms free) (hblind : FrameBlind Pc) (hrc : rm.cells = mc) (hrs : rm.slots = ms)
    (hframes : rm.frames + 1 ≤ R.frames) (hlocals : W9 + (maxL + 11) + rm.locals ≤ R.locals)
    (hws : ∀ w ∈ ws, ∀ a' U, s.WarmedH U.vm → w.before a' U = true) (hcode : Cond.codeWith y bytes maxL ret hh ∈ ws) (hinit : ∀ a' U, s.WarmedH U.vm → (Cond.initialized y.cls).before a' U = true) :
    vx_Back l R p e below s sargs y len W9 (PreOf R mc ms Pc) (PostOf Qc mc ms free) (vx_Post XC mc ms free) := by
  intro m meth c A g ig mk a X hg hsize hdg hW hn hp
  have h1 : (headSpec ws rm).pre.before a A.U = true := atoms_intro fun w hw => hws w hw _ _ X.warmed
  have h2 : (Cond.codeWith y bytes maxL ret hh).before a A.U = true := hws _ hcode _ _ X.warmed
  have h3 : (Cond.initialized y.cls).before a A.U = true := hinit _ _ X.warmed
  have h4 : A.cells + (headSpec ws rm).room.cells ≤ R.cells := by rw [show (headSpec ws rm).room.cells = mc from hrc]; exact hp.1
  have h5 : A.slots + (headSpec ws rm).room.slots ≤ R.slots := by rw [show (headSpec ws rm).room.slots = ms from hrs]; exact hp.2.1
  have hPc : Pc a (A.U.calling g mk a) := hblind _ _ _ _ hp.2.2
  obtain ⟨U, Ls, c0, s0⟩ := A
  dsimp only [Pt.U, Pt.locs, Pt.cells, Pt.slots] at h1 h2 h3 h4 h5 X hn hPc ⊢
  obtain ⟨m9, methY, cY, hn9, hmY, hcY, -, hlY, -⟩ := Cond.codeWith_spec h2
  cases Option.some.inj (hn9.symm.trans hn)
  obtain ⟨kY, hkY, -⟩ := className_of_methodNamed hn
  have hinitY : kY.init = .initialized := Cond.initialized_spec (findClass_of_methodNamed hn) hkY h3
  have h : At U g.method c below := by rw [hg]; exact X.here
  have hlocals9 : W9 + (maxL + 11) + (headSpec ws rm).room.locals ≤ R.locals := hlocals
  have happ : (headSpec ws rm).appliesLoose y e.platform (U.calling g mk a) = true :=
    Spec.appliesLoose_calling (g := g) h hdg hn hkY hinitY
      (X.room_calling (g := g) (R' := (headSpec ws rm).room) hsize hmY hcY hframes (by rw [hlY]; omega) h4 h5) h1
  obtain ⟨mid, hmid⟩ := h.above
  have hfr : (U.setTop g).frames = (.java g :: mid) ++ below := by rw [State.frames_setTop' g h.top, hmid]; rfl
  obtain ⟨o, s₂, hsteps, -, hend, hq⟩ := Steps.callFree hM p X.admits X.cas X.clock (acts := []) hfr happ hPc trivial
  have hq' : vx_Q Qc XC mc ms free a (U.calling g mk a) o s₂ := hq
  rw [State.frames_setTop' g h.top] at hend
  obtain ⟨g₀, hg0⟩ := Option.isSome_iff_exists.mp h.top
  obtain ⟨r, hr⟩ := State.topJava?_eq_some.mp hg0
  have hr' : (({ U with heap := s₂.heap, slotsUsed := s₂.slotsUsed } : State).setVm s₂.vm).frames = .java g₀ :: r := hr
  rcases hq' with ⟨hqc, L, hfe, hL⟩ | ⟨q, rfl, E, ce, L, hx, hce, hcv, hcl, hW₂, hsm, hL⟩
  · obtain ⟨⟨v, rfl⟩, hW₂, e2, q2, q3, q4, q5, q6⟩ := id hfe
    have e3 : s₂ = ({ (U.calling g mk a).setFrames s₂.frames with heap := s₂.heap, slotsUsed := s₂.slotsUsed } : State).setVm s₂.vm := by
      have : s₂ = ({ s₂ with vm := (U.calling g mk a).vm } : State).setVm s₂.vm := rfl
      rw [e2] at this
      exact this
    obtain ⟨c₂, i₂, len₂, hc₂, hd₂, hf₂⟩ := hend
    have hW' : U.WarmedH s₂.vm := hW₂
    have hcc : c₂ = c := by
      have h1 : s₂.code? g.method = U.code? g.method := by
        rw [State.code?_eq, State.code?_eq, hW'.alike.method?]
      exact Option.some.inj (hc₂.symm.trans (h1.trans h.code))
    subst hcc
    have hlen : len₂ = len := by rw [hdg] at hd₂; cases hd₂; rfl
    subst hlen
    have hs₂ : s₂ = (({ U with heap := s₂.heap, slotsUsed := s₂.slotsUsed } : State).setVm s₂.vm).setTop { g with pc := g.pc + len₂, stack := v.toList ++ g.stack } := by
      refine e3.trans ?_
      rw [hf₂, State.calling_eq h.top, State.setFrames_setFrames, State.setTop_of_frames _ hr', hr]
      rfl
    have hsame : U.sameButNew ({ U with heap := s₂.heap, slotsUsed := s₂.slotsUsed } : State) L mc ms := by
      refine ⟨?_, q2, q3, q4, q5, q6⟩
      obtain ⟨t, ht, -⟩ := State.frames_cons hr
      show ({ U with heap := s₂.heap, slotsUsed := s₂.slotsUsed } : State) = { U.setFrames U.frames with heap := s₂.heap, slotsUsed := s₂.slotsUsed }
      rw [State.setFrames_self ht]
    subst hg
    refine Or.inl ⟨v, ⟨(({ U with heap := s₂.heap, slotsUsed := s₂.slotsUsed } : State).setVm s₂.vm), Ls ++ L, c0 + mc, s0 + ms⟩,
      ⟨X.admits, X.cas, X.clock, X.frames, X.room, X.hears, X.method, X.code, (X.here.setHeapUsed s₂.heap s₂.slotsUsed).setVm hW'.alike, X.tail, State.WarmedH.trans X.warmed hW', X.limits, X.bytes, X.same.trans (hsame.setVm s.vm)⟩,
      ⟨g, mk, s₂, L, rfl, rfl, hqc, rfl, hL, rfl, rfl⟩, ?_⟩
    show Steps p.tables e below _ ((({ U with heap := s₂.heap, slotsUsed := s₂.slotsUsed } : State).setVm s₂.vm).setTop { g with pc := g.pc + len₂, stack := v.toList ++ g.stack })
    rw [← hs₂]
    exact hsteps
  · obtain ⟨e2, q2, q3, q4, q5, q6⟩ := id hsm
    have e3 : s₂ = ({ (U.calling g mk a).setFrames s₂.frames with heap := s₂.heap, slotsUsed := s₂.slotsUsed } : State).setVm s₂.vm := by
      have : s₂ = ({ s₂ with vm := (U.calling g mk a).vm } : State).setVm s₂.vm := rfl
      rw [e2] at this
      exact this
    have hf₂ : s₂.frames = .throwing q :: .java g :: U.frames.tail := hend
    have hW' : U.WarmedH s₂.vm := hW₂
    have hs₂ : s₂ = ((({ U with heap := s₂.heap, slotsUsed := s₂.slotsUsed } : State).setVm s₂.vm).setTop g).pushFrame (.throwing q) := by
      refine e3.trans ?_
      rw [hf₂, State.calling_eq h.top, State.setFrames_setFrames, State.pushFrame, State.frames_setTop _ hr', State.setTop_of_frames _ hr', State.setFrames_setFrames, hr]
      rfl
    have hsame : U.sameButNew ({ U with heap := s₂.heap, slotsUsed := s₂.slotsUsed } : State) L mc ms := by
      refine ⟨?_, q2, q3, q4, q5, q6⟩
      obtain ⟨t, ht, -⟩ := State.frames_cons hr
      show ({ U with heap := s₂.heap, slotsUsed := s₂.slotsUsed } : State) = { U.setFrames U.frames with heap := s₂.heap, slotsUsed := s₂.slotsUsed }
      rw [State.setFrames_self ht]
    subst hg
    refine Or.inr ⟨q, ⟨(({ U with heap := s₂.heap, slotsUsed := s₂.slotsUsed } : State).setVm s₂.vm), Ls ++ L, c0 + mc, s0 + ms⟩,
      ⟨X.admits, X.cas, X.clock, X.frames, X.room, X.hears, X.method, X.code, (X.here.setHeapUsed s₂.heap s₂.slotsUsed).setVm hW'.alike, X.tail, State.WarmedH.trans X.warmed hW', X.limits, X.bytes, X.same.trans (hsame.setVm s.vm)⟩,
      ⟨g, mk, s₂, L, E, ce, rfl, rfl, hx, hce, hcv, hcl, rfl, hL, rfl, rfl⟩, ?_⟩
    show Steps p.tables e below _ (((({ U with heap := s₂.heap, slotsUsed := s₂.slotsUsed } : State).setVm s₂.vm).setTop g).pushFrame (.throwing q))
    rw [← hs₂]
    exact hsteps
end
variable {p : Program} {l : Launch} {e : Env} {R : Room} {s : State} {m : MethodId} {args : Array Value} {below : List Frame} {meth : Method} {c : Code} {T : State} {H : Heap} {locs : List Loc} {cells slots : Nat}
theorem vx_callVX (X : Stand p l e R s m args below meth c T locs cells slots) (hexec : p.tables.exec = Jvm.exec) {own C : String} {index : Nat} {y : MethodName} {bytes : ByteArray} {maxL : Nat} {ret : Option FieldType} {hh : List (Nat × Nat × Nat × Nat)}
    (hown : s.vm.findClass own = some m.cls) (hlink : (Cond.methodLink own index y).before args s = true) (hinst : (Cond.instanceMethod y).before args s = true) (hsel : (Cond.selects C y y).before args s = true)
    (hcode : (Cond.codeWith y bytes maxL ret hh).before args s = true) (hy : y.cls ≠ "java/lang/invoke/MethodHandle" ∧ y.cls ≠ "java/lang/invoke/VarHandle")
    {W9 : Nat} {Pre : Pt → Array Value → Prop} {Post : Pt → Array Value → Option Value → Pt → Prop} {PostX : Pt → Array Value → Addr → Pt → Prop} (hK : vx_Back l R p e below s args y 3 W9 Pre Post PostX)
    {b : Addr} {cellB : Cell} (hcell : T.heap[b]? = some cellB) (hobj : cellB.vm.isStatics = false) (hcls : s.vm.findClass C = some cellB.cls)
    {g : JFrame} (hg : g.method = m) (hsize : g.locals.size = c.maxLocals) {argsL rest : List Value} (hlen : ∀ sig, parseMethodDescriptor y.desc = some sig → argsL.length = sig.parameters.length)
    (hstack : g.stack = argsL.reverse ++ .ref b :: rest) (hW : 2 * g.monitorRoom + (rest.map fun v => v.category).sum ≤ W9) (hdg : decode c.code g.pc = .ok (.invokevirtual index, 3))
    (hpre : ∀ vm₁, s.WarmedH vm₁ → Pre ⟨T.setVm vm₁, locs, cells, slots⟩ (Value.ref b :: argsL).toArray) :
    (∃ (v : Option Value) (vm₁ : Vm) (B : Pt), s.WarmedH vm₁ ∧ Stand p l e R s m args below meth c B.U B.locs B.cells B.slots ∧ Post ⟨T.setVm vm₁, locs, cells, slots⟩ (Value.ref b :: argsL).toArray v B ∧
      ∀ target, Steps p.tables e below (B.U.setTop { g with pc := g.pc + 3, stack := v.toList ++ rest }) target → Steps p.tables e below (T.setTop g) target) ∨
    (∃ (q : Addr) (vm₁ : Vm) (B : Pt), s.WarmedH vm₁ ∧ Stand p l e R s m args below meth c B.U B.locs B.cells B.slots ∧ PostX ⟨T.setVm vm₁, locs, cells, slots⟩ (Value.ref b :: argsL).toArray q B ∧
      Steps p.tables e below (T.setTop g) ((B.U.setTop { g with stack := rest }).pushFrame (.throwing q))) := by
  obtain ⟨mk, methM, hnamed, hmethM, hstM, habM⟩ := Cond.instanceMethod_spec hinst
  obtain ⟨m8, methM', cM, hn8, hmethM', -, -, -, -, -, -, hsigM⟩ := Cond.codeWith_spec hcode
  cases Option.some.inj (hn8.symm.trans hnamed)
  cases hmethM.symm.trans hmethM'
  obtain ⟨c2, r2, m2, q1, q2, q3, q4, kP, hkP, hkPi⟩ := Cond.selects_spec hsel
  cases hcls.symm.trans q1
  cases (State.methodFound?_of_named hnamed hy).symm.trans q2
  cases hnamed.symm.trans q3
  have hselP : selectMethod e.platform s.vm cellB.cls mk = .method mk := by rw [Launch.admits_selectMethod X.admits]; exact q4
  obtain ⟨vm₁, X₁, hstep₁⟩ := X.invokevirtual hexec hown hlink hnamed hmethM hstM hkP hkPi hy (a := b) (cell := cellB) hcell
    (fun z h => by rw [h] at hobj; cases hobj) hselP hmethM habM hkP hkPi (g := g) hg (argsL := argsL) (rest := rest) (hlen _ hsigM) hstack hdg
  rcases hK m meth c ⟨T.setVm vm₁, locs, cells, slots⟩ { g with stack := rest } (.invokevirtual index) mk (Value.ref b :: argsL).toArray X₁ hg hsize hdg hW (X₁.named hnamed) (hpre vm₁ X₁.warmed) with ⟨v, B, X', hpost, hsteps⟩ | ⟨q, B, X', hpost, hsteps⟩
  · exact Or.inl ⟨v, vm₁, B, X₁.warmed, X', hpost, fun target h => hstep₁ _ fun acts => by rw [doInvoke_state]; exact hsteps.trans h⟩
  · exact Or.inr ⟨q, vm₁, B, X₁.warmed, X', hpost, hstep₁ _ fun acts => by rw [doInvoke_state]; exact hsteps⟩
theorem vx_callSX (X : Stand p l e R s m args below meth c T locs cells slots) (hexec : p.tables.exec = Jvm.exec) {own : String} {index : Nat} {y : MethodName} {bytes : ByteArray} {maxL : Nat} {ret : Option FieldType} {hh : List (Nat × Nat × Nat × Nat)}
    (hown : s.vm.findClass own = some m.cls) (hlink : (Cond.methodLink own index y).before args s = true) (hstat : (Cond.static y).before args s = true) (hinit : (Cond.initialized y.cls).before args s = true)
    (hcode : (Cond.codeWith y bytes maxL ret hh).before args s = true) (hy : y.cls ≠ "java/lang/invoke/MethodHandle" ∧ y.cls ≠ "java/lang/invoke/VarHandle")
    {W9 : Nat} {Pre : Pt → Array Value → Prop} {Post : Pt → Array Value → Option Value → Pt → Prop} {PostX : Pt → Array Value → Addr → Pt → Prop} (hK : vx_Back l R p e below s args y 3 W9 Pre Post PostX)
    {g : JFrame} (hg : g.method = m) (hsize : g.locals.size = c.maxLocals) {argsL rest : List Value} (hlen : ∀ sig, parseMethodDescriptor y.desc = some sig → argsL.length = sig.parameters.length)
    (hstack : g.stack = argsL.reverse ++ rest) (hW : 2 * g.monitorRoom + (rest.map fun v => v.category).sum ≤ W9) (hdg : decode c.code g.pc = .ok (.invokestatic index, 3))
    (hpre : ∀ vm₁, s.WarmedH vm₁ → Pre ⟨T.setVm vm₁, locs, cells, slots⟩ argsL.toArray) :
    (∃ (v : Option Value) (vm₁ : Vm) (B : Pt), s.WarmedH vm₁ ∧ Stand p l e R s m args below meth c B.U B.locs B.cells B.slots ∧ Post ⟨T.setVm vm₁, locs, cells, slots⟩ argsL.toArray v B ∧
      ∀ target, Steps p.tables e below (B.U.setTop { g with pc := g.pc + 3, stack := v.toList ++ rest }) target → Steps p.tables e below (T.setTop g) target) ∨
    (∃ (q : Addr) (vm₁ : Vm) (B : Pt), s.WarmedH vm₁ ∧ Stand p l e R s m args below meth c B.U B.locs B.cells B.slots ∧ PostX ⟨T.setVm vm₁, locs, cells, slots⟩ argsL.toArray q B ∧
      Steps p.tables e below (T.setTop g) ((B.U.setTop { g with stack := rest }).pushFrame (.throwing q))) := by
  obtain ⟨mk, methM, cM, hnamed, hmethM, -, -, -, -, -, -, hsigM⟩ := Cond.codeWith_spec hcode
  have hstatic : methM.isStatic = true := Cond.static_spec hnamed hmethM hstat
  obtain ⟨kP, hkP, -⟩ := className_of_methodNamed hnamed
  have hinitP : kP.init = .initialized := Cond.initialized_spec (findClass_of_methodNamed hnamed) hkP hinit
  obtain ⟨vm₁, X₁, hstep₁⟩ := X.invokestatic hexec hown hlink hnamed hmethM hstatic hkP hinitP hy (g := g) hg (argsL := argsL) (rest := rest) (hlen _ hsigM) hstack hdg
  rcases hK m meth c ⟨T.setVm vm₁, locs, cells, slots⟩ { g with stack := rest } (.invokestatic index) mk argsL.toArray X₁ hg hsize hdg hW (X₁.named hnamed) (hpre vm₁ X₁.warmed) with ⟨v, B, X', hpost, hsteps⟩ | ⟨q, B, X', hpost, hsteps⟩
  · exact Or.inl ⟨v, vm₁, B, X₁.warmed, X', hpost, fun target h => hstep₁ _ fun acts => by rw [doInvoke_state]; exact hsteps.trans h⟩
  · exact Or.inr ⟨q, vm₁, B, X₁.warmed, X', hpost, hstep₁ _ fun acts => by rw [doInvoke_state]; exact hsteps⟩
theorem vx_callVW (X : Stand p l e R s m args below meth c T locs cells slots) (hexec : p.tables.exec = Jvm.exec) {own C : String} {index : Nat} {y : MethodName} {bytes : ByteArray} {maxL : Nat} {ret : Option FieldType} {hh : List (Nat × Nat × Nat × Nat)}
    (hown : s.vm.findClass own = some m.cls) (hlink : (Cond.methodLink own index y).before args s = true) (hinst : (Cond.instanceMethod y).before args s = true) (hsel : (Cond.selects C y y).before args s = true)
    (hcode : (Cond.codeWith y bytes maxL ret hh).before args s = true) (hy : y.cls ≠ "java/lang/invoke/MethodHandle" ∧ y.cls ≠ "java/lang/invoke/VarHandle")
    {W9 : Nat} {Pre : Pt → Array Value → Prop} {Post : Pt → Array Value → Option Value → Pt → Prop} (hK : Back l R p e below s args y 3 W9 Pre Post)
    {b : Addr} {cellB : Cell} (hcell : T.heap[b]? = some cellB) (hobj : cellB.vm.isStatics = false) (hcls : s.vm.findClass C = some cellB.cls)
    {g : JFrame} (hg : g.method = m) (hsize : g.locals.size = c.maxLocals) {argsL rest : List Value} (hlen : ∀ sig, parseMethodDescriptor y.desc = some sig → argsL.length = sig.parameters.length)
    (hstack : g.stack = argsL.reverse ++ .ref b :: rest) (hW : 2 * g.monitorRoom + (rest.map fun v => v.category).sum ≤ W9) (hdg : decode c.code g.pc = .ok (.invokevirtual index, 3))
    (hpre : ∀ vm₁, s.WarmedH vm₁ → Pre ⟨T.setVm vm₁, locs, cells, slots⟩ (Value.ref b :: argsL).toArray) :
    ∃ (v : Option Value) (vm₁ : Vm) (B : Pt), s.WarmedH vm₁ ∧ Stand p l e R s m args below meth c B.U B.locs B.cells B.slots ∧ Post ⟨T.setVm vm₁, locs, cells, slots⟩ (Value.ref b :: argsL).toArray v B ∧
      ∀ target, Steps p.tables e below (B.U.setTop { g with pc := g.pc + 3, stack := v.toList ++ rest }) target → Steps p.tables e below (T.setTop g) target := by
  obtain ⟨mk, methM, hnamed, hmethM, hstM, habM⟩ := Cond.instanceMethod_spec hinst
  obtain ⟨m8, methM', cM, hn8, hmethM', -, -, -, -, -, -, hsigM⟩ := Cond.codeWith_spec hcode
  cases Option.some.inj (hn8.symm.trans hnamed)
  cases hmethM.symm.trans hmethM'
  obtain ⟨c2, r2, m2, q1, q2, q3, q4, kP, hkP, hkPi⟩ := Cond.selects_spec hsel
  cases hcls.symm.trans q1
  cases (State.methodFound?_of_named hnamed hy).symm.trans q2
  cases hnamed.symm.trans q3
  have hselP : selectMethod e.platform s.vm cellB.cls mk = .method mk := by rw [Launch.admits_selectMethod X.admits]; exact q4
  obtain ⟨vm₁, X₁, hstep₁⟩ := X.invokevirtual hexec hown hlink hnamed hmethM hstM hkP hkPi hy (a := b) (cell := cellB) hcell
    (fun z h => by rw [h] at hobj; cases hobj) hselP hmethM habM hkP hkPi (g := g) hg (argsL := argsL) (rest := rest) (hlen _ hsigM) hstack hdg
  obtain ⟨v, B, X', hpost, hsteps⟩ := hK m meth c ⟨T.setVm vm₁, locs, cells, slots⟩ { g with stack := rest } (.invokevirtual index) mk (Value.ref b :: argsL).toArray X₁ hg hsize hdg hW (X₁.named hnamed) (hpre vm₁ X₁.warmed)
  exact ⟨v, vm₁, B, X₁.warmed, X', hpost, fun target h => hstep₁ _ fun acts => by rw [doInvoke_state]; exact hsteps.trans h⟩
abbrev vx_CVW (R : Room) (s : State) (args : Array Value) (own C : String) (index : Nat) (y : MethodName) (bytes : ByteArray) (maxL : Nat) (ret : Option FieldType) (hh : List (Nat × Nat × Nat × Nat)) (ws : List Cond) (rm : Room) (mc ms n : Nat) : Prop :=
  (rm.cells = mc ∧ rm.slots = ms ∧ rm.frames + 1 ≤ R.frames ∧ 8 + (maxL + 11) + rm.locals ≤ R.locals ∧ (∀ w ∈ ws, ∀ (a' : Array Value) (U : State), s.WarmedH U.vm → w.before a' U = true) ∧ Cond.codeWith y bytes maxL ret hh ∈ ws) ∧
  (Cond.codeWith y bytes maxL ret hh).before args s = true ∧ (Cond.initialized y.cls).before args s = true ∧ (y.cls ≠ "java/lang/invoke/MethodHandle" ∧ y.cls ≠ "java/lang/invoke/VarHandle") ∧
  (∀ sig, parseMethodDescriptor y.desc = some sig → n = sig.parameters.length) ∧ (Cond.methodLink own index y).before args s = true ∧ (Cond.instanceMethod y).before args s = true ∧ (Cond.selects C y y).before args s = true
theorem vx_cwVW {own C : String} {index maxL mc ms : Nat} {y : MethodName} {bytes : ByteArray} {ret : Option FieldType} {hh : List (Nat × Nat × Nat × Nat)} {Ts ws ws' : List Cond} {rm : Room} (n : Nat) (ht : ∀ w ∈ Ts, w.before args s = true) (hT : GoodIn Ts (wsV own index C y ws)) (hw : ws = Cond.codeWith y bytes maxL ret hh :: ws') (hrc : rm.cells = mc) (hrs : rm.slots = ms)
    (hd : y.cls = C ∧ y.cls ≠ "java/lang/invoke/MethodHandle" ∧ y.cls ≠ "java/lang/invoke/VarHandle" ∧ (parseMethodDescriptor y.desc).map (fun d => d.parameters.length) = some n) (hR : rm.frames + 1 ≤ R.frames ∧ 8 + (maxL + 11) + rm.locals ≤ R.locals) :
    vx_CVW R s args own C index y bytes maxL ret hh ws rm mc ms n := by
  obtain ⟨hC, hd⟩ := hd
  subst hC
  have ok : ∀ w ∈ wsV own index y.cls y ws, w.before args s = true := fun w h => ht w (hT w h).1
  have hG : GoodIn Ts ws := fun w h => hT w (by unfold wsV; exact List.mem_append_right _ h)
  have hc : Cond.codeWith y bytes maxL ret hh ∈ ws := by rw [hw]; exact List.mem_cons_self
  refine ⟨⟨hrc, hrs, hR.1, hR.2, pay_in ht hG, hc⟩, ht _ (hG _ hc).1, ok _ (by simp [wsV]), ⟨hd.1, hd.2.1⟩, fun sig h => ?_, ok _ (by simp [wsV]), ok _ (by simp [wsV]), ok _ (by simp [wsV])⟩
  have h2 := hd.2.2
  rw [h] at h2
  exact (Option.some.inj h2).symm
theorem vx_runVW {y : MethodName} {bytes cc : ByteArray} {maxL nL mc ms n index : Nat} {ret : Option FieldType} {hh : List (Nat × Nat × Nat × Nat)} {ws : List Cond} {rm : Room} {Pc : Array Value → State → Prop} {Qc : Array Value → State → Outcome → State → Prop} {free : Addr → Prop} {Ts : List Cond} {own C : String} {b : Addr} {As rest : List Value} {g : JFrame}
    (S : CallFix p m c cc nL s args Ts own) (hM : Met l y ws rm Pc Qc mc ms free) (cw : vx_CVW R s args own C index y bytes maxL ret hh ws rm mc ms n) (hp : PreV s H C b Pc As)
    (hg : g.method = m) (hn : As.length = n) (hsize : g.locals.size = nL) (hstack : g.stack = As.reverse ++ .ref b :: rest) (hW : 2 * g.monitorRoom + (rest.map fun v => v.category).sum ≤ 8) (hdg : decode cc g.pc = .ok (.invokevirtual index, 3)) (hf : cells + mc ≤ R.cells ∧ slots + ms ≤ R.slots) :
    va_Run p l e R s m args below meth c H locs cells slots mc ms g rest (Qc (Value.ref b :: As).toArray) free := by
  obtain ⟨⟨hrc, hrs, hfr, hlo, hws, hcw⟩, hcode, hini, hy, hlen, hl, hin, hse⟩ := cw
  have hK : Back l R p e below s args y 3 8 (PreOf R mc ms Pc) (PostOf Qc mc ms free) := va_backW (hh := hh) (bytes := bytes) (maxL := maxL) (ret := ret) hM hp.1 hrc hrs hfr hlo hws hcw (fun a' U hW => word_at hW (Or.inl (by first | rfl | simp [Cond.onTables, Cond.keeps, Cond.steady])) hini)
  obtain ⟨hx, hb, hml, ho, -⟩ := S
  obtain ⟨-, ⟨cellB, hcB, hoB, hclB⟩, hPc⟩ := hp
  intro T hT X
  obtain ⟨v, vm₁, ⟨U', l2, c2, s2⟩, hW₁, X', ⟨g', mk, t, L, e1, e2, hq, h1, hL, h2, h3⟩, st⟩ := vx_callVW X hx (C := C) (hh := hh) (bytes := bytes) (maxL := maxL) (ret := ret) ho hl hin hse hcode hy hK (by rw [hT]; exact hcB) hoB hclB hg (hsize.trans hml.symm) (argsL := As) (rest := rest) (fun sig h => hn.trans (hlen sig h)) hstack hW (by rw [hb]; exact hdg)
    (fun vm₁ hW₁ => ⟨hf.1, hf.2, hPc (T.setVm vm₁) hT hW₁⟩)
  dsimp only [Pt.U, Pt.locs, Pt.cells, Pt.slots] at X' e1 e2 h1 h2 h3 st
  subst h1; subst h2; subst h3
  exact ⟨v, (T.setVm vm₁).calling g' mk (Value.ref b :: As).toArray, t, U', L, hT, X', hL, e1, e2, hq, st⟩
section
variable {y : MethodName} {bytes cc : ByteArray} {maxL nL mc ms n index : Nat} {ret : Option FieldType} {ws : List Cond} {rm : Room} {Pc : Array Value → State → Prop} {Qc : Array Value → State → Outcome → State → Prop} {XC : String → State → State → Prop} {free : Addr → Prop} {Ts : List Cond} {own C : String} {b : Addr} {As rest : List Value} {g : JFrame}
theorem vx_runVX {hh : List (Nat × Nat × Nat × Nat)} (S : CallFix p m c cc nL s args Ts own) (hM : vx_Met l y ws rm Pc Qc XC mc ms free) (cw : vx_CVW R s args own C index y bytes maxL ret hh ws rm mc ms n) (hp : PreV s H C b Pc As)
    (hg : g.method = m) (hn : As.length = n) (hsize : g.locals.size = nL) (hstack : g.stack = As.reverse ++ .ref b :: rest) (hW : 2 * g.monitorRoom + (rest.map fun v => v.category).sum ≤ 8) (hdg : decode cc g.pc = .ok (.invokevirtual index, 3)) (hf : cells + mc ≤ R.cells ∧ slots + ms ≤ R.slots) :
    vx_Run p l e R s m args below meth c H locs cells slots mc ms g rest (Qc (Value.ref b :: As).toArray) XC free := by
  obtain ⟨⟨hrc, hrs, hfr, hlo, hws, hcw⟩, hcode, hini, hy, hlen, hl, hin, hse⟩ := cw
  have hK : vx_Back l R p e below s args y 3 8 (PreOf R mc ms Pc) (PostOf Qc mc ms free) (vx_Post XC mc ms free) := vx_backW (hh := hh) (bytes := bytes) (maxL := maxL) (ret := ret) hM hp.1 hrc hrs hfr hlo hws hcw (fun a' U hW => word_at hW (Or.inl (by first | rfl | simp [Cond.onTables, Cond.keeps, Cond.steady])) hini)
  obtain ⟨hx, hb, hml, ho, -⟩ := S
  obtain ⟨-, ⟨cellB, hcB, hoB, hclB⟩, hPc⟩ := hp
  intro T hT X
  rcases vx_callVX X hx (C := C) (hh := hh) (bytes := bytes) (maxL := maxL) (ret := ret) ho hl hin hse hcode hy hK (by rw [hT]; exact hcB) hoB hclB hg (hsize.trans hml.symm) (argsL := As) (rest := rest) (fun sig h => hn.trans (hlen sig h)) hstack hW (by rw [hb]; exact hdg)
    (fun vm₁ hW₁ => ⟨hf.1, hf.2, hPc (T.setVm vm₁) hT hW₁⟩) with ⟨v, vm₁, ⟨U', l2, c2, s2⟩, hW₁, X', ⟨g', mk, t, L, e1, e2, hq, h1, hL, h2, h3⟩, st⟩ | ⟨q, vm₁, ⟨U', l2, c2, s2⟩, hW₁, X', ⟨g', mk, t, L, E, ce, e1, e2, hq, hce, hcv, hcl, h1, hL, h2, h3⟩, st⟩
  · dsimp only [Pt.U, Pt.locs, Pt.cells, Pt.slots] at X' e1 e2 h1 h2 h3 st
    subst h1; subst h2; subst h3
    exact Or.inl ⟨v, (T.setVm vm₁).calling g' mk (Value.ref b :: As).toArray, t, U', L, hT, X', hL, e1, e2, hq, st⟩
  · dsimp only [Pt.U, Pt.locs, Pt.cells, Pt.slots] at X' e1 e2 h1 h2 h3 st hcl
    subst h1; subst h2; subst h3
    exact Or.inr ⟨q, (T.setVm vm₁).calling g' mk (Value.ref b :: As).toArray, t, U', L, E, ce, hT, X', hL, e1, e2, hq, hce, hcv, vx_cls hW₁ hcl, st⟩
theorem vx_runSX {hh : List (Nat × Nat × Nat × Nat)} (S : CallFix p m c cc nL s args Ts own) (hM : vx_Met l y ws rm Pc Qc XC mc ms free) (cw : vx_CSW R s args own index y bytes maxL ret hh ws rm mc ms n) (hp : PreS s H Pc As)
    (hg : g.method = m) (hn : As.length = n) (hsize : g.locals.size = nL) (hstack : g.stack = As.reverse ++ rest) (hW : 2 * g.monitorRoom + (rest.map fun v => v.category).sum ≤ 8) (hdg : decode cc g.pc = .ok (.invokestatic index, 3)) (hf : cells + mc ≤ R.cells ∧ slots + ms ≤ R.slots) :
    vx_Run p l e R s m args below meth c H locs cells slots mc ms g rest (Qc As.toArray) XC free := by
  obtain ⟨⟨hrc, hrs, hfr, hlo, hws, hcw⟩, hcode, hini, hy, hlen, hl, hstt⟩ := cw
  have hK : vx_Back l R p e below s args y 3 8 (PreOf R mc ms Pc) (PostOf Qc mc ms free) (vx_Post XC mc ms free) := vx_backW (hh := hh) (bytes := bytes) (maxL := maxL) (ret := ret) hM hp.1 hrc hrs hfr hlo hws hcw (fun a' U hW => word_at hW (Or.inl (by first | rfl | simp [Cond.onTables, Cond.keeps, Cond.steady])) hini)
  obtain ⟨hx, hb, hml, ho, -⟩ := S
  intro T hT X
  rcases vx_callSX X hx (hh := hh) (bytes := bytes) (maxL := maxL) (ret := ret) ho hl hstt hini hcode hy hK hg (hsize.trans hml.symm) (argsL := As) (rest := rest) (fun sig h => hn.trans (hlen sig h)) hstack hW (by rw [hb]; exact hdg)
    (fun vm₁ hW₁ => ⟨hf.1, hf.2, hp.2 (T.setVm vm₁) hT hW₁⟩) with ⟨v, vm₁, ⟨U', l2, c2, s2⟩, hW₁, X', ⟨g', mk, t, L, e1, e2, hq, h1, hL, h2, h3⟩, st⟩ | ⟨q, vm₁, ⟨U', l2, c2, s2⟩, hW₁, X', ⟨g', mk, t, L, E, ce, e1, e2, hq, hce, hcv, hcl, h1, hL, h2, h3⟩, st⟩
  · dsimp only [Pt.U, Pt.locs, Pt.cells, Pt.slots] at X' e1 e2 h1 h2 h3 st
    subst h1; subst h2; subst h3
    exact Or.inl ⟨v, (T.setVm vm₁).calling g' mk As.toArray, t, U', L, hT, X', hL, e1, e2, hq, st⟩
  · dsimp only [Pt.U, Pt.locs, Pt.cells, Pt.slots] at X' e1 e2 h1 h2 h3 st hcl
    subst h1; subst h2; subst h3
    exact Or.inr ⟨q, (T.setVm vm₁).calling g' mk As.toArray, t, U', L, E, ce, hT, X', hL, e1, e2, hq, hce, hcv, vx_cls hW₁ hcl, st⟩
end
end VXH
theorem vx_ofWH {l : Launch} {y : MethodName} {ws ws' : List Cond} {rm : Room} {Pc : Array Value → State → Prop} {Qc : Array Value → State → Outcome → State → Prop} {XC : String → State → State → Prop} {mc ms : Nat} {free : Addr → Prop} {cc : ByteArray} {maxL : Nat} {ret : Option FieldType} {hh : List (Nat × Nat × Nat × Nat)}
    (hy : plainName y.cls = true) (hw : ws = Cond.codeWith y cc maxL ret hh :: ws')
    (body : ∀ p e s m args below meth c s₁, BodyLoose p l y (headSpec ws rm) cc maxL ret e s m args below meth c s₁ → c.maxLocals = maxL → Pc args s →
      W p l e (headSpec ws rm).room s m args below meth c s.heap [] 0 0 (vx_MQ below Qc XC args s mc ms free) (entryFrame m args maxL)) : vx_Met l y ws rm Pc Qc XC mc ms free := by
  refine MetFree.of_bodyS (code := cc) (maxLocals := maxL) (ret := ret) hy ?_ ?_
  · intro args s m h hn
    obtain ⟨m9, meth, c, hn9, h1, h2, h3, h4, -, h5, h6, -⟩ := Cond.codeWith_spec (atoms_spec (ws := ws) h _ (by rw [hw]; exact List.mem_cons_self))
    cases hn.symm.trans hn9
    exact ⟨meth, c, h1, h2, h3, h4, h5, h6⟩
  · intro p e s m args below meth c s₁ B hml hP _
    have hh0 : s₁.heap = s.heap := by rw [B.state]; rfl
    obtain ⟨t, a1, o, b1, b2, b3⟩ := body p e s m args below meth c s₁ B hml hP s₁ hh0 (Stand.of_body B)
    exact ⟨t, o, a1, b1, b2, b3⟩
/-! ===== END ===== -/
/-! ===== BEGIN what the machine throws by itself, no traces kept ===== -/
section VXM
set_option maxHeartbeats 1000000 in
/-- the machine throws cls with the message text, no traces kept: from its note over the frame g to 'throwing' over the same frame (follows the proofs of Stand.vmThrowsMessage, Shelf/KitTracedVmS.lean, and Stand.throwsMessageColdBareV, StandMessageColdV.lean, without the step out of the frame) -/
theorem vx_vmAt {p : Program} {l : Launch} {e : Env} {R : Room} {s : State} {m₀ : MethodId} {args : Array Value} {below : List Frame} {meth : Method} {c : Code} {W : State} {locs : List Loc} {cells slots : Nat}
    (X : Stand p l e R s m₀ args below meth c W locs cells slots) (hexec : p.tables.exec = Jvm.exec) (htr : e.platform.stackTraces = false) {cls : String} {names : List String} {text : String}
    (hcls : Bundle.fit cls = true) (hnames : ∀ n ∈ names, Bundle.fit n = true) (hsoe : (cls == "java/lang/StackOverflowError") = false) (hoom : (cls == "java/lang/OutOfMemoryError") = false)
    (h : ∀ a ∈ Bundle.messageArmAtoms cls names, a.before args s = true)
    (hlocs : ∀ x ∈ locs, ∀ cell, s.heap[x.base]? = some cell → cell.vm.isStatics = false)
    (htext : (text == notModelled) = false) (hlimit : ¬ (stringBytes (stringToUtf16 text)).size > e.platform.arrayLengthLimit) (hheap : ¬ (stringBytes (stringToUtf16 text)).size * componentBytes .byte > e.platform.maxHeapBytes)
    {g : JFrame} (hg : g.method = m₀) (hsize : g.locals.size = c.maxLocals)
    (hRframes : names.length + 4 < R.frames) (hRlocals : 2 * g.monitorRoom + (g.stack.map fun v => v.category).sum + 10240 ≤ R.locals) (hshort : 13 * names.length + 55 ≤ 10240)
    (hRcells : cells + 3 ≤ R.cells) (hRslots : slots + ((stringBytes (stringToUtf16 text)).size + 4 + 6) ≤ R.slots) (hlocks : meth.locks = false) :
    ∃ (S : State) (q : Addr) (ce : Cell), (∀ target, Steps p.tables e below ((S.setTop g).pushFrame (.throwing q)) target → Steps p.tables e below ((W.setTop g).pushFrame (.throwNew cls (some text) none)) target) ∧
      Stand p l e R s m₀ args below meth c S locs (cells + 3) (slots + ((stringBytes (stringToUtf16 text)).size + 4 + 6)) ∧ S.heap[q]? = some ce ∧ s.vm.findClass cls = some ce.cls ∧ ce.vm = .none := by
  have howns : e.platform.frameOwnsMonitors = true := by rw [X.admits.platform]
  have hfin : e.platform.finalization = false := by rw [X.admits.platform]
  have hpl : e.platform.magicAccessors = ({} : Platform).magicAccessors := by rw [X.admits.platform]
  have a : ∀ x, x ∈ Bundle.messageArmAtoms cls names → x.holds args s none s [] = true := fun x hx => h x hx
  obtain ⟨T, Z0, L, -, Y⟩ := ThrowableC.of_atoms (args := args) howns hfin hpl (fun x hx => h x (by simp [Bundle.messageArmAtoms, hx]))
  obtain ⟨Z, M, LZ, LM, hnZ⟩ := Init0T.ofS_atoms (args := args) hpl L Y (fun x hx => h x (by simp [Bundle.messageArmAtoms, hx]))
  obtain ⟨P1, Ps, hlen, L1, hL, hP1m, hlink1, hlink⟩ := Bundle.chainS (args := args) hpl hnZ names cls hcls hnames (fun x hx => h x (by simp [Bundle.messageArmAtoms, hx]))
  obtain ⟨Zs, LZs, hn4, hfitv, hfitc⟩ := StringT.of_atoms (args := args) (fun x hx => h x (by simp [Bundle.messageArmAtoms, hx]))
  have hfound : s.vm.findClass cls = some P1.m.cls := findClass_of_methodNamed hP1m
  obtain ⟨c1, kX, hc1, hk, hord, -, -, hn6⟩ := Cond.instantiable_spec (a (.instantiable cls 6) (by simp [Bundle.messageArmAtoms]))
  cases Option.some.inj (hc1.symm.trans hfound)
  have hinit := Cond.initialized_spec hfound hk (a (.initialized cls) (by simp [Bundle.messageArmAtoms]))
  have hctor : kX.findMethod "<init>" "(Ljava/lang/String;)V" = some P1.m.idx := findMethod_of_methodNamed hP1m hk
  have hsel0 : selectMethod e.platform s.vm P1.m.cls T.fill0 = .method T.fill0 := by
    obtain ⟨c2, r2, m2, q1, q2, q3, q4, -⟩ := Cond.selects_spec (a (.selects cls Bundle.tFill0 Bundle.tFill0) (by simp [Bundle.messageArmAtoms]))
    cases Option.some.inj (q1.symm.trans hfound)
    cases Option.some.inj (q2.symm.trans (State.methodFound?_of_named Y.fill0 (by decide)))
    cases Option.some.inj (q3.symm.trans Y.fill0)
    rw [Launch.admits_selectMethod X.admits]; exact q4
  have hselF : selectMethod e.platform s.vm P1.m.cls T.fill = .method T.fill := by
    obtain ⟨c2, r2, m2, q1, q2, q3, q4, -⟩ := Cond.selects_spec (a (.selects cls Bundle.tFill Bundle.tFill) (by simp [Bundle.messageArmAtoms]))
    cases Option.some.inj (q1.symm.trans hfound)
    cases Option.some.inj (q2.symm.trans (State.methodFound?_of_named Y.fill (by decide)))
    cases Option.some.inj (q3.symm.trans Y.fill)
    rw [Launch.admits_selectMethod X.admits]; exact q4
  obtain ⟨cellS0, hcS0, hiss⟩ := Y.statics
  obtain ⟨u0, hu0⟩ := Cond.staticRefV Y.unassigned L.unassignedStatic L.statics hcS0 hiss (a (.isRef (.static Bundle.tN "UNASSIGNED_STACK" Bundle.steD)) (by simp [Bundle.messageArmAtoms]))
  obtain ⟨sen, hsen⟩ := Cond.staticRefV Y.sentinel L.sentinelStatic L.statics hcS0 hiss (a (.isRef (.static Bundle.tN "SUPPRESSED_SENTINEL" Bundle.listD)) (by simp [Bundle.messageArmAtoms]))
  obtain ⟨ci198, i198, fB, hk198, hg198, ha198, hsB, -, hnB, htB, hffB⟩ := Cond.ownField (t := .object "java/lang/Object") Y.found L.cls (by decide +kernel) (a (.fieldLink Bundle.tN 198 Bundle.tN "backtrace" "Ljava/lang/Object;") (by simp [Bundle.messageArmAtoms])) (a (.lays Bundle.tN Bundle.tN "backtrace" "Ljava/lang/Object;") (by simp [Bundle.messageArmAtoms])) e.platform hpl
  obtain ⟨cellS, hcS', heS, -, hkeep⟩ := X.same.2.2.2.2.2 T.aS cellS0 hcS0
  have hcellS : W.heap[T.aS]? = some cellS := hcS'
  have hout' : ∀ i, (⟨T.aS, i⟩ : Loc) ∉ locs := fun i hmem => by
    have := hlocs _ hmem cellS0 hcS0
    rw [hiss] at this; cases this
  have hknownS : cellS.vm ≠ .unknown := by
    rw [heS]; intro hu
    rw [show cellS0.vm = .unknown from hu] at hiss
    cases hiss
  have hvU : cellS.slots[T.fUnassigned.slot]? = some u0.v := by rw [hkeep _ (hout' _)]; exact hu0
  have hvSen : cellS.slots[T.fSentinel.slot]? = some sen.v := by rw [hkeep _ (hout' _)]; exact hsen
  obtain ⟨iM, hffM⟩ := Y.msg
  obtain ⟨tyC, dC, hdC, hdnC⟩ := Cond.laysAt hfound hk Y.cause (a (.lays cls Bundle.tN "cause" "Ljava/lang/Throwable;") (by simp [Bundle.messageArmAtoms]))
  obtain ⟨tyS, dS, hdS, hdnS⟩ := Cond.laysAt hfound hk Y.stack (a (.lays cls Bundle.tN "stackTrace" Bundle.steD) (by simp [Bundle.messageArmAtoms]))
  obtain ⟨tyP, dP, hdP, hdnP⟩ := Cond.laysAt hfound hk Y.supp (a (.lays cls Bundle.tN "suppressedExceptions" Bundle.listD) (by simp [Bundle.messageArmAtoms]))
  obtain ⟨tyM, dM, hdM, hdnM⟩ := Cond.laysAt hfound hk hffM (a (.lays cls Bundle.tN "detailMessage" "Ljava/lang/String;") (by simp [Bundle.messageArmAtoms]))
  obtain ⟨tyB, dB, hdB, hdnB⟩ := Cond.laysAt hfound hk hffB (a (.lays cls Bundle.tN "backtrace" "Ljava/lang/Object;") (by simp [Bundle.messageArmAtoms]))
  have bC := Cond.laysApart hdB hdC hdnB hdnC (by rw [hnB, Y.causeName]; decide)
  have bS := Cond.laysApart hdB hdS hdnB hdnS (by rw [hnB, Y.stackName]; decide)
  have bP := Cond.laysApart hdB hdP hdnB hdnP (by rw [hnB, Y.suppName]; decide)
  have hbk : ((preparedCellV T.toThrowableT (freshCell P1.m.cls kX) (W.heap.size + 2) u0 sen).withEntry W.cur).slots[fB.slot]? = some .null := by
    have := fresh_default (c := P1.m.cls) tyB
    rw [htB] at this
    simpa [preparedCellV, Cell.setSlot, Cell.withEntry, Array.getElem?_setIfInBounds, bC, bS, bP, bC.symm, bS.symm, bP.symm, defaultValue] using this
  have tkC := Takes.of_laid (v := .ref (W.heap.size + 2)) hk hord tyC (by rw [Y.causeType]; rfl)
  have tkS := Takes.of_laid (v := u0.v) hk hord tyS (by rw [Y.stackType]; exact fits_refV_array _ u0)
  have tkP := Takes.of_laid (v := sen.v) hk hord tyP (by rw [Y.suppType]; exact fits_refV_object _ sen)
  have tkM := Takes.of_laid (v := .ref (W.heap.size + 1)) hk hord tyM (by rw [Y.msgType]; rfl)
  have hskip : SkipFacts T e.platform s (fun u => u) u0 ((preparedCellV T.toThrowableT (freshCell P1.m.cls kX) (W.heap.size + 2) u0 sen).withEntry W.cur) := ⟨{ ci198 := ci198, i198 := i198, fBack := fB }, ⟨hk198, hg198, ha198, hsB⟩, hbk, fun _ _ => rfl⟩
  have h0 : At W g.method c below := by rw [hg]; exact X.here
  obtain ⟨hbeyond, hfreeW⟩ := X.vmMayThrow hsize (.throwNew cls (some text) none) (fun f hf => by cases hf) rfl hRlocals
  have hfr' : W.frames.length + Ps.length + 4 < (e.platform.stackLimits W.me).1 := by have := X.framesAbove hRframes; omega
  have hwd' : (stackUse (.java g :: W.frames.tail)).2 + 13 * Ps.length + 55 ≤ (e.platform.stackLimits W.me).2 := by have := X.stackAbove hsize (K := 13 * Ps.length + 55) (by omega); omega
  have hslots : W.slotsUsed + (stringBytes (stringToUtf16 text)).size + Zs.kS.instanceTypes.size + kX.instanceTypes.size ≤ e.platform.maxSlots := by
    have := X.slotsAbove hRslots
    rw [hn4, hn6]
    omega
  obtain ⟨vm', hW', st⟩ := Steps.vmThrowsMessageColdByV p (s₀ := s) (S := W) (g := g) h0 hexec T L Z LZ M LM X.warmed (t := W.cur) rfl Zs LZs P1 L1 Ps hL hlink1 hlink hsoe hoom hfound hk hinit hord hctor
    (Launch.admits_hotImplicitExceptions X.admits) hbeyond hfreeW htext hlimit hheap (X.cellsAbove hRcells) hslots (hfitv _) (hfitc _)
    (Nn := fun u => u) heapOnly_id (fun _ _ => rfl) (fun _ => rfl) (fun u x y => setCell_twice _ _ _ _) (fun _ => Nat.le_refl _) (cN := ((preparedCellV T.toThrowableT (freshCell P1.m.cls kX) (W.heap.size + 2) u0 sen).withEntry W.cur))
    hsel0 hcellS hknownS hvU tkS (fun _ hu => hu) (fun _ hu => hu) rfl rfl rfl (by simp [preparedCellV, Cell.setSlot, Cell.withEntry]) hskip (fun _ _ hA hW _ hroom _ hrest => L.nativeOff p htr hA hW hroom hrest) hselF hvSen tkC tkP tkM Y.objLocals rfl hfr' hwd'
  rw [plainBareV_eq T.toThrowableT (W.heap.size + 2) u0 sen (.ref (W.heap.size + 1)) W.cur rfl rfl] at st
  obtain ⟨-, -, w3, w4, -, -, -⟩ := withThrown_facts e.platform W Zs text P1.m.cls kX
  have X3 := ((X.pushed (bytesOf Zs.cB (stringToUtf16 text))).pushed (stringAt Zs.cS Zs.kS Zs.fv Zs.fc (stringToUtf16 text) W.heap.size)).pushed (freshCell P1.m.cls kX)
  rw [← withString_eq] at X3
  have X4 := X3.noted hW'
  have ha : (W.heap.size + 2) < ((withThrown W Zs text P1.m.cls kX).setVm vm').heap.size := by show _ < (withThrown W Zs text P1.m.cls kX).heap.size; rw [w3]; omega
  have hcell : ((withThrown W Zs text P1.m.cls kX).setVm vm').heap[(W.heap.size + 2)]? = some (freshCell P1.m.cls kX) := w4
  have X5 := ((((X4.stored hcell T.fCause.slot (.ref (W.heap.size + 2))).storedAgain ha T.fStack.slot u0.v).storedAgain ha T.fSupp.slot sen.v).storedAgain ha T.fStack.slot u0.v).storedAgain ha T.fMsg.slot (.ref (W.heap.size + 1))
  obtain ⟨g₁, hfrM⟩ := X5.frames_eq
  have hU : ((((withThrown W Zs text P1.m.cls kX).setVm vm').setCell (W.heap.size + 2) (plainBareV T.toThrowableT (freshCell P1.m.cls kX) (W.heap.size + 2) u0 sen (.ref (W.heap.size + 1)))).setTop g).pushFrame (.throwing (W.heap.size + 2)) = (((withThrown W Zs text P1.m.cls kX).setVm vm').setCell (W.heap.size + 2) (plainBareV T.toThrowableT (freshCell P1.m.cls kX) (W.heap.size + 2) u0 sen (.ref (W.heap.size + 1)))).setFrames (.throwing (W.heap.size + 2) :: .java g :: below) := by
    rw [State.pushFrame, State.frames_setTop _ hfrM, State.setTop_of_frames _ hfrM, State.setFrames_setFrames]
  have b1 : (bytesOf Zs.cB (stringToUtf16 text)).slots.size = (stringBytes (stringToUtf16 text)).size := by
    rw [(Cell.writeAll_facts _ _).2.2]; simp [bytes0]
  have b2 : (stringAt Zs.cS Zs.kS Zs.fv Zs.fc (stringToUtf16 text) W.heap.size).slots.size = 4 := by simp [string0, Cell.setSlot, hn4]
  have b3 : (freshCell P1.m.cls kX).slots.size = 6 := by simp [hn6]
  rw [b1, b2, b3] at X5
  have e9 : slots + (stringBytes (stringToUtf16 text)).size + 4 + 6 = slots + ((stringBytes (stringToUtf16 text)).size + 4 + 6) := by omega
  rw [e9] at X5
  simp only [List.append_assoc, List.cons_append, List.nil_append] at X5
  refine ⟨((withThrown W Zs text P1.m.cls kX).setVm vm').setCell (W.heap.size + 2) (plainBareV T.toThrowableT (freshCell P1.m.cls kX) (W.heap.size + 2) u0 sen (.ref (W.heap.size + 1))), W.heap.size + 2, _, fun target ht => st _ (by rw [X.tail, ← hU]; exact ht),
    X5.forget (fun y hy => ?_), heapAt_setCell_self _ ha, hfound, rfl⟩
  simp only [List.mem_cons, List.not_mem_nil, or_false] at hy
  have hge : s.heap.size ≤ W.heap.size := X.same.2.1
  rcases hy with rfl | rfl | rfl | rfl | rfl <;> exact Nat.le_trans hge (Nat.le_add_right _ 2)
set_option maxHeartbeats 1000000 in
/-- the machine throws NullPointerException, no traces kept: from its note over the frame g to 'throwing' over the same frame (follows the proof of Stand.vmThrowsNpe, Shelf42/KT2.lean; throwsNpeColdBareVAt, Shelf42/NT91.lean, called) -/
theorem vx_npeAt {p : Program} {l : Launch} {e : Env} {R : Room} {s : State} {m₀ : MethodId} {args : Array Value} {below : List Frame} {meth : Method} {c : Code} {W : State} {locs : List Loc} {cells slots : Nat}
    (X : Stand p l e R s m₀ args below meth c W locs cells slots) (hexec : p.tables.exec = Jvm.exec) (htr : e.platform.stackTraces = false) {n : Nat}
    (h : ∀ a ∈ Bundle.npeArmAtoms n, a.before args s = true)
    (hlocs : ∀ x ∈ locs, ∀ cell, s.heap[x.base]? = some cell → cell.vm.isStatics = false)
    {g : JFrame} (hg : g.method = m₀) (hsize : g.locals.size = c.maxLocals)
    (hRframes : 7 < R.frames) (hRlocals : 2 * g.monitorRoom + (g.stack.map fun v => v.category).sum + 10240 ≤ R.locals)
    (hRcells : cells + 1 ≤ R.cells) (hRslots : slots + n ≤ R.slots) (hlocks : meth.locks = false) :
    ∃ (S : State) (q : Addr) (ce : Cell), (∀ target, Steps p.tables e below ((S.setTop g).pushFrame (.throwing q)) target → Steps p.tables e below ((W.setTop g).pushFrame (.throwNew "java/lang/NullPointerException" none none)) target) ∧
      Stand p l e R s m₀ args below meth c S locs (cells + 1) (slots + n) ∧ S.heap[q]? = some ce ∧ s.vm.findClass "java/lang/NullPointerException" = some ce.cls ∧ ce.vm = .none := by
  have howns : e.platform.frameOwnsMonitors = true := by rw [X.admits.platform]
  have hfin : e.platform.finalization = false := by rw [X.admits.platform]
  have hpl : e.platform.magicAccessors = ({} : Platform).magicAccessors := by rw [X.admits.platform]
  have hpl2 : e.platform.arrayCloneIsPublic = true := by rw [X.admits.platform]
  have a' : ∀ x, x ∈ Bundle.npeArmAtoms n → x.holds args s none s [] = true := fun x hx => h x hx
  obtain ⟨T, Z, L, LZ, Y⟩ := ThrowableC.of_atoms (args := args) howns hfin hpl (fun x hx => h x (by simp [Bundle.npeArmAtoms, hx]))
  obtain ⟨N, LN, hcN, hnNF, hordN, hffS⟩ := NpeC.of_atoms (args := args) hpl hpl2 L Y (fun x hx => h x (by simp [Bundle.npeArmAtoms, hx]))
  obtain ⟨P1, L1, hP1m, hP1s⟩ := PassC.of_atoms (args := args) (s := s) hpl (X := Bundle.nN) (Y := Bundle.rN) (by decide) (by decide) LibCode.NullPointerException.Init0.at_0 LibCode.NullPointerException.Init0.at_1 LibCode.NullPointerException.Init0.at_4 (fun x hx => h x (by simp [Bundle.npeArmAtoms, hx]))
  obtain ⟨PR, LR, hPRm, hPRs⟩ := PassC.of_atoms (args := args) (s := s) hpl (X := Bundle.rN) (Y := Bundle.eN) (by decide) (by decide) LibCode.RuntimeException.Init0.at_0 LibCode.RuntimeException.Init0.at_1 LibCode.RuntimeException.Init0.at_4 (fun x hx => h x (by simp [Bundle.npeArmAtoms, hx]))
  obtain ⟨PE, LEx, hPEm, hPEs⟩ := PassC.of_atoms (args := args) (s := s) hpl (X := Bundle.eN) (Y := Bundle.tN) (by decide) (by decide) LibCode.Exception.Init0.at_0 LibCode.Exception.Init0.at_1 LibCode.Exception.Init0.at_4 (fun x hx => h x (by simp [Bundle.npeArmAtoms, hx]))
  have hfound : s.vm.findClass Bundle.nN = some P1.m.cls := findClass_of_methodNamed hP1m
  have ecls : N.cN = P1.m.cls := Option.some.inj (hcN.symm.trans hfound)
  have hk : s.vm.classes[P1.m.cls]? = some N.kN := by rw [← ecls]; exact LN.cls
  have hinit := Cond.initialized_spec hfound hk (a' (.initialized Bundle.nN) (by simp [Bundle.npeArmAtoms]))
  have hctor : N.kN.findMethod "<init>" "()V" = some P1.m.idx := findMethod_of_methodNamed hP1m hk
  obtain ⟨c1, k1, hc1, hk1, -, -, -, hn⟩ := Cond.instantiable_spec (a' (.instantiable Bundle.nN n) (by simp [Bundle.npeArmAtoms]))
  cases Option.some.inj (hc1.symm.trans hfound)
  cases Option.some.inj (hk1.symm.trans hk)
  have hfsz : (freshCell P1.m.cls N.kN).slots.size = n := by simp [hn]
  have hlink1 : P1.sup = PR.m := Option.some.inj (hP1s.symm.trans hPRm)
  have hlinkR : PR.sup = PE.m := Option.some.inj (hPRs.symm.trans hPEm)
  have hlinkE : PE.sup = Z.m T.toThrowableT := Option.some.inj (hPEs.symm.trans Y.init0)
  have hLs : ∀ P, P ∈ [PR, PE] → P.Links0 e.platform s := fun P hP => by
    simp only [List.mem_cons, List.not_mem_nil, or_false] at hP
    rcases hP with rfl | rfl
    · exact LR
    · exact LEx
  have hsel0 : selectMethod e.platform s.vm P1.m.cls T.fill0 = .method T.fill0 := by
    obtain ⟨c2, r2, m2, q1, q2, q3, q4, -⟩ := Cond.selects_spec (a' (.selects Bundle.nN Bundle.tFill0 Bundle.tFill0) (by simp [Bundle.npeArmAtoms]))
    cases Option.some.inj (q1.symm.trans hfound)
    cases Option.some.inj (q2.symm.trans (State.methodFound?_of_named Y.fill0 (by decide)))
    cases Option.some.inj (q3.symm.trans Y.fill0)
    rw [Launch.admits_selectMethod X.admits]; exact q4
  have hselF : selectMethod e.platform s.vm P1.m.cls T.fill = .method N.fill := by
    obtain ⟨c2, r2, m2, q1, q2, q3, q4, -⟩ := Cond.selects_spec (a' (.selects Bundle.nN Bundle.tFill Bundle.nFill) (by simp [Bundle.npeArmAtoms]))
    cases Option.some.inj (q1.symm.trans hfound)
    cases Option.some.inj (q2.symm.trans (State.methodFound?_of_named Y.fill (by decide)))
    cases Option.some.inj (q3.symm.trans hnNF)
    rw [Launch.admits_selectMethod X.admits]; exact q4
  obtain ⟨cellS0, hcS0, hiss⟩ := Y.statics
  obtain ⟨u0, hu0⟩ := Cond.staticRefV Y.unassigned L.unassignedStatic L.statics hcS0 hiss (a' (.isRef (.static Bundle.tN "UNASSIGNED_STACK" Bundle.steD)) (by simp [Bundle.npeArmAtoms]))
  obtain ⟨sen, hsen⟩ := Cond.staticRefV Y.sentinel L.sentinelStatic L.statics hcS0 hiss (a' (.isRef (.static Bundle.tN "SUPPRESSED_SENTINEL" Bundle.listD)) (by simp [Bundle.npeArmAtoms]))
  obtain ⟨ci198, i198, fB, hk198, hg198, ha198, hsB, -, hnB, htB, hffB⟩ := Cond.ownField (t := .object "java/lang/Object") Y.found L.cls (by decide +kernel) (a' (.fieldLink Bundle.tN 198 Bundle.tN "backtrace" Bundle.objD) (by simp [Bundle.npeArmAtoms])) (a' (.lays Bundle.tN Bundle.tN "backtrace" Bundle.objD) (by simp [Bundle.npeArmAtoms])) e.platform hpl
  obtain ⟨cellS, hcS', heS, -, hkeep⟩ := X.same.2.2.2.2.2 T.aS cellS0 hcS0
  have hcellS : W.heap[T.aS]? = some cellS := hcS'
  have hout' : ∀ i, (⟨T.aS, i⟩ : Loc) ∉ locs := fun i hmem => by
    have := hlocs _ hmem cellS0 hcS0
    rw [hiss] at this; cases this
  have hknownS : cellS.vm ≠ .unknown := by
    rw [heS]; intro hu
    rw [show cellS0.vm = .unknown from hu] at hiss
    cases hiss
  have hvU : cellS.slots[T.fUnassigned.slot]? = some u0.v := by rw [hkeep _ (hout' _)]; exact hu0
  have hvSen : cellS.slots[T.fSentinel.slot]? = some sen.v := by rw [hkeep _ (hout' _)]; exact hsen
  obtain ⟨tyC, dC, hdC, hdnC⟩ := Cond.laysAt hfound hk Y.cause (a' (.lays Bundle.nN Bundle.tN "cause" "Ljava/lang/Throwable;") (by simp [Bundle.npeArmAtoms]))
  obtain ⟨tyS, dS, hdS, hdnS⟩ := Cond.laysAt hfound hk Y.stack (a' (.lays Bundle.nN Bundle.tN "stackTrace" Bundle.steD) (by simp [Bundle.npeArmAtoms]))
  obtain ⟨tyP, dP, hdP, hdnP⟩ := Cond.laysAt hfound hk Y.supp (a' (.lays Bundle.nN Bundle.tN "suppressedExceptions" Bundle.listD) (by simp [Bundle.npeArmAtoms]))
  obtain ⟨tyX, dX, hdX, hdnX⟩ := Cond.laysAt hfound hk hffS (a' (.lays Bundle.nN Bundle.nN "extendedMessageState" "I") (by simp [Bundle.npeArmAtoms, Bundle.npeAtoms]))
  obtain ⟨hnX, htX⟩ := State.fieldFound?_type hffS (t := .int) (by decide +kernel)
  have xC := Cond.laysApart hdC hdX hdnC hdnX (by rw [hnX, Y.causeName]; decide)
  have xS := Cond.laysApart hdS hdX hdnS hdnX (by rw [hnX, Y.stackName]; decide)
  have xP := Cond.laysApart hdP hdX hdnP hdnX (by rw [hnX, Y.suppName]; decide)
  have hv0 : (freshCell P1.m.cls N.kN).slots[N.fState.slot]? = some (.int 0) := by
    have := fresh_default (c := P1.m.cls) tyX
    rw [htX] at this; exact this
  obtain ⟨tyB, dB, hdB, hdnB⟩ := Cond.laysAt hfound hk hffB (a' (.lays Bundle.nN Bundle.tN "backtrace" Bundle.objD) (by simp [Bundle.npeArmAtoms]))
  have bC := Cond.laysApart hdB hdC hdnB hdnC (by rw [hnB, Y.causeName]; decide)
  have bS := Cond.laysApart hdB hdS hdnB hdnS (by rw [hnB, Y.stackName]; decide)
  have bP := Cond.laysApart hdB hdP hdnB hdnP (by rw [hnB, Y.suppName]; decide)
  have bX := Cond.laysApart hdB hdX hdnB hdnX (by rw [hnB, hnX]; decide)
  have hbk : ((npeCell N.toNpeT (preparedCellV T.toThrowableT (freshCell P1.m.cls N.kN) W.heap.size u0 sen) W.cur).withEntry W.cur).slots[fB.slot]? = some .null := by
    have := fresh_default (c := P1.m.cls) tyB
    rw [htB] at this
    simpa [npeCell, preparedCellV, Cell.setSlot, Cell.withEntry, Array.getElem?_setIfInBounds, bC, bS, bP, bX, bC.symm, bS.symm, bP.symm, bX.symm, defaultValue] using this
  have tkC := Takes.of_laid (v := .ref W.heap.size) hk hordN tyC (by rw [Y.causeType]; rfl)
  have tkS := Takes.of_laid (v := u0.v) hk hordN tyS (by rw [Y.stackType]; exact fits_refV_array _ u0)
  have tkP := Takes.of_laid (v := sen.v) hk hordN tyP (by rw [Y.suppType]; exact fits_refV_object _ sen)
  have tkX := Takes.of_laid (v := .int 1) hk hordN tyX (by rw [htX]; rfl)
  have hskip : SkipFacts T e.platform s (fun u => u) u0 ((npeCell N.toNpeT (preparedCellV T.toThrowableT (freshCell P1.m.cls N.kN) W.heap.size u0 sen) W.cur).withEntry W.cur) := ⟨{ ci198 := ci198, i198 := i198, fBack := fB }, ⟨hk198, hg198, ha198, hsB⟩, hbk, fun _ _ => rfl⟩
  obtain ⟨vm', X3, st, -⟩ := X.throwsNpeColdBareVAt hexec hg hsize T L Z LZ N LN P1 L1 [PR, PE] hLs hlink1 ⟨hlinkR, hlinkE, trivial⟩ hfound hk hinit hordN hctor hsel0 hselF hcellS hknownS hvU hvSen
    hv0 xC xS xP tkC tkS tkP tkX Y.objLocals hskip (fun _ _ hA hW _ hroom _ hrest => L.nativeOff p htr hA hW hroom hrest) (by simpa using hRframes) hRlocals (by simp) hRcells (by rw [hn]; exact hRslots)
  have hlt : W.heap.size < ((W.pushCell (freshCell P1.m.cls N.kN)).setVm vm').heap.size := by
    show W.heap.size < (W.pushCell (freshCell P1.m.cls N.kN)).heap.size
    rw [State.heap_size_pushCell]; omega
  rw [hfsz] at X3
  obtain ⟨g₁, hfrM⟩ := X3.frames_eq
  have hU : ((((W.pushCell (freshCell P1.m.cls N.kN)).setVm vm').setCell W.heap.size (npeBareV T.toThrowableT N.toNpeT (freshCell P1.m.cls N.kN) W.heap.size u0 sen)).setTop g).pushFrame (.throwing W.heap.size) = (((W.pushCell (freshCell P1.m.cls N.kN)).setVm vm').setCell W.heap.size (npeBareV T.toThrowableT N.toNpeT (freshCell P1.m.cls N.kN) W.heap.size u0 sen)).setFrames (.throwing W.heap.size :: .java g :: below) := by
    rw [State.pushFrame, State.frames_setTop _ hfrM, State.setTop_of_frames _ hfrM, State.setFrames_setFrames]
  refine ⟨_, W.heap.size, _, fun target ht => st.trans (by rw [← hU]; exact ht), X3.forget (fun y hy => ?_), heapAt_setCell_self _ hlt, hfound, rfl⟩
  simp only [List.mem_cons, List.not_mem_nil, or_false] at hy
  have hge : s.heap.size ≤ W.heap.size := X.same.2.1
  rcases hy with rfl | rfl | rfl | rfl | rfl <;> exact hge
/-- the words of a machine's NullPointerException, but the four that speak of the heap -/
def vx_atN (n : Nat) : List Cond := (Bundle.npeArmAtoms n).filter vx_no
/-- the words of a machine's throw with a message, but the four that speak of the heap -/
def vx_atM (X : String) (names : List String) : List Cond := (Bundle.messageArmAtoms X names).filter vx_no
section
variable {p : Program} {l : Launch} {e : Env} {R : Room} {s : State} {m : MethodId} {args : Array Value} {below : List Frame} {meth : Method} {c : Code} {H : Heap} {locs : List Loc} {cells slots : Nat}
/-- a frame seen from a rebased start, seen from the first start again -/
theorem vx_back9 {T S : State} {R' : Room} {k n : Nat} (X : Stand p l e R s m args below meth c T locs cells slots) (Y : Stand p l e R' ((T.setVm s.vm).setFrames (.invoking m args :: below)) m args below meth c T [] 0 0) (Z : Stand p l e R' ((T.setVm s.vm).setFrames (.invoking m args :: below)) m args below meth c S [] k n) :
    Stand p l e R s m args below meth c S locs (cells + k) (slots + n) := by
  have hW0 : s.WarmedH ((T.setVm s.vm).setFrames (.invoking m args :: below)).vm := State.WarmedH.refl s
  refine { admits := X.admits, cas := X.cas, clock := X.clock, frames := X.frames, room := X.room, hears := X.hears, method := X.method, code := X.code, here := Z.here, tail := Z.tail, warmed := State.WarmedH.trans hW0 Z.warmed, limits := Z.limits.trans (Y.limits.symm.trans X.limits), bytes := Z.bytes.trans (Y.bytes.symm.trans X.bytes), same := ?_ }
  obtain ⟨e1, e2⟩ := Z.same
  rw [State.setFrames_setFrames] at e1
  have h2 : (T.setVm s.vm).sameButNew (S.setVm s.vm) [] k n := ⟨e1, e2⟩
  have h3 := X.same.trans h2
  rw [List.append_nil] at h3
  exact h3
/-- from the machine's note that E is thrown here with this text -/
def vx_Note (p : Program) (l : Launch) (e : Env) (R : Room) (s : State) (m : MethodId) (args : Array Value) (below : List Frame) (meth : Method) (c : Code) (H : Heap) (locs : List Loc) (cells slots : Nat) (Q : State → Prop) (g : JFrame) (E text : String) : Prop :=
  ∀ T : State, T.heap = H → Stand p l e R s m args below meth c T locs cells slots → ∃ t, Steps p.tables e below ((T.setTop g).pushFrame (.throwNew E (some text) none)) t ∧ Q t
theorem vx_vm {pc : Nat} {ls : Array Slot} {rest : List Value} {Q : State → Prop} (hexec : p.tables.exec = Jvm.exec) (hl : l.stackTraces = false) {cls text : String} {names : List String} {nb : Nat} {A : Nat → Prop}
    (hcls : Bundle.fit cls = true) (hnames : ∀ n ∈ names, Bundle.fit n = true) (hsoe : (cls == "java/lang/StackOverflowError") = false) (hoom : (cls == "java/lang/OutOfMemoryError") = false)
    (hat : ∀ w ∈ vx_atM cls names, w.before args s = true) (hgood : ∀ w ∈ vx_atM cls names, vx_ot w = true)
    (hU : vx_Zq Bundle.tN "UNASSIGNED_STACK" Bundle.steD A s s.heap) (hN : vx_Zq Bundle.tN "SUPPRESSED_SENTINEL" Bundle.listD A s s.heap) (hS : va_S A s.heap H locs) (hsize : ls.size = c.maxLocals)
    (htext : (text == notModelled) = false) (hnb : (stringBytes (stringToUtf16 text)).size ≤ nb) (hnb1 : nb ≤ 1000)
    (hRframes : names.length + 4 < R.frames) (hRlocals : (rest.map fun v => v.category).sum + 10240 ≤ R.locals) (hshort : 13 * names.length + 55 ≤ 10240) (hRcells : cells + 3 ≤ R.cells) (hRslots : slots + (nb + 10) ≤ R.slots) (hlocks : meth.locks = false)
    (k : ∀ (H1 : Heap) (q9 : Addr) (ce : Cell), H.size ≤ H1.size → (∀ q : Nat, q < H.size → H1[q]? = H[q]?) → va_S A s.heap H1 locs → H1[q9]? = some ce → ce.vm = .none → s.vm.findClass cls = some ce.cls → vx_W p l e R s m args below meth c H1 locs (cells + 3) (slots + (nb + 10)) Q (F0 m pc ls rest) q9) :
    vx_Note p l e R s m args below meth c H locs cells slots Q (F0 m pc ls rest) cls text := by
  intro T hT X
  have htr : e.platform.stackTraces = false := (show e.platform.stackTraces = l.stackTraces by rw [X.admits.platform]).trans hl
  have Y := vx_rebase X (R' := { frames := R.frames, locals := R.locals, cells := 3, slots := nb + 10 }) (Nat.le_refl _) (Nat.le_refl _) hRcells hRslots
  have hhp : ((T.setVm s.vm).setFrames (.invoking m args :: below)).heap = H := hT
  have hW0 : s.WarmedH ((T.setVm s.vm).setFrames (.invoking m args :: below)).vm := State.WarmedH.refl s
  have hat' : ∀ w ∈ vx_atM cls names, w.before args ((T.setVm s.vm).setFrames (.invoking m args :: below)) = true := fun w hw => vx_ot_at hW0 rfl (hgood w hw) (hat w hw)
  have hU' : vx_Zq Bundle.tN "UNASSIGNED_STACK" Bundle.steD A ((T.setVm s.vm).setFrames (.invoking m args :: below)) ((T.setVm s.vm).setFrames (.invoking m args :: below)).heap := by rw [hhp]; exact vx_Zq.moved hW0.alike (hU.kept hS.2.1)
  have hN' : vx_Zq Bundle.tN "SUPPRESSED_SENTINEL" Bundle.listD A ((T.setVm s.vm).setFrames (.invoking m args :: below)) ((T.setVm s.vm).setFrames (.invoking m args :: below)).heap := by rw [hhp]; exact vx_Zq.moved hW0.alike (hN.kept hS.2.1)
  obtain ⟨S, q, ce, st, Z, hce, hcl', hv⟩ := vx_vmAt Y hexec htr (cls := cls) (names := names) (text := text) hcls hnames hsoe hoom (vx_own hat' (vx_isRefq hU'.1) (vx_isRefq hN'.1) hU'.2.word hN'.2.word) (fun x hx => nomatch hx) htext
    (by rw [Launch.admits_arrayLengthLimit X.admits]; omega) (by rw [Launch.admits_maxHeapBytes X.admits]; simp only [componentBytes]; omega)
    (g := F0 m pc ls rest) rfl hsize hRframes (by show 2 * 0 + (rest.map fun v => v.category).sum + 10240 ≤ R.locals; omega) hshort (by show 0 + 3 ≤ 3; omega) (by show 0 + (_ + 4 + 6) ≤ nb + 10; omega) hlocks
  obtain ⟨f1, f2⟩ := vx_frame Z.same
  have f1' : H.size ≤ S.heap.size := by rw [← hT]; exact f1
  have f2' : ∀ q : Nat, q < H.size → S.heap[q]? = H[q]? := fun q hq => by
    rw [← hT]
    exact f2 q (by rw [← hT] at hq; exact hq) (fun z hz => nomatch hz)
  have X5 := vx_back9 X Y Z
  have X6 : Stand p l e R s m args below meth c S locs (cells + 3) (slots + (nb + 10)) := { X5 with same := X5.same.mono (by omega) (by omega) }
  obtain ⟨t, a1, b1⟩ := k S.heap q ce f1' f2' ⟨Nat.le_trans hS.1 f1', fun q h1 h2 => (f2' q (Nat.lt_of_lt_of_le h1 hS.1)).trans (hS.2.1 q h1 h2), hS.2.2⟩ hce hv hcl' S rfl X6
  exact ⟨t, st t a1, b1⟩
/-- from the machine's note that NullPointerException is thrown here -/
def vx_NoteN (p : Program) (l : Launch) (e : Env) (R : Room) (s : State) (m : MethodId) (args : Array Value) (below : List Frame) (meth : Method) (c : Code) (H : Heap) (locs : List Loc) (cells slots : Nat) (Q : State → Prop) (g : JFrame) : Prop :=
  ∀ T : State, T.heap = H → Stand p l e R s m args below meth c T locs cells slots → ∃ t, Steps p.tables e below ((T.setTop g).pushFrame (.throwNew "java/lang/NullPointerException" none none)) t ∧ Q t
theorem vx_npe {pc : Nat} {ls : Array Slot} {rest : List Value} {Q : State → Prop} (hexec : p.tables.exec = Jvm.exec) (hl : l.stackTraces = false) {nb : Nat} {A : Nat → Prop}
    (hat : ∀ w ∈ vx_atN nb, w.before args s = true) (hgood : ∀ w ∈ vx_atN nb, vx_ot w = true)
    (hU : vx_Zq Bundle.tN "UNASSIGNED_STACK" Bundle.steD A s s.heap) (hN : vx_Zq Bundle.tN "SUPPRESSED_SENTINEL" Bundle.listD A s s.heap) (hS : va_S A s.heap H locs) (hsize : ls.size = c.maxLocals)
    (hRframes : 7 < R.frames) (hRlocals : (rest.map fun v => v.category).sum + 10240 ≤ R.locals) (hRcells : cells + 1 ≤ R.cells) (hRslots : slots + nb ≤ R.slots) (hlocks : meth.locks = false)
    (k : ∀ (H1 : Heap) (q9 : Addr) (ce : Cell), H.size ≤ H1.size → (∀ q : Nat, q < H.size → H1[q]? = H[q]?) → va_S A s.heap H1 locs → H1[q9]? = some ce → ce.vm = .none → s.vm.findClass "java/lang/NullPointerException" = some ce.cls → vx_W p l e R s m args below meth c H1 locs (cells + 1) (slots + nb) Q (F0 m pc ls rest) q9) :
    vx_NoteN p l e R s m args below meth c H locs cells slots Q (F0 m pc ls rest) := by
  intro T hT X
  have htr : e.platform.stackTraces = false := (show e.platform.stackTraces = l.stackTraces by rw [X.admits.platform]).trans hl
  have Y := vx_rebase X (R' := { frames := R.frames, locals := R.locals, cells := 1, slots := nb }) (Nat.le_refl _) (Nat.le_refl _) hRcells hRslots
  have hhp : ((T.setVm s.vm).setFrames (.invoking m args :: below)).heap = H := hT
  have hW0 : s.WarmedH ((T.setVm s.vm).setFrames (.invoking m args :: below)).vm := State.WarmedH.refl s
  have hat' : ∀ w ∈ vx_atN nb, w.before args ((T.setVm s.vm).setFrames (.invoking m args :: below)) = true := fun w hw => vx_ot_at hW0 rfl (hgood w hw) (hat w hw)
  have hU' : vx_Zq Bundle.tN "UNASSIGNED_STACK" Bundle.steD A ((T.setVm s.vm).setFrames (.invoking m args :: below)) ((T.setVm s.vm).setFrames (.invoking m args :: below)).heap := by rw [hhp]; exact vx_Zq.moved hW0.alike (hU.kept hS.2.1)
  have hN' : vx_Zq Bundle.tN "SUPPRESSED_SENTINEL" Bundle.listD A ((T.setVm s.vm).setFrames (.invoking m args :: below)) ((T.setVm s.vm).setFrames (.invoking m args :: below)).heap := by rw [hhp]; exact vx_Zq.moved hW0.alike (hN.kept hS.2.1)
  obtain ⟨S, q, ce, st, Z, hce, hcl', hv⟩ := vx_npeAt Y hexec htr (n := nb) (vx_own hat' (vx_isRefq hU'.1) (vx_isRefq hN'.1) hU'.2.word hN'.2.word) (fun x hx => nomatch hx)
    (g := F0 m pc ls rest) rfl hsize hRframes (by show 2 * 0 + (rest.map fun v => v.category).sum + 10240 ≤ R.locals; omega) (by show 0 + 1 ≤ 1; omega) (by show 0 + nb ≤ nb; omega) hlocks
  obtain ⟨f1, f2⟩ := vx_frame Z.same
  have f1' : H.size ≤ S.heap.size := by rw [← hT]; exact f1
  have f2' : ∀ q : Nat, q < H.size → S.heap[q]? = H[q]? := fun q hq => by
    rw [← hT]
    exact f2 q (by rw [← hT] at hq; exact hq) (fun z hz => nomatch hz)
  have X5 := vx_back9 X Y Z
  have X6 : Stand p l e R s m args below meth c S locs (cells + 1) (slots + nb) := { X5 with same := X5.same.mono (by omega) (by omega) }
  obtain ⟨t, a1, b1⟩ := k S.heap q ce f1' f2' ⟨Nat.le_trans hS.1 f1', fun q h1 h2 => (f2' q (Nat.lt_of_lt_of_le h1 hS.1)).trans (hS.2.1 q h1 h2), hS.2.2⟩ hce hv hcl' S rfl X6
  exact ⟨t, st t a1, b1⟩
variable {Q : State → Prop} {cc : ByteArray} {pc : Nat} {ls : Array Slot} {rest : List Value}
theorem vx_idivZ (hexec : p.tables.exec = Jvm.exec) (hb : c.code = cc) {a b : Int32} (h0 : b = 0) (d : decode cc pc = .ok (.idiv, 1)) (k : vx_Note p l e R s m args below meth c H locs cells slots Q (F0 m pc ls rest) "java/lang/ArithmeticException" "/ by zero") :
    W p l e R s m args below meth c H locs cells slots Q (F0 m pc ls (.int b :: .int a :: rest)) := by
  intro T hT X
  obtain ⟨t, st, q⟩ := k T hT X
  exact ⟨t, X.idivZero hexec (g := F0 m pc ls (.int b :: .int a :: rest)) rfl (a := a) (rest := rest) (by rw [h0]) (by rw [hb]; exact d) t st, q⟩
theorem vx_iremZ (hexec : p.tables.exec = Jvm.exec) (hb : c.code = cc) {a b : Int32} (h0 : b = 0) (d : decode cc pc = .ok (.irem, 1)) (k : vx_Note p l e R s m args below meth c H locs cells slots Q (F0 m pc ls rest) "java/lang/ArithmeticException" "/ by zero") :
    W p l e R s m args below meth c H locs cells slots Q (F0 m pc ls (.int b :: .int a :: rest)) := by
  intro T hT X
  obtain ⟨t, st, q⟩ := k T hT X
  exact ⟨t, X.iremZero hexec (g := F0 m pc ls (.int b :: .int a :: rest)) rfl (a := a) (rest := rest) (by rw [h0]) (by rw [hb]; exact d) t st, q⟩
theorem vx_ldivZ (hexec : p.tables.exec = Jvm.exec) (hb : c.code = cc) {a b : Int64} (h0 : b = 0) (d : decode cc pc = .ok (.ldiv, 1)) (k : vx_Note p l e R s m args below meth c H locs cells slots Q (F0 m pc ls rest) "java/lang/ArithmeticException" "/ by zero") :
    W p l e R s m args below meth c H locs cells slots Q (F0 m pc ls (.long b :: .long a :: rest)) := by
  intro T hT X
  obtain ⟨t, st, q⟩ := k T hT X
  exact ⟨t, X.ldivZero hexec (g := F0 m pc ls (.long b :: .long a :: rest)) rfl (a := a) (rest := rest) (by rw [h0]) (by rw [hb]; exact d) t st, q⟩
theorem vx_lremZ (hexec : p.tables.exec = Jvm.exec) (hb : c.code = cc) {a b : Int64} (h0 : b = 0) (d : decode cc pc = .ok (.lrem, 1)) (k : vx_Note p l e R s m args below meth c H locs cells slots Q (F0 m pc ls rest) "java/lang/ArithmeticException" "/ by zero") :
    W p l e R s m args below meth c H locs cells slots Q (F0 m pc ls (.long b :: .long a :: rest)) := by
  intro T hT X
  obtain ⟨t, st, q⟩ := k T hT X
  exact ⟨t, X.lremZero hexec (g := F0 m pc ls (.long b :: .long a :: rest)) rfl (a := a) (rest := rest) (by rw [h0]) (by rw [hb]; exact d) t st, q⟩
theorem vx_ialdZ {D : va_G} {cl : List vw_C} {ws : va_W} {tys : List (ClassId × FieldType)} {a : Nat} (hexec : p.tables.exec = Jvm.exec) (hb : c.code = cc) (hK : va_K D cl tys s) (hP : va_P D cl ws H) (q0 t0 : Nat) {cA : ClassId} {n : Nat} {f : Nat → Int32} (ha : ws[q0]? = some (a, .inl (cA, n, .inl f))) (ht : tys[t0]? = some (cA, .int)) {i : Int32} (hout : ¬ vp_in i n) (hdg : decode cc pc = .ok (.iaload, 1))
    (k : ∀ tx : String, tx = (toString "Index " ++ toString i ++ toString " out of bounds for length " ++ toString n : String) → vx_Note p l e R s m args below meth c H locs cells slots Q (F0 m pc ls rest) "java/lang/ArrayIndexOutOfBoundsException" tx) : W p l e R s m args below meth c H locs cells slots Q (F0 m pc ls (.int i :: .ref a :: rest)) := by
  intro T hT X
  obtain ⟨t, st, q⟩ := k _ rfl T hT X
  refine ⟨t, ?_, q⟩
  have h1 := X.ialoadOut hexec (by rw [hT]; exact hP q0 _ ha) ((hK.2 t0 _ ht).1 n (fun j => .int (f j))) (j := i) (by show (i < 0 ∨ (arrV _ _ _).slots.size ≤ _); rw [arrV_size]; exact Classical.byContradiction hout) (g := F0 m pc ls (.int i :: .ref a :: rest)) rfl (rest := rest) rfl (by rw [hb]; exact hdg) t
  simp only [arrV_size] at h1
  exact h1 st
theorem vx_iastZ {D : va_G} {cl : List vw_C} {ws : va_W} {tys : List (ClassId × FieldType)} {a : Nat} (hexec : p.tables.exec = Jvm.exec) (hb : c.code = cc) (hK : va_K D cl tys s) (hP : va_P D cl ws H) (q0 t0 : Nat) {cA : ClassId} {n : Nat} {f : Nat → Int32} (ha : ws[q0]? = some (a, .inl (cA, n, .inl f))) (ht : tys[t0]? = some (cA, .int)) {i : Int32} {x : Int32} (hout : ¬ vp_in i n) (hdg : decode cc pc = .ok (.iastore, 1))
    (k : ∀ tx : String, tx = (toString "Index " ++ toString i ++ toString " out of bounds for length " ++ toString n : String) → vx_Note p l e R s m args below meth c H locs cells slots Q (F0 m pc ls rest) "java/lang/ArrayIndexOutOfBoundsException" tx) : W p l e R s m args below meth c H locs cells slots Q (F0 m pc ls (.int x :: .int i :: .ref a :: rest)) := by
  intro T hT X
  obtain ⟨t, st, q⟩ := k _ rfl T hT X
  refine ⟨t, ?_, q⟩
  have h1 := X.iastoreOut hexec (by rw [hT]; exact hP q0 _ ha) ((hK.2 t0 _ ht).1 n (fun j => .int (f j))) (j := i) (by show (i < 0 ∨ (arrV _ _ _).slots.size ≤ _); rw [arrV_size]; exact Classical.byContradiction hout) (g := F0 m pc ls (.int x :: .int i :: .ref a :: rest)) rfl (rest := rest) rfl (by rw [hb]; exact hdg) t
  simp only [arrV_size] at h1
  exact h1 st
theorem vx_baldZ {D : va_G} {cl : List vw_C} {ws : va_W} {tys : List (ClassId × FieldType)} {a : Nat} (hexec : p.tables.exec = Jvm.exec) (hb : c.code = cc) (hK : va_K D cl tys s) (hP : va_P D cl ws H) (q0 t0 : Nat) {cA : ClassId} {n : Nat} {f : Nat → Int32} (ha : ws[q0]? = some (a, .inl (cA, n, .inl f))) (ht : tys[t0]? = some (cA, .byte)) {i : Int32} (hout : ¬ vp_in i n) (hdg : decode cc pc = .ok (.baload, 1))
    (k : ∀ tx : String, tx = (toString "Index " ++ toString i ++ toString " out of bounds for length " ++ toString n : String) → vx_Note p l e R s m args below meth c H locs cells slots Q (F0 m pc ls rest) "java/lang/ArrayIndexOutOfBoundsException" tx) : W p l e R s m args below meth c H locs cells slots Q (F0 m pc ls (.int i :: .ref a :: rest)) := by
  intro T hT X
  obtain ⟨t, st, q⟩ := k _ rfl T hT X
  refine ⟨t, ?_, q⟩
  have h1 := X.baloadOut hexec (by rw [hT]; exact hP q0 _ ha) ((hK.2 t0 _ ht).1 n (fun j => .int (f j))) (j := i) (by show (i < 0 ∨ (arrV _ _ _).slots.size ≤ _); rw [arrV_size]; exact Classical.byContradiction hout) (g := F0 m pc ls (.int i :: .ref a :: rest)) rfl (rest := rest) rfl (by rw [hb]; exact hdg) t
  simp only [arrV_size] at h1
  exact h1 st
theorem vx_bastZ {D : va_G} {cl : List vw_C} {ws : va_W} {tys : List (ClassId × FieldType)} {a : Nat} (hexec : p.tables.exec = Jvm.exec) (hb : c.code = cc) (hK : va_K D cl tys s) (hP : va_P D cl ws H) (q0 t0 : Nat) {cA : ClassId} {n : Nat} {f : Nat → Int32} (ha : ws[q0]? = some (a, .inl (cA, n, .inl f))) (ht : tys[t0]? = some (cA, .byte)) {i : Int32} {x : Int32} (hout : ¬ vp_in i n) (hdg : decode cc pc = .ok (.bastore, 1))
    (k : ∀ tx : String, tx = (toString "Index " ++ toString i ++ toString " out of bounds for length " ++ toString n : String) → vx_Note p l e R s m args below meth c H locs cells slots Q (F0 m pc ls rest) "java/lang/ArrayIndexOutOfBoundsException" tx) : W p l e R s m args below meth c H locs cells slots Q (F0 m pc ls (.int x :: .int i :: .ref a :: rest)) := by
  intro T hT X
  obtain ⟨t, st, q⟩ := k _ rfl T hT X
  refine ⟨t, ?_, q⟩
  have h1 := X.bastoreOut hexec (by rw [hT]; exact hP q0 _ ha) ((hK.2 t0 _ ht).1 n (fun j => .int (f j))) (j := i) (by show (i < 0 ∨ (arrV _ _ _).slots.size ≤ _); rw [arrV_size]; exact Classical.byContradiction hout) (g := F0 m pc ls (.int x :: .int i :: .ref a :: rest)) rfl (rest := rest) rfl (by rw [hb]; exact hdg) t
  simp only [arrV_size] at h1
  exact h1 st
theorem vx_zaldZ {D : va_G} {cl : List vw_C} {ws : va_W} {tys : List (ClassId × FieldType)} {a : Nat} (hexec : p.tables.exec = Jvm.exec) (hb : c.code = cc) (hK : va_K D cl tys s) (hP : va_P D cl ws H) (q0 t0 : Nat) {cA : ClassId} {n : Nat} {f : Nat → Int32} (ha : ws[q0]? = some (a, .inl (cA, n, .inl f))) (ht : tys[t0]? = some (cA, .boolean)) {i : Int32} (hout : ¬ vp_in i n) (hdg : decode cc pc = .ok (.baload, 1))
    (k : ∀ tx : String, tx = (toString "Index " ++ toString i ++ toString " out of bounds for length " ++ toString n : String) → vx_Note p l e R s m args below meth c H locs cells slots Q (F0 m pc ls rest) "java/lang/ArrayIndexOutOfBoundsException" tx) : W p l e R s m args below meth c H locs cells slots Q (F0 m pc ls (.int i :: .ref a :: rest)) := by
  intro T hT X
  obtain ⟨t, st, q⟩ := k _ rfl T hT X
  refine ⟨t, ?_, q⟩
  have h1 := X.baloadOut hexec (by rw [hT]; exact hP q0 _ ha) ((hK.2 t0 _ ht).1 n (fun j => .int (f j))) (j := i) (by show (i < 0 ∨ (arrV _ _ _).slots.size ≤ _); rw [arrV_size]; exact Classical.byContradiction hout) (g := F0 m pc ls (.int i :: .ref a :: rest)) rfl (rest := rest) rfl (by rw [hb]; exact hdg) t
  simp only [arrV_size] at h1
  exact h1 st
theorem vx_zastZ {D : va_G} {cl : List vw_C} {ws : va_W} {tys : List (ClassId × FieldType)} {a : Nat} (hexec : p.tables.exec = Jvm.exec) (hb : c.code = cc) (hK : va_K D cl tys s) (hP : va_P D cl ws H) (q0 t0 : Nat) {cA : ClassId} {n : Nat} {f : Nat → Int32} (ha : ws[q0]? = some (a, .inl (cA, n, .inl f))) (ht : tys[t0]? = some (cA, .boolean)) {i : Int32} {x : Int32} (hout : ¬ vp_in i n) (hdg : decode cc pc = .ok (.bastore, 1))
    (k : ∀ tx : String, tx = (toString "Index " ++ toString i ++ toString " out of bounds for length " ++ toString n : String) → vx_Note p l e R s m args below meth c H locs cells slots Q (F0 m pc ls rest) "java/lang/ArrayIndexOutOfBoundsException" tx) : W p l e R s m args below meth c H locs cells slots Q (F0 m pc ls (.int x :: .int i :: .ref a :: rest)) := by
  intro T hT X
  obtain ⟨t, st, q⟩ := k _ rfl T hT X
  refine ⟨t, ?_, q⟩
  have h1 := X.bastoreOut hexec (by rw [hT]; exact hP q0 _ ha) ((hK.2 t0 _ ht).1 n (fun j => .int (f j))) (j := i) (by show (i < 0 ∨ (arrV _ _ _).slots.size ≤ _); rw [arrV_size]; exact Classical.byContradiction hout) (g := F0 m pc ls (.int x :: .int i :: .ref a :: rest)) rfl (rest := rest) rfl (by rw [hb]; exact hdg) t
  simp only [arrV_size] at h1
  exact h1 st
theorem vx_caldZ {D : va_G} {cl : List vw_C} {ws : va_W} {tys : List (ClassId × FieldType)} {a : Nat} (hexec : p.tables.exec = Jvm.exec) (hb : c.code = cc) (hK : va_K D cl tys s) (hP : va_P D cl ws H) (q0 t0 : Nat) {cA : ClassId} {n : Nat} {f : Nat → Int32} (ha : ws[q0]? = some (a, .inl (cA, n, .inl f))) (ht : tys[t0]? = some (cA, .char)) {i : Int32} (hout : ¬ vp_in i n) (hdg : decode cc pc = .ok (.caload, 1))
    (k : ∀ tx : String, tx = (toString "Index " ++ toString i ++ toString " out of bounds for length " ++ toString n : String) → vx_Note p l e R s m args below meth c H locs cells slots Q (F0 m pc ls rest) "java/lang/ArrayIndexOutOfBoundsException" tx) : W p l e R s m args below meth c H locs cells slots Q (F0 m pc ls (.int i :: .ref a :: rest)) := by
  intro T hT X
  obtain ⟨t, st, q⟩ := k _ rfl T hT X
  refine ⟨t, ?_, q⟩
  have h1 := X.caloadOut hexec (by rw [hT]; exact hP q0 _ ha) ((hK.2 t0 _ ht).1 n (fun j => .int (f j))) (j := i) (by show (i < 0 ∨ (arrV _ _ _).slots.size ≤ _); rw [arrV_size]; exact Classical.byContradiction hout) (g := F0 m pc ls (.int i :: .ref a :: rest)) rfl (rest := rest) rfl (by rw [hb]; exact hdg) t
  simp only [arrV_size] at h1
  exact h1 st
theorem vx_castZ {D : va_G} {cl : List vw_C} {ws : va_W} {tys : List (ClassId × FieldType)} {a : Nat} (hexec : p.tables.exec = Jvm.exec) (hb : c.code = cc) (hK : va_K D cl tys s) (hP : va_P D cl ws H) (q0 t0 : Nat) {cA : ClassId} {n : Nat} {f : Nat → Int32} (ha : ws[q0]? = some (a, .inl (cA, n, .inl f))) (ht : tys[t0]? = some (cA, .char)) {i : Int32} {x : Int32} (hout : ¬ vp_in i n) (hdg : decode cc pc = .ok (.castore, 1))
    (k : ∀ tx : String, tx = (toString "Index " ++ toString i ++ toString " out of bounds for length " ++ toString n : String) → vx_Note p l e R s m args below meth c H locs cells slots Q (F0 m pc ls rest) "java/lang/ArrayIndexOutOfBoundsException" tx) : W p l e R s m args below meth c H locs cells slots Q (F0 m pc ls (.int x :: .int i :: .ref a :: rest)) := by
  intro T hT X
  obtain ⟨t, st, q⟩ := k _ rfl T hT X
  refine ⟨t, ?_, q⟩
  have h1 := X.castoreOut hexec (by rw [hT]; exact hP q0 _ ha) ((hK.2 t0 _ ht).1 n (fun j => .int (f j))) (j := i) (by show (i < 0 ∨ (arrV _ _ _).slots.size ≤ _); rw [arrV_size]; exact Classical.byContradiction hout) (g := F0 m pc ls (.int x :: .int i :: .ref a :: rest)) rfl (rest := rest) rfl (by rw [hb]; exact hdg) t
  simp only [arrV_size] at h1
  exact h1 st
theorem vx_saldZ {D : va_G} {cl : List vw_C} {ws : va_W} {tys : List (ClassId × FieldType)} {a : Nat} (hexec : p.tables.exec = Jvm.exec) (hb : c.code = cc) (hK : va_K D cl tys s) (hP : va_P D cl ws H) (q0 t0 : Nat) {cA : ClassId} {n : Nat} {f : Nat → Int32} (ha : ws[q0]? = some (a, .inl (cA, n, .inl f))) (ht : tys[t0]? = some (cA, .short)) {i : Int32} (hout : ¬ vp_in i n) (hdg : decode cc pc = .ok (.saload, 1))
    (k : ∀ tx : String, tx = (toString "Index " ++ toString i ++ toString " out of bounds for length " ++ toString n : String) → vx_Note p l e R s m args below meth c H locs cells slots Q (F0 m pc ls rest) "java/lang/ArrayIndexOutOfBoundsException" tx) : W p l e R s m args below meth c H locs cells slots Q (F0 m pc ls (.int i :: .ref a :: rest)) := by
  intro T hT X
  obtain ⟨t, st, q⟩ := k _ rfl T hT X
  refine ⟨t, ?_, q⟩
  have h1 := X.saloadOut hexec (by rw [hT]; exact hP q0 _ ha) ((hK.2 t0 _ ht).1 n (fun j => .int (f j))) (j := i) (by show (i < 0 ∨ (arrV _ _ _).slots.size ≤ _); rw [arrV_size]; exact Classical.byContradiction hout) (g := F0 m pc ls (.int i :: .ref a :: rest)) rfl (rest := rest) rfl (by rw [hb]; exact hdg) t
  simp only [arrV_size] at h1
  exact h1 st
theorem vx_sastZ {D : va_G} {cl : List vw_C} {ws : va_W} {tys : List (ClassId × FieldType)} {a : Nat} (hexec : p.tables.exec = Jvm.exec) (hb : c.code = cc) (hK : va_K D cl tys s) (hP : va_P D cl ws H) (q0 t0 : Nat) {cA : ClassId} {n : Nat} {f : Nat → Int32} (ha : ws[q0]? = some (a, .inl (cA, n, .inl f))) (ht : tys[t0]? = some (cA, .short)) {i : Int32} {x : Int32} (hout : ¬ vp_in i n) (hdg : decode cc pc = .ok (.sastore, 1))
    (k : ∀ tx : String, tx = (toString "Index " ++ toString i ++ toString " out of bounds for length " ++ toString n : String) → vx_Note p l e R s m args below meth c H locs cells slots Q (F0 m pc ls rest) "java/lang/ArrayIndexOutOfBoundsException" tx) : W p l e R s m args below meth c H locs cells slots Q (F0 m pc ls (.int x :: .int i :: .ref a :: rest)) := by
  intro T hT X
  obtain ⟨t, st, q⟩ := k _ rfl T hT X
  refine ⟨t, ?_, q⟩
  have h1 := X.sastoreOut hexec (by rw [hT]; exact hP q0 _ ha) ((hK.2 t0 _ ht).1 n (fun j => .int (f j))) (j := i) (by show (i < 0 ∨ (arrV _ _ _).slots.size ≤ _); rw [arrV_size]; exact Classical.byContradiction hout) (g := F0 m pc ls (.int x :: .int i :: .ref a :: rest)) rfl (rest := rest) rfl (by rw [hb]; exact hdg) t
  simp only [arrV_size] at h1
  exact h1 st
theorem vx_laldZ {D : va_G} {cl : List vw_C} {ws : va_W} {tys : List (ClassId × FieldType)} {a : Nat} (hexec : p.tables.exec = Jvm.exec) (hb : c.code = cc) (hK : va_K D cl tys s) (hP : va_P D cl ws H) (q0 t0 : Nat) {cA : ClassId} {n : Nat} {f : Nat → Int64} (ha : ws[q0]? = some (a, .inl (cA, n, .inr (.inl f)))) (ht : tys[t0]? = some (cA, .long)) {i : Int32} (hout : ¬ vp_in i n) (hdg : decode cc pc = .ok (.laload, 1))
    (k : ∀ tx : String, tx = (toString "Index " ++ toString i ++ toString " out of bounds for length " ++ toString n : String) → vx_Note p l e R s m args below meth c H locs cells slots Q (F0 m pc ls rest) "java/lang/ArrayIndexOutOfBoundsException" tx) : W p l e R s m args below meth c H locs cells slots Q (F0 m pc ls (.int i :: .ref a :: rest)) := by
  intro T hT X
  obtain ⟨t, st, q⟩ := k _ rfl T hT X
  refine ⟨t, ?_, q⟩
  have h1 := X.laloadOut hexec (by rw [hT]; exact hP q0 _ ha) ((hK.2 t0 _ ht).1 n (fun j => .long (f j))) (j := i) (by show (i < 0 ∨ (arrV _ _ _).slots.size ≤ _); rw [arrV_size]; exact Classical.byContradiction hout) (g := F0 m pc ls (.int i :: .ref a :: rest)) rfl (rest := rest) rfl (by rw [hb]; exact hdg) t
  simp only [arrV_size] at h1
  exact h1 st
theorem vx_lastZ {D : va_G} {cl : List vw_C} {ws : va_W} {tys : List (ClassId × FieldType)} {a : Nat} (hexec : p.tables.exec = Jvm.exec) (hb : c.code = cc) (hK : va_K D cl tys s) (hP : va_P D cl ws H) (q0 t0 : Nat) {cA : ClassId} {n : Nat} {f : Nat → Int64} (ha : ws[q0]? = some (a, .inl (cA, n, .inr (.inl f)))) (ht : tys[t0]? = some (cA, .long)) {i : Int32} {x : Int64} (hout : ¬ vp_in i n) (hdg : decode cc pc = .ok (.lastore, 1))
    (k : ∀ tx : String, tx = (toString "Index " ++ toString i ++ toString " out of bounds for length " ++ toString n : String) → vx_Note p l e R s m args below meth c H locs cells slots Q (F0 m pc ls rest) "java/lang/ArrayIndexOutOfBoundsException" tx) : W p l e R s m args below meth c H locs cells slots Q (F0 m pc ls (.long x :: .int i :: .ref a :: rest)) := by
  intro T hT X
  obtain ⟨t, st, q⟩ := k _ rfl T hT X
  refine ⟨t, ?_, q⟩
  have h1 := X.lastoreOut hexec (by rw [hT]; exact hP q0 _ ha) ((hK.2 t0 _ ht).1 n (fun j => .long (f j))) (j := i) (by show (i < 0 ∨ (arrV _ _ _).slots.size ≤ _); rw [arrV_size]; exact Classical.byContradiction hout) (g := F0 m pc ls (.long x :: .int i :: .ref a :: rest)) rfl (rest := rest) rfl (by rw [hb]; exact hdg) t
  simp only [arrV_size] at h1
  exact h1 st
theorem vx_faldZ {D : va_G} {cl : List vw_C} {ws : va_W} {tys : List (ClassId × FieldType)} {a : Nat} (hexec : p.tables.exec = Jvm.exec) (hb : c.code = cc) (hK : va_K D cl tys s) (hP : va_P D cl ws H) (q0 t0 : Nat) {cA : ClassId} {n : Nat} {f : Nat → UInt32} (ha : ws[q0]? = some (a, .inl (cA, n, .inr (.inr (.inl f))))) (ht : tys[t0]? = some (cA, .float)) {i : Int32} (hout : ¬ vp_in i n) (hdg : decode cc pc = .ok (.faload, 1))
    (k : ∀ tx : String, tx = (toString "Index " ++ toString i ++ toString " out of bounds for length " ++ toString n : String) → vx_Note p l e R s m args below meth c H locs cells slots Q (F0 m pc ls rest) "java/lang/ArrayIndexOutOfBoundsException" tx) : W p l e R s m args below meth c H locs cells slots Q (F0 m pc ls (.int i :: .ref a :: rest)) := by
  intro T hT X
  obtain ⟨t, st, q⟩ := k _ rfl T hT X
  refine ⟨t, ?_, q⟩
  have h1 := X.faloadOut hexec (by rw [hT]; exact hP q0 _ ha) ((hK.2 t0 _ ht).1 n (fun j => .float (f j))) (j := i) (by show (i < 0 ∨ (arrV _ _ _).slots.size ≤ _); rw [arrV_size]; exact Classical.byContradiction hout) (g := F0 m pc ls (.int i :: .ref a :: rest)) rfl (rest := rest) rfl (by rw [hb]; exact hdg) t
  simp only [arrV_size] at h1
  exact h1 st
theorem vx_fastZ {D : va_G} {cl : List vw_C} {ws : va_W} {tys : List (ClassId × FieldType)} {a : Nat} (hexec : p.tables.exec = Jvm.exec) (hb : c.code = cc) (hK : va_K D cl tys s) (hP : va_P D cl ws H) (q0 t0 : Nat) {cA : ClassId} {n : Nat} {f : Nat → UInt32} (ha : ws[q0]? = some (a, .inl (cA, n, .inr (.inr (.inl f))))) (ht : tys[t0]? = some (cA, .float)) {i : Int32} {x : UInt32} (hout : ¬ vp_in i n) (hdg : decode cc pc = .ok (.fastore, 1))
    (k : ∀ tx : String, tx = (toString "Index " ++ toString i ++ toString " out of bounds for length " ++ toString n : String) → vx_Note p l e R s m args below meth c H locs cells slots Q (F0 m pc ls rest) "java/lang/ArrayIndexOutOfBoundsException" tx) : W p l e R s m args below meth c H locs cells slots Q (F0 m pc ls (.float x :: .int i :: .ref a :: rest)) := by
  intro T hT X
  obtain ⟨t, st, q⟩ := k _ rfl T hT X
  refine ⟨t, ?_, q⟩
  have h1 := X.fastoreOut hexec (by rw [hT]; exact hP q0 _ ha) ((hK.2 t0 _ ht).1 n (fun j => .float (f j))) (j := i) (by show (i < 0 ∨ (arrV _ _ _).slots.size ≤ _); rw [arrV_size]; exact Classical.byContradiction hout) (g := F0 m pc ls (.float x :: .int i :: .ref a :: rest)) rfl (rest := rest) rfl (by rw [hb]; exact hdg) t
  simp only [arrV_size] at h1
  exact h1 st
theorem vx_daldZ {D : va_G} {cl : List vw_C} {ws : va_W} {tys : List (ClassId × FieldType)} {a : Nat} (hexec : p.tables.exec = Jvm.exec) (hb : c.code = cc) (hK : va_K D cl tys s) (hP : va_P D cl ws H) (q0 t0 : Nat) {cA : ClassId} {n : Nat} {f : Nat → UInt64} (ha : ws[q0]? = some (a, .inl (cA, n, .inr (.inr (.inr (.inl f)))))) (ht : tys[t0]? = some (cA, .double)) {i : Int32} (hout : ¬ vp_in i n) (hdg : decode cc pc = .ok (.daload, 1))
    (k : ∀ tx : String, tx = (toString "Index " ++ toString i ++ toString " out of bounds for length " ++ toString n : String) → vx_Note p l e R s m args below meth c H locs cells slots Q (F0 m pc ls rest) "java/lang/ArrayIndexOutOfBoundsException" tx) : W p l e R s m args below meth c H locs cells slots Q (F0 m pc ls (.int i :: .ref a :: rest)) := by
  intro T hT X
  obtain ⟨t, st, q⟩ := k _ rfl T hT X
  refine ⟨t, ?_, q⟩
  have h1 := X.daloadOut hexec (by rw [hT]; exact hP q0 _ ha) ((hK.2 t0 _ ht).1 n (fun j => .double (f j))) (j := i) (by show (i < 0 ∨ (arrV _ _ _).slots.size ≤ _); rw [arrV_size]; exact Classical.byContradiction hout) (g := F0 m pc ls (.int i :: .ref a :: rest)) rfl (rest := rest) rfl (by rw [hb]; exact hdg) t
  simp only [arrV_size] at h1
  exact h1 st
theorem vx_dastZ {D : va_G} {cl : List vw_C} {ws : va_W} {tys : List (ClassId × FieldType)} {a : Nat} (hexec : p.tables.exec = Jvm.exec) (hb : c.code = cc) (hK : va_K D cl tys s) (hP : va_P D cl ws H) (q0 t0 : Nat) {cA : ClassId} {n : Nat} {f : Nat → UInt64} (ha : ws[q0]? = some (a, .inl (cA, n, .inr (.inr (.inr (.inl f)))))) (ht : tys[t0]? = some (cA, .double)) {i : Int32} {x : UInt64} (hout : ¬ vp_in i n) (hdg : decode cc pc = .ok (.dastore, 1))
    (k : ∀ tx : String, tx = (toString "Index " ++ toString i ++ toString " out of bounds for length " ++ toString n : String) → vx_Note p l e R s m args below meth c H locs cells slots Q (F0 m pc ls rest) "java/lang/ArrayIndexOutOfBoundsException" tx) : W p l e R s m args below meth c H locs cells slots Q (F0 m pc ls (.double x :: .int i :: .ref a :: rest)) := by
  intro T hT X
  obtain ⟨t, st, q⟩ := k _ rfl T hT X
  refine ⟨t, ?_, q⟩
  have h1 := X.dastoreOut hexec (by rw [hT]; exact hP q0 _ ha) ((hK.2 t0 _ ht).1 n (fun j => .double (f j))) (j := i) (by show (i < 0 ∨ (arrV _ _ _).slots.size ≤ _); rw [arrV_size]; exact Classical.byContradiction hout) (g := F0 m pc ls (.double x :: .int i :: .ref a :: rest)) rfl (rest := rest) rfl (by rw [hb]; exact hdg) t
  simp only [arrV_size] at h1
  exact h1 st
theorem vx_arraylengthN (hexec : p.tables.exec = Jvm.exec) (hb : c.code = cc) (hdg : decode cc pc = .ok (.arraylength, 1)) (k : vx_NoteN p l e R s m args below meth c H locs cells slots Q (F0 m pc ls rest)) : W p l e R s m args below meth c H locs cells slots Q (F0 m pc ls (.null :: rest)) := by
  intro T hT X
  obtain ⟨t, st, q⟩ := k T hT X
  exact ⟨t, X.arraylengthNull hexec (g := F0 m pc ls (.null :: rest)) rfl (rest := rest) rfl (by rw [hb]; exact hdg) t st, q⟩
theorem vx_ialoadN (hexec : p.tables.exec = Jvm.exec) (hb : c.code = cc) {i : Int32} (hdg : decode cc pc = .ok (.iaload, 1)) (k : vx_NoteN p l e R s m args below meth c H locs cells slots Q (F0 m pc ls rest)) : W p l e R s m args below meth c H locs cells slots Q (F0 m pc ls (.int i :: .null :: rest)) := by
  intro T hT X
  obtain ⟨t, st, q⟩ := k T hT X
  exact ⟨t, X.ialoadNull hexec (g := F0 m pc ls (.int i :: .null :: rest)) rfl (rest := rest) rfl (by rw [hb]; exact hdg) t st, q⟩
theorem vx_laloadN (hexec : p.tables.exec = Jvm.exec) (hb : c.code = cc) {i : Int32} (hdg : decode cc pc = .ok (.laload, 1)) (k : vx_NoteN p l e R s m args below meth c H locs cells slots Q (F0 m pc ls rest)) : W p l e R s m args below meth c H locs cells slots Q (F0 m pc ls (.int i :: .null :: rest)) := by
  intro T hT X
  obtain ⟨t, st, q⟩ := k T hT X
  exact ⟨t, X.laloadNull hexec (g := F0 m pc ls (.int i :: .null :: rest)) rfl (rest := rest) rfl (by rw [hb]; exact hdg) t st, q⟩
theorem vx_faloadN (hexec : p.tables.exec = Jvm.exec) (hb : c.code = cc) {i : Int32} (hdg : decode cc pc = .ok (.faload, 1)) (k : vx_NoteN p l e R s m args below meth c H locs cells slots Q (F0 m pc ls rest)) : W p l e R s m args below meth c H locs cells slots Q (F0 m pc ls (.int i :: .null :: rest)) := by
  intro T hT X
  obtain ⟨t, st, q⟩ := k T hT X
  exact ⟨t, X.faloadNull hexec (g := F0 m pc ls (.int i :: .null :: rest)) rfl (rest := rest) rfl (by rw [hb]; exact hdg) t st, q⟩
theorem vx_daloadN (hexec : p.tables.exec = Jvm.exec) (hb : c.code = cc) {i : Int32} (hdg : decode cc pc = .ok (.daload, 1)) (k : vx_NoteN p l e R s m args below meth c H locs cells slots Q (F0 m pc ls rest)) : W p l e R s m args below meth c H locs cells slots Q (F0 m pc ls (.int i :: .null :: rest)) := by
  intro T hT X
  obtain ⟨t, st, q⟩ := k T hT X
  exact ⟨t, X.daloadNull hexec (g := F0 m pc ls (.int i :: .null :: rest)) rfl (rest := rest) rfl (by rw [hb]; exact hdg) t st, q⟩
theorem vx_aaloadN (hexec : p.tables.exec = Jvm.exec) (hb : c.code = cc) {i : Int32} (hdg : decode cc pc = .ok (.aaload, 1)) (k : vx_NoteN p l e R s m args below meth c H locs cells slots Q (F0 m pc ls rest)) : W p l e R s m args below meth c H locs cells slots Q (F0 m pc ls (.int i :: .null :: rest)) := by
  intro T hT X
  obtain ⟨t, st, q⟩ := k T hT X
  exact ⟨t, X.aaloadNull hexec (g := F0 m pc ls (.int i :: .null :: rest)) rfl (rest := rest) rfl (by rw [hb]; exact hdg) t st, q⟩
theorem vx_baloadN (hexec : p.tables.exec = Jvm.exec) (hb : c.code = cc) {i : Int32} (hdg : decode cc pc = .ok (.baload, 1)) (k : vx_NoteN p l e R s m args below meth c H locs cells slots Q (F0 m pc ls rest)) : W p l e R s m args below meth c H locs cells slots Q (F0 m pc ls (.int i :: .null :: rest)) := by
  intro T hT X
  obtain ⟨t, st, q⟩ := k T hT X
  exact ⟨t, X.baloadNull hexec (g := F0 m pc ls (.int i :: .null :: rest)) rfl (rest := rest) rfl (by rw [hb]; exact hdg) t st, q⟩
theorem vx_caloadN (hexec : p.tables.exec = Jvm.exec) (hb : c.code = cc) {i : Int32} (hdg : decode cc pc = .ok (.caload, 1)) (k : vx_NoteN p l e R s m args below meth c H locs cells slots Q (F0 m pc ls rest)) : W p l e R s m args below meth c H locs cells slots Q (F0 m pc ls (.int i :: .null :: rest)) := by
  intro T hT X
  obtain ⟨t, st, q⟩ := k T hT X
  exact ⟨t, X.caloadNull hexec (g := F0 m pc ls (.int i :: .null :: rest)) rfl (rest := rest) rfl (by rw [hb]; exact hdg) t st, q⟩
theorem vx_saloadN (hexec : p.tables.exec = Jvm.exec) (hb : c.code = cc) {i : Int32} (hdg : decode cc pc = .ok (.saload, 1)) (k : vx_NoteN p l e R s m args below meth c H locs cells slots Q (F0 m pc ls rest)) : W p l e R s m args below meth c H locs cells slots Q (F0 m pc ls (.int i :: .null :: rest)) := by
  intro T hT X
  obtain ⟨t, st, q⟩ := k T hT X
  exact ⟨t, X.saloadNull hexec (g := F0 m pc ls (.int i :: .null :: rest)) rfl (rest := rest) rfl (by rw [hb]; exact hdg) t st, q⟩
theorem vx_iastoreN (hexec : p.tables.exec = Jvm.exec) (hb : c.code = cc) {x : Int32} {i : Int32} (hdg : decode cc pc = .ok (.iastore, 1)) (k : vx_NoteN p l e R s m args below meth c H locs cells slots Q (F0 m pc ls rest)) : W p l e R s m args below meth c H locs cells slots Q (F0 m pc ls (.int x :: .int i :: .null :: rest)) := by
  intro T hT X
  obtain ⟨t, st, q⟩ := k T hT X
  exact ⟨t, X.iastoreNull hexec (g := F0 m pc ls (.int x :: .int i :: .null :: rest)) rfl (rest := rest) rfl (by rw [hb]; exact hdg) t st, q⟩
theorem vx_lastoreN (hexec : p.tables.exec = Jvm.exec) (hb : c.code = cc) {x : Int64} {i : Int32} (hdg : decode cc pc = .ok (.lastore, 1)) (k : vx_NoteN p l e R s m args below meth c H locs cells slots Q (F0 m pc ls rest)) : W p l e R s m args below meth c H locs cells slots Q (F0 m pc ls (.long x :: .int i :: .null :: rest)) := by
  intro T hT X
  obtain ⟨t, st, q⟩ := k T hT X
  exact ⟨t, X.lastoreNull hexec (g := F0 m pc ls (.long x :: .int i :: .null :: rest)) rfl (rest := rest) rfl (by rw [hb]; exact hdg) t st, q⟩
theorem vx_fastoreN (hexec : p.tables.exec = Jvm.exec) (hb : c.code = cc) {x : UInt32} {i : Int32} (hdg : decode cc pc = .ok (.fastore, 1)) (k : vx_NoteN p l e R s m args below meth c H locs cells slots Q (F0 m pc ls rest)) : W p l e R s m args below meth c H locs cells slots Q (F0 m pc ls (.float x :: .int i :: .null :: rest)) := by
  intro T hT X
  obtain ⟨t, st, q⟩ := k T hT X
  exact ⟨t, X.fastoreNull hexec (g := F0 m pc ls (.float x :: .int i :: .null :: rest)) rfl (rest := rest) rfl (by rw [hb]; exact hdg) t st, q⟩
theorem vx_dastoreN (hexec : p.tables.exec = Jvm.exec) (hb : c.code = cc) {x : UInt64} {i : Int32} (hdg : decode cc pc = .ok (.dastore, 1)) (k : vx_NoteN p l e R s m args below meth c H locs cells slots Q (F0 m pc ls rest)) : W p l e R s m args below meth c H locs cells slots Q (F0 m pc ls (.double x :: .int i :: .null :: rest)) := by
  intro T hT X
  obtain ⟨t, st, q⟩ := k T hT X
  exact ⟨t, X.dastoreNull hexec (g := F0 m pc ls (.double x :: .int i :: .null :: rest)) rfl (rest := rest) rfl (by rw [hb]; exact hdg) t st, q⟩
theorem vx_bastoreN (hexec : p.tables.exec = Jvm.exec) (hb : c.code = cc) {x : Int32} {i : Int32} (hdg : decode cc pc = .ok (.bastore, 1)) (k : vx_NoteN p l e R s m args below meth c H locs cells slots Q (F0 m pc ls rest)) : W p l e R s m args below meth c H locs cells slots Q (F0 m pc ls (.int x :: .int i :: .null :: rest)) := by
  intro T hT X
  obtain ⟨t, st, q⟩ := k T hT X
  exact ⟨t, X.bastoreNull hexec (g := F0 m pc ls (.int x :: .int i :: .null :: rest)) rfl (rest := rest) rfl (by rw [hb]; exact hdg) t st, q⟩
theorem vx_castoreN (hexec : p.tables.exec = Jvm.exec) (hb : c.code = cc) {x : Int32} {i : Int32} (hdg : decode cc pc = .ok (.castore, 1)) (k : vx_NoteN p l e R s m args below meth c H locs cells slots Q (F0 m pc ls rest)) : W p l e R s m args below meth c H locs cells slots Q (F0 m pc ls (.int x :: .int i :: .null :: rest)) := by
  intro T hT X
  obtain ⟨t, st, q⟩ := k T hT X
  exact ⟨t, X.castoreNull hexec (g := F0 m pc ls (.int x :: .int i :: .null :: rest)) rfl (rest := rest) rfl (by rw [hb]; exact hdg) t st, q⟩
theorem vx_sastoreN (hexec : p.tables.exec = Jvm.exec) (hb : c.code = cc) {x : Int32} {i : Int32} (hdg : decode cc pc = .ok (.sastore, 1)) (k : vx_NoteN p l e R s m args below meth c H locs cells slots Q (F0 m pc ls rest)) : W p l e R s m args below meth c H locs cells slots Q (F0 m pc ls (.int x :: .int i :: .null :: rest)) := by
  intro T hT X
  obtain ⟨t, st, q⟩ := k T hT X
  exact ⟨t, X.sastoreNull hexec (g := F0 m pc ls (.int x :: .int i :: .null :: rest)) rfl (rest := rest) rfl (by rw [hb]; exact hdg) t st, q⟩
theorem vx_invokeN {own C : String} {index maxL : Nat} {y : MethodName} {bytes : ByteArray} {ret : Option FieldType} (hexec : p.tables.exec = Jvm.exec) (hb : c.code = cc) (hown : s.vm.findClass own = some m.cls) (hlink : (Cond.methodLink own index y).before args s = true) (hinst : (Cond.instanceMethod y).before args s = true) (hcode : (Cond.code y bytes maxL ret).before args s = true) (hsel : (Cond.selects C y y).before args s = true)
    (hx : y.cls ≠ "java/lang/invoke/MethodHandle" ∧ y.cls ≠ "java/lang/invoke/VarHandle") {As : List Value} (hlen : (parseMethodDescriptor y.desc).map (fun d => d.parameters.length) = some As.length) (hdg : decode cc pc = .ok (.invokevirtual index, 3))
    (k : vx_NoteN p l e R s m args below meth c H locs cells slots Q (F0 m pc ls rest)) {st0 : List Value} (hst : st0 = As.reverse ++ .null :: rest) : W p l e R s m args below meth c H locs cells slots Q (F0 m pc ls st0) := by
  intro T hT X
  obtain ⟨r0, r, hn, hrm, hstR, hsigR⟩ := va_Decl.of hinst hcode
  obtain ⟨c2, r2, m2, q1, q2, q3, q4, kP, hkP, hkPi⟩ := Cond.selects_spec hsel
  cases hn.symm.trans q3
  have hl9 : As.length = r.sig.parameters.length := by
    rw [hsigR] at hlen
    exact (Option.some.inj hlen).symm
  obtain ⟨vm', X1, st1⟩ := X.invokevirtualNull hexec hown hlink hn hrm hstR hkP hkPi hx (g := F0 m pc ls st0) rfl (argsL := As) (rest := rest) hl9 hst (by rw [hb]; exact hdg)
  obtain ⟨t, st, q⟩ := k (T.setVm vm') hT X1
  exact ⟨t, st1 t st, q⟩
theorem vx_newarrayZ {atype : ArrayType} (hexec : p.tables.exec = Jvm.exec) (hb : c.code = cc) {n : Int32} (h0 : n < 0) (hdg : decode cc pc = .ok (.newarray atype, 2)) (k : ∀ tx : String, tx = toString n → vx_Note p l e R s m args below meth c H locs cells slots Q (F0 m pc ls rest) "java/lang/NegativeArraySizeException" tx) : W p l e R s m args below meth c H locs cells slots Q (F0 m pc ls (.int n :: rest)) := by
  intro T hT X
  obtain ⟨t, st, q⟩ := k _ rfl T hT X
  exact ⟨t, X.newarrayNegative hexec (g := F0 m pc ls (.int n :: rest)) rfl h0 (rest := rest) rfl (by rw [hb]; exact hdg) t st, q⟩
end
end VXM
/-! ===== END ===== -/
/-! ===== BEGIN an exception as an object: made, kept, thrown later (no traces kept) ===== -/
section VXK
variable {p : Program} {l : Launch} {e : Env} {R : Room} {s : State} {m₀ : MethodId} {args : Array Value} {below : List Frame} {meth : Method} {c : Code} {W : State} {locs : List Loc} {cells slots : Nat}
set_option maxHeartbeats 1000000 in
theorem vx_ctorMadeS (X : Stand p l e R s m₀ args below meth c W locs cells slots) (hexec : p.tables.exec = Jvm.exec) (htr : e.platform.stackTraces = false) {own cls : String} {names : List String} {ic : Nat}
    (hown : s.vm.findClass own = some m₀.cls) (hcls : Bundle.fit cls = true) (hnames : ∀ n ∈ names, Bundle.fit n = true)
    (h : ∀ a ∈ Bundle.ownAtoms own ic cls names, a.before args s = true)
    (hlocs : ∀ x ∈ locs, ∀ cell, s.heap[x.base]? = some cell → cell.vm.isStatics = false)
    {a : Addr} {cX : ClassId} {kX : Class} (hfoundX : s.vm.findClass cls = some cX) (hkX : s.vm.classes[cX]? = some kX) (hcell : W.heap[a]? = some (freshCell cX kX)) (hnew : s.heap.size ≤ a)
    {msg : Value} (hmsg : msg.isRef = true)
    {g : JFrame} (hg : g.method = m₀) (hsize : g.locals.size = c.maxLocals) {rest : List Value} (hstack : g.stack = msg :: .ref a :: .ref a :: rest)
    (hd6 : decode c.code g.pc = .ok (.invokespecial ic, 3))
    (hRframes : names.length + 3 < R.frames) (hRlocals : 2 * g.monitorRoom + ((Value.ref a :: rest).map fun v => v.category).sum + (13 * (names.length + 1) + 42) ≤ R.locals) :
    ∃ (V : State) (ce : Cell) (L : List Loc), Stand p l e R s m₀ args below meth c (V.setCell a ce) (locs ++ L) cells slots ∧ (∀ y ∈ L, y.base = a) ∧ a < V.heap.size ∧ ce.cls = cX ∧ ce.vm = .none ∧
      ∀ target, Steps p.tables e below ((V.setCell a ce).setTop { g with stack := .ref a :: rest, pc := g.pc + 3 }) target → Steps p.tables e below (W.setTop g) target := by
  have howns : e.platform.frameOwnsMonitors = true := by rw [X.admits.platform]
  have hfin : e.platform.finalization = false := by rw [X.admits.platform]
  have hpl : e.platform.magicAccessors = ({} : Platform).magicAccessors := by rw [X.admits.platform]
  have a' : ∀ x, x ∈ Bundle.ownAtoms own ic cls names → x.holds args s none s [] = true := fun x hx => h x hx
  obtain ⟨T, Z0, L, -, Y⟩ := ThrowableC.of_atoms (args := args) howns hfin hpl (fun x hx => h x (by simp [Bundle.ownAtoms, hx]))
  obtain ⟨Z, M, LZ, LM, hnZ⟩ := Init0T.ofS_atoms (args := args) hpl L Y (fun x hx => h x (by simp [Bundle.ownAtoms, hx]))
  obtain ⟨P1, Ps, hlen, L1, hL, hP1m, hlink1, hlink⟩ := Bundle.chainS (args := args) hpl hnZ names cls hcls hnames (fun x hx => h x (by simp [Bundle.ownAtoms, hx]))
  have hfound : s.vm.findClass cls = some P1.m.cls := findClass_of_methodNamed hP1m
  cases Option.some.inj (hfoundX.symm.trans hfound)
  obtain ⟨c1, kX', hc1, hk, hord, -, -, hn6⟩ := Cond.instantiable_spec (a' (.instantiable cls 6) (by simp [Bundle.ownAtoms]))
  cases Option.some.inj (hc1.symm.trans hfound)
  cases Option.some.inj (hkX.symm.trans hk)
  have hsel0 : selectMethod e.platform s.vm P1.m.cls T.fill0 = .method T.fill0 := by
    obtain ⟨c2, r2, m2, q1, q2, q3, q4, -⟩ := Cond.selects_spec (a' (.selects cls Bundle.tFill0 Bundle.tFill0) (by simp [Bundle.ownAtoms]))
    cases Option.some.inj (q1.symm.trans hfound)
    cases Option.some.inj (q2.symm.trans (State.methodFound?_of_named Y.fill0 (by decide)))
    cases Option.some.inj (q3.symm.trans Y.fill0)
    rw [Launch.admits_selectMethod X.admits]; exact q4
  have hselF : selectMethod e.platform s.vm P1.m.cls T.fill = .method T.fill := by
    obtain ⟨c2, r2, m2, q1, q2, q3, q4, -⟩ := Cond.selects_spec (a' (.selects cls Bundle.tFill Bundle.tFill) (by simp [Bundle.ownAtoms]))
    cases Option.some.inj (q1.symm.trans hfound)
    cases Option.some.inj (q2.symm.trans (State.methodFound?_of_named Y.fill (by decide)))
    cases Option.some.inj (q3.symm.trans Y.fill)
    rw [Launch.admits_selectMethod X.admits]; exact q4
  obtain ⟨cellS0, hcS0, hiss⟩ := Y.statics
  obtain ⟨u0, hu0⟩ := Cond.staticRefV Y.unassigned L.unassignedStatic L.statics hcS0 hiss (a' (.isRef (.static Bundle.tN "UNASSIGNED_STACK" Bundle.steD)) (by simp [Bundle.ownAtoms]))
  obtain ⟨sen, hsen⟩ := Cond.staticRefV Y.sentinel L.sentinelStatic L.statics hcS0 hiss (a' (.isRef (.static Bundle.tN "SUPPRESSED_SENTINEL" Bundle.listD)) (by simp [Bundle.ownAtoms]))
  obtain ⟨ci198, i198, fB, hk198, hg198, ha198, hsB, -, hnB, htB, hffB⟩ := Cond.ownField (t := .object "java/lang/Object") Y.found L.cls (by decide +kernel) (a' (.fieldLink Bundle.tN 198 Bundle.tN "backtrace" "Ljava/lang/Object;") (by simp [Bundle.ownAtoms])) (a' (.lays Bundle.tN Bundle.tN "backtrace" "Ljava/lang/Object;") (by simp [Bundle.ownAtoms])) e.platform hpl
  obtain ⟨cellS, hcS', heS, -, hkeep⟩ := X.same.2.2.2.2.2 T.aS cellS0 hcS0
  have hcellS : W.heap[T.aS]? = some cellS := hcS'
  have hout' : ∀ i, (⟨T.aS, i⟩ : Loc) ∉ locs := fun i hmem => by
    have := hlocs _ hmem cellS0 hcS0
    rw [hiss] at this; cases this
  have hknownS : cellS.vm ≠ .unknown := by
    rw [heS]; intro hu
    rw [show cellS0.vm = .unknown from hu] at hiss
    cases hiss
  have hneS : T.aS ≠ a := Nat.ne_of_lt (Nat.lt_of_lt_of_le (Array.getElem?_eq_some_iff.mp hcS0).1 hnew)
  obtain ⟨iM, hffM⟩ := Y.msg
  obtain ⟨tyC, dC, hdC, hdnC⟩ := Cond.laysAt hfound hk Y.cause (a' (.lays cls Bundle.tN "cause" "Ljava/lang/Throwable;") (by simp [Bundle.ownAtoms]))
  obtain ⟨tyS, dS, hdS, hdnS⟩ := Cond.laysAt hfound hk Y.stack (a' (.lays cls Bundle.tN "stackTrace" Bundle.steD) (by simp [Bundle.ownAtoms]))
  obtain ⟨tyP, dP, hdP, hdnP⟩ := Cond.laysAt hfound hk Y.supp (a' (.lays cls Bundle.tN "suppressedExceptions" Bundle.listD) (by simp [Bundle.ownAtoms]))
  obtain ⟨tyM, dM, hdM, hdnM⟩ := Cond.laysAt hfound hk hffM (a' (.lays cls Bundle.tN "detailMessage" "Ljava/lang/String;") (by simp [Bundle.ownAtoms]))
  obtain ⟨tyB, dB, hdB, hdnB⟩ := Cond.laysAt hfound hk hffB (a' (.lays cls Bundle.tN "backtrace" "Ljava/lang/Object;") (by simp [Bundle.ownAtoms]))
  have bC := Cond.laysApart hdB hdC hdnB hdnC (by rw [hnB, Y.causeName]; decide)
  have bS := Cond.laysApart hdB hdS hdnB hdnS (by rw [hnB, Y.stackName]; decide)
  have bP := Cond.laysApart hdB hdP hdnB hdnP (by rw [hnB, Y.suppName]; decide)
  have hskip : SkipFacts T e.platform s (fun u => u) u0 ((preparedCellV T.toThrowableT (freshCell P1.m.cls kX) a u0 sen).withEntry W.cur) :=
    ⟨{ ci198 := ci198, i198 := i198, fBack := fB }, ⟨hk198, hg198, ha198, hsB⟩, by
      have := fresh_default (c := P1.m.cls) tyB
      rw [htB] at this
      simpa [preparedCellV, Cell.setSlot, Cell.withEntry, Array.getElem?_setIfInBounds, bC, bS, bP, bC.symm, bS.symm, bP.symm, defaultValue] using this, fun _ _ => rfl⟩
  obtain ⟨tm, methC, cdC, kC, vm₁, hnC, -, -, -, -, -, -, -, hW₁, st1⟩ := Steps.initColdS (tb := p.tables) (e := e) (below := below) (s := s) (U := W) X.here hexec X.warmed hpl hown (t := Bundle.initS cls) rfl rfl (Bundle.fit_spec hcls).2
    (a' (.methodLink own ic (Bundle.initS cls)) (by simp [Bundle.ownAtoms])) (h (.instanceMethod (Bundle.initS cls)) (by cases names <;> simp [Bundle.ownAtoms, Bundle.chainSAtoms, Bundle.passSAtoms])) (bytes := Bundle.six) (maxL := 2) (h (.code (Bundle.initS cls) Bundle.six 2 none) (by cases names <;> simp [Bundle.ownAtoms, Bundle.chainSAtoms, Bundle.passSAtoms]))
    (f := g) hg (a := a) (msg := msg) (rest := .ref a :: rest) hstack hd6
  cases Option.some.inj (hnC.symm.trans hP1m)
  have X₁ := X.noted hW₁
  obtain ⟨vm₂, X₂, st2⟩ := X₁.ctorMessageOffV hexec (g := { g with stack := .ref a :: rest }) hg hsize T L Z LZ M LM (P1 :: Ps)
    (fun P hP => by rcases List.mem_cons.mp hP with rfl | hP; exact L1; exact hL P hP) ⟨hlink1, hlink⟩ (u0 := u0) (sen := sen) (self := a) hmsg (cell := freshCell P1.m.cls kX) (cellS := cellS)
    hcell (fun _ => by simp) (by simp) rfl rfl hsel0 hselF hcellS hneS hknownS (by rw [hkeep _ (hout' _)]; exact hu0) (by rw [hkeep _ (hout' _)]; exact hsen)
    (Takes.of_laid hk hord tyC (by rw [Y.causeType]; rfl)) (Takes.of_laid hk hord tyS (by rw [Y.stackType]; exact fits_refV_array _ u0)) (Takes.of_laid hk hord tyP (by rw [Y.suppType]; exact fits_refV_object _ sen))
    (Takes.of_laid hk hord tyM (by rw [Y.msgType]; exact fits_refV_object _ ⟨msg, hmsg⟩)) Y.objLocals hskip htr [] hd6
    (by simp only [List.length_cons, hlen]; omega) (by simp only [List.length_cons, hlen]; exact hRlocals)
  have hlt : a < ((W.setVm vm₁).setVm vm₂).heap.size := (Array.getElem?_eq_some_iff.mp hcell).1
  refine ⟨(W.setVm vm₁).setVm vm₂, _, _, X₂, fun y hy => ?_, hlt, rfl, rfl, fun target hwalk => st1 _ (fun acts => ?_)⟩
  · simp only [List.mem_cons, List.not_mem_nil, or_false] at hy
    rcases hy with rfl | rfl | rfl | rfl | rfl <;> rfl
  · rw [doInvoke_state]
    exact st2 _ hwalk
set_option maxHeartbeats 1000000 in
theorem vx_ctorMade0 (X : Stand p l e R s m₀ args below meth c W locs cells slots) (hexec : p.tables.exec = Jvm.exec) (htr : e.platform.stackTraces = false) {own cls : String} {names : List String} {ic : Nat}
    (hown : s.vm.findClass own = some m₀.cls) (hcls : Bundle.fit cls = true) (hnames : ∀ n ∈ names, Bundle.fit n = true)
    (h : ∀ a ∈ Bundle.ownAtoms0 own ic cls names, a.before args s = true)
    (hlocs : ∀ x ∈ locs, ∀ cell, s.heap[x.base]? = some cell → cell.vm.isStatics = false)
    {a : Addr} {cX : ClassId} {kX : Class} (hfoundX : s.vm.findClass cls = some cX) (hkX : s.vm.classes[cX]? = some kX) (hcell : W.heap[a]? = some (freshCell cX kX)) (hnew : s.heap.size ≤ a)
    {g : JFrame} (hg : g.method = m₀) (hsize : g.locals.size = c.maxLocals) {rest : List Value} (hstack : g.stack = .ref a :: .ref a :: rest)
    (hd6 : decode c.code g.pc = .ok (.invokespecial ic, 3))
    (hRframes : names.length + 3 < R.frames) (hRlocals : 2 * g.monitorRoom + ((Value.ref a :: rest).map fun v => v.category).sum + (13 * (names.length + 1) + 41) ≤ R.locals) :
    ∃ (V : State) (ce : Cell) (L : List Loc), Stand p l e R s m₀ args below meth c (V.setCell a ce) (locs ++ L) cells slots ∧ (∀ y ∈ L, y.base = a) ∧ a < V.heap.size ∧ ce.cls = cX ∧ ce.vm = .none ∧
      ∀ target, Steps p.tables e below ((V.setCell a ce).setTop { g with stack := .ref a :: rest, pc := g.pc + 3 }) target → Steps p.tables e below (W.setTop g) target := by
  have howns : e.platform.frameOwnsMonitors = true := by rw [X.admits.platform]
  have hfin : e.platform.finalization = false := by rw [X.admits.platform]
  have hpl : e.platform.magicAccessors = ({} : Platform).magicAccessors := by rw [X.admits.platform]
  have a' : ∀ x, x ∈ Bundle.ownAtoms0 own ic cls names → x.holds args s none s [] = true := fun x hx => h x hx
  obtain ⟨T, Z, L, LZ, Y⟩ := ThrowableC.of_atoms (args := args) howns hfin hpl (fun x hx => h x (by simp [Bundle.ownAtoms0, hx]))
  obtain ⟨P1, Ps, hlen, L1, hL, hP1m, hlink1, hlink⟩ := Bundle.chain0 (args := args) hpl Y.init0 names cls hcls hnames (fun x hx => h x (by simp [Bundle.ownAtoms0, hx]))
  have hfound : s.vm.findClass cls = some P1.m.cls := findClass_of_methodNamed hP1m
  cases Option.some.inj (hfoundX.symm.trans hfound)
  obtain ⟨c1, kX', hc1, hk, hord, -, -, hn6⟩ := Cond.instantiable_spec (a' (.instantiable cls 6) (by simp [Bundle.ownAtoms0]))
  cases Option.some.inj (hc1.symm.trans hfound)
  cases Option.some.inj (hkX.symm.trans hk)
  have hsel0 : selectMethod e.platform s.vm P1.m.cls T.fill0 = .method T.fill0 := by
    obtain ⟨c2, r2, m2, q1, q2, q3, q4, -⟩ := Cond.selects_spec (a' (.selects cls Bundle.tFill0 Bundle.tFill0) (by simp [Bundle.ownAtoms0]))
    cases Option.some.inj (q1.symm.trans hfound)
    cases Option.some.inj (q2.symm.trans (State.methodFound?_of_named Y.fill0 (by decide)))
    cases Option.some.inj (q3.symm.trans Y.fill0)
    rw [Launch.admits_selectMethod X.admits]; exact q4
  have hselF : selectMethod e.platform s.vm P1.m.cls T.fill = .method T.fill := by
    obtain ⟨c2, r2, m2, q1, q2, q3, q4, -⟩ := Cond.selects_spec (a' (.selects cls Bundle.tFill Bundle.tFill) (by simp [Bundle.ownAtoms0]))
    cases Option.some.inj (q1.symm.trans hfound)
    cases Option.some.inj (q2.symm.trans (State.methodFound?_of_named Y.fill (by decide)))
    cases Option.some.inj (q3.symm.trans Y.fill)
    rw [Launch.admits_selectMethod X.admits]; exact q4
  obtain ⟨cellS0, hcS0, hiss⟩ := Y.statics
  obtain ⟨u0, hu0⟩ := Cond.staticRefV Y.unassigned L.unassignedStatic L.statics hcS0 hiss (a' (.isRef (.static Bundle.tN "UNASSIGNED_STACK" Bundle.steD)) (by simp [Bundle.ownAtoms0]))
  obtain ⟨sen, hsen⟩ := Cond.staticRefV Y.sentinel L.sentinelStatic L.statics hcS0 hiss (a' (.isRef (.static Bundle.tN "SUPPRESSED_SENTINEL" Bundle.listD)) (by simp [Bundle.ownAtoms0]))
  obtain ⟨ci198, i198, fB, hk198, hg198, ha198, hsB, -, hnB, htB, hffB⟩ := Cond.ownField (t := .object "java/lang/Object") Y.found L.cls (by decide +kernel) (a' (.fieldLink Bundle.tN 198 Bundle.tN "backtrace" "Ljava/lang/Object;") (by simp [Bundle.ownAtoms0])) (a' (.lays Bundle.tN Bundle.tN "backtrace" "Ljava/lang/Object;") (by simp [Bundle.ownAtoms0])) e.platform hpl
  obtain ⟨cellS, hcS', heS, -, hkeep⟩ := X.same.2.2.2.2.2 T.aS cellS0 hcS0
  have hcellS : W.heap[T.aS]? = some cellS := hcS'
  have hout' : ∀ i, (⟨T.aS, i⟩ : Loc) ∉ locs := fun i hmem => by
    have := hlocs _ hmem cellS0 hcS0
    rw [hiss] at this; cases this
  have hknownS : cellS.vm ≠ .unknown := by
    rw [heS]; intro hu
    rw [show cellS0.vm = .unknown from hu] at hiss
    cases hiss
  have hneS : T.aS ≠ a := Nat.ne_of_lt (Nat.lt_of_lt_of_le (Array.getElem?_eq_some_iff.mp hcS0).1 hnew)
  obtain ⟨iM, hffM⟩ := Y.msg
  obtain ⟨tyC, dC, hdC, hdnC⟩ := Cond.laysAt hfound hk Y.cause (a' (.lays cls Bundle.tN "cause" "Ljava/lang/Throwable;") (by simp [Bundle.ownAtoms0]))
  obtain ⟨tyS, dS, hdS, hdnS⟩ := Cond.laysAt hfound hk Y.stack (a' (.lays cls Bundle.tN "stackTrace" Bundle.steD) (by simp [Bundle.ownAtoms0]))
  obtain ⟨tyP, dP, hdP, hdnP⟩ := Cond.laysAt hfound hk Y.supp (a' (.lays cls Bundle.tN "suppressedExceptions" Bundle.listD) (by simp [Bundle.ownAtoms0]))
  obtain ⟨tyM, dM, hdM, hdnM⟩ := Cond.laysAt hfound hk hffM (a' (.lays cls Bundle.tN "detailMessage" "Ljava/lang/String;") (by simp [Bundle.ownAtoms0]))
  obtain ⟨tyB, dB, hdB, hdnB⟩ := Cond.laysAt hfound hk hffB (a' (.lays cls Bundle.tN "backtrace" "Ljava/lang/Object;") (by simp [Bundle.ownAtoms0]))
  have bC := Cond.laysApart hdB hdC hdnB hdnC (by rw [hnB, Y.causeName]; decide)
  have bS := Cond.laysApart hdB hdS hdnB hdnS (by rw [hnB, Y.stackName]; decide)
  have bP := Cond.laysApart hdB hdP hdnB hdnP (by rw [hnB, Y.suppName]; decide)
  have hskip : SkipFacts T e.platform s (fun u => u) u0 ((preparedCellV T.toThrowableT (freshCell P1.m.cls kX) a u0 sen).withEntry W.cur) :=
    ⟨{ ci198 := ci198, i198 := i198, fBack := fB }, ⟨hk198, hg198, ha198, hsB⟩, by
      have := fresh_default (c := P1.m.cls) tyB
      rw [htB] at this
      simpa [preparedCellV, Cell.setSlot, Cell.withEntry, Array.getElem?_setIfInBounds, bC, bS, bP, bC.symm, bS.symm, bP.symm, defaultValue] using this, fun _ _ => rfl⟩
  obtain ⟨tm, methC, cdC, kC, vm₁, hnC, -, -, -, -, -, -, -, hW₁, st1⟩ := Steps.initCold (tb := p.tables) (e := e) (below := below) (s := s) (U := W) X.here hexec X.warmed hpl hown (t := Bundle.init0 cls) rfl rfl (Bundle.fit_spec hcls).2
    (a' (.methodLink own ic (Bundle.init0 cls)) (by simp [Bundle.ownAtoms0])) (h (.instanceMethod (Bundle.init0 cls)) (by cases names <;> simp [Bundle.ownAtoms0, Bundle.chain0Atoms, Bundle.passAtoms])) (bytes := Bundle.five) (maxL := 1) (h (.code (Bundle.init0 cls) Bundle.five 1 none) (by cases names <;> simp [Bundle.ownAtoms0, Bundle.chain0Atoms, Bundle.passAtoms]))
    (f := g) hg (a := a) (rest := .ref a :: rest) hstack hd6
  cases Option.some.inj (hnC.symm.trans hP1m)
  have X₁ := X.noted hW₁
  obtain ⟨vm₂, X₂, st2⟩ := X₁.ctorPlainOffV hexec (g := { g with stack := .ref a :: rest }) hg hsize T L Z LZ (P1 :: Ps)
    (fun P hP => by rcases List.mem_cons.mp hP with rfl | hP; exact L1; exact hL P hP) ⟨hlink1, hlink⟩ (u0 := u0) (sen := sen) (self := a) (cell := freshCell P1.m.cls kX) (cellS := cellS)
    hcell (fun _ => by simp) (by simp) rfl rfl hsel0 hselF hcellS hneS hknownS (by rw [hkeep _ (hout' _)]; exact hu0) (by rw [hkeep _ (hout' _)]; exact hsen)
    (Takes.of_laid hk hord tyC (by rw [Y.causeType]; rfl)) (Takes.of_laid hk hord tyS (by rw [Y.stackType]; exact fits_refV_array _ u0)) (Takes.of_laid hk hord tyP (by rw [Y.suppType]; exact fits_refV_object _ sen)) Y.objLocals hskip htr [] hd6
    (by simp only [List.length_cons, hlen]; omega) (by simp only [List.length_cons, hlen]; exact hRlocals)
  have hlt : a < ((W.setVm vm₁).setVm vm₂).heap.size := (Array.getElem?_eq_some_iff.mp hcell).1
  refine ⟨(W.setVm vm₁).setVm vm₂, _, _, X₂, fun y hy => ?_, hlt, rfl, rfl, fun target hwalk => st1 _ (fun acts => ?_)⟩
  · simp only [List.mem_cons, List.not_mem_nil, or_false] at hy
    rcases hy with rfl | rfl | rfl | rfl <;> rfl
  · rw [doInvoke_state]
    exact st2 _ hwalk
end VXK
section VXK2
variable {p : Program} {l : Launch} {e : Env} {R : Room} {s : State} {m : MethodId} {args : Array Value} {below : List Frame} {meth : Method} {c : Code} {H : Heap} {locs : List Loc} {cells slots : Nat} {Q : State → Prop}
variable {ls : Array Slot} {rest : List Value} {D : va_G} {cl : List vw_C} {tys : List (ClassId × FieldType)} {ws : va_W}
/-- 'new E("text")' that isn't thrown at once: the object goes on the stack -/
theorem vx_makeS {cc : ByteArray} {pc : Nat} (hexec : p.tables.exec = Jvm.exec) (hb : c.code = cc) (hl : l.stackTraces = false) {own cls text : String} {names : List String} {ik is ic sa ci : Nat} {A : Nat → Prop} {T0 : u_T}
    (hown : s.vm.findClass own = some m.cls) (hcls : Bundle.fit cls = true) (hnames : ∀ n ∈ names, Bundle.fit n = true)
    (hk : (Cond.classLink own ik cls).before args s = true) (hini : (Cond.initialized cls).before args s = true) (hstr : vk_R own is text sa s) (hat : ∀ w ∈ vx_atS own ic cls names, w.before args s = true)
    (hgood : ∀ w ∈ Cond.classLink own ik cls :: Cond.initialized cls :: vx_atS own ic cls names, vx_ot w = true)
    (hU : vx_Zq Bundle.tN "UNASSIGNED_STACK" Bundle.steD A s s.heap) (hN : vx_Zq Bundle.tN "SUPPRESSED_SENTINEL" Bundle.listD A s s.heap) (hS : va_S A s.heap H locs) (hsize : ls.size = c.maxLocals)
    (d0 : decode cc pc = .ok (.new ik, 3)) (d3 : decode cc (pc + 3) = .ok (.dup, 1)) (d4 : decode cc (pc + 4) = .ok (.ldc is, 2)) (d6 : decode cc (pc + 6) = .ok (.invokespecial ic, 3))
    (hK : va_K D cl tys s) (hP : va_P D cl ws H) (hD : va_D A ws) (hA : ∀ q, s.heap.size ≤ q → A q) (hc : cl[ci]? = some (cls, T0, 0))
    (hRframes : names.length + 3 < R.frames) (hRlocals : (rest.map fun v => v.category).sum + (13 * (names.length + 1) + 43) ≤ R.locals) (hRcells : cells + 1 ≤ R.cells) (hRslots : slots + 6 ≤ R.slots)
    (kk : ∀ (q : Nat) (H1 : Heap), va_P D cl (ws ++ [(q, .inr (ci, []))]) H1 → va_D A (ws ++ [(q, .inr (ci, []))]) → va_S A s.heap H1 locs → W p l e R s m args below meth c H1 locs (cells + 1) (slots + 6) Q (F0 m (pc + 9) ls (.ref q :: rest))) :
    W p l e R s m args below meth c H locs cells slots Q (F0 m pc ls rest) := by
  intro T hT X
  subst hT
  have htr : e.platform.stackTraces = false := (show e.platform.stackTraces = l.stackTraces by rw [X.admits.platform]).trans hl
  have Y := vx_rebase X (R' := { frames := R.frames, locals := R.locals, cells := 1, slots := 6 }) (Nat.le_refl _) (Nat.le_refl _) hRcells hRslots
  obtain ⟨s', hA'⟩ : ∃ z, z = (T.setVm s.vm).setFrames (.invoking m args :: below) := ⟨_, rfl⟩
  rw [← hA'] at Y
  have hvm : s'.vm = s.vm := by rw [hA']; rfl
  have hhp : s'.heap = T.heap := by rw [hA']; rfl
  have hW0 : s.WarmedH s'.vm := by rw [hvm]; exact State.WarmedH.refl s
  have hat' : ∀ w ∈ vx_atS own ic cls names, w.before args s' = true := fun w hw => vx_ot_at hW0 hvm.symm (hgood w (List.mem_cons_of_mem _ (List.mem_cons_of_mem _ hw))) (hat w hw)
  have hk' : (Cond.classLink own ik cls).before args s' = true := vx_ot_at hW0 hvm.symm (hgood _ List.mem_cons_self) hk
  have hini' : (Cond.initialized cls).before args s' = true := vx_ot_at hW0 hvm.symm (hgood _ (List.mem_cons_of_mem _ List.mem_cons_self)) hini
  have hU' : vx_Zq Bundle.tN "UNASSIGNED_STACK" Bundle.steD A s' s'.heap := by rw [hhp]; exact vx_Zq.moved hW0.alike (hU.kept hS.2.1)
  have hN' : vx_Zq Bundle.tN "SUPPRESSED_SENTINEL" Bundle.listD A s' s'.heap := by rw [hhp]; exact vx_Zq.moved hW0.alike (hN.kept hS.2.1)
  have h : ∀ w ∈ Bundle.ownAtoms own ic cls names, w.before args s' = true := vx_own hat' (vx_isRefq hU'.1) (vx_isRefq hN'.1) hU'.2.word hN'.2.word
  have hown' : s'.vm.findClass own = some m.cls := by rw [hvm]; exact hown
  have hins : (Cond.instantiable cls 6).before args s' = true := h _ (by simp [Bundle.ownAtoms])
  obtain ⟨vm₁, cX, kX, hfX, hkX, -, -, X₁, st1⟩ := Y.newCold hexec (own := own) (C := cls) (index := ik) (n := 6) hown' hk' hins hini'
    (g := F0 m pc ls rest) rfl (by rw [hb]; exact d0) (Nat.le_refl _) (Nat.le_refl _)
  generalize hT1 : (T.setVm vm₁).pushCell { cls := cX, slots := kX.instanceTypes.map defaultValue, vm := .none } = T1 at X₁ st1
  have hcat : (Value.ref T.heap.size).category = 1 := rfl
  have hcellA : T1.heap[T.heap.size]? = some (freshCell cX kX) := by rw [← hT1]; exact State.heap_pushCell_size _ _
  have d3' : decode c.code (pc + 3) = .ok (.dup, 1) := by rw [hb]; exact d3
  have d4' : decode c.code (pc + 4) = .ok (.ldc is, 2) := by rw [hb]; exact d4
  have hstr' : vk_R own is text sa s' := vk_R.warm hW0 hstr
  obtain ⟨V, ce, L, Z, hL, hlt, hcl9, hvm9, st⟩ := vx_ctorMadeS X₁ hexec htr (own := own) (cls := cls) (names := names) (ic := ic) hown' hcls hnames h (fun x hx => nomatch hx) hfX hkX hcellA (by rw [hhp]; exact Nat.le_refl _) (msg := .ref sa) rfl
    (g := { method := m, pc := pc + 6, locals := ls, stack := .ref sa :: .ref T.heap.size :: .ref T.heap.size :: rest, locked := none }) rfl hsize (rest := rest) rfl
    (by rw [hb]; exact d6) hRframes (by simp only [List.map_cons, List.sum_cons, hcat]; omega)
  have Z0 := Stand.forget (locs := []) Z (fun y hy => by rw [hL y hy, hhp]; exact Nat.le_refl _)
  obtain ⟨f1, f2⟩ := vx_frame Z0.same
  rw [hhp] at f1 f2
  have hcid : ce.cls = D.1 ci := by
    rw [hcl9]
    have h1 := (hK.1 ci _ hc).2.1
    rw [hvm] at hfX
    exact Option.some.inj (hfX.symm.trans h1)
  have hh : (V.setCell T.heap.size ce).heap[T.heap.size]? = some ce := heapAt_setCell_self (s := V) ce hlt
  subst hA'
  have X5 := vx_back9 X Y Z0
  have X6 : Stand p l e R s m args below meth c (V.setCell T.heap.size ce) locs (cells + 1) (slots + 6) := { X5 with same := X5.same.mono (by omega) (by omega) }
  have hk9 : ∀ (k : Nat) (x : Nat × va_E), ws[k]? = some x → (V.setCell T.heap.size ce).heap[x.1]? = T.heap[x.1]? := fun k x hx => f2 x.1 ((hP k x hx).lt) (fun z hz => nomatch hz)
  obtain ⟨t, a1, b1⟩ := kk T.heap.size (V.setCell T.heap.size ce).heap ((hP.kept hk9).app (fun k x hx => by
      have hz : k < 1 := (List.getElem?_eq_some_iff.mp hx).1
      rw [show k = 0 by omega] at hx
      cases hx
      exact ⟨_, hc, ce, hh, hcid, hvm9, fun k hk => absurd hk (Nat.not_lt_zero k)⟩)) (hD.push hP rfl (hA _ hS.1)) ⟨Nat.le_trans hS.1 f1, fun q h1 h2 => (f2 q (Nat.lt_of_lt_of_le h1 hS.1) (fun z hz => nomatch hz)).trans (hS.2.1 q h1 h2), hS.2.2⟩ _ rfl X6
  refine ⟨t, st1 _ ?_, b1⟩
  show Steps p.tables e below (T1.setTop { method := m, pc := pc + 3, locals := ls, stack := .ref T.heap.size :: rest, locked := none }) _
  jvm_step X₁.here [X₁.here.top, hexec, d3', Value.category]
  exact X₁.ldcString hexec (own := own) (text := text) (index := is) (a := sa) hown' hstr'.1 hstr'.2
    (g := { method := m, pc := pc + 4, locals := ls, stack := .ref T.heap.size :: .ref T.heap.size :: rest, locked := none }) rfl d4' _ (st _ a1)
/-- 'new E()' that isn't thrown at once: the object goes on the stack -/
theorem vx_make0 {cc : ByteArray} {pc : Nat} (hexec : p.tables.exec = Jvm.exec) (hb : c.code = cc) (hl : l.stackTraces = false) {own cls : String} {names : List String} {ik ic ci : Nat} {A : Nat → Prop} {T0 : u_T}
    (hown : s.vm.findClass own = some m.cls) (hcls : Bundle.fit cls = true) (hnames : ∀ n ∈ names, Bundle.fit n = true)
    (hk : (Cond.classLink own ik cls).before args s = true) (hini : (Cond.initialized cls).before args s = true) (hat : ∀ w ∈ vx_at0 own ic cls names, w.before args s = true)
    (hgood : ∀ w ∈ Cond.classLink own ik cls :: Cond.initialized cls :: vx_at0 own ic cls names, vx_ot w = true)
    (hU : vx_Zq Bundle.tN "UNASSIGNED_STACK" Bundle.steD A s s.heap) (hN : vx_Zq Bundle.tN "SUPPRESSED_SENTINEL" Bundle.listD A s s.heap) (hS : va_S A s.heap H locs) (hsize : ls.size = c.maxLocals)
    (d0 : decode cc pc = .ok (.new ik, 3)) (d3 : decode cc (pc + 3) = .ok (.dup, 1)) (d4 : decode cc (pc + 4) = .ok (.invokespecial ic, 3))
    (hK : va_K D cl tys s) (hP : va_P D cl ws H) (hD : va_D A ws) (hA : ∀ q, s.heap.size ≤ q → A q) (hc : cl[ci]? = some (cls, T0, 0))
    (hRframes : names.length + 3 < R.frames) (hRlocals : (rest.map fun v => v.category).sum + (13 * (names.length + 1) + 42) ≤ R.locals) (hRcells : cells + 1 ≤ R.cells) (hRslots : slots + 6 ≤ R.slots)
    (kk : ∀ (q : Nat) (H1 : Heap), va_P D cl (ws ++ [(q, .inr (ci, []))]) H1 → va_D A (ws ++ [(q, .inr (ci, []))]) → va_S A s.heap H1 locs → W p l e R s m args below meth c H1 locs (cells + 1) (slots + 6) Q (F0 m (pc + 7) ls (.ref q :: rest))) :
    W p l e R s m args below meth c H locs cells slots Q (F0 m pc ls rest) := by
  intro T hT X
  subst hT
  have htr : e.platform.stackTraces = false := (show e.platform.stackTraces = l.stackTraces by rw [X.admits.platform]).trans hl
  have Y := vx_rebase X (R' := { frames := R.frames, locals := R.locals, cells := 1, slots := 6 }) (Nat.le_refl _) (Nat.le_refl _) hRcells hRslots
  obtain ⟨s', hA'⟩ : ∃ z, z = (T.setVm s.vm).setFrames (.invoking m args :: below) := ⟨_, rfl⟩
  rw [← hA'] at Y
  have hvm : s'.vm = s.vm := by rw [hA']; rfl
  have hhp : s'.heap = T.heap := by rw [hA']; rfl
  have hW0 : s.WarmedH s'.vm := by rw [hvm]; exact State.WarmedH.refl s
  have hat' : ∀ w ∈ vx_at0 own ic cls names, w.before args s' = true := fun w hw => vx_ot_at hW0 hvm.symm (hgood w (List.mem_cons_of_mem _ (List.mem_cons_of_mem _ hw))) (hat w hw)
  have hk' : (Cond.classLink own ik cls).before args s' = true := vx_ot_at hW0 hvm.symm (hgood _ List.mem_cons_self) hk
  have hini' : (Cond.initialized cls).before args s' = true := vx_ot_at hW0 hvm.symm (hgood _ (List.mem_cons_of_mem _ List.mem_cons_self)) hini
  have hU' : vx_Zq Bundle.tN "UNASSIGNED_STACK" Bundle.steD A s' s'.heap := by rw [hhp]; exact vx_Zq.moved hW0.alike (hU.kept hS.2.1)
  have hN' : vx_Zq Bundle.tN "SUPPRESSED_SENTINEL" Bundle.listD A s' s'.heap := by rw [hhp]; exact vx_Zq.moved hW0.alike (hN.kept hS.2.1)
  have h : ∀ w ∈ Bundle.ownAtoms0 own ic cls names, w.before args s' = true := vx_own hat' (vx_isRefq hU'.1) (vx_isRefq hN'.1) hU'.2.word hN'.2.word
  have hown' : s'.vm.findClass own = some m.cls := by rw [hvm]; exact hown
  have hins : (Cond.instantiable cls 6).before args s' = true := h _ (by simp [Bundle.ownAtoms0])
  obtain ⟨vm₁, cX, kX, hfX, hkX, -, -, X₁, st1⟩ := Y.newCold hexec (own := own) (C := cls) (index := ik) (n := 6) hown' hk' hins hini'
    (g := F0 m pc ls rest) rfl (by rw [hb]; exact d0) (Nat.le_refl _) (Nat.le_refl _)
  generalize hT1 : (T.setVm vm₁).pushCell { cls := cX, slots := kX.instanceTypes.map defaultValue, vm := .none } = T1 at X₁ st1
  have hcat : (Value.ref T.heap.size).category = 1 := rfl
  have hcellA : T1.heap[T.heap.size]? = some (freshCell cX kX) := by rw [← hT1]; exact State.heap_pushCell_size _ _
  have d3' : decode c.code (pc + 3) = .ok (.dup, 1) := by rw [hb]; exact d3
  obtain ⟨V, ce, L, Z, hL, hlt, hcl9, hvm9, st⟩ := vx_ctorMade0 X₁ hexec htr (own := own) (cls := cls) (names := names) (ic := ic) hown' hcls hnames h (fun x hx => nomatch hx) hfX hkX hcellA (by rw [hhp]; exact Nat.le_refl _)
    (g := { method := m, pc := pc + 4, locals := ls, stack := .ref T.heap.size :: .ref T.heap.size :: rest, locked := none }) rfl hsize (rest := rest) rfl
    (by rw [hb]; exact d4) hRframes (by simp only [List.map_cons, List.sum_cons, hcat]; omega)
  have Z0 := Stand.forget (locs := []) Z (fun y hy => by rw [hL y hy, hhp]; exact Nat.le_refl _)
  obtain ⟨f1, f2⟩ := vx_frame Z0.same
  rw [hhp] at f1 f2
  have hcid : ce.cls = D.1 ci := by
    rw [hcl9]
    have h1 := (hK.1 ci _ hc).2.1
    rw [hvm] at hfX
    exact Option.some.inj (hfX.symm.trans h1)
  have hh : (V.setCell T.heap.size ce).heap[T.heap.size]? = some ce := heapAt_setCell_self (s := V) ce hlt
  subst hA'
  have X5 := vx_back9 X Y Z0
  have X6 : Stand p l e R s m args below meth c (V.setCell T.heap.size ce) locs (cells + 1) (slots + 6) := { X5 with same := X5.same.mono (by omega) (by omega) }
  have hk9 : ∀ (k : Nat) (x : Nat × va_E), ws[k]? = some x → (V.setCell T.heap.size ce).heap[x.1]? = T.heap[x.1]? := fun k x hx => f2 x.1 ((hP k x hx).lt) (fun z hz => nomatch hz)
  obtain ⟨t, a1, b1⟩ := kk T.heap.size (V.setCell T.heap.size ce).heap ((hP.kept hk9).app (fun k x hx => by
      have hz : k < 1 := (List.getElem?_eq_some_iff.mp hx).1
      rw [show k = 0 by omega] at hx
      cases hx
      exact ⟨_, hc, ce, hh, hcid, hvm9, fun k hk => absurd hk (Nat.not_lt_zero k)⟩)) (hD.push hP rfl (hA _ hS.1)) ⟨Nat.le_trans hS.1 f1, fun q h1 h2 => (f2 q (Nat.lt_of_lt_of_le h1 hS.1) (fun z hz => nomatch hz)).trans (hS.2.1 q h1 h2), hS.2.2⟩ _ rfl X6
  refine ⟨t, st1 _ ?_, b1⟩
  show Steps p.tables e below (T1.setTop { method := m, pc := pc + 3, locals := ls, stack := .ref T.heap.size :: rest, locked := none }) _
  jvm_step X₁.here [X₁.here.top, hexec, d3', Value.category]
  exact st _ a1
/-- 'throw x' of an object that was made before -/
theorem vx_athrow {cc : ByteArray} {pc : Nat} (hexec : p.tables.exec = Jvm.exec) (hb : c.code = cc) {q : Addr} (hdg : decode cc pc = .ok (.athrow, 1)) (k : vx_W p l e R s m args below meth c H locs cells slots Q (F0 m pc ls rest) q) : W p l e R s m args below meth c H locs cells slots Q (F0 m pc ls (.ref q :: rest)) := by
  intro T hT X
  obtain ⟨t, st, hq⟩ := k T hT X
  refine ⟨t, ?_, hq⟩
  have hdg' : decode c.code pc = .ok (.athrow, 1) := by rw [hb]; exact hdg
  jvm_step X.here [X.here.top, hexec, hdg', athrow.wp_sem]
  exact st
end VXK2
/-! ===== END ===== -/
end
section
def RX0 : String := "LampLeaseOffice$1"
def TX0 : u_T := fun k => match k with
  | _ => ("", "", "", false)
def tyX0 : Nat → FieldType := fun k => match k with
  | _ => .int
theorem nmX0 : ∀ a, a < 0 → ∀ b, b < 0 → a ≠ b → (TX0 a).2.1 ≠ (TX0 b).2.1 := by decide +kernel
theorem tyX0_ok : ∀ k, k < 0 → parseFieldDescriptor (TX0 k).2.2.1 = some (tyX0 k) := by decide +kernel
def RX1 : String := "LampLeaseOffice$Command"
def TX1 : u_T := fun k => match k with
  | 0 => ("LampLeaseOffice$Command", "keyword", "LLampLeaseOffice$Keyword;", false)
  | _ => ("LampLeaseOffice$Command", "numbers", "[I", true)
def tyX1 : Nat → FieldType := fun k => match k with
  | 0 => .object "LampLeaseOffice$Keyword"
  | _ => .array .int
theorem nmX1 : ∀ a, a < 2 → ∀ b, b < 2 → a ≠ b → (TX1 a).2.1 ≠ (TX1 b).2.1 := by decide +kernel
theorem tyX1_ok : ∀ k, k < 2 → parseFieldDescriptor (TX1 k).2.2.1 = some (tyX1 k) := by decide +kernel
abbrev cX1_init : ByteArray := prog_3_method_1_code
def yX1_init : MethodName := ⟨RX1, "<init>", "()V"⟩
abbrev cX1_first : ByteArray := prog_3_method_2_code
def yX1_first : MethodName := ⟨RX1, "first", "()I"⟩
abbrev cX1_second : ByteArray := prog_3_method_3_code
def yX1_second : MethodName := ⟨RX1, "second", "()I"⟩
abbrev cX1_third : ByteArray := prog_3_method_4_code
def yX1_third : MethodName := ⟨RX1, "third", "()I"⟩
abbrev cX1_put : ByteArray := prog_3_method_5_code
def yX1_put : MethodName := ⟨RX1, "put", "(II)V"⟩
def RX2 : String := "LampLeaseOffice$CommandText"
def TX2 : u_T := fun k => match k with
  | 0 => ("LampLeaseOffice$CommandText", "signs", "[C", true)
  | 1 => ("LampLeaseOffice$CommandText", "commands", "[LLampLeaseOffice$Command;", true)
  | 2 => ("LampLeaseOffice$CommandText", "length", "I", false)
  | 3 => ("LampLeaseOffice$CommandText", "commandCount", "I", false)
  | _ => ("LampLeaseOffice$CommandText", "position", "I", false)
def tyX2 : Nat → FieldType := fun k => match k with
  | 0 => .array .char
  | 1 => .array (.object "LampLeaseOffice$Command")
  | 2 => .int
  | 3 => .int
  | _ => .int
theorem nmX2 : ∀ a, a < 5 → ∀ b, b < 5 → a ≠ b → (TX2 a).2.1 ≠ (TX2 b).2.1 := by decide +kernel
theorem tyX2_ok : ∀ k, k < 5 → parseFieldDescriptor (TX2 k).2.2.1 = some (tyX2 k) := by decide +kernel
abbrev cX2_init : ByteArray := prog_4_method_1_code
def yX2_init : MethodName := ⟨RX2, "<init>", "()V"⟩
abbrev cX2_append : ByteArray := prog_4_method_2_code
def yX2_append : MethodName := ⟨RX2, "append", "(C)I"⟩
abbrev cX2_clear : ByteArray := prog_4_method_3_code
def yX2_clear : MethodName := ⟨RX2, "clear", "()V"⟩
abbrev cX2_parse : ByteArray := prog_4_method_4_code
def yX2_parse : MethodName := ⟨RX2, "parse", "()Z"⟩
abbrev cX2_readCommand : ByteArray := prog_4_method_5_code
def yX2_readCommand : MethodName := ⟨RX2, "readCommand", "(LLampLeaseOffice$Command;)Z"⟩
abbrev cX2_readKeyword : ByteArray := prog_4_method_6_code
def yX2_readKeyword : MethodName := ⟨RX2, "readKeyword", "()LLampLeaseOffice$Keyword;"⟩
abbrev cX2_commonLetters : ByteArray := prog_4_method_7_code
def yX2_commonLetters : MethodName := ⟨RX2, "commonLetters", "(Ljava/lang/String;)I"⟩
abbrev cX2_readBlankAndNumber : ByteArray := prog_4_method_8_code
def yX2_readBlankAndNumber : MethodName := ⟨RX2, "readBlankAndNumber", "(I)I"⟩
abbrev cX2_isAt : ByteArray := prog_4_method_9_code
def yX2_isAt : MethodName := ⟨RX2, "isAt", "(C)Z"⟩
abbrev cX2_isAtDigit : ByteArray := prog_4_method_10_code
def yX2_isAtDigit : MethodName := ⟨RX2, "isAtDigit", "()Z"⟩
def RX3 : String := "LampLeaseOffice$Division"
def TX3 : u_T := fun k => match k with
  | 0 => ("LampLeaseOffice$Division", "shares", "[I", true)
  | 1 => ("LampLeaseOffice$Division", "remainders", "[I", true)
  | 2 => ("LampLeaseOffice$Division", "favoured", "[Z", true)
  | _ => ("LampLeaseOffice$Division", "unitsLeft", "I", false)
def tyX3 : Nat → FieldType := fun k => match k with
  | 0 => .array .int
  | 1 => .array .int
  | 2 => .array .boolean
  | _ => .int
theorem nmX3 : ∀ a, a < 4 → ∀ b, b < 4 → a ≠ b → (TX3 a).2.1 ≠ (TX3 b).2.1 := by decide +kernel
theorem tyX3_ok : ∀ k, k < 4 → parseFieldDescriptor (TX3 k).2.2.1 = some (tyX3 k) := by decide +kernel
abbrev cX3_init : ByteArray := prog_5_method_1_code
def yX3_init : MethodName := ⟨RX3, "<init>", "()V"⟩
abbrev cX3_shareByGiving : ByteArray := prog_5_method_2_code
def yX3_shareByGiving : MethodName := ⟨RX3, "shareByGiving", "(LLampLeaseOffice$State;I)I"⟩
abbrev cX3_shareByRemainderRank : ByteArray := prog_5_method_3_code
def yX3_shareByRemainderRank : MethodName := ⟨RX3, "shareByRemainderRank", "(LLampLeaseOffice$State;I)I"⟩
abbrev cX3_divideRoundedDown : ByteArray := prog_5_method_4_code
def yX3_divideRoundedDown : MethodName := ⟨RX3, "divideRoundedDown", "(LLampLeaseOffice$State;)V"⟩
abbrev cX3_giveOneUnit : ByteArray := prog_5_method_5_code
def yX3_giveOneUnit : MethodName := ⟨RX3, "giveOneUnit", "(I)V"⟩
abbrev cX3_rankOf : ByteArray := prog_5_method_6_code
def yX3_rankOf : MethodName := ⟨RX3, "rankOf", "(II)I"⟩
def RX4 : String := "LampLeaseOffice$Forecast"
def TX4 : u_T := fun k => match k with
  | _ => ("LampLeaseOffice$Forecast", "mostForSum", "[I", true)
def tyX4 : Nat → FieldType := fun k => match k with
  | _ => .array .int
theorem nmX4 : ∀ a, a < 1 → ∀ b, b < 1 → a ≠ b → (TX4 a).2.1 ≠ (TX4 b).2.1 := by decide +kernel
theorem tyX4_ok : ∀ k, k < 1 → parseFieldDescriptor (TX4 k).2.2.1 = some (tyX4 k) := by decide +kernel
abbrev cX4_init : ByteArray := prog_6_method_1_code
def yX4_init : MethodName := ⟨RX4, "<init>", "()V"⟩
abbrev cX4_hoursByPassing : ByteArray := prog_6_method_2_code
def yX4_hoursByPassing : MethodName := ⟨RX4, "hoursByPassing", "(LLampLeaseOffice$State;)I"⟩
abbrev cX4_hoursByEndHours : ByteArray := prog_6_method_3_code
def yX4_hoursByEndHours : MethodName := ⟨RX4, "hoursByEndHours", "(LLampLeaseOffice$State;)I"⟩
abbrev cX4_nextBrightLamps : ByteArray := prog_6_method_4_code
def yX4_nextBrightLamps : MethodName := ⟨RX4, "nextBrightLamps", "(LLampLeaseOffice$State;)I"⟩
abbrev cX4_mostLampsByLevels : ByteArray := prog_6_method_5_code
def yX4_mostLampsByLevels : MethodName := ⟨RX4, "mostLampsByLevels", "(LLampLeaseOffice$State;)I"⟩
abbrev cX4_mostLampsByTable : ByteArray := prog_6_method_6_code
def yX4_mostLampsByTable : MethodName := ⟨RX4, "mostLampsByTable", "(LLampLeaseOffice$State;)I"⟩
abbrev cX4_clearTable : ByteArray := prog_6_method_7_code
def yX4_clearTable : MethodName := ⟨RX4, "clearTable", "()V"⟩
abbrev cX4_enterInTable : ByteArray := prog_6_method_8_code
def yX4_enterInTable : MethodName := ⟨RX4, "enterInTable", "(I)V"⟩
def RX5 : String := "LampLeaseOffice$History"
def TX5 : u_T := fun k => match k with
  | 0 => ("LampLeaseOffice$History", "ring", "[LLampLeaseOffice$State;", true)
  | 1 => ("LampLeaseOffice$History", "oldest", "I", false)
  | _ => ("LampLeaseOffice$History", "count", "I", false)
def tyX5 : Nat → FieldType := fun k => match k with
  | 0 => .array (.object "LampLeaseOffice$State")
  | 1 => .int
  | _ => .int
theorem nmX5 : ∀ a, a < 3 → ∀ b, b < 3 → a ≠ b → (TX5 a).2.1 ≠ (TX5 b).2.1 := by decide +kernel
theorem tyX5_ok : ∀ k, k < 3 → parseFieldDescriptor (TX5 k).2.2.1 = some (tyX5 k) := by decide +kernel
abbrev cX5_init : ByteArray := prog_7_method_1_code
def yX5_init : MethodName := ⟨RX5, "<init>", "()V"⟩
abbrev cX5_push : ByteArray := prog_7_method_2_code
def yX5_push : MethodName := ⟨RX5, "push", "(LLampLeaseOffice$State;)V"⟩
abbrev cX5_popInto : ByteArray := prog_7_method_3_code
def yX5_popInto : MethodName := ⟨RX5, "popInto", "(LLampLeaseOffice$State;)V"⟩
abbrev cX5_clear : ByteArray := prog_7_method_4_code
def yX5_clear : MethodName := ⟨RX5, "clear", "()V"⟩
def RX6 : String := "LampLeaseOffice$Keyword"
def TX6 : u_T := fun k => match k with
  | _ => ("", "", "", false)
def tyX6 : Nat → FieldType := fun k => match k with
  | _ => .int
theorem nmX6 : ∀ a, a < 0 → ∀ b, b < 0 → a ≠ b → (TX6 a).2.1 ≠ (TX6 b).2.1 := by decide +kernel
theorem tyX6_ok : ∀ k, k < 0 → parseFieldDescriptor (TX6 k).2.2.1 = some (tyX6 k) := by decide +kernel
def RX7 : String := "LampLeaseOffice$Lamps"
def TX7 : u_T := fun k => match k with
  | 0 => ("LampLeaseOffice$Lamps", "count", "I", false)
  | 1 => ("LampLeaseOffice$Lamps", "levels", "[I", true)
  | 2 => ("LampLeaseOffice$Lamps", "lessees", "[I", true)
  | 3 => ("LampLeaseOffice$Lamps", "endHours", "[I", true)
  | 4 => ("LampLeaseOffice$Lamps", "brightHours", "[I", true)
  | _ => ("LampLeaseOffice$Lamps", "bright", "[Z", true)
def tyX7 : Nat → FieldType := fun k => match k with
  | 0 => .int
  | 1 => .array .int
  | 2 => .array .int
  | 3 => .array .int
  | 4 => .array .int
  | _ => .array .boolean
theorem nmX7 : ∀ a, a < 6 → ∀ b, b < 6 → a ≠ b → (TX7 a).2.1 ≠ (TX7 b).2.1 := by decide +kernel
theorem tyX7_ok : ∀ k, k < 6 → parseFieldDescriptor (TX7 k).2.2.1 = some (tyX7 k) := by decide +kernel
abbrev cX7_init : ByteArray := prog_9_method_1_code
def yX7_init : MethodName := ⟨RX7, "<init>", "()V"⟩
abbrev cX7_exists : ByteArray := prog_9_method_2_code
def yX7_exists : MethodName := ⟨RX7, "exists", "(I)Z"⟩
abbrev cX7_isTaken : ByteArray := prog_9_method_3_code
def yX7_isTaken : MethodName := ⟨RX7, "isTaken", "(I)Z"⟩
abbrev cX7_isTakenBy : ByteArray := prog_9_method_4_code
def yX7_isTakenBy : MethodName := ⟨RX7, "isTakenBy", "(II)Z"⟩
abbrev cX7_append : ByteArray := prog_9_method_5_code
def yX7_append : MethodName := ⟨RX7, "append", "(I)I"⟩
abbrev cX7_countTaken : ByteArray := prog_9_method_6_code
def yX7_countTaken : MethodName := ⟨RX7, "countTaken", "()I"⟩
abbrev cX7_countOf : ByteArray := prog_9_method_7_code
def yX7_countOf : MethodName := ⟨RX7, "countOf", "(I)I"⟩
abbrev cX7_anyBrightOf : ByteArray := prog_9_method_8_code
def yX7_anyBrightOf : MethodName := ⟨RX7, "anyBrightOf", "(I)Z"⟩
abbrev cX7_demandOf : ByteArray := prog_9_method_9_code
def yX7_demandOf : MethodName := ⟨RX7, "demandOf", "(I)I"⟩
abbrev cX7_demandOfAll : ByteArray := prog_9_method_10_code
def yX7_demandOfAll : MethodName := ⟨RX7, "demandOfAll", "()I"⟩
abbrev cX7_demandAfter : ByteArray := prog_9_method_11_code
def yX7_demandAfter : MethodName := ⟨RX7, "demandAfter", "(I)I"⟩
abbrev cX7_firstEndAfter : ByteArray := prog_9_method_12_code
def yX7_firstEndAfter : MethodName := ⟨RX7, "firstEndAfter", "(I)I"⟩
abbrev cX7_atRank : ByteArray := prog_9_method_13_code
def yX7_atRank : MethodName := ⟨RX7, "atRank", "(I)I"⟩
abbrev cX7_rankOf : ByteArray := prog_9_method_14_code
def yX7_rankOf : MethodName := ⟨RX7, "rankOf", "(I)I"⟩
abbrev cX7_isBefore : ByteArray := prog_9_method_15_code
def yX7_isBefore : MethodName := ⟨RX7, "isBefore", "(II)Z"⟩
abbrev cX7_copyFrom : ByteArray := prog_9_method_16_code
def yX7_copyFrom : MethodName := ⟨RX7, "copyFrom", "(LLampLeaseOffice$Lamps;)V"⟩
def RX8 : String := "LampLeaseOffice$Requests"
def TX8 : u_T := fun k => match k with
  | 0 => ("LampLeaseOffice$Requests", "count", "I", false)
  | 1 => ("LampLeaseOffice$Requests", "lamps", "[I", true)
  | _ => ("LampLeaseOffice$Requests", "hours", "[I", true)
def tyX8 : Nat → FieldType := fun k => match k with
  | 0 => .int
  | 1 => .array .int
  | _ => .array .int
theorem nmX8 : ∀ a, a < 3 → ∀ b, b < 3 → a ≠ b → (TX8 a).2.1 ≠ (TX8 b).2.1 := by decide +kernel
theorem tyX8_ok : ∀ k, k < 3 → parseFieldDescriptor (TX8 k).2.2.1 = some (tyX8 k) := by decide +kernel
abbrev cX8_init : ByteArray := prog_10_method_1_code
def yX8_init : MethodName := ⟨RX8, "<init>", "()V"⟩
abbrev cX8_positionOf : ByteArray := prog_10_method_2_code
def yX8_positionOf : MethodName := ⟨RX8, "positionOf", "(I)I"⟩
abbrev cX8_append : ByteArray := prog_10_method_3_code
def yX8_append : MethodName := ⟨RX8, "append", "(II)I"⟩
abbrev cX8_removeFor : ByteArray := prog_10_method_4_code
def yX8_removeFor : MethodName := ⟨RX8, "removeFor", "(I)V"⟩
abbrev cX8_clear : ByteArray := prog_10_method_5_code
def yX8_clear : MethodName := ⟨RX8, "clear", "()V"⟩
abbrev cX8_copyFrom : ByteArray := prog_10_method_6_code
def yX8_copyFrom : MethodName := ⟨RX8, "copyFrom", "(LLampLeaseOffice$Requests;)V"⟩
def RX9 : String := "LampLeaseOffice$Ships"
def TX9 : u_T := fun k => match k with
  | 0 => ("LampLeaseOffice$Ships", "count", "I", false)
  | 1 => ("LampLeaseOffice$Ships", "coins", "[I", true)
  | 2 => ("LampLeaseOffice$Ships", "fines", "[I", true)
  | _ => ("LampLeaseOffice$Ships", "darkHours", "[I", true)
def tyX9 : Nat → FieldType := fun k => match k with
  | 0 => .int
  | 1 => .array .int
  | 2 => .array .int
  | _ => .array .int
theorem nmX9 : ∀ a, a < 4 → ∀ b, b < 4 → a ≠ b → (TX9 a).2.1 ≠ (TX9 b).2.1 := by decide +kernel
theorem tyX9_ok : ∀ k, k < 4 → parseFieldDescriptor (TX9 k).2.2.1 = some (tyX9 k) := by decide +kernel
abbrev cX9_init : ByteArray := prog_11_method_1_code
def yX9_init : MethodName := ⟨RX9, "<init>", "()V"⟩
abbrev cX9_exists : ByteArray := prog_11_method_2_code
def yX9_exists : MethodName := ⟨RX9, "exists", "(I)Z"⟩
abbrev cX9_append : ByteArray := prog_11_method_3_code
def yX9_append : MethodName := ⟨RX9, "append", "()I"⟩
abbrev cX9_canPay : ByteArray := prog_11_method_4_code
def yX9_canPay : MethodName := ⟨RX9, "canPay", "(II)Z"⟩
abbrev cX9_sumOfCoins : ByteArray := prog_11_method_5_code
def yX9_sumOfCoins : MethodName := ⟨RX9, "sumOfCoins", "()I"⟩
abbrev cX9_atRank : ByteArray := prog_11_method_6_code
def yX9_atRank : MethodName := ⟨RX9, "atRank", "(I)I"⟩
abbrev cX9_rankOf : ByteArray := prog_11_method_7_code
def yX9_rankOf : MethodName := ⟨RX9, "rankOf", "(I)I"⟩
abbrev cX9_isBefore : ByteArray := prog_11_method_8_code
def yX9_isBefore : MethodName := ⟨RX9, "isBefore", "(II)Z"⟩
abbrev cX9_copyFrom : ByteArray := prog_11_method_9_code
def yX9_copyFrom : MethodName := ⟨RX9, "copyFrom", "(LLampLeaseOffice$Ships;)V"⟩
def RX10 : String := "LampLeaseOffice$State"
def TX10 : u_T := fun k => match k with
  | 0 => ("LampLeaseOffice$State", "ships", "LLampLeaseOffice$Ships;", true)
  | 1 => ("LampLeaseOffice$State", "lamps", "LLampLeaseOffice$Lamps;", true)
  | 2 => ("LampLeaseOffice$State", "requests", "LLampLeaseOffice$Requests;", true)
  | 3 => ("LampLeaseOffice$State", "oil", "I", false)
  | 4 => ("LampLeaseOffice$State", "hour", "I", false)
  | 5 => ("LampLeaseOffice$State", "officeCoins", "I", false)
  | _ => ("LampLeaseOffice$State", "refused", "I", false)
def tyX10 : Nat → FieldType := fun k => match k with
  | 0 => .object "LampLeaseOffice$Ships"
  | 1 => .object "LampLeaseOffice$Lamps"
  | 2 => .object "LampLeaseOffice$Requests"
  | 3 => .int
  | 4 => .int
  | 5 => .int
  | _ => .int
theorem nmX10 : ∀ a, a < 7 → ∀ b, b < 7 → a ≠ b → (TX10 a).2.1 ≠ (TX10 b).2.1 := by decide +kernel
theorem tyX10_ok : ∀ k, k < 7 → parseFieldDescriptor (TX10 k).2.2.1 = some (tyX10 k) := by decide +kernel
abbrev cX10_init : ByteArray := prog_12_method_1_code
def yX10_init : MethodName := ⟨RX10, "<init>", "()V"⟩
abbrev cX10_faultOfNewShip : ByteArray := prog_12_method_2_code
def yX10_faultOfNewShip : MethodName := ⟨RX10, "faultOfNewShip", "()C"⟩
abbrev cX10_faultOfNewLamp : ByteArray := prog_12_method_3_code
def yX10_faultOfNewLamp : MethodName := ⟨RX10, "faultOfNewLamp", "(I)C"⟩
abbrev cX10_faultOfNewOil : ByteArray := prog_12_method_4_code
def yX10_faultOfNewOil : MethodName := ⟨RX10, "faultOfNewOil", "(I)C"⟩
abbrev cX10_faultOfLease : ByteArray := prog_12_method_5_code
def yX10_faultOfLease : MethodName := ⟨RX10, "faultOfLease", "(III)C"⟩
abbrev cX10_faultOfRequest : ByteArray := prog_12_method_6_code
def yX10_faultOfRequest : MethodName := ⟨RX10, "faultOfRequest", "(II)C"⟩
abbrev cX10_faultOfUnleased : ByteArray := prog_12_method_7_code
def yX10_faultOfUnleased : MethodName := ⟨RX10, "faultOfUnleased", "(I)C"⟩
abbrev cX10_faultOfWait : ByteArray := prog_12_method_8_code
def yX10_faultOfWait : MethodName := ⟨RX10, "faultOfWait", "(I)C"⟩
abbrev cX10_isNoLeaseTime : ByteArray := prog_12_method_9_code
def yX10_isNoLeaseTime : MethodName := ⟨RX10, "isNoLeaseTime", "(I)Z"⟩
abbrev cX10_price : ByteArray := prog_12_method_10_code
def yX10_price : MethodName := ⟨RX10, "price", "(II)I"⟩
abbrev cX10_fillUp : ByteArray := prog_12_method_11_code
def yX10_fillUp : MethodName := ⟨RX10, "fillUp", "(I)I"⟩
abbrev cX10_leaseOut : ByteArray := prog_12_method_12_code
def yX10_leaseOut : MethodName := ⟨RX10, "leaseOut", "(III)I"⟩
abbrev cX10_payOffice : ByteArray := prog_12_method_13_code
def yX10_payOffice : MethodName := ⟨RX10, "payOffice", "(II)V"⟩
abbrev cX10_takeBack : ByteArray := prog_12_method_14_code
def yX10_takeBack : MethodName := ⟨RX10, "takeBack", "(I)I"⟩
abbrev cX10_letPass : ByteArray := prog_12_method_15_code
def yX10_letPass : MethodName := ⟨RX10, "letPass", "(I)I"⟩
abbrev cX10_passOneHour : ByteArray := prog_12_method_16_code
def yX10_passOneHour : MethodName := ⟨RX10, "passOneHour", "()I"⟩
abbrev cX10_processRequests : ByteArray := prog_12_method_17_code
def yX10_processRequests : MethodName := ⟨RX10, "processRequests", "()V"⟩
abbrev cX10_renewOrRefuse : ByteArray := prog_12_method_18_code
def yX10_renewOrRefuse : MethodName := ⟨RX10, "renewOrRefuse", "(II)V"⟩
abbrev cX10_burn : ByteArray := prog_12_method_19_code
def yX10_burn : MethodName := ⟨RX10, "burn", "()V"⟩
abbrev cX10_fineDarkShips : ByteArray := prog_12_method_20_code
def yX10_fineDarkShips : MethodName := ⟨RX10, "fineDarkShips", "()V"⟩
abbrev cX10_endLeases : ByteArray := prog_12_method_21_code
def yX10_endLeases : MethodName := ⟨RX10, "endLeases", "()I"⟩
abbrev cX10_copyFrom : ByteArray := prog_12_method_22_code
def yX10_copyFrom : MethodName := ⟨RX10, "copyFrom", "(LLampLeaseOffice$State;)V"⟩
def RX11 : String := "LampLeaseOffice"
def TX11 : u_T := fun k => match k with
  | 0 => ("LampLeaseOffice", "state", "LLampLeaseOffice$State;", true)
  | 1 => ("LampLeaseOffice", "stateBefore", "LLampLeaseOffice$State;", true)
  | 2 => ("LampLeaseOffice", "savedState", "LLampLeaseOffice$State;", true)
  | 3 => ("LampLeaseOffice", "hasSavedState", "Z", false)
  | 4 => ("LampLeaseOffice", "history", "LLampLeaseOffice$History;", true)
  | 5 => ("LampLeaseOffice", "forecast", "LLampLeaseOffice$Forecast;", true)
  | 6 => ("LampLeaseOffice", "division", "LLampLeaseOffice$Division;", true)
  | 7 => ("LampLeaseOffice", "text", "LLampLeaseOffice$CommandText;", true)
  | 8 => ("LampLeaseOffice", "output", "Ljava/lang/StringBuilder;", true)
  | 9 => ("LampLeaseOffice", "lastErrorPosition", "I", false)
  | 10 => ("LampLeaseOffice", "lastFailedCommand", "I", false)
  | _ => ("LampLeaseOffice", "lastFailureReason", "C", false)
def tyX11 : Nat → FieldType := fun k => match k with
  | 0 => .object "LampLeaseOffice$State"
  | 1 => .object "LampLeaseOffice$State"
  | 2 => .object "LampLeaseOffice$State"
  | 3 => .boolean
  | 4 => .object "LampLeaseOffice$History"
  | 5 => .object "LampLeaseOffice$Forecast"
  | 6 => .object "LampLeaseOffice$Division"
  | 7 => .object "LampLeaseOffice$CommandText"
  | 8 => .object "java/lang/StringBuilder"
  | 9 => .int
  | 10 => .int
  | _ => .char
theorem nmX11 : ∀ a, a < 12 → ∀ b, b < 12 → a ≠ b → (TX11 a).2.1 ≠ (TX11 b).2.1 := by decide +kernel
theorem tyX11_ok : ∀ k, k < 12 → parseFieldDescriptor (TX11 k).2.2.1 = some (tyX11 k) := by decide +kernel
abbrev cX11_init : ByteArray := prog_1_method_1_code
def yX11_init : MethodName := ⟨RX11, "<init>", "()V"⟩
abbrev cX11_addShip : ByteArray := prog_1_method_2_code
def yX11_addShip : MethodName := ⟨RX11, "addShip", "()I"⟩
abbrev cX11_addLamp : ByteArray := prog_1_method_3_code
def yX11_addLamp : MethodName := ⟨RX11, "addLamp", "(I)I"⟩
abbrev cX11_addOil : ByteArray := prog_1_method_4_code
def yX11_addOil : MethodName := ⟨RX11, "addOil", "(I)I"⟩
abbrev cX11_lease : ByteArray := prog_1_method_5_code
def yX11_lease : MethodName := ⟨RX11, "lease", "(III)I"⟩
abbrev cX11_requestRenewal : ByteArray := prog_1_method_6_code
def yX11_requestRenewal : MethodName := ⟨RX11, "requestRenewal", "(II)I"⟩
abbrev cX11_giveUp : ByteArray := prog_1_method_7_code
def yX11_giveUp : MethodName := ⟨RX11, "giveUp", "(I)I"⟩
abbrev cX11_passHours : ByteArray := prog_1_method_8_code
def yX11_passHours : MethodName := ⟨RX11, "passHours", "(I)I"⟩
abbrev cX11_hour : ByteArray := prog_1_method_9_code
def yX11_hour : MethodName := ⟨RX11, "hour", "()I"⟩
abbrev cX11_shipCount : ByteArray := prog_1_method_10_code
def yX11_shipCount : MethodName := ⟨RX11, "shipCount", "()I"⟩
abbrev cX11_coins : ByteArray := prog_1_method_11_code
def yX11_coins : MethodName := ⟨RX11, "coins", "(I)I"⟩
abbrev cX11_finesPaid : ByteArray := prog_1_method_12_code
def yX11_finesPaid : MethodName := ⟨RX11, "finesPaid", "(I)I"⟩
abbrev cX11_darkHours : ByteArray := prog_1_method_13_code
def yX11_darkHours : MethodName := ⟨RX11, "darkHours", "(I)I"⟩
abbrev cX11_demand : ByteArray := prog_1_method_14_code
def yX11_demand : MethodName := ⟨RX11, "demand", "(I)I"⟩
abbrev cX11_leasesOf : ByteArray := prog_1_method_15_code
def yX11_leasesOf : MethodName := ⟨RX11, "leasesOf", "(I)I"⟩
abbrev cX11_lampCount : ByteArray := prog_1_method_16_code
def yX11_lampCount : MethodName := ⟨RX11, "lampCount", "()I"⟩
abbrev cX11_level : ByteArray := prog_1_method_17_code
def yX11_level : MethodName := ⟨RX11, "level", "(I)I"⟩
abbrev cX11_isLeased : ByteArray := prog_1_method_18_code
def yX11_isLeased : MethodName := ⟨RX11, "isLeased", "(I)Z"⟩
abbrev cX11_lessee : ByteArray := prog_1_method_19_code
def yX11_lessee : MethodName := ⟨RX11, "lessee", "(I)I"⟩
abbrev cX11_endHour : ByteArray := prog_1_method_20_code
def yX11_endHour : MethodName := ⟨RX11, "endHour", "(I)I"⟩
abbrev cX11_brightHours : ByteArray := prog_1_method_21_code
def yX11_brightHours : MethodName := ⟨RX11, "brightHours", "(I)I"⟩
abbrev cX11_wasBright : ByteArray := prog_1_method_22_code
def yX11_wasBright : MethodName := ⟨RX11, "wasBright", "(I)Z"⟩
abbrev cX11_leasedLamps : ByteArray := prog_1_method_23_code
def yX11_leasedLamps : MethodName := ⟨RX11, "leasedLamps", "()I"⟩
abbrev cX11_oil : ByteArray := prog_1_method_24_code
def yX11_oil : MethodName := ⟨RX11, "oil", "()I"⟩
abbrev cX11_consumption : ByteArray := prog_1_method_25_code
def yX11_consumption : MethodName := ⟨RX11, "consumption", "()I"⟩
abbrev cX11_hoursOfOil : ByteArray := prog_1_method_26_code
def yX11_hoursOfOil : MethodName := ⟨RX11, "hoursOfOil", "()I"⟩
abbrev cX11_hoursOfOilByEnds : ByteArray := prog_1_method_27_code
def yX11_hoursOfOilByEnds : MethodName := ⟨RX11, "hoursOfOilByEnds", "()I"⟩
abbrev cX11_brightNext : ByteArray := prog_1_method_28_code
def yX11_brightNext : MethodName := ⟨RX11, "brightNext", "()I"⟩
abbrev cX11_mostBright : ByteArray := prog_1_method_29_code
def yX11_mostBright : MethodName := ⟨RX11, "mostBright", "()I"⟩
abbrev cX11_mostBrightBySums : ByteArray := prog_1_method_30_code
def yX11_mostBrightBySums : MethodName := ⟨RX11, "mostBrightBySums", "()I"⟩
abbrev cX11_share : ByteArray := prog_1_method_31_code
def yX11_share : MethodName := ⟨RX11, "share", "(I)I"⟩
abbrev cX11_shareByRank : ByteArray := prog_1_method_32_code
def yX11_shareByRank : MethodName := ⟨RX11, "shareByRank", "(I)I"⟩
abbrev cX11_requestCount : ByteArray := prog_1_method_33_code
def yX11_requestCount : MethodName := ⟨RX11, "requestCount", "()I"⟩
abbrev cX11_requestedLamp : ByteArray := prog_1_method_34_code
def yX11_requestedLamp : MethodName := ⟨RX11, "requestedLamp", "(I)I"⟩
abbrev cX11_requestedHours : ByteArray := prog_1_method_35_code
def yX11_requestedHours : MethodName := ⟨RX11, "requestedHours", "(I)I"⟩
abbrev cX11_refusedRenewals : ByteArray := prog_1_method_36_code
def yX11_refusedRenewals : MethodName := ⟨RX11, "refusedRenewals", "()I"⟩
abbrev cX11_officeCoins : ByteArray := prog_1_method_37_code
def yX11_officeCoins : MethodName := ⟨RX11, "officeCoins", "()I"⟩
abbrev cX11_shipByFines : ByteArray := prog_1_method_38_code
def yX11_shipByFines : MethodName := ⟨RX11, "shipByFines", "(I)I"⟩
abbrev cX11_lampByEnd : ByteArray := prog_1_method_39_code
def yX11_lampByEnd : MethodName := ⟨RX11, "lampByEnd", "(I)I"⟩
abbrev cX11_meanCoins : ByteArray := prog_1_method_40_code
def yX11_meanCoins : MethodName := ⟨RX11, "meanCoins", "()D"⟩
abbrev cX11_leasedShare : ByteArray := prog_1_method_41_code
def yX11_leasedShare : MethodName := ⟨RX11, "leasedShare", "()F"⟩
abbrev cX11_isConsistent : ByteArray := prog_1_method_42_code
def yX11_isConsistent : MethodName := ⟨RX11, "isConsistent", "()Z"⟩
abbrev cX11_coinsAddUp : ByteArray := prog_1_method_43_code
def yX11_coinsAddUp : MethodName := ⟨RX11, "coinsAddUp", "()Z"⟩
abbrev cX11_sharesAgree : ByteArray := prog_1_method_44_code
def yX11_sharesAgree : MethodName := ⟨RX11, "sharesAgree", "()Z"⟩
abbrev cX11_sharesAddUp : ByteArray := prog_1_method_45_code
def yX11_sharesAddUp : MethodName := ⟨RX11, "sharesAddUp", "()Z"⟩
abbrev cX11_brightnessAgrees : ByteArray := prog_1_method_46_code
def yX11_brightnessAgrees : MethodName := ⟨RX11, "brightnessAgrees", "()Z"⟩
abbrev cX11_requestsAreForLeasedLamps : ByteArray := prog_1_method_47_code
def yX11_requestsAreForLeasedLamps : MethodName := ⟨RX11, "requestsAreForLeasedLamps", "()Z"⟩
abbrev cX11_feed : ByteArray := prog_1_method_48_code
def yX11_feed : MethodName := ⟨RX11, "feed", "(C)I"⟩
abbrev cX11_runCommands : ByteArray := prog_1_method_49_code
def yX11_runCommands : MethodName := ⟨RX11, "runCommands", "()I"⟩
abbrev cX11_faultOf : ByteArray := prog_1_method_50_code
def yX11_faultOf : MethodName := ⟨RX11, "faultOf", "(LLampLeaseOffice$Command;)C"⟩
abbrev cX11_carryOut : ByteArray := prog_1_method_51_code
def yX11_carryOut : MethodName := ⟨RX11, "carryOut", "(LLampLeaseOffice$Command;)V"⟩
abbrev cX11_errorPosition : ByteArray := prog_1_method_52_code
def yX11_errorPosition : MethodName := ⟨RX11, "errorPosition", "()I"⟩
abbrev cX11_failedCommand : ByteArray := prog_1_method_53_code
def yX11_failedCommand : MethodName := ⟨RX11, "failedCommand", "()I"⟩
abbrev cX11_failureReason : ByteArray := prog_1_method_54_code
def yX11_failureReason : MethodName := ⟨RX11, "failureReason", "()C"⟩
abbrev cX11_writeLamps : ByteArray := prog_1_method_55_code
def yX11_writeLamps : MethodName := ⟨RX11, "writeLamps", "()I"⟩
abbrev cX11_describe : ByteArray := prog_1_method_56_code
def yX11_describe : MethodName := ⟨RX11, "describe", "(I)V"⟩
abbrev cX11_outputChar : ByteArray := prog_1_method_57_code
def yX11_outputChar : MethodName := ⟨RX11, "outputChar", "(I)C"⟩
abbrev cX11_undoCount : ByteArray := prog_1_method_58_code
def yX11_undoCount : MethodName := ⟨RX11, "undoCount", "()I"⟩
abbrev cX11_undo : ByteArray := prog_1_method_59_code
def yX11_undo : MethodName := ⟨RX11, "undo", "()I"⟩
abbrev cX11_save : ByteArray := prog_1_method_60_code
def yX11_save : MethodName := ⟨RX11, "save", "()I"⟩
abbrev cX11_restore : ByteArray := prog_1_method_61_code
def yX11_restore : MethodName := ⟨RX11, "restore", "()I"⟩
abbrev cX11_throwFor : ByteArray := prog_1_method_62_code
def yX11_throwFor : MethodName := ⟨RX11, "throwFor", "(C)V"⟩
abbrev cX11_throwUnlessShip : ByteArray := prog_1_method_63_code
def yX11_throwUnlessShip : MethodName := ⟨RX11, "throwUnlessShip", "(I)V"⟩
abbrev cX11_throwUnlessLamp : ByteArray := prog_1_method_64_code
def yX11_throwUnlessLamp : MethodName := ⟨RX11, "throwUnlessLamp", "(I)V"⟩
abbrev cX11_throwUnlessPosition : ByteArray := prog_1_method_65_code
def yX11_throwUnlessPosition : MethodName := ⟨RX11, "throwUnlessPosition", "(I)V"⟩
abbrev cX11_throwIfNothing : ByteArray := prog_1_method_66_code
def yX11_throwIfNothing : MethodName := ⟨RX11, "throwIfNothing", "(I)V"⟩
def RX12 : String := "LampLeaseOfficeModel"
def TX12 : u_T := fun k => match k with
  | 0 => ("LampLeaseOfficeModel", "s", "[I", true)
  | 1 => ("LampLeaseOfficeModel", "before", "[I", true)
  | 2 => ("LampLeaseOfficeModel", "aside", "[I", true)
  | 3 => ("LampLeaseOfficeModel", "saved", "[I", true)
  | 4 => ("LampLeaseOfficeModel", "isSaved", "Z", false)
  | 5 => ("LampLeaseOfficeModel", "past", "[I", true)
  | 6 => ("LampLeaseOfficeModel", "pastMany", "I", false)
  | 7 => ("LampLeaseOfficeModel", "thrown", "I", false)
  | 8 => ("LampLeaseOfficeModel", "output", "[C", true)
  | 9 => ("LampLeaseOfficeModel", "outputMany", "I", false)
  | 10 => ("LampLeaseOfficeModel", "input", "[C", true)
  | 11 => ("LampLeaseOfficeModel", "length", "I", false)
  | 12 => ("LampLeaseOfficeModel", "at", "I", false)
  | 13 => ("LampLeaseOfficeModel", "isWrong", "Z", false)
  | 14 => ("LampLeaseOfficeModel", "errorAt", "I", false)
  | 15 => ("LampLeaseOfficeModel", "failedAt", "I", false)
  | 16 => ("LampLeaseOfficeModel", "reason", "C", false)
  | 17 => ("LampLeaseOfficeModel", "commands", "[I", true)
  | _ => ("LampLeaseOfficeModel", "commandMany", "I", false)
def tyX12 : Nat → FieldType := fun k => match k with
  | 0 => .array .int
  | 1 => .array .int
  | 2 => .array .int
  | 3 => .array .int
  | 4 => .boolean
  | 5 => .array .int
  | 6 => .int
  | 7 => .int
  | 8 => .array .char
  | 9 => .int
  | 10 => .array .char
  | 11 => .int
  | 12 => .int
  | 13 => .boolean
  | 14 => .int
  | 15 => .int
  | 16 => .char
  | 17 => .array .int
  | _ => .int
theorem nmX12 : ∀ a, a < 19 → ∀ b, b < 19 → a ≠ b → (TX12 a).2.1 ≠ (TX12 b).2.1 := by decide +kernel
theorem tyX12_ok : ∀ k, k < 19 → parseFieldDescriptor (TX12 k).2.2.1 = some (tyX12 k) := by decide +kernel
abbrev cX12_init : ByteArray := prog_14_method_1_code
def yX12_init : MethodName := ⟨RX12, "<init>", "()V"⟩
abbrev cX12_thrown : ByteArray := prog_14_method_2_code
def yX12_thrown : MethodName := ⟨RX12, "thrown", "()I"⟩
abbrev cX12_in : ByteArray := prog_14_method_3_code
def yX12_in : MethodName := ⟨RX12, "in", "(III)Z"⟩
abbrev cX12_keep : ByteArray := prog_14_method_4_code
def yX12_keep : MethodName := ⟨RX12, "keep", "()V"⟩
abbrev cX12_ends : ByteArray := prog_14_method_5_code
def yX12_ends : MethodName := ⟨RX12, "ends", "(I)I"⟩
abbrev cX12_fails : ByteArray := prog_14_method_6_code
def yX12_fails : MethodName := ⟨RX12, "fails", "(I)I"⟩
abbrev cX12_isThere : ByteArray := prog_14_method_7_code
def yX12_isThere : MethodName := ⟨RX12, "isThere", "(Z)Z"⟩
abbrev cX12_isShip : ByteArray := prog_14_method_8_code
def yX12_isShip : MethodName := ⟨RX12, "isShip", "(I)Z"⟩
abbrev cX12_isLamp : ByteArray := prog_14_method_9_code
def yX12_isLamp : MethodName := ⟨RX12, "isLamp", "(I)Z"⟩
abbrev cX12_ofShip : ByteArray := prog_14_method_10_code
def yX12_ofShip : MethodName := ⟨RX12, "ofShip", "(II)I"⟩
abbrev cX12_of : ByteArray := prog_14_method_11_code
def yX12_of : MethodName := ⟨RX12, "of", "(II)I"⟩
abbrev cX12_sets : ByteArray := prog_14_method_12_code
def yX12_sets : MethodName := ⟨RX12, "sets", "(III)V"⟩
abbrev cX12_isOut : ByteArray := prog_14_method_13_code
def yX12_isOut : MethodName := ⟨RX12, "isOut", "(I)Z"⟩
abbrev cX12_pays : ByteArray := prog_14_method_14_code
def yX12_pays : MethodName := ⟨RX12, "pays", "(II)V"⟩
abbrev cX12_requestFor : ByteArray := prog_14_method_15_code
def yX12_requestFor : MethodName := ⟨RX12, "requestFor", "(I)I"⟩
abbrev cX12_frees : ByteArray := prog_14_method_16_code
def yX12_frees : MethodName := ⟨RX12, "frees", "(I)V"⟩
abbrev cX12_doAddShip : ByteArray := prog_14_method_17_code
def yX12_doAddShip : MethodName := ⟨RX12, "doAddShip", "()I"⟩
abbrev cX12_addShip : ByteArray := prog_14_method_18_code
def yX12_addShip : MethodName := ⟨RX12, "addShip", "()I"⟩
abbrev cX12_doAddLamp : ByteArray := prog_14_method_19_code
def yX12_doAddLamp : MethodName := ⟨RX12, "doAddLamp", "(I)I"⟩
abbrev cX12_addLamp : ByteArray := prog_14_method_20_code
def yX12_addLamp : MethodName := ⟨RX12, "addLamp", "(I)I"⟩
abbrev cX12_doAddOil : ByteArray := prog_14_method_21_code
def yX12_doAddOil : MethodName := ⟨RX12, "doAddOil", "(I)I"⟩
abbrev cX12_addOil : ByteArray := prog_14_method_22_code
def yX12_addOil : MethodName := ⟨RX12, "addOil", "(I)I"⟩
abbrev cX12_doLease : ByteArray := prog_14_method_23_code
def yX12_doLease : MethodName := ⟨RX12, "doLease", "(III)I"⟩
abbrev cX12_lease : ByteArray := prog_14_method_24_code
def yX12_lease : MethodName := ⟨RX12, "lease", "(III)I"⟩
abbrev cX12_doRequestRenewal : ByteArray := prog_14_method_25_code
def yX12_doRequestRenewal : MethodName := ⟨RX12, "doRequestRenewal", "(II)I"⟩
abbrev cX12_requestRenewal : ByteArray := prog_14_method_26_code
def yX12_requestRenewal : MethodName := ⟨RX12, "requestRenewal", "(II)I"⟩
abbrev cX12_doGiveUp : ByteArray := prog_14_method_27_code
def yX12_doGiveUp : MethodName := ⟨RX12, "doGiveUp", "(I)I"⟩
abbrev cX12_giveUp : ByteArray := prog_14_method_28_code
def yX12_giveUp : MethodName := ⟨RX12, "giveUp", "(I)I"⟩
abbrev cX12_renews : ByteArray := prog_14_method_29_code
def yX12_renews : MethodName := ⟨RX12, "renews", "()V"⟩
abbrev cX12_burns : ByteArray := prog_14_method_30_code
def yX12_burns : MethodName := ⟨RX12, "burns", "()I"⟩
abbrev cX12_lampsOf : ByteArray := prog_14_method_31_code
def yX12_lampsOf : MethodName := ⟨RX12, "lampsOf", "(IZ)I"⟩
abbrev cX12_fines : ByteArray := prog_14_method_32_code
def yX12_fines : MethodName := ⟨RX12, "fines", "()V"⟩
abbrev cX12_endsLeases : ByteArray := prog_14_method_33_code
def yX12_endsLeases : MethodName := ⟨RX12, "endsLeases", "()I"⟩
abbrev cX12_doPassHours : ByteArray := prog_14_method_34_code
def yX12_doPassHours : MethodName := ⟨RX12, "doPassHours", "(I)I"⟩
abbrev cX12_passHours : ByteArray := prog_14_method_35_code
def yX12_passHours : MethodName := ⟨RX12, "passHours", "(I)I"⟩
abbrev cX12_hour : ByteArray := prog_14_method_36_code
def yX12_hour : MethodName := ⟨RX12, "hour", "()I"⟩
abbrev cX12_shipCount : ByteArray := prog_14_method_37_code
def yX12_shipCount : MethodName := ⟨RX12, "shipCount", "()I"⟩
abbrev cX12_coins : ByteArray := prog_14_method_38_code
def yX12_coins : MethodName := ⟨RX12, "coins", "(I)I"⟩
abbrev cX12_finesPaid : ByteArray := prog_14_method_39_code
def yX12_finesPaid : MethodName := ⟨RX12, "finesPaid", "(I)I"⟩
abbrev cX12_darkHours : ByteArray := prog_14_method_40_code
def yX12_darkHours : MethodName := ⟨RX12, "darkHours", "(I)I"⟩
abbrev cX12_wants : ByteArray := prog_14_method_41_code
def yX12_wants : MethodName := ⟨RX12, "wants", "(I)I"⟩
abbrev cX12_demand : ByteArray := prog_14_method_42_code
def yX12_demand : MethodName := ⟨RX12, "demand", "(I)I"⟩
abbrev cX12_leasesOf : ByteArray := prog_14_method_43_code
def yX12_leasesOf : MethodName := ⟨RX12, "leasesOf", "(I)I"⟩
abbrev cX12_lampCount : ByteArray := prog_14_method_44_code
def yX12_lampCount : MethodName := ⟨RX12, "lampCount", "()I"⟩
abbrev cX12_level : ByteArray := prog_14_method_45_code
def yX12_level : MethodName := ⟨RX12, "level", "(I)I"⟩
abbrev cX12_isLeased : ByteArray := prog_14_method_46_code
def yX12_isLeased : MethodName := ⟨RX12, "isLeased", "(I)Z"⟩
abbrev cX12_lessee : ByteArray := prog_14_method_47_code
def yX12_lessee : MethodName := ⟨RX12, "lessee", "(I)I"⟩
abbrev cX12_endHour : ByteArray := prog_14_method_48_code
def yX12_endHour : MethodName := ⟨RX12, "endHour", "(I)I"⟩
abbrev cX12_brightHours : ByteArray := prog_14_method_49_code
def yX12_brightHours : MethodName := ⟨RX12, "brightHours", "(I)I"⟩
abbrev cX12_wasBright : ByteArray := prog_14_method_50_code
def yX12_wasBright : MethodName := ⟨RX12, "wasBright", "(I)Z"⟩
abbrev cX12_leased : ByteArray := prog_14_method_51_code
def yX12_leased : MethodName := ⟨RX12, "leased", "()I"⟩
abbrev cX12_leasedLamps : ByteArray := prog_14_method_52_code
def yX12_leasedLamps : MethodName := ⟨RX12, "leasedLamps", "()I"⟩
abbrev cX12_oil : ByteArray := prog_14_method_53_code
def yX12_oil : MethodName := ⟨RX12, "oil", "()I"⟩
abbrev cX12_needed : ByteArray := prog_14_method_54_code
def yX12_needed : MethodName := ⟨RX12, "needed", "()I"⟩
abbrev cX12_consumption : ByteArray := prog_14_method_55_code
def yX12_consumption : MethodName := ⟨RX12, "consumption", "()I"⟩
abbrev cX12_hoursOfOil : ByteArray := prog_14_method_56_code
def yX12_hoursOfOil : MethodName := ⟨RX12, "hoursOfOil", "()I"⟩
abbrev cX12_hoursOfOilByEnds : ByteArray := prog_14_method_57_code
def yX12_hoursOfOilByEnds : MethodName := ⟨RX12, "hoursOfOilByEnds", "()I"⟩
abbrev cX12_brightNext : ByteArray := prog_14_method_58_code
def yX12_brightNext : MethodName := ⟨RX12, "brightNext", "()I"⟩
abbrev cX12_mostBright : ByteArray := prog_14_method_59_code
def yX12_mostBright : MethodName := ⟨RX12, "mostBright", "()I"⟩
abbrev cX12_mostBrightBySums : ByteArray := prog_14_method_60_code
def yX12_mostBrightBySums : MethodName := ⟨RX12, "mostBrightBySums", "()I"⟩
abbrev cX12_partOf : ByteArray := prog_14_method_61_code
def yX12_partOf : MethodName := ⟨RX12, "partOf", "(I)I"⟩
abbrev cX12_share : ByteArray := prog_14_method_62_code
def yX12_share : MethodName := ⟨RX12, "share", "(I)I"⟩
abbrev cX12_shareByRank : ByteArray := prog_14_method_63_code
def yX12_shareByRank : MethodName := ⟨RX12, "shareByRank", "(I)I"⟩
abbrev cX12_isRequest : ByteArray := prog_14_method_64_code
def yX12_isRequest : MethodName := ⟨RX12, "isRequest", "(I)Z"⟩
abbrev cX12_requestCount : ByteArray := prog_14_method_65_code
def yX12_requestCount : MethodName := ⟨RX12, "requestCount", "()I"⟩
abbrev cX12_requestedLamp : ByteArray := prog_14_method_66_code
def yX12_requestedLamp : MethodName := ⟨RX12, "requestedLamp", "(I)I"⟩
abbrev cX12_requestedHours : ByteArray := prog_14_method_67_code
def yX12_requestedHours : MethodName := ⟨RX12, "requestedHours", "(I)I"⟩
abbrev cX12_refusedRenewals : ByteArray := prog_14_method_68_code
def yX12_refusedRenewals : MethodName := ⟨RX12, "refusedRenewals", "()I"⟩
abbrev cX12_officeCoins : ByteArray := prog_14_method_69_code
def yX12_officeCoins : MethodName := ⟨RX12, "officeCoins", "()I"⟩
abbrev cX12_shipByFines : ByteArray := prog_14_method_70_code
def yX12_shipByFines : MethodName := ⟨RX12, "shipByFines", "(I)I"⟩
abbrev cX12_lampByEnd : ByteArray := prog_14_method_71_code
def yX12_lampByEnd : MethodName := ⟨RX12, "lampByEnd", "(I)I"⟩
abbrev cX12_meanCoins : ByteArray := prog_14_method_72_code
def yX12_meanCoins : MethodName := ⟨RX12, "meanCoins", "()D"⟩
abbrev cX12_leasedShare : ByteArray := prog_14_method_73_code
def yX12_leasedShare : MethodName := ⟨RX12, "leasedShare", "()F"⟩
abbrev cX12_isConsistent : ByteArray := prog_14_method_74_code
def yX12_isConsistent : MethodName := ⟨RX12, "isConsistent", "()Z"⟩
abbrev cX12_says : ByteArray := prog_14_method_75_code
def yX12_says : MethodName := ⟨RX12, "says", "(C)V"⟩
abbrev cX12_saysNumber : ByteArray := prog_14_method_76_code
def yX12_saysNumber : MethodName := ⟨RX12, "saysNumber", "(I)V"⟩
abbrev cX12_writeLamps : ByteArray := prog_14_method_77_code
def yX12_writeLamps : MethodName := ⟨RX12, "writeLamps", "()I"⟩
abbrev cX12_outputChar : ByteArray := prog_14_method_78_code
def yX12_outputChar : MethodName := ⟨RX12, "outputChar", "(I)C"⟩
abbrev cX12_feed : ByteArray := prog_14_method_79_code
def yX12_feed : MethodName := ⟨RX12, "feed", "(C)I"⟩
abbrev cX12_behind : ByteArray := prog_14_method_80_code
def yX12_behind : MethodName := ⟨RX12, "behind", "(I)I"⟩
abbrev cX12_skip : ByteArray := prog_14_method_81_code
def yX12_skip : MethodName := ⟨RX12, "skip", "(Ljava/lang/String;)V"⟩
abbrev cX12_isDigit : ByteArray := prog_14_method_82_code
def yX12_isDigit : MethodName := ⟨RX12, "isDigit", "()Z"⟩
abbrev cX12_readNumber : ByteArray := prog_14_method_83_code
def yX12_readNumber : MethodName := ⟨RX12, "readNumber", "(I)I"⟩
abbrev cX12_readCommand : ByteArray := prog_14_method_84_code
def yX12_readCommand : MethodName := ⟨RX12, "readCommand", "()V"⟩
abbrev cX12_does : ByteArray := prog_14_method_85_code
def yX12_does : MethodName := ⟨RX12, "does", "(I)Ljava/lang/String;"⟩
abbrev cX12_runCommands : ByteArray := prog_14_method_86_code
def yX12_runCommands : MethodName := ⟨RX12, "runCommands", "()I"⟩
abbrev cX12_errorPosition : ByteArray := prog_14_method_87_code
def yX12_errorPosition : MethodName := ⟨RX12, "errorPosition", "()I"⟩
abbrev cX12_failedCommand : ByteArray := prog_14_method_88_code
def yX12_failedCommand : MethodName := ⟨RX12, "failedCommand", "()I"⟩
abbrev cX12_failureReason : ByteArray := prog_14_method_89_code
def yX12_failureReason : MethodName := ⟨RX12, "failureReason", "()C"⟩
abbrev cX12_undoCount : ByteArray := prog_14_method_90_code
def yX12_undoCount : MethodName := ⟨RX12, "undoCount", "()I"⟩
abbrev cX12_undo : ByteArray := prog_14_method_91_code
def yX12_undo : MethodName := ⟨RX12, "undo", "()I"⟩
abbrev cX12_save : ByteArray := prog_14_method_92_code
def yX12_save : MethodName := ⟨RX12, "save", "()I"⟩
abbrev cX12_restore : ByteArray := prog_14_method_93_code
def yX12_restore : MethodName := ⟨RX12, "restore", "()I"⟩
def RJx145de : String := "java/io/Serializable"
def TJx145de : u_T := fun k => match k with
  | _ => ("", "", "", false)
def tyJx145de : Nat → FieldType := fun k => match k with
  | _ => .int
theorem nmJx145de : ∀ a, a < 0 → ∀ b, b < 0 → a ≠ b → (TJx145de a).2.1 ≠ (TJx145de b).2.1 := by decide +kernel
theorem tyJx145de_ok : ∀ k, k < 0 → parseFieldDescriptor (TJx145de k).2.2.1 = some (tyJx145de k) := by decide +kernel
def RJ5 : String := "java/lang/AbstractStringBuilder"
def TJ5 : u_T := fun k => match k with
  | _ => ("", "", "", false)
def tyJ5 : Nat → FieldType := fun k => match k with
  | _ => .int
theorem nmJ5 : ∀ a, a < 0 → ∀ b, b < 0 → a ≠ b → (TJ5 a).2.1 ≠ (TJ5 b).2.1 := by decide +kernel
theorem tyJ5_ok : ∀ k, k < 0 → parseFieldDescriptor (TJ5 k).2.2.1 = some (tyJ5 k) := by decide +kernel
abbrev cJ5_init_d00df : ByteArray := prog_16_method_2_code
def yJ5_init_d00df : MethodName := ⟨RJ5, "<init>", "(I)V"⟩
abbrev cJ5_length_8abf5 : ByteArray := prog_16_method_6_code
def yJ5_length_8abf5 : MethodName := ⟨RJ5, "length", "()I"⟩
abbrev cJ5_ensureCapacityInternal_d00df : ByteArray := prog_16_method_9_code
def yJ5_ensureCapacityInternal_d00df : MethodName := ⟨RJ5, "ensureCapacityInternal", "(I)V"⟩
abbrev cJ5_newCapacity_0f7a4 : ByteArray := prog_16_method_10_code
def yJ5_newCapacity_0f7a4 : MethodName := ⟨RJ5, "newCapacity", "(I)I"⟩
abbrev cJ5_inflate_da8c8 : ByteArray := prog_16_method_11_code
def yJ5_inflate_da8c8 : MethodName := ⟨RJ5, "inflate", "()V"⟩
abbrev cJ5_setLength_d00df : ByteArray := prog_16_method_13_code
def yJ5_setLength_d00df : MethodName := ⟨RJ5, "setLength", "(I)V"⟩
abbrev cJ5_charAt_5068e : ByteArray := prog_16_method_14_code
def yJ5_charAt_5068e : MethodName := ⟨RJ5, "charAt", "(I)C"⟩
abbrev cJ5_append_cf1ce : ByteArray := prog_16_method_22_code
def yJ5_append_cf1ce : MethodName := ⟨RJ5, "append", "(Ljava/lang/String;)Ljava/lang/AbstractStringBuilder;"⟩
abbrev cJ5_appendNull_278bc : ByteArray := prog_16_method_26_code
def yJ5_appendNull_278bc : MethodName := ⟨RJ5, "appendNull", "()Ljava/lang/AbstractStringBuilder;"⟩
abbrev cJ5_append_3fe6f : ByteArray := prog_16_method_31_code
def yJ5_append_3fe6f : MethodName := ⟨RJ5, "append", "(C)Ljava/lang/AbstractStringBuilder;"⟩
abbrev cJ5_append_c97b9 : ByteArray := prog_16_method_32_code
def yJ5_append_c97b9 : MethodName := ⟨RJ5, "append", "(I)Ljava/lang/AbstractStringBuilder;"⟩
abbrev cJ5_getValue_6d5f1 : ByteArray := prog_16_method_64_code
def yJ5_getValue_6d5f1 : MethodName := ⟨RJ5, "getValue", "()[B"⟩
abbrev cJ5_isLatin1_aae02 : ByteArray := prog_16_method_68_code
def yJ5_isLatin1_aae02 : MethodName := ⟨RJ5, "isLatin1", "()Z"⟩
abbrev cJ5_inflateIfNeededFor_a7421 : ByteArray := prog_16_method_71_code
def yJ5_inflateIfNeededFor_a7421 : MethodName := ⟨RJ5, "inflateIfNeededFor", "(Ljava/lang/String;)V"⟩
abbrev cJ5_putStringAt_47b60 : ByteArray := prog_16_method_73_code
def yJ5_putStringAt_47b60 : MethodName := ⟨RJ5, "putStringAt", "(ILjava/lang/String;)V"⟩
def RJx2cfe8 : String := "java/lang/Appendable"
def TJx2cfe8 : u_T := fun k => match k with
  | _ => ("", "", "", false)
def tyJx2cfe8 : Nat → FieldType := fun k => match k with
  | _ => .int
theorem nmJx2cfe8 : ∀ a, a < 0 → ∀ b, b < 0 → a ≠ b → (TJx2cfe8 a).2.1 ≠ (TJx2cfe8 b).2.1 := by decide +kernel
theorem tyJx2cfe8_ok : ∀ k, k < 0 → parseFieldDescriptor (TJx2cfe8 k).2.2.1 = some (tyJx2cfe8 k) := by decide +kernel
def RJx00060 : String := "java/lang/ArrayIndexOutOfBoundsException"
def TJx00060 : u_T := fun k => match k with
  | 0 => ("java/lang/Throwable", "cause", "Ljava/lang/Throwable;", false)
  | 1 => ("java/lang/Throwable", "stackTrace", "[Ljava/lang/StackTraceElement;", false)
  | 2 => ("java/lang/Throwable", "suppressedExceptions", "Ljava/util/List;", false)
  | 3 => ("java/lang/Throwable", "detailMessage", "Ljava/lang/String;", false)
  | 4 => ("java/lang/Throwable", "backtrace", "Ljava/lang/Object;", false)
  | _ => ("java/lang/Throwable", "depth", "I", false)
def tyJx00060 : Nat → FieldType := fun k => match k with
  | 0 => .object "java/lang/Throwable"
  | 1 => .array (.object "java/lang/StackTraceElement")
  | 2 => .object "java/util/List"
  | 3 => .object "java/lang/String"
  | 4 => .object "java/lang/Object"
  | _ => .int
theorem nmJx00060 : ∀ a, a < 6 → ∀ b, b < 6 → a ≠ b → (TJx00060 a).2.1 ≠ (TJx00060 b).2.1 := by decide +kernel
theorem tyJx00060_ok : ∀ k, k < 6 → parseFieldDescriptor (TJx00060 k).2.2.1 = some (tyJx00060 k) := by decide +kernel
abbrev cJx00060_init_a7421 : ByteArray := prog_19_method_2_code
def yJx00060_init_a7421 : MethodName := ⟨RJx00060, "<init>", "(Ljava/lang/String;)V"⟩
abbrev cJx00060_init_d00df : ByteArray := prog_19_method_3_code
def yJx00060_init_d00df : MethodName := ⟨RJx00060, "<init>", "(I)V"⟩
def RJx9f9b0 : String := "java/lang/CharSequence"
def TJx9f9b0 : u_T := fun k => match k with
  | _ => ("", "", "", false)
def tyJx9f9b0 : Nat → FieldType := fun k => match k with
  | _ => .int
theorem nmJx9f9b0 : ∀ a, a < 0 → ∀ b, b < 0 → a ≠ b → (TJx9f9b0 a).2.1 ≠ (TJx9f9b0 b).2.1 := by decide +kernel
theorem tyJx9f9b0_ok : ∀ k, k < 0 → parseFieldDescriptor (TJx9f9b0 k).2.2.1 = some (tyJx9f9b0 k) := by decide +kernel
def RJx8e188 : String := "java/lang/Cloneable"
def TJx8e188 : u_T := fun k => match k with
  | _ => ("", "", "", false)
def tyJx8e188 : Nat → FieldType := fun k => match k with
  | _ => .int
theorem nmJx8e188 : ∀ a, a < 0 → ∀ b, b < 0 → a ≠ b → (TJx8e188 a).2.1 ≠ (TJx8e188 b).2.1 := by decide +kernel
theorem tyJx8e188_ok : ∀ k, k < 0 → parseFieldDescriptor (TJx8e188 k).2.2.1 = some (tyJx8e188 k) := by decide +kernel
def RJxb160c : String := "java/lang/Comparable"
def TJxb160c : u_T := fun k => match k with
  | _ => ("", "", "", false)
def tyJxb160c : Nat → FieldType := fun k => match k with
  | _ => .int
theorem nmJxb160c : ∀ a, a < 0 → ∀ b, b < 0 → a ≠ b → (TJxb160c a).2.1 ≠ (TJxb160c b).2.1 := by decide +kernel
theorem tyJxb160c_ok : ∀ k, k < 0 → parseFieldDescriptor (TJxb160c k).2.2.1 = some (tyJxb160c k) := by decide +kernel
def RJx29ce0 : String := "java/lang/Enum"
def TJx29ce0 : u_T := fun k => match k with
  | _ => ("", "", "", false)
def tyJx29ce0 : Nat → FieldType := fun k => match k with
  | _ => .int
theorem nmJx29ce0 : ∀ a, a < 0 → ∀ b, b < 0 → a ≠ b → (TJx29ce0 a).2.1 ≠ (TJx29ce0 b).2.1 := by decide +kernel
theorem tyJx29ce0_ok : ∀ k, k < 0 → parseFieldDescriptor (TJx29ce0 k).2.2.1 = some (tyJx29ce0 k) := by decide +kernel
abbrev cJx29ce0_ordinal_8abf5 : ByteArray := prog_23_method_2_code
def yJx29ce0_ordinal_8abf5 : MethodName := ⟨RJx29ce0, "ordinal", "()I"⟩
def RJ6 : String := "java/lang/Integer"
def TJ6 : u_T := fun k => match k with
  | _ => ("", "", "", false)
def tyJ6 : Nat → FieldType := fun k => match k with
  | _ => .int
theorem nmJ6 : ∀ a, a < 0 → ∀ b, b < 0 → a ≠ b → (TJ6 a).2.1 ≠ (TJ6 b).2.1 := by decide +kernel
theorem tyJ6_ok : ∀ k, k < 0 → parseFieldDescriptor (TJ6 k).2.2.1 = some (tyJ6 k) := by decide +kernel
abbrev cJ6_getChars_ba4f3 : ByteArray := prog_28_method_12_code
def yJ6_getChars_ba4f3 : MethodName := ⟨RJ6, "getChars", "(II[B)I"⟩
abbrev cJ6_stringSize_0f7a4 : ByteArray := prog_28_method_13_code
def yJ6_stringSize_0f7a4 : MethodName := ⟨RJ6, "stringSize", "(I)I"⟩
def RJ9 : String := "java/lang/Math"
def TJ9 : u_T := fun k => match k with
  | _ => ("", "", "", false)
def tyJ9 : Nat → FieldType := fun k => match k with
  | _ => .int
theorem nmJ9 : ∀ a, a < 0 → ∀ b, b < 0 → a ≠ b → (TJ9 a).2.1 ≠ (TJ9 b).2.1 := by decide +kernel
theorem tyJ9_ok : ∀ k, k < 0 → parseFieldDescriptor (TJ9 k).2.2.1 = some (tyJ9 k) := by decide +kernel
abbrev cJ9_max_7cf53 : ByteArray := prog_29_method_65_code
def yJ9_max_7cf53 : MethodName := ⟨RJ9, "max", "(II)I"⟩
abbrev cJ9_min_7cf53 : ByteArray := prog_29_method_69_code
def yJ9_min_7cf53 : MethodName := ⟨RJ9, "min", "(II)I"⟩
def RJxd2413 : String := "java/lang/Number"
def TJxd2413 : u_T := fun k => match k with
  | _ => ("", "", "", false)
def tyJxd2413 : Nat → FieldType := fun k => match k with
  | _ => .int
theorem nmJxd2413 : ∀ a, a < 0 → ∀ b, b < 0 → a ≠ b → (TJxd2413 a).2.1 ≠ (TJxd2413 b).2.1 := by decide +kernel
theorem tyJxd2413_ok : ∀ k, k < 0 → parseFieldDescriptor (TJxd2413 k).2.2.1 = some (tyJxd2413 k) := by decide +kernel
def RJ0 : String := "java/lang/String"
def TJ0 : u_T := fun k => match k with
  | 0 => ("java/lang/String", "value", "[B", true)
  | 1 => ("java/lang/String", "coder", "B", true)
  | 2 => ("java/lang/String", "hash", "I", false)
  | _ => ("java/lang/String", "hashIsZero", "Z", false)
def tyJ0 : Nat → FieldType := fun k => match k with
  | 0 => .array .byte
  | 1 => .byte
  | 2 => .int
  | _ => .boolean
theorem nmJ0 : ∀ a, a < 4 → ∀ b, b < 4 → a ≠ b → (TJ0 a).2.1 ≠ (TJ0 b).2.1 := by decide +kernel
theorem tyJ0_ok : ∀ k, k < 4 → parseFieldDescriptor (TJ0 k).2.2.1 = some (tyJ0 k) := by decide +kernel
abbrev cJ0_init_81219 : ByteArray := prog_32_method_53_code
def yJ0_init_81219 : MethodName := ⟨RJ0, "<init>", "(Ljava/lang/StringBuilder;)V"⟩
abbrev cJ0_length_8abf5 : ByteArray := prog_32_method_54_code
def yJ0_length_8abf5 : MethodName := ⟨RJ0, "length", "()I"⟩
abbrev cJ0_charAt_5068e : ByteArray := prog_32_method_56_code
def yJ0_charAt_5068e : MethodName := ⟨RJ0, "charAt", "(I)C"⟩
abbrev cJ0_getBytes_840e7 : ByteArray := prog_32_method_147_code
def yJ0_getBytes_840e7 : MethodName := ⟨RJ0, "getBytes", "([BIB)V"⟩
abbrev cJ0_init_db425 : ByteArray := prog_32_method_150_code
def yJ0_init_db425 : MethodName := ⟨RJ0, "<init>", "(Ljava/lang/AbstractStringBuilder;Ljava/lang/Void;)V"⟩
abbrev cJ0_coder_7d493 : ByteArray := prog_32_method_152_code
def yJ0_coder_7d493 : MethodName := ⟨RJ0, "coder", "()B"⟩
abbrev cJ0_isLatin1_aae02 : ByteArray := prog_32_method_154_code
def yJ0_isLatin1_aae02 : MethodName := ⟨RJ0, "isLatin1", "()Z"⟩
abbrev cJ0_checkIndex_df160 : ByteArray := prog_32_method_155_code
def yJ0_checkIndex_df160 : MethodName := ⟨RJ0, "checkIndex", "(II)V"⟩
abbrev cJ0_checkBoundsOffCount_cabcc : ByteArray := prog_32_method_157_code
def yJ0_checkBoundsOffCount_cabcc : MethodName := ⟨RJ0, "checkBoundsOffCount", "(III)I"⟩
abbrev cJ0_checkBoundsBeginEnd_23922 : ByteArray := prog_32_method_158_code
def yJ0_checkBoundsBeginEnd_23922 : MethodName := ⟨RJ0, "checkBoundsBeginEnd", "(III)V"⟩
def RJ4 : String := "java/lang/StringBuilder"
def TJ4 : u_T := fun k => match k with
  | 0 => ("java/lang/AbstractStringBuilder", "value", "[B", false)
  | 1 => ("java/lang/AbstractStringBuilder", "coder", "B", false)
  | 2 => ("java/lang/AbstractStringBuilder", "maybeLatin1", "Z", false)
  | _ => ("java/lang/AbstractStringBuilder", "count", "I", false)
def tyJ4 : Nat → FieldType := fun k => match k with
  | 0 => .array .byte
  | 1 => .byte
  | 2 => .boolean
  | _ => .int
theorem nmJ4 : ∀ a, a < 4 → ∀ b, b < 4 → a ≠ b → (TJ4 a).2.1 ≠ (TJ4 b).2.1 := by decide +kernel
theorem tyJ4_ok : ∀ k, k < 4 → parseFieldDescriptor (TJ4 k).2.2.1 = some (tyJ4 k) := by decide +kernel
abbrev cJ4_init_da8c8 : ByteArray := prog_33_method_1_code
def yJ4_init_da8c8 : MethodName := ⟨RJ4, "<init>", "()V"⟩
abbrev cJ4_append_15ec4 : ByteArray := prog_33_method_7_code
def yJ4_append_15ec4 : MethodName := ⟨RJ4, "append", "(Ljava/lang/String;)Ljava/lang/StringBuilder;"⟩
abbrev cJ4_append_cf468 : ByteArray := prog_33_method_14_code
def yJ4_append_cf468 : MethodName := ⟨RJ4, "append", "(C)Ljava/lang/StringBuilder;"⟩
abbrev cJ4_append_bf812 : ByteArray := prog_33_method_15_code
def yJ4_append_bf812 : MethodName := ⟨RJ4, "append", "(I)Ljava/lang/StringBuilder;"⟩
abbrev cJ4_toString_0e30d : ByteArray := prog_33_method_42_code
def yJ4_toString_0e30d : MethodName := ⟨RJ4, "toString", "()Ljava/lang/String;"⟩
abbrev cJ4_charAt_5068e : ByteArray := prog_33_method_88_code
def yJ4_charAt_5068e : MethodName := ⟨RJ4, "charAt", "(I)C"⟩
abbrev cJ4_setLength_d00df : ByteArray := prog_33_method_89_code
def yJ4_setLength_d00df : MethodName := ⟨RJ4, "setLength", "(I)V"⟩
abbrev cJ4_length_8abf5 : ByteArray := prog_33_method_93_code
def yJ4_length_8abf5 : MethodName := ⟨RJ4, "length", "()I"⟩
def RJx7c733 : String := "java/lang/StringIndexOutOfBoundsException"
def TJx7c733 : u_T := fun k => match k with
  | 0 => ("java/lang/Throwable", "backtrace", "Ljava/lang/Object;", false)
  | 1 => ("java/lang/Throwable", "detailMessage", "Ljava/lang/String;", false)
  | 2 => ("java/lang/Throwable", "cause", "Ljava/lang/Throwable;", false)
  | 3 => ("java/lang/Throwable", "stackTrace", "[Ljava/lang/StackTraceElement;", false)
  | 4 => ("java/lang/Throwable", "depth", "I", false)
  | _ => ("java/lang/Throwable", "suppressedExceptions", "Ljava/util/List;", false)
def tyJx7c733 : Nat → FieldType := fun k => match k with
  | 0 => .object "java/lang/Object"
  | 1 => .object "java/lang/String"
  | 2 => .object "java/lang/Throwable"
  | 3 => .array (.object "java/lang/StackTraceElement")
  | 4 => .int
  | _ => .object "java/util/List"
theorem nmJx7c733 : ∀ a, a < 6 → ∀ b, b < 6 → a ≠ b → (TJx7c733 a).2.1 ≠ (TJx7c733 b).2.1 := by decide +kernel
theorem tyJx7c733_ok : ∀ k, k < 6 → parseFieldDescriptor (TJx7c733 k).2.2.1 = some (tyJx7c733 k) := by decide +kernel
abbrev cJx7c733_init_d00df : ByteArray := prog_34_method_3_code
def yJx7c733_init_d00df : MethodName := ⟨RJx7c733, "<init>", "(I)V"⟩
def RJ1 : String := "java/lang/StringLatin1"
def TJ1 : u_T := fun k => match k with
  | _ => ("", "", "", false)
def tyJ1 : Nat → FieldType := fun k => match k with
  | _ => .int
theorem nmJ1 : ∀ a, a < 0 → ∀ b, b < 0 → a ≠ b → (TJ1 a).2.1 ≠ (TJ1 b).2.1 := by decide +kernel
theorem tyJ1_ok : ∀ k, k < 0 → parseFieldDescriptor (TJ1 k).2.2.1 = some (tyJ1 k) := by decide +kernel
abbrev cJ1_charAt_3b067 : ByteArray := prog_35_method_2_code
def yJ1_charAt_3b067 : MethodName := ⟨RJ1, "charAt", "([BI)C"⟩
abbrev cJ1_canEncode_fc78d : ByteArray := prog_35_method_3_code
def yJ1_canEncode_fc78d : MethodName := ⟨RJ1, "canEncode", "(C)Z"⟩
abbrev cJ1_fillNull_b72d1 : ByteArray := prog_35_method_48_code
def yJ1_fillNull_b72d1 : MethodName := ⟨RJ1, "fillNull", "([BII)V"⟩
abbrev cJ1_inflate_0e8fd : ByteArray := prog_35_method_50_code
def yJ1_inflate_0e8fd : MethodName := ⟨RJ1, "inflate", "([BI[BII)V"⟩
def RJ2 : String := "java/lang/StringUTF16"
def TJ2 : u_T := fun k => match k with
  | _ => ("", "", "", false)
def tyJ2 : Nat → FieldType := fun k => match k with
  | _ => .int
theorem nmJ2 : ∀ a, a < 0 → ∀ b, b < 0 → a ≠ b → (TJ2 a).2.1 ≠ (TJ2 b).2.1 := by decide +kernel
theorem tyJ2_ok : ∀ k, k < 0 → parseFieldDescriptor (TJ2 k).2.2.1 = some (tyJ2 k) := by decide +kernel
abbrev cJ2_newBytesFor_77867 : ByteArray := prog_36_method_2_code
def yJ2_newBytesFor_77867 : MethodName := ⟨RJ2, "newBytesFor", "(I)[B"⟩
abbrev cJ2_newBytesLength_0f7a4 : ByteArray := prog_36_method_3_code
def yJ2_newBytesLength_0f7a4 : MethodName := ⟨RJ2, "newBytesLength", "(I)I"⟩
abbrev cJ2_putChar_b72d1 : ByteArray := prog_36_method_4_code
def yJ2_putChar_b72d1 : MethodName := ⟨RJ2, "putChar", "([BII)V"⟩
abbrev cJ2_getChar_3b067 : ByteArray := prog_36_method_5_code
def yJ2_getChar_3b067 : MethodName := ⟨RJ2, "getChar", "([BI)C"⟩
abbrev cJ2_length_9d52b : ByteArray := prog_36_method_6_code
def yJ2_length_9d52b : MethodName := ⟨RJ2, "length", "([B)I"⟩
abbrev cJ2_coderFromArrayLen_85cad : ByteArray := prog_36_method_15_code
def yJ2_coderFromArrayLen_85cad : MethodName := ⟨RJ2, "coderFromArrayLen", "([BI)B"⟩
abbrev cJ2_compress_39247 : ByteArray := prog_36_method_17_code
def yJ2_compress_39247 : MethodName := ⟨RJ2, "compress", "([BII)[B"⟩
abbrev cJ2_compress_5af95 : ByteArray := prog_36_method_22_code
def yJ2_compress_5af95 : MethodName := ⟨RJ2, "compress", "([BI[BII)I"⟩
abbrev cJ2_fillNull_b72d1 : ByteArray := prog_36_method_70_code
def yJ2_fillNull_b72d1 : MethodName := ⟨RJ2, "fillNull", "([BII)V"⟩
abbrev cJ2_putCharSB_b72d1 : ByteArray := prog_36_method_71_code
def yJ2_putCharSB_b72d1 : MethodName := ⟨RJ2, "putCharSB", "([BII)V"⟩
abbrev cJ2_getChars_46870 : ByteArray := prog_36_method_77_code
def yJ2_getChars_46870 : MethodName := ⟨RJ2, "getChars", "(III[B)I"⟩
abbrev cJ2_putCharsAt_cd4e5 : ByteArray := prog_36_method_81_code
def yJ2_putCharsAt_cd4e5 : MethodName := ⟨RJ2, "putCharsAt", "([BICCCC)I"⟩
abbrev cJ2_charAt_3b067 : ByteArray := prog_36_method_83_code
def yJ2_charAt_3b067 : MethodName := ⟨RJ2, "charAt", "([BI)C"⟩
abbrev cJ2_inflate_0e8fd : ByteArray := prog_36_method_86_code
def yJ2_inflate_0e8fd : MethodName := ⟨RJ2, "inflate", "([BI[BII)V"⟩
abbrev cJ2_getChars_ba4f3 : ByteArray := prog_36_method_89_code
def yJ2_getChars_ba4f3 : MethodName := ⟨RJ2, "getChars", "(II[B)I"⟩
abbrev cJ2_checkIndex_2214a : ByteArray := prog_36_method_91_code
def yJ2_checkIndex_2214a : MethodName := ⟨RJ2, "checkIndex", "(I[B)V"⟩
abbrev cJ2_checkBoundsBeginEnd_d044e : ByteArray := prog_36_method_93_code
def yJ2_checkBoundsBeginEnd_d044e : MethodName := ⟨RJ2, "checkBoundsBeginEnd", "(II[B)V"⟩
abbrev cJ2_checkBoundsOffCount_d044e : ByteArray := prog_36_method_94_code
def yJ2_checkBoundsOffCount_d044e : MethodName := ⟨RJ2, "checkBoundsOffCount", "(II[B)V"⟩
def RJ10 : String := "java/lang/System"
def TJ10 : u_T := fun k => match k with
  | _ => ("", "", "", false)
def tyJ10 : Nat → FieldType := fun k => match k with
  | _ => .int
theorem nmJ10 : ∀ a, a < 0 → ∀ b, b < 0 → a ≠ b → (TJ10 a).2.1 ≠ (TJ10 b).2.1 := by decide +kernel
theorem tyJ10_ok : ∀ k, k < 0 → parseFieldDescriptor (TJ10 k).2.2.1 = some (tyJ10 k) := by decide +kernel
def RJxfd54e : String := "java/lang/constant/Constable"
def TJxfd54e : u_T := fun k => match k with
  | _ => ("", "", "", false)
def tyJxfd54e : Nat → FieldType := fun k => match k with
  | _ => .int
theorem nmJxfd54e : ∀ a, a < 0 → ∀ b, b < 0 → a ≠ b → (TJxfd54e a).2.1 ≠ (TJxfd54e b).2.1 := by decide +kernel
theorem tyJxfd54e_ok : ∀ k, k < 0 → parseFieldDescriptor (TJxfd54e k).2.2.1 = some (tyJxfd54e k) := by decide +kernel
def RJx3cf43 : String := "java/lang/constant/ConstantDesc"
def TJx3cf43 : u_T := fun k => match k with
  | _ => ("", "", "", false)
def tyJx3cf43 : Nat → FieldType := fun k => match k with
  | _ => .int
theorem nmJx3cf43 : ∀ a, a < 0 → ∀ b, b < 0 → a ≠ b → (TJx3cf43 a).2.1 ≠ (TJx3cf43 b).2.1 := by decide +kernel
theorem tyJx3cf43_ok : ∀ k, k < 0 → parseFieldDescriptor (TJx3cf43 k).2.2.1 = some (tyJx3cf43 k) := by decide +kernel
def RJ7 : String := "java/util/Arrays"
def TJ7 : u_T := fun k => match k with
  | _ => ("", "", "", false)
def tyJ7 : Nat → FieldType := fun k => match k with
  | _ => .int
theorem nmJ7 : ∀ a, a < 0 → ∀ b, b < 0 → a ≠ b → (TJ7 a).2.1 ≠ (TJ7 b).2.1 := by decide +kernel
theorem tyJ7_ok : ∀ k, k < 0 → parseFieldDescriptor (TJ7 k).2.2.1 = some (tyJ7 k) := by decide +kernel
abbrev cJ7_rangeCheck_23922 : ByteArray := prog_42_method_30_code
def yJ7_rangeCheck_23922 : MethodName := ⟨RJ7, "rangeCheck", "(III)V"⟩
abbrev cJ7_fill_eb02e : ByteArray := prog_42_method_110_code
def yJ7_fill_eb02e : MethodName := ⟨RJ7, "fill", "([BIIB)V"⟩
abbrev cJ7_copyOf_9075b : ByteArray := prog_42_method_121_code
def yJ7_copyOf_9075b : MethodName := ⟨RJ7, "copyOf", "([BI)[B"⟩
abbrev cJ7_checkLength_df160 : ByteArray := prog_42_method_131_code
def yJ7_checkLength_df160 : MethodName := ⟨RJ7, "checkLength", "(II)V"⟩
abbrev cJ7_copyOfRange_39247 : ByteArray := prog_42_method_132_code
def yJ7_copyOfRange_39247 : MethodName := ⟨RJ7, "copyOfRange", "([BII)[B"⟩
abbrev cJ7_copyOfRangeByte_39247 : ByteArray := prog_42_method_133_code
def yJ7_copyOfRangeByte_39247 : MethodName := ⟨RJ7, "copyOfRangeByte", "([BII)[B"⟩
def RJ8 : String := "jdk/internal/util/ArraysSupport"
def TJ8 : u_T := fun k => match k with
  | _ => ("", "", "", false)
def tyJ8 : Nat → FieldType := fun k => match k with
  | _ => .int
theorem nmJ8 : ∀ a, a < 0 → ∀ b, b < 0 → a ≠ b → (TJ8 a).2.1 ≠ (TJ8 b).2.1 := by decide +kernel
theorem tyJ8_ok : ∀ k, k < 0 → parseFieldDescriptor (TJ8 k).2.2.1 = some (tyJ8 k) := by decide +kernel
abbrev cJ8_newLength_cabcc : ByteArray := prog_44_method_27_code
def yJ8_newLength_cabcc : MethodName := ⟨RJ8, "newLength", "(III)I"⟩
abbrev cJ8_hugeLength_7cf53 : ByteArray := prog_44_method_28_code
def yJ8_hugeLength_7cf53 : MethodName := ⟨RJ8, "hugeLength", "(II)I"⟩
def RJ3 : String := "jdk/internal/util/Preconditions"
def TJ3 : u_T := fun k => match k with
  | _ => ("", "", "", false)
def tyJ3 : Nat → FieldType := fun k => match k with
  | _ => .int
theorem nmJ3 : ∀ a, a < 0 → ∀ b, b < 0 → a ≠ b → (TJ3 a).2.1 ≠ (TJ3 b).2.1 := by decide +kernel
theorem tyJ3_ok : ∀ k, k < 0 → parseFieldDescriptor (TJ3 k).2.2.1 = some (tyJ3 k) := by decide +kernel
abbrev cJ3_checkIndex_8e157 : ByteArray := prog_45_method_11_code
def yJ3_checkIndex_8e157 : MethodName := ⟨RJ3, "checkIndex", "(IILjava/util/function/BiFunction;)I"⟩
abbrev cJ3_checkFromToIndex_8c36e : ByteArray := prog_45_method_12_code
def yJ3_checkFromToIndex_8c36e : MethodName := ⟨RJ3, "checkFromToIndex", "(IIILjava/util/function/BiFunction;)I"⟩
abbrev cJ3_checkFromIndexSize_8c36e : ByteArray := prog_45_method_13_code
def yJ3_checkFromIndexSize_8c36e : MethodName := ⟨RJ3, "checkFromIndexSize", "(IIILjava/util/function/BiFunction;)I"⟩
def RL : String := "LampLeaseOfficeLaw"
abbrev cL_addShip : ByteArray := method_3_code
def yL_addShip : MethodName := ⟨RL, "addShip", "(LLampLeaseOffice;[J)I"⟩
abbrev cL_addLamp : ByteArray := method_4_code
def yL_addLamp : MethodName := ⟨RL, "addLamp", "(LLampLeaseOffice;I[J)I"⟩
abbrev cL_addOil : ByteArray := method_5_code
def yL_addOil : MethodName := ⟨RL, "addOil", "(LLampLeaseOffice;I[J)I"⟩
abbrev cL_lease : ByteArray := method_6_code
def yL_lease : MethodName := ⟨RL, "lease", "(LLampLeaseOffice;III[J)I"⟩
abbrev cL_requestRenewal : ByteArray := method_7_code
def yL_requestRenewal : MethodName := ⟨RL, "requestRenewal", "(LLampLeaseOffice;II[J)I"⟩
abbrev cL_giveUp : ByteArray := method_8_code
def yL_giveUp : MethodName := ⟨RL, "giveUp", "(LLampLeaseOffice;I[J)I"⟩
abbrev cL_passHours : ByteArray := method_9_code
def yL_passHours : MethodName := ⟨RL, "passHours", "(LLampLeaseOffice;I[J)I"⟩
abbrev cL_coins : ByteArray := method_10_code
def yL_coins : MethodName := ⟨RL, "coins", "(LLampLeaseOffice;I[J)I"⟩
abbrev cL_finesPaid : ByteArray := method_11_code
def yL_finesPaid : MethodName := ⟨RL, "finesPaid", "(LLampLeaseOffice;I[J)I"⟩
abbrev cL_darkHours : ByteArray := method_12_code
def yL_darkHours : MethodName := ⟨RL, "darkHours", "(LLampLeaseOffice;I[J)I"⟩
abbrev cL_demand : ByteArray := method_13_code
def yL_demand : MethodName := ⟨RL, "demand", "(LLampLeaseOffice;I[J)I"⟩
abbrev cL_leasesOf : ByteArray := method_14_code
def yL_leasesOf : MethodName := ⟨RL, "leasesOf", "(LLampLeaseOffice;I[J)I"⟩
abbrev cL_level : ByteArray := method_15_code
def yL_level : MethodName := ⟨RL, "level", "(LLampLeaseOffice;I[J)I"⟩
abbrev cL_isLeased : ByteArray := method_16_code
def yL_isLeased : MethodName := ⟨RL, "isLeased", "(LLampLeaseOffice;I[J)I"⟩
abbrev cL_lessee : ByteArray := method_17_code
def yL_lessee : MethodName := ⟨RL, "lessee", "(LLampLeaseOffice;I[J)I"⟩
abbrev cL_endHour : ByteArray := method_18_code
def yL_endHour : MethodName := ⟨RL, "endHour", "(LLampLeaseOffice;I[J)I"⟩
abbrev cL_brightHours : ByteArray := method_19_code
def yL_brightHours : MethodName := ⟨RL, "brightHours", "(LLampLeaseOffice;I[J)I"⟩
abbrev cL_wasBright : ByteArray := method_20_code
def yL_wasBright : MethodName := ⟨RL, "wasBright", "(LLampLeaseOffice;I[J)I"⟩
abbrev cL_hoursOfOil : ByteArray := method_21_code
def yL_hoursOfOil : MethodName := ⟨RL, "hoursOfOil", "(LLampLeaseOffice;[J)I"⟩
abbrev cL_hoursOfOilByEnds : ByteArray := method_22_code
def yL_hoursOfOilByEnds : MethodName := ⟨RL, "hoursOfOilByEnds", "(LLampLeaseOffice;[J)I"⟩
abbrev cL_share : ByteArray := method_23_code
def yL_share : MethodName := ⟨RL, "share", "(LLampLeaseOffice;I[J)I"⟩
abbrev cL_shareByRank : ByteArray := method_24_code
def yL_shareByRank : MethodName := ⟨RL, "shareByRank", "(LLampLeaseOffice;I[J)I"⟩
abbrev cL_requestedLamp : ByteArray := method_25_code
def yL_requestedLamp : MethodName := ⟨RL, "requestedLamp", "(LLampLeaseOffice;I[J)I"⟩
abbrev cL_requestedHours : ByteArray := method_26_code
def yL_requestedHours : MethodName := ⟨RL, "requestedHours", "(LLampLeaseOffice;I[J)I"⟩
abbrev cL_shipByFines : ByteArray := method_27_code
def yL_shipByFines : MethodName := ⟨RL, "shipByFines", "(LLampLeaseOffice;I[J)I"⟩
abbrev cL_lampByEnd : ByteArray := method_28_code
def yL_lampByEnd : MethodName := ⟨RL, "lampByEnd", "(LLampLeaseOffice;I[J)I"⟩
abbrev cL_meanCoins : ByteArray := method_29_code
def yL_meanCoins : MethodName := ⟨RL, "meanCoins", "(LLampLeaseOffice;[D)I"⟩
abbrev cL_leasedShare : ByteArray := method_30_code
def yL_leasedShare : MethodName := ⟨RL, "leasedShare", "(LLampLeaseOffice;[D)I"⟩
abbrev cL_feed : ByteArray := method_31_code
def yL_feed : MethodName := ⟨RL, "feed", "(LLampLeaseOffice;C[J)I"⟩
abbrev cL_runCommands : ByteArray := method_32_code
def yL_runCommands : MethodName := ⟨RL, "runCommands", "(LLampLeaseOffice;[J)I"⟩
abbrev cL_errorPosition : ByteArray := method_33_code
def yL_errorPosition : MethodName := ⟨RL, "errorPosition", "(LLampLeaseOffice;[J)I"⟩
abbrev cL_failedCommand : ByteArray := method_34_code
def yL_failedCommand : MethodName := ⟨RL, "failedCommand", "(LLampLeaseOffice;[J)I"⟩
abbrev cL_failureReason : ByteArray := method_35_code
def yL_failureReason : MethodName := ⟨RL, "failureReason", "(LLampLeaseOffice;[J)I"⟩
abbrev cL_outputChar : ByteArray := method_36_code
def yL_outputChar : MethodName := ⟨RL, "outputChar", "(LLampLeaseOffice;I[J)I"⟩
abbrev cL_undo : ByteArray := method_37_code
def yL_undo : MethodName := ⟨RL, "undo", "(LLampLeaseOffice;[J)I"⟩
abbrev cL_restore : ByteArray := method_38_code
def yL_restore : MethodName := ⟨RL, "restore", "(LLampLeaseOffice;[J)I"⟩
abbrev cL_law : ByteArray := code
def yL_law : MethodName := ⟨RL, "law", "([I)Z"⟩
end
section
/-! numbers as integers: o_I z is the int z, wrapped round -/
def o_I (z : Int) : Int32 := Int32.ofInt z
def o_R (z : Int) : Prop := -2147483648 ≤ z ∧ z ≤ 2147483647
theorem o_add (a b : Int) : o_I a + o_I b = o_I (a + b) := (Int32.ofInt_add a b).symm
theorem o_sub (a b : Int) : o_I a - o_I b = o_I (a - b) := (Int32.ofInt_sub a b).symm
theorem o_mul (a b : Int) : o_I a * o_I b = o_I (a * b) := (Int32.ofInt_mul a b).symm
theorem o_toInt {z : Int} (h : o_R z) : (o_I z).toInt = z := Int32.toInt_ofInt_of_le (by have := h.1; omega) (by have := h.2; omega)
theorem o_lt {a b : Int} (ha : o_R a) (hb : o_R b) : o_I a < o_I b ↔ a < b := by rw [Int32.lt_iff_toInt_lt, o_toInt ha, o_toInt hb]
theorem o_le {a b : Int} (ha : o_R a) (hb : o_R b) : o_I a ≤ o_I b ↔ a ≤ b := by rw [Int32.le_iff_toInt_le, o_toInt ha, o_toInt hb]
theorem o_eq {a b : Int} (ha : o_R a) (hb : o_R b) : o_I a = o_I b ↔ a = b := by rw [← Int32.toInt_inj, o_toInt ha, o_toInt hb]
theorem o_nI (n : Nat) : nI n = o_I n := (Int32.ofInt_eq_ofNat (n := n)).symm
theorem o_of (x : Int32) : ∃ z : Int, o_R z ∧ x = o_I z := ⟨x.toInt, ⟨by have := Int32.le_toInt x; omega, by have := Int32.toInt_lt x; omega⟩, (Int32.ofInt_toInt x).symm⟩
theorem o_clamp {z : Int} (h : o_R z) : (o_I z).toNatClampNeg = z.toNat := by
  show (o_I z).toInt.toNat = z.toNat
  rw [o_toInt h]
theorem o_in {z : Int} {n : Nat} (hr : o_R z) (h0 : 0 ≤ z) (h1 : z < n) : vp_in (o_I z) n := vp_in_iff.mpr (by rw [o_toInt hr]; exact ⟨h0, h1⟩)
theorem o_div {a b : Int} (ha : o_R a) (hb : o_R b) (ha0 : 0 ≤ a) (h0 : 0 < b) : o_I a / o_I b = o_I (a / b) := by
  rw [← Int32.toInt_inj, Int32.toInt_div_of_ne_right _ _ (by
    intro h
    have h1 := congrArg Int32.toInt h
    rw [o_toInt hb] at h1
    have h2 : (-1 : Int32).toInt = -1 := by decide
    omega), o_toInt ha, o_toInt hb, Int.tdiv_eq_ediv_of_nonneg ha0]
  refine (o_toInt ⟨?_, ?_⟩).symm
  · have := Int.ediv_nonneg ha0 (Int.le_of_lt h0)
    omega
  · have h1 := Int.ediv_le_self b ha0
    have := ha.2
    omega
/-- abstract heaps: cells by their numbers; a reference is a number; from 1000000 on the numbers are those of constants -/
abbrev o_C : Type := (Nat × vp_A) ⊕ (Nat × List Value)
def o_rV (ad : Nat → Nat) : Value → Value
  | .ref k => .ref (ad k)
  | v => v
def o_rA (ad : Nat → Nat) (a : vp_A) : vp_A := (a.1, match a.2 with
  | .inr (.inr (.inr (.inr f))) => .inr (.inr (.inr (.inr (fun j => (f j).map ad))))
  | x => x)
def o_rC (ad : Nat → Nat) (cy : Nat → ClassId) : o_C → va_E
  | .inl a => .inl (cy a.1, o_rA ad a.2)
  | .inr o => .inr (o.1, o.2.map (o_rV ad))
def o_rW (ad : Nat → Nat) (cy : Nat → ClassId) (n : Nat) (h : Nat → o_C) : va_W := (List.range n).map (fun k => (ad k, o_rC ad cy (h k)))
def o_up (h : Nat → o_C) (k : Nat) (c : o_C) : Nat → o_C := fun j => if j = k then c else h j
theorem o_rW_get {ad : Nat → Nat} {cy : Nat → ClassId} {n k : Nat} {h : Nat → o_C} {c : o_C} (hk : k < n) (hc : h k = c) : (o_rW ad cy n h)[k]? = some (ad k, o_rC ad cy c) := by
  simp [o_rW, hk, hc]
theorem o_rW_set {ad : Nat → Nat} {cy : Nat → ClassId} {n k : Nat} {h : Nat → o_C} {c : o_C} {e : va_E} (he : e = o_rC ad cy c) : (o_rW ad cy n h).set k (ad k, e) = o_rW ad cy n (o_up h k c) := by
  subst he
  apply List.ext_getElem?
  intro j
  rw [List.getElem?_set]
  by_cases hj : k = j
  · subst hj
    by_cases hk : k < n
    · simp [o_rW, o_up, hk]
    · simp [o_rW, hk]
  · simp only [if_neg hj]
    by_cases hk : j < n
    · simp [o_rW, o_up, hk, Ne.symm hj]
    · simp [o_rW, hk]
theorem o_cat (ad : Nat → Nat) (v : Value) : (o_rV ad v).category = v.category := by cases v <;> rfl
theorem o_cats (ad : Nat → Nat) (l : List Value) : ((l.map (o_rV ad)).map fun v => v.category).sum = (l.map fun v => v.category).sum := by
  rw [List.map_map]
  congr 1
  exact List.map_congr_left fun v _ => o_cat ad v
/-- the classes that the worlds hold -/
def o_T0 : u_T := fun _ => ("", "", "", false)
def o_cl : List vw_C := [(RX11, TX11, 12), (RX10, TX10, 7), (RX9, TX9, 4), (RX7, TX7, 6), (RX8, TX8, 3), (RX5, TX5, 3), (RX4, TX4, 1), (RX3, TX3, 4), (RX2, TX2, 5), (RX1, TX1, 2), (RX12, TX12, 19), (RJ4, TJ4, 4),
  ("java/lang/IndexOutOfBoundsException", o_T0, 0), ("java/lang/IllegalArgumentException", o_T0, 0), ("java/lang/IllegalStateException", o_T0, 0), ("java/util/NoSuchElementException", o_T0, 0), ("java/lang/UnsupportedOperationException", o_T0, 0), ("java/lang/ArithmeticException", o_T0, 0)]
def o_tyL : List FieldType := [.int, .boolean, .char, .byte, .long, .double, .object RX1, .object RX10]
/-- what a run fixes: the heap's size at the law's entry, the classes' numbers, the array classes -/
abbrev o_Z : Type := Nat × va_G × (Nat → ClassId) × Nat × (Nat → Int32)
def o_A (Z : o_Z) : Nat → Prop := fun q => Z.1 ≤ q
def o_tys (Z : o_Z) : List (ClassId × FieldType) := o_tyL.zipIdx.map (fun q => (Z.2.2.1 q.2, q.1))
theorem o_tys_get {Z : o_Z} {t : Nat} {ty : FieldType} (h : o_tyL[t]? = some ty) : (o_tys Z)[t]? = some (Z.2.2.1 t, ty) := by
  simp [o_tys, h]
/-- the good words of the tables, which every method is given -/
def o_gW : List Cond := lw_tbl.filter goodWord
theorem o_gIn {ws : List Cond} (h : ∀ w ∈ ws, w ∈ o_gW) : GoodIn o_gW ws := fun w hw => ⟨h w hw, good_of_word (List.mem_filter.mp (h w hw)).2⟩
theorem o_gCode {w : Cond} (hw : w ∈ o_gW) : GoodIn o_gW (w :: o_gW) := o_gIn (fun v hv => (List.mem_cons.mp hv).elim (fun e => e ▸ hw) id)
def o_nM : List (String × Nat × MethodName × String) := [("LampLeaseOffice", 11, yX10_init, "LampLeaseOffice"), ("LampLeaseOffice$State", 11, yX9_init, "LampLeaseOffice"), ("LampLeaseOffice$State", 20, yX7_init, "LampLeaseOffice"), ("LampLeaseOffice$State", 27, yX8_init, "LampLeaseOffice"), ("LampLeaseOffice$History", 17, yX10_init, "LampLeaseOffice"), ("LampLeaseOffice", 31, yX4_init, "LampLeaseOffice"), ("LampLeaseOffice", 38, yX3_init, "LampLeaseOffice"), ("LampLeaseOffice$CommandText", 21, yX1_init, "LampLeaseOffice")]
def o_nF : Cond := .fieldLinkNest RX2 75 RX11 "KEYWORDS" "[LLampLeaseOffice$Keyword;" RX11
/-- the String constants: class, entry, text, number -/
def o_str : List (String × Nat × String × Nat) := [("LampLeaseOffice", 385, "there is no such ship or lamp", 6), ("LampLeaseOffice", 387, "an argument is out of range", 7), ("LampLeaseOffice", 389, "the state does not allow this", 8), ("LampLeaseOffice", 393, "the lamp is not leased", 9), ("LampLeaseOffice", 396, "the ship has too few coins", 10), ("LampLeaseOffice", 401, "there is no such ship", 11), ("LampLeaseOffice", 404, "there is no such lamp", 12), ("LampLeaseOffice", 408, "there is nothing to answer", 13), ("LampLeaseOffice", 406, "there is no such position", 14), ("LampLeaseOffice", 248, "there are no ships", 15), ("LampLeaseOffice", 256, "there are no lamps", 16), ("LampLeaseOffice", 279, "the input buffer is full", 17), ("LampLeaseOffice", 296, "the text is malformed", 18), ("LampLeaseOffice", 315, "a command failed", 19), ("LampLeaseOffice", 366, "there is no such character", 20), ("LampLeaseOffice", 373, "no call can be undone", 21), ("LampLeaseOffice", 382, "no state was saved", 22), ("LampLeaseOfficeModel", 216, "lamp", 23), ("LampLeaseOfficeModel", 218, "ship", 24), ("LampLeaseOfficeModel", 203, " ", 25), ("LampLeaseOfficeModel", 223, "oil", 26), ("LampLeaseOfficeModel", 225, "lease", 27), ("LampLeaseOfficeModel", 227, "renew", 28), ("LampLeaseOfficeModel", 229, "drop", 29), ("LampLeaseOfficeModel", 231, "wait", 30), ("LampLeaseOfficeModel", 233, "as", 31), ("LampLeaseOfficeModel", 235, "iasu", 32), ("LampLeaseOfficeModel", 237, "ians", 33), ("LampLeaseOfficeModel", 239, "in", 34), ("LampLeaseOfficeModel", 240, "a", 35), ("LampLeaseOfficeModel", 242, "s", 36)]
/-- the texts of String constants, by their numbers: their bytes -/
def o_sv : List (Nat × List Int32) := [(23, [108, 97, 109, 112]), (24, [115, 104, 105, 112]), (25, [32]), (26, [111, 105, 108]), (27, [108, 101, 97, 115, 101]), (28, [114, 101, 110, 101, 119]), (29, [100, 114, 111, 112]), (30, [119, 97, 105, 116]), (31, [97, 115]), (32, [105, 97, 115, 117]), (33, [105, 97, 110, 115]), (34, [105, 110]), (35, [97]), (36, [115]), (37, [115, 104, 105, 112]), (38, []), (39, [108, 97, 109, 112]), (40, [49]), (41, [111, 105, 108]), (42, [51]), (43, [108, 101, 97, 115, 101]), (44, [49, 49, 50]), (45, [114, 101, 110, 101, 119]), (46, [49, 50]), (47, [100, 114, 111, 112]), (48, [119, 97, 105, 116]), (49, [50])]
/-- the enum's constants: name, number of the word, number of the widths, whether the number may be left out -/
def o_kw : List (String × Nat × Nat × Int32) := [("SHIP", 37, 38, 0), ("LAMP", 39, 40, 0), ("OIL", 41, 42, 0), ("LEASE", 43, 44, 0), ("RENEW", 45, 46, 0), ("DROP", 47, 40, 0), ("WAIT", 48, 49, 1)]
def o_exs : List String := ["java/lang/IndexOutOfBoundsException", "java/lang/IllegalArgumentException", "java/lang/IllegalStateException", "java/util/NoSuchElementException", "java/lang/UnsupportedOperationException", "java/lang/ArithmeticException"]
def o_dcl : List MethodName := [⟨"java/lang/RuntimeException", "<init>", "(Ljava/lang/String;)V"⟩, ⟨"java/lang/Exception", "<init>", "(Ljava/lang/String;)V"⟩, ⟨"java/lang/Throwable", "<init>", "(Ljava/lang/String;)V"⟩]
/-- exceptions that a handler of another doesn't take -/
def o_ncs : List (String × String) := [("java/lang/IllegalStateException", "java/lang/IllegalArgumentException"), ("java/lang/IllegalArgumentException", "java/lang/IndexOutOfBoundsException"), ("java/lang/IllegalStateException", "java/lang/IndexOutOfBoundsException"), ("java/lang/UnsupportedOperationException", "java/lang/IndexOutOfBoundsException"), ("java/lang/UnsupportedOperationException", "java/lang/IllegalArgumentException"), ("java/lang/UnsupportedOperationException", "java/lang/IllegalStateException"), ("java/util/NoSuchElementException", "java/lang/IndexOutOfBoundsException"), ("java/util/NoSuchElementException", "java/lang/IllegalArgumentException"), ("java/lang/IllegalStateException", "java/util/NoSuchElementException")]
/-- what stands in the heap from the start and stays: of the tables, the statics, the constants -/
def o_E2a (A : Nat → Prop) (U : State) (H : Heap) : Prop :=
  vx_Zq Bundle.tN "UNASSIGNED_STACK" Bundle.steD A U H ∧ vx_Zq Bundle.tN "SUPPRESSED_SENTINEL" Bundle.listD A U H ∧ va_Z "java/lang/String" "COMPACT_STRINGS" "Z" (.int 1) A U H
def o_E2b (A : Nat → Prop) (ad : Nat → Nat) (U : State) (H : Heap) : Prop :=
  ∀ q ∈ o_sv, va_O "java/lang/String" (ad (2000000 + q.1)) A U H ∧ va_OF "java/lang/String" "coder" "B" (.int 0) (ad (2000000 + q.1)) A U H ∧ va_OF "java/lang/String" "value" "[B" (.ref (ad (3000000 + q.1))) (ad (2000000 + q.1)) A U H ∧ va_T .byte (ad (3000000 + q.1)) q.2.length (fun j => .int (q.2.getD j 0)) A U H
def o_E2c (A : Nat → Prop) (ad : Nat → Nat) (U : State) (H : Heap) : Prop :=
  ∀ (i : Nat) (q : String × Nat × Nat × Int32), o_kw[i]? = some q → va_Z RX6 q.1 "LLampLeaseOffice$Keyword;" (.ref (ad (1000000 + i))) A U H ∧ va_O RX6 (ad (1000000 + i)) A U H ∧ va_OF "java/lang/Enum" "ordinal" "I" (.int (nI i)) (ad (1000000 + i)) A U H ∧ va_OF RX6 "word" "Ljava/lang/String;" (.ref (ad (2000000 + q.2.1))) (ad (1000000 + i)) A U H ∧ va_OF RX6 "widths" "Ljava/lang/String;" (.ref (ad (2000000 + q.2.2.1))) (ad (1000000 + i)) A U H ∧ va_OF RX6 "numberIsOptional" "Z" (.int q.2.2.2) (ad (1000000 + i)) A U H
def o_E2d (A : Nat → Prop) (ad : Nat → Nat) (U : State) (H : Heap) : Prop :=
  va_Z RX11 "KEYWORDS" "[LLampLeaseOffice$Keyword;" (.ref (ad 4000000)) A U H ∧ va_T (.object RX6) (ad 4000000) 7 (fun j => .ref (ad (1000000 + j))) A U H ∧ va_Z RX0 "$SwitchMap$LampLeaseOffice$Keyword" "[I" (.ref (ad 4000001)) A U H ∧ va_T .int (ad 4000001) 7 (fun j => .int (nI (j + 1))) A U H ∧ va_Z "java/lang/Integer" "DigitOnes" "[B" (.ref (ad 4000002)) A U H ∧ va_T .byte (ad 4000002) 100 (fun j => .int (nI (48 + j % 10))) A U H ∧ va_Z "java/lang/Integer" "DigitTens" "[B" (.ref (ad 4000003)) A U H ∧ va_T .byte (ad 4000003) 100 (fun j => .int (nI (48 + j / 10))) A U H ∧ (va_Z "jdk/internal/util/Preconditions" "SIOOBE_FORMATTER" "Ljava/util/function/BiFunction;" .null A U H ∨ va_Z "jdk/internal/util/Preconditions" "SIOOBE_FORMATTER" "Ljava/util/function/BiFunction;" (.ref (ad 4000004)) A U H)
def o_E2 (A : Nat → Prop) (ad : Nat → Nat) (U : State) (H : Heap) : Prop := o_E2a A U H ∧ o_E2b A ad U H ∧ o_E2c A ad U H ∧ o_E2d A ad U H
def o_Ex (Z : o_Z) (ad : Nat → Nat) (U : State) : Prop :=
  Z.1 ≤ U.heap.size ∧ va_K Z.2.1 o_cl (o_tys Z) U ∧ ((∀ q ∈ o_nM, va_Nw (.methodLinkNest q.1 q.2.1 q.2.2.1 q.2.2.2) U) ∧ va_Nw o_nF U ∧ (∀ X ∈ o_exs, va_Nw (.castable X X) U) ∧ (∀ q ∈ o_ncs, va_Nc q.1 q.2 U) ∧ ∀ y ∈ o_dcl, va_Nw (.declares y) U) ∧ (∀ q ∈ o_str, vk_R q.1 q.2.1 q.2.2.1 (ad (2000000 + q.2.2.2)) U) ∧ o_E2 (o_A Z) ad U U.heap ∧ (va_X (ad 5000000) Z.2.2.2.1 Z.2.2.2.2 U U.heap ∧ ad 5000000 < Z.1)
theorem o_E2.mv {A : Nat → Prop} {ad : Nat → Nat} {u U : State} {H H1 : Heap} (hvm : u.vm.Alike U.vm) (hq : ∀ a : Nat, a < H.size → ¬ A a → H1[a]? = H[a]?) (h : o_E2 A ad u H) : o_E2 A ad U H1 := by
  obtain ⟨⟨a1, a2, a3⟩, b, c, d1, d2, d3, d4, d5, d6, d7, d8, d9⟩ := h
  refine ⟨⟨vx_Zq.moved hvm (a1.kept hq), vx_Zq.moved hvm (a2.kept hq), va_Z.moved hvm (a3.kept hq)⟩, fun q h9 => ?_, fun i q h9 => ?_, va_Z.moved hvm (d1.kept hq), va_T.moved hvm (d2.kept hq), va_Z.moved hvm (d3.kept hq), va_T.moved hvm (d4.kept hq), va_Z.moved hvm (d5.kept hq), va_T.moved hvm (d6.kept hq), va_Z.moved hvm (d7.kept hq), va_T.moved hvm (d8.kept hq), ?_⟩
  · obtain ⟨e1, e2, e3, e4⟩ := b q h9
    exact ⟨va_O.moved hvm (e1.kept hq), va_OF.moved hvm (e2.kept hq), va_OF.moved hvm (e3.kept hq), va_T.moved hvm (e4.kept hq)⟩
  · obtain ⟨e1, e2, e3, e4, e5, e6⟩ := c i q h9
    exact ⟨va_Z.moved hvm (e1.kept hq), va_O.moved hvm (e2.kept hq), va_OF.moved hvm (e3.kept hq), va_OF.moved hvm (e4.kept hq), va_OF.moved hvm (e5.kept hq), va_OF.moved hvm (e6.kept hq)⟩
  · rcases d9 with e | e
    · exact Or.inl (va_Z.moved hvm (e.kept hq))
    · exact Or.inr (va_Z.moved hvm (e.kept hq))
theorem o_E2.ad {A : Nat → Prop} {ad ad' : Nat → Nat} {U : State} {H : Heap} (h : o_E2 A ad U H) (e : ∀ k : Nat, 1000000 ≤ k → ad' k = ad k) : o_E2 A ad' U H := by
  obtain ⟨a, b, c, d1, d2, d3, d4, d5, d6, d7, d8, d9⟩ := h
  refine ⟨a, fun q h9 => ?_, fun i q h9 => ?_, ?_, ?_, ?_, ?_, ?_, ?_, ?_, ?_, ?_⟩
  · rw [e (2000000 + q.1) (by omega), e (3000000 + q.1) (by omega)]
    exact b q h9
  · rw [e (1000000 + i) (by omega), e (2000000 + q.2.1) (by omega), e (2000000 + q.2.2.1) (by omega)]
    exact c i q h9
  · rw [e 4000000 (by omega)]; exact d1
  · rw [e 4000000 (by omega), show (fun j => Value.ref (ad' (1000000 + j))) = fun j => Value.ref (ad (1000000 + j)) from funext fun j => by rw [e _ (by omega)]]
    exact d2
  · rw [e 4000001 (by omega)]; exact d3
  · rw [e 4000001 (by omega)]; exact d4
  · rw [e 4000002 (by omega)]; exact d5
  · rw [e 4000002 (by omega)]; exact d6
  · rw [e 4000003 (by omega)]; exact d7
  · rw [e 4000003 (by omega)]; exact d8
  · rw [e 4000004 (by omega)]; exact d9
theorem o_Ex.mv {Z : o_Z} {ad : Nat → Nat} {s U : State} (h : o_Ex Z ad s) (hz : s.heap.size ≤ U.heap.size) (hq : ∀ a : Nat, a < s.heap.size → ¬ o_A Z a → U.heap[a]? = s.heap[a]?) (hW : s.WarmedH U.vm) : o_Ex Z ad U := by
  obtain ⟨h1, h2, ⟨h3, h4, h34, h35, h36⟩, h5, h6, h7, h8⟩ := h
  refine ⟨Nat.le_trans h1 hz, va_K.moved hW.alike h2, ⟨fun q hq' => (h3 q hq').warmM hW, va_Nw.warmF hW h4, fun q hq' => (h34 q hq').warmC hW, fun q hq' => (h35 q hq').moved hW.alike, fun q hq' => (h36 q hq').warmD hW⟩, fun q hq' => (h5 q hq').warm hW, h6.mv hW.alike hq, ?_, h8⟩
  exact va_X.moved hW.alike (h7.kept (hq _ (Nat.lt_of_lt_of_le h8 h1) (Nat.not_le.mpr h8)))
theorem o_Ex.vm {Z : o_Z} {ad : Nat → Nat} {s U : State} (h : o_Ex Z ad s) (hh : U.heap = s.heap) (hv : U.vm = s.vm) : o_Ex Z ad U :=
  h.mv (by rw [hh]; exact Nat.le_refl _) (fun a _ _ => by rw [hh]) (by rw [hv]; exact State.WarmedH.refl s)
theorem o_Ex.ad {Z : o_Z} {ad ad' : Nat → Nat} {s : State} (h : o_Ex Z ad s) (e : ∀ k : Nat, 1000000 ≤ k → ad' k = ad k) : o_Ex Z ad' s := by
  obtain ⟨h1, h2, h3, h5, h6, h7⟩ := h
  exact ⟨h1, h2, h3, fun q hq => by rw [e _ (by omega)]; exact h5 q hq, h6.ad e, by rw [e _ (by omega)]; exact h7⟩
/-- the abstract heap h of n cells is H's, at the addresses ad -/
def o_Rp (Z : o_Z) (ad : Nat → Nat) (n : Nat) (h : Nat → o_C) (H : Heap) : Prop := va_P Z.2.1 o_cl (o_rW ad Z.2.2.1 n h) H ∧ va_D (o_A Z) (o_rW ad Z.2.2.1 n h)
end
section
/-! the judgement o_V: over abstract frames and heaps -/
abbrev o_O : Type := Option Value ⊕ String
/-- a method: its class, code, locals, answer, handlers -/
abbrev o_M : Type := String × ByteArray × Nat × Option FieldType × List (Nat × Nat × Nat × Nat) × String
abbrev o_P : Type := o_O → Nat → (Nat → o_C) → Prop
def o_ri : Option FieldType → Instr
  | none => .return_
  | some .long => .lreturn
  | some .float => .freturn
  | some .double => .dreturn
  | some (.object _) => .areturn
  | some (.array _) => .areturn
  | some _ => .ireturn
/-- what a method may answer -/
def o_rok : Option FieldType → Option Value → Prop
  | none, none => True
  | some .long, some (.long _) => True
  | some .float, some (.float _) => True
  | some .double, some (.double _) => True
  | some (.object _), some v => v = .null ∨ ∃ a, v = .ref a
  | some (.array _), some v => v = .null ∨ ∃ a, v = .ref a
  | some .int, some (.int _) => True
  | some .boolean, some (.int x) => narrow .boolean (.int x) = .int x
  | some .char, some (.int x) => narrow .char (.int x) = .int x
  | some .byte, some (.int x) => narrow .byte (.int x) = .int x
  | _, _ => False
/-- the addresses that may have moved -/
def o_ag (al : Nat → Prop) (ad ad' : Nat → Nat) : Prop := ∀ k : Nat, ¬ al k → ad' k = ad k
theorem o_ag.rf {al : Nat → Prop} {ad : Nat → Nat} : o_ag al ad ad := fun _ _ => rfl
theorem o_ag.tr {al bl : Nat → Prop} {a b c : Nat → Nat} (h1 : o_ag al a b) (h2 : o_ag bl b c) (hs : ∀ k, bl k → al k) : o_ag al a c := fun k hk => (h2 k (fun z => hk (hs k z))).trans (h1 k hk)
/-- the walk's fixed things -/
def o_X (l : Launch) (M : o_M) (d : Nat) (p : Program) (R : Room) (s : State) (m : MethodId) (args : Array Value) (meth : Method) (c : Code) : Prop :=
  p.tables.exec = Jvm.exec ∧ c.code = M.2.1 ∧ s.vm.findClass M.1 = some m.cls ∧ (∀ w ∈ o_gW, w.before args s = true) ∧ c.maxLocals = M.2.2.1 ∧ meth.sig.returnType = M.2.2.2.1 ∧ meth.locks = false ∧ (c.exceptionTable.toList = tableOf M.2.2.2.2.1 ∧ (M.2.2.2.2.2 = "<init>" → meth.name = "<init>")) ∧ l.stackTraces = false ∧ d + 8 ≤ R.frames ∧ 40 * d + 160 ≤ R.locals
/-- what is owed where the method ends -/
def o_K (l : Launch) (M : o_M) (Z : o_Z) (p : Program) (e : Env) (R : Room) (s : State) (m : MethodId) (args : Array Value) (below : List Frame) (meth : Method) (c : Code) (ad : Nat → Nat) (MC MS : Nat) (Q : State → Prop) (al : Nat → Prop) (post : o_P) : Prop :=
  (∀ (v : Option Value) (n : Nat) (h : Nat → o_C) (ad' : Nat → Nat) (H : Heap) (locs : List Loc) (cells slots pc : Nat) (la : Array Slot), post (.inl v) n h → o_ag al ad ad' → o_Rp Z ad' n h H → va_S (o_A Z) s.heap H locs → cells ≤ MC → slots ≤ MS → decode M.2.1 pc = .ok (o_ri M.2.2.2.1, 1) → o_rok M.2.2.2.1 v → W p l e R s m args below meth c H locs cells slots Q (F0 m pc la (v.toList.map (o_rV ad')))) ∧
  (∀ (E : String) (q : Addr) (ce : Cell) (n : Nat) (h : Nat → o_C) (ad' : Nat → Nat) (H : Heap) (locs : List Loc) (cells slots pc : Nat) (la : Array Slot) (rest : List Value), post (.inr E) n h → o_ag al ad ad' → o_Rp Z ad' n h H → va_S (o_A Z) s.heap H locs → cells ≤ MC → slots ≤ MS → M.2.2.2.2.1 = [] → H[q]? = some ce → ce.vm = .none → s.vm.findClass E = some ce.cls → vx_W p l e R s m args below meth c H locs cells slots Q (F0 m pc la rest) q)
def o_V (l : Launch) (M : o_M) (d : Nat) (al : Nat → Prop) (post : o_P) (pc : Nat) (ls : List (Nat × Value)) (st : List Value) (n : Nat) (h : Nat → o_C) (mc ms : Nat) : Prop :=
  ∀ (Z : o_Z) (p : Program) (e : Env) (R : Room) (s : State) (m : MethodId) (args : Array Value) (below : List Frame) (meth : Method) (c : Code) (ad : Nat → Nat) (H : Heap) (locs : List Loc) (cells slots MC MS : Nat) (la : Array Slot) (Q : State → Prop),
    o_X l M d p R s m args meth c → o_Ex Z ad s → va_S (o_A Z) s.heap H locs → o_Rp Z ad n h H → cells + mc ≤ MC → slots + ms ≤ MS → MC ≤ R.cells → MS ≤ R.slots → lv_has la M.2.2.1 (ls.map (fun q => (q.1, o_rV ad q.2))) →
    o_K l M Z p e R s m args below meth c ad MC MS Q al post →
    W p l e R s m args below meth c H locs cells slots Q (F0 m pc la (st.map (o_rV ad)))
section OV
variable {l : Launch} {M : o_M} {d : Nat} {al : Nat → Prop} {post : o_P} {pc : Nat} {ls : List (Nat × Value)} {st : List Value} {n : Nat} {h : Nat → o_C} {mc ms : Nat}
/-- local variables: the first row of its number -/
def o_get (ls : List (Nat × Value)) (i : Nat) : Option Value := match ls with
  | [] => none
  | q :: r => if q.1 = i then some q.2 else o_get r i
def o_set (nL : Nat) (ls : List (Nat × Value)) (i : Nat) (v : Value) : List (Nat × Value) := match ls with
  | [] => [(i, v)]
  | q :: r => if q.1 = i then (i, v) :: r else q :: o_set nL r i v
theorem o_get_mem {ls : List (Nat × Value)} {i : Nat} {v : Value} (h : o_get ls i = some v) : (i, v) ∈ ls := by
  induction ls with
  | nil => cases h
  | cons q r ih =>
    unfold o_get at h
    by_cases e : q.1 = i
    · rw [if_pos e] at h
      cases h
      rw [← e]
      exact List.mem_cons_self
    · rw [if_neg e] at h
      exact List.mem_cons_of_mem _ (ih h)
theorem o_lat {la : Array Slot} {nL : Nat} {ad : Nat → Nat} {i : Nat} {v : Value} (hl : lv_has la nL (ls.map (fun q => (q.1, o_rV ad q.2)))) (hg : o_get ls i = some v) : la[i]? = some (.val (o_rV ad v)) :=
  hl.2.2 (i, o_rV ad v) (List.mem_map.mpr ⟨_, o_get_mem hg, rfl⟩)
end OV
end
section
/-! a row for each plain instruction -/
section OR
variable {l : Launch} {M : o_M} {d : Nat} {al : Nat → Prop} {post : o_P} {pc : Nat} {ls : List (Nat × Value)} {st : List Value} {n : Nat} {h : Nat → o_C} {mc ms : Nat}
def o_s1 (ls : List (Nat × Value)) (i : Nat) (v : Value) : List (Nat × Value) := (i, v) :: ls.filter (fun q => !(q.1 == i) && !(q.1 + 1 == i && q.2.category == 2))
def o_s2 (ls : List (Nat × Value)) (i : Nat) (v : Value) : List (Nat × Value) := (i, v) :: ls.filter (fun q => !(q.1 == i) && (!(q.1 == i + 1) && !(q.1 + 1 == i && q.2.category == 2)))
theorem o_s1_map (ad : Nat → Nat) {i : Nat} {v : Value} : (o_s1 ls i v).map (fun q => (q.1, o_rV ad q.2)) = (i, o_rV ad v) :: (ls.map (fun q => (q.1, o_rV ad q.2))).filter (fun q => !(q.1 == i) && !(q.1 + 1 == i && q.2.category == 2)) := by
  simp only [o_s1, List.map_cons, List.filter_map, Function.comp_def, o_cat]
theorem o_s2_map (ad : Nat → Nat) {i : Nat} {v : Value} : (o_s2 ls i v).map (fun q => (q.1, o_rV ad q.2)) = (i, o_rV ad v) :: (ls.map (fun q => (q.1, o_rV ad q.2))).filter (fun q => !(q.1 == i) && (!(q.1 == i + 1) && !(q.1 + 1 == i && q.2.category == 2))) := by
  simp only [o_s2, List.map_cons, List.filter_map, Function.comp_def, o_cat]
theorem o_R0 : o_R 0 := ⟨by decide, by decide⟩
theorem o_nz {b : Int} (hb : o_R b) (h0 : 0 < b) : ¬ o_I b = 0 := fun q => by have := (o_eq hb o_R0).mp q; omega
theorem o_rem {a b : Int} (ha : o_R a) (hb : o_R b) (ha0 : 0 ≤ a) (h0 : 0 < b) : o_I a - o_I a / o_I b * o_I b = o_I (a % b) := by
  rw [o_div ha hb ha0 h0, o_mul, o_sub]
  congr 1
  have := Int.emod_add_mul_ediv a b
  have h2 : a / b * b = b * (a / b) := Int.mul_comm _ _
  omega
theorem o_iconst {z : Int} (hd : decode M.2.1 pc = .ok (.iconst z, 1)) (k : o_V l M d al post (pc + 1) ls (.int (o_I z) :: st) n h mc ms) : o_V l M d al post pc ls st n h mc ms := by
  intro Z p e R s m args below meth c ad H locs cells slots MC MS la Q X E S P a1 a2 a3 a4 L K
  exact lv_iconst X.1 X.2.1 hd rfl (k Z p e R s m args below meth c ad H locs cells slots MC MS la Q X E S P a1 a2 a3 a4 L K)
theorem o_bipush {z : Int} (hd : decode M.2.1 pc = .ok (.bipush z, 2)) (hv : (Int8.ofInt z).toInt32 = o_I z) (k : o_V l M d al post (pc + 2) ls (.int (o_I z) :: st) n h mc ms) : o_V l M d al post pc ls st n h mc ms := by
  intro Z p e R s m args below meth c ad H locs cells slots MC MS la Q X E S P a1 a2 a3 a4 L K
  exact lv_bipush X.1 X.2.1 hd hv (k Z p e R s m args below meth c ad H locs cells slots MC MS la Q X E S P a1 a2 a3 a4 L K)
theorem o_sipush {z : Int} (hd : decode M.2.1 pc = .ok (.sipush z, 3)) (hv : (Int16.ofInt z).toInt32 = o_I z) (k : o_V l M d al post (pc + 3) ls (.int (o_I z) :: st) n h mc ms) : o_V l M d al post pc ls st n h mc ms := by
  intro Z p e R s m args below meth c ad H locs cells slots MC MS la Q X E S P a1 a2 a3 a4 L K
  exact lv_sipush X.1 X.2.1 hd hv (k Z p e R s m args below meth c ad H locs cells slots MC MS la Q X E S P a1 a2 a3 a4 L K)
theorem o_lconst {z : Fin 2} (hd : decode M.2.1 pc = .ok (.lconst z, 1)) (k : o_V l M d al post (pc + 1) ls (.long (Int64.ofNat (z : Nat)) :: st) n h mc ms) : o_V l M d al post pc ls st n h mc ms := by
  intro Z p e R s m args below meth c ad H locs cells slots MC MS la Q X E S P a1 a2 a3 a4 L K
  exact lv_lconst X.1 X.2.1 hd rfl (k Z p e R s m args below meth c ad H locs cells slots MC MS la Q X E S P a1 a2 a3 a4 L K)
theorem o_fconst0 (hd : decode M.2.1 pc = .ok (.fconst 0, 1)) (k : o_V l M d al post (pc + 1) ls (.float 0 :: st) n h mc ms) : o_V l M d al post pc ls st n h mc ms := by
  intro Z p e R s m args below meth c ad H locs cells slots MC MS la Q X E S P a1 a2 a3 a4 L K
  exact lv_fconst0 X.1 X.2.1 hd (k Z p e R s m args below meth c ad H locs cells slots MC MS la Q X E S P a1 a2 a3 a4 L K)
theorem o_dconst0 (hd : decode M.2.1 pc = .ok (.dconst 0, 1)) (k : o_V l M d al post (pc + 1) ls (.double 0 :: st) n h mc ms) : o_V l M d al post pc ls st n h mc ms := by
  intro Z p e R s m args below meth c ad H locs cells slots MC MS la Q X E S P a1 a2 a3 a4 L K
  exact lv_dconst0 X.1 X.2.1 hd (k Z p e R s m args below meth c ad H locs cells slots MC MS la Q X E S P a1 a2 a3 a4 L K)
theorem o_null (hd : decode M.2.1 pc = .ok (.aconst_null, 1)) (k : o_V l M d al post (pc + 1) ls (.null :: st) n h mc ms) : o_V l M d al post pc ls st n h mc ms := by
  intro Z p e R s m args below meth c ad H locs cells slots MC MS la Q X E S P a1 a2 a3 a4 L K
  exact lv_null X.1 X.2.1 hd (k Z p e R s m args below meth c ad H locs cells slots MC MS la Q X E S P a1 a2 a3 a4 L K)
theorem o_ldc {i : Nat} {z : Int} (hd : decode M.2.1 pc = .ok (.ldc i, 2)) (hw : Cond.constant M.1 i (o_I z) ∈ o_gW) (k : o_V l M d al post (pc + 2) ls (.int (o_I z) :: st) n h mc ms) : o_V l M d al post pc ls st n h mc ms := by
  intro Z p e R s m args below meth c ad H locs cells slots MC MS la Q X E S P a1 a2 a3 a4 L K
  exact lv_ldc X.1 X.2.1 X.2.2.1 (X.2.2.2.1 _ hw) hd (k Z p e R s m args below meth c ad H locs cells slots MC MS la Q X E S P a1 a2 a3 a4 L K)
theorem o_iload_n {k0 : Fin 4} {x : Int32} (hd : decode M.2.1 pc = .ok (.iload_n k0, 1)) (hg : o_get ls (k0 : Nat) = some (.int x)) (k : o_V l M d al post (pc + 1) ls (.int x :: st) n h mc ms) : o_V l M d al post pc ls st n h mc ms := by
  intro Z p e R s m args below meth c ad H locs cells slots MC MS la Q X E S P a1 a2 a3 a4 L K
  exact lv_iload_n X.1 X.2.1 hd rfl (o_lat L hg) (k Z p e R s m args below meth c ad H locs cells slots MC MS la Q X E S P a1 a2 a3 a4 L K)
theorem o_iload {i : Nat} {x : Int32} (hd : decode M.2.1 pc = .ok (.iload i, 2)) (hg : o_get ls i = some (.int x)) (k : o_V l M d al post (pc + 2) ls (.int x :: st) n h mc ms) : o_V l M d al post pc ls st n h mc ms := by
  intro Z p e R s m args below meth c ad H locs cells slots MC MS la Q X E S P a1 a2 a3 a4 L K
  exact lv_iload X.1 X.2.1 hd (o_lat L hg) (k Z p e R s m args below meth c ad H locs cells slots MC MS la Q X E S P a1 a2 a3 a4 L K)
theorem o_lload_n {k0 : Fin 4} {x : Int64} (hd : decode M.2.1 pc = .ok (.lload_n k0, 1)) (hg : o_get ls (k0 : Nat) = some (.long x)) (k : o_V l M d al post (pc + 1) ls (.long x :: st) n h mc ms) : o_V l M d al post pc ls st n h mc ms := by
  intro Z p e R s m args below meth c ad H locs cells slots MC MS la Q X E S P a1 a2 a3 a4 L K
  exact lv_lload_n X.1 X.2.1 hd rfl (o_lat L hg) (k Z p e R s m args below meth c ad H locs cells slots MC MS la Q X E S P a1 a2 a3 a4 L K)
theorem o_lload {i : Nat} {x : Int64} (hd : decode M.2.1 pc = .ok (.lload i, 2)) (hg : o_get ls i = some (.long x)) (k : o_V l M d al post (pc + 2) ls (.long x :: st) n h mc ms) : o_V l M d al post pc ls st n h mc ms := by
  intro Z p e R s m args below meth c ad H locs cells slots MC MS la Q X E S P a1 a2 a3 a4 L K
  exact lv_lload X.1 X.2.1 hd (o_lat L hg) (k Z p e R s m args below meth c ad H locs cells slots MC MS la Q X E S P a1 a2 a3 a4 L K)
theorem o_fload_n {k0 : Fin 4} {x : UInt32} (hd : decode M.2.1 pc = .ok (.fload_n k0, 1)) (hg : o_get ls (k0 : Nat) = some (.float x)) (k : o_V l M d al post (pc + 1) ls (.float x :: st) n h mc ms) : o_V l M d al post pc ls st n h mc ms := by
  intro Z p e R s m args below meth c ad H locs cells slots MC MS la Q X E S P a1 a2 a3 a4 L K
  exact lv_fload_n X.1 X.2.1 hd rfl (o_lat L hg) (k Z p e R s m args below meth c ad H locs cells slots MC MS la Q X E S P a1 a2 a3 a4 L K)
theorem o_fload {i : Nat} {x : UInt32} (hd : decode M.2.1 pc = .ok (.fload i, 2)) (hg : o_get ls i = some (.float x)) (k : o_V l M d al post (pc + 2) ls (.float x :: st) n h mc ms) : o_V l M d al post pc ls st n h mc ms := by
  intro Z p e R s m args below meth c ad H locs cells slots MC MS la Q X E S P a1 a2 a3 a4 L K
  exact lv_fload X.1 X.2.1 hd (o_lat L hg) (k Z p e R s m args below meth c ad H locs cells slots MC MS la Q X E S P a1 a2 a3 a4 L K)
theorem o_dload_n {k0 : Fin 4} {x : UInt64} (hd : decode M.2.1 pc = .ok (.dload_n k0, 1)) (hg : o_get ls (k0 : Nat) = some (.double x)) (k : o_V l M d al post (pc + 1) ls (.double x :: st) n h mc ms) : o_V l M d al post pc ls st n h mc ms := by
  intro Z p e R s m args below meth c ad H locs cells slots MC MS la Q X E S P a1 a2 a3 a4 L K
  exact lv_dload_n X.1 X.2.1 hd rfl (o_lat L hg) (k Z p e R s m args below meth c ad H locs cells slots MC MS la Q X E S P a1 a2 a3 a4 L K)
theorem o_dload {i : Nat} {x : UInt64} (hd : decode M.2.1 pc = .ok (.dload i, 2)) (hg : o_get ls i = some (.double x)) (k : o_V l M d al post (pc + 2) ls (.double x :: st) n h mc ms) : o_V l M d al post pc ls st n h mc ms := by
  intro Z p e R s m args below meth c ad H locs cells slots MC MS la Q X E S P a1 a2 a3 a4 L K
  exact lv_dload X.1 X.2.1 hd (o_lat L hg) (k Z p e R s m args below meth c ad H locs cells slots MC MS la Q X E S P a1 a2 a3 a4 L K)
theorem o_aload_n {k0 : Fin 4} {x : Nat} (hd : decode M.2.1 pc = .ok (.aload_n k0, 1)) (hg : o_get ls (k0 : Nat) = some (.ref x)) (k : o_V l M d al post (pc + 1) ls (.ref x :: st) n h mc ms) : o_V l M d al post pc ls st n h mc ms := by
  intro Z p e R s m args below meth c ad H locs cells slots MC MS la Q X E S P a1 a2 a3 a4 L K
  exact lv_aload_n X.1 X.2.1 hd rfl (o_lat L hg) (k Z p e R s m args below meth c ad H locs cells slots MC MS la Q X E S P a1 a2 a3 a4 L K)
theorem o_aload {i : Nat} {x : Nat} (hd : decode M.2.1 pc = .ok (.aload i, 2)) (hg : o_get ls i = some (.ref x)) (k : o_V l M d al post (pc + 2) ls (.ref x :: st) n h mc ms) : o_V l M d al post pc ls st n h mc ms := by
  intro Z p e R s m args below meth c ad H locs cells slots MC MS la Q X E S P a1 a2 a3 a4 L K
  exact lv_aload X.1 X.2.1 hd (o_lat L hg) (k Z p e R s m args below meth c ad H locs cells slots MC MS la Q X E S P a1 a2 a3 a4 L K)
theorem o_aload_nN {k0 : Fin 4} (hd : decode M.2.1 pc = .ok (.aload_n k0, 1)) (hg : o_get ls (k0 : Nat) = some .null) (k : o_V l M d al post (pc + 1) ls (.null :: st) n h mc ms) : o_V l M d al post pc ls st n h mc ms := by
  intro Z p e R s m args below meth c ad H locs cells slots MC MS la Q X E S P a1 a2 a3 a4 L K
  exact lv_aload_nN X.1 X.2.1 hd rfl (o_lat L hg) (k Z p e R s m args below meth c ad H locs cells slots MC MS la Q X E S P a1 a2 a3 a4 L K)
theorem o_istore_n {k0 : Fin 4} {x : Int32} (hd : decode M.2.1 pc = .ok (.istore_n k0, 1)) (hn : (k0 : Nat) < M.2.2.1) (k : o_V l M d al post (pc + 1) (o_s1 ls (k0 : Nat) (.int x)) st n h mc ms) : o_V l M d al post pc ls (.int x :: st) n h mc ms := by
  intro Z p e R s m args below meth c ad H locs cells slots MC MS la Q X E S P a1 a2 a3 a4 L K
  exact lv_istore_n X.1 X.2.1 hd rfl L hn (o_s1_map ad (v := .int x)).symm (fun la' L' => (k Z p e R s m args below meth c ad H locs cells slots MC MS la' Q X E S P a1 a2 a3 a4 L' K))
theorem o_istore {i : Nat} {x : Int32} (hd : decode M.2.1 pc = .ok (.istore i, 2)) (hn : i < M.2.2.1) (k : o_V l M d al post (pc + 2) (o_s1 ls i (.int x)) st n h mc ms) : o_V l M d al post pc ls (.int x :: st) n h mc ms := by
  intro Z p e R s m args below meth c ad H locs cells slots MC MS la Q X E S P a1 a2 a3 a4 L K
  exact lv_istore X.1 X.2.1 hd L hn (o_s1_map ad (v := .int x)).symm (fun la' L' => (k Z p e R s m args below meth c ad H locs cells slots MC MS la' Q X E S P a1 a2 a3 a4 L' K))
theorem o_fstore_n {k0 : Fin 4} {x : UInt32} (hd : decode M.2.1 pc = .ok (.fstore_n k0, 1)) (hn : (k0 : Nat) < M.2.2.1) (k : o_V l M d al post (pc + 1) (o_s1 ls (k0 : Nat) (.float x)) st n h mc ms) : o_V l M d al post pc ls (.float x :: st) n h mc ms := by
  intro Z p e R s m args below meth c ad H locs cells slots MC MS la Q X E S P a1 a2 a3 a4 L K
  exact lv_fstore_n X.1 X.2.1 hd rfl L hn (o_s1_map ad (v := .float x)).symm (fun la' L' => (k Z p e R s m args below meth c ad H locs cells slots MC MS la' Q X E S P a1 a2 a3 a4 L' K))
theorem o_fstore {i : Nat} {x : UInt32} (hd : decode M.2.1 pc = .ok (.fstore i, 2)) (hn : i < M.2.2.1) (k : o_V l M d al post (pc + 2) (o_s1 ls i (.float x)) st n h mc ms) : o_V l M d al post pc ls (.float x :: st) n h mc ms := by
  intro Z p e R s m args below meth c ad H locs cells slots MC MS la Q X E S P a1 a2 a3 a4 L K
  exact lv_fstore X.1 X.2.1 hd L hn (o_s1_map ad (v := .float x)).symm (fun la' L' => (k Z p e R s m args below meth c ad H locs cells slots MC MS la' Q X E S P a1 a2 a3 a4 L' K))
theorem o_astore_n {k0 : Fin 4} {x : Nat} (hd : decode M.2.1 pc = .ok (.astore_n k0, 1)) (hn : (k0 : Nat) < M.2.2.1) (k : o_V l M d al post (pc + 1) (o_s1 ls (k0 : Nat) (.ref x)) st n h mc ms) : o_V l M d al post pc ls (.ref x :: st) n h mc ms := by
  intro Z p e R s m args below meth c ad H locs cells slots MC MS la Q X E S P a1 a2 a3 a4 L K
  exact lv_astore_n X.1 X.2.1 hd rfl L hn (o_s1_map ad (v := .ref x)).symm (fun la' L' => (k Z p e R s m args below meth c ad H locs cells slots MC MS la' Q X E S P a1 a2 a3 a4 L' K))
theorem o_astore {i : Nat} {x : Nat} (hd : decode M.2.1 pc = .ok (.astore i, 2)) (hn : i < M.2.2.1) (k : o_V l M d al post (pc + 2) (o_s1 ls i (.ref x)) st n h mc ms) : o_V l M d al post pc ls (.ref x :: st) n h mc ms := by
  intro Z p e R s m args below meth c ad H locs cells slots MC MS la Q X E S P a1 a2 a3 a4 L K
  exact lv_astore X.1 X.2.1 hd L hn (o_s1_map ad (v := .ref x)).symm (fun la' L' => (k Z p e R s m args below meth c ad H locs cells slots MC MS la' Q X E S P a1 a2 a3 a4 L' K))
theorem o_lstore_n {k0 : Fin 4} {x : Int64} (hd : decode M.2.1 pc = .ok (.lstore_n k0, 1)) (hn : (k0 : Nat) + 1 < M.2.2.1) (k : o_V l M d al post (pc + 1) (o_s2 ls (k0 : Nat) (.long x)) st n h mc ms) : o_V l M d al post pc ls (.long x :: st) n h mc ms := by
  intro Z p e R s m args below meth c ad H locs cells slots MC MS la Q X E S P a1 a2 a3 a4 L K
  exact lv_lstore_n X.1 X.2.1 hd rfl L hn (o_s2_map ad (v := .long x)).symm (fun la' L' => (k Z p e R s m args below meth c ad H locs cells slots MC MS la' Q X E S P a1 a2 a3 a4 L' K))
theorem o_lstore {i : Nat} {x : Int64} (hd : decode M.2.1 pc = .ok (.lstore i, 2)) (hn : i + 1 < M.2.2.1) (k : o_V l M d al post (pc + 2) (o_s2 ls i (.long x)) st n h mc ms) : o_V l M d al post pc ls (.long x :: st) n h mc ms := by
  intro Z p e R s m args below meth c ad H locs cells slots MC MS la Q X E S P a1 a2 a3 a4 L K
  exact lv_lstore X.1 X.2.1 hd L hn (o_s2_map ad (v := .long x)).symm (fun la' L' => (k Z p e R s m args below meth c ad H locs cells slots MC MS la' Q X E S P a1 a2 a3 a4 L' K))
theorem o_dstore_n {k0 : Fin 4} {x : UInt64} (hd : decode M.2.1 pc = .ok (.dstore_n k0, 1)) (hn : (k0 : Nat) + 1 < M.2.2.1) (k : o_V l M d al post (pc + 1) (o_s2 ls (k0 : Nat) (.double x)) st n h mc ms) : o_V l M d al post pc ls (.double x :: st) n h mc ms := by
  intro Z p e R s m args below meth c ad H locs cells slots MC MS la Q X E S P a1 a2 a3 a4 L K
  exact lv_dstore_n X.1 X.2.1 hd rfl L hn (o_s2_map ad (v := .double x)).symm (fun la' L' => (k Z p e R s m args below meth c ad H locs cells slots MC MS la' Q X E S P a1 a2 a3 a4 L' K))
theorem o_dstore {i : Nat} {x : UInt64} (hd : decode M.2.1 pc = .ok (.dstore i, 2)) (hn : i + 1 < M.2.2.1) (k : o_V l M d al post (pc + 2) (o_s2 ls i (.double x)) st n h mc ms) : o_V l M d al post pc ls (.double x :: st) n h mc ms := by
  intro Z p e R s m args below meth c ad H locs cells slots MC MS la Q X E S P a1 a2 a3 a4 L K
  exact lv_dstore X.1 X.2.1 hd L hn (o_s2_map ad (v := .double x)).symm (fun la' L' => (k Z p e R s m args below meth c ad H locs cells slots MC MS la' Q X E S P a1 a2 a3 a4 L' K))
theorem o_astore_nN {k0 : Fin 4} (hd : decode M.2.1 pc = .ok (.astore_n k0, 1)) (hn : (k0 : Nat) < M.2.2.1) (k : o_V l M d al post (pc + 1) (o_s1 ls (k0 : Nat) .null) st n h mc ms) : o_V l M d al post pc ls (.null :: st) n h mc ms := by
  intro Z p e R s m args below meth c ad H locs cells slots MC MS la Q X E S P a1 a2 a3 a4 L K
  exact lv_astore_nN X.1 X.2.1 hd rfl L hn (o_s1_map ad (v := .null)).symm (fun la' L' => (k Z p e R s m args below meth c ad H locs cells slots MC MS la' Q X E S P a1 a2 a3 a4 L' K))
theorem o_iinc {i : Nat} {z a : Int} (hd : decode M.2.1 pc = .ok (.iinc i z, 3)) (hg : o_get ls i = some (.int (o_I a))) (hn : i < M.2.2.1) (k : o_V l M d al post (pc + 3) (o_s1 ls i (.int (o_I (a + z)))) st n h mc ms) : o_V l M d al post pc ls st n h mc ms := by
  intro Z p e R s m args below meth c ad H locs cells slots MC MS la Q X E S P a1 a2 a3 a4 L K
  obtain ⟨k0, hk0⟩ := List.getElem?_of_mem (o_get_mem hg)
  exact lv_iinc X.1 X.2.1 hd L (k := k0) (x := o_I a) (by rw [List.getElem?_map, hk0]; rfl) (o_add a z) hn (o_s1_map ad (v := .int (o_I (a + z)))).symm (fun la' L' => (k Z p e R s m args below meth c ad H locs cells slots MC MS la' Q X E S P a1 a2 a3 a4 L' K))
theorem o_iadd {a b : Int} (hd : decode M.2.1 pc = .ok (.iadd, 1)) (k : o_V l M d al post (pc + 1) ls (.int (o_I (a + b)) :: st) n h mc ms) : o_V l M d al post pc ls (.int (o_I b) :: .int (o_I a) :: st) n h mc ms := by
  intro Z p e R s m args below meth c ad H locs cells slots MC MS la Q X E S P a1 a2 a3 a4 L K
  have k9 := k Z p e R s m args below meth c ad H locs cells slots MC MS la Q X E S P a1 a2 a3 a4 L K
  rw [List.map_cons, show o_rV ad (.int (o_I (a + b))) = .int (o_I a + o_I b) from congrArg Value.int (o_add a b).symm] at k9
  exact lv_iadd X.1 X.2.1 hd k9
theorem o_isub {a b : Int} (hd : decode M.2.1 pc = .ok (.isub, 1)) (k : o_V l M d al post (pc + 1) ls (.int (o_I (a - b)) :: st) n h mc ms) : o_V l M d al post pc ls (.int (o_I b) :: .int (o_I a) :: st) n h mc ms := by
  intro Z p e R s m args below meth c ad H locs cells slots MC MS la Q X E S P a1 a2 a3 a4 L K
  have k9 := k Z p e R s m args below meth c ad H locs cells slots MC MS la Q X E S P a1 a2 a3 a4 L K
  rw [List.map_cons, show o_rV ad (.int (o_I (a - b))) = .int (o_I a - o_I b) from congrArg Value.int (o_sub a b).symm] at k9
  exact lv_isub X.1 X.2.1 hd k9
theorem o_imul {a b : Int} (hd : decode M.2.1 pc = .ok (.imul, 1)) (k : o_V l M d al post (pc + 1) ls (.int (o_I (a * b)) :: st) n h mc ms) : o_V l M d al post pc ls (.int (o_I b) :: .int (o_I a) :: st) n h mc ms := by
  intro Z p e R s m args below meth c ad H locs cells slots MC MS la Q X E S P a1 a2 a3 a4 L K
  have k9 := k Z p e R s m args below meth c ad H locs cells slots MC MS la Q X E S P a1 a2 a3 a4 L K
  rw [List.map_cons, show o_rV ad (.int (o_I (a * b))) = .int (o_I a * o_I b) from congrArg Value.int (o_mul a b).symm] at k9
  exact lv_imul X.1 X.2.1 hd k9
theorem o_idiv {a b : Int} (hd : decode M.2.1 pc = .ok (.idiv, 1)) (ha : o_R a) (hb : o_R b) (ha0 : 0 ≤ a) (hb0 : 0 < b) (k : o_V l M d al post (pc + 1) ls (.int (o_I (a / b)) :: st) n h mc ms) : o_V l M d al post pc ls (.int (o_I b) :: .int (o_I a) :: st) n h mc ms := by
  intro Z p e R s m args below meth c ad H locs cells slots MC MS la Q X E S P a1 a2 a3 a4 L K
  have k9 := k Z p e R s m args below meth c ad H locs cells slots MC MS la Q X E S P a1 a2 a3 a4 L K
  rw [List.map_cons, show o_rV ad (.int (o_I (a / b))) = .int (o_I a / o_I b) from congrArg Value.int (o_div ha hb ha0 hb0).symm] at k9
  exact lv_idiv X.1 X.2.1 hd (o_nz hb hb0) k9
theorem o_irem {a b : Int} (hd : decode M.2.1 pc = .ok (.irem, 1)) (ha : o_R a) (hb : o_R b) (ha0 : 0 ≤ a) (hb0 : 0 < b) (k : o_V l M d al post (pc + 1) ls (.int (o_I (a % b)) :: st) n h mc ms) : o_V l M d al post pc ls (.int (o_I b) :: .int (o_I a) :: st) n h mc ms := by
  intro Z p e R s m args below meth c ad H locs cells slots MC MS la Q X E S P a1 a2 a3 a4 L K
  have k9 := k Z p e R s m args below meth c ad H locs cells slots MC MS la Q X E S P a1 a2 a3 a4 L K
  rw [List.map_cons, show o_rV ad (.int (o_I (a % b))) = .int (o_I a - o_I a / o_I b * o_I b) from congrArg Value.int (o_rem ha hb ha0 hb0).symm] at k9
  exact lv_irem X.1 X.2.1 hd (o_nz hb hb0) k9
theorem o_iand {x y : Int32} (hd : decode M.2.1 pc = .ok (.iand, 1)) (k : o_V l M d al post (pc + 1) ls (.int (x &&& y) :: st) n h mc ms) : o_V l M d al post pc ls (.int y :: .int x :: st) n h mc ms := by
  intro Z p e R s m args below meth c ad H locs cells slots MC MS la Q X E S P a1 a2 a3 a4 L K
  exact lv_iand X.1 X.2.1 hd (k Z p e R s m args below meth c ad H locs cells slots MC MS la Q X E S P a1 a2 a3 a4 L K)
theorem o_ishr {x y : Int32} (hd : decode M.2.1 pc = .ok (.ishr, 1)) (k : o_V l M d al post (pc + 1) ls (.int (x >>> (y &&& 31)) :: st) n h mc ms) : o_V l M d al post pc ls (.int y :: .int x :: st) n h mc ms := by
  intro Z p e R s m args below meth c ad H locs cells slots MC MS la Q X E S P a1 a2 a3 a4 L K
  exact lv_ishr X.1 X.2.1 hd (k Z p e R s m args below meth c ad H locs cells slots MC MS la Q X E S P a1 a2 a3 a4 L K)
theorem o_i2c {x : Int32} (hd : decode M.2.1 pc = .ok (.i2c, 1)) (k : o_V l M d al post (pc + 1) ls (.int (x.toUInt32 % 65536).toInt32 :: st) n h mc ms) : o_V l M d al post pc ls (.int x :: st) n h mc ms := by
  intro Z p e R s m args below meth c ad H locs cells slots MC MS la Q X E S P a1 a2 a3 a4 L K
  exact lv_i2c X.1 X.2.1 hd rfl (k Z p e R s m args below meth c ad H locs cells slots MC MS la Q X E S P a1 a2 a3 a4 L K)
theorem o_i2b {x : Int32} (hd : decode M.2.1 pc = .ok (.i2b, 1)) (k : o_V l M d al post (pc + 1) ls (.int x.toInt8.toInt32 :: st) n h mc ms) : o_V l M d al post pc ls (.int x :: st) n h mc ms := by
  intro Z p e R s m args below meth c ad H locs cells slots MC MS la Q X E S P a1 a2 a3 a4 L K
  exact lv_i2b X.1 X.2.1 hd rfl (k Z p e R s m args below meth c ad H locs cells slots MC MS la Q X E S P a1 a2 a3 a4 L K)
theorem o_i2l {x : Int32} (hd : decode M.2.1 pc = .ok (.i2l, 1)) (k : o_V l M d al post (pc + 1) ls (.long x.toInt64 :: st) n h mc ms) : o_V l M d al post pc ls (.int x :: st) n h mc ms := by
  intro Z p e R s m args below meth c ad H locs cells slots MC MS la Q X E S P a1 a2 a3 a4 L K
  exact lv_i2l X.1 X.2.1 hd rfl (k Z p e R s m args below meth c ad H locs cells slots MC MS la Q X E S P a1 a2 a3 a4 L K)
theorem o_i2d {x : Int32} (hd : decode M.2.1 pc = .ok (.i2d, 1)) (k : o_V l M d al post (pc + 1) ls (.double (FP.i2d x) :: st) n h mc ms) : o_V l M d al post pc ls (.int x :: st) n h mc ms := by
  intro Z p e R s m args below meth c ad H locs cells slots MC MS la Q X E S P a1 a2 a3 a4 L K
  exact lv_i2d X.1 X.2.1 hd (k Z p e R s m args below meth c ad H locs cells slots MC MS la Q X E S P a1 a2 a3 a4 L K)
theorem o_i2f {x : Int32} (hd : decode M.2.1 pc = .ok (.i2f, 1)) (k : o_V l M d al post (pc + 1) ls (.float (FP.i2f x) :: st) n h mc ms) : o_V l M d al post pc ls (.int x :: st) n h mc ms := by
  intro Z p e R s m args below meth c ad H locs cells slots MC MS la Q X E S P a1 a2 a3 a4 L K
  exact lv_i2f X.1 X.2.1 hd (k Z p e R s m args below meth c ad H locs cells slots MC MS la Q X E S P a1 a2 a3 a4 L K)
theorem o_f2d {x : UInt32} (hd : decode M.2.1 pc = .ok (.f2d, 1)) (hne : vf_n64 (FP.f2d x)) (k : o_V l M d al post (pc + 1) ls (.double (FP.f2d x) :: st) n h mc ms) : o_V l M d al post pc ls (.float x :: st) n h mc ms := by
  intro Z p e R s m args below meth c ad H locs cells slots MC MS la Q X E S P a1 a2 a3 a4 L K
  exact lv_f2d X.1 X.2.1 hd hne (k Z p e R s m args below meth c ad H locs cells slots MC MS la Q X E S P a1 a2 a3 a4 L K)
theorem o_ddiv {x y : UInt64} (hd : decode M.2.1 pc = .ok (.ddiv, 1)) (hne : vf_n64 (FP.ddiv x y)) (k : o_V l M d al post (pc + 1) ls (.double (FP.ddiv x y) :: st) n h mc ms) : o_V l M d al post pc ls (.double y :: .double x :: st) n h mc ms := by
  intro Z p e R s m args below meth c ad H locs cells slots MC MS la Q X E S P a1 a2 a3 a4 L K
  exact lv_ddiv X.1 X.2.1 hd hne (k Z p e R s m args below meth c ad H locs cells slots MC MS la Q X E S P a1 a2 a3 a4 L K)
theorem o_fdiv {x y : UInt32} (hd : decode M.2.1 pc = .ok (.fdiv, 1)) (hne : vf_n32 (FP.fdiv x y)) (k : o_V l M d al post (pc + 1) ls (.float (FP.fdiv x y) :: st) n h mc ms) : o_V l M d al post pc ls (.float y :: .float x :: st) n h mc ms := by
  intro Z p e R s m args below meth c ad H locs cells slots MC MS la Q X E S P a1 a2 a3 a4 L K
  exact lv_fdiv X.1 X.2.1 hd hne (k Z p e R s m args below meth c ad H locs cells slots MC MS la Q X E S P a1 a2 a3 a4 L K)
theorem o_lcmp {x y : Int64} (hd : decode M.2.1 pc = .ok (.lcmp, 1)) (k : o_V l M d al post (pc + 1) ls (.int (lg_cmp x y) :: st) n h mc ms) : o_V l M d al post pc ls (.long y :: .long x :: st) n h mc ms := by
  intro Z p e R s m args below meth c ad H locs cells slots MC MS la Q X E S P a1 a2 a3 a4 L K
  exact W.lcmp X.1 X.2.1 hd (k Z p e R s m args below meth c ad H locs cells slots MC MS la Q X E S P a1 a2 a3 a4 L K)
theorem o_dcmp {x y : UInt64} {op : CmpOp} (hd : decode M.2.1 pc = .ok (.dcmp op, 1)) (k : o_V l M d al post (pc + 1) ls (.int (Op.cmpValue (FP.dcmp x y) op) :: st) n h mc ms) : o_V l M d al post pc ls (.double y :: .double x :: st) n h mc ms := by
  intro Z p e R s m args below meth c ad H locs cells slots MC MS la Q X E S P a1 a2 a3 a4 L K
  exact lv_dcmp X.1 X.2.1 hd (k Z p e R s m args below meth c ad H locs cells slots MC MS la Q X E S P a1 a2 a3 a4 L K)
theorem o_fcmp {x y : UInt32} {op : CmpOp} (hd : decode M.2.1 pc = .ok (.fcmp op, 1)) (k : o_V l M d al post (pc + 1) ls (.int (Op.cmpValue (FP.fcmp x y) op) :: st) n h mc ms) : o_V l M d al post pc ls (.float y :: .float x :: st) n h mc ms := by
  intro Z p e R s m args below meth c ad H locs cells slots MC MS la Q X E S P a1 a2 a3 a4 L K
  exact lv_fcmp X.1 X.2.1 hd (k Z p e R s m args below meth c ad H locs cells slots MC MS la Q X E S P a1 a2 a3 a4 L K)
theorem o_dup {u : Value} (hd : decode M.2.1 pc = .ok (.dup, 1)) (hu : u.category = 1) (k : o_V l M d al post (pc + 1) ls (u :: u :: st) n h mc ms) : o_V l M d al post pc ls (u :: st) n h mc ms := by
  intro Z p e R s m args below meth c ad H locs cells slots MC MS la Q X E S P a1 a2 a3 a4 L K
  exact lv_dup X.1 X.2.1 hd (by rw [o_cat]; exact hu) (k Z p e R s m args below meth c ad H locs cells slots MC MS la Q X E S P a1 a2 a3 a4 L K)
theorem o_pop {u : Value} (hd : decode M.2.1 pc = .ok (.pop, 1)) (hu : u.category = 1) (k : o_V l M d al post (pc + 1) ls st n h mc ms) : o_V l M d al post pc ls (u :: st) n h mc ms := by
  intro Z p e R s m args below meth c ad H locs cells slots MC MS la Q X E S P a1 a2 a3 a4 L K
  exact lv_pop X.1 X.2.1 hd (by rw [o_cat]; exact hu) (k Z p e R s m args below meth c ad H locs cells slots MC MS la Q X E S P a1 a2 a3 a4 L K)
theorem o_dup2 {u v : Value} (hd : decode M.2.1 pc = .ok (.dup2, 1)) (hu : u.category = 1) (hv : v.category = 1) (k : o_V l M d al post (pc + 1) ls (u :: v :: u :: v :: st) n h mc ms) : o_V l M d al post pc ls (u :: v :: st) n h mc ms := by
  intro Z p e R s m args below meth c ad H locs cells slots MC MS la Q X E S P a1 a2 a3 a4 L K
  exact lv_dup2_11 X.1 X.2.1 hd (by rw [o_cat]; exact hu) (by rw [o_cat]; exact hv) (k Z p e R s m args below meth c ad H locs cells slots MC MS la Q X E S P a1 a2 a3 a4 L K)
theorem o_dup_x1 {u v : Value} (hd : decode M.2.1 pc = .ok (.dup_x1, 1)) (hu : u.category = 1) (hv : v.category = 1) (k : o_V l M d al post (pc + 1) ls (u :: v :: u :: st) n h mc ms) : o_V l M d al post pc ls (u :: v :: st) n h mc ms := by
  intro Z p e R s m args below meth c ad H locs cells slots MC MS la Q X E S P a1 a2 a3 a4 L K
  exact lv_dup_x1 X.1 X.2.1 hd (by rw [o_cat]; exact hu) (by rw [o_cat]; exact hv) (k Z p e R s m args below meth c ad H locs cells slots MC MS la Q X E S P a1 a2 a3 a4 L K)
theorem o_dup_x2 {u v w : Value} (hd : decode M.2.1 pc = .ok (.dup_x2, 1)) (hu : u.category = 1) (hv : v.category = 1) (hw : w.category = 1) (k : o_V l M d al post (pc + 1) ls (u :: v :: w :: u :: st) n h mc ms) : o_V l M d al post pc ls (u :: v :: w :: st) n h mc ms := by
  intro Z p e R s m args below meth c ad H locs cells slots MC MS la Q X E S P a1 a2 a3 a4 L K
  exact lv_dup_x2 X.1 X.2.1 hd (by rw [o_cat]; exact hu) (by rw [o_cat]; exact hv) (by rw [o_cat]; exact hw) (k Z p e R s m args below meth c ad H locs cells slots MC MS la Q X E S P a1 a2 a3 a4 L K)
theorem o_icmp_eq {a b : Int} {off : Int} {tgt : Nat} (hd : decode M.2.1 pc = .ok (.if_icmp .eq off, 3)) (ht : (pc : Int) + off = (tgt : Int)) (ha : o_R a) (hb : o_R b) (k1 : a = b → o_V l M d al post tgt ls st n h mc ms) (k2 : ¬ (a = b) → o_V l M d al post (pc + 3) ls st n h mc ms) : o_V l M d al post pc ls (.int (o_I b) :: .int (o_I a) :: st) n h mc ms := by
  intro Z p e R s m args below meth c ad H locs cells slots MC MS la Q X E S P a1 a2 a3 a4 L K
  exact lv_icmp_eq X.1 X.2.1 hd ht (fun q => k1 ((o_eq ha hb).mp q) Z p e R s m args below meth c ad H locs cells slots MC MS la Q X E S P a1 a2 a3 a4 L K) (fun q => k2 (fun z => q ((o_eq ha hb).mpr z)) Z p e R s m args below meth c ad H locs cells slots MC MS la Q X E S P a1 a2 a3 a4 L K)
theorem o_if_eq {a : Int} {off : Int} {tgt : Nat} (hd : decode M.2.1 pc = .ok (.ifCond .eq off, 3)) (ht : (pc : Int) + off = (tgt : Int)) (ha : o_R a) (k1 : a = 0 → o_V l M d al post tgt ls st n h mc ms) (k2 : ¬ (a = 0) → o_V l M d al post (pc + 3) ls st n h mc ms) : o_V l M d al post pc ls (.int (o_I a) :: st) n h mc ms := by
  intro Z p e R s m args below meth c ad H locs cells slots MC MS la Q X E S P a1 a2 a3 a4 L K
  exact lv_if_eq X.1 X.2.1 hd ht (fun q => k1 ((o_eq ha o_R0).mp q) Z p e R s m args below meth c ad H locs cells slots MC MS la Q X E S P a1 a2 a3 a4 L K) (fun q => k2 (fun z => q ((o_eq ha o_R0).mpr z)) Z p e R s m args below meth c ad H locs cells slots MC MS la Q X E S P a1 a2 a3 a4 L K)
theorem o_icmp_ne {a b : Int} {off : Int} {tgt : Nat} (hd : decode M.2.1 pc = .ok (.if_icmp .ne off, 3)) (ht : (pc : Int) + off = (tgt : Int)) (ha : o_R a) (hb : o_R b) (k1 : ¬ a = b → o_V l M d al post tgt ls st n h mc ms) (k2 : a = b → o_V l M d al post (pc + 3) ls st n h mc ms) : o_V l M d al post pc ls (.int (o_I b) :: .int (o_I a) :: st) n h mc ms := by
  intro Z p e R s m args below meth c ad H locs cells slots MC MS la Q X E S P a1 a2 a3 a4 L K
  exact lv_icmp_ne X.1 X.2.1 hd ht (fun q => k1 (fun z => q ((o_eq ha hb).mpr z)) Z p e R s m args below meth c ad H locs cells slots MC MS la Q X E S P a1 a2 a3 a4 L K) (fun q => k2 ((o_eq ha hb).mp q) Z p e R s m args below meth c ad H locs cells slots MC MS la Q X E S P a1 a2 a3 a4 L K)
theorem o_if_ne {a : Int} {off : Int} {tgt : Nat} (hd : decode M.2.1 pc = .ok (.ifCond .ne off, 3)) (ht : (pc : Int) + off = (tgt : Int)) (ha : o_R a) (k1 : ¬ a = 0 → o_V l M d al post tgt ls st n h mc ms) (k2 : a = 0 → o_V l M d al post (pc + 3) ls st n h mc ms) : o_V l M d al post pc ls (.int (o_I a) :: st) n h mc ms := by
  intro Z p e R s m args below meth c ad H locs cells slots MC MS la Q X E S P a1 a2 a3 a4 L K
  exact lv_if_ne X.1 X.2.1 hd ht (fun q => k1 (fun z => q ((o_eq ha o_R0).mpr z)) Z p e R s m args below meth c ad H locs cells slots MC MS la Q X E S P a1 a2 a3 a4 L K) (fun q => k2 ((o_eq ha o_R0).mp q) Z p e R s m args below meth c ad H locs cells slots MC MS la Q X E S P a1 a2 a3 a4 L K)
theorem o_ifx_ne {x : Int32} {off : Int} {tgt : Nat} (hd : decode M.2.1 pc = .ok (.ifCond .ne off, 3)) (ht : (pc : Int) + off = (tgt : Int)) (k1 : ¬ x = 0 → o_V l M d al post tgt ls st n h mc ms) (k2 : x = 0 → o_V l M d al post (pc + 3) ls st n h mc ms) : o_V l M d al post pc ls (.int x :: st) n h mc ms := by
  intro Z p e R s m args below meth c ad H locs cells slots MC MS la Q X E S P a1 a2 a3 a4 L K
  exact lv_if_ne X.1 X.2.1 hd ht (fun q => k1 q Z p e R s m args below meth c ad H locs cells slots MC MS la Q X E S P a1 a2 a3 a4 L K) (fun q => k2 q Z p e R s m args below meth c ad H locs cells slots MC MS la Q X E S P a1 a2 a3 a4 L K)
theorem o_icmp_lt {a b : Int} {off : Int} {tgt : Nat} (hd : decode M.2.1 pc = .ok (.if_icmp .lt off, 3)) (ht : (pc : Int) + off = (tgt : Int)) (ha : o_R a) (hb : o_R b) (k1 : a < b → o_V l M d al post tgt ls st n h mc ms) (k2 : ¬ (a < b) → o_V l M d al post (pc + 3) ls st n h mc ms) : o_V l M d al post pc ls (.int (o_I b) :: .int (o_I a) :: st) n h mc ms := by
  intro Z p e R s m args below meth c ad H locs cells slots MC MS la Q X E S P a1 a2 a3 a4 L K
  exact lv_icmp_lt X.1 X.2.1 hd ht (fun q => k1 ((o_lt ha hb).mp q) Z p e R s m args below meth c ad H locs cells slots MC MS la Q X E S P a1 a2 a3 a4 L K) (fun q => k2 (fun z => q ((o_lt ha hb).mpr z)) Z p e R s m args below meth c ad H locs cells slots MC MS la Q X E S P a1 a2 a3 a4 L K)
theorem o_if_lt {a : Int} {off : Int} {tgt : Nat} (hd : decode M.2.1 pc = .ok (.ifCond .lt off, 3)) (ht : (pc : Int) + off = (tgt : Int)) (ha : o_R a) (k1 : a < 0 → o_V l M d al post tgt ls st n h mc ms) (k2 : ¬ (a < 0) → o_V l M d al post (pc + 3) ls st n h mc ms) : o_V l M d al post pc ls (.int (o_I a) :: st) n h mc ms := by
  intro Z p e R s m args below meth c ad H locs cells slots MC MS la Q X E S P a1 a2 a3 a4 L K
  exact lv_if_lt X.1 X.2.1 hd ht (fun q => k1 ((o_lt ha o_R0).mp q) Z p e R s m args below meth c ad H locs cells slots MC MS la Q X E S P a1 a2 a3 a4 L K) (fun q => k2 (fun z => q ((o_lt ha o_R0).mpr z)) Z p e R s m args below meth c ad H locs cells slots MC MS la Q X E S P a1 a2 a3 a4 L K)
theorem o_icmp_ge {a b : Int} {off : Int} {tgt : Nat} (hd : decode M.2.1 pc = .ok (.if_icmp .ge off, 3)) (ht : (pc : Int) + off = (tgt : Int)) (ha : o_R a) (hb : o_R b) (k1 : b ≤ a → o_V l M d al post tgt ls st n h mc ms) (k2 : ¬ (b ≤ a) → o_V l M d al post (pc + 3) ls st n h mc ms) : o_V l M d al post pc ls (.int (o_I b) :: .int (o_I a) :: st) n h mc ms := by
  intro Z p e R s m args below meth c ad H locs cells slots MC MS la Q X E S P a1 a2 a3 a4 L K
  exact lv_icmp_ge X.1 X.2.1 hd ht (fun q => k1 ((o_le hb ha).mp q) Z p e R s m args below meth c ad H locs cells slots MC MS la Q X E S P a1 a2 a3 a4 L K) (fun q => k2 (fun z => q ((o_le hb ha).mpr z)) Z p e R s m args below meth c ad H locs cells slots MC MS la Q X E S P a1 a2 a3 a4 L K)
theorem o_if_ge {a : Int} {off : Int} {tgt : Nat} (hd : decode M.2.1 pc = .ok (.ifCond .ge off, 3)) (ht : (pc : Int) + off = (tgt : Int)) (ha : o_R a) (k1 : 0 ≤ a → o_V l M d al post tgt ls st n h mc ms) (k2 : ¬ (0 ≤ a) → o_V l M d al post (pc + 3) ls st n h mc ms) : o_V l M d al post pc ls (.int (o_I a) :: st) n h mc ms := by
  intro Z p e R s m args below meth c ad H locs cells slots MC MS la Q X E S P a1 a2 a3 a4 L K
  exact lv_if_ge X.1 X.2.1 hd ht (fun q => k1 ((o_le o_R0 ha).mp q) Z p e R s m args below meth c ad H locs cells slots MC MS la Q X E S P a1 a2 a3 a4 L K) (fun q => k2 (fun z => q ((o_le o_R0 ha).mpr z)) Z p e R s m args below meth c ad H locs cells slots MC MS la Q X E S P a1 a2 a3 a4 L K)
theorem o_icmp_gt {a b : Int} {off : Int} {tgt : Nat} (hd : decode M.2.1 pc = .ok (.if_icmp .gt off, 3)) (ht : (pc : Int) + off = (tgt : Int)) (ha : o_R a) (hb : o_R b) (k1 : b < a → o_V l M d al post tgt ls st n h mc ms) (k2 : ¬ (b < a) → o_V l M d al post (pc + 3) ls st n h mc ms) : o_V l M d al post pc ls (.int (o_I b) :: .int (o_I a) :: st) n h mc ms := by
  intro Z p e R s m args below meth c ad H locs cells slots MC MS la Q X E S P a1 a2 a3 a4 L K
  exact lv_icmp_gt X.1 X.2.1 hd ht (fun q => k1 ((o_lt hb ha).mp q) Z p e R s m args below meth c ad H locs cells slots MC MS la Q X E S P a1 a2 a3 a4 L K) (fun q => k2 (fun z => q ((o_lt hb ha).mpr z)) Z p e R s m args below meth c ad H locs cells slots MC MS la Q X E S P a1 a2 a3 a4 L K)
theorem o_if_gt {a : Int} {off : Int} {tgt : Nat} (hd : decode M.2.1 pc = .ok (.ifCond .gt off, 3)) (ht : (pc : Int) + off = (tgt : Int)) (ha : o_R a) (k1 : 0 < a → o_V l M d al post tgt ls st n h mc ms) (k2 : ¬ (0 < a) → o_V l M d al post (pc + 3) ls st n h mc ms) : o_V l M d al post pc ls (.int (o_I a) :: st) n h mc ms := by
  intro Z p e R s m args below meth c ad H locs cells slots MC MS la Q X E S P a1 a2 a3 a4 L K
  exact lv_if_gt X.1 X.2.1 hd ht (fun q => k1 ((o_lt o_R0 ha).mp q) Z p e R s m args below meth c ad H locs cells slots MC MS la Q X E S P a1 a2 a3 a4 L K) (fun q => k2 (fun z => q ((o_lt o_R0 ha).mpr z)) Z p e R s m args below meth c ad H locs cells slots MC MS la Q X E S P a1 a2 a3 a4 L K)
theorem o_icmp_le {a b : Int} {off : Int} {tgt : Nat} (hd : decode M.2.1 pc = .ok (.if_icmp .le off, 3)) (ht : (pc : Int) + off = (tgt : Int)) (ha : o_R a) (hb : o_R b) (k1 : a ≤ b → o_V l M d al post tgt ls st n h mc ms) (k2 : ¬ (a ≤ b) → o_V l M d al post (pc + 3) ls st n h mc ms) : o_V l M d al post pc ls (.int (o_I b) :: .int (o_I a) :: st) n h mc ms := by
  intro Z p e R s m args below meth c ad H locs cells slots MC MS la Q X E S P a1 a2 a3 a4 L K
  exact lv_icmp_le X.1 X.2.1 hd ht (fun q => k1 ((o_le ha hb).mp q) Z p e R s m args below meth c ad H locs cells slots MC MS la Q X E S P a1 a2 a3 a4 L K) (fun q => k2 (fun z => q ((o_le ha hb).mpr z)) Z p e R s m args below meth c ad H locs cells slots MC MS la Q X E S P a1 a2 a3 a4 L K)
theorem o_if_le {a : Int} {off : Int} {tgt : Nat} (hd : decode M.2.1 pc = .ok (.ifCond .le off, 3)) (ht : (pc : Int) + off = (tgt : Int)) (ha : o_R a) (k1 : a ≤ 0 → o_V l M d al post tgt ls st n h mc ms) (k2 : ¬ (a ≤ 0) → o_V l M d al post (pc + 3) ls st n h mc ms) : o_V l M d al post pc ls (.int (o_I a) :: st) n h mc ms := by
  intro Z p e R s m args below meth c ad H locs cells slots MC MS la Q X E S P a1 a2 a3 a4 L K
  exact lv_if_le X.1 X.2.1 hd ht (fun q => k1 ((o_le ha o_R0).mp q) Z p e R s m args below meth c ad H locs cells slots MC MS la Q X E S P a1 a2 a3 a4 L K) (fun q => k2 (fun z => q ((o_le ha o_R0).mpr z)) Z p e R s m args below meth c ad H locs cells slots MC MS la Q X E S P a1 a2 a3 a4 L K)
theorem o_ifx_eq {x : Int32} {off : Int} {tgt : Nat} (hd : decode M.2.1 pc = .ok (.ifCond .eq off, 3)) (ht : (pc : Int) + off = (tgt : Int)) (k1 : x = 0 → o_V l M d al post tgt ls st n h mc ms) (k2 : ¬ (x = 0) → o_V l M d al post (pc + 3) ls st n h mc ms) : o_V l M d al post pc ls (.int x :: st) n h mc ms := by
  intro Z p e R s m args below meth c ad H locs cells slots MC MS la Q X E S P a1 a2 a3 a4 L K
  exact lv_if_eq X.1 X.2.1 hd ht (fun q => k1 q Z p e R s m args below meth c ad H locs cells slots MC MS la Q X E S P a1 a2 a3 a4 L K) (fun q => k2 q Z p e R s m args below meth c ad H locs cells slots MC MS la Q X E S P a1 a2 a3 a4 L K)
theorem o_goto {off : Int} {tgt : Nat} (hd : decode M.2.1 pc = .ok (.goto off, 3)) (ht : (pc : Int) + off = (tgt : Int)) (k : o_V l M d al post tgt ls st n h mc ms) : o_V l M d al post pc ls st n h mc ms := by
  intro Z p e R s m args below meth c ad H locs cells slots MC MS la Q X E S P a1 a2 a3 a4 L K
  exact lv_goto X.1 X.2.1 hd ht (k Z p e R s m args below meth c ad H locs cells slots MC MS la Q X E S P a1 a2 a3 a4 L K)
theorem o_ifnonnull {x : Nat} {off : Int} {tgt : Nat} (hd : decode M.2.1 pc = .ok (.ifnonnull off, 3)) (ht : (pc : Int) + off = (tgt : Int)) (k : o_V l M d al post tgt ls st n h mc ms) : o_V l M d al post pc ls (.ref x :: st) n h mc ms := by
  intro Z p e R s m args below meth c ad H locs cells slots MC MS la Q X E S P a1 a2 a3 a4 L K
  exact lv_ifnonnull X.1 X.2.1 hd ht (k Z p e R s m args below meth c ad H locs cells slots MC MS la Q X E S P a1 a2 a3 a4 L K)
theorem o_ifnonnullN {off : Int} (hd : decode M.2.1 pc = .ok (.ifnonnull off, 3)) (k : o_V l M d al post (pc + 3) ls st n h mc ms) : o_V l M d al post pc ls (.null :: st) n h mc ms := by
  intro Z p e R s m args below meth c ad H locs cells slots MC MS la Q X E S P a1 a2 a3 a4 L K
  exact lv_ifnonnullN X.1 X.2.1 hd (k Z p e R s m args below meth c ad H locs cells slots MC MS la Q X E S P a1 a2 a3 a4 L K)
theorem o_ifnull {x : Nat} {off : Int} (hd : decode M.2.1 pc = .ok (.ifnull off, 3)) (k : o_V l M d al post (pc + 3) ls st n h mc ms) : o_V l M d al post pc ls (.ref x :: st) n h mc ms := by
  intro Z p e R s m args below meth c ad H locs cells slots MC MS la Q X E S P a1 a2 a3 a4 L K
  exact lv_ifnull X.1 X.2.1 hd (k Z p e R s m args below meth c ad H locs cells slots MC MS la Q X E S P a1 a2 a3 a4 L K)
theorem o_lookup {dflt : Int} {ps : Array (Int × Int)} {len : Nat} {x : Int32} {off : Int} {tgt : Nat} (hd : decode M.2.1 pc = .ok (.lookupswitch dflt ps, len)) (hp : (ps.toList.zip (ps.toList.drop 1)).all (fun (a, next) => a.1 < next.1) = true) (ho : Op.lookupswitch.offset ps.toList dflt x.toInt = off) (ht : (pc : Int) + off = (tgt : Int)) (k : o_V l M d al post tgt ls st n h mc ms) : o_V l M d al post pc ls (.int x :: st) n h mc ms := by
  intro Z p e R s m args below meth c ad H locs cells slots MC MS la Q X E S P a1 a2 a3 a4 L K
  exact lv_lookup X.1 X.2.1 hd hp ho ht (k Z p e R s m args below meth c ad H locs cells slots MC MS la Q X E S P a1 a2 a3 a4 L K)
theorem o_tableOut {dflt lo hi : Int} {offs : Array Int} {len : Nat} {x : Int32} {tgt : Nat} (hd : decode M.2.1 pc = .ok (.tableswitch dflt lo hi offs, len)) (h9 : x.toInt < lo ∨ hi < x.toInt) (ht : (pc : Int) + dflt = (tgt : Int)) (k : o_V l M d al post tgt ls st n h mc ms) : o_V l M d al post pc ls (.int x :: st) n h mc ms := by
  intro Z p e R s m args below meth c ad H locs cells slots MC MS la Q X E S P a1 a2 a3 a4 L K
  exact lv_tableOut X.1 X.2.1 hd h9 ht (k Z p e R s m args below meth c ad H locs cells slots MC MS la Q X E S P a1 a2 a3 a4 L K)
theorem o_tableIn {dflt lo hi : Int} {offs : Array Int} {len : Nat} {x : Int32} {off : Int} {tgt : Nat} (hd : decode M.2.1 pc = .ok (.tableswitch dflt lo hi offs, len)) (h1 : ¬ x.toInt < lo) (h2 : ¬ hi < x.toInt) (ho : offs[(x.toInt - lo).toNat]? = some off) (ht : (pc : Int) + off = (tgt : Int)) (k : o_V l M d al post tgt ls st n h mc ms) : o_V l M d al post pc ls (.int x :: st) n h mc ms := by
  intro Z p e R s m args below meth c ad H locs cells slots MC MS la Q X E S P a1 a2 a3 a4 L K
  exact lv_tableIn X.1 X.2.1 hd h1 h2 ho ht (k Z p e R s m args below meth c ad H locs cells slots MC MS la Q X E S P a1 a2 a3 a4 L K)
/-- the same variables, in another order, or fewer -/
theorem o_loc (ls' : List (Nat × Value)) (hq : ls'.map (fun q => o_get ls q.1) = ls'.map (fun q => some q.2)) (k : o_V l M d al post pc ls' st n h mc ms) : o_V l M d al post pc ls st n h mc ms := by
  intro Z p e R s m args below meth c ad H locs cells slots MC MS la Q X E S P a1 a2 a3 a4 L K
  refine k Z p e R s m args below meth c ad H locs cells slots MC MS la Q X E S P a1 a2 a3 a4 ⟨L.1, L.2.1, fun q hq' => ?_⟩ K
  obtain ⟨r, hr, rfl⟩ := List.mem_map.mp hq'
  have h9 : o_get ls r.1 = some r.2 := by
    obtain ⟨j, hj⟩ := List.getElem?_of_mem hr
    have := congrArg (fun l => l[j]?) hq
    simpa [hj] using this
  exact o_lat L h9
/-- less room -/
theorem o_mono {mc' ms' : Nat} (h1 : mc' ≤ mc) (h2 : ms' ≤ ms) (k : o_V l M d al post pc ls st n h mc' ms') : o_V l M d al post pc ls st n h mc ms := by
  intro Z p e R s m args below meth c ad H locs cells slots MC MS la Q X E S P a1 a2 a3 a4 L K
  exact k Z p e R s m args below meth c ad H locs cells slots MC MS la Q X E S P (by omega) (by omega) a3 a4 L K
end OR
end
section
/-! the classes' words, types and names -/
def o_clF (q : vw_C) : Prop := (∀ w ∈ u_ws q.1 q.2.1 q.2.2, w ∈ o_gW) ∧ (∃ ty : Nat → FieldType, ∀ k, k < q.2.2 → parseFieldDescriptor (q.2.1 k).2.2.1 = some (ty k)) ∧ ∀ a, a < q.2.2 → ∀ b, b < q.2.2 → a ≠ b → (q.2.1 a).2.1 ≠ (q.2.1 b).2.1
theorem o_clF0 (E : String) : o_clF (E, o_T0, 0) := ⟨fun w hw => by simp [u_ws] at hw, ⟨fun _ => .int, fun k hk => absurd hk (Nat.not_lt_zero k)⟩, fun a ha => absurd ha (Nat.not_lt_zero a)⟩
theorem o_clF_X11 : o_clF (RX11, TX11, 12) := ⟨by decide +kernel, ⟨tyX11, tyX11_ok⟩, nmX11⟩
theorem o_clF_X10 : o_clF (RX10, TX10, 7) := ⟨by decide +kernel, ⟨tyX10, tyX10_ok⟩, nmX10⟩
theorem o_clF_X9 : o_clF (RX9, TX9, 4) := ⟨by decide +kernel, ⟨tyX9, tyX9_ok⟩, nmX9⟩
theorem o_clF_X7 : o_clF (RX7, TX7, 6) := ⟨by decide +kernel, ⟨tyX7, tyX7_ok⟩, nmX7⟩
theorem o_clF_X8 : o_clF (RX8, TX8, 3) := ⟨by decide +kernel, ⟨tyX8, tyX8_ok⟩, nmX8⟩
theorem o_clF_X5 : o_clF (RX5, TX5, 3) := ⟨by decide +kernel, ⟨tyX5, tyX5_ok⟩, nmX5⟩
theorem o_clF_X4 : o_clF (RX4, TX4, 1) := ⟨by decide +kernel, ⟨tyX4, tyX4_ok⟩, nmX4⟩
theorem o_clF_X3 : o_clF (RX3, TX3, 4) := ⟨by decide +kernel, ⟨tyX3, tyX3_ok⟩, nmX3⟩
theorem o_clF_X2 : o_clF (RX2, TX2, 5) := ⟨by decide +kernel, ⟨tyX2, tyX2_ok⟩, nmX2⟩
theorem o_clF_X1 : o_clF (RX1, TX1, 2) := ⟨by decide +kernel, ⟨tyX1, tyX1_ok⟩, nmX1⟩
theorem o_clF_X12 : o_clF (RX12, TX12, 19) := ⟨by decide +kernel, ⟨tyX12, tyX12_ok⟩, nmX12⟩
theorem o_clF_J4 : o_clF (RJ4, TJ4, 4) := ⟨by decide +kernel, ⟨tyJ4, tyJ4_ok⟩, nmJ4⟩
theorem o_clOk : ∀ q ∈ o_cl, o_clF q := List.forall_mem_cons.mpr ⟨o_clF_X11, List.forall_mem_cons.mpr ⟨o_clF_X10, List.forall_mem_cons.mpr ⟨o_clF_X9, List.forall_mem_cons.mpr ⟨o_clF_X7, List.forall_mem_cons.mpr ⟨o_clF_X8, List.forall_mem_cons.mpr ⟨o_clF_X5, List.forall_mem_cons.mpr ⟨o_clF_X4, List.forall_mem_cons.mpr ⟨o_clF_X3, List.forall_mem_cons.mpr ⟨o_clF_X2, List.forall_mem_cons.mpr ⟨o_clF_X1, List.forall_mem_cons.mpr ⟨o_clF_X12, List.forall_mem_cons.mpr ⟨o_clF_J4, List.forall_mem_cons.mpr ⟨o_clF0 _, List.forall_mem_cons.mpr ⟨o_clF0 _, List.forall_mem_cons.mpr ⟨o_clF0 _, List.forall_mem_cons.mpr ⟨o_clF0 _, List.forall_mem_cons.mpr ⟨o_clF0 _, List.forall_mem_cons.mpr ⟨o_clF0 _, fun _ h => absurd h List.not_mem_nil⟩⟩⟩⟩⟩⟩⟩⟩⟩⟩⟩⟩⟩⟩⟩⟩⟩⟩
theorem o_clAt {ci : Nat} {q : vw_C} (h : o_cl[ci]? = some q) : o_clF q := o_clOk q (List.mem_of_getElem? h)
theorem o_Rp.set {Z : o_Z} {ad : Nat → Nat} {n b : Nat} {h h' : Nat → o_C} {H1 : Heap} {c : o_C} {e0 : va_E} (he : e0 = o_rC ad Z.2.2.1 c) (e : o_up h b c = h') (hP : va_P Z.2.1 o_cl ((o_rW ad Z.2.2.1 n h).set b (ad b, e0)) H1) (hD : va_D (o_A Z) ((o_rW ad Z.2.2.1 n h).set b (ad b, e0))) : o_Rp Z ad n h' H1 := by
  rw [o_rW_set he, e] at hP hD
  exact ⟨hP, hD⟩
theorem o_inR {i : Int} {n : Nat} (hn : n ≤ 2147483647) (h0 : 0 ≤ i) (h1 : i < n) : o_R i := ⟨by omega, by omega⟩
theorem o_mx {a b : Int} (ha : o_R a) (hb : o_R b) : (if o_I a < o_I b then o_I b else o_I a) = o_I (max a b) := by
  by_cases q : a < b
  · rw [if_pos ((o_lt ha hb).mpr q)]; congr 1; omega
  · rw [if_neg (fun z => q ((o_lt ha hb).mp z))]; congr 1; omega
theorem o_mn {a b : Int} (ha : o_R a) (hb : o_R b) : (if o_I b < o_I a then o_I b else o_I a) = o_I (min a b) := by
  by_cases q : b < a
  · rw [if_pos ((o_lt hb ha).mpr q)]; congr 1; omega
  · rw [if_neg (fun z => q ((o_lt hb ha).mp z))]; congr 1; omega
/-- functions of integers -/
def o_u (g : Nat → Int) (k : Nat) (z : Int) : Nat → Int := fun j => if j = k then z else g j
theorem o_uI (g : Nat → Int) (k : Nat) (z : Int) : upd (fun j => o_I (g j)) k (o_I z) = fun j => o_I (o_u g k z j) := by
  funext j
  by_cases q : j = k
  · subst q; simp [upd, o_u]
  · simp [upd, o_u, q]
theorem o_cpI (f g : Nat → Int) (sp dp m : Nat) : va_cpy (fun j => o_I (f j)) (fun j => o_I (g j)) sp dp m = fun j => o_I (va_cpy f g sp dp m j) := by
  funext j
  unfold va_cpy
  split <;> rfl
end
section
/-! rows that read and write the heap, and ends -/
section OH
variable {l : Launch} {M : o_M} {d : Nat} {al : Nat → Prop} {post : o_P} {pc : Nat} {ls : List (Nat × Value)} {st : List Value} {n : Nat} {h : Nat → o_C} {mc ms : Nat}
theorem o_getf {b ci k i N : Nat} {fs : List Value} {C : String} {T : u_T} {v : Value} (hd : decode M.2.1 pc = .ok (.getfield i, 3)) (hb : b < n) (hh : h b = .inr (ci, fs)) (hc : o_cl[ci]? = some (C, T, N)) (hk : k < N) (hw : Cond.fieldLink M.1 i (T k).1 (T k).2.1 (T k).2.2.1 ∈ o_gW) (hv : fs[k]? = some v) (k9 : o_V l M d al post (pc + 3) ls (v :: st) n h mc ms) : o_V l M d al post pc ls (.ref b :: st) n h mc ms := by
  intro Z p e R s m args below meth c ad H locs cells slots MC MS la Q X E S P a1 a2 a3 a4 L K
  exact va_get (D := Z.2.1) (cl := o_cl) (tys := o_tys Z) X.1 X.2.1 X.2.2.2.1 (o_clAt hc).1 X.2.2.1 E.2.1 P.1 b (o_rW_get hb hh) hc k hk (X.2.2.2.1 _ hw) (fun _ h9 => h9) (by rw [List.getElem?_map, hv]; rfl) hd (k9 Z p e R s m args below meth c ad H locs cells slots MC MS la Q X E S P a1 a2 a3 a4 L K)
theorem o_putf {b ci k i N : Nat} {fs : List Value} {C : String} {T : u_T} {v : Value} {ty : FieldType} {h' : Nat → o_C} (hd : decode M.2.1 pc = .ok (.putfield i, 3)) (hb : b < n) (hh : h b = .inr (ci, fs)) (hc : o_cl[ci]? = some (C, T, N)) (hk : k < N) (hw : Cond.fieldLink M.1 i (T k).1 (T k).2.1 (T k).2.2.1 ∈ o_gW) (hfin : (T k).2.2.2 = false) (hty : parseFieldDescriptor (T k).2.2.1 = some ty) (hl : k < fs.length) (hn : ∀ ad, narrow ty (o_rV ad v) = o_rV ad v) (hf : ∀ ad, fits ty (o_rV ad v) = true) (e9 : o_up h b (.inr (ci, fs.set k v)) = h') (k9 : o_V l M d al post (pc + 3) ls st n h' mc ms) : o_V l M d al post pc ls (v :: .ref b :: st) n h mc ms := by
  intro Z p e R s m args below meth c ad H locs cells slots MC MS la Q X E S P a1 a2 a3 a4 L K
  obtain ⟨hcw, ⟨ty0, hty0⟩, hnm⟩ := o_clAt hc
  refine va_put (D := Z.2.1) (cl := o_cl) (tys := o_tys Z) X.1 X.2.1 X.2.2.2.1 hcw ty0 hty0 hnm X.2.2.1 E.2.1 P.1 P.2 S b (o_rW_get hb hh) hc k hk (X.2.2.2.1 _ hw) (fun _ h9 => h9) hfin hty (hn ad) (hf ad) (by rw [List.length_map]; exact hl) hd (fun H1 locs1 hP hD hS => ?_)
  exact k9 Z p e R s m args below meth c ad H1 locs1 cells slots MC MS la Q X E hS (o_Rp.set (by rw [← List.map_set]; rfl) e9 hP hD) a1 a2 a3 a4 L K
theorem o_iald {b len : Nat} {g : Nat → Int} {i : Int} (hd : decode M.2.1 pc = .ok (.iaload, 1)) (hb : b < n) (hh : h b = .inl (0, len, .inl (fun j => o_I (g j)))) (hle : len ≤ 2147483647) (h0 : 0 ≤ i) (h1 : i < len) (k9 : o_V l M d al post (pc + 1) ls (.int (o_I (g i.toNat)) :: st) n h mc ms) : o_V l M d al post pc ls (.int (o_I i) :: .ref b :: st) n h mc ms := by
  intro Z p e R s m args below meth c ad H locs cells slots MC MS la Q X E S P a1 a2 a3 a4 L K
  have k8 := k9 Z p e R s m args below meth c ad H locs cells slots MC MS la Q X E S P a1 a2 a3 a4 L K
  rw [← o_clamp (o_inR hle h0 h1)] at k8
  exact va_iald (D := Z.2.1) (cl := o_cl) (tys := o_tys Z) X.1 X.2.1 E.2.1 P.1 b 0 (o_rW_get hb hh) (o_tys_get rfl) (o_in (o_inR hle h0 h1) h0 h1) hd k8
theorem o_iast {b len : Nat} {g : Nat → Int} {i z : Int} {h' : Nat → o_C} (hd : decode M.2.1 pc = .ok (.iastore, 1)) (hb : b < n) (hh : h b = .inl (0, len, .inl (fun j => o_I (g j)))) (hle : len ≤ 2147483647) (h0 : 0 ≤ i) (h1 : i < len) (e9 : o_up h b (.inl (0, len, .inl (fun j => o_I (o_u g i.toNat z j)))) = h') (k9 : o_V l M d al post (pc + 1) ls st n h' mc ms) : o_V l M d al post pc ls (.int (o_I z) :: .int (o_I i) :: .ref b :: st) n h mc ms := by
  intro Z p e R s m args below meth c ad H locs cells slots MC MS la Q X E S P a1 a2 a3 a4 L K
  refine va_iast (D := Z.2.1) (cl := o_cl) (tys := o_tys Z) X.1 X.2.1 E.2.1 P.1 P.2 S b 0 (o_rW_get hb hh) (o_tys_get rfl) (o_in (o_inR hle h0 h1) h0 h1) hd (fun H1 locs1 hP hD hS => ?_)
  exact k9 Z p e R s m args below meth c ad H1 locs1 cells slots MC MS la Q X E hS (o_Rp.set (by rw [o_clamp (o_inR hle h0 h1), o_uI]; rfl) e9 hP hD) a1 a2 a3 a4 L K
theorem o_zald {b len : Nat} {g : Nat → Int} {i : Int} (hd : decode M.2.1 pc = .ok (.baload, 1)) (hb : b < n) (hh : h b = .inl (1, len, .inl (fun j => o_I (g j)))) (hle : len ≤ 2147483647) (h0 : 0 ≤ i) (h1 : i < len) (k9 : o_V l M d al post (pc + 1) ls (.int (o_I (g i.toNat)) :: st) n h mc ms) : o_V l M d al post pc ls (.int (o_I i) :: .ref b :: st) n h mc ms := by
  intro Z p e R s m args below meth c ad H locs cells slots MC MS la Q X E S P a1 a2 a3 a4 L K
  have k8 := k9 Z p e R s m args below meth c ad H locs cells slots MC MS la Q X E S P a1 a2 a3 a4 L K
  rw [← o_clamp (o_inR hle h0 h1)] at k8
  exact va_zald (D := Z.2.1) (cl := o_cl) (tys := o_tys Z) X.1 X.2.1 E.2.1 P.1 b 1 (o_rW_get hb hh) (o_tys_get rfl) (o_in (o_inR hle h0 h1) h0 h1) hd k8
theorem o_zast {b len : Nat} {g : Nat → Int} {i z : Int} {h' : Nat → o_C} (hd : decode M.2.1 pc = .ok (.bastore, 1)) (hb : b < n) (hh : h b = .inl (1, len, .inl (fun j => o_I (g j)))) (hle : len ≤ 2147483647) (h0 : 0 ≤ i) (h1 : i < len) (hn : vp_nar .boolean (o_I z) = o_I z) (e9 : o_up h b (.inl (1, len, .inl (fun j => o_I (o_u g i.toNat z j)))) = h') (k9 : o_V l M d al post (pc + 1) ls st n h' mc ms) : o_V l M d al post pc ls (.int (o_I z) :: .int (o_I i) :: .ref b :: st) n h mc ms := by
  intro Z p e R s m args below meth c ad H locs cells slots MC MS la Q X E S P a1 a2 a3 a4 L K
  refine va_zast (D := Z.2.1) (cl := o_cl) (tys := o_tys Z) X.1 X.2.1 E.2.1 P.1 P.2 S b 1 (o_rW_get hb hh) (o_tys_get rfl) (o_in (o_inR hle h0 h1) h0 h1) hd (fun H1 locs1 hP hD hS => ?_)
  exact k9 Z p e R s m args below meth c ad H1 locs1 cells slots MC MS la Q X E hS (o_Rp.set (by rw [hn, o_clamp (o_inR hle h0 h1), o_uI]; rfl) e9 hP hD) a1 a2 a3 a4 L K
theorem o_cald {b len : Nat} {g : Nat → Int} {i : Int} (hd : decode M.2.1 pc = .ok (.caload, 1)) (hb : b < n) (hh : h b = .inl (2, len, .inl (fun j => o_I (g j)))) (hle : len ≤ 2147483647) (h0 : 0 ≤ i) (h1 : i < len) (k9 : o_V l M d al post (pc + 1) ls (.int (o_I (g i.toNat)) :: st) n h mc ms) : o_V l M d al post pc ls (.int (o_I i) :: .ref b :: st) n h mc ms := by
  intro Z p e R s m args below meth c ad H locs cells slots MC MS la Q X E S P a1 a2 a3 a4 L K
  have k8 := k9 Z p e R s m args below meth c ad H locs cells slots MC MS la Q X E S P a1 a2 a3 a4 L K
  rw [← o_clamp (o_inR hle h0 h1)] at k8
  exact va_cald (D := Z.2.1) (cl := o_cl) (tys := o_tys Z) X.1 X.2.1 E.2.1 P.1 b 2 (o_rW_get hb hh) (o_tys_get rfl) (o_in (o_inR hle h0 h1) h0 h1) hd k8
theorem o_cast {b len : Nat} {g : Nat → Int} {i z : Int} {h' : Nat → o_C} (hd : decode M.2.1 pc = .ok (.castore, 1)) (hb : b < n) (hh : h b = .inl (2, len, .inl (fun j => o_I (g j)))) (hle : len ≤ 2147483647) (h0 : 0 ≤ i) (h1 : i < len) (hn : vp_nar .char (o_I z) = o_I z) (e9 : o_up h b (.inl (2, len, .inl (fun j => o_I (o_u g i.toNat z j)))) = h') (k9 : o_V l M d al post (pc + 1) ls st n h' mc ms) : o_V l M d al post pc ls (.int (o_I z) :: .int (o_I i) :: .ref b :: st) n h mc ms := by
  intro Z p e R s m args below meth c ad H locs cells slots MC MS la Q X E S P a1 a2 a3 a4 L K
  refine va_cast (D := Z.2.1) (cl := o_cl) (tys := o_tys Z) X.1 X.2.1 E.2.1 P.1 P.2 S b 2 (o_rW_get hb hh) (o_tys_get rfl) (o_in (o_inR hle h0 h1) h0 h1) hd (fun H1 locs1 hP hD hS => ?_)
  exact k9 Z p e R s m args below meth c ad H1 locs1 cells slots MC MS la Q X E hS (o_Rp.set (by rw [hn, o_clamp (o_inR hle h0 h1), o_uI]; rfl) e9 hP hD) a1 a2 a3 a4 L K
theorem o_bald {b len : Nat} {g : Nat → Int} {i : Int} (hd : decode M.2.1 pc = .ok (.baload, 1)) (hb : b < n) (hh : h b = .inl (3, len, .inl (fun j => o_I (g j)))) (hle : len ≤ 2147483647) (h0 : 0 ≤ i) (h1 : i < len) (k9 : o_V l M d al post (pc + 1) ls (.int (o_I (g i.toNat)) :: st) n h mc ms) : o_V l M d al post pc ls (.int (o_I i) :: .ref b :: st) n h mc ms := by
  intro Z p e R s m args below meth c ad H locs cells slots MC MS la Q X E S P a1 a2 a3 a4 L K
  have k8 := k9 Z p e R s m args below meth c ad H locs cells slots MC MS la Q X E S P a1 a2 a3 a4 L K
  rw [← o_clamp (o_inR hle h0 h1)] at k8
  exact va_bald (D := Z.2.1) (cl := o_cl) (tys := o_tys Z) X.1 X.2.1 E.2.1 P.1 b 3 (o_rW_get hb hh) (o_tys_get rfl) (o_in (o_inR hle h0 h1) h0 h1) hd k8
theorem o_bast {b len : Nat} {g : Nat → Int} {i z : Int} {h' : Nat → o_C} (hd : decode M.2.1 pc = .ok (.bastore, 1)) (hb : b < n) (hh : h b = .inl (3, len, .inl (fun j => o_I (g j)))) (hle : len ≤ 2147483647) (h0 : 0 ≤ i) (h1 : i < len) (hn : vp_nar .byte (o_I z) = o_I z) (e9 : o_up h b (.inl (3, len, .inl (fun j => o_I (o_u g i.toNat z j)))) = h') (k9 : o_V l M d al post (pc + 1) ls st n h' mc ms) : o_V l M d al post pc ls (.int (o_I z) :: .int (o_I i) :: .ref b :: st) n h mc ms := by
  intro Z p e R s m args below meth c ad H locs cells slots MC MS la Q X E S P a1 a2 a3 a4 L K
  refine va_bast (D := Z.2.1) (cl := o_cl) (tys := o_tys Z) X.1 X.2.1 E.2.1 P.1 P.2 S b 3 (o_rW_get hb hh) (o_tys_get rfl) (o_in (o_inR hle h0 h1) h0 h1) hd (fun H1 locs1 hP hD hS => ?_)
  exact k9 Z p e R s m args below meth c ad H1 locs1 cells slots MC MS la Q X E hS (o_Rp.set (by rw [hn, o_clamp (o_inR hle h0 h1), o_uI]; rfl) e9 hP hD) a1 a2 a3 a4 L K
theorem o_lald {b len : Nat} {f : Nat → Int64} {i : Int} (hd : decode M.2.1 pc = .ok (.laload, 1)) (hb : b < n) (hh : h b = .inl (4, len, .inr (.inl f))) (hle : len ≤ 2147483647) (h0 : 0 ≤ i) (h1 : i < len) (k9 : o_V l M d al post (pc + 1) ls (.long (f i.toNat) :: st) n h mc ms) : o_V l M d al post pc ls (.int (o_I i) :: .ref b :: st) n h mc ms := by
  intro Z p e R s m args below meth c ad H locs cells slots MC MS la Q X E S P a1 a2 a3 a4 L K
  have k8 := k9 Z p e R s m args below meth c ad H locs cells slots MC MS la Q X E S P a1 a2 a3 a4 L K
  rw [← o_clamp (o_inR hle h0 h1)] at k8
  exact va_lald (D := Z.2.1) (cl := o_cl) (tys := o_tys Z) X.1 X.2.1 E.2.1 P.1 b 4 (o_rW_get hb hh) (o_tys_get rfl) (o_in (o_inR hle h0 h1) h0 h1) hd k8
theorem o_last {b len : Nat} {f : Nat → Int64} {i : Int} {z : Int64} {h' : Nat → o_C} (hd : decode M.2.1 pc = .ok (.lastore, 1)) (hb : b < n) (hh : h b = .inl (4, len, .inr (.inl f))) (hle : len ≤ 2147483647) (h0 : 0 ≤ i) (h1 : i < len) (e9 : o_up h b (.inl (4, len, .inr (.inl (vp_updL f i.toNat z)))) = h') (k9 : o_V l M d al post (pc + 1) ls st n h' mc ms) : o_V l M d al post pc ls (.long z :: .int (o_I i) :: .ref b :: st) n h mc ms := by
  intro Z p e R s m args below meth c ad H locs cells slots MC MS la Q X E S P a1 a2 a3 a4 L K
  refine va_last (D := Z.2.1) (cl := o_cl) (tys := o_tys Z) X.1 X.2.1 E.2.1 P.1 P.2 S b 4 (o_rW_get hb hh) (o_tys_get rfl) (o_in (o_inR hle h0 h1) h0 h1) hd (fun H1 locs1 hP hD hS => ?_)
  exact k9 Z p e R s m args below meth c ad H1 locs1 cells slots MC MS la Q X E hS (o_Rp.set (by rw [o_clamp (o_inR hle h0 h1)]; rfl) e9 hP hD) a1 a2 a3 a4 L K
theorem o_dald {b len : Nat} {f : Nat → UInt64} {i : Int} (hd : decode M.2.1 pc = .ok (.daload, 1)) (hb : b < n) (hh : h b = .inl (5, len, .inr (.inr (.inr (.inl f))))) (hle : len ≤ 2147483647) (h0 : 0 ≤ i) (h1 : i < len) (k9 : o_V l M d al post (pc + 1) ls (.double (f i.toNat) :: st) n h mc ms) : o_V l M d al post pc ls (.int (o_I i) :: .ref b :: st) n h mc ms := by
  intro Z p e R s m args below meth c ad H locs cells slots MC MS la Q X E S P a1 a2 a3 a4 L K
  have k8 := k9 Z p e R s m args below meth c ad H locs cells slots MC MS la Q X E S P a1 a2 a3 a4 L K
  rw [← o_clamp (o_inR hle h0 h1)] at k8
  exact va_dald (D := Z.2.1) (cl := o_cl) (tys := o_tys Z) X.1 X.2.1 E.2.1 P.1 b 5 (o_rW_get hb hh) (o_tys_get rfl) (o_in (o_inR hle h0 h1) h0 h1) hd k8
theorem o_dast {b len : Nat} {f : Nat → UInt64} {i : Int} {z : UInt64} {h' : Nat → o_C} (hd : decode M.2.1 pc = .ok (.dastore, 1)) (hb : b < n) (hh : h b = .inl (5, len, .inr (.inr (.inr (.inl f))))) (hle : len ≤ 2147483647) (h0 : 0 ≤ i) (h1 : i < len) (e9 : o_up h b (.inl (5, len, .inr (.inr (.inr (.inl (vf_upd f i.toNat z)))))) = h') (k9 : o_V l M d al post (pc + 1) ls st n h' mc ms) : o_V l M d al post pc ls (.double z :: .int (o_I i) :: .ref b :: st) n h mc ms := by
  intro Z p e R s m args below meth c ad H locs cells slots MC MS la Q X E S P a1 a2 a3 a4 L K
  refine va_dast (D := Z.2.1) (cl := o_cl) (tys := o_tys Z) X.1 X.2.1 E.2.1 P.1 P.2 S b 5 (o_rW_get hb hh) (o_tys_get rfl) (o_in (o_inR hle h0 h1) h0 h1) hd (fun H1 locs1 hP hD hS => ?_)
  exact k9 Z p e R s m args below meth c ad H1 locs1 cells slots MC MS la Q X E hS (o_Rp.set (by rw [o_clamp (o_inR hle h0 h1)]; rfl) e9 hP hD) a1 a2 a3 a4 L K
theorem o_aald {b len t r : Nat} {C : String} {f : Nat → Option Nat} {i : Int} (hd : decode M.2.1 pc = .ok (.aaload, 1)) (hb : b < n) (hh : h b = .inl (t, len, .inr (.inr (.inr (.inr f))))) (ht : o_tyL[t]? = some (.object C)) (hle : len ≤ 2147483647) (h0 : 0 ≤ i) (h1 : i < len) (hr : f i.toNat = some r) (k9 : o_V l M d al post (pc + 1) ls (.ref r :: st) n h mc ms) : o_V l M d al post pc ls (.int (o_I i) :: .ref b :: st) n h mc ms := by
  intro Z p e R s m args below meth c ad H locs cells slots MC MS la Q X E S P a1 a2 a3 a4 L K
  have k8 : W p l e R s m args below meth c H locs cells slots Q (F0 m (pc + 1) la (va_rf ((f (o_I i).toNatClampNeg).map ad) :: st.map (o_rV ad))) := by
    rw [o_clamp (o_inR hle h0 h1), hr]
    exact k9 Z p e R s m args below meth c ad H locs cells slots MC MS la Q X E S P a1 a2 a3 a4 L K
  exact va_aldq (D := Z.2.1) (cl := o_cl) (tys := o_tys Z) (f := fun j => (f j).map ad) X.1 X.2.1 E.2.1 P.1 b t (o_rW_get hb hh) (o_tys_get ht) (o_in (o_inR hle h0 h1) h0 h1) hd k8
theorem o_alen {b t : Nat} {x : vp_A} {ty : FieldType} (hd : decode M.2.1 pc = .ok (.arraylength, 1)) (hb : b < n) (hh : h b = .inl (t, x)) (ht : o_tyL[t]? = some ty) (k9 : o_V l M d al post (pc + 1) ls (.int (o_I x.1) :: st) n h mc ms) : o_V l M d al post pc ls (.ref b :: st) n h mc ms := by
  intro Z p e R s m args below meth c ad H locs cells slots MC MS la Q X E S P a1 a2 a3 a4 L K
  exact va_alen (D := Z.2.1) (cl := o_cl) (tys := o_tys Z) X.1 X.2.1 E.2.1 P.1 b t (o_rW_get hb hh) (o_tys_get ht) (v := o_I x.1) (o_nI x.1) hd (k9 Z p e R s m args below meth c ad H locs cells slots MC MS la Q X E S P a1 a2 a3 a4 L K)
theorem o_copyi {index a0 b len0 len1 : Nat} {f g : Nat → Int} {sp dp m0 : Int} {h' : Nat → o_C} (hd : decode M.2.1 pc = .ok (.invokestatic index, 3)) (hw : Cond.methodLink M.1 index arraycopyName ∈ o_gW) (hw1 : Cond.native arraycopyName ∈ o_gW) (hw2 : Cond.static arraycopyName ∈ o_gW) (hw3 : Cond.initialized "java/lang/System" ∈ o_gW) (ha0 : a0 < n) (hb : b < n) (hh0 : h a0 = .inl (0, len0, .inl (fun j => o_I (f j)))) (hh : h b = .inl (0, len1, .inl (fun j => o_I (g j)))) (hl0 : len0 ≤ 2147483647) (hl1 : len1 ≤ 2147483647) (h0 : 0 ≤ sp) (h1 : 0 ≤ dp) (h2 : 0 ≤ m0) (h3 : sp + m0 ≤ len0) (h4 : dp + m0 ≤ len1) (hcat : (st.map fun v => v.category).sum ≤ 20) (e9 : o_up h b (.inl (0, len1, .inl (fun j => o_I (va_cpy f g sp.toNat dp.toNat m0.toNat j)))) = h') (k9 : o_V l M d al post (pc + 3) ls st n h' mc ms) : o_V l M d al post pc ls (.int (o_I m0) :: .int (o_I dp) :: .ref b :: .int (o_I sp) :: .ref a0 :: st) n h mc ms := by
  intro Z p e R s m args below meth c ad H locs cells slots MC MS la Q X E S P a1 a2 a3 a4 L K
  have r1 : o_R sp := ⟨by omega, by omega⟩
  have r2 : o_R dp := ⟨by omega, by omega⟩
  have r3 : o_R m0 := ⟨by omega, by omega⟩
  have b1 : (o_I sp).toNatClampNeg + (o_I m0).toNatClampNeg ≤ len0 := by rw [o_clamp r1, o_clamp r3]; omega
  have b2 : (o_I dp).toNatClampNeg + (o_I m0).toNatClampNeg ≤ len1 := by rw [o_clamp r2, o_clamp r3]; omega
  have b3 : 1 ≤ R.frames := by have := X.2.2.2.2.2.2.2.2.2.1; omega
  have b5 : nativeFrameWords "java/lang/System" "arraycopy" 5 ≤ 60 := by decide +kernel
  have b4 : ((st.map (o_rV ad)).map fun v => v.category).sum + (nativeFrameWords "java/lang/System" "arraycopy" 5 + 11) ≤ R.locals := by
    have := X.2.2.2.2.2.2.2.2.2.2
    rw [o_cats]
    omega
  refine va_copyi (D := Z.2.1) (cl := o_cl) (tys := o_tys Z) X.1 X.2.1 (X.2.2.2.2.1.trans L.1.symm) X.2.2.1 (X.2.2.2.1 _ hw) (X.2.2.2.1 _ hw1) (X.2.2.2.1 _ hw2) (X.2.2.2.1 _ hw3) E.2.1 P.1 P.2 S a0 b 0 0 (o_rW_get ha0 hh0) (o_rW_get hb hh) (o_tys_get rfl) (o_tys_get rfl) rfl (fun q => by have := (o_lt r1 o_R0).mp q; omega) (fun q => by have := (o_lt r2 o_R0).mp q; omega) (fun q => by have := (o_lt r3 o_R0).mp q; omega) b1 b2 (fun _ _ => rfl) b3 b4 hd (fun H1 locs1 hP hD hS => ?_)
  exact k9 Z p e R s m args below meth c ad H1 locs1 cells slots MC MS la Q X E hS (o_Rp.set (by rw [o_clamp r1, o_clamp r2, o_clamp r3, o_cpI]; rfl) e9 hP hD) a1 a2 a3 a4 L K
theorem o_mmax {index : Nat} {a b : Int} (hd : decode M.2.1 pc = .ok (.invokestatic index, 3)) (hw : Cond.methodLink M.1 index Lib.Math.max.name ∈ o_gW) (hw1 : Cond.static Lib.Math.max.name ∈ o_gW) (hw2 : Cond.initialized "java/lang/Math" ∈ o_gW) (hw3 : Cond.code Lib.Math.max.name Lib.Math.max.code 2 (some .int) ∈ o_gW) (ha : o_R a) (hb : o_R b) (hcat : (st.map fun v => v.category).sum ≤ 20) (k9 : o_V l M d al post (pc + 3) ls (.int (o_I (max a b)) :: st) n h mc ms) : o_V l M d al post pc ls (.int (o_I b) :: .int (o_I a) :: st) n h mc ms := by
  intro Z p e R s m args below meth c ad H locs cells slots MC MS la Q X E S P a1 a2 a3 a4 L K
  have k8 := k9 Z p e R s m args below meth c ad H locs cells slots MC MS la Q X E S P a1 a2 a3 a4 L K
  rw [← o_mx ha hb] at k8
  exact va_mmax X.1 X.2.1 (X.2.2.2.2.1.trans L.1.symm) X.2.2.1 (X.2.2.2.1 _ hw) (X.2.2.2.1 _ hw1) (X.2.2.2.1 _ hw2) (X.2.2.2.1 _ hw3) (by have := X.2.2.2.2.2.2.2.2.2.1; omega) (by have := X.2.2.2.2.2.2.2.2.2.2; rw [o_cats]; omega) (by omega) (by omega) hd k8
theorem o_mmin {index : Nat} {a b : Int} (hd : decode M.2.1 pc = .ok (.invokestatic index, 3)) (hw : Cond.methodLink M.1 index Lib.Math.min.name ∈ o_gW) (hw1 : Cond.static Lib.Math.min.name ∈ o_gW) (hw2 : Cond.initialized "java/lang/Math" ∈ o_gW) (hw3 : Cond.code Lib.Math.min.name Lib.Math.min.code 2 (some .int) ∈ o_gW) (ha : o_R a) (hb : o_R b) (hcat : (st.map fun v => v.category).sum ≤ 20) (k9 : o_V l M d al post (pc + 3) ls (.int (o_I (min a b)) :: st) n h mc ms) : o_V l M d al post pc ls (.int (o_I b) :: .int (o_I a) :: st) n h mc ms := by
  intro Z p e R s m args below meth c ad H locs cells slots MC MS la Q X E S P a1 a2 a3 a4 L K
  have k8 := k9 Z p e R s m args below meth c ad H locs cells slots MC MS la Q X E S P a1 a2 a3 a4 L K
  rw [← o_mn ha hb] at k8
  exact va_mmin X.1 X.2.1 (X.2.2.2.2.1.trans L.1.symm) X.2.2.1 (X.2.2.2.1 _ hw) (X.2.2.2.1 _ hw1) (X.2.2.2.1 _ hw2) (X.2.2.2.1 _ hw3) (by have := X.2.2.2.2.2.2.2.2.2.1; omega) (by have := X.2.2.2.2.2.2.2.2.2.2; rw [o_cats]; omega) (by omega) (by omega) hd k8
theorem o_ret (v : Option Value) (hd : decode M.2.1 pc = .ok (o_ri M.2.2.2.1, 1)) (hk : o_rok M.2.2.2.1 v) (hp : post (.inl v) n h) : o_V l M d al post pc ls v.toList n h mc ms := by
  intro Z p e R s m args below meth c ad H locs cells slots MC MS la Q X E S P a1 a2 a3 a4 L K
  exact K.1 v n h ad H locs cells slots pc la hp o_ag.rf P S (by omega) (by omega) hd hk
theorem o_ret1 {v : Value} (hd : decode M.2.1 pc = .ok (o_ri M.2.2.2.1, 1)) (hk : o_rok M.2.2.2.1 (some v)) (hp : post (.inl (some v)) n h) : o_V l M d al post pc ls [v] n h mc ms := o_ret (some v) hd hk hp
theorem o_ret0 (hd : decode M.2.1 pc = .ok (o_ri M.2.2.2.1, 1)) (hk : o_rok M.2.2.2.1 none) (hp : post (.inl none) n h) : o_V l M d al post pc ls [] n h mc ms := o_ret none hd hk hp
end OH
end
section
/-! contracts, calls, throws -/
def o_rm (d mc ms : Nat) : Room := { frames := d + 8, cells := mc, slots := ms, locals := 40 * d + 160 }
def o_Pc (Z : o_Z) (ad : Nat → Nat) (av : List Value) (n : Nat) (h : Nat → o_C) : Array Value → State → Prop := va_Pc (av.map (o_rV ad)) (fun U => o_Ex Z ad U ∧ o_Rp Z ad n h U.heap)
def o_Qc (Z : o_Z) (ad : Nat → Nat) (al : Nat → Prop) (post : o_P) : Array Value → State → Outcome → State → Prop := fun _ st oc t =>
  (∃ (v : Option Value) (n' : Nat) (h' : Nat → o_C) (ad' : Nat → Nat), oc = .returned (v.map (o_rV ad')) ∧ post (.inl v) n' h' ∧ o_ag al ad ad' ∧ o_Rp Z ad' n' h' t.heap) ∧ va_F (o_A Z) st t
def o_XC (Z : o_Z) (ad : Nat → Nat) (al : Nat → Prop) (post : o_P) : String → State → State → Prop := fun E st t =>
  (∃ (n' : Nat) (h' : Nat → o_C) (ad' : Nat → Nat), post (.inr E) n' h' ∧ o_ag al ad ad' ∧ o_Rp Z ad' n' h' t.heap) ∧ va_F (o_A Z) st t
/-- the contract: called with av in the heap h, y ends as post says, with at most mc new cells of ms slots; d: how deep it calls -/
def o_Ct (l : Launch) (y : MethodName) (cw : Cond) (d : Nat) (al : Nat → Prop) (av : List Value) (n : Nat) (h : Nat → o_C) (mc ms : Nat) (post : o_P) : Prop :=
  ∀ (Z : o_Z) (ad : Nat → Nat), vx_Met l y (cw :: o_gW) (o_rm d mc ms) (o_Pc Z ad av n h) (o_Qc Z ad al post) (o_XC Z ad al post) mc ms (o_A Z)
theorem o_Pc.blind {Z : o_Z} {ad : Nat → Nat} {av : List Value} {n : Nat} {h : Nat → o_C} : FrameBlind (o_Pc Z ad av n h) := fun a U g mk q => ⟨q.1, q.2.1.vm (U := U.calling g mk a) rfl rfl, q.2.2⟩
theorem o_args (ad : Nat → Nat) (av : List Value) : ∀ i : Nat, lv_args i (av.map (o_rV ad)) = (lv_args i av).map (fun q => (q.1, o_rV ad q.2)) := by
  induction av with
  | nil => intro i; rfl
  | cons v av ih =>
    intro i
    simp only [List.map_cons, lv_args, o_cat, ih]
theorem o_argl (ad : Nat → Nat) (av : List Value) : (lg_sl (av.map (o_rV ad))).length = (lg_sl av).length := by
  induction av with
  | nil => rfl
  | cons v av ih =>
    simp only [lg_sl, List.map_cons, List.flatMap_cons, List.length_append, o_cat] at ih ⊢
    rw [ih]
    split <;> rfl
theorem o_Kof {l : Launch} {M : o_M} {Z : o_Z} {p : Program} {e : Env} {R : Room} {s : State} {m : MethodId} {args : Array Value} {below : List Frame} {meth : Method} {c : Code} {ad : Nat → Nat} {mc ms : Nat} {al : Nat → Prop} {post : o_P}
    (hx : p.tables.exec = Jvm.exec) (hb : c.code = M.2.1) (hr : meth.sig.returnType = M.2.2.2.1) (hlocks : meth.locks = false) (ht : c.exceptionTable.toList = tableOf M.2.2.2.2.1) :
    o_K l M Z p e R s m args below meth c ad mc ms (vx_MQ below (o_Qc Z ad al post) (o_XC Z ad al post) args s mc ms (o_A Z)) al post := by
  refine ⟨fun v n h ad' H locs cells slots pc la hp hag hR hS hc hs hd hk => ?_, fun E q ce n h ad' H locs cells slots pc la rest hp hag hR hS hc hs hM hce hcv hcl => ?_⟩
  · refine vx_ret (W.widen hc hs ?_)
    have hq : ∀ (w : Option Value), w = v.map (o_rV ad') → ∀ t : State, t.heap = H → s.WarmedH t.vm → o_Qc Z ad al post args s (.returned w) t := fun w hw t ht9 hW => ⟨⟨v, n, h, ad', by rw [hw], hp, hag, by rw [ht9]; exact hR⟩, hS.F ht9⟩
    cases hret : M.2.2.2.1 with
    | none =>
      rw [hret] at hk hd hr
      cases v with
      | some v => exact hk.elim
      | none => exact W.vret hx hb hr (hq none rfl) hS.2.2 hd hlocks
    | some ty =>
      rw [hret] at hk hd hr
      cases v with
      | none => cases ty <;> exact hk.elim
      | some v =>
        cases ty with
        | int => cases v <;> first | exact hk.elim | exact W.iret hx hb hr (hq _ rfl) hS.2.2 hd hlocks
        | boolean => cases v <;> first | exact hk.elim | exact W.zret hx hb hr hk (hq _ rfl) hS.2.2 hd hlocks
        | char => cases v <;> first | exact hk.elim | exact W.zret hx hb hr hk (hq _ rfl) hS.2.2 hd hlocks
        | byte => cases v <;> first | exact hk.elim | exact W.zret hx hb hr hk (hq _ rfl) hS.2.2 hd hlocks
        | short => cases v <;> exact hk.elim
        | long => cases v <;> first | exact hk.elim | exact W.lret hx hb hr (hq _ rfl) hS.2.2 hd hlocks
        | float => cases v <;> first | exact hk.elim | exact W.fret hx hb hr (hq _ rfl) hS.2.2 hd hlocks
        | double => cases v <;> first | exact hk.elim | exact W.dret hx hb hr (hq _ rfl) hS.2.2 hd hlocks
        | object nm =>
          have hv : o_rV ad' v = .null ∨ ∃ a, o_rV ad' v = .ref a := by
            rcases hk with rfl | ⟨a, rfl⟩
            · exact Or.inl rfl
            · exact Or.inr ⟨_, rfl⟩
          exact W.aret hx hb hr (Or.inl ⟨_, rfl⟩) hv (hq _ rfl) hS.2.2 hd hlocks
        | array t9 =>
          have hv : o_rV ad' v = .null ∨ ∃ a, o_rV ad' v = .ref a := by
            rcases hk with rfl | ⟨a, rfl⟩
            · exact Or.inl rfl
            · exact Or.inr ⟨_, rfl⟩
          exact W.aret hx hb hr (Or.inr ⟨_, rfl⟩) hv (hq _ rfl) hS.2.2 hd hlocks
  · refine vx_out (E := E) (ce := ce) (fun x hx9 => ?_) hlocks hce hcv hcl (fun t ht9 hW => ⟨⟨n, h, ad', hp, hag, by rw [ht9]; exact hR⟩, hS.F ht9⟩) hS.2.2 hc hs
    rw [ht, hM] at hx9
    exact absurd hx9 List.not_mem_nil
/-- a method's contract out of a walk of its body -/
theorem o_Ct.ofV {l : Launch} (hl : l.stackTraces = false) {y : MethodName} (M : o_M) {d mc ms n : Nat} {al : Nat → Prop} {av : List Value} {h : Nat → o_C} {post : o_P} (hy : plainName y.cls = true) (hM : M.1 = y.cls) (hnm : M.2.2.2.2.2 = y.name) (hT : M.2.2.2.2.1 = []) (hn : (lg_sl av).length ≤ M.2.2.1)
    (k : o_V l M d al post 0 (lv_args 0 av) [] n h mc ms) : o_Ct l y (.code y M.2.1 M.2.2.1 M.2.2.2.1) d al av n h mc ms post := by
  intro Z ad
  refine vx_ofW (cc := M.2.1) (maxL := M.2.2.1) (ret := M.2.2.2.1) hy rfl ?_
  intro p e s m args below meth c s₁ B hml ht hv
  obtain ⟨rfl, hE, hR⟩ := hv
  have htab : c.exceptionTable.toList = tableOf M.2.2.2.2.1 := by
    rw [hT]
    exact List.eq_nil_iff_forall_not_mem.mpr ht
  have hts := atoms_spec (ws := Cond.code y M.2.1 M.2.2.1 M.2.2.2.1 :: o_gW) B.pre
  have hl0 := lv_entry (av.map (o_rV ad)) (n := M.2.2.1) (by rw [o_argl]; exact hn)
  rw [lg_entry_eq]
  rw [o_args] at hl0
  exact k Z p e _ s m _ below meth c ad s.heap [] 0 0 mc ms _ _ ⟨B.exec, B.bytes, by rw [hM]; exact findClass_of_methodNamed B.named, fun w hw => hts w (List.mem_cons_of_mem _ hw), hml, B.returns, B.notSynchronized, ⟨htab, fun q => (name_of_methodNamed B.named B.method).1.trans (hnm.symm.trans q)⟩, hl, Nat.le_refl _, Nat.le_refl _⟩ hE va_S.rf hR (by omega) (by omega) (Nat.le_refl _) (Nat.le_refl _) hl0
    (o_Kof (l := l) B.exec B.bytes B.returns B.notSynchronized htab)
/-- .. of one with handlers -/
theorem o_Ct.ofVH {l : Launch} (hl : l.stackTraces = false) {y : MethodName} (M : o_M) {d mc ms n : Nat} {al : Nat → Prop} {av : List Value} {h : Nat → o_C} {post : o_P} (hy : plainName y.cls = true) (hM : M.1 = y.cls) (hnm : M.2.2.2.2.2 = y.name) (hn : (lg_sl av).length ≤ M.2.2.1)
    (k : o_V l M d al post 0 (lv_args 0 av) [] n h mc ms) : o_Ct l y (.codeWith y M.2.1 M.2.2.1 M.2.2.2.1 M.2.2.2.2.1) d al av n h mc ms post := by
  intro Z ad
  refine vx_ofWH (cc := M.2.1) (maxL := M.2.2.1) (ret := M.2.2.2.1) (hh := M.2.2.2.2.1) hy rfl ?_
  intro p e s m args below meth c s₁ B hml hv
  obtain ⟨rfl, hE, hR⟩ := hv
  have hts := atoms_spec (ws := Cond.codeWith y M.2.1 M.2.2.1 M.2.2.2.1 M.2.2.2.2.1 :: o_gW) B.pre
  have htab : c.exceptionTable.toList = tableOf M.2.2.2.2.1 := vx_table (x := y) B (hts _ List.mem_cons_self)
  have hl0 := lv_entry (av.map (o_rV ad)) (n := M.2.2.1) (by rw [o_argl]; exact hn)
  rw [lg_entry_eq]
  rw [o_args] at hl0
  exact k Z p e _ s m _ below meth c ad s.heap [] 0 0 mc ms _ _ ⟨B.exec, B.bytes, by rw [hM]; exact findClass_of_methodNamed B.named, fun w hw => hts w (List.mem_cons_of_mem _ hw), hml, B.returns, B.notSynchronized, ⟨htab, fun q => (name_of_methodNamed B.named B.method).1.trans (hnm.symm.trans q)⟩, hl, Nat.le_refl _, Nat.le_refl _⟩ hE va_S.rf hR (by omega) (by omega) (Nat.le_refl _) (Nat.le_refl _) hl0
    (o_Kof (l := l) B.exec B.bytes B.returns B.notSynchronized htab)
/-- weaker ends -/
theorem o_Ct.wk {l : Launch} {y : MethodName} {cw : Cond} {d mc ms n : Nat} {al : Nat → Prop} {av : List Value} {h : Nat → o_C} {post post' : o_P} (hC : o_Ct l y cw d al av n h mc ms post) (hw : ∀ o n' h', post o n' h' → post' o n' h') : o_Ct l y cw d al av n h mc ms post' := by
  intro Z ad p e h1 h2 h3 s m args below h4 h5 h6 h7
  obtain ⟨k, o, a1, a2, a3, a4⟩ := hC Z ad p e h1 h2 h3 s m args below h4 h5 h6 h7
  refine ⟨k, o, a1, a2, a3, ?_⟩
  rcases a4 with ⟨⟨⟨v, n', h', ad', b1, b2, b3⟩, b4⟩, b5⟩ | ⟨q, b1, E, ce, L, ⟨⟨n', h', ad', b2, b3⟩, b4⟩, b5⟩
  · exact Or.inl ⟨⟨⟨v, n', h', ad', b1, hw _ _ _ b2, b3⟩, b4⟩, b5⟩
  · exact Or.inr ⟨q, b1, E, ce, L, ⟨⟨n', h', ad', hw _ _ _ b2, b3⟩, b4⟩, b5⟩
end
section
/-! what a frame is owed where E was thrown over it -/
def o_T (l : Launch) (M : o_M) (d : Nat) (al : Nat → Prop) (post : o_P) (pc : Nat) (ls : List (Nat × Value)) (E : String) (n : Nat) (h : Nat → o_C) (mc ms : Nat) : Prop :=
  ∀ (Z : o_Z) (p : Program) (e : Env) (R : Room) (s : State) (m : MethodId) (args : Array Value) (below : List Frame) (meth : Method) (c : Code) (ad : Nat → Nat) (H : Heap) (locs : List Loc) (cells slots MC MS : Nat) (la : Array Slot) (Q : State → Prop) (q : Addr) (ce : Cell) (rest : List Value),
    o_X l M d p R s m args meth c → o_Ex Z ad s → va_S (o_A Z) s.heap H locs → o_Rp Z ad n h H → cells + mc ≤ MC → slots + ms ≤ MS → MC ≤ R.cells → MS ≤ R.slots → lv_has la M.2.2.1 (ls.map (fun q => (q.1, o_rV ad q.2))) →
    o_K l M Z p e R s m args below meth c ad MC MS Q al post → H[q]? = some ce → ce.vm = .none → s.vm.findClass E = some ce.cls →
    vx_W p l e R s m args below meth c H locs cells slots Q (F0 m pc la rest) q
theorem va_P.left {D : va_G} {cl : List vw_C} {w1 w2 : va_W} {H : Heap} (hP : va_P D cl (w1 ++ w2) H) : va_P D cl w1 H := fun k q hk => hP k q (by rw [List.getElem?_append_left (List.getElem?_eq_some_iff.mp hk).1]; exact hk)
theorem va_D.left {A : Nat → Prop} {w1 w2 : va_W} (hD : va_D A (w1 ++ w2)) : va_D A w1 :=
  ⟨fun i j p q hi hj e => hD.1 i j p q (by rw [List.getElem?_append_left (List.getElem?_eq_some_iff.mp hi).1]; exact hi) (by rw [List.getElem?_append_left (List.getElem?_eq_some_iff.mp hj).1]; exact hj) e,
    fun k q hk => hD.2 k q (by rw [List.getElem?_append_left (List.getElem?_eq_some_iff.mp hk).1]; exact hk)⟩
section OC
variable {l : Launch} {M : o_M} {d : Nat} {al : Nat → Prop} {post : o_P} {pc : Nat} {ls : List (Nat × Value)} {st : List Value} {n : Nat} {h : Nat → o_C} {mc ms : Nat}
/-- not caught here -/
theorem o_T.out {E : String} (hT : M.2.2.2.2.1 = []) (hp : post (.inr E) n h) : o_T l M d al post pc ls E n h mc ms := by
  intro Z p e R s m args below meth c ad H locs cells slots MC MS la Q q ce rest X E' S P a1 a2 a3 a4 L K hce hcv hcl
  exact K.2 E q ce n h ad H locs cells slots pc la rest hp o_ag.rf P S (by omega) (by omega) hT hce hcv hcl
/-- behind a call -/
theorem o_back {dy mcy msy : Nat} {aly : Nat → Prop} {posty : o_P} {Z : o_Z} {p : Program} {e : Env} {R : Room} {s : State} {m : MethodId} {args : Array Value} {below : List Frame} {meth : Method} {c : Code} {ad : Nat → Nat} {H : Heap} {locs : List Loc} {cells slots MC MS : Nat} {la : Array Slot} {Q : State → Prop} {a : Array Value} {rest st0 : List Value}
    (X : o_X l M d p R s m args meth c) (E : o_Ex Z ad s) (S : va_S (o_A Z) s.heap H locs) (a1 : cells + mc ≤ MC) (a2 : slots + ms ≤ MS) (a3 : MC ≤ R.cells) (a4 : MS ≤ R.slots) (L : lv_has la M.2.2.1 (ls.map (fun q => (q.1, o_rV ad q.2)))) (K : o_K l M Z p e R s m args below meth c ad MC MS Q al post)
    (hm : mcy ≤ mc) (hs : msy ≤ ms) (hal : ∀ k, aly k → al k) (hal9 : ∀ k, aly k → k < 1000000) (hfr : (∀ k, ¬ aly k) ∨ ((∀ q ∈ ls, ∀ k, q.2 = .ref k → ¬ aly k) ∧ ∀ v ∈ rest, ∀ k, v = .ref k → ¬ aly k))
    (hr : vx_Run p l e R s m args below meth c H locs cells slots mcy msy (F0 m pc la st0) (rest.map (o_rV ad)) (o_Qc Z ad aly posty a) (o_XC Z ad aly posty) (o_A Z))
    (k : ∀ v n' h', posty (.inl v) n' h' → o_V l M d al post (pc + 3) ls (v.toList ++ rest) n' h' (mc - mcy) (ms - msy))
    (kx : ∀ E n' h', posty (.inr E) n' h' → o_T l M d al post pc ls E n' h' (mc - mcy) (ms - msy)) :
    W p l e R s m args below meth c H locs cells slots Q (F0 m pc la st0) := by
  have nr : ∀ (ad' : Nat → Nat) (v : Value), o_ag aly ad ad' → (∀ k, v = .ref k → ¬ aly k) → o_rV ad' v = o_rV ad v := by
    intro ad' v hag hv
    cases v with
    | ref k => exact congrArg Value.ref (hag k (hv k rfl))
    | _ => rfl
  have nrl : ∀ (ad' : Nat → Nat), o_ag aly ad ad' → ls.map (fun q => (q.1, o_rV ad' q.2)) = ls.map (fun q => (q.1, o_rV ad q.2)) ∧ rest.map (o_rV ad') = rest.map (o_rV ad) := by
    intro ad' hag
    rcases hfr with hf | ⟨hf1, hf2⟩
    · have : ad' = ad := funext fun k => hag k (hf k)
      rw [this]
      exact ⟨rfl, rfl⟩
    · exact ⟨List.map_congr_left fun q hq => by rw [nr ad' q.2 hag (hf1 q hq)], List.map_congr_left fun v hv => nr ad' v hag (hf2 v hv)⟩
  have Kt : ∀ ad' : Nat → Nat, o_ag aly ad ad' → o_K l M Z p e R s m args below meth c ad' MC MS Q al post := fun ad' hag =>
    ⟨fun v n1 h1 ad1 H1 locs1 c1 s1 pc1 la1 q1 q2 => K.1 v n1 h1 ad1 H1 locs1 c1 s1 pc1 la1 q1 (o_ag.tr (bl := al) (fun k hk => hag k (fun z => hk (hal k z))) q2 (fun _ z => z)),
      fun E1 q9 ce n1 h1 ad1 H1 locs1 c1 s1 pc1 la1 rest1 q1 q2 => K.2 E1 q9 ce n1 h1 ad1 H1 locs1 c1 s1 pc1 la1 rest1 q1 (o_ag.tr (bl := al) (fun k hk => hag k (fun z => hk (hal k z))) q2 (fun _ z => z))⟩
  have Et : ∀ ad' : Nat → Nat, o_ag aly ad ad' → o_Ex Z ad' s := fun ad' hag => E.ad (fun k hk => hag k (fun z => by have := hal9 k z; omega))
  intro T hT X9
  rcases hr T hT X9 with ⟨v, st₀, t, T', Lc, hh0, X', hL, e1, e2, ⟨⟨v', n', h', ad', hv, hp, hag, hRp⟩, hF⟩, sg⟩ | ⟨q, st₀, t, T', Lc, E9, ce, hh0, X', hL, e1, e2, ⟨⟨n', h', ad', hp, hag, hRp⟩, hF⟩, hce, hcv, hcl, sg⟩
  · obtain ⟨k1, k2, k3⟩ := vx_keep (A0 := o_A Z) (A1 := o_A Z) (free := o_A Z) hh0 e1 S (fun _ _ z => z) (fun _ z => z) hL hF
    obtain ⟨w1, w2⟩ := nrl ad' hag
    have hv' : v = v'.map (o_rV ad') := by injection hv
    have k9 := k v' n' h' hp Z p e R s m args below meth c ad' T'.heap (locs ++ Lc) (cells + mcy) (slots + msy) MC MS la Q X (Et ad' hag) k3 (by rw [e1]; exact hRp) (by omega) (by omega) a3 a4 (by rw [w1]; exact L) (Kt ad' hag)
    rw [List.map_append, w2, show v'.toList.map (o_rV ad') = v.toList by rw [hv']; cases v' <;> rfl] at k9
    obtain ⟨t2, b1, b2⟩ := k9 T' rfl X'
    exact ⟨t2, sg t2 b1, b2⟩
  · obtain ⟨k1, k2, k3⟩ := vx_keep (A0 := o_A Z) (A1 := o_A Z) (free := o_A Z) hh0 e1 S (fun _ _ z => z) (fun _ z => z) hL hF
    obtain ⟨w1, w2⟩ := nrl ad' hag
    have k9 := kx E9 n' h' hp Z p e R s m args below meth c ad' T'.heap (locs ++ Lc) (cells + mcy) (slots + msy) MC MS la Q q ce (rest.map (o_rV ad)) X (Et ad' hag) k3 (by rw [e1]; exact hRp) (by omega) (by omega) a3 a4 (by rw [w1]; exact L) (Kt ad' hag) (by rw [e1]; exact hce) hcv hcl
    obtain ⟨t2, b1, b2⟩ := k9 T' rfl X'
    exact ⟨t2, sg.trans b1, b2⟩
/-- the callee's start -/
theorem o_preS {Z : o_Z} {ad : Nat → Nat} {s : State} {H : Heap} {locs : List Loc} {As : List Value} (E : o_Ex Z ad s) (S : va_S (o_A Z) s.heap H locs) (P : o_Rp Z ad n h H) : PreS s H (o_Pc Z ad As n h) (As.map (o_rV ad)) :=
  ⟨o_Pc.blind, fun U hU hW => ⟨rfl, E.mv (by rw [hU]; exact S.1) (fun a h1 h2 => by rw [hU]; exact S.2.1 a h1 h2) hW, by rw [hU]; exact P⟩⟩
/-- the words of a method that is called by its name -/
def o_yw (y : MethodName) (cw : Cond) : Prop := Cond.instanceMethod y ∈ o_gW ∧ Cond.selects y.cls y y ∈ o_gW ∧ Cond.initialized y.cls ∈ o_gW ∧ cw ∈ o_gW
def o_ys (y : MethodName) (cw : Cond) : Prop := Cond.static y ∈ o_gW ∧ Cond.initialized y.cls ∈ o_gW ∧ cw ∈ o_gW
def o_yi (y : MethodName) (cw : Cond) : Prop := Cond.instanceMethod y ∈ o_gW ∧ Cond.initialized y.cls ∈ o_gW ∧ cw ∈ o_gW
def o_yd (y : MethodName) (k : Nat) : Bool := decide (y.cls ≠ "java/lang/invoke/MethodHandle") && decide (y.cls ≠ "java/lang/invoke/VarHandle") && ((parseMethodDescriptor y.desc).map (fun d => d.parameters.length) == some k)
theorem o_yd_of {y : MethodName} {k : Nat} (h : o_yd y k = true) : y.cls ≠ "java/lang/invoke/MethodHandle" ∧ y.cls ≠ "java/lang/invoke/VarHandle" ∧ (parseMethodDescriptor y.desc).map (fun d => d.parameters.length) = some k := by
  simp only [o_yd, Bool.and_eq_true, decide_eq_true_eq, beq_iff_eq] at h
  exact ⟨h.1.1, h.1.2, h.2⟩
theorem o_callV {y : MethodName} {yb : ByteArray} {yL dy mcy msy index b ci N : Nat} {yr : Option FieldType} {aly : Nat → Prop} {posty : o_P} {T : u_T} {fs : List Value} (As : List Value) {rest : List Value}
    (hC : o_Ct l y (.code y yb yL yr) dy aly (.ref b :: As) n h mcy msy posty) (hd : decode M.2.1 pc = .ok (.invokevirtual index, 3)) (hw : Cond.methodLink M.1 index y ∈ o_gW) (hyw : o_yw y (.code y yb yL yr)) (hyd : o_yd y As.length = true) (hyL : yL ≤ 21)
    (hdy : dy < d) (hm : mcy ≤ mc) (hs : msy ≤ ms) (hb : b < n) (hh : h b = .inr (ci, fs)) (hc : o_cl[ci]? = some (y.cls, T, N)) (hst : st = As.reverse ++ .ref b :: rest) (hcat : (rest.map fun v => v.category).sum ≤ 8)
    (hal : ∀ k, aly k → al k) (hal9 : ∀ k, aly k → k < 1000000) (hfr : (∀ k, ¬ aly k) ∨ ((∀ q ∈ ls, ∀ k, q.2 = .ref k → ¬ aly k) ∧ ∀ v ∈ rest, ∀ k, v = .ref k → ¬ aly k))
    (k : ∀ v n' h', posty (.inl v) n' h' → o_V l M d al post (pc + 3) ls (v.toList ++ rest) n' h' (mc - mcy) (ms - msy))
    (kx : ∀ E n' h', posty (.inr E) n' h' → o_T l M d al post pc ls E n' h' (mc - mcy) (ms - msy)) : o_V l M d al post pc ls st n h mc ms := by
  intro Z p e R s m args below meth c ad H locs cells slots MC MS la Q X E S P a1 a2 a3 a4 L K
  obtain ⟨hx, hbb, hown, hts, hml, hr, hlk, htab, hst9, hfr9, hlo9⟩ := id X
  have hf1 : (o_rm dy mcy msy).frames + 1 ≤ R.frames := by show dy + 8 + 1 ≤ _; omega
  have hf2 : 8 + (yL + 11) + (o_rm dy mcy msy).locals ≤ R.locals := by show 8 + (yL + 11) + (40 * dy + 160) ≤ _; omega
  have cb : CallB R s args M.1 index y yb yL yr (.code y yb yL yr :: o_gW) (o_rm dy mcy msy) mcy msy As.length := callB_of (ws' := o_gW) As.length hts (o_gCode hyw.2.2.2) rfl rfl rfl (hts _ hyw.2.2.1) (hts _ hw) (o_yd_of hyd) ⟨hf1, hf2⟩
  have hrun := vx_runV (l := l) (e := e) (below := below) (meth := meth) (locs := locs) (cells := cells) (slots := slots) (H := H) (b := ad b) (As := As.map (o_rV ad)) (rest := rest.map (o_rV ad)) (C := y.cls) (Ts := o_gW) (nL := M.2.2.1) ⟨hx, hbb, hml, hown, hts⟩ (hC Z ad) ⟨cb, hts _ hyw.1, hts _ hyw.2.1⟩
    ⟨o_Pc.blind, va_recv (q0 := b) (ci := ci) E.2.1 P.1 hc (o_rW_get hb hh), (o_preS (As := .ref b :: As) E S P).2⟩ (g := F0 m pc la (st.map (o_rV ad))) rfl (by rw [List.length_map]) L.1 (by rw [hst]; simp [o_rV]) (by have := lv_room (m := m) (pc := pc) (ls := la) (rest := st.map (o_rV ad)) (st := rest.map (o_rV ad)) (by rw [o_cats]; exact hcat); exact this) hd ⟨by omega, by omega⟩
  exact o_back (dy := dy) X E S a1 a2 a3 a4 L K hm hs hal hal9 hfr hrun k kx
theorem o_callS {y : MethodName} {yb : ByteArray} {yL dy mcy msy index : Nat} {yr : Option FieldType} {aly : Nat → Prop} {posty : o_P} (As : List Value) {rest : List Value}
    (hC : o_Ct l y (.code y yb yL yr) dy aly As n h mcy msy posty) (hd : decode M.2.1 pc = .ok (.invokestatic index, 3)) (hw : Cond.methodLink M.1 index y ∈ o_gW) (hyw : o_ys y (.code y yb yL yr)) (hyd : o_yd y As.length = true) (hyL : yL ≤ 21)
    (hdy : dy < d) (hm : mcy ≤ mc) (hs : msy ≤ ms) (hst : st = As.reverse ++ rest) (hcat : (rest.map fun v => v.category).sum ≤ 8)
    (hal : ∀ k, aly k → al k) (hal9 : ∀ k, aly k → k < 1000000) (hfr : (∀ k, ¬ aly k) ∨ ((∀ q ∈ ls, ∀ k, q.2 = .ref k → ¬ aly k) ∧ ∀ v ∈ rest, ∀ k, v = .ref k → ¬ aly k))
    (k : ∀ v n' h', posty (.inl v) n' h' → o_V l M d al post (pc + 3) ls (v.toList ++ rest) n' h' (mc - mcy) (ms - msy))
    (kx : ∀ E n' h', posty (.inr E) n' h' → o_T l M d al post pc ls E n' h' (mc - mcy) (ms - msy)) : o_V l M d al post pc ls st n h mc ms := by
  intro Z p e R s m args below meth c ad H locs cells slots MC MS la Q X E S P a1 a2 a3 a4 L K
  obtain ⟨hx, hbb, hown, hts, hml, hr, hlk, htab, hst9, hfr9, hlo9⟩ := id X
  have hf1 : (o_rm dy mcy msy).frames + 1 ≤ R.frames := by show dy + 8 + 1 ≤ _; omega
  have hf2 : 8 + (yL + 11) + (o_rm dy mcy msy).locals ≤ R.locals := by show 8 + (yL + 11) + (40 * dy + 160) ≤ _; omega
  have cb : CallB R s args M.1 index y yb yL yr (.code y yb yL yr :: o_gW) (o_rm dy mcy msy) mcy msy As.length := callB_of (ws' := o_gW) As.length hts (o_gCode hyw.2.2) rfl rfl rfl (hts _ hyw.2.1) (hts _ hw) (o_yd_of hyd) ⟨hf1, hf2⟩
  have hrun := vx_runS (l := l) (e := e) (below := below) (meth := meth) (locs := locs) (cells := cells) (slots := slots) (H := H) (As := As.map (o_rV ad)) (rest := rest.map (o_rV ad)) (Ts := o_gW) (nL := M.2.2.1) ⟨hx, hbb, hml, hown, hts⟩ (hC Z ad) ⟨cb, hts _ hyw.1⟩
    (o_preS E S P) (g := F0 m pc la (st.map (o_rV ad))) rfl (by rw [List.length_map]) L.1 (by rw [hst]; simp) (by have := lv_room (m := m) (pc := pc) (ls := la) (rest := st.map (o_rV ad)) (st := rest.map (o_rV ad)) (by rw [o_cats]; exact hcat); exact this) hd ⟨by omega, by omega⟩
  exact o_back (dy := dy) X E S a1 a2 a3 a4 L K hm hs hal hal9 hfr hrun k kx
end OC
/-! the usual ends: an answer and a heap; an exception and a heap -/
def o_no : Nat → Prop := fun _ => False
def o_is (v : Option Value) (n : Nat) (h : Nat → o_C) : o_P := fun o n' h' => o = .inl v ∧ n' = n ∧ h' = h
def o_thr (E : String) (n : Nat) (h : Nat → o_C) : o_P := fun o n' h' => o = .inr E ∧ n' = n ∧ h' = h
section OC2
variable {l : Launch} {M : o_M} {d : Nat} {al : Nat → Prop} {post : o_P} {pc : Nat} {ls : List (Nat × Value)} {st : List Value} {n : Nat} {h : Nat → o_C} {mc ms : Nat}
/-- a call that answers v, makes nothing -/
theorem o_cV {y : MethodName} {yb : ByteArray} {yL dy index b ci N : Nat} {yr : Option FieldType} {T : u_T} {fs : List Value} (As : List Value) {rest : List Value} {v : Option Value} {h' : Nat → o_C}
    (hC : o_Ct l y (.code y yb yL yr) dy o_no (.ref b :: As) n h 0 0 (o_is v n h')) (hd : decode M.2.1 pc = .ok (.invokevirtual index, 3)) (hw : Cond.methodLink M.1 index y ∈ o_gW) (hyw : o_yw y (.code y yb yL yr)) (hyd : o_yd y As.length = true) (hyL : yL ≤ 21)
    (hdy : dy < d) (hb : b < n) (hh : h b = .inr (ci, fs)) (hc : o_cl[ci]? = some (y.cls, T, N)) (hst : st = As.reverse ++ .ref b :: rest) (hcat : (rest.map fun v => v.category).sum ≤ 8)
    (k : o_V l M d al post (pc + 3) ls (v.toList ++ rest) n h' mc ms) : o_V l M d al post pc ls st n h mc ms :=
  o_callV As hC hd hw hyw hyd hyL hdy (Nat.zero_le _) (Nat.zero_le _) hb hh hc hst hcat (fun _ z => z.elim) (fun _ z => z.elim) (Or.inl fun _ z => z) (fun v' n' h9 q => by obtain ⟨q1, rfl, rfl⟩ := q; cases q1; exact k) (fun E n' h9 q => by cases q.1)
theorem o_cS {y : MethodName} {yb : ByteArray} {yL dy index : Nat} {yr : Option FieldType} (As : List Value) {rest : List Value} {v : Option Value} {h' : Nat → o_C}
    (hC : o_Ct l y (.code y yb yL yr) dy o_no As n h 0 0 (o_is v n h')) (hd : decode M.2.1 pc = .ok (.invokestatic index, 3)) (hw : Cond.methodLink M.1 index y ∈ o_gW) (hyw : o_ys y (.code y yb yL yr)) (hyd : o_yd y As.length = true) (hyL : yL ≤ 21)
    (hdy : dy < d) (hst : st = As.reverse ++ rest) (hcat : (rest.map fun v => v.category).sum ≤ 8)
    (k : o_V l M d al post (pc + 3) ls (v.toList ++ rest) n h' mc ms) : o_V l M d al post pc ls st n h mc ms :=
  o_callS As hC hd hw hyw hyd hyL hdy (Nat.zero_le _) (Nat.zero_le _) hst hcat (fun _ z => z.elim) (fun _ z => z.elim) (Or.inl fun _ z => z) (fun v' n' h9 q => by obtain ⟨q1, rfl, rfl⟩ := q; cases q1; exact k) (fun E n' h9 q => by cases q.1)
/-- a call that throws E -/
theorem o_cVx {y : MethodName} {yb : ByteArray} {yL dy mcy msy index b ci N : Nat} {yr : Option FieldType} {T : u_T} {fs : List Value} (As : List Value) {rest : List Value} {E : String} {h' : Nat → o_C}
    (hC : o_Ct l y (.code y yb yL yr) dy o_no (.ref b :: As) n h mcy msy (o_thr E n h')) (hd : decode M.2.1 pc = .ok (.invokevirtual index, 3)) (hw : Cond.methodLink M.1 index y ∈ o_gW) (hyw : o_yw y (.code y yb yL yr)) (hyd : o_yd y As.length = true) (hyL : yL ≤ 21)
    (hdy : dy < d) (hm : mcy ≤ mc) (hs : msy ≤ ms) (hb : b < n) (hh : h b = .inr (ci, fs)) (hc : o_cl[ci]? = some (y.cls, T, N)) (hst : st = As.reverse ++ .ref b :: rest) (hcat : (rest.map fun v => v.category).sum ≤ 8)
    (k : o_T l M d al post pc ls E n h' (mc - mcy) (ms - msy)) : o_V l M d al post pc ls st n h mc ms :=
  o_callV As hC hd hw hyw hyd hyL hdy hm hs hb hh hc hst hcat (fun _ z => z.elim) (fun _ z => z.elim) (Or.inl fun _ z => z) (fun v' n' h9 q => by cases q.1) (fun E n' h9 q => by obtain ⟨q1, rfl, rfl⟩ := q; cases q1; exact k)
theorem o_cSx {y : MethodName} {yb : ByteArray} {yL dy mcy msy index : Nat} {yr : Option FieldType} (As : List Value) {rest : List Value} {E : String} {h' : Nat → o_C}
    (hC : o_Ct l y (.code y yb yL yr) dy o_no As n h mcy msy (o_thr E n h')) (hd : decode M.2.1 pc = .ok (.invokestatic index, 3)) (hw : Cond.methodLink M.1 index y ∈ o_gW) (hyw : o_ys y (.code y yb yL yr)) (hyd : o_yd y As.length = true) (hyL : yL ≤ 21)
    (hdy : dy < d) (hm : mcy ≤ mc) (hs : msy ≤ ms) (hst : st = As.reverse ++ rest) (hcat : (rest.map fun v => v.category).sum ≤ 8)
    (k : o_T l M d al post pc ls E n h' (mc - mcy) (ms - msy)) : o_V l M d al post pc ls st n h mc ms :=
  o_callS As hC hd hw hyw hyd hyL hdy hm hs hst hcat (fun _ z => z.elim) (fun _ z => z.elim) (Or.inl fun _ z => z) (fun v' n' h9 q => by cases q.1) (fun E n' h9 q => by obtain ⟨q1, rfl, rfl⟩ := q; cases q1; exact k)
/-- 'throw new E("text")' -/
theorem o_throw {cls text : String} {names : List String} {ik is ic ci sn : Nat} (hd0 : decode M.2.1 pc = .ok (.new ik, 3)) (hd3 : decode M.2.1 (pc + 3) = .ok (.dup, 1)) (hd4 : decode M.2.1 (pc + 4) = .ok (.ldc is, 2)) (hd6 : decode M.2.1 (pc + 6) = .ok (.invokespecial ic, 3)) (hd9 : decode M.2.1 (pc + 9) = .ok (.athrow, 1))
    (hcls : Bundle.fit cls = true) (hnames : ∀ n ∈ names, Bundle.fit n = true) (hnl : names.length ≤ 3) (hk : Cond.classLink M.1 ik cls ∈ o_gW) (hini : Cond.initialized cls ∈ o_gW) (hex : cls ∈ o_exs) (hat : ∀ w ∈ vx_atS M.1 ic cls names, w = .castable cls cls ∨ (∃ y ∈ o_dcl, w = .declares y) ∨ w ∈ o_gW) (hgood : ∀ w ∈ Cond.classLink M.1 ik cls :: Cond.initialized cls :: vx_atS M.1 ic cls names, vx_ot w = true)
    (hs9 : (M.1, is, text, sn) ∈ o_str) (hc : o_cl[ci]? = some (cls, o_T0, 0)) (hT : M.2.2.2.2.1 = []) (hmc : 1 ≤ mc) (hms : 6 ≤ ms) (hcat : (st.map fun v => v.category).sum ≤ 8) (hp : post (.inr cls) n h) : o_V l M d al post pc ls st n h mc ms := by
  intro Z p e R s m args below meth c ad H locs cells slots MC MS la Q X E S P a1 a2 a3 a4 L K
  obtain ⟨hx, hbb, hown, hts, hml, hr, hlk, htab, hst9, hfr9, hlo9⟩ := id X
  obtain ⟨e1, e2, ⟨e3, e4, e34, e35, e36⟩, e5, ⟨⟨e6, e7, e67⟩, e68⟩, e8⟩ := id E
  have hatb : ∀ w ∈ vx_atS M.1 ic cls names, w.before args s = true := fun w hw => (hat w hw).elim (fun q => by rw [q]; exact (e34 _ hex).use rfl) (fun q => q.elim (fun ⟨y, hy, q⟩ => by rw [q]; exact (e36 y hy).use rfl) (fun q => hts _ q))
  have h11 : names.length + 3 < R.frames := by omega
  have h12 : ((st.map (o_rV ad)).map fun v => v.category).sum + (13 * (names.length + 1) + 43) ≤ R.locals := by rw [o_cats]; omega
  refine vx_makeS (D := Z.2.1) (cl := o_cl) (tys := o_tys Z) (ws := o_rW ad Z.2.2.1 n h) (A := o_A Z) (T0 := o_T0) (ci := ci) hx hbb hst9 hown hcls hnames (hts _ hk) (hts _ hini) (e5 _ hs9) hatb hgood e6 e7 S (L.1.trans hml.symm) hd0 hd3 hd4 hd6 e2 P.1 P.2 (fun q hq => Nat.le_trans e1 hq) hc h11 h12 (by omega) (by omega) (fun q H1 hP hD hS => ?_)
  refine vx_athrow hx hbb hd9 ?_
  have hcell := hP n (q, .inr (ci, [])) (by simp [o_rW])
  obtain ⟨r, hr9, cell, g1, g2, g3, -⟩ := hcell
  cases Option.some.inj (hr9.symm.trans hc)
  exact K.2 cls q cell n h ad H1 locs (cells + 1) (slots + 6) (pc + 9) la (st.map (o_rV ad)) hp o_ag.rf ⟨hP.left, hD.left⟩ hS (by omega) (by omega) hT g1 g3 (by rw [g2]; exact (e2.1 ci _ hc).2.1)
end OC2
end
